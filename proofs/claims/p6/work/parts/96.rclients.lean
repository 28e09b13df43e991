set_option maxHeartbeats 4000000 in
set_option maxRecDepth 100000 in
theorem r_M_isParts_agentNames (l : Launch) (D : mD) (E : mE) (h : Nat) (q : Nat → Nat) (sz : Nat) (I : Nat → Int32) (J : Nat → Int64) (B : Nat → Nat → Int32) (G : Nat → Nat → Int64) (a1 : Int) (l_a1 : (-1) ≤ a1) (u_a1 : a1 ≤ 30000) (a2 : Int) (l_a2 : (-1) ≤ a2) (u_a2 : a2 ≤ 30000) (a4 : Int) (l_a4 : 0 ≤ a4) (u_a4 : a4 ≤ 120) (a5 : Int) (l_a5 : 0 ≤ a5) (u_a5 : a5 ≤ 33) (hT : rT I B) (f_P1 : pG1 I) (f_P2 : pG2 (B 37) (B 38)) (q0 : 0 ≤ a1 ∨ a2 < a1 + 2) (q1 : a2 - a1 ≤ 4200) : Met l y_M_isParts (k_M_isParts :: lw_tg) (mR 44 2014) (va_Pc [.ref h, .int (iI a1), .int (iI a2), .ref (q 92), .int (iI a4), .int (iI a5)] (mPre D E h q (I, J, B, G) sz)) (va_Qi (rPi [39, 40, 42] [0, 37, 38] I B (fun (z : Int) (u : mS) => 0 ≤ z ∧ z ≤ 1 ∧ (z = 0 ∨ (NP (B 0) a1 a2 → a2 - npI (B 0) a1 a2 ≤ 200)) ∧ pG1 u.1 ∧ pG2 (u.2.2.1 37) (u.2.2.1 38) ∧ thF [11] (B 37) (B 38) (u.2.2.1 37) (u.2.2.1 38) ∧ mmF 30000 60000 (B 0) (u.2.2.1 0))) (mPost D E h q (mA E h q sz)) (mA E h q sz)) 0 0 (mA E h q sz) := by
  refine m_enter (by decide) rfl (Nat.le_of_ble_eq_true rfl) (fun p e s m below meth c ls AV QQ H locs hQQ X Y hZ hA hr hlk hml hl => ?_)
  have Y : mH D E (mA E h q sz) s.heap h q I J B G H locs := Y
  have S : rS [39, 40, 42] [0, 37, 38] I B I B := rS_rf hT
  have hl : lv_has ls 8 [(0, .ref h), (1, .int (iI a1)), (2, .int (iI a2)), (3, .ref ((q 92))), (4, .int (iI a4)), (5, .int (iI a5))] := hl
  refine lv_aload_n X.1 X.2.1 d_M_isParts_0 rfl (lv_at hl 0 rfl) ?_
  refine lv_iload_n X.1 X.2.1 d_M_isParts_1 rfl (lv_at hl 1 rfl) ?_
  refine lv_iload_n X.1 X.2.1 d_M_isParts_2 rfl (lv_at hl 2 rfl) ?_
  refine r_ni (m_run (As := [.int (iI a1), .int (iI a2)]) (rest := []) (n := 2) X Y hZ hA hml hl.1 (r_M_partsAt l D E h q H.size I J B G a1 (by omega) (by omega) a2 (by omega) (by omega) S.1 f_P1 f_P2 (by omega) (by omega)) kl_M_partsAt ks_M_partsAt kx_M_partsAt ki_M_partsAt ini_M hd_M_partsAt ⟨Nat.le_of_ble_eq_true rfl, Nat.le_of_ble_eq_true rfl⟩ rfl (Nat.le_of_ble_eq_true rfl) d_M_isParts_3 ⟨Nat.le_refl _, Nat.le_refl _⟩) X Y hA S (by decide) (by decide) (fun z101 u H locs Y S s101 p101 => ?_)
  obtain ⟨I101, J101, B101, G101⟩ := u
  dsimp only at Y S s101 p101
  obtain ⟨l101, u101, x101, st101, g101_P1, g101_P2, g101_TF⟩ := p101
  refine lv_istore (lv' := [(6, .int (iI z101)), (0, .ref h), (1, .int (iI a1)), (2, .int (iI a2)), (3, .ref ((q 92))), (4, .int (iI a4)), (5, .int (iI a5))]) X.1 X.2.1 d_M_isParts_6 hl (by decide) rfl (fun ls hl => ?_)
  refine lv_aload_n X.1 X.2.1 d_M_isParts_8 rfl (lv_at hl 1 rfl) ?_
  refine lv_bipush (v := iI 11) X.1 X.2.1 d_M_isParts_9 (by decide) ?_
  refine lv_iconst (v := iI 1) X.1 X.2.1 d_M_isParts_11 (by decide) ?_
  refine r_ni (m_run (As := [.int (iI 11), .int (iI 1)]) (rest := []) (n := 2) X Y hZ hA hml hl.1 (r_M_b l D E h q H.size I101 J101 B101 G101 11 (by decide) (by decide) 1 (by decide) (by decide) S.1) kl_M_b ks_M_b kx_M_b ki_M_b ini_M hd_M_b ⟨Nat.le_of_ble_eq_true rfl, Nat.le_of_ble_eq_true rfl⟩ rfl (Nat.le_of_ble_eq_true rfl) d_M_isParts_12 ⟨Nat.le_refl _, Nat.le_refl _⟩) X Y hA S (by decide) (by decide) (fun z102 u H locs Y S s102 p102 => ?_)
  obtain ⟨I102, J102, B102, G102⟩ := u
  dsimp only at Y S s102 p102
  have i102 : I101 = I102 := (funext (fun j => s102.2.1 j (by simp))).symm
  subst i102
  have b102 : B101 = B102 := (funext (fun j => s102.2.2 j (by simp))).symm
  subst b102
  obtain ⟨l102, u102, x102⟩ := p102
  have p103 : pr z101 z102 := by rw [x101, x102]; exact (pG2_cg rfl rfl g101_P2) (16 * 11 + 1 : Int).toNat (by omega)
  unfold pr at p103
  refine lv_istore (lv' := [(7, .int (iI z102)), (6, .int (iI z101)), (0, .ref h), (1, .int (iI a1)), (2, .int (iI a2)), (3, .ref ((q 92))), (4, .int (iI a4)), (5, .int (iI a5))]) X.1 X.2.1 d_M_isParts_15 hl (by decide) rfl (fun ls hl => ?_)
  refine lv_aload_n X.1 X.2.1 d_M_isParts_17 rfl (lv_at hl 2 rfl) ?_
  refine r_nv (m_run (As := []) (rest := []) (n := 0) X Y hZ hA hml hl.1 (r_M_start l D E h q H.size I101 J102 B101 G102 S.1) kl_M_start ks_M_start kx_M_start ki_M_start ini_M hd_M_start ⟨Nat.le_of_ble_eq_true rfl, Nat.le_of_ble_eq_true rfl⟩ rfl (Nat.le_of_ble_eq_true rfl) d_M_isParts_18 ⟨Nat.le_refl _, Nat.le_refl _⟩) X Y hA S (by decide) (by decide) (fun u H locs Y S s104 p104 => ?_)
  obtain ⟨I104, J104, B104, G104⟩ := u
  dsimp only at Y S s104 p104
  have b104 : B101 = B104 := (funext (fun j => s104.2.2 j (by simp))).symm
  subst b104
  have x104 := p104
  refine lv_aload_n X.1 X.2.1 d_M_isParts_21 rfl (lv_at hl 2 rfl) ?_
  refine lv_aload_n X.1 X.2.1 d_M_isParts_22 rfl (lv_at hl 5 rfl) ?_
  refine lv_iload X.1 X.2.1 d_M_isParts_23 (lv_at hl 6 rfl) ?_
  refine lv_iload X.1 X.2.1 d_M_isParts_25 (lv_at hl 7 rfl) ?_
  refine r_nv (m_run (As := [.ref ((q 92)), .int (iI a4), .int (iI a5)]) (rest := []) (n := 3) X Y hZ hA hml hl.1 (r_M_putParts_agentNames l D E h q H.size I104 J104 B101 G104 a4 (by omega) (by omega) a5 (by omega) (by omega) S.1 60000 (x104.trans (congrArg iI (show (60000 : Int) = 60000 by omega))) (by omega) (by omega)) kl_M_putParts ks_M_putParts kx_M_putParts ki_M_putParts ini_M hd_M_putParts ⟨Nat.le_of_ble_eq_true rfl, Nat.le_of_ble_eq_true rfl⟩ rfl (Nat.le_of_ble_eq_true rfl) d_M_isParts_27 ⟨Nat.le_refl _, Nat.le_refl _⟩) X Y hA S (by decide) (by decide) (fun u H locs Y S s105 p105 => ?_)
  obtain ⟨I105, J105, B105, G105⟩ := u
  dsimp only at Y S s105 p105
  obtain ⟨x105, g105_MF⟩ := p105
  obtain ⟨z106, e106, l106, u106⟩ := x105
  refine lv_aload_n X.1 X.2.1 d_M_isParts_30 rfl (lv_at hl 2 rfl) ?_
  refine lv_bipush (v := iI 48) X.1 X.2.1 d_M_isParts_31 (by decide) ?_
  refine lv_ldc (v := (60000)) X.1 X.2.1 X.2.2.2.1 (X.2.2.1 _ cn_M_9) d_M_isParts_33 ?_
  refine t_eq (y := iI 60000) (by decide) ?_
  refine r_nv (m_run (As := [.int (iI 48), .int (iI 60000)]) (rest := []) (n := 2) X Y hZ hA hml hl.1 (r_M_head l D E h q H.size I105 J105 B105 G105 48 (by decide) (by decide) 60000 (by decide) (by decide) S.1 z106 e106 (by omega) (by omega)) kl_M_head ks_M_head kx_M_head ki_M_head ini_M hd_M_head ⟨Nat.le_of_ble_eq_true rfl, Nat.le_of_ble_eq_true rfl⟩ rfl (Nat.le_of_ble_eq_true rfl) d_M_isParts_35 ⟨Nat.le_refl _, Nat.le_refl _⟩) X Y hA S (by decide) (by decide) (fun u H locs Y S s107 p107 => ?_)
  obtain ⟨I107, J107, B107, G107⟩ := u
  dsimp only at Y S s107 p107
  obtain ⟨x107, g107_MF⟩ := p107
  obtain ⟨z108, e108, l108, u108⟩ := x107
  refine lv_aload_n X.1 X.2.1 d_M_isParts_38 rfl (lv_at hl 2 rfl) ?_
  refine lv_iload X.1 X.2.1 d_M_isParts_39 (lv_at hl 1 rfl) ?_
  refine lv_iload X.1 X.2.1 d_M_isParts_41 (lv_at hl 0 rfl) ?_
  refine lv_aload_n X.1 X.2.1 d_M_isParts_43 rfl (lv_at hl 2 rfl) ?_
  refine r_get0 X Y (by decide) lk_w0 (gf_w0 _ _ _) rfl e108 d_M_isParts_44 ?_
  refine lv_ldc (v := (60000)) X.1 X.2.1 X.2.2.2.1 (X.2.2.1 _ cn_M_9) d_M_isParts_47 ?_
  refine t_eq (y := iI 60000) (by decide) ?_
  refine r_ni (m_run (As := [.int (iI z101), .int (iI z102), .int (iI z108), .int (iI 60000)]) (rest := []) (n := 4) X Y hZ hA hml hl.1 (r_M_isSame l D E h q H.size I107 J107 B107 G107 z101 (by omega) (by omega) z102 (by omega) (by omega) z108 (by omega) (by omega) 60000 (by decide) (by decide) S.1 (by omega) (by omega)) kl_M_isSame ks_M_isSame kx_M_isSame ki_M_isSame ini_M hd_M_isSame ⟨Nat.le_of_ble_eq_true rfl, Nat.le_of_ble_eq_true rfl⟩ rfl (Nat.le_of_ble_eq_true rfl) d_M_isParts_49 ⟨Nat.le_refl _, Nat.le_refl _⟩) X Y hA S (by decide) (by decide) (fun z109 u H locs Y S s109 p109 => ?_)
  obtain ⟨I109, J109, B109, G109⟩ := u
  dsimp only at Y S s109 p109
  have i109 : I107 = I109 := (funext (fun j => s109.2.1 j (by simp))).symm
  subst i109
  have b109 : B107 = B109 := (funext (fun j => s109.2.2 j (by simp))).symm
  subst b109
  obtain ⟨l109, u109, x109⟩ := p109
  exact m_retz hQQ X Y hr hlk (iI_bool (by omega) (by omega)).1 ⟨S, z109, rfl, ⟨by omega, by omega, by rcases x109 with e | e; (exact .inl e); (refine .inr (fun h9 => ?_); have k1 := st101 h9; omega), (pG1_cg rfl rfl (pG1_cg (s107.2.1 39 (by decide)) (s107.2.1 40 (by decide)) (pG1_cg (s105.2.1 39 (by decide)) (s105.2.1 40 (by decide)) (pG1_cg (s104.2.1 39 (by decide)) (s104.2.1 40 (by decide)) (pG1_cg rfl rfl g101_P1))))), (pG2_cg rfl rfl (pG2_cg (s107.2.2 37 (by decide)) (s107.2.2 38 (by decide)) (pG2_cg (s105.2.2 37 (by decide)) (s105.2.2 38 (by decide)) (pG2_cg rfl rfl (pG2_cg rfl rfl g101_P2))))), (thF_cg rfl rfl (thF_cg (s107.2.2 37 (by decide)) (s107.2.2 38 (by decide)) (thF_cg (s105.2.2 37 (by decide)) (s105.2.2 38 (by decide)) (thF_cg rfl rfl (thF_cg rfl rfl (thF_tr thF_rf g101_TF (by decide))))))), (mmF_cg rfl (mmF_tr (mmF_tr (mmF_cg rfl (mmF_cg rfl (mmF_cg (s101.2.2 0 (by decide)) mmF_rf))) g105_MF (by decide)) g107_MF (by decide)))⟩⟩ d_M_isParts_52
set_option maxHeartbeats 4000000 in
set_option maxRecDepth 100000 in
theorem r_M_isParts_askedNames (l : Launch) (D : mD) (E : mE) (h : Nat) (q : Nat → Nat) (sz : Nat) (I : Nat → Int32) (J : Nat → Int64) (B : Nat → Nat → Int32) (G : Nat → Nat → Int64) (a1 : Int) (l_a1 : (-1) ≤ a1) (u_a1 : a1 ≤ 30000) (a2 : Int) (l_a2 : (-1) ≤ a2) (u_a2 : a2 ≤ 30000) (a4 : Int) (l_a4 : 0 ≤ a4) (u_a4 : a4 ≤ 120) (a5 : Int) (l_a5 : 0 ≤ a5) (u_a5 : a5 ≤ 33) (hT : rT I B) (f_P1 : pG1 I) (f_P2 : pG2 (B 37) (B 38)) (q0 : 0 ≤ a1 ∨ a2 < a1 + 2) (q1 : a2 - a1 ≤ 4200) : Met l y_M_isParts (k_M_isParts :: lw_tg) (mR 44 2014) (va_Pc [.ref h, .int (iI a1), .int (iI a2), .ref (q 117), .int (iI a4), .int (iI a5)] (mPre D E h q (I, J, B, G) sz)) (va_Qi (rPi [39, 40, 42] [0, 37, 38] I B (fun (z : Int) (u : mS) => 0 ≤ z ∧ z ≤ 1 ∧ (z = 0 ∨ (NP (B 0) a1 a2 → a2 - npI (B 0) a1 a2 ≤ 200)) ∧ pG1 u.1 ∧ pG2 (u.2.2.1 37) (u.2.2.1 38) ∧ thF [11] (B 37) (B 38) (u.2.2.1 37) (u.2.2.1 38) ∧ mmF 30000 60000 (B 0) (u.2.2.1 0))) (mPost D E h q (mA E h q sz)) (mA E h q sz)) 0 0 (mA E h q sz) := by
  refine m_enter (by decide) rfl (Nat.le_of_ble_eq_true rfl) (fun p e s m below meth c ls AV QQ H locs hQQ X Y hZ hA hr hlk hml hl => ?_)
  have Y : mH D E (mA E h q sz) s.heap h q I J B G H locs := Y
  have S : rS [39, 40, 42] [0, 37, 38] I B I B := rS_rf hT
  have hl : lv_has ls 8 [(0, .ref h), (1, .int (iI a1)), (2, .int (iI a2)), (3, .ref ((q 117))), (4, .int (iI a4)), (5, .int (iI a5))] := hl
  refine lv_aload_n X.1 X.2.1 d_M_isParts_0 rfl (lv_at hl 0 rfl) ?_
  refine lv_iload_n X.1 X.2.1 d_M_isParts_1 rfl (lv_at hl 1 rfl) ?_
  refine lv_iload_n X.1 X.2.1 d_M_isParts_2 rfl (lv_at hl 2 rfl) ?_
  refine r_ni (m_run (As := [.int (iI a1), .int (iI a2)]) (rest := []) (n := 2) X Y hZ hA hml hl.1 (r_M_partsAt l D E h q H.size I J B G a1 (by omega) (by omega) a2 (by omega) (by omega) S.1 f_P1 f_P2 (by omega) (by omega)) kl_M_partsAt ks_M_partsAt kx_M_partsAt ki_M_partsAt ini_M hd_M_partsAt ⟨Nat.le_of_ble_eq_true rfl, Nat.le_of_ble_eq_true rfl⟩ rfl (Nat.le_of_ble_eq_true rfl) d_M_isParts_3 ⟨Nat.le_refl _, Nat.le_refl _⟩) X Y hA S (by decide) (by decide) (fun z101 u H locs Y S s101 p101 => ?_)
  obtain ⟨I101, J101, B101, G101⟩ := u
  dsimp only at Y S s101 p101
  obtain ⟨l101, u101, x101, st101, g101_P1, g101_P2, g101_TF⟩ := p101
  refine lv_istore (lv' := [(6, .int (iI z101)), (0, .ref h), (1, .int (iI a1)), (2, .int (iI a2)), (3, .ref ((q 117))), (4, .int (iI a4)), (5, .int (iI a5))]) X.1 X.2.1 d_M_isParts_6 hl (by decide) rfl (fun ls hl => ?_)
  refine lv_aload_n X.1 X.2.1 d_M_isParts_8 rfl (lv_at hl 1 rfl) ?_
  refine lv_bipush (v := iI 11) X.1 X.2.1 d_M_isParts_9 (by decide) ?_
  refine lv_iconst (v := iI 1) X.1 X.2.1 d_M_isParts_11 (by decide) ?_
  refine r_ni (m_run (As := [.int (iI 11), .int (iI 1)]) (rest := []) (n := 2) X Y hZ hA hml hl.1 (r_M_b l D E h q H.size I101 J101 B101 G101 11 (by decide) (by decide) 1 (by decide) (by decide) S.1) kl_M_b ks_M_b kx_M_b ki_M_b ini_M hd_M_b ⟨Nat.le_of_ble_eq_true rfl, Nat.le_of_ble_eq_true rfl⟩ rfl (Nat.le_of_ble_eq_true rfl) d_M_isParts_12 ⟨Nat.le_refl _, Nat.le_refl _⟩) X Y hA S (by decide) (by decide) (fun z102 u H locs Y S s102 p102 => ?_)
  obtain ⟨I102, J102, B102, G102⟩ := u
  dsimp only at Y S s102 p102
  have i102 : I101 = I102 := (funext (fun j => s102.2.1 j (by simp))).symm
  subst i102
  have b102 : B101 = B102 := (funext (fun j => s102.2.2 j (by simp))).symm
  subst b102
  obtain ⟨l102, u102, x102⟩ := p102
  have p103 : pr z101 z102 := by rw [x101, x102]; exact (pG2_cg rfl rfl g101_P2) (16 * 11 + 1 : Int).toNat (by omega)
  unfold pr at p103
  refine lv_istore (lv' := [(7, .int (iI z102)), (6, .int (iI z101)), (0, .ref h), (1, .int (iI a1)), (2, .int (iI a2)), (3, .ref ((q 117))), (4, .int (iI a4)), (5, .int (iI a5))]) X.1 X.2.1 d_M_isParts_15 hl (by decide) rfl (fun ls hl => ?_)
  refine lv_aload_n X.1 X.2.1 d_M_isParts_17 rfl (lv_at hl 2 rfl) ?_
  refine r_nv (m_run (As := []) (rest := []) (n := 0) X Y hZ hA hml hl.1 (r_M_start l D E h q H.size I101 J102 B101 G102 S.1) kl_M_start ks_M_start kx_M_start ki_M_start ini_M hd_M_start ⟨Nat.le_of_ble_eq_true rfl, Nat.le_of_ble_eq_true rfl⟩ rfl (Nat.le_of_ble_eq_true rfl) d_M_isParts_18 ⟨Nat.le_refl _, Nat.le_refl _⟩) X Y hA S (by decide) (by decide) (fun u H locs Y S s104 p104 => ?_)
  obtain ⟨I104, J104, B104, G104⟩ := u
  dsimp only at Y S s104 p104
  have b104 : B101 = B104 := (funext (fun j => s104.2.2 j (by simp))).symm
  subst b104
  have x104 := p104
  refine lv_aload_n X.1 X.2.1 d_M_isParts_21 rfl (lv_at hl 2 rfl) ?_
  refine lv_aload_n X.1 X.2.1 d_M_isParts_22 rfl (lv_at hl 5 rfl) ?_
  refine lv_iload X.1 X.2.1 d_M_isParts_23 (lv_at hl 6 rfl) ?_
  refine lv_iload X.1 X.2.1 d_M_isParts_25 (lv_at hl 7 rfl) ?_
  refine r_nv (m_run (As := [.ref ((q 117)), .int (iI a4), .int (iI a5)]) (rest := []) (n := 3) X Y hZ hA hml hl.1 (r_M_putParts_askedNames l D E h q H.size I104 J104 B101 G104 a4 (by omega) (by omega) a5 (by omega) (by omega) S.1 60000 (x104.trans (congrArg iI (show (60000 : Int) = 60000 by omega))) (by omega) (by omega)) kl_M_putParts ks_M_putParts kx_M_putParts ki_M_putParts ini_M hd_M_putParts ⟨Nat.le_of_ble_eq_true rfl, Nat.le_of_ble_eq_true rfl⟩ rfl (Nat.le_of_ble_eq_true rfl) d_M_isParts_27 ⟨Nat.le_refl _, Nat.le_refl _⟩) X Y hA S (by decide) (by decide) (fun u H locs Y S s105 p105 => ?_)
  obtain ⟨I105, J105, B105, G105⟩ := u
  dsimp only at Y S s105 p105
  obtain ⟨x105, g105_MF⟩ := p105
  obtain ⟨z106, e106, l106, u106⟩ := x105
  refine lv_aload_n X.1 X.2.1 d_M_isParts_30 rfl (lv_at hl 2 rfl) ?_
  refine lv_bipush (v := iI 48) X.1 X.2.1 d_M_isParts_31 (by decide) ?_
  refine lv_ldc (v := (60000)) X.1 X.2.1 X.2.2.2.1 (X.2.2.1 _ cn_M_9) d_M_isParts_33 ?_
  refine t_eq (y := iI 60000) (by decide) ?_
  refine r_nv (m_run (As := [.int (iI 48), .int (iI 60000)]) (rest := []) (n := 2) X Y hZ hA hml hl.1 (r_M_head l D E h q H.size I105 J105 B105 G105 48 (by decide) (by decide) 60000 (by decide) (by decide) S.1 z106 e106 (by omega) (by omega)) kl_M_head ks_M_head kx_M_head ki_M_head ini_M hd_M_head ⟨Nat.le_of_ble_eq_true rfl, Nat.le_of_ble_eq_true rfl⟩ rfl (Nat.le_of_ble_eq_true rfl) d_M_isParts_35 ⟨Nat.le_refl _, Nat.le_refl _⟩) X Y hA S (by decide) (by decide) (fun u H locs Y S s107 p107 => ?_)
  obtain ⟨I107, J107, B107, G107⟩ := u
  dsimp only at Y S s107 p107
  obtain ⟨x107, g107_MF⟩ := p107
  obtain ⟨z108, e108, l108, u108⟩ := x107
  refine lv_aload_n X.1 X.2.1 d_M_isParts_38 rfl (lv_at hl 2 rfl) ?_
  refine lv_iload X.1 X.2.1 d_M_isParts_39 (lv_at hl 1 rfl) ?_
  refine lv_iload X.1 X.2.1 d_M_isParts_41 (lv_at hl 0 rfl) ?_
  refine lv_aload_n X.1 X.2.1 d_M_isParts_43 rfl (lv_at hl 2 rfl) ?_
  refine r_get0 X Y (by decide) lk_w0 (gf_w0 _ _ _) rfl e108 d_M_isParts_44 ?_
  refine lv_ldc (v := (60000)) X.1 X.2.1 X.2.2.2.1 (X.2.2.1 _ cn_M_9) d_M_isParts_47 ?_
  refine t_eq (y := iI 60000) (by decide) ?_
  refine r_ni (m_run (As := [.int (iI z101), .int (iI z102), .int (iI z108), .int (iI 60000)]) (rest := []) (n := 4) X Y hZ hA hml hl.1 (r_M_isSame l D E h q H.size I107 J107 B107 G107 z101 (by omega) (by omega) z102 (by omega) (by omega) z108 (by omega) (by omega) 60000 (by decide) (by decide) S.1 (by omega) (by omega)) kl_M_isSame ks_M_isSame kx_M_isSame ki_M_isSame ini_M hd_M_isSame ⟨Nat.le_of_ble_eq_true rfl, Nat.le_of_ble_eq_true rfl⟩ rfl (Nat.le_of_ble_eq_true rfl) d_M_isParts_49 ⟨Nat.le_refl _, Nat.le_refl _⟩) X Y hA S (by decide) (by decide) (fun z109 u H locs Y S s109 p109 => ?_)
  obtain ⟨I109, J109, B109, G109⟩ := u
  dsimp only at Y S s109 p109
  have i109 : I107 = I109 := (funext (fun j => s109.2.1 j (by simp))).symm
  subst i109
  have b109 : B107 = B109 := (funext (fun j => s109.2.2 j (by simp))).symm
  subst b109
  obtain ⟨l109, u109, x109⟩ := p109
  exact m_retz hQQ X Y hr hlk (iI_bool (by omega) (by omega)).1 ⟨S, z109, rfl, ⟨by omega, by omega, by rcases x109 with e | e; (exact .inl e); (refine .inr (fun h9 => ?_); have k1 := st101 h9; omega), (pG1_cg rfl rfl (pG1_cg (s107.2.1 39 (by decide)) (s107.2.1 40 (by decide)) (pG1_cg (s105.2.1 39 (by decide)) (s105.2.1 40 (by decide)) (pG1_cg (s104.2.1 39 (by decide)) (s104.2.1 40 (by decide)) (pG1_cg rfl rfl g101_P1))))), (pG2_cg rfl rfl (pG2_cg (s107.2.2 37 (by decide)) (s107.2.2 38 (by decide)) (pG2_cg (s105.2.2 37 (by decide)) (s105.2.2 38 (by decide)) (pG2_cg rfl rfl (pG2_cg rfl rfl g101_P2))))), (thF_cg rfl rfl (thF_cg (s107.2.2 37 (by decide)) (s107.2.2 38 (by decide)) (thF_cg (s105.2.2 37 (by decide)) (s105.2.2 38 (by decide)) (thF_cg rfl rfl (thF_cg rfl rfl (thF_tr thF_rf g101_TF (by decide))))))), (mmF_cg rfl (mmF_tr (mmF_tr (mmF_cg rfl (mmF_cg rfl (mmF_cg (s101.2.2 0 (by decide)) mmF_rf))) g105_MF (by decide)) g107_MF (by decide)))⟩⟩ d_M_isParts_52
set_option maxHeartbeats 4000000 in
set_option maxRecDepth 100000 in
theorem r_M_drop (l : Launch) (D : mD) (E : mE) (h : Nat) (q : Nat → Nat) (sz : Nat) (I : Nat → Int32) (J : Nat → Int64) (B : Nat → Nat → Int32) (G : Nat → Nat → Int64) (a1 : Int) (l_a1 : (-2147483648) ≤ a1) (u_a1 : a1 ≤ 2147483647) (a2 : Int) (l_a2 : (-2147483648) ≤ a2) (u_a2 : a2 ≤ 2147483647) (hT : rT I B) (f_FT : stT (B 97) (B 98) (B 100) (B 107) (B 108) (B 109)) : Met l y_M_drop (k_M_drop :: lw_tg) (mR 3 103) (va_Pc [.ref h, .int (iI a1), .int (iI a2)] (mPre D E h q (I, J, B, G) sz)) (va_Qi (rPi [] [97] I B (fun (z : Int) (u : mS) => 0 ≤ z ∧ z ≤ 1 ∧ stT (u.2.2.1 97) (u.2.2.1 98) (u.2.2.1 100) (u.2.2.1 107) (u.2.2.1 108) (u.2.2.1 109))) (mPost D E h q (mA E h q sz)) (mA E h q sz)) 0 0 (mA E h q sz) := by
  refine m_enter (by decide) rfl (Nat.le_of_ble_eq_true rfl) (fun p e s m below meth c ls AV QQ H locs hQQ X Y hZ hA hr hlk hml hl => ?_)
  have Y : mH D E (mA E h q sz) s.heap h q I J B G H locs := Y
  have S : rS [] [97] I B I B := rS_rf hT
  have hl : lv_has ls 3 [(0, .ref h), (1, .int (iI a1)), (2, .int (iI a2))] := hl
  refine lv_aload_n X.1 X.2.1 d_M_drop_0 rfl (lv_at hl 0 rfl) ?_
  refine lv_iload_n X.1 X.2.1 d_M_drop_1 rfl (lv_at hl 1 rfl) ?_
  refine lv_iload_n X.1 X.2.1 d_M_drop_2 rfl (lv_at hl 2 rfl) ?_
  refine r_ni (m_run (As := [.int (iI a1), .int (iI a2)]) (rest := []) (n := 2) X Y hZ hA hml hl.1 (r_M_hasTicket l D E h q H.size I J B G a1 (by omega) (by omega) a2 (by omega) (by omega) S.1) kl_M_hasTicket ks_M_hasTicket kx_M_hasTicket ki_M_hasTicket ini_M hd_M_hasTicket ⟨Nat.le_of_ble_eq_true rfl, Nat.le_of_ble_eq_true rfl⟩ rfl (Nat.le_of_ble_eq_true rfl) d_M_drop_3 ⟨Nat.le_refl _, Nat.le_refl _⟩) X Y hA S (by decide) (by decide) (fun z101 u H locs Y S s101 p101 => ?_)
  obtain ⟨I101, J101, B101, G101⟩ := u
  dsimp only at Y S s101 p101
  have i101 : I = I101 := (funext (fun j => s101.2.1 j (by simp))).symm
  subst i101
  have b101 : B = B101 := (funext (fun j => s101.2.2 j (by simp))).symm
  subst b101
  obtain ⟨l101, u101, x101, st101⟩ := p101
  refine z_if_ne (tgt := 11) X.1 X.2.1 d_M_drop_6 (by decide) ⟨by omega, by omega⟩ (fun h102 => ?_) (fun h102 => ?_)
  · refine lv_aload_n X.1 X.2.1 d_M_drop_11 rfl (lv_at hl 0 rfl) ?_
    refine m_get X Y 97 (by decide) lk_isTicket (gf_isTicket _ _ _) rfl d_M_drop_12 ?_
    refine lv_bipush (v := iI 8) X.1 X.2.1 d_M_drop_15 (by decide) ?_
    refine lv_iload_n X.1 X.2.1 d_M_drop_17 rfl (lv_at hl 1 rfl) ?_
    refine z_imul X.1 X.2.1 d_M_drop_18 ?_
    refine lv_iload_n X.1 X.2.1 d_M_drop_19 rfl (lv_at hl 2 rfl) ?_
    refine z_iadd X.1 X.2.1 d_M_drop_20 ?_
    refine lv_iconst (v := iI 0) X.1 X.2.1 d_M_drop_21 (by decide) ?_
    refine r_zast X Y S (aw_isTicket _ _ _ _ _ _ _) (sw_isTicket _ _ _ _ _ _ _) rfl ⟨by omega, by omega⟩ (by omega) (show (8 * a1) + a2 < ((32 : Nat) : Int) by omega) (by omega) (by decide) d_M_drop_22 (fun B103 H locs Y S w103 => ?_)
    have f104 : stT (B103 97) (B103 98) (B103 100) (B103 107) (B103 108) (B103 109) := by rw [w103.1, w103.2 98 (by decide), w103.2 100 (by decide), w103.2 107 (by decide), w103.2 108 (by decide), w103.2 109 (by decide)]; exact stT_off (by decide) (stT_cg rfl rfl rfl rfl rfl rfl f_FT)
    refine lv_iconst (v := iI 1) X.1 X.2.1 d_M_drop_23 (by decide) ?_
    exact m_retz hQQ X Y hr hlk (iI_bool (by omega) (by omega)).1 ⟨S, 1, rfl, ⟨by omega, by omega, f104⟩⟩ d_M_drop_24
  · refine lv_iconst (v := iI 0) X.1 X.2.1 d_M_drop_9 (by decide) ?_
    exact m_retz hQQ X Y hr hlk (iI_bool (by omega) (by omega)).1 ⟨S, 0, rfl, ⟨by omega, by omega, (stT_cg rfl rfl rfl rfl rfl rfl f_FT)⟩⟩ d_M_drop_10
set_option maxHeartbeats 4000000 in
set_option maxRecDepth 100000 in
theorem r_M_agent (l : Launch) (D : mD) (E : mE) (h : Nat) (q : Nat → Nat) (sz : Nat) (I : Nat → Int32) (J : Nat → Int64) (B : Nat → Nat → Int32) (G : Nat → Nat → Int64) (a1 : Int) (l_a1 : (-2147483648) ≤ a1) (u_a1 : a1 ≤ 2147483647) (a2 : Int) (l_a2 : (-2147483648) ≤ a2) (u_a2 : a2 ≤ 2147483647) (hT : rT I B) (f_FT : stT (B 97) (B 98) (B 100) (B 107) (B 108) (B 109)) (f_FA : stA (B 110) (B 118) (B 119) (B 120)) : Met l y_M_agent (k_M_agent :: lw_tg) (mR 7 208) (va_Pc [.ref h, .int (iI a1), .int (iI a2)] (mPre D E h q (I, J, B, G) sz)) (va_Qi (rPi [2, 8, 14, 18, 29, 30, 54, 55] [5, 6, 7, 9, 10, 11, 12, 13, 15, 16, 17, 19, 20, 21, 24, 25, 26, 27, 53, 56, 91, 92, 93, 94, 95, 96, 97, 110, 121, 125, 135] I B (fun (z : Int) (u : mS) => 0 ≤ z ∧ z ≤ 1 ∧ stT (u.2.2.1 97) (u.2.2.1 98) (u.2.2.1 100) (u.2.2.1 107) (u.2.2.1 108) (u.2.2.1 109) ∧ stA (u.2.2.1 110) (u.2.2.1 118) (u.2.2.1 119) (u.2.2.1 120))) (mPost D E h q (mA E h q sz)) (mA E h q sz)) 0 0 (mA E h q sz) := by
  refine m_enter (by decide) rfl (Nat.le_of_ble_eq_true rfl) (fun p e s m below meth c ls AV QQ H locs hQQ X Y hZ hA hr hlk hml hl => ?_)
  have Y : mH D E (mA E h q sz) s.heap h q I J B G H locs := Y
  have S : rS [2, 8, 14, 18, 29, 30, 54, 55] [5, 6, 7, 9, 10, 11, 12, 13, 15, 16, 17, 19, 20, 21, 24, 25, 26, 27, 53, 56, 91, 92, 93, 94, 95, 96, 97, 110, 121, 125, 135] I B I B := rS_rf hT
  have hl : lv_has ls 6 [(0, .ref h), (1, .int (iI a1)), (2, .int (iI a2))] := hl
  refine lv_aload_n X.1 X.2.1 d_M_agent_0 rfl (lv_at hl 0 rfl) ?_
  refine lv_iconst (v := iI 0) X.1 X.2.1 d_M_agent_1 (by decide) ?_
  refine r_ni (m_run (As := [.int (iI 0)]) (rest := []) (n := 1) X Y hZ hA hml hl.1 (r_M_bothRead l D E h q H.size I J B G 0 (by decide) (by decide) S.1) kl_M_bothRead ks_M_bothRead kx_M_bothRead ki_M_bothRead ini_M hd_M_bothRead ⟨Nat.le_of_ble_eq_true rfl, Nat.le_of_ble_eq_true rfl⟩ rfl (Nat.le_of_ble_eq_true rfl) d_M_agent_2 ⟨Nat.le_refl _, Nat.le_refl _⟩) X Y hA S (by decide) (by decide) (fun z101 u H locs Y S s101 p101 => ?_)
  obtain ⟨I101, J101, B101, G101⟩ := u
  dsimp only at Y S s101 p101
  obtain ⟨l101, u101, x101⟩ := p101
  obtain ⟨x101_0, x101_1⟩ := x101
  obtain ⟨z102, e102, x102, y102, y2102⟩ := x101_0
  obtain ⟨z103, e103, x103, y103, y2103⟩ := x101_1
  refine z_if_eq (tgt := 33) X.1 X.2.1 d_M_agent_5 (by decide) ⟨by omega, by omega⟩ (fun h104 => ?_) (fun h104 => ?_)
  · refine lv_iconst (v := iI 0) X.1 X.2.1 d_M_agent_33 (by decide) ?_
    refine lv_istore_n (lv' := [(3, .int (iI 0)), (0, .ref h), (1, .int (iI a1)), (2, .int (iI a2))]) X.1 X.2.1 d_M_agent_34 rfl hl (by decide) rfl (fun ls hl => ?_)
    refine lv_aload_n X.1 X.2.1 d_M_agent_35 rfl (lv_at hl 1 rfl) ?_
    refine lv_iconst (v := iI 0) X.1 X.2.1 d_M_agent_36 (by decide) ?_
    refine r_puti (k := 2) X Y S (by decide) lk_length rfl rfl (t_M_ok 2 (by decide)) rfl rfl (sf_length _ _ _ _) (Nat.le_of_ble_eq_true rfl) rfl (show (0 : Int) ≤ 0 by omega) (show 0 ≤ (4000 : Int) by omega) ⟨by omega, by omega⟩ (by decide) d_M_agent_37 (fun I105 H locs Y S w105 => ?_)
    refine lv_iload_n X.1 X.2.1 d_M_agent_40 rfl (lv_at hl 0 rfl) ?_
    refine z_if_ne (tgt := 46) X.1 X.2.1 d_M_agent_41 (by decide) ⟨by decide, by decide⟩ (fun h106 => False.elim (by omega)) (fun h106 => ?_)
    · refine lv_iconst (v := iI 0) X.1 X.2.1 d_M_agent_44 (by decide) ?_
      exact m_retz hQQ X Y hr hlk (iI_bool (by omega) (by omega)).1 ⟨S, 0, rfl, ⟨by omega, by omega, (stT_cg rfl rfl rfl rfl rfl rfl (stT_cg (s101.2.2 97 (by decide)) (s101.2.2 98 (by decide)) (s101.2.2 100 (by decide)) (s101.2.2 107 (by decide)) (s101.2.2 108 (by decide)) (s101.2.2 109 (by decide)) f_FT)), (stA_cg rfl rfl rfl rfl (stA_cg (s101.2.2 110 (by decide)) (s101.2.2 118 (by decide)) (s101.2.2 119 (by decide)) (s101.2.2 120 (by decide)) f_FA))⟩⟩ d_M_agent_45
  · refine lv_iload_n X.1 X.2.1 d_M_agent_8 rfl (lv_at hl 1 rfl) ?_
    refine z_if_lt (tgt := 33) X.1 X.2.1 d_M_agent_9 (by decide) ⟨by omega, by omega⟩ (fun h107 => ?_) (fun h107 => ?_)
    · refine lv_iconst (v := iI 0) X.1 X.2.1 d_M_agent_33 (by decide) ?_
      refine lv_istore_n (lv' := [(3, .int (iI 0)), (0, .ref h), (1, .int (iI a1)), (2, .int (iI a2))]) X.1 X.2.1 d_M_agent_34 rfl hl (by decide) rfl (fun ls hl => ?_)
      refine lv_aload_n X.1 X.2.1 d_M_agent_35 rfl (lv_at hl 1 rfl) ?_
      refine lv_iconst (v := iI 0) X.1 X.2.1 d_M_agent_36 (by decide) ?_
      refine r_puti (k := 2) X Y S (by decide) lk_length rfl rfl (t_M_ok 2 (by decide)) rfl rfl (sf_length _ _ _ _) (Nat.le_of_ble_eq_true rfl) rfl (show (0 : Int) ≤ 0 by omega) (show 0 ≤ (4000 : Int) by omega) ⟨by omega, by omega⟩ (by decide) d_M_agent_37 (fun I108 H locs Y S w108 => ?_)
      refine lv_iload_n X.1 X.2.1 d_M_agent_40 rfl (lv_at hl 0 rfl) ?_
      refine z_if_ne (tgt := 46) X.1 X.2.1 d_M_agent_41 (by decide) ⟨by decide, by decide⟩ (fun h109 => False.elim (by omega)) (fun h109 => ?_)
      · refine lv_iconst (v := iI 0) X.1 X.2.1 d_M_agent_44 (by decide) ?_
        exact m_retz hQQ X Y hr hlk (iI_bool (by omega) (by omega)).1 ⟨S, 0, rfl, ⟨by omega, by omega, (stT_cg rfl rfl rfl rfl rfl rfl (stT_cg (s101.2.2 97 (by decide)) (s101.2.2 98 (by decide)) (s101.2.2 100 (by decide)) (s101.2.2 107 (by decide)) (s101.2.2 108 (by decide)) (s101.2.2 109 (by decide)) f_FT)), (stA_cg rfl rfl rfl rfl (stA_cg (s101.2.2 110 (by decide)) (s101.2.2 118 (by decide)) (s101.2.2 119 (by decide)) (s101.2.2 120 (by decide)) f_FA))⟩⟩ d_M_agent_45
    · refine lv_iload_n X.1 X.2.1 d_M_agent_12 rfl (lv_at hl 1 rfl) ?_
      refine lv_iconst (v := iI 4) X.1 X.2.1 d_M_agent_13 (by decide) ?_
      refine z_icmp_ge (tgt := 33) X.1 X.2.1 d_M_agent_14 (by decide) ⟨by omega, by omega⟩ ⟨by decide, by decide⟩ (fun h110 => ?_) (fun h110 => ?_)
      · refine lv_iconst (v := iI 0) X.1 X.2.1 d_M_agent_33 (by decide) ?_
        refine lv_istore_n (lv' := [(3, .int (iI 0)), (0, .ref h), (1, .int (iI a1)), (2, .int (iI a2))]) X.1 X.2.1 d_M_agent_34 rfl hl (by decide) rfl (fun ls hl => ?_)
        refine lv_aload_n X.1 X.2.1 d_M_agent_35 rfl (lv_at hl 1 rfl) ?_
        refine lv_iconst (v := iI 0) X.1 X.2.1 d_M_agent_36 (by decide) ?_
        refine r_puti (k := 2) X Y S (by decide) lk_length rfl rfl (t_M_ok 2 (by decide)) rfl rfl (sf_length _ _ _ _) (Nat.le_of_ble_eq_true rfl) rfl (show (0 : Int) ≤ 0 by omega) (show 0 ≤ (4000 : Int) by omega) ⟨by omega, by omega⟩ (by decide) d_M_agent_37 (fun I111 H locs Y S w111 => ?_)
        refine lv_iload_n X.1 X.2.1 d_M_agent_40 rfl (lv_at hl 0 rfl) ?_
        refine z_if_ne (tgt := 46) X.1 X.2.1 d_M_agent_41 (by decide) ⟨by decide, by decide⟩ (fun h112 => False.elim (by omega)) (fun h112 => ?_)
        · refine lv_iconst (v := iI 0) X.1 X.2.1 d_M_agent_44 (by decide) ?_
          exact m_retz hQQ X Y hr hlk (iI_bool (by omega) (by omega)).1 ⟨S, 0, rfl, ⟨by omega, by omega, (stT_cg rfl rfl rfl rfl rfl rfl (stT_cg (s101.2.2 97 (by decide)) (s101.2.2 98 (by decide)) (s101.2.2 100 (by decide)) (s101.2.2 107 (by decide)) (s101.2.2 108 (by decide)) (s101.2.2 109 (by decide)) f_FT)), (stA_cg rfl rfl rfl rfl (stA_cg (s101.2.2 110 (by decide)) (s101.2.2 118 (by decide)) (s101.2.2 119 (by decide)) (s101.2.2 120 (by decide)) f_FA))⟩⟩ d_M_agent_45
      · refine lv_iload_n X.1 X.2.1 d_M_agent_17 rfl (lv_at hl 2 rfl) ?_
        refine lv_iconst (v := iI 1) X.1 X.2.1 d_M_agent_18 (by decide) ?_
        refine z_icmp_lt (tgt := 33) X.1 X.2.1 d_M_agent_19 (by decide) ⟨by omega, by omega⟩ ⟨by decide, by decide⟩ (fun h113 => ?_) (fun h113 => ?_)
        · refine lv_iconst (v := iI 0) X.1 X.2.1 d_M_agent_33 (by decide) ?_
          refine lv_istore_n (lv' := [(3, .int (iI 0)), (0, .ref h), (1, .int (iI a1)), (2, .int (iI a2))]) X.1 X.2.1 d_M_agent_34 rfl hl (by decide) rfl (fun ls hl => ?_)
          refine lv_aload_n X.1 X.2.1 d_M_agent_35 rfl (lv_at hl 1 rfl) ?_
          refine lv_iconst (v := iI 0) X.1 X.2.1 d_M_agent_36 (by decide) ?_
          refine r_puti (k := 2) X Y S (by decide) lk_length rfl rfl (t_M_ok 2 (by decide)) rfl rfl (sf_length _ _ _ _) (Nat.le_of_ble_eq_true rfl) rfl (show (0 : Int) ≤ 0 by omega) (show 0 ≤ (4000 : Int) by omega) ⟨by omega, by omega⟩ (by decide) d_M_agent_37 (fun I114 H locs Y S w114 => ?_)
          refine lv_iload_n X.1 X.2.1 d_M_agent_40 rfl (lv_at hl 0 rfl) ?_
          refine z_if_ne (tgt := 46) X.1 X.2.1 d_M_agent_41 (by decide) ⟨by decide, by decide⟩ (fun h115 => False.elim (by omega)) (fun h115 => ?_)
          · refine lv_iconst (v := iI 0) X.1 X.2.1 d_M_agent_44 (by decide) ?_
            exact m_retz hQQ X Y hr hlk (iI_bool (by omega) (by omega)).1 ⟨S, 0, rfl, ⟨by omega, by omega, (stT_cg rfl rfl rfl rfl rfl rfl (stT_cg (s101.2.2 97 (by decide)) (s101.2.2 98 (by decide)) (s101.2.2 100 (by decide)) (s101.2.2 107 (by decide)) (s101.2.2 108 (by decide)) (s101.2.2 109 (by decide)) f_FT)), (stA_cg rfl rfl rfl rfl (stA_cg (s101.2.2 110 (by decide)) (s101.2.2 118 (by decide)) (s101.2.2 119 (by decide)) (s101.2.2 120 (by decide)) f_FA))⟩⟩ d_M_agent_45
        · refine lv_iload_n X.1 X.2.1 d_M_agent_22 rfl (lv_at hl 2 rfl) ?_
          refine lv_sipush (v := iI 200) X.1 X.2.1 d_M_agent_23 (by decide) ?_
          refine z_icmp_gt (tgt := 33) X.1 X.2.1 d_M_agent_26 (by decide) ⟨by omega, by omega⟩ ⟨by decide, by decide⟩ (fun h116 => ?_) (fun h116 => ?_)
          · refine lv_iconst (v := iI 0) X.1 X.2.1 d_M_agent_33 (by decide) ?_
            refine lv_istore_n (lv' := [(3, .int (iI 0)), (0, .ref h), (1, .int (iI a1)), (2, .int (iI a2))]) X.1 X.2.1 d_M_agent_34 rfl hl (by decide) rfl (fun ls hl => ?_)
            refine lv_aload_n X.1 X.2.1 d_M_agent_35 rfl (lv_at hl 1 rfl) ?_
            refine lv_iconst (v := iI 0) X.1 X.2.1 d_M_agent_36 (by decide) ?_
            refine r_puti (k := 2) X Y S (by decide) lk_length rfl rfl (t_M_ok 2 (by decide)) rfl rfl (sf_length _ _ _ _) (Nat.le_of_ble_eq_true rfl) rfl (show (0 : Int) ≤ 0 by omega) (show 0 ≤ (4000 : Int) by omega) ⟨by omega, by omega⟩ (by decide) d_M_agent_37 (fun I117 H locs Y S w117 => ?_)
            refine lv_iload_n X.1 X.2.1 d_M_agent_40 rfl (lv_at hl 0 rfl) ?_
            refine z_if_ne (tgt := 46) X.1 X.2.1 d_M_agent_41 (by decide) ⟨by decide, by decide⟩ (fun h118 => False.elim (by omega)) (fun h118 => ?_)
            · refine lv_iconst (v := iI 0) X.1 X.2.1 d_M_agent_44 (by decide) ?_
              exact m_retz hQQ X Y hr hlk (iI_bool (by omega) (by omega)).1 ⟨S, 0, rfl, ⟨by omega, by omega, (stT_cg rfl rfl rfl rfl rfl rfl (stT_cg (s101.2.2 97 (by decide)) (s101.2.2 98 (by decide)) (s101.2.2 100 (by decide)) (s101.2.2 107 (by decide)) (s101.2.2 108 (by decide)) (s101.2.2 109 (by decide)) f_FT)), (stA_cg rfl rfl rfl rfl (stA_cg (s101.2.2 110 (by decide)) (s101.2.2 118 (by decide)) (s101.2.2 119 (by decide)) (s101.2.2 120 (by decide)) f_FA))⟩⟩ d_M_agent_45
          · refine lv_iconst (v := iI 1) X.1 X.2.1 d_M_agent_29 (by decide) ?_
            refine lv_goto (tgt := 34) X.1 X.2.1 d_M_agent_30 (by decide) ?_
            refine lv_istore_n (lv' := [(3, .int (iI 1)), (0, .ref h), (1, .int (iI a1)), (2, .int (iI a2))]) X.1 X.2.1 d_M_agent_34 rfl hl (by decide) rfl (fun ls hl => ?_)
            refine lv_aload_n X.1 X.2.1 d_M_agent_35 rfl (lv_at hl 1 rfl) ?_
            refine lv_iconst (v := iI 0) X.1 X.2.1 d_M_agent_36 (by decide) ?_
            refine r_puti (k := 2) X Y S (by decide) lk_length rfl rfl (t_M_ok 2 (by decide)) rfl rfl (sf_length _ _ _ _) (Nat.le_of_ble_eq_true rfl) rfl (show (0 : Int) ≤ 0 by omega) (show 0 ≤ (4000 : Int) by omega) ⟨by omega, by omega⟩ (by decide) d_M_agent_37 (fun I119 H locs Y S w119 => ?_)
            refine lv_iload_n X.1 X.2.1 d_M_agent_40 rfl (lv_at hl 0 rfl) ?_
            refine z_if_ne (tgt := 46) X.1 X.2.1 d_M_agent_41 (by decide) ⟨by decide, by decide⟩ (fun h120 => ?_) (fun h120 => False.elim (by omega))
            · refine lv_aload_n X.1 X.2.1 d_M_agent_46 rfl (lv_at hl 1 rfl) ?_
              refine m_get X Y 91 (by decide) lk_isAgent (gf_isAgent _ _ _) rfl d_M_agent_47 ?_
              refine lv_iload_n X.1 X.2.1 d_M_agent_50 rfl (lv_at hl 2 rfl) ?_
              refine lv_iconst (v := iI 1) X.1 X.2.1 d_M_agent_51 (by decide) ?_
              refine r_zast X Y S (aw_isAgent _ _ _ _ _ _ _) (sw_isAgent _ _ _ _ _ _ _) rfl ⟨by omega, by omega⟩ (by omega) (show a1 < ((4 : Nat) : Int) by omega) (by omega) (by decide) d_M_agent_52 (fun B121 H locs Y S w121 => ?_)
              have f122 : stT (B121 97) (B121 98) (B121 100) (B121 107) (B121 108) (B121 109) := (stT_cg (w121.2 97 (by decide)) (w121.2 98 (by decide)) (w121.2 100 (by decide)) (w121.2 107 (by decide)) (w121.2 108 (by decide)) (w121.2 109 (by decide)) (stT_cg rfl rfl rfl rfl rfl rfl (stT_cg (s101.2.2 97 (by decide)) (s101.2.2 98 (by decide)) (s101.2.2 100 (by decide)) (s101.2.2 107 (by decide)) (s101.2.2 108 (by decide)) (s101.2.2 109 (by decide)) f_FT)))
              have f123 : stA (B121 110) (B121 118) (B121 119) (B121 120) := (stA_cg (w121.2 110 (by decide)) (w121.2 118 (by decide)) (w121.2 119 (by decide)) (w121.2 120 (by decide)) (stA_cg rfl rfl rfl rfl (stA_cg (s101.2.2 110 (by decide)) (s101.2.2 118 (by decide)) (s101.2.2 119 (by decide)) (s101.2.2 120 (by decide)) f_FA)))
              refine lv_aload_n X.1 X.2.1 d_M_agent_53 rfl (lv_at hl 1 rfl) ?_
              refine m_get X Y 93 (by decide) lk_agentSizes (gf_agentSizes _ _ _) rfl d_M_agent_54 ?_
              refine lv_iload_n X.1 X.2.1 d_M_agent_57 rfl (lv_at hl 2 rfl) ?_
              refine lv_aload_n X.1 X.2.1 d_M_agent_58 rfl (lv_at hl 1 rfl) ?_
              refine r_get0 X Y (by decide) lk_nameSize (gf_nameSize _ _ _) rfl ((w119.2 54 (by decide)).trans e102) d_M_agent_59 ?_
              refine r_iast X Y S (aw_agentSizes _ _ _ _ _ _ _) (sw_agentSizes _ _ _ _ _ _ _) rfl ⟨(show (0 : Int) ≤ z102 by omega), (show z102 ≤ (33 : Int) by omega)⟩ ⟨by omega, by omega⟩ (by omega) (show a1 < ((4 : Nat) : Int) by omega) (by omega) (by decide) d_M_agent_62 (fun B124 H locs Y S w124 => ?_)
              refine lv_iconst (v := iI 0) X.1 X.2.1 d_M_agent_63 (by decide) ?_
              have J131 : ∀ (n133 : Nat) (z126 : Int) (I125 : Nat → Int32) (J125 : Nat → Int64) (B125 : Nat → Nat → Int32) (G125 : Nat → Nat → Int64) (H : Heap) (locs : List Loc) (ls : Array Slot), (40 - z126).toNat = n133 → (0 ≤ z126) → (z126 ≤ 40) → (stA (B125 110) (B125 118) (B125 119) (B125 120)) → (stT (B125 97) (B125 98) (B125 100) (B125 107) (B125 108) (B125 109)) → (I125 54 = iI z102) → (I125 30 = iI z103) → mH D E (mA E h q sz) s.heap h q I125 J125 B125 G125 H locs → rS [2, 8, 14, 18, 29, 30, 54, 55] [5, 6, 7, 9, 10, 11, 12, 13, 15, 16, 17, 19, 20, 21, 24, 25, 26, 27, 53, 56, 91, 92, 93, 94, 95, 96, 97, 110, 121, 125, 135] I B I125 B125 → lv_has ls 6 [(0, .ref h), (1, .int (iI a1)), (2, .int (iI a2)), (4, .int (iI z126))] → W p l e (mR 7 208) s m AV below meth c H locs 0 0 QQ (F0 m 66 ls []) := by
                intro n133
                induction n133 using Nat.strongRecOn with
                | ind n133 ih132 =>
                  intro z126 I125 J125 B125 G125 H locs ls hm134 l126 u126 f127 f128 e129 e130 Y S hl
                  refine lv_iload X.1 X.2.1 d_M_agent_66 (lv_at hl 3 rfl) ?_
                  refine lv_aload_n X.1 X.2.1 d_M_agent_68 rfl (lv_at hl 0 rfl) ?_
                  refine r_get0 X Y (by decide) lk_nameSize (gf_nameSize _ _ _) rfl e129 d_M_agent_69 ?_
                  refine z_icmp_ge (tgt := 100) X.1 X.2.1 d_M_agent_72 (by decide) ⟨by omega, by omega⟩ ⟨by omega, by omega⟩ (fun h135 => ?_) (fun h135 => ?_)
                  · refine lv_aload_n X.1 X.2.1 d_M_agent_100 rfl (lv_at hl 0 rfl) ?_
                    refine lv_aload_n X.1 X.2.1 d_M_agent_101 rfl (lv_at hl 0 rfl) ?_
                    refine m_get X Y 53 (by decide) lk_name (gf_name _ _ _) rfl d_M_agent_102 ?_
                    refine lv_iconst (v := iI 0) X.1 X.2.1 d_M_agent_105 (by decide) ?_
                    refine lv_aload_n X.1 X.2.1 d_M_agent_106 rfl (lv_at hl 0 rfl) ?_
                    refine r_get0 X Y (by decide) lk_nameSize (gf_nameSize _ _ _) rfl e129 d_M_agent_107 ?_
                    refine r_nv (m_run (As := [.ref ((q 53)), .int (iI 0), .int (iI z102)]) (rest := []) (n := 3) X Y hZ hA hml hl.1 (r_M_saltOf_name l D E h q H.size I125 J125 B125 G125 0 (by decide) (by decide) z102 (by omega) (by omega) S.1) kl_M_saltOf ks_M_saltOf kx_M_saltOf ki_M_saltOf ini_M hd_M_saltOf ⟨Nat.le_of_ble_eq_true rfl, Nat.le_of_ble_eq_true rfl⟩ rfl (Nat.le_of_ble_eq_true rfl) d_M_agent_110 ⟨Nat.le_refl _, Nat.le_refl _⟩) X Y hA S (by decide) (by decide) (fun u H locs Y S s136 p136 => ?_)
                    obtain ⟨I136, J136, B136, G136⟩ := u
                    dsimp only at Y S s136 p136
                    refine lv_iconst (v := iI 0) X.1 X.2.1 d_M_agent_113 (by decide) ?_
                    have J143 : ∀ (n145 : Nat) (z138 : Int) (I137 : Nat → Int32) (J137 : Nat → Int64) (B137 : Nat → Nat → Int32) (G137 : Nat → Nat → Int64) (H : Heap) (locs : List Loc) (ls : Array Slot), (2 - z138).toNat = n145 → (0 ≤ z138) → (z138 ≤ 2) → (stA (B137 110) (B137 118) (B137 119) (B137 120)) → (stT (B137 97) (B137 98) (B137 100) (B137 107) (B137 108) (B137 109)) → (I137 54 = iI z102) → (I137 30 = iI z103) → mH D E (mA E h q sz) s.heap h q I137 J137 B137 G137 H locs → rS [2, 8, 14, 18, 29, 30, 54, 55] [5, 6, 7, 9, 10, 11, 12, 13, 15, 16, 17, 19, 20, 21, 24, 25, 26, 27, 53, 56, 91, 92, 93, 94, 95, 96, 97, 110, 121, 125, 135] I B I137 B137 → lv_has ls 6 [(0, .ref h), (1, .int (iI a1)), (2, .int (iI a2)), (4, .int (iI z138))] → W p l e (mR 7 208) s m AV below meth c H locs 0 0 QQ (F0 m 116 ls []) := by
                      intro n145
                      induction n145 using Nat.strongRecOn with
                      | ind n145 ih144 =>
                        intro z138 I137 J137 B137 G137 H locs ls hm146 l138 u138 f139 f140 e141 e142 Y S hl
                        refine lv_iload X.1 X.2.1 d_M_agent_116 (lv_at hl 3 rfl) ?_
                        refine lv_iconst (v := iI 2) X.1 X.2.1 d_M_agent_118 (by decide) ?_
                        refine z_icmp_ge (tgt := 190) X.1 X.2.1 d_M_agent_119 (by decide) ⟨by omega, by omega⟩ ⟨by decide, by decide⟩ (fun h147 => ?_) (fun h147 => ?_)
                        · refine lv_aload_n X.1 X.2.1 d_M_agent_190 rfl (lv_at hl 0 rfl) ?_
                          refine m_get X Y 94 (by decide) lk_shifts (gf_shifts _ _ _) rfl d_M_agent_191 ?_
                          refine lv_iload_n X.1 X.2.1 d_M_agent_194 rfl (lv_at hl 1 rfl) ?_
                          refine lv_iconst (v := iI 0) X.1 X.2.1 d_M_agent_195 (by decide) ?_
                          refine r_iast X Y S (aw_shifts _ _ _ _ _ _ _) (sw_shifts _ _ _ _ _ _ _) rfl ⟨(show ((-100000) : Int) ≤ 0 by omega), (show 0 ≤ (100000 : Int) by omega)⟩ ⟨by omega, by omega⟩ (by omega) (show a1 < ((4 : Nat) : Int) by omega) (by omega) (by decide) d_M_agent_196 (fun B148 H locs Y S w148 => ?_)
                          refine lv_aload_n X.1 X.2.1 d_M_agent_197 rfl (lv_at hl 0 rfl) ?_
                          refine m_get X Y 95 (by decide) lk_micros (gf_micros _ _ _) rfl d_M_agent_198 ?_
                          refine lv_iload_n X.1 X.2.1 d_M_agent_201 rfl (lv_at hl 1 rfl) ?_
                          refine lv_iconst (v := iI 0) X.1 X.2.1 d_M_agent_202 (by decide) ?_
                          refine r_iast X Y S (aw_micros _ _ _ _ _ _ _) (sw_micros _ _ _ _ _ _ _) rfl ⟨(show ((-2147483648) : Int) ≤ 0 by omega), (show 0 ≤ (2147483647 : Int) by omega)⟩ ⟨by omega, by omega⟩ (by omega) (show a1 < ((4 : Nat) : Int) by omega) (by omega) (by decide) d_M_agent_203 (fun B149 H locs Y S w149 => ?_)
                          have f150 : stT (B149 97) (B149 98) (B149 100) (B149 107) (B149 108) (B149 109) := (stT_cg (w149.2 97 (by decide)) (w149.2 98 (by decide)) (w149.2 100 (by decide)) (w149.2 107 (by decide)) (w149.2 108 (by decide)) (w149.2 109 (by decide)) (stT_cg (w148.2 97 (by decide)) (w148.2 98 (by decide)) (w148.2 100 (by decide)) (w148.2 107 (by decide)) (w148.2 108 (by decide)) (w148.2 109 (by decide)) f140))
                          refine lv_aload_n X.1 X.2.1 d_M_agent_204 rfl (lv_at hl 0 rfl) ?_
                          refine m_get X Y 110 (by decide) lk_askedKind (gf_askedKind _ _ _) rfl d_M_agent_205 ?_
                          refine lv_iload_n X.1 X.2.1 d_M_agent_208 rfl (lv_at hl 1 rfl) ?_
                          refine lv_iconst (v := iI (-1)) X.1 X.2.1 d_M_agent_209 (by decide) ?_
                          refine r_iast X Y S (aw_askedKind _ _ _ _ _ _ _) (sw_askedKind _ _ _ _ _ _ _) rfl ⟨(show ((-1) : Int) ≤ (-1) by omega), (show (-1) ≤ (2 : Int) by omega)⟩ ⟨by omega, by omega⟩ (by omega) (show a1 < ((4 : Nat) : Int) by omega) (by omega) (by decide) d_M_agent_210 (fun B151 H locs Y S w151 => ?_)
                          have f152 : stA (B151 110) (B151 118) (B151 119) (B151 120) := by rw [w151.1, w151.2 118 (by decide), w151.2 119 (by decide), w151.2 120 (by decide)]; exact stA_off ⟨by omega, by omega⟩ (by omega) (stA_cg (w149.2 110 (by decide)) (w149.2 118 (by decide)) (w149.2 119 (by decide)) (w149.2 120 (by decide)) (stA_cg (w148.2 110 (by decide)) (w148.2 118 (by decide)) (w148.2 119 (by decide)) (w148.2 120 (by decide)) f139))
                          refine lv_aload_n X.1 X.2.1 d_M_agent_211 rfl (lv_at hl 0 rfl) ?_
                          refine m_get X Y 121 (by decide) lk_wantsMet (gf_wantsMet _ _ _) rfl d_M_agent_212 ?_
                          refine lv_iload_n X.1 X.2.1 d_M_agent_215 rfl (lv_at hl 1 rfl) ?_
                          refine lv_iconst (v := iI 0) X.1 X.2.1 d_M_agent_216 (by decide) ?_
                          refine r_zast X Y S (aw_wantsMet _ _ _ _ _ _ _) (sw_wantsMet _ _ _ _ _ _ _) rfl ⟨by omega, by omega⟩ (by omega) (show a1 < ((4 : Nat) : Int) by omega) (by omega) (by decide) d_M_agent_217 (fun B153 H locs Y S w153 => ?_)
                          have f154 : stT (B153 97) (B153 98) (B153 100) (B153 107) (B153 108) (B153 109) := (stT_cg (w153.2 97 (by decide)) (w153.2 98 (by decide)) (w153.2 100 (by decide)) (w153.2 107 (by decide)) (w153.2 108 (by decide)) (w153.2 109 (by decide)) (stT_cg (w151.2 97 (by decide)) (w151.2 98 (by decide)) (w151.2 100 (by decide)) (w151.2 107 (by decide)) (w151.2 108 (by decide)) (w151.2 109 (by decide)) f150))
                          refine lv_aload_n X.1 X.2.1 d_M_agent_218 rfl (lv_at hl 0 rfl) ?_
                          refine m_get X Y 125 (by decide) lk_apSerial (gf_apSerial _ _ _) rfl d_M_agent_219 ?_
                          refine lv_iload_n X.1 X.2.1 d_M_agent_222 rfl (lv_at hl 1 rfl) ?_
                          refine lv_iconst (v := iI (-1)) X.1 X.2.1 d_M_agent_223 (by decide) ?_
                          refine r_iast X Y S (aw_apSerial _ _ _ _ _ _ _) (sw_apSerial _ _ _ _ _ _ _) rfl ⟨(show ((-2147483648) : Int) ≤ (-1) by omega), (show (-1) ≤ (2147483647 : Int) by omega)⟩ ⟨by omega, by omega⟩ (by omega) (show a1 < ((4 : Nat) : Int) by omega) (by omega) (by decide) d_M_agent_224 (fun B155 H locs Y S w155 => ?_)
                          refine lv_iconst (v := iI 0) X.1 X.2.1 d_M_agent_225 (by decide) ?_
                          have J162 : ∀ (n164 : Nat) (z157 : Int) (I156 : Nat → Int32) (J156 : Nat → Int64) (B156 : Nat → Nat → Int32) (G156 : Nat → Nat → Int64) (H : Heap) (locs : List Loc) (ls : Array Slot), (8 - z157).toNat = n164 → (0 ≤ z157) → (z157 ≤ 8) → (stA (B156 110) (B156 118) (B156 119) (B156 120)) → (stT (B156 97) (B156 98) (B156 100) (B156 107) (B156 108) (B156 109)) → (I156 54 = iI z102) → (I156 30 = iI z103) → mH D E (mA E h q sz) s.heap h q I156 J156 B156 G156 H locs → rS [2, 8, 14, 18, 29, 30, 54, 55] [5, 6, 7, 9, 10, 11, 12, 13, 15, 16, 17, 19, 20, 21, 24, 25, 26, 27, 53, 56, 91, 92, 93, 94, 95, 96, 97, 110, 121, 125, 135] I B I156 B156 → lv_has ls 6 [(0, .ref h), (1, .int (iI a1)), (4, .int (iI z157))] → W p l e (mR 7 208) s m AV below meth c H locs 0 0 QQ (F0 m 228 ls []) := by
                            intro n164
                            induction n164 using Nat.strongRecOn with
                            | ind n164 ih163 =>
                              intro z157 I156 J156 B156 G156 H locs ls hm165 l157 u157 f158 f159 e160 e161 Y S hl
                              refine lv_iload X.1 X.2.1 d_M_agent_228 (lv_at hl 2 rfl) ?_
                              refine lv_bipush (v := iI 8) X.1 X.2.1 d_M_agent_230 (by decide) ?_
                              refine z_icmp_ge (tgt := 273) X.1 X.2.1 d_M_agent_232 (by decide) ⟨by omega, by omega⟩ ⟨by decide, by decide⟩ (fun h166 => ?_) (fun h166 => ?_)
                              · refine lv_iconst (v := iI 1) X.1 X.2.1 d_M_agent_273 (by decide) ?_
                                exact m_retz hQQ X Y hr hlk (iI_bool (by omega) (by omega)).1 ⟨S, 1, rfl, ⟨by omega, by omega, f159, f158⟩⟩ d_M_agent_274
                              · refine lv_aload_n X.1 X.2.1 d_M_agent_235 rfl (lv_at hl 0 rfl) ?_
                                refine m_get X Y 97 (by decide) lk_isTicket (gf_isTicket _ _ _) rfl d_M_agent_236 ?_
                                refine lv_bipush (v := iI 8) X.1 X.2.1 d_M_agent_239 (by decide) ?_
                                refine lv_iload_n X.1 X.2.1 d_M_agent_241 rfl (lv_at hl 1 rfl) ?_
                                refine z_imul X.1 X.2.1 d_M_agent_242 ?_
                                refine lv_iload X.1 X.2.1 d_M_agent_243 (lv_at hl 2 rfl) ?_
                                refine z_iadd X.1 X.2.1 d_M_agent_245 ?_
                                refine lv_iconst (v := iI 0) X.1 X.2.1 d_M_agent_246 (by decide) ?_
                                refine r_zast X Y S (aw_isTicket _ _ _ _ _ _ _) (sw_isTicket _ _ _ _ _ _ _) rfl ⟨by omega, by omega⟩ (by omega) (show (8 * a1) + z157 < ((32 : Nat) : Int) by omega) (by omega) (by decide) d_M_agent_247 (fun B167 H locs Y S w167 => ?_)
                                have f168 : stT (B167 97) (B167 98) (B167 100) (B167 107) (B167 108) (B167 109) := by rw [w167.1, w167.2 98 (by decide), w167.2 100 (by decide), w167.2 107 (by decide), w167.2 108 (by decide), w167.2 109 (by decide)]; exact stT_off (by decide) f159
                                refine lv_aload_n X.1 X.2.1 d_M_agent_248 rfl (lv_at hl 0 rfl) ?_
                                refine m_get X Y 135 (by decide) lk_sessionAgents (gf_sessionAgents _ _ _) rfl d_M_agent_249 ?_
                                refine lv_iload X.1 X.2.1 d_M_agent_252 (lv_at hl 2 rfl) ?_
                                refine r_iald X Y S (aw_sessionAgents _ _ _ _ _ _ _) rfl (by omega) (show z157 < ((8 : Nat) : Int) by omega) (by omega) d_M_agent_254 (fun z169 q169 l169 u169 => ?_)
                                refine lv_iload_n X.1 X.2.1 d_M_agent_255 rfl (lv_at hl 1 rfl) ?_
                                have J175 : ∀ (I170 : Nat → Int32) (J170 : Nat → Int64) (B170 : Nat → Nat → Int32) (G170 : Nat → Nat → Int64) (H : Heap) (locs : List Loc) (ls : Array Slot), (stA (B170 110) (B170 118) (B170 119) (B170 120)) → (stT (B170 97) (B170 98) (B170 100) (B170 107) (B170 108) (B170 109)) → (I170 54 = iI z102) → (I170 30 = iI z103) → mH D E (mA E h q sz) s.heap h q I170 J170 B170 G170 H locs → rS [2, 8, 14, 18, 29, 30, 54, 55] [5, 6, 7, 9, 10, 11, 12, 13, 15, 16, 17, 19, 20, 21, 24, 25, 26, 27, 53, 56, 91, 92, 93, 94, 95, 96, 97, 110, 121, 125, 135] I B I170 B170 → lv_has ls 6 [(0, .ref h), (1, .int (iI a1)), (4, .int (iI z157))] → W p l e (mR 7 208) s m AV below meth c H locs 0 0 QQ (F0 m 267 ls []) := by
                                  intro I170 J170 B170 G170 H locs ls f171 f172 e173 e174 Y S hl
                                  refine lv_iinc (v := iI (z157 + 1)) (lv' := [(4, .int (iI (z157 + 1))), (0, .ref h), (1, .int (iI a1))]) X.1 X.2.1 d_M_agent_267 hl (k := 2) rfl ((iI_add _ _).trans (congrArg iI (by omega))) (by decide) rfl (fun ls hl => ?_)
                                  refine lv_goto (tgt := 228) X.1 X.2.1 d_M_agent_270 (by decide) ?_
                                  exact ih163 ((8 - (z157 + 1)).toNat) (by omega) (z157 + 1) I170 J170 B170 G170 _ _ _ rfl (by omega) (by omega) f171 f172 e173 e174 Y S (lv_sub hl [1, 2, 0] rfl)
                                refine z_icmp_ne (tgt := 267) X.1 X.2.1 d_M_agent_256 (by decide) ⟨by omega, by omega⟩ ⟨by omega, by omega⟩ (fun h179 => ?_) (fun h179 => ?_)
                                · exact J175 I156 J156 B167 G156 _ _ _ (stA_cg (w167.2 110 (by decide)) (w167.2 118 (by decide)) (w167.2 119 (by decide)) (w167.2 120 (by decide)) f158) f168 e160 e161 Y S (lv_sub hl [0, 1, 2] rfl)
                                · refine lv_aload_n X.1 X.2.1 d_M_agent_259 rfl (lv_at hl 0 rfl) ?_
                                  refine m_get X Y 135 (by decide) lk_sessionAgents (gf_sessionAgents _ _ _) rfl d_M_agent_260 ?_
                                  refine lv_iload X.1 X.2.1 d_M_agent_263 (lv_at hl 2 rfl) ?_
                                  refine lv_iconst (v := iI (-1)) X.1 X.2.1 d_M_agent_265 (by decide) ?_
                                  refine r_iast X Y S (aw_sessionAgents _ _ _ _ _ _ _) (sw_sessionAgents _ _ _ _ _ _ _) rfl ⟨(show ((-1) : Int) ≤ (-1) by omega), (show (-1) ≤ (3 : Int) by omega)⟩ ⟨by omega, by omega⟩ (by omega) (show z157 < ((8 : Nat) : Int) by omega) (by omega) (by decide) d_M_agent_266 (fun B180 H locs Y S w180 => ?_)
                                  exact J175 I156 J156 B180 G156 _ _ _ (stA_cg (w180.2 110 (by decide)) (w180.2 118 (by decide)) (w180.2 119 (by decide)) (w180.2 120 (by decide)) (stA_cg (w167.2 110 (by decide)) (w167.2 118 (by decide)) (w167.2 119 (by decide)) (w167.2 120 (by decide)) f158)) (stT_cg (w180.2 97 (by decide)) (w180.2 98 (by decide)) (w180.2 100 (by decide)) (w180.2 107 (by decide)) (w180.2 108 (by decide)) (w180.2 109 (by decide)) f168) e160 e161 Y S (lv_sub hl [0, 1, 2] rfl)
                          refine lv_istore (lv' := [(4, .int (iI 0)), (0, .ref h), (1, .int (iI a1)), (2, .int (iI a2))]) X.1 X.2.1 d_M_agent_226 hl (by decide) rfl (fun ls hl => ?_)
                          exact J162 _ 0 I137 J137 B155 G137 _ _ _ rfl (by omega) (by omega) (stA_cg (w155.2 110 (by decide)) (w155.2 118 (by decide)) (w155.2 119 (by decide)) (w155.2 120 (by decide)) (stA_cg (w153.2 110 (by decide)) (w153.2 118 (by decide)) (w153.2 119 (by decide)) (w153.2 120 (by decide)) f152)) (stT_cg (w155.2 97 (by decide)) (w155.2 98 (by decide)) (w155.2 100 (by decide)) (w155.2 107 (by decide)) (w155.2 108 (by decide)) (w155.2 109 (by decide)) f154) e141 e142 Y S (lv_sub hl [1, 2, 0] rfl)
                        · refine lv_aload_n X.1 X.2.1 d_M_agent_122 rfl (lv_at hl 0 rfl) ?_
                          refine lv_iload X.1 X.2.1 d_M_agent_123 (lv_at hl 3 rfl) ?_
                          have J182 : ∀ (z181 : Int) (H : Heap) (locs : List Loc) (ls : Array Slot), (16 ≤ z181) → (z181 ≤ 32) → mH D E (mA E h q sz) s.heap h q I137 J137 B137 G137 H locs → rS [2, 8, 14, 18, 29, 30, 54, 55] [5, 6, 7, 9, 10, 11, 12, 13, 15, 16, 17, 19, 20, 21, 24, 25, 26, 27, 53, 56, 91, 92, 93, 94, 95, 96, 97, 110, 121, 125, 135] I B I137 B137 → lv_has ls 6 [(0, .ref h), (1, .int (iI a1)), (2, .int (iI a2)), (4, .int (iI z138))] → W p l e (mR 7 208) s m AV below meth c H locs 0 0 QQ (F0 m 135 ls [.int (iI z181), .ref h]) := by
                            intro z181 H locs ls l181 u181 Y S hl
                            refine lv_iload_n X.1 X.2.1 d_M_agent_135 rfl (lv_at hl 2 rfl) ?_
                            refine lv_aload_n X.1 X.2.1 d_M_agent_136 rfl (lv_at hl 0 rfl) ?_
                            refine m_get X Y 56 (by decide) lk_made (gf_made _ _ _) rfl d_M_agent_137 ?_
                            refine r_nv (m_run (As := [.int (iI z181), .int (iI a2), .ref ((q 56))]) (rest := []) (n := 3) X Y hZ hA hml hl.1 (r_M_passwordKey_made l D E h q H.size I137 J137 B137 G137 z181 (by omega) (by omega) a2 (by omega) (by omega) S.1 z103 e142 (by omega) (by omega)) kl_M_passwordKey ks_M_passwordKey kx_M_passwordKey ki_M_passwordKey ini_M hd_M_passwordKey ⟨Nat.le_of_ble_eq_true rfl, Nat.le_of_ble_eq_true rfl⟩ rfl (Nat.le_of_ble_eq_true rfl) d_M_agent_140 ⟨Nat.le_refl _, Nat.le_refl _⟩) X Y hA S (by decide) (by decide) (fun u H locs Y S s186 p186 => ?_)
                            obtain ⟨I186, J186, B186, G186⟩ := u
                            dsimp only at Y S s186 p186
                            refine lv_iconst (v := iI 0) X.1 X.2.1 d_M_agent_143 (by decide) ?_
                            have J193 : ∀ (n195 : Nat) (z188 : Int) (I187 : Nat → Int32) (J187 : Nat → Int64) (B187 : Nat → Nat → Int32) (G187 : Nat → Nat → Int64) (H : Heap) (locs : List Loc) (ls : Array Slot), (32 - z188).toNat = n195 → (0 ≤ z188) → (z188 ≤ 32) → (stA (B187 110) (B187 118) (B187 119) (B187 120)) → (stT (B187 97) (B187 98) (B187 100) (B187 107) (B187 108) (B187 109)) → (I187 54 = iI z102) → (I187 30 = iI z103) → mH D E (mA E h q sz) s.heap h q I187 J187 B187 G187 H locs → rS [2, 8, 14, 18, 29, 30, 54, 55] [5, 6, 7, 9, 10, 11, 12, 13, 15, 16, 17, 19, 20, 21, 24, 25, 26, 27, 53, 56, 91, 92, 93, 94, 95, 96, 97, 110, 121, 125, 135] I B I187 B187 → lv_has ls 6 [(0, .ref h), (1, .int (iI a1)), (2, .int (iI a2)), (4, .int (iI z138)), (5, .int (iI z188))] → W p l e (mR 7 208) s m AV below meth c H locs 0 0 QQ (F0 m 146 ls []) := by
                              intro n195
                              induction n195 using Nat.strongRecOn with
                              | ind n195 ih194 =>
                                intro z188 I187 J187 B187 G187 H locs ls hm196 l188 u188 f189 f190 e191 e192 Y S hl
                                refine lv_iload X.1 X.2.1 d_M_agent_146 (lv_at hl 4 rfl) ?_
                                refine lv_bipush (v := iI 32) X.1 X.2.1 d_M_agent_148 (by decide) ?_
                                refine z_icmp_ge (tgt := 184) X.1 X.2.1 d_M_agent_150 (by decide) ⟨by omega, by omega⟩ ⟨by decide, by decide⟩ (fun h197 => ?_) (fun h197 => ?_)
                                · refine lv_iinc (v := iI (z138 + 1)) (lv' := [(4, .int (iI (z138 + 1))), (0, .ref h), (1, .int (iI a1)), (2, .int (iI a2)), (5, .int (iI z188))]) X.1 X.2.1 d_M_agent_184 hl (k := 3) rfl ((iI_add _ _).trans (congrArg iI (by omega))) (by decide) rfl (fun ls hl => ?_)
                                  refine lv_goto (tgt := 116) X.1 X.2.1 d_M_agent_187 (by decide) ?_
                                  exact ih144 ((2 - (z138 + 1)).toNat) (by omega) (z138 + 1) I187 J187 B187 G187 _ _ _ rfl (by omega) (by omega) f189 f190 e191 e192 Y S (lv_sub hl [1, 2, 3, 0] rfl)
                                · refine lv_aload_n X.1 X.2.1 d_M_agent_153 rfl (lv_at hl 0 rfl) ?_
                                  refine m_get X Y 96 (by decide) lk_agentKeys (gf_agentKeys _ _ _) rfl d_M_agent_154 ?_
                                  refine lv_bipush (v := iI 64) X.1 X.2.1 d_M_agent_157 (by decide) ?_
                                  refine lv_iload_n X.1 X.2.1 d_M_agent_159 rfl (lv_at hl 1 rfl) ?_
                                  refine z_imul X.1 X.2.1 d_M_agent_160 ?_
                                  refine lv_bipush (v := iI 32) X.1 X.2.1 d_M_agent_161 (by decide) ?_
                                  refine lv_iload X.1 X.2.1 d_M_agent_163 (lv_at hl 3 rfl) ?_
                                  refine z_imul X.1 X.2.1 d_M_agent_165 ?_
                                  refine z_iadd X.1 X.2.1 d_M_agent_166 ?_
                                  refine lv_iload X.1 X.2.1 d_M_agent_167 (lv_at hl 4 rfl) ?_
                                  refine z_iadd X.1 X.2.1 d_M_agent_169 ?_
                                  refine lv_aload_n X.1 X.2.1 d_M_agent_170 rfl (lv_at hl 0 rfl) ?_
                                  refine m_get X Y 56 (by decide) lk_made (gf_made _ _ _) rfl d_M_agent_171 ?_
                                  refine lv_iload X.1 X.2.1 d_M_agent_174 (lv_at hl 4 rfl) ?_
                                  refine r_bald X Y S (aw_made _ _ _ _ _ _ _) rfl (by omega) (show z188 < ((32 : Nat) : Int) by omega) (by omega) d_M_agent_176 (fun z198 q198 l198 u198 => ?_)
                                  refine r_bast X Y S (aw_agentKeys _ _ _ _ _ _ _) (sw_agentKeys _ _ _ _ _ _ _) rfl (by omega) (show ((64 * a1) + (32 * z138)) + z188 < ((256 : Nat) : Int) by omega) (by omega) (by decide) d_M_agent_177 (fun B199 H locs Y S w199 => ?_)
                                  refine lv_iinc (v := iI (z188 + 1)) (lv' := [(5, .int (iI (z188 + 1))), (0, .ref h), (1, .int (iI a1)), (2, .int (iI a2)), (4, .int (iI z138))]) X.1 X.2.1 d_M_agent_178 hl (k := 4) rfl ((iI_add _ _).trans (congrArg iI (by omega))) (by decide) rfl (fun ls hl => ?_)
                                  refine lv_goto (tgt := 146) X.1 X.2.1 d_M_agent_181 (by decide) ?_
                                  exact ih194 ((32 - (z188 + 1)).toNat) (by omega) (z188 + 1) I187 J187 B199 G187 _ _ _ rfl (by omega) (by omega) (stA_cg (w199.2 110 (by decide)) (w199.2 118 (by decide)) (w199.2 119 (by decide)) (w199.2 120 (by decide)) f189) (stT_cg (w199.2 97 (by decide)) (w199.2 98 (by decide)) (w199.2 100 (by decide)) (w199.2 107 (by decide)) (w199.2 108 (by decide)) (w199.2 109 (by decide)) f190) e191 e192 Y S (lv_sub hl [1, 2, 3, 4, 0] rfl)
                            refine lv_istore (lv' := [(5, .int (iI 0)), (0, .ref h), (1, .int (iI a1)), (2, .int (iI a2)), (4, .int (iI z138))]) X.1 X.2.1 d_M_agent_144 hl (by decide) rfl (fun ls hl => ?_)
                            exact J193 _ 0 I186 J186 B186 G186 _ _ _ rfl (by omega) (by omega) (stA_cg (s186.2.2 110 (by decide)) (s186.2.2 118 (by decide)) (s186.2.2 119 (by decide)) (s186.2.2 120 (by decide)) f139) (stT_cg (s186.2.2 97 (by decide)) (s186.2.2 98 (by decide)) (s186.2.2 100 (by decide)) (s186.2.2 107 (by decide)) (s186.2.2 108 (by decide)) (s186.2.2 109 (by decide)) f140) ((s186.2.1 54 (by decide)).trans e141) ((s186.2.1 30 (by decide)).trans e142) Y S (lv_sub hl [1, 2, 3, 4, 0] rfl)
                          refine z_if_ne (tgt := 133) X.1 X.2.1 d_M_agent_125 (by decide) ⟨by omega, by omega⟩ (fun h200 => ?_) (fun h200 => ?_)
                          · refine lv_bipush (v := iI 32) X.1 X.2.1 d_M_agent_133 (by decide) ?_
                            exact J182 32 _ _ _ (by omega) (by omega) Y S (lv_sub hl [0, 1, 2, 3] rfl)
                          · refine lv_bipush (v := iI 16) X.1 X.2.1 d_M_agent_128 (by decide) ?_
                            refine lv_goto (tgt := 135) X.1 X.2.1 d_M_agent_130 (by decide) ?_
                            exact J182 16 _ _ _ (by omega) (by omega) Y S (lv_sub hl [0, 1, 2, 3] rfl)
                    refine lv_istore (lv' := [(4, .int (iI 0)), (0, .ref h), (1, .int (iI a1)), (2, .int (iI a2))]) X.1 X.2.1 d_M_agent_114 hl (by decide) rfl (fun ls hl => ?_)
                    exact J143 _ 0 I136 J136 B136 G136 _ _ _ rfl (by omega) (by omega) (stA_cg (s136.2.2 110 (by decide)) (s136.2.2 118 (by decide)) (s136.2.2 119 (by decide)) (s136.2.2 120 (by decide)) f127) (stT_cg (s136.2.2 97 (by decide)) (s136.2.2 98 (by decide)) (s136.2.2 100 (by decide)) (s136.2.2 107 (by decide)) (s136.2.2 108 (by decide)) (s136.2.2 109 (by decide)) f128) ((s136.2.1 54 (by decide)).trans e129) ((s136.2.1 30 (by decide)).trans e130) Y S (lv_sub hl [1, 2, 3, 0] rfl)
                  · refine lv_aload_n X.1 X.2.1 d_M_agent_75 rfl (lv_at hl 0 rfl) ?_
                    refine m_get X Y 92 (by decide) lk_agentNames (gf_agentNames _ _ _) rfl d_M_agent_76 ?_
                    refine lv_bipush (v := iI 40) X.1 X.2.1 d_M_agent_79 (by decide) ?_
                    refine lv_iload_n X.1 X.2.1 d_M_agent_81 rfl (lv_at hl 1 rfl) ?_
                    refine z_imul X.1 X.2.1 d_M_agent_82 ?_
                    refine lv_iload X.1 X.2.1 d_M_agent_83 (lv_at hl 3 rfl) ?_
                    refine z_iadd X.1 X.2.1 d_M_agent_85 ?_
                    refine lv_aload_n X.1 X.2.1 d_M_agent_86 rfl (lv_at hl 0 rfl) ?_
                    refine m_get X Y 53 (by decide) lk_name (gf_name _ _ _) rfl d_M_agent_87 ?_
                    refine lv_iload X.1 X.2.1 d_M_agent_90 (lv_at hl 3 rfl) ?_
                    refine r_bald X Y S (aw_name _ _ _ _ _ _ _) rfl (by omega) (show z126 < ((40 : Nat) : Int) by omega) (by omega) d_M_agent_92 (fun z201 q201 l201 u201 => ?_)
                    refine r_bast X Y S (aw_agentNames _ _ _ _ _ _ _) (sw_agentNames _ _ _ _ _ _ _) rfl (by omega) (show (40 * a1) + z126 < ((160 : Nat) : Int) by omega) (by omega) (by decide) d_M_agent_93 (fun B202 H locs Y S w202 => ?_)
                    refine lv_iinc (v := iI (z126 + 1)) (lv' := [(4, .int (iI (z126 + 1))), (0, .ref h), (1, .int (iI a1)), (2, .int (iI a2))]) X.1 X.2.1 d_M_agent_94 hl (k := 3) rfl ((iI_add _ _).trans (congrArg iI (by omega))) (by decide) rfl (fun ls hl => ?_)
                    refine lv_goto (tgt := 66) X.1 X.2.1 d_M_agent_97 (by decide) ?_
                    exact ih132 ((40 - (z126 + 1)).toNat) (by omega) (z126 + 1) I125 J125 B202 G125 _ _ _ rfl (by omega) (by omega) (stA_cg (w202.2 110 (by decide)) (w202.2 118 (by decide)) (w202.2 119 (by decide)) (w202.2 120 (by decide)) f127) (stT_cg (w202.2 97 (by decide)) (w202.2 98 (by decide)) (w202.2 100 (by decide)) (w202.2 107 (by decide)) (w202.2 108 (by decide)) (w202.2 109 (by decide)) f128) e129 e130 Y S (lv_sub hl [1, 2, 3, 0] rfl)
              refine lv_istore (lv' := [(4, .int (iI 0)), (3, .int (iI 1)), (0, .ref h), (1, .int (iI a1)), (2, .int (iI a2))]) X.1 X.2.1 d_M_agent_64 hl (by decide) rfl (fun ls hl => ?_)
              exact J131 _ 0 I119 J101 B124 G101 _ _ _ rfl (by omega) (by omega) (stA_cg (w124.2 110 (by decide)) (w124.2 118 (by decide)) (w124.2 119 (by decide)) (w124.2 120 (by decide)) f123) (stT_cg (w124.2 97 (by decide)) (w124.2 98 (by decide)) (w124.2 100 (by decide)) (w124.2 107 (by decide)) (w124.2 108 (by decide)) (w124.2 109 (by decide)) f122) ((w119.2 54 (by decide)).trans e102) ((w119.2 30 (by decide)).trans e103) Y S (lv_sub hl [2, 3, 4, 0] rfl)
set_option maxHeartbeats 4000000 in
set_option maxRecDepth 100000 in
theorem r_M_request (l : Launch) (D : mD) (E : mE) (h : Nat) (q : Nat → Nat) (sz : Nat) (I : Nat → Int32) (J : Nat → Int64) (B : Nat → Nat → Int32) (G : Nat → Nat → Int64) (a1 : Int) (l_a1 : (-2147483648) ≤ a1) (u_a1 : a1 ≤ 2147483647) (a2 : Int) (l_a2 : (-2147483648) ≤ a2) (u_a2 : a2 ≤ 2147483647) (a3 : Int) (l_a3 : (-2147483648) ≤ a3) (u_a3 : a3 ≤ 2147483647) (a4 : Int) (l_a4 : (-2147483648) ≤ a4) (u_a4 : a4 ≤ 2147483647) (a5 : Int) (l_a5 : (-2147483648) ≤ a5) (u_a5 : a5 ≤ 2147483647) (a6 : Int) (l_a6 : (-2147483648) ≤ a6) (u_a6 : a6 ≤ 2147483647) (a7 : Int) (l_a7 : (-2147483648) ≤ a7) (u_a7 : a7 ≤ 2147483647) (hT : rT I B) (cn : Int) (gcn : I 33 = iI cn) (lcn : 0 ≤ cn) (ucn : cn ≤ 1900000) (f_FT : stT (B 97) (B 98) (B 100) (B 107) (B 108) (B 109)) (f_FA : stA (B 110) (B 118) (B 119) (B 120)) : Met l y_M_request (k_M_request :: lw_tg) (mR 8 236) (va_Pc [.ref h, .int (iI a1), .int (iI a2), .int (iI a3), .int (iI a4), .int (iI a5), .int (iI a6), .int (iI a7)] (mPre D E h q (I, J, B, G) sz)) (va_Qi (rPi [2, 3, 8, 14, 18, 33, 36, 42, 54, 55] [0, 1, 5, 6, 7, 9, 10, 11, 12, 13, 15, 16, 17, 19, 20, 21, 22, 23, 34, 35, 53, 56, 58, 60, 95, 110, 111, 112, 113, 115, 116, 117, 118, 119, 120, 132] I B (fun (z : Int) (u : mS) => (-2147483648) ≤ z ∧ z ≤ 2147483647 ∧ (∃ V2 : Int, u.1 33 = iI V2 ∧ cn ≤ V2 ∧ V2 ≤ cn + 1000) ∧ stT (u.2.2.1 97) (u.2.2.1 98) (u.2.2.1 100) (u.2.2.1 107) (u.2.2.1 108) (u.2.2.1 109) ∧ stA (u.2.2.1 110) (u.2.2.1 118) (u.2.2.1 119) (u.2.2.1 120))) (mPost D E h q (mA E h q sz)) (mA E h q sz)) 0 0 (mA E h q sz) := by
  refine m_enter (by decide) rfl (Nat.le_of_ble_eq_true rfl) (fun p e s m below meth c ls AV QQ H locs hQQ X Y hZ hA hr hlk hml hl => ?_)
  have Y : mH D E (mA E h q sz) s.heap h q I J B G H locs := Y
  have S : rS [2, 3, 8, 14, 18, 33, 36, 42, 54, 55] [0, 1, 5, 6, 7, 9, 10, 11, 12, 13, 15, 16, 17, 19, 20, 21, 22, 23, 34, 35, 53, 56, 58, 60, 95, 110, 111, 112, 113, 115, 116, 117, 118, 119, 120, 132] I B I B := rS_rf hT
  have hl : lv_has ls 18 [(0, .ref h), (1, .int (iI a1)), (2, .int (iI a2)), (3, .int (iI a3)), (4, .int (iI a4)), (5, .int (iI a5)), (6, .int (iI a6)), (7, .int (iI a7))] := hl
  refine lv_aload_n X.1 X.2.1 d_M_request_0 rfl (lv_at hl 0 rfl) ?_
  refine lv_iconst (v := iI 1) X.1 X.2.1 d_M_request_1 (by decide) ?_
  refine r_ni (m_run (As := [.int (iI 1)]) (rest := []) (n := 1) X Y hZ hA hml hl.1 (r_M_nameRead l D E h q H.size I J B G 1 (by decide) (by decide) S.1) kl_M_nameRead ks_M_nameRead kx_M_nameRead ki_M_nameRead ini_M hd_M_nameRead ⟨Nat.le_of_ble_eq_true rfl, Nat.le_of_ble_eq_true rfl⟩ rfl (Nat.le_of_ble_eq_true rfl) d_M_request_2 ⟨Nat.le_refl _, Nat.le_refl _⟩) X Y hA S (by decide) (by decide) (fun z101 u H locs Y S s101 p101 => ?_)
  obtain ⟨I101, J101, B101, G101⟩ := u
  dsimp only at Y S s101 p101
  obtain ⟨l101, u101, x101⟩ := p101
  obtain ⟨z102, e102, x102, y102, y2102⟩ := x101
  refine z_if_eq (tgt := 78) X.1 X.2.1 d_M_request_5 (by decide) ⟨by omega, by omega⟩ (fun h103 => ?_) (fun h103 => ?_)
  · refine lv_iconst (v := iI 0) X.1 X.2.1 d_M_request_78 (by decide) ?_
    refine lv_istore (lv' := [(8, .int (iI 0)), (0, .ref h), (1, .int (iI a1)), (2, .int (iI a2)), (3, .int (iI a3)), (4, .int (iI a4)), (5, .int (iI a5)), (6, .int (iI a6)), (7, .int (iI a7))]) X.1 X.2.1 d_M_request_79 hl (by decide) rfl (fun ls hl => ?_)
    refine lv_iload X.1 X.2.1 d_M_request_81 (lv_at hl 0 rfl) ?_
    refine z_if_eq (tgt := 104) X.1 X.2.1 d_M_request_83 (by decide) ⟨by decide, by decide⟩ (fun h104 => ?_) (fun h104 => False.elim (by omega))
    · refine lv_iconst (v := iI 0) X.1 X.2.1 d_M_request_104 (by decide) ?_
      refine lv_istore (lv' := [(8, .int (iI 0)), (0, .ref h), (1, .int (iI a1)), (2, .int (iI a2)), (3, .int (iI a3)), (4, .int (iI a4)), (5, .int (iI a5)), (6, .int (iI a6)), (7, .int (iI a7))]) X.1 X.2.1 d_M_request_105 hl (by decide) rfl (fun ls hl => ?_)
      refine lv_aload_n X.1 X.2.1 d_M_request_107 rfl (lv_at hl 1 rfl) ?_
      refine lv_iconst (v := iI 0) X.1 X.2.1 d_M_request_108 (by decide) ?_
      refine r_puti (k := 2) X Y S (by decide) lk_length rfl rfl (t_M_ok 2 (by decide)) rfl rfl (sf_length _ _ _ _) (Nat.le_of_ble_eq_true rfl) rfl (show (0 : Int) ≤ 0 by omega) (show 0 ≤ (4000 : Int) by omega) ⟨by omega, by omega⟩ (by decide) d_M_request_109 (fun I105 H locs Y S w105 => ?_)
      refine lv_iload X.1 X.2.1 d_M_request_112 (lv_at hl 0 rfl) ?_
      refine z_if_ne (tgt := 119) X.1 X.2.1 d_M_request_114 (by decide) ⟨by decide, by decide⟩ (fun h106 => False.elim (by omega)) (fun h106 => ?_)
      · refine lv_iconst (v := iI (-1)) X.1 X.2.1 d_M_request_117 (by decide) ?_
        exact m_reti hQQ X Y hr hlk ⟨S, (-1), rfl, ⟨by omega, by omega, ⟨cn, ((w105.2 33 (by decide)).trans ((s101.2.1 33 (by decide)).trans gcn)), by omega, by omega⟩, (stT_cg rfl rfl rfl rfl rfl rfl (stT_cg (s101.2.2 97 (by decide)) (s101.2.2 98 (by decide)) (s101.2.2 100 (by decide)) (s101.2.2 107 (by decide)) (s101.2.2 108 (by decide)) (s101.2.2 109 (by decide)) f_FT)), (stA_cg rfl rfl rfl rfl (stA_cg (s101.2.2 110 (by decide)) (s101.2.2 118 (by decide)) (s101.2.2 119 (by decide)) (s101.2.2 120 (by decide)) f_FA))⟩⟩ d_M_request_118
  · refine lv_aload_n X.1 X.2.1 d_M_request_8 rfl (lv_at hl 0 rfl) ?_
    refine r_geti (k := 55) X Y S (by decide) lk_colon (gf_colon _ _ _) rfl rfl d_M_request_9 (fun z107 e107 l107 u107 => ?_)
    refine lv_aload_n X.1 X.2.1 d_M_request_12 rfl (lv_at hl 0 rfl) ?_
    refine r_geti (k := 2) X Y S (by decide) lk_length (gf_length _ _ _) rfl rfl d_M_request_13 (fun z108 e108 l108 u108 => ?_)
    refine z_icmp_ne (tgt := 78) X.1 X.2.1 d_M_request_16 (by decide) ⟨by omega, by omega⟩ ⟨by omega, by omega⟩ (fun h109 => ?_) (fun h109 => ?_)
    · refine lv_iconst (v := iI 0) X.1 X.2.1 d_M_request_78 (by decide) ?_
      refine lv_istore (lv' := [(8, .int (iI 0)), (0, .ref h), (1, .int (iI a1)), (2, .int (iI a2)), (3, .int (iI a3)), (4, .int (iI a4)), (5, .int (iI a5)), (6, .int (iI a6)), (7, .int (iI a7))]) X.1 X.2.1 d_M_request_79 hl (by decide) rfl (fun ls hl => ?_)
      refine lv_iload X.1 X.2.1 d_M_request_81 (lv_at hl 0 rfl) ?_
      refine z_if_eq (tgt := 104) X.1 X.2.1 d_M_request_83 (by decide) ⟨by decide, by decide⟩ (fun h110 => ?_) (fun h110 => False.elim (by omega))
      · refine lv_iconst (v := iI 0) X.1 X.2.1 d_M_request_104 (by decide) ?_
        refine lv_istore (lv' := [(8, .int (iI 0)), (0, .ref h), (1, .int (iI a1)), (2, .int (iI a2)), (3, .int (iI a3)), (4, .int (iI a4)), (5, .int (iI a5)), (6, .int (iI a6)), (7, .int (iI a7))]) X.1 X.2.1 d_M_request_105 hl (by decide) rfl (fun ls hl => ?_)
        refine lv_aload_n X.1 X.2.1 d_M_request_107 rfl (lv_at hl 1 rfl) ?_
        refine lv_iconst (v := iI 0) X.1 X.2.1 d_M_request_108 (by decide) ?_
        refine r_puti (k := 2) X Y S (by decide) lk_length rfl rfl (t_M_ok 2 (by decide)) rfl rfl (sf_length _ _ _ _) (Nat.le_of_ble_eq_true rfl) rfl (show (0 : Int) ≤ 0 by omega) (show 0 ≤ (4000 : Int) by omega) ⟨by omega, by omega⟩ (by decide) d_M_request_109 (fun I111 H locs Y S w111 => ?_)
        refine lv_iload X.1 X.2.1 d_M_request_112 (lv_at hl 0 rfl) ?_
        refine z_if_ne (tgt := 119) X.1 X.2.1 d_M_request_114 (by decide) ⟨by decide, by decide⟩ (fun h112 => False.elim (by omega)) (fun h112 => ?_)
        · refine lv_iconst (v := iI (-1)) X.1 X.2.1 d_M_request_117 (by decide) ?_
          exact m_reti hQQ X Y hr hlk ⟨S, (-1), rfl, ⟨by omega, by omega, ⟨cn, ((w111.2 33 (by decide)).trans ((s101.2.1 33 (by decide)).trans gcn)), by omega, by omega⟩, (stT_cg rfl rfl rfl rfl rfl rfl (stT_cg (s101.2.2 97 (by decide)) (s101.2.2 98 (by decide)) (s101.2.2 100 (by decide)) (s101.2.2 107 (by decide)) (s101.2.2 108 (by decide)) (s101.2.2 109 (by decide)) f_FT)), (stA_cg rfl rfl rfl rfl (stA_cg (s101.2.2 110 (by decide)) (s101.2.2 118 (by decide)) (s101.2.2 119 (by decide)) (s101.2.2 120 (by decide)) f_FA))⟩⟩ d_M_request_118
    · refine lv_aload_n X.1 X.2.1 d_M_request_19 rfl (lv_at hl 0 rfl) ?_
      refine lv_iload_n X.1 X.2.1 d_M_request_20 rfl (lv_at hl 1 rfl) ?_
      refine r_ni (m_run (As := [.int (iI a1)]) (rest := []) (n := 1) X Y hZ hA hml hl.1 (r_M_hasAgent l D E h q H.size I101 J101 B101 G101 a1 (by omega) (by omega) S.1) kl_M_hasAgent ks_M_hasAgent kx_M_hasAgent ki_M_hasAgent ini_M hd_M_hasAgent ⟨Nat.le_of_ble_eq_true rfl, Nat.le_of_ble_eq_true rfl⟩ rfl (Nat.le_of_ble_eq_true rfl) d_M_request_21 ⟨Nat.le_refl _, Nat.le_refl _⟩) X Y hA S (by decide) (by decide) (fun z113 u H locs Y S s113 p113 => ?_)
      obtain ⟨I113, J113, B113, G113⟩ := u
      dsimp only at Y S s113 p113
      have i113 : I101 = I113 := (funext (fun j => s113.2.1 j (by simp))).symm
      subst i113
      have b113 : B101 = B113 := (funext (fun j => s113.2.2 j (by simp))).symm
      subst b113
      obtain ⟨l113, u113, x113⟩ := p113
      refine z_if_eq (tgt := 78) X.1 X.2.1 d_M_request_24 (by decide) ⟨by omega, by omega⟩ (fun h114 => ?_) (fun h114 => ?_)
      · refine lv_iconst (v := iI 0) X.1 X.2.1 d_M_request_78 (by decide) ?_
        refine lv_istore (lv' := [(8, .int (iI 0)), (0, .ref h), (1, .int (iI a1)), (2, .int (iI a2)), (3, .int (iI a3)), (4, .int (iI a4)), (5, .int (iI a5)), (6, .int (iI a6)), (7, .int (iI a7))]) X.1 X.2.1 d_M_request_79 hl (by decide) rfl (fun ls hl => ?_)
        refine lv_iload X.1 X.2.1 d_M_request_81 (lv_at hl 0 rfl) ?_
        refine z_if_eq (tgt := 104) X.1 X.2.1 d_M_request_83 (by decide) ⟨by decide, by decide⟩ (fun h115 => ?_) (fun h115 => False.elim (by omega))
        · refine lv_iconst (v := iI 0) X.1 X.2.1 d_M_request_104 (by decide) ?_
          refine lv_istore (lv' := [(8, .int (iI 0)), (0, .ref h), (1, .int (iI a1)), (2, .int (iI a2)), (3, .int (iI a3)), (4, .int (iI a4)), (5, .int (iI a5)), (6, .int (iI a6)), (7, .int (iI a7))]) X.1 X.2.1 d_M_request_105 hl (by decide) rfl (fun ls hl => ?_)
          refine lv_aload_n X.1 X.2.1 d_M_request_107 rfl (lv_at hl 1 rfl) ?_
          refine lv_iconst (v := iI 0) X.1 X.2.1 d_M_request_108 (by decide) ?_
          refine r_puti (k := 2) X Y S (by decide) lk_length rfl rfl (t_M_ok 2 (by decide)) rfl rfl (sf_length _ _ _ _) (Nat.le_of_ble_eq_true rfl) rfl (show (0 : Int) ≤ 0 by omega) (show 0 ≤ (4000 : Int) by omega) ⟨by omega, by omega⟩ (by decide) d_M_request_109 (fun I116 H locs Y S w116 => ?_)
          refine lv_iload X.1 X.2.1 d_M_request_112 (lv_at hl 0 rfl) ?_
          refine z_if_ne (tgt := 119) X.1 X.2.1 d_M_request_114 (by decide) ⟨by decide, by decide⟩ (fun h117 => False.elim (by omega)) (fun h117 => ?_)
          · refine lv_iconst (v := iI (-1)) X.1 X.2.1 d_M_request_117 (by decide) ?_
            exact m_reti hQQ X Y hr hlk ⟨S, (-1), rfl, ⟨by omega, by omega, ⟨cn, ((w116.2 33 (by decide)).trans ((s101.2.1 33 (by decide)).trans gcn)), by omega, by omega⟩, (stT_cg rfl rfl rfl rfl rfl rfl (stT_cg rfl rfl rfl rfl rfl rfl (stT_cg (s101.2.2 97 (by decide)) (s101.2.2 98 (by decide)) (s101.2.2 100 (by decide)) (s101.2.2 107 (by decide)) (s101.2.2 108 (by decide)) (s101.2.2 109 (by decide)) f_FT))), (stA_cg rfl rfl rfl rfl (stA_cg rfl rfl rfl rfl (stA_cg (s101.2.2 110 (by decide)) (s101.2.2 118 (by decide)) (s101.2.2 119 (by decide)) (s101.2.2 120 (by decide)) f_FA)))⟩⟩ d_M_request_118
      · refine lv_iload_n X.1 X.2.1 d_M_request_27 rfl (lv_at hl 2 rfl) ?_
        refine z_if_lt (tgt := 78) X.1 X.2.1 d_M_request_28 (by decide) ⟨by omega, by omega⟩ (fun h118 => ?_) (fun h118 => ?_)
        · refine lv_iconst (v := iI 0) X.1 X.2.1 d_M_request_78 (by decide) ?_
          refine lv_istore (lv' := [(8, .int (iI 0)), (0, .ref h), (1, .int (iI a1)), (2, .int (iI a2)), (3, .int (iI a3)), (4, .int (iI a4)), (5, .int (iI a5)), (6, .int (iI a6)), (7, .int (iI a7))]) X.1 X.2.1 d_M_request_79 hl (by decide) rfl (fun ls hl => ?_)
          refine lv_iload X.1 X.2.1 d_M_request_81 (lv_at hl 0 rfl) ?_
          refine z_if_eq (tgt := 104) X.1 X.2.1 d_M_request_83 (by decide) ⟨by decide, by decide⟩ (fun h119 => ?_) (fun h119 => False.elim (by omega))
          · refine lv_iconst (v := iI 0) X.1 X.2.1 d_M_request_104 (by decide) ?_
            refine lv_istore (lv' := [(8, .int (iI 0)), (0, .ref h), (1, .int (iI a1)), (2, .int (iI a2)), (3, .int (iI a3)), (4, .int (iI a4)), (5, .int (iI a5)), (6, .int (iI a6)), (7, .int (iI a7))]) X.1 X.2.1 d_M_request_105 hl (by decide) rfl (fun ls hl => ?_)
            refine lv_aload_n X.1 X.2.1 d_M_request_107 rfl (lv_at hl 1 rfl) ?_
            refine lv_iconst (v := iI 0) X.1 X.2.1 d_M_request_108 (by decide) ?_
            refine r_puti (k := 2) X Y S (by decide) lk_length rfl rfl (t_M_ok 2 (by decide)) rfl rfl (sf_length _ _ _ _) (Nat.le_of_ble_eq_true rfl) rfl (show (0 : Int) ≤ 0 by omega) (show 0 ≤ (4000 : Int) by omega) ⟨by omega, by omega⟩ (by decide) d_M_request_109 (fun I120 H locs Y S w120 => ?_)
            refine lv_iload X.1 X.2.1 d_M_request_112 (lv_at hl 0 rfl) ?_
            refine z_if_ne (tgt := 119) X.1 X.2.1 d_M_request_114 (by decide) ⟨by decide, by decide⟩ (fun h121 => False.elim (by omega)) (fun h121 => ?_)
            · refine lv_iconst (v := iI (-1)) X.1 X.2.1 d_M_request_117 (by decide) ?_
              exact m_reti hQQ X Y hr hlk ⟨S, (-1), rfl, ⟨by omega, by omega, ⟨cn, ((w120.2 33 (by decide)).trans ((s101.2.1 33 (by decide)).trans gcn)), by omega, by omega⟩, (stT_cg rfl rfl rfl rfl rfl rfl (stT_cg rfl rfl rfl rfl rfl rfl (stT_cg (s101.2.2 97 (by decide)) (s101.2.2 98 (by decide)) (s101.2.2 100 (by decide)) (s101.2.2 107 (by decide)) (s101.2.2 108 (by decide)) (s101.2.2 109 (by decide)) f_FT))), (stA_cg rfl rfl rfl rfl (stA_cg rfl rfl rfl rfl (stA_cg (s101.2.2 110 (by decide)) (s101.2.2 118 (by decide)) (s101.2.2 119 (by decide)) (s101.2.2 120 (by decide)) f_FA)))⟩⟩ d_M_request_118
        · refine lv_iload_n X.1 X.2.1 d_M_request_31 rfl (lv_at hl 2 rfl) ?_
          refine lv_iconst (v := iI 2) X.1 X.2.1 d_M_request_32 (by decide) ?_
          refine z_icmp_gt (tgt := 78) X.1 X.2.1 d_M_request_33 (by decide) ⟨by omega, by omega⟩ ⟨by decide, by decide⟩ (fun h122 => ?_) (fun h122 => ?_)
          · refine lv_iconst (v := iI 0) X.1 X.2.1 d_M_request_78 (by decide) ?_
            refine lv_istore (lv' := [(8, .int (iI 0)), (0, .ref h), (1, .int (iI a1)), (2, .int (iI a2)), (3, .int (iI a3)), (4, .int (iI a4)), (5, .int (iI a5)), (6, .int (iI a6)), (7, .int (iI a7))]) X.1 X.2.1 d_M_request_79 hl (by decide) rfl (fun ls hl => ?_)
            refine lv_iload X.1 X.2.1 d_M_request_81 (lv_at hl 0 rfl) ?_
            refine z_if_eq (tgt := 104) X.1 X.2.1 d_M_request_83 (by decide) ⟨by decide, by decide⟩ (fun h123 => ?_) (fun h123 => False.elim (by omega))
            · refine lv_iconst (v := iI 0) X.1 X.2.1 d_M_request_104 (by decide) ?_
              refine lv_istore (lv' := [(8, .int (iI 0)), (0, .ref h), (1, .int (iI a1)), (2, .int (iI a2)), (3, .int (iI a3)), (4, .int (iI a4)), (5, .int (iI a5)), (6, .int (iI a6)), (7, .int (iI a7))]) X.1 X.2.1 d_M_request_105 hl (by decide) rfl (fun ls hl => ?_)
              refine lv_aload_n X.1 X.2.1 d_M_request_107 rfl (lv_at hl 1 rfl) ?_
              refine lv_iconst (v := iI 0) X.1 X.2.1 d_M_request_108 (by decide) ?_
              refine r_puti (k := 2) X Y S (by decide) lk_length rfl rfl (t_M_ok 2 (by decide)) rfl rfl (sf_length _ _ _ _) (Nat.le_of_ble_eq_true rfl) rfl (show (0 : Int) ≤ 0 by omega) (show 0 ≤ (4000 : Int) by omega) ⟨by omega, by omega⟩ (by decide) d_M_request_109 (fun I124 H locs Y S w124 => ?_)
              refine lv_iload X.1 X.2.1 d_M_request_112 (lv_at hl 0 rfl) ?_
              refine z_if_ne (tgt := 119) X.1 X.2.1 d_M_request_114 (by decide) ⟨by decide, by decide⟩ (fun h125 => False.elim (by omega)) (fun h125 => ?_)
              · refine lv_iconst (v := iI (-1)) X.1 X.2.1 d_M_request_117 (by decide) ?_
                exact m_reti hQQ X Y hr hlk ⟨S, (-1), rfl, ⟨by omega, by omega, ⟨cn, ((w124.2 33 (by decide)).trans ((s101.2.1 33 (by decide)).trans gcn)), by omega, by omega⟩, (stT_cg rfl rfl rfl rfl rfl rfl (stT_cg rfl rfl rfl rfl rfl rfl (stT_cg (s101.2.2 97 (by decide)) (s101.2.2 98 (by decide)) (s101.2.2 100 (by decide)) (s101.2.2 107 (by decide)) (s101.2.2 108 (by decide)) (s101.2.2 109 (by decide)) f_FT))), (stA_cg rfl rfl rfl rfl (stA_cg rfl rfl rfl rfl (stA_cg (s101.2.2 110 (by decide)) (s101.2.2 118 (by decide)) (s101.2.2 119 (by decide)) (s101.2.2 120 (by decide)) f_FA)))⟩⟩ d_M_request_118
          · refine lv_iload X.1 X.2.1 d_M_request_36 (lv_at hl 5 rfl) ?_
            refine lv_iconst (v := iI 1) X.1 X.2.1 d_M_request_38 (by decide) ?_
            refine z_icmp_lt (tgt := 78) X.1 X.2.1 d_M_request_39 (by decide) ⟨by omega, by omega⟩ ⟨by decide, by decide⟩ (fun h126 => ?_) (fun h126 => ?_)
            · refine lv_iconst (v := iI 0) X.1 X.2.1 d_M_request_78 (by decide) ?_
              refine lv_istore (lv' := [(8, .int (iI 0)), (0, .ref h), (1, .int (iI a1)), (2, .int (iI a2)), (3, .int (iI a3)), (4, .int (iI a4)), (5, .int (iI a5)), (6, .int (iI a6)), (7, .int (iI a7))]) X.1 X.2.1 d_M_request_79 hl (by decide) rfl (fun ls hl => ?_)
              refine lv_iload X.1 X.2.1 d_M_request_81 (lv_at hl 0 rfl) ?_
              refine z_if_eq (tgt := 104) X.1 X.2.1 d_M_request_83 (by decide) ⟨by decide, by decide⟩ (fun h127 => ?_) (fun h127 => False.elim (by omega))
              · refine lv_iconst (v := iI 0) X.1 X.2.1 d_M_request_104 (by decide) ?_
                refine lv_istore (lv' := [(8, .int (iI 0)), (0, .ref h), (1, .int (iI a1)), (2, .int (iI a2)), (3, .int (iI a3)), (4, .int (iI a4)), (5, .int (iI a5)), (6, .int (iI a6)), (7, .int (iI a7))]) X.1 X.2.1 d_M_request_105 hl (by decide) rfl (fun ls hl => ?_)
                refine lv_aload_n X.1 X.2.1 d_M_request_107 rfl (lv_at hl 1 rfl) ?_
                refine lv_iconst (v := iI 0) X.1 X.2.1 d_M_request_108 (by decide) ?_
                refine r_puti (k := 2) X Y S (by decide) lk_length rfl rfl (t_M_ok 2 (by decide)) rfl rfl (sf_length _ _ _ _) (Nat.le_of_ble_eq_true rfl) rfl (show (0 : Int) ≤ 0 by omega) (show 0 ≤ (4000 : Int) by omega) ⟨by omega, by omega⟩ (by decide) d_M_request_109 (fun I128 H locs Y S w128 => ?_)
                refine lv_iload X.1 X.2.1 d_M_request_112 (lv_at hl 0 rfl) ?_
                refine z_if_ne (tgt := 119) X.1 X.2.1 d_M_request_114 (by decide) ⟨by decide, by decide⟩ (fun h129 => False.elim (by omega)) (fun h129 => ?_)
                · refine lv_iconst (v := iI (-1)) X.1 X.2.1 d_M_request_117 (by decide) ?_
                  exact m_reti hQQ X Y hr hlk ⟨S, (-1), rfl, ⟨by omega, by omega, ⟨cn, ((w128.2 33 (by decide)).trans ((s101.2.1 33 (by decide)).trans gcn)), by omega, by omega⟩, (stT_cg rfl rfl rfl rfl rfl rfl (stT_cg rfl rfl rfl rfl rfl rfl (stT_cg (s101.2.2 97 (by decide)) (s101.2.2 98 (by decide)) (s101.2.2 100 (by decide)) (s101.2.2 107 (by decide)) (s101.2.2 108 (by decide)) (s101.2.2 109 (by decide)) f_FT))), (stA_cg rfl rfl rfl rfl (stA_cg rfl rfl rfl rfl (stA_cg (s101.2.2 110 (by decide)) (s101.2.2 118 (by decide)) (s101.2.2 119 (by decide)) (s101.2.2 120 (by decide)) f_FA)))⟩⟩ d_M_request_118
            · refine lv_iload X.1 X.2.1 d_M_request_42 (lv_at hl 5 rfl) ?_
              refine lv_iconst (v := iI 4) X.1 X.2.1 d_M_request_44 (by decide) ?_
              refine z_icmp_gt (tgt := 78) X.1 X.2.1 d_M_request_45 (by decide) ⟨by omega, by omega⟩ ⟨by decide, by decide⟩ (fun h130 => ?_) (fun h130 => ?_)
              · refine lv_iconst (v := iI 0) X.1 X.2.1 d_M_request_78 (by decide) ?_
                refine lv_istore (lv' := [(8, .int (iI 0)), (0, .ref h), (1, .int (iI a1)), (2, .int (iI a2)), (3, .int (iI a3)), (4, .int (iI a4)), (5, .int (iI a5)), (6, .int (iI a6)), (7, .int (iI a7))]) X.1 X.2.1 d_M_request_79 hl (by decide) rfl (fun ls hl => ?_)
                refine lv_iload X.1 X.2.1 d_M_request_81 (lv_at hl 0 rfl) ?_
                refine z_if_eq (tgt := 104) X.1 X.2.1 d_M_request_83 (by decide) ⟨by decide, by decide⟩ (fun h131 => ?_) (fun h131 => False.elim (by omega))
                · refine lv_iconst (v := iI 0) X.1 X.2.1 d_M_request_104 (by decide) ?_
                  refine lv_istore (lv' := [(8, .int (iI 0)), (0, .ref h), (1, .int (iI a1)), (2, .int (iI a2)), (3, .int (iI a3)), (4, .int (iI a4)), (5, .int (iI a5)), (6, .int (iI a6)), (7, .int (iI a7))]) X.1 X.2.1 d_M_request_105 hl (by decide) rfl (fun ls hl => ?_)
                  refine lv_aload_n X.1 X.2.1 d_M_request_107 rfl (lv_at hl 1 rfl) ?_
                  refine lv_iconst (v := iI 0) X.1 X.2.1 d_M_request_108 (by decide) ?_
                  refine r_puti (k := 2) X Y S (by decide) lk_length rfl rfl (t_M_ok 2 (by decide)) rfl rfl (sf_length _ _ _ _) (Nat.le_of_ble_eq_true rfl) rfl (show (0 : Int) ≤ 0 by omega) (show 0 ≤ (4000 : Int) by omega) ⟨by omega, by omega⟩ (by decide) d_M_request_109 (fun I132 H locs Y S w132 => ?_)
                  refine lv_iload X.1 X.2.1 d_M_request_112 (lv_at hl 0 rfl) ?_
                  refine z_if_ne (tgt := 119) X.1 X.2.1 d_M_request_114 (by decide) ⟨by decide, by decide⟩ (fun h133 => False.elim (by omega)) (fun h133 => ?_)
                  · refine lv_iconst (v := iI (-1)) X.1 X.2.1 d_M_request_117 (by decide) ?_
                    exact m_reti hQQ X Y hr hlk ⟨S, (-1), rfl, ⟨by omega, by omega, ⟨cn, ((w132.2 33 (by decide)).trans ((s101.2.1 33 (by decide)).trans gcn)), by omega, by omega⟩, (stT_cg rfl rfl rfl rfl rfl rfl (stT_cg rfl rfl rfl rfl rfl rfl (stT_cg (s101.2.2 97 (by decide)) (s101.2.2 98 (by decide)) (s101.2.2 100 (by decide)) (s101.2.2 107 (by decide)) (s101.2.2 108 (by decide)) (s101.2.2 109 (by decide)) f_FT))), (stA_cg rfl rfl rfl rfl (stA_cg rfl rfl rfl rfl (stA_cg (s101.2.2 110 (by decide)) (s101.2.2 118 (by decide)) (s101.2.2 119 (by decide)) (s101.2.2 120 (by decide)) f_FA)))⟩⟩ d_M_request_118
              · refine lv_iload X.1 X.2.1 d_M_request_48 (lv_at hl 6 rfl) ?_
                refine z_if_lt (tgt := 78) X.1 X.2.1 d_M_request_50 (by decide) ⟨by omega, by omega⟩ (fun h134 => ?_) (fun h134 => ?_)
                · refine lv_iconst (v := iI 0) X.1 X.2.1 d_M_request_78 (by decide) ?_
                  refine lv_istore (lv' := [(8, .int (iI 0)), (0, .ref h), (1, .int (iI a1)), (2, .int (iI a2)), (3, .int (iI a3)), (4, .int (iI a4)), (5, .int (iI a5)), (6, .int (iI a6)), (7, .int (iI a7))]) X.1 X.2.1 d_M_request_79 hl (by decide) rfl (fun ls hl => ?_)
                  refine lv_iload X.1 X.2.1 d_M_request_81 (lv_at hl 0 rfl) ?_
                  refine z_if_eq (tgt := 104) X.1 X.2.1 d_M_request_83 (by decide) ⟨by decide, by decide⟩ (fun h135 => ?_) (fun h135 => False.elim (by omega))
                  · refine lv_iconst (v := iI 0) X.1 X.2.1 d_M_request_104 (by decide) ?_
                    refine lv_istore (lv' := [(8, .int (iI 0)), (0, .ref h), (1, .int (iI a1)), (2, .int (iI a2)), (3, .int (iI a3)), (4, .int (iI a4)), (5, .int (iI a5)), (6, .int (iI a6)), (7, .int (iI a7))]) X.1 X.2.1 d_M_request_105 hl (by decide) rfl (fun ls hl => ?_)
                    refine lv_aload_n X.1 X.2.1 d_M_request_107 rfl (lv_at hl 1 rfl) ?_
                    refine lv_iconst (v := iI 0) X.1 X.2.1 d_M_request_108 (by decide) ?_
                    refine r_puti (k := 2) X Y S (by decide) lk_length rfl rfl (t_M_ok 2 (by decide)) rfl rfl (sf_length _ _ _ _) (Nat.le_of_ble_eq_true rfl) rfl (show (0 : Int) ≤ 0 by omega) (show 0 ≤ (4000 : Int) by omega) ⟨by omega, by omega⟩ (by decide) d_M_request_109 (fun I136 H locs Y S w136 => ?_)
                    refine lv_iload X.1 X.2.1 d_M_request_112 (lv_at hl 0 rfl) ?_
                    refine z_if_ne (tgt := 119) X.1 X.2.1 d_M_request_114 (by decide) ⟨by decide, by decide⟩ (fun h137 => False.elim (by omega)) (fun h137 => ?_)
                    · refine lv_iconst (v := iI (-1)) X.1 X.2.1 d_M_request_117 (by decide) ?_
                      exact m_reti hQQ X Y hr hlk ⟨S, (-1), rfl, ⟨by omega, by omega, ⟨cn, ((w136.2 33 (by decide)).trans ((s101.2.1 33 (by decide)).trans gcn)), by omega, by omega⟩, (stT_cg rfl rfl rfl rfl rfl rfl (stT_cg rfl rfl rfl rfl rfl rfl (stT_cg (s101.2.2 97 (by decide)) (s101.2.2 98 (by decide)) (s101.2.2 100 (by decide)) (s101.2.2 107 (by decide)) (s101.2.2 108 (by decide)) (s101.2.2 109 (by decide)) f_FT))), (stA_cg rfl rfl rfl rfl (stA_cg rfl rfl rfl rfl (stA_cg (s101.2.2 110 (by decide)) (s101.2.2 118 (by decide)) (s101.2.2 119 (by decide)) (s101.2.2 120 (by decide)) f_FA)))⟩⟩ d_M_request_118
                · refine lv_iload X.1 X.2.1 d_M_request_53 (lv_at hl 6 rfl) ?_
                  refine lv_ldcw (v := (100000000)) X.1 X.2.1 X.2.2.2.1 (X.2.2.1 _ cn_M_926) d_M_request_55 ?_
                  refine t_eq (y := iI 100000000) (by decide) ?_
                  refine z_icmp_gt (tgt := 78) X.1 X.2.1 d_M_request_58 (by decide) ⟨by omega, by omega⟩ ⟨by decide, by decide⟩ (fun h138 => ?_) (fun h138 => ?_)
                  · refine lv_iconst (v := iI 0) X.1 X.2.1 d_M_request_78 (by decide) ?_
                    refine lv_istore (lv' := [(8, .int (iI 0)), (0, .ref h), (1, .int (iI a1)), (2, .int (iI a2)), (3, .int (iI a3)), (4, .int (iI a4)), (5, .int (iI a5)), (6, .int (iI a6)), (7, .int (iI a7))]) X.1 X.2.1 d_M_request_79 hl (by decide) rfl (fun ls hl => ?_)
                    refine lv_iload X.1 X.2.1 d_M_request_81 (lv_at hl 0 rfl) ?_
                    refine z_if_eq (tgt := 104) X.1 X.2.1 d_M_request_83 (by decide) ⟨by decide, by decide⟩ (fun h139 => ?_) (fun h139 => False.elim (by omega))
                    · refine lv_iconst (v := iI 0) X.1 X.2.1 d_M_request_104 (by decide) ?_
                      refine lv_istore (lv' := [(8, .int (iI 0)), (0, .ref h), (1, .int (iI a1)), (2, .int (iI a2)), (3, .int (iI a3)), (4, .int (iI a4)), (5, .int (iI a5)), (6, .int (iI a6)), (7, .int (iI a7))]) X.1 X.2.1 d_M_request_105 hl (by decide) rfl (fun ls hl => ?_)
                      refine lv_aload_n X.1 X.2.1 d_M_request_107 rfl (lv_at hl 1 rfl) ?_
                      refine lv_iconst (v := iI 0) X.1 X.2.1 d_M_request_108 (by decide) ?_
                      refine r_puti (k := 2) X Y S (by decide) lk_length rfl rfl (t_M_ok 2 (by decide)) rfl rfl (sf_length _ _ _ _) (Nat.le_of_ble_eq_true rfl) rfl (show (0 : Int) ≤ 0 by omega) (show 0 ≤ (4000 : Int) by omega) ⟨by omega, by omega⟩ (by decide) d_M_request_109 (fun I140 H locs Y S w140 => ?_)
                      refine lv_iload X.1 X.2.1 d_M_request_112 (lv_at hl 0 rfl) ?_
                      refine z_if_ne (tgt := 119) X.1 X.2.1 d_M_request_114 (by decide) ⟨by decide, by decide⟩ (fun h141 => False.elim (by omega)) (fun h141 => ?_)
                      · refine lv_iconst (v := iI (-1)) X.1 X.2.1 d_M_request_117 (by decide) ?_
                        exact m_reti hQQ X Y hr hlk ⟨S, (-1), rfl, ⟨by omega, by omega, ⟨cn, ((w140.2 33 (by decide)).trans ((s101.2.1 33 (by decide)).trans gcn)), by omega, by omega⟩, (stT_cg rfl rfl rfl rfl rfl rfl (stT_cg rfl rfl rfl rfl rfl rfl (stT_cg (s101.2.2 97 (by decide)) (s101.2.2 98 (by decide)) (s101.2.2 100 (by decide)) (s101.2.2 107 (by decide)) (s101.2.2 108 (by decide)) (s101.2.2 109 (by decide)) f_FT))), (stA_cg rfl rfl rfl rfl (stA_cg rfl rfl rfl rfl (stA_cg (s101.2.2 110 (by decide)) (s101.2.2 118 (by decide)) (s101.2.2 119 (by decide)) (s101.2.2 120 (by decide)) f_FA)))⟩⟩ d_M_request_118
                  · refine lv_iload X.1 X.2.1 d_M_request_61 (lv_at hl 7 rfl) ?_
                    refine z_if_lt (tgt := 78) X.1 X.2.1 d_M_request_63 (by decide) ⟨by omega, by omega⟩ (fun h142 => ?_) (fun h142 => ?_)
                    · refine lv_iconst (v := iI 0) X.1 X.2.1 d_M_request_78 (by decide) ?_
                      refine lv_istore (lv' := [(8, .int (iI 0)), (0, .ref h), (1, .int (iI a1)), (2, .int (iI a2)), (3, .int (iI a3)), (4, .int (iI a4)), (5, .int (iI a5)), (6, .int (iI a6)), (7, .int (iI a7))]) X.1 X.2.1 d_M_request_79 hl (by decide) rfl (fun ls hl => ?_)
                      refine lv_iload X.1 X.2.1 d_M_request_81 (lv_at hl 0 rfl) ?_
                      refine z_if_eq (tgt := 104) X.1 X.2.1 d_M_request_83 (by decide) ⟨by decide, by decide⟩ (fun h143 => ?_) (fun h143 => False.elim (by omega))
                      · refine lv_iconst (v := iI 0) X.1 X.2.1 d_M_request_104 (by decide) ?_
                        refine lv_istore (lv' := [(8, .int (iI 0)), (0, .ref h), (1, .int (iI a1)), (2, .int (iI a2)), (3, .int (iI a3)), (4, .int (iI a4)), (5, .int (iI a5)), (6, .int (iI a6)), (7, .int (iI a7))]) X.1 X.2.1 d_M_request_105 hl (by decide) rfl (fun ls hl => ?_)
                        refine lv_aload_n X.1 X.2.1 d_M_request_107 rfl (lv_at hl 1 rfl) ?_
                        refine lv_iconst (v := iI 0) X.1 X.2.1 d_M_request_108 (by decide) ?_
                        refine r_puti (k := 2) X Y S (by decide) lk_length rfl rfl (t_M_ok 2 (by decide)) rfl rfl (sf_length _ _ _ _) (Nat.le_of_ble_eq_true rfl) rfl (show (0 : Int) ≤ 0 by omega) (show 0 ≤ (4000 : Int) by omega) ⟨by omega, by omega⟩ (by decide) d_M_request_109 (fun I144 H locs Y S w144 => ?_)
                        refine lv_iload X.1 X.2.1 d_M_request_112 (lv_at hl 0 rfl) ?_
                        refine z_if_ne (tgt := 119) X.1 X.2.1 d_M_request_114 (by decide) ⟨by decide, by decide⟩ (fun h145 => False.elim (by omega)) (fun h145 => ?_)
                        · refine lv_iconst (v := iI (-1)) X.1 X.2.1 d_M_request_117 (by decide) ?_
                          exact m_reti hQQ X Y hr hlk ⟨S, (-1), rfl, ⟨by omega, by omega, ⟨cn, ((w144.2 33 (by decide)).trans ((s101.2.1 33 (by decide)).trans gcn)), by omega, by omega⟩, (stT_cg rfl rfl rfl rfl rfl rfl (stT_cg rfl rfl rfl rfl rfl rfl (stT_cg (s101.2.2 97 (by decide)) (s101.2.2 98 (by decide)) (s101.2.2 100 (by decide)) (s101.2.2 107 (by decide)) (s101.2.2 108 (by decide)) (s101.2.2 109 (by decide)) f_FT))), (stA_cg rfl rfl rfl rfl (stA_cg rfl rfl rfl rfl (stA_cg (s101.2.2 110 (by decide)) (s101.2.2 118 (by decide)) (s101.2.2 119 (by decide)) (s101.2.2 120 (by decide)) f_FA)))⟩⟩ d_M_request_118
                    · refine lv_iload X.1 X.2.1 d_M_request_66 (lv_at hl 7 rfl) ?_
                      refine lv_ldcw (v := (100000000)) X.1 X.2.1 X.2.2.2.1 (X.2.2.1 _ cn_M_926) d_M_request_68 ?_
                      refine t_eq (y := iI 100000000) (by decide) ?_
                      refine z_icmp_gt (tgt := 78) X.1 X.2.1 d_M_request_71 (by decide) ⟨by omega, by omega⟩ ⟨by decide, by decide⟩ (fun h146 => ?_) (fun h146 => ?_)
                      · refine lv_iconst (v := iI 0) X.1 X.2.1 d_M_request_78 (by decide) ?_
                        refine lv_istore (lv' := [(8, .int (iI 0)), (0, .ref h), (1, .int (iI a1)), (2, .int (iI a2)), (3, .int (iI a3)), (4, .int (iI a4)), (5, .int (iI a5)), (6, .int (iI a6)), (7, .int (iI a7))]) X.1 X.2.1 d_M_request_79 hl (by decide) rfl (fun ls hl => ?_)
                        refine lv_iload X.1 X.2.1 d_M_request_81 (lv_at hl 0 rfl) ?_
                        refine z_if_eq (tgt := 104) X.1 X.2.1 d_M_request_83 (by decide) ⟨by decide, by decide⟩ (fun h147 => ?_) (fun h147 => False.elim (by omega))
                        · refine lv_iconst (v := iI 0) X.1 X.2.1 d_M_request_104 (by decide) ?_
                          refine lv_istore (lv' := [(8, .int (iI 0)), (0, .ref h), (1, .int (iI a1)), (2, .int (iI a2)), (3, .int (iI a3)), (4, .int (iI a4)), (5, .int (iI a5)), (6, .int (iI a6)), (7, .int (iI a7))]) X.1 X.2.1 d_M_request_105 hl (by decide) rfl (fun ls hl => ?_)
                          refine lv_aload_n X.1 X.2.1 d_M_request_107 rfl (lv_at hl 1 rfl) ?_
                          refine lv_iconst (v := iI 0) X.1 X.2.1 d_M_request_108 (by decide) ?_
                          refine r_puti (k := 2) X Y S (by decide) lk_length rfl rfl (t_M_ok 2 (by decide)) rfl rfl (sf_length _ _ _ _) (Nat.le_of_ble_eq_true rfl) rfl (show (0 : Int) ≤ 0 by omega) (show 0 ≤ (4000 : Int) by omega) ⟨by omega, by omega⟩ (by decide) d_M_request_109 (fun I148 H locs Y S w148 => ?_)
                          refine lv_iload X.1 X.2.1 d_M_request_112 (lv_at hl 0 rfl) ?_
                          refine z_if_ne (tgt := 119) X.1 X.2.1 d_M_request_114 (by decide) ⟨by decide, by decide⟩ (fun h149 => False.elim (by omega)) (fun h149 => ?_)
                          · refine lv_iconst (v := iI (-1)) X.1 X.2.1 d_M_request_117 (by decide) ?_
                            exact m_reti hQQ X Y hr hlk ⟨S, (-1), rfl, ⟨by omega, by omega, ⟨cn, ((w148.2 33 (by decide)).trans ((s101.2.1 33 (by decide)).trans gcn)), by omega, by omega⟩, (stT_cg rfl rfl rfl rfl rfl rfl (stT_cg rfl rfl rfl rfl rfl rfl (stT_cg (s101.2.2 97 (by decide)) (s101.2.2 98 (by decide)) (s101.2.2 100 (by decide)) (s101.2.2 107 (by decide)) (s101.2.2 108 (by decide)) (s101.2.2 109 (by decide)) f_FT))), (stA_cg rfl rfl rfl rfl (stA_cg rfl rfl rfl rfl (stA_cg (s101.2.2 110 (by decide)) (s101.2.2 118 (by decide)) (s101.2.2 119 (by decide)) (s101.2.2 120 (by decide)) f_FA)))⟩⟩ d_M_request_118
                      · refine lv_iconst (v := iI 1) X.1 X.2.1 d_M_request_74 (by decide) ?_
                        refine lv_goto (tgt := 79) X.1 X.2.1 d_M_request_75 (by decide) ?_
                        refine lv_istore (lv' := [(8, .int (iI 1)), (0, .ref h), (1, .int (iI a1)), (2, .int (iI a2)), (3, .int (iI a3)), (4, .int (iI a4)), (5, .int (iI a5)), (6, .int (iI a6)), (7, .int (iI a7))]) X.1 X.2.1 d_M_request_79 hl (by decide) rfl (fun ls hl => ?_)
                        refine lv_iload X.1 X.2.1 d_M_request_81 (lv_at hl 0 rfl) ?_
                        refine z_if_eq (tgt := 104) X.1 X.2.1 d_M_request_83 (by decide) ⟨by decide, by decide⟩ (fun h150 => False.elim (by omega)) (fun h150 => ?_)
                        · refine lv_iload_n X.1 X.2.1 d_M_request_86 rfl (lv_at hl 3 rfl) ?_
                          refine lv_iconst (v := iI 2) X.1 X.2.1 d_M_request_87 (by decide) ?_
                          refine z_icmp_lt (tgt := 100) X.1 X.2.1 d_M_request_88 (by decide) ⟨by omega, by omega⟩ ⟨by decide, by decide⟩ (fun h151 => ?_) (fun h151 => ?_)
                          · refine lv_iconst (v := iI 1) X.1 X.2.1 d_M_request_100 (by decide) ?_
                            refine lv_goto (tgt := 105) X.1 X.2.1 d_M_request_101 (by decide) ?_
                            refine lv_istore (lv' := [(8, .int (iI 1)), (0, .ref h), (1, .int (iI a1)), (2, .int (iI a2)), (3, .int (iI a3)), (4, .int (iI a4)), (5, .int (iI a5)), (6, .int (iI a6)), (7, .int (iI a7))]) X.1 X.2.1 d_M_request_105 hl (by decide) rfl (fun ls hl => ?_)
                            refine lv_aload_n X.1 X.2.1 d_M_request_107 rfl (lv_at hl 1 rfl) ?_
                            refine lv_iconst (v := iI 0) X.1 X.2.1 d_M_request_108 (by decide) ?_
                            refine r_puti (k := 2) X Y S (by decide) lk_length rfl rfl (t_M_ok 2 (by decide)) rfl rfl (sf_length _ _ _ _) (Nat.le_of_ble_eq_true rfl) rfl (show (0 : Int) ≤ 0 by omega) (show 0 ≤ (4000 : Int) by omega) ⟨by omega, by omega⟩ (by decide) d_M_request_109 (fun I152 H locs Y S w152 => ?_)
                            refine lv_iload X.1 X.2.1 d_M_request_112 (lv_at hl 0 rfl) ?_
                            refine z_if_ne (tgt := 119) X.1 X.2.1 d_M_request_114 (by decide) ⟨by decide, by decide⟩ (fun h153 => ?_) (fun h153 => False.elim (by omega))
                            · refine lv_bipush (v := iI 8) X.1 X.2.1 d_M_request_119 (by decide) ?_
                              refine lv_iload_n X.1 X.2.1 d_M_request_121 rfl (lv_at hl 2 rfl) ?_
                              refine z_imul X.1 X.2.1 d_M_request_122 ?_
                              refine lv_iload_n X.1 X.2.1 d_M_request_123 rfl (lv_at hl 4 rfl) ?_
                              refine lv_iadd X.1 X.2.1 d_M_request_124 ?_
                              refine t_u (fun z154 l154 u154 => ?_)
                              refine lv_istore (lv' := [(9, .int (iI z154)), (8, .int (iI 1)), (0, .ref h), (1, .int (iI a1)), (2, .int (iI a2)), (3, .int (iI a3)), (4, .int (iI a4)), (5, .int (iI a5)), (6, .int (iI a6)), (7, .int (iI a7))]) X.1 X.2.1 d_M_request_125 hl (by decide) rfl (fun ls hl => ?_)
                              refine lv_aload_n X.1 X.2.1 d_M_request_127 rfl (lv_at hl 2 rfl) ?_
                              refine lv_iload_n X.1 X.2.1 d_M_request_128 rfl (lv_at hl 3 rfl) ?_
                              refine r_nl (m_run (As := [.int (iI a1)]) (rest := []) (n := 1) X Y hZ hA hml hl.1 (r_M_clockOf l D E h q H.size I152 J113 B101 G113 a1 (by omega) (by omega) S.1) kl_M_clockOf ks_M_clockOf kx_M_clockOf ki_M_clockOf ini_M hd_M_clockOf ⟨Nat.le_of_ble_eq_true rfl, Nat.le_of_ble_eq_true rfl⟩ rfl (Nat.le_of_ble_eq_true rfl) d_M_request_129 ⟨Nat.le_refl _, Nat.le_refl _⟩) X Y hA S (by decide) (by decide) (fun v155 u H locs Y S s155 p155 => ?_)
                              obtain ⟨I155, J155, B155, G155⟩ := u
                              dsimp only at Y S s155 p155
                              have i155 : I152 = I155 := (funext (fun j => s155.2.1 j (by simp))).symm
                              subst i155
                              have b155 : B101 = B155 := (funext (fun j => s155.2.2 j (by simp))).symm
                              subst b155
                              have f156 : stT (B101 97) (B101 98) (B101 100) (B101 107) (B101 108) (B101 109) := (stT_cg rfl rfl rfl rfl rfl rfl (stT_cg rfl rfl rfl rfl rfl rfl (stT_cg rfl rfl rfl rfl rfl rfl (stT_cg (s101.2.2 97 (by decide)) (s101.2.2 98 (by decide)) (s101.2.2 100 (by decide)) (s101.2.2 107 (by decide)) (s101.2.2 108 (by decide)) (s101.2.2 109 (by decide)) f_FT))))
                              refine lv_lstore (lv' := [(10, .long v155), (9, .int (iI z154)), (8, .int (iI 1)), (0, .ref h), (1, .int (iI a1)), (2, .int (iI a2)), (3, .int (iI a3)), (4, .int (iI a4)), (5, .int (iI a5)), (6, .int (iI a6)), (7, .int (iI a7))]) X.1 X.2.1 d_M_request_132 hl (by decide) rfl (fun ls hl => ?_)
                              refine lv_aload_n X.1 X.2.1 d_M_request_134 rfl (lv_at hl 3 rfl) ?_
                              refine m_get X Y 110 (by decide) lk_askedKind (gf_askedKind _ _ _) rfl d_M_request_135 ?_
                              refine lv_iload_n X.1 X.2.1 d_M_request_138 rfl (lv_at hl 4 rfl) ?_
                              refine lv_iload_n X.1 X.2.1 d_M_request_139 rfl (lv_at hl 5 rfl) ?_
                              refine r_iast X Y S (aw_askedKind _ _ _ _ _ _ _) (sw_askedKind _ _ _ _ _ _ _) rfl ⟨(show ((-1) : Int) ≤ a2 by omega), (show a2 ≤ (2 : Int) by omega)⟩ ⟨by omega, by omega⟩ (by omega) (show a1 < ((4 : Nat) : Int) by omega) (by omega) (by decide) d_M_request_140 (fun B157 H locs Y S w157 => ?_)
                              have f158 : stA (B157 110) (B157 118) (B157 119) (B157 120) := by rw [w157.1, w157.2 118 (by decide), w157.2 119 (by decide), w157.2 120 (by decide)]; exact stA_off ⟨by omega, by omega⟩ (by omega) (stA_cg rfl rfl rfl rfl (stA_cg rfl rfl rfl rfl (stA_cg rfl rfl rfl rfl (stA_cg (s101.2.2 110 (by decide)) (s101.2.2 118 (by decide)) (s101.2.2 119 (by decide)) (s101.2.2 120 (by decide)) f_FA))))
                              refine lv_aload_n X.1 X.2.1 d_M_request_141 rfl (lv_at hl 3 rfl) ?_
                              refine m_get X Y 111 (by decide) lk_askedTypes (gf_askedTypes _ _ _) rfl d_M_request_142 ?_
                              refine lv_iload_n X.1 X.2.1 d_M_request_145 rfl (lv_at hl 4 rfl) ?_
                              refine lv_iload X.1 X.2.1 d_M_request_146 (lv_at hl 8 rfl) ?_
                              refine r_iast X Y S (aw_askedTypes _ _ _ _ _ _ _) (sw_askedTypes _ _ _ _ _ _ _) rfl ⟨(show (0 : Int) ≤ a5 by omega), (show a5 ≤ (4 : Int) by omega)⟩ ⟨by omega, by omega⟩ (by omega) (show a1 < ((4 : Nat) : Int) by omega) (by omega) (by decide) d_M_request_148 (fun B159 H locs Y S w159 => ?_)
                              have f160 : stT (B159 97) (B159 98) (B159 100) (B159 107) (B159 108) (B159 109) := (stT_cg (w159.2 97 (by decide)) (w159.2 98 (by decide)) (w159.2 100 (by decide)) (w159.2 107 (by decide)) (w159.2 108 (by decide)) (w159.2 109 (by decide)) (stT_cg (w157.2 97 (by decide)) (w157.2 98 (by decide)) (w157.2 100 (by decide)) (w157.2 107 (by decide)) (w157.2 108 (by decide)) (w157.2 109 (by decide)) f156))
                              refine lv_aload_n X.1 X.2.1 d_M_request_149 rfl (lv_at hl 3 rfl) ?_
                              refine m_get X Y 115 (by decide) lk_askedRenew (gf_askedRenew _ _ _) rfl d_M_request_150 ?_
                              refine lv_iload_n X.1 X.2.1 d_M_request_153 rfl (lv_at hl 4 rfl) ?_
                              refine lv_iload_n X.1 X.2.1 d_M_request_154 rfl (lv_at hl 5 rfl) ?_
                              refine lv_iconst (v := iI 2) X.1 X.2.1 d_M_request_155 (by decide) ?_
                              have J162 : ∀ (z161 : Int) (H : Heap) (locs : List Loc) (ls : Array Slot), (0 ≤ z161) → (z161 ≤ 0) → mH D E (mA E h q sz) s.heap h q I152 J155 B159 G155 H locs → rS [2, 3, 8, 14, 18, 33, 36, 42, 54, 55] [0, 1, 5, 6, 7, 9, 10, 11, 12, 13, 15, 16, 17, 19, 20, 21, 22, 23, 34, 35, 53, 56, 58, 60, 95, 110, 111, 112, 113, 115, 116, 117, 118, 119, 120, 132] I B I152 B159 → lv_has ls 18 [(0, .ref h), (1, .int (iI a1)), (2, .int (iI a2)), (4, .int (iI a4)), (5, .int (iI a5)), (6, .int (iI a6)), (7, .int (iI a7)), (9, .int (iI z154)), (10, .long v155)] → W p l e (mR 8 236) s m AV below meth c H locs 0 0 QQ (F0 m 175 ls [.int (iI z161), .int (iI a1), .ref ((q 115))]) := by
                                intro z161 H locs ls l161 u161 Y S hl
                                refine r_zast X Y S (aw_askedRenew _ _ _ _ _ _ _) (sw_askedRenew _ _ _ _ _ _ _) rfl ⟨by omega, by omega⟩ (by omega) (show a1 < ((4 : Nat) : Int) by omega) (by omega) (by decide) d_M_request_175 (fun B166 H locs Y S w166 => ?_)
                                refine lv_aload_n X.1 X.2.1 d_M_request_176 rfl (lv_at hl 0 rfl) ?_
                                refine m_get X Y 113 (by decide) lk_askedSize (gf_askedSize _ _ _) rfl d_M_request_177 ?_
                                refine lv_iload_n X.1 X.2.1 d_M_request_180 rfl (lv_at hl 1 rfl) ?_
                                refine lv_aload_n X.1 X.2.1 d_M_request_181 rfl (lv_at hl 0 rfl) ?_
                                refine r_get0 X Y (by decide) lk_nameSize (gf_nameSize _ _ _) rfl ((w152.2 54 (by decide)).trans e102) d_M_request_182 ?_
                                refine r_iast X Y S (aw_askedSize _ _ _ _ _ _ _) (sw_askedSize _ _ _ _ _ _ _) rfl ⟨(show (0 : Int) ≤ z102 by omega), (show z102 ≤ (33 : Int) by omega)⟩ ⟨by omega, by omega⟩ (by omega) (show a1 < ((4 : Nat) : Int) by omega) (by omega) (by decide) d_M_request_185 (fun B167 H locs Y S w167 => ?_)
                                have f168 : stT (B167 97) (B167 98) (B167 100) (B167 107) (B167 108) (B167 109) := (stT_cg (w167.2 97 (by decide)) (w167.2 98 (by decide)) (w167.2 100 (by decide)) (w167.2 107 (by decide)) (w167.2 108 (by decide)) (w167.2 109 (by decide)) (stT_cg (w166.2 97 (by decide)) (w166.2 98 (by decide)) (w166.2 100 (by decide)) (w166.2 107 (by decide)) (w166.2 108 (by decide)) (w166.2 109 (by decide)) f160))
                                have f169 : stA (B167 110) (B167 118) (B167 119) (B167 120) := (stA_cg (w167.2 110 (by decide)) (w167.2 118 (by decide)) (w167.2 119 (by decide)) (w167.2 120 (by decide)) (stA_cg (w166.2 110 (by decide)) (w166.2 118 (by decide)) (w166.2 119 (by decide)) (w166.2 120 (by decide)) (stA_cg (w159.2 110 (by decide)) (w159.2 118 (by decide)) (w159.2 119 (by decide)) (w159.2 120 (by decide)) f158)))
                                refine lv_iconst (v := iI 0) X.1 X.2.1 d_M_request_186 (by decide) ?_
                                have J177 : ∀ (n179 : Nat) (z171 : Int) (I170 : Nat → Int32) (J170 : Nat → Int64) (B170 : Nat → Nat → Int32) (G170 : Nat → Nat → Int64) (H : Heap) (locs : List Loc) (ls : Array Slot), (40 - z171).toNat = n179 → (0 ≤ z171) → (z171 ≤ 40) → (stA (B170 110) (B170 118) (B170 119) (B170 120)) → (stT (B170 97) (B170 98) (B170 100) (B170 107) (B170 108) (B170 109)) → (I170 54 = iI z102) → (I170 33 = iI cn) → (I170 2 = iI 0) → mH D E (mA E h q sz) s.heap h q I170 J170 B170 G170 H locs → rS [2, 3, 8, 14, 18, 33, 36, 42, 54, 55] [0, 1, 5, 6, 7, 9, 10, 11, 12, 13, 15, 16, 17, 19, 20, 21, 22, 23, 34, 35, 53, 56, 58, 60, 95, 110, 111, 112, 113, 115, 116, 117, 118, 119, 120, 132] I B I170 B170 → lv_has ls 18 [(0, .ref h), (1, .int (iI a1)), (2, .int (iI a2)), (4, .int (iI a4)), (5, .int (iI a5)), (6, .int (iI a6)), (7, .int (iI a7)), (9, .int (iI z154)), (10, .long v155), (12, .int (iI z171))] → W p l e (mR 8 236) s m AV below meth c H locs 0 0 QQ (F0 m 189 ls []) := by
                                  intro n179
                                  induction n179 using Nat.strongRecOn with
                                  | ind n179 ih178 =>
                                    intro z171 I170 J170 B170 G170 H locs ls hm180 l171 u171 f172 f173 e174 e175 e176 Y S hl
                                    refine lv_iload X.1 X.2.1 d_M_request_189 (lv_at hl 9 rfl) ?_
                                    refine lv_aload_n X.1 X.2.1 d_M_request_191 rfl (lv_at hl 0 rfl) ?_
                                    refine r_get0 X Y (by decide) lk_nameSize (gf_nameSize _ _ _) rfl e174 d_M_request_192 ?_
                                    refine z_icmp_ge (tgt := 223) X.1 X.2.1 d_M_request_195 (by decide) ⟨by omega, by omega⟩ ⟨by omega, by omega⟩ (fun h181 => ?_) (fun h181 => ?_)
                                    · refine lv_aload_n X.1 X.2.1 d_M_request_223 rfl (lv_at hl 0 rfl) ?_
                                      refine m_get X Y 114 (by decide) lk_askedNonce (gf_askedNonce _ _ _) rfl d_M_request_224 ?_
                                      refine lv_iload_n X.1 X.2.1 d_M_request_227 rfl (lv_at hl 1 rfl) ?_
                                      refine lv_aload_n X.1 X.2.1 d_M_request_228 rfl (lv_at hl 0 rfl) ?_
                                      refine r_ni (m_run (As := []) (rest := [.int (iI a1), .ref ((q 114))]) (n := 0) X Y hZ hA hml hl.1 (r_M_fourCoins l D E h q H.size I170 J170 B170 G170 S.1 cn e175 (by omega) (by omega)) kl_M_fourCoins ks_M_fourCoins kx_M_fourCoins ki_M_fourCoins ini_M hd_M_fourCoins ⟨Nat.le_of_ble_eq_true rfl, Nat.le_of_ble_eq_true rfl⟩ rfl (Nat.le_of_ble_eq_true rfl) d_M_request_229 ⟨Nat.le_refl _, Nat.le_refl _⟩) X Y hA S (by decide) (by decide) (fun z182 u H locs Y S s182 p182 => ?_)
                                      obtain ⟨I182, J182, B182, G182⟩ := u
                                      dsimp only at Y S s182 p182
                                      obtain ⟨l182, u182, x182⟩ := p182
                                      refine lv_ldcw (v := (2147483647)) X.1 X.2.1 X.2.2.2.1 (X.2.2.1 _ cn_M_933) d_M_request_232 ?_
                                      refine t_eq (y := iI 2147483647) (by decide) ?_
                                      refine z_iand X.1 X.2.1 (by omega) (by omega) d_M_request_235 (fun z183 l183 u183 => ?_)
                                      refine lv_i2l X.1 X.2.1 d_M_request_236 rfl ?_
                                      refine t_anyl (fun v184 => ?_)
                                      refine r_last X Y (aw_askedNonce _ _ _ _ _ _ _) (sw_askedNonce _ _ _ _ _ _ _) (by omega) (show a1 < ((4 : Nat) : Int) by omega) (by omega) d_M_request_237 (fun G185 H locs Y => ?_)
                                      refine lv_aload_n X.1 X.2.1 d_M_request_238 rfl (lv_at hl 0 rfl) ?_
                                      refine m_get X Y 112 (by decide) lk_askedSub (gf_askedSub _ _ _) rfl d_M_request_239 ?_
                                      refine lv_iload_n X.1 X.2.1 d_M_request_242 rfl (lv_at hl 1 rfl) ?_
                                      refine lv_iconst (v := iI 0) X.1 X.2.1 d_M_request_243 (by decide) ?_
                                      refine r_iast X Y S (aw_askedSub _ _ _ _ _ _ _) (sw_askedSub _ _ _ _ _ _ _) rfl ⟨(show (0 : Int) ≤ 0 by omega), (show 0 ≤ (18 : Int) by omega)⟩ ⟨by omega, by omega⟩ (by omega) (show a1 < ((4 : Nat) : Int) by omega) (by omega) (by decide) d_M_request_244 (fun B186 H locs Y S w186 => ?_)
                                      have f187 : stT (B186 97) (B186 98) (B186 100) (B186 107) (B186 108) (B186 109) := (stT_cg (w186.2 97 (by decide)) (w186.2 98 (by decide)) (w186.2 100 (by decide)) (w186.2 107 (by decide)) (w186.2 108 (by decide)) (w186.2 109 (by decide)) (stT_cg (s182.2.2 97 (by decide)) (s182.2.2 98 (by decide)) (s182.2.2 100 (by decide)) (s182.2.2 107 (by decide)) (s182.2.2 108 (by decide)) (s182.2.2 109 (by decide)) f173))
                                      refine lv_iload_n X.1 X.2.1 d_M_request_245 rfl (lv_at hl 2 rfl) ?_
                                      refine lv_iconst (v := iI 2) X.1 X.2.1 d_M_request_246 (by decide) ?_
                                      refine z_icmp_ne (tgt := 383) X.1 X.2.1 d_M_request_247 (by decide) ⟨by omega, by omega⟩ ⟨by decide, by decide⟩ (fun h188 => ?_) (fun h188 => False.elim (by omega))
                                      · refine lv_aload_n X.1 X.2.1 d_M_request_383 rfl (lv_at hl 0 rfl) ?_
                                        refine r_nv (m_run (As := []) (rest := []) (n := 0) X Y hZ hA hml hl.1 (r_M_start l D E h q H.size I182 J182 B186 G185 S.1) kl_M_start ks_M_start kx_M_start ki_M_start ini_M hd_M_start ⟨Nat.le_of_ble_eq_true rfl, Nat.le_of_ble_eq_true rfl⟩ rfl (Nat.le_of_ble_eq_true rfl) d_M_request_384 ⟨Nat.le_refl _, Nat.le_refl _⟩) X Y hA S (by decide) (by decide) (fun u H locs Y S s189 p189 => ?_)
                                        obtain ⟨I189, J189, B189, G189⟩ := u
                                        dsimp only at Y S s189 p189
                                        have b189 : B186 = B189 := (funext (fun j => s189.2.2 j (by simp))).symm
                                        subst b189
                                        have f190 : stA (B186 110) (B186 118) (B186 119) (B186 120) := (stA_cg rfl rfl rfl rfl (stA_cg (w186.2 110 (by decide)) (w186.2 118 (by decide)) (w186.2 119 (by decide)) (w186.2 120 (by decide)) (stA_cg (s182.2.2 110 (by decide)) (s182.2.2 118 (by decide)) (s182.2.2 119 (by decide)) (s182.2.2 120 (by decide)) f172)))
                                        have x189 := p189
                                        refine lv_aload_n X.1 X.2.1 d_M_request_387 rfl (lv_at hl 0 rfl) ?_
                                        refine r_get0 X Y (by decide) lk_w0 (gf_w0 _ _ _) rfl (x189.trans (congrArg iI (show (60000 : Int) = 60000 by omega))) d_M_request_388 ?_
                                        refine lv_istore (lv' := [(12, .int (iI 60000)), (0, .ref h), (1, .int (iI a1)), (2, .int (iI a2)), (4, .int (iI a4)), (5, .int (iI a5)), (6, .int (iI a6)), (7, .int (iI a7)), (9, .int (iI z154)), (10, .long v155)]) X.1 X.2.1 d_M_request_391 hl (by decide) rfl (fun ls hl => ?_)
                                        refine lv_iload X.1 X.2.1 d_M_request_393 (lv_at hl 5 rfl) ?_
                                        refine lv_iconst (v := iI 2) X.1 X.2.1 d_M_request_395 (by decide) ?_
                                        have J200 : ∀ (z197 : Int) (I191 : Nat → Int32) (J191 : Nat → Int64) (B191 : Nat → Nat → Int32) (G191 : Nat → Nat → Int64) (H : Heap) (locs : List Loc) (ls : Array Slot), (stA (B191 110) (B191 118) (B191 119) (B191 120)) → (stT (B191 97) (B191 98) (B191 100) (B191 107) (B191 108) (B191 109)) → (I191 54 = iI z102) → (I191 33 = iI (cn + 4)) → (I191 2 = iI 0) → (I191 42 = iI z197) → (0 ≤ z197) → (z197 ≤ 60000) → (60000 - (20) ≤ z197) → (z197 ≤ 60000) → mH D E (mA E h q sz) s.heap h q I191 J191 B191 G191 H locs → rS [2, 3, 8, 14, 18, 33, 36, 42, 54, 55] [0, 1, 5, 6, 7, 9, 10, 11, 12, 13, 15, 16, 17, 19, 20, 21, 22, 23, 34, 35, 53, 56, 58, 60, 95, 110, 111, 112, 113, 115, 116, 117, 118, 119, 120, 132] I B I191 B191 → lv_has ls 18 [(0, .ref h), (1, .int (iI a1)), (2, .int (iI a2)), (4, .int (iI a4)), (5, .int (iI a5)), (6, .int (iI a6)), (7, .int (iI a7)), (9, .int (iI z154)), (10, .long v155), (12, .int (iI 60000))] → W p l e (mR 8 236) s m AV below meth c H locs 0 0 QQ (F0 m 418 ls []) := by
                                          intro z197 I191 J191 B191 G191 H locs ls f192 f193 e194 e195 e196 e197 l197 u197 i198 i199 Y S hl
                                          refine lv_aload_n X.1 X.2.1 d_M_request_418 rfl (lv_at hl 0 rfl) ?_
                                          refine lv_iload X.1 X.2.1 d_M_request_419 (lv_at hl 4 rfl) ?_
                                          refine p_calli (As := [.int (iI a5)]) (rest := [.ref h]) (n := 1) X Y hml hl.1 (r_M_firstType l a5 (by omega) (by omega)) kl_M_firstType ks_M_firstType ki_M_firstType ini_M hd_M_firstType ⟨Nat.le_of_ble_eq_true rfl, Nat.le_of_ble_eq_true rfl⟩ rfl (Nat.le_of_ble_eq_true rfl) d_M_request_421 ⟨Nat.le_refl _, Nat.le_refl _⟩ (fun r204 H locs p204 Y => ?_)
                                          obtain ⟨z204, e204, p204⟩ := p204
                                          subst e204
                                          obtain ⟨l204, u204⟩ := p204
                                          refine lv_i2l X.1 X.2.1 d_M_request_424 rfl ?_
                                          refine t_anyl (fun v205 => ?_)
                                          refine r_nv (m_run (As := [.long v205]) (rest := []) (n := 1) X Y hZ hA hml hl.1 (r_M_putNumber l D E h q H.size I191 J191 B191 G191 v205 S.1 z197 e197 (by omega) (by omega)) kl_M_putNumber ks_M_putNumber kx_M_putNumber ki_M_putNumber ini_M hd_M_putNumber ⟨Nat.le_of_ble_eq_true rfl, Nat.le_of_ble_eq_true rfl⟩ rfl (Nat.le_of_ble_eq_true rfl) d_M_request_425 ⟨Nat.le_refl _, Nat.le_refl _⟩) X Y hA S (by decide) (by decide) (fun u H locs Y S s206 p206 => ?_)
                                          obtain ⟨I206, J206, B206, G206⟩ := u
                                          dsimp only at Y S s206 p206
                                          obtain ⟨x206, g206_MF⟩ := p206
                                          obtain ⟨z207, e207, l207, u207⟩ := x206
                                          refine lv_aload_n X.1 X.2.1 d_M_request_428 rfl (lv_at hl 0 rfl) ?_
                                          refine lv_bipush (v := iI 48) X.1 X.2.1 d_M_request_429 (by decide) ?_
                                          refine lv_iload X.1 X.2.1 d_M_request_431 (lv_at hl 9 rfl) ?_
                                          refine r_nv (m_run (As := [.int (iI 48), .int (iI 60000)]) (rest := []) (n := 2) X Y hZ hA hml hl.1 (r_M_head l D E h q H.size I206 J206 B206 G206 48 (by decide) (by decide) 60000 (by decide) (by decide) S.1 z207 e207 (by omega) (by omega)) kl_M_head ks_M_head kx_M_head ki_M_head ini_M hd_M_head ⟨Nat.le_of_ble_eq_true rfl, Nat.le_of_ble_eq_true rfl⟩ rfl (Nat.le_of_ble_eq_true rfl) d_M_request_433 ⟨Nat.le_refl _, Nat.le_refl _⟩) X Y hA S (by decide) (by decide) (fun u H locs Y S s208 p208 => ?_)
                                          obtain ⟨I208, J208, B208, G208⟩ := u
                                          dsimp only at Y S s208 p208
                                          have f209 : stT (B208 97) (B208 98) (B208 100) (B208 107) (B208 108) (B208 109) := (stT_cg (s208.2.2 97 (by decide)) (s208.2.2 98 (by decide)) (s208.2.2 100 (by decide)) (s208.2.2 107 (by decide)) (s208.2.2 108 (by decide)) (s208.2.2 109 (by decide)) (stT_cg (s206.2.2 97 (by decide)) (s206.2.2 98 (by decide)) (s206.2.2 100 (by decide)) (s206.2.2 107 (by decide)) (s206.2.2 108 (by decide)) (s206.2.2 109 (by decide)) f193))
                                          obtain ⟨x208, g208_MF⟩ := p208
                                          obtain ⟨z210, e210, l210, u210⟩ := x208
                                          refine lv_aload_n X.1 X.2.1 d_M_request_436 rfl (lv_at hl 0 rfl) ?_
                                          refine lv_bipush (v := iI 8) X.1 X.2.1 d_M_request_437 (by decide) ?_
                                          refine lv_iload X.1 X.2.1 d_M_request_439 (lv_at hl 9 rfl) ?_
                                          refine r_nv (m_run (As := [.int (iI 8), .int (iI 60000)]) (rest := []) (n := 2) X Y hZ hA hml hl.1 (r_M_field l D E h q H.size I208 J208 B208 G208 8 (by decide) (by decide) 60000 (by decide) (by decide) S.1 z210 e210 (by omega) (by omega)) kl_M_field ks_M_field kx_M_field ki_M_field ini_M hd_M_field ⟨Nat.le_of_ble_eq_true rfl, Nat.le_of_ble_eq_true rfl⟩ rfl (Nat.le_of_ble_eq_true rfl) d_M_request_441 ⟨Nat.le_refl _, Nat.le_refl _⟩) X Y hA S (by decide) (by decide) (fun u H locs Y S s211 p211 => ?_)
                                          obtain ⟨I211, J211, B211, G211⟩ := u
                                          dsimp only at Y S s211 p211
                                          have f212 : stA (B211 110) (B211 118) (B211 119) (B211 120) := (stA_cg (s211.2.2 110 (by decide)) (s211.2.2 118 (by decide)) (s211.2.2 119 (by decide)) (s211.2.2 120 (by decide)) (stA_cg (s208.2.2 110 (by decide)) (s208.2.2 118 (by decide)) (s208.2.2 119 (by decide)) (s208.2.2 120 (by decide)) (stA_cg (s206.2.2 110 (by decide)) (s206.2.2 118 (by decide)) (s206.2.2 119 (by decide)) (s206.2.2 120 (by decide)) f192)))
                                          obtain ⟨x211, g211_MF⟩ := p211
                                          obtain ⟨z213, e213, l213, u213⟩ := x211
                                          refine lv_aload_n X.1 X.2.1 d_M_request_444 rfl (lv_at hl 0 rfl) ?_
                                          refine lv_bipush (v := iI 7) X.1 X.2.1 d_M_request_445 (by decide) ?_
                                          refine lv_aload_n X.1 X.2.1 d_M_request_447 rfl (lv_at hl 0 rfl) ?_
                                          refine m_get X Y 114 (by decide) lk_askedNonce (gf_askedNonce _ _ _) rfl d_M_request_448 ?_
                                          refine lv_iload_n X.1 X.2.1 d_M_request_451 rfl (lv_at hl 1 rfl) ?_
                                          refine r_lald X Y (aw_askedNonce _ _ _ _ _ _ _) (by omega) (show a1 < ((4 : Nat) : Int) by omega) (by omega) d_M_request_452 (fun v214 => ?_)
                                          refine r_nv (m_run (As := [.int (iI 7), .long v214]) (rest := []) (n := 2) X Y hZ hA hml hl.1 (r_M_numberField l D E h q H.size I211 J211 B211 G211 7 (by decide) (by decide) v214 S.1 z213 e213 (by omega) (by omega)) kl_M_numberField ks_M_numberField kx_M_numberField ki_M_numberField ini_M hd_M_numberField ⟨Nat.le_of_ble_eq_true rfl, Nat.le_of_ble_eq_true rfl⟩ rfl (Nat.le_of_ble_eq_true rfl) d_M_request_453 ⟨Nat.le_refl _, Nat.le_refl _⟩) X Y hA S (by decide) (by decide) (fun u H locs Y S s215 p215 => ?_)
                                          obtain ⟨I215, J215, B215, G215⟩ := u
                                          dsimp only at Y S s215 p215
                                          have f216 : stT (B215 97) (B215 98) (B215 100) (B215 107) (B215 108) (B215 109) := (stT_cg (s215.2.2 97 (by decide)) (s215.2.2 98 (by decide)) (s215.2.2 100 (by decide)) (s215.2.2 107 (by decide)) (s215.2.2 108 (by decide)) (s215.2.2 109 (by decide)) (stT_cg (s211.2.2 97 (by decide)) (s211.2.2 98 (by decide)) (s211.2.2 100 (by decide)) (s211.2.2 107 (by decide)) (s211.2.2 108 (by decide)) (s211.2.2 109 (by decide)) f209))
                                          obtain ⟨x215, g215_MF⟩ := p215
                                          obtain ⟨z217, e217, l217, u217⟩ := x215
                                          refine lv_iload X.1 X.2.1 d_M_request_456 (lv_at hl 6 rfl) ?_
                                          have J227 : ∀ (z224 : Int) (I218 : Nat → Int32) (J218 : Nat → Int64) (B218 : Nat → Nat → Int32) (G218 : Nat → Nat → Int64) (H : Heap) (locs : List Loc) (ls : Array Slot), (stA (B218 110) (B218 118) (B218 119) (B218 120)) → (stT (B218 97) (B218 98) (B218 100) (B218 107) (B218 108) (B218 109)) → (I218 54 = iI z102) → (I218 33 = iI (cn + 4)) → (I218 2 = iI 0) → (I218 42 = iI z224) → (0 ≤ z224) → (z224 ≤ 60000) → (60000 - (120) ≤ z224) → (z224 ≤ 60000) → mH D E (mA E h q sz) s.heap h q I218 J218 B218 G218 H locs → rS [2, 3, 8, 14, 18, 33, 36, 42, 54, 55] [0, 1, 5, 6, 7, 9, 10, 11, 12, 13, 15, 16, 17, 19, 20, 21, 22, 23, 34, 35, 53, 56, 58, 60, 95, 110, 111, 112, 113, 115, 116, 117, 118, 119, 120, 132] I B I218 B218 → lv_has ls 18 [(0, .ref h), (1, .int (iI a1)), (2, .int (iI a2)), (4, .int (iI a4)), (5, .int (iI a5)), (6, .int (iI a6)), (9, .int (iI z154)), (10, .long v155)] → W p l e (mR 8 236) s m AV below meth c H locs 0 0 QQ (F0 m 479 ls []) := by
                                            intro z224 I218 J218 B218 G218 H locs ls f219 f220 e221 e222 e223 e224 l224 u224 i225 i226 Y S hl
                                            refine lv_aload_n X.1 X.2.1 d_M_request_479 rfl (lv_at hl 0 rfl) ?_
                                            refine lv_iconst (v := iI 5) X.1 X.2.1 d_M_request_480 (by decide) ?_
                                            refine lv_iload X.1 X.2.1 d_M_request_481 (lv_at hl 5 rfl) ?_
                                            have J232 : ∀ (v231 : Int64) (H : Heap) (locs : List Loc) (ls : Array Slot), mH D E (mA E h q sz) s.heap h q I218 J218 B218 G218 H locs → rS [2, 3, 8, 14, 18, 33, 36, 42, 54, 55] [0, 1, 5, 6, 7, 9, 10, 11, 12, 13, 15, 16, 17, 19, 20, 21, 22, 23, 34, 35, 53, 56, 58, 60, 95, 110, 111, 112, 113, 115, 116, 117, 118, 119, 120, 132] I B I218 B218 → lv_has ls 18 [(0, .ref h), (1, .int (iI a1)), (2, .int (iI a2)), (4, .int (iI a4)), (5, .int (iI a5)), (9, .int (iI z154)), (10, .long v155)] → W p l e (mR 8 236) s m AV below meth c H locs 0 0 QQ (F0 m 502 ls [.long v231, .int (iI 5), .ref h]) := by
                                              intro v231 H locs ls  Y S hl
                                              refine r_nv (m_run (As := [.int (iI 5), .long v231]) (rest := []) (n := 2) X Y hZ hA hml hl.1 (r_M_timeField l D E h q H.size I218 J218 B218 G218 5 (by decide) (by decide) v231 S.1 z224 e224 (by omega) (by omega)) kl_M_timeField ks_M_timeField kx_M_timeField ki_M_timeField ini_M hd_M_timeField ⟨Nat.le_of_ble_eq_true rfl, Nat.le_of_ble_eq_true rfl⟩ rfl (Nat.le_of_ble_eq_true rfl) d_M_request_502 ⟨Nat.le_refl _, Nat.le_refl _⟩) X Y hA S (by decide) (by decide) (fun u H locs Y S s236 p236 => ?_)
                                              obtain ⟨I236, J236, B236, G236⟩ := u
                                              dsimp only at Y S s236 p236
                                              obtain ⟨x236, g236_MF⟩ := p236
                                              obtain ⟨z237, e237, l237, u237⟩ := x236
                                              refine lv_aload_n X.1 X.2.1 d_M_request_505 rfl (lv_at hl 0 rfl) ?_
                                              refine lv_iconst (v := iI 3) X.1 X.2.1 d_M_request_506 (by decide) ?_
                                              refine lv_aload_n X.1 X.2.1 d_M_request_507 rfl (lv_at hl 0 rfl) ?_
                                              refine m_get X Y 117 (by decide) lk_askedNames (gf_askedNames _ _ _) rfl d_M_request_508 ?_
                                              refine lv_bipush (v := iI 40) X.1 X.2.1 d_M_request_511 (by decide) ?_
                                              refine lv_iload_n X.1 X.2.1 d_M_request_513 rfl (lv_at hl 1 rfl) ?_
                                              refine z_imul X.1 X.2.1 d_M_request_514 ?_
                                              refine lv_aload_n X.1 X.2.1 d_M_request_515 rfl (lv_at hl 0 rfl) ?_
                                              refine r_get0 X Y (by decide) lk_nameSize (gf_nameSize _ _ _) rfl ((s236.2.1 54 (by decide)).trans e221) d_M_request_516 ?_
                                              refine lv_iconst (v := iI 2) X.1 X.2.1 d_M_request_519 (by decide) ?_
                                              refine r_nv (m_run (As := [.int (iI 3), .ref ((q 117)), .int (iI (40 * a1)), .int (iI z102), .int (iI 2)]) (rest := []) (n := 5) X Y hZ hA hml hl.1 (r_M_partsField_askedNames l D E h q H.size I236 J236 B236 G236 3 (by decide) (by decide) (40 * a1) (by omega) (by omega) z102 (by omega) (by omega) 2 (by decide) (by decide) S.1 z237 e237 (by omega) (by omega)) kl_M_partsField ks_M_partsField kx_M_partsField ki_M_partsField ini_M hd_M_partsField ⟨Nat.le_of_ble_eq_true rfl, Nat.le_of_ble_eq_true rfl⟩ rfl (Nat.le_of_ble_eq_true rfl) d_M_request_520 ⟨Nat.le_refl _, Nat.le_refl _⟩) X Y hA S (by decide) (by decide) (fun u H locs Y S s238 p238 => ?_)
                                              obtain ⟨I238, J238, B238, G238⟩ := u
                                              dsimp only at Y S s238 p238
                                              have f239 : stT (B238 97) (B238 98) (B238 100) (B238 107) (B238 108) (B238 109) := (stT_cg (s238.2.2 97 (by decide)) (s238.2.2 98 (by decide)) (s238.2.2 100 (by decide)) (s238.2.2 107 (by decide)) (s238.2.2 108 (by decide)) (s238.2.2 109 (by decide)) (stT_cg (s236.2.2 97 (by decide)) (s236.2.2 98 (by decide)) (s236.2.2 100 (by decide)) (s236.2.2 107 (by decide)) (s236.2.2 108 (by decide)) (s236.2.2 109 (by decide)) f220))
                                              obtain ⟨x238, g238_MF⟩ := p238
                                              obtain ⟨z240, e240, l240, u240⟩ := x238
                                              refine lv_aload_n X.1 X.2.1 d_M_request_523 rfl (lv_at hl 0 rfl) ?_
                                              refine lv_iconst (v := iI 2) X.1 X.2.1 d_M_request_524 (by decide) ?_
                                              refine m_ldcSW (i := 2) X (by decide) (by decide) d_M_request_525 ?_
                                              refine r_nv (m_run (As := [.int (iI 2), .ref ((D.2.1 2))]) (rest := []) (n := 2) X Y hZ hA hml hl.1 (r_M_wordField l D E h q H.size I238 J238 B238 G238 2 (by decide) (by decide) 2 (show 2 < nZ by decide) S.1 z240 e240 (by omega) (by omega)) kl_M_wordField ks_M_wordField kx_M_wordField ki_M_wordField ini_M hd_M_wordField ⟨Nat.le_of_ble_eq_true rfl, Nat.le_of_ble_eq_true rfl⟩ rfl (Nat.le_of_ble_eq_true rfl) d_M_request_528 ⟨Nat.le_refl _, Nat.le_refl _⟩) X Y hA S (by decide) (by decide) (fun u H locs Y S s241 p241 => ?_)
                                              obtain ⟨I241, J241, B241, G241⟩ := u
                                              dsimp only at Y S s241 p241
                                              have f242 : stA (B241 110) (B241 118) (B241 119) (B241 120) := (stA_cg (s241.2.2 110 (by decide)) (s241.2.2 118 (by decide)) (s241.2.2 119 (by decide)) (s241.2.2 120 (by decide)) (stA_cg (s238.2.2 110 (by decide)) (s238.2.2 118 (by decide)) (s238.2.2 119 (by decide)) (s238.2.2 120 (by decide)) (stA_cg (s236.2.2 110 (by decide)) (s236.2.2 118 (by decide)) (s236.2.2 119 (by decide)) (s236.2.2 120 (by decide)) f219)))
                                              obtain ⟨x241, g241_MF⟩ := p241
                                              obtain ⟨z243, e243, l243, u243⟩ := x241
                                              refine lv_iload_n X.1 X.2.1 d_M_request_531 rfl (lv_at hl 2 rfl) ?_
                                              refine lv_iconst (v := iI 2) X.1 X.2.1 d_M_request_532 (by decide) ?_
                                              have J253 : ∀ (z250 : Int) (I244 : Nat → Int32) (J244 : Nat → Int64) (B244 : Nat → Nat → Int32) (G244 : Nat → Nat → Int64) (H : Heap) (locs : List Loc) (ls : Array Slot), (stA (B244 110) (B244 118) (B244 119) (B244 120)) → (stT (B244 97) (B244 98) (B244 100) (B244 107) (B244 108) (B244 109)) → (I244 54 = iI z102) → (I244 33 = iI (cn + 4)) → (I244 2 = iI 0) → (I244 42 = iI z250) → (0 ≤ z250) → (z250 ≤ 60000) → (60000 - (900) ≤ z250) → (z250 ≤ 60000) → mH D E (mA E h q sz) s.heap h q I244 J244 B244 G244 H locs → rS [2, 3, 8, 14, 18, 33, 36, 42, 54, 55] [0, 1, 5, 6, 7, 9, 10, 11, 12, 13, 15, 16, 17, 19, 20, 21, 22, 23, 34, 35, 53, 56, 58, 60, 95, 110, 111, 112, 113, 115, 116, 117, 118, 119, 120, 132] I B I244 B244 → lv_has ls 18 [(0, .ref h), (1, .int (iI a1)), (2, .int (iI a2)), (4, .int (iI a4)), (5, .int (iI a5)), (9, .int (iI z154)), (10, .long v155)] → W p l e (mR 8 236) s m AV below meth c H locs 0 0 QQ (F0 m 556 ls []) := by
                                                intro z250 I244 J244 B244 G244 H locs ls f245 f246 e247 e248 e249 e250 l250 u250 i251 i252 Y S hl
                                                refine lv_aload_n X.1 X.2.1 d_M_request_556 rfl (lv_at hl 0 rfl) ?_
                                                refine lv_iconst (v := iI 0) X.1 X.2.1 d_M_request_557 (by decide) ?_
                                                refine lv_iload X.1 X.2.1 d_M_request_558 (lv_at hl 3 rfl) ?_
                                                refine r_nv (m_run (As := [.int (iI 0), .int (iI a4)]) (rest := []) (n := 2) X Y hZ hA hml hl.1 (r_M_flagsField l D E h q H.size I244 J244 B244 G244 0 (by decide) (by decide) a4 (by omega) (by omega) S.1 z250 e250 (by omega) (by omega)) kl_M_flagsField ks_M_flagsField kx_M_flagsField ki_M_flagsField ini_M hd_M_flagsField ⟨Nat.le_of_ble_eq_true rfl, Nat.le_of_ble_eq_true rfl⟩ rfl (Nat.le_of_ble_eq_true rfl) d_M_request_560 ⟨Nat.le_refl _, Nat.le_refl _⟩) X Y hA S (by decide) (by decide) (fun u H locs Y S s257 p257 => ?_)
                                                obtain ⟨I257, J257, B257, G257⟩ := u
                                                dsimp only at Y S s257 p257
                                                obtain ⟨x257, g257_MF⟩ := p257
                                                obtain ⟨z258, e258, l258, u258⟩ := x257
                                                refine lv_aload_n X.1 X.2.1 d_M_request_563 rfl (lv_at hl 0 rfl) ?_
                                                refine lv_bipush (v := iI 48) X.1 X.2.1 d_M_request_564 (by decide) ?_
                                                refine lv_ldc (v := (60000)) X.1 X.2.1 X.2.2.2.1 (X.2.2.1 _ cn_M_9) d_M_request_566 ?_
                                                refine t_eq (y := iI 60000) (by decide) ?_
                                                refine r_nv (m_run (As := [.int (iI 48), .int (iI 60000)]) (rest := []) (n := 2) X Y hZ hA hml hl.1 (r_M_head l D E h q H.size I257 J257 B257 G257 48 (by decide) (by decide) 60000 (by decide) (by decide) S.1 z258 e258 (by omega) (by omega)) kl_M_head ks_M_head kx_M_head ki_M_head ini_M hd_M_head ⟨Nat.le_of_ble_eq_true rfl, Nat.le_of_ble_eq_true rfl⟩ rfl (Nat.le_of_ble_eq_true rfl) d_M_request_568 ⟨Nat.le_refl _, Nat.le_refl _⟩) X Y hA S (by decide) (by decide) (fun u H locs Y S s259 p259 => ?_)
                                                obtain ⟨I259, J259, B259, G259⟩ := u
                                                dsimp only at Y S s259 p259
                                                have f260 : stT (B259 97) (B259 98) (B259 100) (B259 107) (B259 108) (B259 109) := (stT_cg (s259.2.2 97 (by decide)) (s259.2.2 98 (by decide)) (s259.2.2 100 (by decide)) (s259.2.2 107 (by decide)) (s259.2.2 108 (by decide)) (s259.2.2 109 (by decide)) (stT_cg (s257.2.2 97 (by decide)) (s257.2.2 98 (by decide)) (s257.2.2 100 (by decide)) (s257.2.2 107 (by decide)) (s257.2.2 108 (by decide)) (s257.2.2 109 (by decide)) f246))
                                                obtain ⟨x259, g259_MF⟩ := p259
                                                obtain ⟨z261, e261, l261, u261⟩ := x259
                                                refine lv_ldc (v := (60000)) X.1 X.2.1 X.2.2.2.1 (X.2.2.1 _ cn_M_9) d_M_request_571 ?_
                                                refine t_eq (y := iI 60000) (by decide) ?_
                                                refine lv_aload_n X.1 X.2.1 d_M_request_573 rfl (lv_at hl 0 rfl) ?_
                                                refine r_get0 X Y (by decide) lk_w0 (gf_w0 _ _ _) rfl e261 d_M_request_574 ?_
                                                refine z_isub X.1 X.2.1 d_M_request_577 ?_
                                                refine lv_istore (lv' := [(13, .int (iI (60000 - z261))), (0, .ref h), (1, .int (iI a1)), (2, .int (iI a2)), (4, .int (iI a4)), (5, .int (iI a5)), (9, .int (iI z154)), (10, .long v155)]) X.1 X.2.1 d_M_request_578 hl (by decide) rfl (fun ls hl => ?_)
                                                refine lv_iconst (v := iI 0) X.1 X.2.1 d_M_request_580 (by decide) ?_
                                                have J270 : ∀ (n272 : Nat) (z263 : Int) (I262 : Nat → Int32) (J262 : Nat → Int64) (B262 : Nat → Nat → Int32) (G262 : Nat → Nat → Int64) (H : Heap) (locs : List Loc) (ls : Array Slot), (60017 - z263).toNat = n272 → (0 ≤ z263) → (z263 ≤ 60017) → (stA (B262 110) (B262 118) (B262 119) (B262 120)) → (stT (B262 97) (B262 98) (B262 100) (B262 107) (B262 108) (B262 109)) → (I262 54 = iI z102) → (I262 42 = iI z261) → (I262 33 = iI (cn + 4)) → (I262 2 = iI 0) → mH D E (mA E h q sz) s.heap h q I262 J262 B262 G262 H locs → rS [2, 3, 8, 14, 18, 33, 36, 42, 54, 55] [0, 1, 5, 6, 7, 9, 10, 11, 12, 13, 15, 16, 17, 19, 20, 21, 22, 23, 34, 35, 53, 56, 58, 60, 95, 110, 111, 112, 113, 115, 116, 117, 118, 119, 120, 132] I B I262 B262 → lv_has ls 18 [(0, .ref h), (1, .int (iI a1)), (2, .int (iI a2)), (5, .int (iI a5)), (9, .int (iI z154)), (10, .long v155), (13, .int (iI (60000 - z261))), (14, .int (iI z263))] → W p l e (mR 8 236) s m AV below meth c H locs 0 0 QQ (F0 m 583 ls []) := by
                                                  intro n272
                                                  induction n272 using Nat.strongRecOn with
                                                  | ind n272 ih271 =>
                                                    intro z263 I262 J262 B262 G262 H locs ls hm273 l263 u263 f264 f265 e266 e267 e268 e269 Y S hl
                                                    refine lv_iload X.1 X.2.1 d_M_request_583 (lv_at hl 7 rfl) ?_
                                                    refine lv_iload X.1 X.2.1 d_M_request_585 (lv_at hl 6 rfl) ?_
                                                    refine z_icmp_ge (tgt := 619) X.1 X.2.1 d_M_request_587 (by decide) ⟨by omega, by omega⟩ ⟨by omega, by omega⟩ (fun h274 => ?_) (fun h274 => ?_)
                                                    · refine lv_iload X.1 X.2.1 d_M_request_619 (lv_at hl 3 rfl) ?_
                                                      refine p_calli (As := [.int (iI a5)]) (rest := []) (n := 1) X Y hml hl.1 (r_M_firstType l a5 (by omega) (by omega)) kl_M_firstType ks_M_firstType ki_M_firstType ini_M hd_M_firstType ⟨Nat.le_of_ble_eq_true rfl, Nat.le_of_ble_eq_true rfl⟩ rfl (Nat.le_of_ble_eq_true rfl) d_M_request_621 ⟨Nat.le_refl _, Nat.le_refl _⟩ (fun r275 H locs p275 Y => ?_)
                                                      obtain ⟨z275, e275, p275⟩ := p275
                                                      subst e275
                                                      obtain ⟨l275, u275⟩ := p275
                                                      refine lv_istore (lv' := [(14, .int (iI z275)), (0, .ref h), (1, .int (iI a1)), (2, .int (iI a2)), (5, .int (iI a5)), (9, .int (iI z154)), (10, .long v155), (13, .int (iI (60000 - z261)))]) X.1 X.2.1 d_M_request_624 hl (by decide) rfl (fun ls hl => ?_)
                                                      refine lv_iconst (v := iI 0) X.1 X.2.1 d_M_request_626 (by decide) ?_
                                                      refine lv_istore (lv' := [(15, .int (iI 0)), (14, .int (iI z275)), (0, .ref h), (1, .int (iI a1)), (2, .int (iI a2)), (5, .int (iI a5)), (9, .int (iI z154)), (10, .long v155), (13, .int (iI (60000 - z261)))]) X.1 X.2.1 d_M_request_627 hl (by decide) rfl (fun ls hl => ?_)
                                                      refine lv_iload_n X.1 X.2.1 d_M_request_629 rfl (lv_at hl 4 rfl) ?_
                                                      refine lv_iconst (v := iI 1) X.1 X.2.1 d_M_request_630 (by decide) ?_
                                                      have J286 : ∀ (z277 : Int) (z282 : Int) (I276 : Nat → Int32) (J276 : Nat → Int64) (B276 : Nat → Nat → Int32) (G276 : Nat → Nat → Int64) (H : Heap) (locs : List Loc) (ls : Array Slot), (0 ≤ z277) → (z277 ≤ 20000) → (stA (B276 110) (B276 118) (B276 119) (B276 120)) → (stT (B276 97) (B276 98) (B276 100) (B276 107) (B276 108) (B276 109)) → (I276 54 = iI z102) → (I276 2 = iI 0) → (I276 33 = iI z282) → (0 ≤ z282) → (z282 ≤ 1901000) → (cn ≤ z282 ∧ z282 ≤ cn + 100) → (z277 ≤ 6000) → (0 ≤ z277) → mH D E (mA E h q sz) s.heap h q I276 J276 B276 G276 H locs → rS [2, 3, 8, 14, 18, 33, 36, 42, 54, 55] [0, 1, 5, 6, 7, 9, 10, 11, 12, 13, 15, 16, 17, 19, 20, 21, 22, 23, 34, 35, 53, 56, 58, 60, 95, 110, 111, 112, 113, 115, 116, 117, 118, 119, 120, 132] I B I276 B276 → lv_has ls 18 [(0, .ref h), (2, .int (iI a2)), (13, .int (iI (60000 - z261))), (15, .int (iI z277))] → W p l e (mR 8 236) s m AV below meth c H locs 0 0 QQ (F0 m 934 ls []) := by
                                                        intro z277 z282 I276 J276 B276 G276 H locs ls l277 u277 f278 f279 e280 e281 e282 l282 u282 i283 i284 i285 Y S hl
                                                        refine lv_aload_n X.1 X.2.1 d_M_request_934 rfl (lv_at hl 0 rfl) ?_
                                                        refine r_nv (m_run (As := []) (rest := []) (n := 0) X Y hZ hA hml hl.1 (r_M_start l D E h q H.size I276 J276 B276 G276 S.1) kl_M_start ks_M_start kx_M_start ki_M_start ini_M hd_M_start ⟨Nat.le_of_ble_eq_true rfl, Nat.le_of_ble_eq_true rfl⟩ rfl (Nat.le_of_ble_eq_true rfl) d_M_request_935 ⟨Nat.le_refl _, Nat.le_refl _⟩) X Y hA S (by decide) (by decide) (fun u H locs Y S s290 p290 => ?_)
                                                        obtain ⟨I290, J290, B290, G290⟩ := u
                                                        dsimp only at Y S s290 p290
                                                        have b290 : B276 = B290 := (funext (fun j => s290.2.2 j (by simp))).symm
                                                        subst b290
                                                        have x290 := p290
                                                        refine lv_aload_n X.1 X.2.1 d_M_request_938 rfl (lv_at hl 0 rfl) ?_
                                                        refine lv_iconst (v := iI 4) X.1 X.2.1 d_M_request_939 (by decide) ?_
                                                        refine lv_sipush (v := iI 22200) X.1 X.2.1 d_M_request_940 (by decide) ?_
                                                        refine lv_sipush (v := iI 22200) X.1 X.2.1 d_M_request_943 (by decide) ?_
                                                        refine lv_iload X.1 X.2.1 d_M_request_946 (lv_at hl 2 rfl) ?_
                                                        refine z_iadd X.1 X.2.1 d_M_request_948 ?_
                                                        refine r_nv (m_run (As := [.int (iI 4), .int (iI 22200), .int (iI (22200 + (60000 - z261)))]) (rest := []) (n := 3) X Y hZ hA hml hl.1 (r_M_copyField l D E h q H.size I290 J290 B276 G290 4 (by decide) (by decide) 22200 (by decide) (by decide) (22200 + (60000 - z261)) (by omega) (by omega) S.1 60000 (x290.trans (congrArg iI (show (60000 : Int) = 60000 by omega))) (by omega) (by omega) (by omega) (by omega) (by omega) (by omega)) kl_M_copyField ks_M_copyField kx_M_copyField ki_M_copyField ini_M hd_M_copyField ⟨Nat.le_of_ble_eq_true rfl, Nat.le_of_ble_eq_true rfl⟩ rfl (Nat.le_of_ble_eq_true rfl) d_M_request_949 ⟨Nat.le_refl _, Nat.le_refl _⟩) X Y hA S (by decide) (by decide) (fun u H locs Y S s291 p291 => ?_)
                                                        obtain ⟨I291, J291, B291, G291⟩ := u
                                                        dsimp only at Y S s291 p291
                                                        obtain ⟨x291, g291_MF⟩ := p291
                                                        obtain ⟨z292, e292, l292, u292⟩ := x291
                                                        refine lv_iload_n X.1 X.2.1 d_M_request_952 rfl (lv_at hl 1 rfl) ?_
                                                        have J302 : ∀ (z299 : Int) (I293 : Nat → Int32) (J293 : Nat → Int64) (B293 : Nat → Nat → Int32) (G293 : Nat → Nat → Int64) (H : Heap) (locs : List Loc) (ls : Array Slot), (stA (B293 110) (B293 118) (B293 119) (B293 120)) → (stT (B293 97) (B293 98) (B293 100) (B293 107) (B293 108) (B293 109)) → (I293 54 = iI z102) → (I293 33 = iI z282) → (I293 2 = iI 0) → (I293 42 = iI z299) → (0 ≤ z299) → (z299 ≤ 60000) → (60000 - (1200 + 8000) ≤ z299) → (z299 ≤ 60000) → mH D E (mA E h q sz) s.heap h q I293 J293 B293 G293 H locs → rS [2, 3, 8, 14, 18, 33, 36, 42, 54, 55] [0, 1, 5, 6, 7, 9, 10, 11, 12, 13, 15, 16, 17, 19, 20, 21, 22, 23, 34, 35, 53, 56, 58, 60, 95, 110, 111, 112, 113, 115, 116, 117, 118, 119, 120, 132] I B I293 B293 → lv_has ls 18 [(0, .ref h), (2, .int (iI a2))] → W p l e (mR 8 236) s m AV below meth c H locs 0 0 QQ (F0 m 1035 ls []) := by
                                                          intro z299 I293 J293 B293 G293 H locs ls f294 f295 e296 e297 e298 e299 l299 u299 i300 i301 Y S hl
                                                          refine lv_aload_n X.1 X.2.1 d_M_request_1035 rfl (lv_at hl 0 rfl) ?_
                                                          refine lv_iconst (v := iI 2) X.1 X.2.1 d_M_request_1036 (by decide) ?_
                                                          refine lv_iload_n X.1 X.2.1 d_M_request_1037 rfl (lv_at hl 1 rfl) ?_
                                                          refine lv_iconst (v := iI 2) X.1 X.2.1 d_M_request_1038 (by decide) ?_
                                                          have J307 : ∀ (v306 : Int64) (H : Heap) (locs : List Loc) (ls : Array Slot), mH D E (mA E h q sz) s.heap h q I293 J293 B293 G293 H locs → rS [2, 3, 8, 14, 18, 33, 36, 42, 54, 55] [0, 1, 5, 6, 7, 9, 10, 11, 12, 13, 15, 16, 17, 19, 20, 21, 22, 23, 34, 35, 53, 56, 58, 60, 95, 110, 111, 112, 113, 115, 116, 117, 118, 119, 120, 132] I B I293 B293 → lv_has ls 18 [(0, .ref h), (2, .int (iI a2))] → W p l e (mR 8 236) s m AV below meth c H locs 0 0 QQ (F0 m 1051 ls [.long v306, .int (iI 2), .ref h]) := by
                                                            intro v306 H locs ls  Y S hl
                                                            refine r_nv (m_run (As := [.int (iI 2), .long v306]) (rest := []) (n := 2) X Y hZ hA hml hl.1 (r_M_numberField l D E h q H.size I293 J293 B293 G293 2 (by decide) (by decide) v306 S.1 z299 e299 (by omega) (by omega)) kl_M_numberField ks_M_numberField kx_M_numberField ki_M_numberField ini_M hd_M_numberField ⟨Nat.le_of_ble_eq_true rfl, Nat.le_of_ble_eq_true rfl⟩ rfl (Nat.le_of_ble_eq_true rfl) d_M_request_1051 ⟨Nat.le_refl _, Nat.le_refl _⟩) X Y hA S (by decide) (by decide) (fun u H locs Y S s311 p311 => ?_)
                                                            obtain ⟨I311, J311, B311, G311⟩ := u
                                                            dsimp only at Y S s311 p311
                                                            obtain ⟨x311, g311_MF⟩ := p311
                                                            obtain ⟨z312, e312, l312, u312⟩ := x311
                                                            refine lv_aload_n X.1 X.2.1 d_M_request_1054 rfl (lv_at hl 0 rfl) ?_
                                                            refine lv_iconst (v := iI 1) X.1 X.2.1 d_M_request_1055 (by decide) ?_
                                                            refine lv_ldc2 (v := (5)) X.1 X.2.1 X.2.2.2.1 (X.2.2.1 _ cl_M_669) d_M_request_1056 ?_
                                                            refine r_nv (m_run (As := [.int (iI 1), .long ((5))]) (rest := []) (n := 2) X Y hZ hA hml hl.1 (r_M_numberField l D E h q H.size I311 J311 B311 G311 1 (by decide) (by decide) ((5)) S.1 z312 e312 (by omega) (by omega)) kl_M_numberField ks_M_numberField kx_M_numberField ki_M_numberField ini_M hd_M_numberField ⟨Nat.le_of_ble_eq_true rfl, Nat.le_of_ble_eq_true rfl⟩ rfl (Nat.le_of_ble_eq_true rfl) d_M_request_1059 ⟨Nat.le_refl _, Nat.le_refl _⟩) X Y hA S (by decide) (by decide) (fun u H locs Y S s313 p313 => ?_)
                                                            obtain ⟨I313, J313, B313, G313⟩ := u
                                                            dsimp only at Y S s313 p313
                                                            have f314 : stT (B313 97) (B313 98) (B313 100) (B313 107) (B313 108) (B313 109) := (stT_cg (s313.2.2 97 (by decide)) (s313.2.2 98 (by decide)) (s313.2.2 100 (by decide)) (s313.2.2 107 (by decide)) (s313.2.2 108 (by decide)) (s313.2.2 109 (by decide)) (stT_cg (s311.2.2 97 (by decide)) (s311.2.2 98 (by decide)) (s311.2.2 100 (by decide)) (s311.2.2 107 (by decide)) (s311.2.2 108 (by decide)) (s311.2.2 109 (by decide)) f295))
                                                            obtain ⟨x313, g313_MF⟩ := p313
                                                            obtain ⟨z315, e315, l315, u315⟩ := x313
                                                            refine lv_aload_n X.1 X.2.1 d_M_request_1062 rfl (lv_at hl 0 rfl) ?_
                                                            refine lv_bipush (v := iI 48) X.1 X.2.1 d_M_request_1063 (by decide) ?_
                                                            refine lv_ldc (v := (60000)) X.1 X.2.1 X.2.2.2.1 (X.2.2.1 _ cn_M_9) d_M_request_1065 ?_
                                                            refine t_eq (y := iI 60000) (by decide) ?_
                                                            refine r_nv (m_run (As := [.int (iI 48), .int (iI 60000)]) (rest := []) (n := 2) X Y hZ hA hml hl.1 (r_M_head l D E h q H.size I313 J313 B313 G313 48 (by decide) (by decide) 60000 (by decide) (by decide) S.1 z315 e315 (by omega) (by omega)) kl_M_head ks_M_head kx_M_head ki_M_head ini_M hd_M_head ⟨Nat.le_of_ble_eq_true rfl, Nat.le_of_ble_eq_true rfl⟩ rfl (Nat.le_of_ble_eq_true rfl) d_M_request_1067 ⟨Nat.le_refl _, Nat.le_refl _⟩) X Y hA S (by decide) (by decide) (fun u H locs Y S s316 p316 => ?_)
                                                            obtain ⟨I316, J316, B316, G316⟩ := u
                                                            dsimp only at Y S s316 p316
                                                            have f317 : stA (B316 110) (B316 118) (B316 119) (B316 120) := (stA_cg (s316.2.2 110 (by decide)) (s316.2.2 118 (by decide)) (s316.2.2 119 (by decide)) (s316.2.2 120 (by decide)) (stA_cg (s313.2.2 110 (by decide)) (s313.2.2 118 (by decide)) (s313.2.2 119 (by decide)) (s313.2.2 120 (by decide)) (stA_cg (s311.2.2 110 (by decide)) (s311.2.2 118 (by decide)) (s311.2.2 119 (by decide)) (s311.2.2 120 (by decide)) f294)))
                                                            obtain ⟨x316, g316_MF⟩ := p316
                                                            obtain ⟨z318, e318, l318, u318⟩ := x316
                                                            refine lv_aload_n X.1 X.2.1 d_M_request_1070 rfl (lv_at hl 0 rfl) ?_
                                                            refine lv_iload_n X.1 X.2.1 d_M_request_1071 rfl (lv_at hl 1 rfl) ?_
                                                            refine lv_iconst (v := iI 2) X.1 X.2.1 d_M_request_1072 (by decide) ?_
                                                            have J320 : ∀ (z319 : Int) (H : Heap) (locs : List Loc) (ls : Array Slot), (106 ≤ z319) → (z319 ≤ 106) → mH D E (mA E h q sz) s.heap h q I316 J316 B316 G316 H locs → rS [2, 3, 8, 14, 18, 33, 36, 42, 54, 55] [0, 1, 5, 6, 7, 9, 10, 11, 12, 13, 15, 16, 17, 19, 20, 21, 22, 23, 34, 35, 53, 56, 58, 60, 95, 110, 111, 112, 113, 115, 116, 117, 118, 119, 120, 132] I B I316 B316 → lv_has ls 18 [(0, .ref h)] → W p l e (mR 8 236) s m AV below meth c H locs 0 0 QQ (F0 m 1083 ls [.int (iI z319), .ref h]) := by
                                                              intro z319 H locs ls l319 u319 Y S hl
                                                              refine lv_ldc (v := (60000)) X.1 X.2.1 X.2.2.2.1 (X.2.2.1 _ cn_M_9) d_M_request_1083 ?_
                                                              refine t_eq (y := iI 60000) (by decide) ?_
                                                              refine r_nv (m_run (As := [.int (iI z319), .int (iI 60000)]) (rest := []) (n := 2) X Y hZ hA hml hl.1 (r_M_head l D E h q H.size I316 J316 B316 G316 z319 (by omega) (by omega) 60000 (by decide) (by decide) S.1 z318 e318 (by omega) (by omega)) kl_M_head ks_M_head kx_M_head ki_M_head ini_M hd_M_head ⟨Nat.le_of_ble_eq_true rfl, Nat.le_of_ble_eq_true rfl⟩ rfl (Nat.le_of_ble_eq_true rfl) d_M_request_1085 ⟨Nat.le_refl _, Nat.le_refl _⟩) X Y hA S (by decide) (by decide) (fun u H locs Y S s324 p324 => ?_)
                                                              obtain ⟨I324, J324, B324, G324⟩ := u
                                                              dsimp only at Y S s324 p324
                                                              have f325 : stT (B324 97) (B324 98) (B324 100) (B324 107) (B324 108) (B324 109) := (stT_cg (s324.2.2 97 (by decide)) (s324.2.2 98 (by decide)) (s324.2.2 100 (by decide)) (s324.2.2 107 (by decide)) (s324.2.2 108 (by decide)) (s324.2.2 109 (by decide)) (stT_cg (s316.2.2 97 (by decide)) (s316.2.2 98 (by decide)) (s316.2.2 100 (by decide)) (s316.2.2 107 (by decide)) (s316.2.2 108 (by decide)) (s316.2.2 109 (by decide)) f314))
                                                              obtain ⟨x324, g324_MF⟩ := p324
                                                              obtain ⟨z326, e326, l326, u326⟩ := x324
                                                              refine lv_aload_n X.1 X.2.1 d_M_request_1088 rfl (lv_at hl 0 rfl) ?_
                                                              refine r_nv (m_run (As := []) (rest := []) (n := 0) X Y hZ hA hml hl.1 (r_M_written l D E h q H.size I324 J324 B324 G324 S.1 z326 e326 (by omega) (by omega)) kl_M_written ks_M_written kx_M_written ki_M_written ini_M hd_M_written ⟨Nat.le_of_ble_eq_true rfl, Nat.le_of_ble_eq_true rfl⟩ rfl (Nat.le_of_ble_eq_true rfl) d_M_request_1089 ⟨Nat.le_refl _, Nat.le_refl _⟩) X Y hA S (by decide) (by decide) (fun u H locs Y S s327 p327 => ?_)
                                                              obtain ⟨I327, J327, B327, G327⟩ := u
                                                              dsimp only at Y S s327 p327
                                                              have g327_MF := p327
                                                              refine lv_aload_n X.1 X.2.1 d_M_request_1092 rfl (lv_at hl 0 rfl) ?_
                                                              refine r_geti (k := 3) X Y S (by decide) lk_outMany (gf_outMany _ _ _) rfl rfl d_M_request_1093 (fun z328 e328 l328 u328 => ?_)
                                                              exact m_reti hQQ X Y hr hlk ⟨S, z328, rfl, ⟨by omega, by omega, ⟨z282, ((s327.2.1 33 (by decide)).trans ((s324.2.1 33 (by decide)).trans ((s316.2.1 33 (by decide)).trans ((s313.2.1 33 (by decide)).trans ((s311.2.1 33 (by decide)).trans e297))))), by omega, by omega⟩, (stT_cg (s327.2.2 97 (by decide)) (s327.2.2 98 (by decide)) (s327.2.2 100 (by decide)) (s327.2.2 107 (by decide)) (s327.2.2 108 (by decide)) (s327.2.2 109 (by decide)) f325), (stA_cg (s327.2.2 110 (by decide)) (s327.2.2 118 (by decide)) (s327.2.2 119 (by decide)) (s327.2.2 120 (by decide)) (stA_cg (s324.2.2 110 (by decide)) (s324.2.2 118 (by decide)) (s324.2.2 119 (by decide)) (s324.2.2 120 (by decide)) f317))⟩⟩ d_M_request_1096
                                                            refine z_icmp_ne (tgt := 1081) X.1 X.2.1 d_M_request_1073 (by decide) ⟨by omega, by omega⟩ ⟨by decide, by decide⟩ (fun h329 => ?_) (fun h329 => False.elim (by omega))
                                                            · refine lv_bipush (v := iI 106) X.1 X.2.1 d_M_request_1081 (by decide) ?_
                                                              exact J320 106 _ _ _ (by omega) (by omega) Y S (lv_sub hl [0] rfl)
                                                          refine z_icmp_ne (tgt := 1048) X.1 X.2.1 d_M_request_1039 (by decide) ⟨by omega, by omega⟩ ⟨by decide, by decide⟩ (fun h330 => ?_) (fun h330 => False.elim (by omega))
                                                          · refine lv_ldc2 (v := (10)) X.1 X.2.1 X.2.2.2.1 (X.2.2.1 _ cl_M_671) d_M_request_1048 ?_
                                                            exact J307 ((10)) _ _ _  Y S (lv_sub hl [0, 1] rfl)
                                                        refine z_if_le (tgt := 1035) X.1 X.2.1 d_M_request_953 (by decide) ⟨by omega, by omega⟩ (fun h331 => ?_) (fun h331 => ?_)
                                                        · exact J302 z292 I291 J291 B291 G291 _ _ _ (stA_cg (s291.2.2 110 (by decide)) (s291.2.2 118 (by decide)) (s291.2.2 119 (by decide)) (s291.2.2 120 (by decide)) (stA_cg rfl rfl rfl rfl f278)) (stT_cg (s291.2.2 97 (by decide)) (s291.2.2 98 (by decide)) (s291.2.2 100 (by decide)) (s291.2.2 107 (by decide)) (s291.2.2 108 (by decide)) (s291.2.2 109 (by decide)) (stT_cg rfl rfl rfl rfl rfl rfl f279)) ((s291.2.1 54 (by decide)).trans ((s290.2.1 54 (by decide)).trans e280)) ((s291.2.1 33 (by decide)).trans ((s290.2.1 33 (by decide)).trans e282)) ((s291.2.1 2 (by decide)).trans ((s290.2.1 2 (by decide)).trans e281)) e292 (by omega) (by omega) (by omega) (by omega) Y S (lv_sub hl [0, 1] rfl)
                                                        · refine lv_aload_n X.1 X.2.1 d_M_request_956 rfl (lv_at hl 0 rfl) ?_
                                                          refine r_get0 X Y (by decide) lk_w0 (gf_w0 _ _ _) rfl e292 d_M_request_957 ?_
                                                          refine lv_istore (lv' := [(16, .int (iI z292)), (0, .ref h), (2, .int (iI a2)), (13, .int (iI (60000 - z261))), (15, .int (iI z277))]) X.1 X.2.1 d_M_request_960 hl (by decide) rfl (fun ls hl => ?_)
                                                          refine lv_aload_n X.1 X.2.1 d_M_request_962 rfl (lv_at hl 1 rfl) ?_
                                                          refine r_get0 X Y (by decide) lk_w0 (gf_w0 _ _ _) rfl e292 d_M_request_963 ?_
                                                          refine lv_istore (lv' := [(17, .int (iI z292)), (16, .int (iI z292)), (0, .ref h), (2, .int (iI a2)), (13, .int (iI (60000 - z261))), (15, .int (iI z277))]) X.1 X.2.1 d_M_request_966 hl (by decide) rfl (fun ls hl => ?_)
                                                          refine lv_aload_n X.1 X.2.1 d_M_request_968 rfl (lv_at hl 2 rfl) ?_
                                                          refine lv_aload_n X.1 X.2.1 d_M_request_969 rfl (lv_at hl 2 rfl) ?_
                                                          refine m_get X Y 0 (by decide) lk_mem (gf_mem _ _ _) rfl d_M_request_970 ?_
                                                          refine lv_sipush (v := iI 13200) X.1 X.2.1 d_M_request_973 (by decide) ?_
                                                          refine lv_iload X.1 X.2.1 d_M_request_976 (lv_at hl 5 rfl) ?_
                                                          refine r_nv (m_run (As := [.ref ((q 0)), .int (iI 13200), .int (iI z277)]) (rest := []) (n := 3) X Y hZ hA hml hl.1 (r_M_putBytes_mem l D E h q H.size I291 J291 B291 G291 13200 (by decide) (by decide) z277 (by omega) (by omega) S.1 z292 e292 (by omega) (by omega) (by omega) (by omega) (by omega)) kl_M_putBytes ks_M_putBytes kx_M_putBytes ki_M_putBytes ini_M hd_M_putBytes ⟨Nat.le_of_ble_eq_true rfl, Nat.le_of_ble_eq_true rfl⟩ rfl (Nat.le_of_ble_eq_true rfl) d_M_request_978 ⟨Nat.le_refl _, Nat.le_refl _⟩) X Y hA S (by decide) (by decide) (fun u H locs Y S s332 p332 => ?_)
                                                          obtain ⟨I332, J332, B332, G332⟩ := u
                                                          dsimp only at Y S s332 p332
                                                          have f333 : stT (B332 97) (B332 98) (B332 100) (B332 107) (B332 108) (B332 109) := (stT_cg (s332.2.2 97 (by decide)) (s332.2.2 98 (by decide)) (s332.2.2 100 (by decide)) (s332.2.2 107 (by decide)) (s332.2.2 108 (by decide)) (s332.2.2 109 (by decide)) (stT_cg (s291.2.2 97 (by decide)) (s291.2.2 98 (by decide)) (s291.2.2 100 (by decide)) (s291.2.2 107 (by decide)) (s291.2.2 108 (by decide)) (s291.2.2 109 (by decide)) (stT_cg rfl rfl rfl rfl rfl rfl f279)))
                                                          have f334 : stA (B332 110) (B332 118) (B332 119) (B332 120) := (stA_cg (s332.2.2 110 (by decide)) (s332.2.2 118 (by decide)) (s332.2.2 119 (by decide)) (s332.2.2 120 (by decide)) (stA_cg (s291.2.2 110 (by decide)) (s291.2.2 118 (by decide)) (s291.2.2 119 (by decide)) (s291.2.2 120 (by decide)) (stA_cg rfl rfl rfl rfl f278)))
                                                          obtain ⟨x332, g332_MF⟩ := p332
                                                          obtain ⟨z335, e335, l335, u335⟩ := x332
                                                          refine lv_aload_n X.1 X.2.1 d_M_request_981 rfl (lv_at hl 2 rfl) ?_
                                                          refine lv_iconst (v := iI 4) X.1 X.2.1 d_M_request_982 (by decide) ?_
                                                          refine lv_iload X.1 X.2.1 d_M_request_983 (lv_at hl 0 rfl) ?_
                                                          refine r_nv (m_run (As := [.int (iI 4), .int (iI z292)]) (rest := []) (n := 2) X Y hZ hA hml hl.1 (r_M_head l D E h q H.size I332 J332 B332 G332 4 (by decide) (by decide) z292 (by omega) (by omega) S.1 z335 e335 (by omega) (by omega)) kl_M_head ks_M_head kx_M_head ki_M_head ini_M hd_M_head ⟨Nat.le_of_ble_eq_true rfl, Nat.le_of_ble_eq_true rfl⟩ rfl (Nat.le_of_ble_eq_true rfl) d_M_request_985 ⟨Nat.le_refl _, Nat.le_refl _⟩) X Y hA S (by decide) (by decide) (fun u H locs Y S s336 p336 => ?_)
                                                          obtain ⟨I336, J336, B336, G336⟩ := u
                                                          dsimp only at Y S s336 p336
                                                          obtain ⟨x336, g336_MF⟩ := p336
                                                          obtain ⟨z337, e337, l337, u337⟩ := x336
                                                          refine lv_aload_n X.1 X.2.1 d_M_request_988 rfl (lv_at hl 2 rfl) ?_
                                                          refine lv_iconst (v := iI 2) X.1 X.2.1 d_M_request_989 (by decide) ?_
                                                          refine lv_iload X.1 X.2.1 d_M_request_990 (lv_at hl 0 rfl) ?_
                                                          refine r_nv (m_run (As := [.int (iI 2), .int (iI z292)]) (rest := []) (n := 2) X Y hZ hA hml hl.1 (r_M_field l D E h q H.size I336 J336 B336 G336 2 (by decide) (by decide) z292 (by omega) (by omega) S.1 z337 e337 (by omega) (by omega)) kl_M_field ks_M_field kx_M_field ki_M_field ini_M hd_M_field ⟨Nat.le_of_ble_eq_true rfl, Nat.le_of_ble_eq_true rfl⟩ rfl (Nat.le_of_ble_eq_true rfl) d_M_request_992 ⟨Nat.le_refl _, Nat.le_refl _⟩) X Y hA S (by decide) (by decide) (fun u H locs Y S s338 p338 => ?_)
                                                          obtain ⟨I338, J338, B338, G338⟩ := u
                                                          dsimp only at Y S s338 p338
                                                          have f339 : stT (B338 97) (B338 98) (B338 100) (B338 107) (B338 108) (B338 109) := (stT_cg (s338.2.2 97 (by decide)) (s338.2.2 98 (by decide)) (s338.2.2 100 (by decide)) (s338.2.2 107 (by decide)) (s338.2.2 108 (by decide)) (s338.2.2 109 (by decide)) (stT_cg (s336.2.2 97 (by decide)) (s336.2.2 98 (by decide)) (s336.2.2 100 (by decide)) (s336.2.2 107 (by decide)) (s336.2.2 108 (by decide)) (s336.2.2 109 (by decide)) f333))
                                                          obtain ⟨x338, g338_MF⟩ := p338
                                                          obtain ⟨z340, e340, l340, u340⟩ := x338
                                                          refine lv_aload_n X.1 X.2.1 d_M_request_995 rfl (lv_at hl 2 rfl) ?_
                                                          refine lv_iconst (v := iI 1) X.1 X.2.1 d_M_request_996 (by decide) ?_
                                                          refine lv_iload_n X.1 X.2.1 d_M_request_997 rfl (lv_at hl 3 rfl) ?_
                                                          refine lv_iconst (v := iI 1) X.1 X.2.1 d_M_request_998 (by decide) ?_
                                                          have J342 : ∀ (v341 : Int64) (H : Heap) (locs : List Loc) (ls : Array Slot), mH D E (mA E h q sz) s.heap h q I338 J338 B338 G338 H locs → rS [2, 3, 8, 14, 18, 33, 36, 42, 54, 55] [0, 1, 5, 6, 7, 9, 10, 11, 12, 13, 15, 16, 17, 19, 20, 21, 22, 23, 34, 35, 53, 56, 58, 60, 95, 110, 111, 112, 113, 115, 116, 117, 118, 119, 120, 132] I B I338 B338 → lv_has ls 18 [(0, .ref h), (2, .int (iI a2)), (16, .int (iI z292))] → W p l e (mR 8 236) s m AV below meth c H locs 0 0 QQ (F0 m 1009 ls [.long v341, .int (iI 1), .ref h]) := by
                                                            intro v341 H locs ls  Y S hl
                                                            refine r_nv (m_run (As := [.int (iI 1), .long v341]) (rest := []) (n := 2) X Y hZ hA hml hl.1 (r_M_numberField l D E h q H.size I338 J338 B338 G338 1 (by decide) (by decide) v341 S.1 z340 e340 (by omega) (by omega)) kl_M_numberField ks_M_numberField kx_M_numberField ki_M_numberField ini_M hd_M_numberField ⟨Nat.le_of_ble_eq_true rfl, Nat.le_of_ble_eq_true rfl⟩ rfl (Nat.le_of_ble_eq_true rfl) d_M_request_1009 ⟨Nat.le_refl _, Nat.le_refl _⟩) X Y hA S (by decide) (by decide) (fun u H locs Y S s346 p346 => ?_)
                                                            obtain ⟨I346, J346, B346, G346⟩ := u
                                                            dsimp only at Y S s346 p346
                                                            have f347 : stA (B346 110) (B346 118) (B346 119) (B346 120) := (stA_cg (s346.2.2 110 (by decide)) (s346.2.2 118 (by decide)) (s346.2.2 119 (by decide)) (s346.2.2 120 (by decide)) (stA_cg (s338.2.2 110 (by decide)) (s338.2.2 118 (by decide)) (s338.2.2 119 (by decide)) (s338.2.2 120 (by decide)) (stA_cg (s336.2.2 110 (by decide)) (s336.2.2 118 (by decide)) (s336.2.2 119 (by decide)) (s336.2.2 120 (by decide)) f334)))
                                                            obtain ⟨x346, g346_MF⟩ := p346
                                                            obtain ⟨z348, e348, l348, u348⟩ := x346
                                                            refine lv_aload_n X.1 X.2.1 d_M_request_1012 rfl (lv_at hl 0 rfl) ?_
                                                            refine lv_bipush (v := iI 48) X.1 X.2.1 d_M_request_1013 (by decide) ?_
                                                            refine lv_iload X.1 X.2.1 d_M_request_1015 (lv_at hl 2 rfl) ?_
                                                            refine r_nv (m_run (As := [.int (iI 48), .int (iI z292)]) (rest := []) (n := 2) X Y hZ hA hml hl.1 (r_M_head l D E h q H.size I346 J346 B346 G346 48 (by decide) (by decide) z292 (by omega) (by omega) S.1 z348 e348 (by omega) (by omega)) kl_M_head ks_M_head kx_M_head ki_M_head ini_M hd_M_head ⟨Nat.le_of_ble_eq_true rfl, Nat.le_of_ble_eq_true rfl⟩ rfl (Nat.le_of_ble_eq_true rfl) d_M_request_1017 ⟨Nat.le_refl _, Nat.le_refl _⟩) X Y hA S (by decide) (by decide) (fun u H locs Y S s349 p349 => ?_)
                                                            obtain ⟨I349, J349, B349, G349⟩ := u
                                                            dsimp only at Y S s349 p349
                                                            have f350 : stT (B349 97) (B349 98) (B349 100) (B349 107) (B349 108) (B349 109) := (stT_cg (s349.2.2 97 (by decide)) (s349.2.2 98 (by decide)) (s349.2.2 100 (by decide)) (s349.2.2 107 (by decide)) (s349.2.2 108 (by decide)) (s349.2.2 109 (by decide)) (stT_cg (s346.2.2 97 (by decide)) (s346.2.2 98 (by decide)) (s346.2.2 100 (by decide)) (s346.2.2 107 (by decide)) (s346.2.2 108 (by decide)) (s346.2.2 109 (by decide)) f339))
                                                            obtain ⟨x349, g349_MF⟩ := p349
                                                            obtain ⟨z351, e351, l351, u351⟩ := x349
                                                            refine lv_aload_n X.1 X.2.1 d_M_request_1020 rfl (lv_at hl 0 rfl) ?_
                                                            refine lv_bipush (v := iI 48) X.1 X.2.1 d_M_request_1021 (by decide) ?_
                                                            refine lv_iload X.1 X.2.1 d_M_request_1023 (lv_at hl 2 rfl) ?_
                                                            refine r_nv (m_run (As := [.int (iI 48), .int (iI z292)]) (rest := []) (n := 2) X Y hZ hA hml hl.1 (r_M_head l D E h q H.size I349 J349 B349 G349 48 (by decide) (by decide) z292 (by omega) (by omega) S.1 z351 e351 (by omega) (by omega)) kl_M_head ks_M_head kx_M_head ki_M_head ini_M hd_M_head ⟨Nat.le_of_ble_eq_true rfl, Nat.le_of_ble_eq_true rfl⟩ rfl (Nat.le_of_ble_eq_true rfl) d_M_request_1025 ⟨Nat.le_refl _, Nat.le_refl _⟩) X Y hA S (by decide) (by decide) (fun u H locs Y S s352 p352 => ?_)
                                                            obtain ⟨I352, J352, B352, G352⟩ := u
                                                            dsimp only at Y S s352 p352
                                                            obtain ⟨x352, g352_MF⟩ := p352
                                                            obtain ⟨z353, e353, l353, u353⟩ := x352
                                                            refine lv_aload_n X.1 X.2.1 d_M_request_1028 rfl (lv_at hl 0 rfl) ?_
                                                            refine lv_iconst (v := iI 3) X.1 X.2.1 d_M_request_1029 (by decide) ?_
                                                            refine lv_iload X.1 X.2.1 d_M_request_1030 (lv_at hl 2 rfl) ?_
                                                            refine r_nv (m_run (As := [.int (iI 3), .int (iI z292)]) (rest := []) (n := 2) X Y hZ hA hml hl.1 (r_M_field l D E h q H.size I352 J352 B352 G352 3 (by decide) (by decide) z292 (by omega) (by omega) S.1 z353 e353 (by omega) (by omega)) kl_M_field ks_M_field kx_M_field ki_M_field ini_M hd_M_field ⟨Nat.le_of_ble_eq_true rfl, Nat.le_of_ble_eq_true rfl⟩ rfl (Nat.le_of_ble_eq_true rfl) d_M_request_1032 ⟨Nat.le_refl _, Nat.le_refl _⟩) X Y hA S (by decide) (by decide) (fun u H locs Y S s354 p354 => ?_)
                                                            obtain ⟨I354, J354, B354, G354⟩ := u
                                                            dsimp only at Y S s354 p354
                                                            have f355 : stT (B354 97) (B354 98) (B354 100) (B354 107) (B354 108) (B354 109) := (stT_cg (s354.2.2 97 (by decide)) (s354.2.2 98 (by decide)) (s354.2.2 100 (by decide)) (s354.2.2 107 (by decide)) (s354.2.2 108 (by decide)) (s354.2.2 109 (by decide)) (stT_cg (s352.2.2 97 (by decide)) (s352.2.2 98 (by decide)) (s352.2.2 100 (by decide)) (s352.2.2 107 (by decide)) (s352.2.2 108 (by decide)) (s352.2.2 109 (by decide)) f350))
                                                            have f356 : stA (B354 110) (B354 118) (B354 119) (B354 120) := (stA_cg (s354.2.2 110 (by decide)) (s354.2.2 118 (by decide)) (s354.2.2 119 (by decide)) (s354.2.2 120 (by decide)) (stA_cg (s352.2.2 110 (by decide)) (s352.2.2 118 (by decide)) (s352.2.2 119 (by decide)) (s352.2.2 120 (by decide)) (stA_cg (s349.2.2 110 (by decide)) (s349.2.2 118 (by decide)) (s349.2.2 119 (by decide)) (s349.2.2 120 (by decide)) f347)))
                                                            obtain ⟨x354, g354_MF⟩ := p354
                                                            obtain ⟨z357, e357, l357, u357⟩ := x354
                                                            exact J302 z357 I354 J354 B354 G354 _ _ _ f356 f355 ((s354.2.1 54 (by decide)).trans ((s352.2.1 54 (by decide)).trans ((s349.2.1 54 (by decide)).trans ((s346.2.1 54 (by decide)).trans ((s338.2.1 54 (by decide)).trans ((s336.2.1 54 (by decide)).trans ((s332.2.1 54 (by decide)).trans ((s291.2.1 54 (by decide)).trans ((s290.2.1 54 (by decide)).trans e280))))))))) ((s354.2.1 33 (by decide)).trans ((s352.2.1 33 (by decide)).trans ((s349.2.1 33 (by decide)).trans ((s346.2.1 33 (by decide)).trans ((s338.2.1 33 (by decide)).trans ((s336.2.1 33 (by decide)).trans ((s332.2.1 33 (by decide)).trans ((s291.2.1 33 (by decide)).trans ((s290.2.1 33 (by decide)).trans e282))))))))) ((s354.2.1 2 (by decide)).trans ((s352.2.1 2 (by decide)).trans ((s349.2.1 2 (by decide)).trans ((s346.2.1 2 (by decide)).trans ((s338.2.1 2 (by decide)).trans ((s336.2.1 2 (by decide)).trans ((s332.2.1 2 (by decide)).trans ((s291.2.1 2 (by decide)).trans ((s290.2.1 2 (by decide)).trans e281))))))))) e357 (by omega) (by omega) (by omega) (by omega) Y S (lv_sub hl [0, 1] rfl)
                                                          refine z_icmp_ne (tgt := 1008) X.1 X.2.1 d_M_request_999 (by decide) ⟨by omega, by omega⟩ ⟨by decide, by decide⟩ (fun h358 => False.elim (by omega)) (fun h358 => ?_)
                                                          · refine lv_ldc2 (v := (2)) X.1 X.2.1 X.2.2.2.1 (X.2.2.1 _ cl_M_810) d_M_request_1002 ?_
                                                            refine lv_goto (tgt := 1009) X.1 X.2.1 d_M_request_1005 (by decide) ?_
                                                            exact J342 ((2)) _ _ _  Y S (lv_sub hl [2, 3, 1] rfl)
                                                      refine z_icmp_ne (tgt := 760) X.1 X.2.1 d_M_request_631 (by decide) ⟨by omega, by omega⟩ ⟨by decide, by decide⟩ (fun h359 => ?_) (fun h359 => ?_)
                                                      · refine lv_iload_n X.1 X.2.1 d_M_request_760 rfl (lv_at hl 4 rfl) ?_
                                                        refine lv_iconst (v := iI 2) X.1 X.2.1 d_M_request_761 (by decide) ?_
                                                        refine z_icmp_ne (tgt := 934) X.1 X.2.1 d_M_request_762 (by decide) ⟨by omega, by omega⟩ ⟨by decide, by decide⟩ (fun h360 => ?_) (fun h360 => False.elim (by omega))
                                                        · exact J286 0 (cn + 4) I262 J262 B262 G262 _ _ _ (by omega) (by omega) f264 f265 e266 e269 e268 (by omega) (by omega) (by omega) (by omega) (by omega) Y S (lv_sub hl [2, 4, 8, 0] rfl)
                                                      · refine lv_aload_n X.1 X.2.1 d_M_request_634 rfl (lv_at hl 2 rfl) ?_
                                                        refine r_nv (m_run (As := []) (rest := []) (n := 0) X Y hZ hA hml hl.1 (r_M_start l D E h q H.size I262 J262 B262 G262 S.1) kl_M_start ks_M_start kx_M_start ki_M_start ini_M hd_M_start ⟨Nat.le_of_ble_eq_true rfl, Nat.le_of_ble_eq_true rfl⟩ rfl (Nat.le_of_ble_eq_true rfl) d_M_request_635 ⟨Nat.le_refl _, Nat.le_refl _⟩) X Y hA S (by decide) (by decide) (fun u H locs Y S s361 p361 => ?_)
                                                        obtain ⟨I361, J361, B361, G361⟩ := u
                                                        dsimp only at Y S s361 p361
                                                        have b361 : B262 = B361 := (funext (fun j => s361.2.2 j (by simp))).symm
                                                        subst b361
                                                        have x361 := p361
                                                        refine lv_aload_n X.1 X.2.1 d_M_request_638 rfl (lv_at hl 2 rfl) ?_
                                                        refine lv_iconst (v := iI 1) X.1 X.2.1 d_M_request_639 (by decide) ?_
                                                        refine lv_aload_n X.1 X.2.1 d_M_request_640 rfl (lv_at hl 2 rfl) ?_
                                                        refine m_get X Y 95 (by decide) lk_micros (gf_micros _ _ _) rfl d_M_request_641 ?_
                                                        refine lv_iload_n X.1 X.2.1 d_M_request_644 rfl (lv_at hl 3 rfl) ?_
                                                        refine r_iald X Y S (aw_micros _ _ _ _ _ _ _) rfl (by omega) (show a1 < ((4 : Nat) : Int) by omega) (by omega) d_M_request_645 (fun z362 q362 l362 u362 => ?_)
                                                        refine lv_ldcw (v := (1000000)) X.1 X.2.1 X.2.2.2.1 (X.2.2.1 _ cn_M_644) d_M_request_646 ?_
                                                        refine t_eq (y := iI 1000000) (by decide) ?_
                                                        refine z_iremg X.1 X.2.1 ⟨by omega, by omega⟩ ⟨by decide, by decide⟩ d_M_request_649 (fun z363 l363 u363 x363 => ?_)
                                                        refine lv_i2l X.1 X.2.1 d_M_request_650 rfl ?_
                                                        refine t_anyl (fun v364 => ?_)
                                                        refine r_nv (m_run (As := [.int (iI 1), .long v364]) (rest := []) (n := 2) X Y hZ hA hml hl.1 (r_M_numberField l D E h q H.size I361 J361 B262 G361 1 (by decide) (by decide) v364 S.1 60000 (x361.trans (congrArg iI (show (60000 : Int) = 60000 by omega))) (by omega) (by omega)) kl_M_numberField ks_M_numberField kx_M_numberField ki_M_numberField ini_M hd_M_numberField ⟨Nat.le_of_ble_eq_true rfl, Nat.le_of_ble_eq_true rfl⟩ rfl (Nat.le_of_ble_eq_true rfl) d_M_request_651 ⟨Nat.le_refl _, Nat.le_refl _⟩) X Y hA S (by decide) (by decide) (fun u H locs Y S s365 p365 => ?_)
                                                        obtain ⟨I365, J365, B365, G365⟩ := u
                                                        dsimp only at Y S s365 p365
                                                        obtain ⟨x365, g365_MF⟩ := p365
                                                        obtain ⟨z366, e366, l366, u366⟩ := x365
                                                        refine lv_aload_n X.1 X.2.1 d_M_request_654 rfl (lv_at hl 2 rfl) ?_
                                                        refine lv_iconst (v := iI 0) X.1 X.2.1 d_M_request_655 (by decide) ?_
                                                        refine lv_lload X.1 X.2.1 d_M_request_656 (lv_at hl 7 rfl) ?_
                                                        refine r_nv (m_run (As := [.int (iI 0), .long v155]) (rest := []) (n := 2) X Y hZ hA hml hl.1 (r_M_timeField l D E h q H.size I365 J365 B365 G365 0 (by decide) (by decide) v155 S.1 z366 e366 (by omega) (by omega)) kl_M_timeField ks_M_timeField kx_M_timeField ki_M_timeField ini_M hd_M_timeField ⟨Nat.le_of_ble_eq_true rfl, Nat.le_of_ble_eq_true rfl⟩ rfl (Nat.le_of_ble_eq_true rfl) d_M_request_658 ⟨Nat.le_refl _, Nat.le_refl _⟩) X Y hA S (by decide) (by decide) (fun u H locs Y S s367 p367 => ?_)
                                                        obtain ⟨I367, J367, B367, G367⟩ := u
                                                        dsimp only at Y S s367 p367
                                                        have f368 : stT (B367 97) (B367 98) (B367 100) (B367 107) (B367 108) (B367 109) := (stT_cg (s367.2.2 97 (by decide)) (s367.2.2 98 (by decide)) (s367.2.2 100 (by decide)) (s367.2.2 107 (by decide)) (s367.2.2 108 (by decide)) (s367.2.2 109 (by decide)) (stT_cg (s365.2.2 97 (by decide)) (s365.2.2 98 (by decide)) (s365.2.2 100 (by decide)) (s365.2.2 107 (by decide)) (s365.2.2 108 (by decide)) (s365.2.2 109 (by decide)) (stT_cg rfl rfl rfl rfl rfl rfl f265)))
                                                        have f369 : stA (B367 110) (B367 118) (B367 119) (B367 120) := (stA_cg (s367.2.2 110 (by decide)) (s367.2.2 118 (by decide)) (s367.2.2 119 (by decide)) (s367.2.2 120 (by decide)) (stA_cg (s365.2.2 110 (by decide)) (s365.2.2 118 (by decide)) (s365.2.2 119 (by decide)) (s365.2.2 120 (by decide)) (stA_cg rfl rfl rfl rfl f264)))
                                                        obtain ⟨x367, g367_MF⟩ := p367
                                                        obtain ⟨z370, e370, l370, u370⟩ := x367
                                                        refine lv_aload_n X.1 X.2.1 d_M_request_661 rfl (lv_at hl 2 rfl) ?_
                                                        refine lv_bipush (v := iI 48) X.1 X.2.1 d_M_request_662 (by decide) ?_
                                                        refine lv_ldc (v := (60000)) X.1 X.2.1 X.2.2.2.1 (X.2.2.1 _ cn_M_9) d_M_request_664 ?_
                                                        refine t_eq (y := iI 60000) (by decide) ?_
                                                        refine r_nv (m_run (As := [.int (iI 48), .int (iI 60000)]) (rest := []) (n := 2) X Y hZ hA hml hl.1 (r_M_head l D E h q H.size I367 J367 B367 G367 48 (by decide) (by decide) 60000 (by decide) (by decide) S.1 z370 e370 (by omega) (by omega)) kl_M_head ks_M_head kx_M_head ki_M_head ini_M hd_M_head ⟨Nat.le_of_ble_eq_true rfl, Nat.le_of_ble_eq_true rfl⟩ rfl (Nat.le_of_ble_eq_true rfl) d_M_request_666 ⟨Nat.le_refl _, Nat.le_refl _⟩) X Y hA S (by decide) (by decide) (fun u H locs Y S s371 p371 => ?_)
                                                        obtain ⟨I371, J371, B371, G371⟩ := u
                                                        dsimp only at Y S s371 p371
                                                        obtain ⟨x371, g371_MF⟩ := p371
                                                        obtain ⟨z372, e372, l372, u372⟩ := x371
                                                        refine lv_iconst (v := iI 0) X.1 X.2.1 d_M_request_669 (by decide) ?_
                                                        have J381 : ∀ (n383 : Nat) (z374 : Int) (I373 : Nat → Int32) (J373 : Nat → Int64) (B373 : Nat → Nat → Int32) (G373 : Nat → Nat → Int64) (H : Heap) (locs : List Loc) (ls : Array Slot), (32 - z374).toNat = n383 → (0 ≤ z374) → (z374 ≤ 32) → (stA (B373 110) (B373 118) (B373 119) (B373 120)) → (stT (B373 97) (B373 98) (B373 100) (B373 107) (B373 108) (B373 109)) → (I373 54 = iI z102) → (I373 42 = iI z372) → (I373 33 = iI (cn + 4)) → (I373 2 = iI 0) → mH D E (mA E h q sz) s.heap h q I373 J373 B373 G373 H locs → rS [2, 3, 8, 14, 18, 33, 36, 42, 54, 55] [0, 1, 5, 6, 7, 9, 10, 11, 12, 13, 15, 16, 17, 19, 20, 21, 22, 23, 34, 35, 53, 56, 58, 60, 95, 110, 111, 112, 113, 115, 116, 117, 118, 119, 120, 132] I B I373 B373 → lv_has ls 18 [(0, .ref h), (1, .int (iI a1)), (2, .int (iI a2)), (13, .int (iI (60000 - z261))), (14, .int (iI z275)), (16, .int (iI z374))] → W p l e (mR 8 236) s m AV below meth c H locs 0 0 QQ (F0 m 672 ls []) := by
                                                          intro n383
                                                          induction n383 using Nat.strongRecOn with
                                                          | ind n383 ih382 =>
                                                            intro z374 I373 J373 B373 G373 H locs ls hm384 l374 u374 f375 f376 e377 e378 e379 e380 Y S hl
                                                            refine lv_iload X.1 X.2.1 d_M_request_672 (lv_at hl 5 rfl) ?_
                                                            refine lv_bipush (v := iI 32) X.1 X.2.1 d_M_request_674 (by decide) ?_
                                                            refine z_icmp_ge (tgt := 713) X.1 X.2.1 d_M_request_676 (by decide) ⟨by omega, by omega⟩ ⟨by decide, by decide⟩ (fun h385 => ?_) (fun h385 => ?_)
                                                            · refine lv_aload_n X.1 X.2.1 d_M_request_713 rfl (lv_at hl 0 rfl) ?_
                                                              refine lv_aload_n X.1 X.2.1 d_M_request_714 rfl (lv_at hl 0 rfl) ?_
                                                              refine m_get X Y 56 (by decide) lk_made (gf_made _ _ _) rfl d_M_request_715 ?_
                                                              refine lv_iload X.1 X.2.1 d_M_request_718 (lv_at hl 4 rfl) ?_
                                                              refine lv_iconst (v := iI 1) X.1 X.2.1 d_M_request_720 (by decide) ?_
                                                              refine lv_aload_n X.1 X.2.1 d_M_request_721 rfl (lv_at hl 0 rfl) ?_
                                                              refine r_get0 X Y (by decide) lk_w0 (gf_w0 _ _ _) rfl e378 d_M_request_722 ?_
                                                              refine lv_ldc (v := (60000)) X.1 X.2.1 X.2.2.2.1 (X.2.2.1 _ cn_M_9) d_M_request_725 ?_
                                                              refine t_eq (y := iI 60000) (by decide) ?_
                                                              refine r_nv (m_run (As := [.ref ((q 56)), .int (iI z275), .int (iI 1), .int (iI z372), .int (iI 60000)]) (rest := []) (n := 5) X Y hZ hA hml hl.1 (r_M_seal_made l D E h q H.size I373 J373 B373 G373 z275 (by omega) (by omega) 1 (by decide) (by decide) z372 (by omega) (by omega) 60000 (by decide) (by decide) S.1 (cn + 4) e379 (by omega) (by omega) (by omega) (by omega)) kl_M_seal ks_M_seal kx_M_seal ki_M_seal ini_M hd_M_seal ⟨Nat.le_of_ble_eq_true rfl, Nat.le_of_ble_eq_true rfl⟩ rfl (Nat.le_of_ble_eq_true rfl) d_M_request_727 ⟨Nat.le_refl _, Nat.le_refl _⟩) X Y hA S (by decide) (by decide) (fun u H locs Y S s386 p386 => ?_)
                                                              obtain ⟨I386, J386, B386, G386⟩ := u
                                                              dsimp only at Y S s386 p386
                                                              have x386 := p386
                                                              obtain ⟨x386_0, x386_1⟩ := x386
                                                              refine lv_aload_n X.1 X.2.1 d_M_request_730 rfl (lv_at hl 0 rfl) ?_
                                                              refine r_nv (m_run (As := []) (rest := []) (n := 0) X Y hZ hA hml hl.1 (r_M_start l D E h q H.size I386 J386 B386 G386 S.1) kl_M_start ks_M_start kx_M_start ki_M_start ini_M hd_M_start ⟨Nat.le_of_ble_eq_true rfl, Nat.le_of_ble_eq_true rfl⟩ rfl (Nat.le_of_ble_eq_true rfl) d_M_request_731 ⟨Nat.le_refl _, Nat.le_refl _⟩) X Y hA S (by decide) (by decide) (fun u H locs Y S s387 p387 => ?_)
                                                              obtain ⟨I387, J387, B387, G387⟩ := u
                                                              dsimp only at Y S s387 p387
                                                              have b387 : B386 = B387 := (funext (fun j => s387.2.2 j (by simp))).symm
                                                              subst b387
                                                              have x387 := p387
                                                              refine lv_aload_n X.1 X.2.1 d_M_request_734 rfl (lv_at hl 0 rfl) ?_
                                                              refine lv_iload X.1 X.2.1 d_M_request_735 (lv_at hl 4 rfl) ?_
                                                              refine lv_lconst (v := 0) X.1 X.2.1 d_M_request_737 rfl ?_
                                                              refine r_nv (m_run (As := [.int (iI z275), .long 0]) (rest := []) (n := 2) X Y hZ hA hml hl.1 (r_M_putSealed l D E h q H.size I387 J387 B386 G387 z275 (by omega) (by omega) 0 S.1 60000 (x387.trans (congrArg iI (show (60000 : Int) = 60000 by omega))) (by omega) (by omega) (60000 - z372 + 28) ((s387.2.1 36 (by decide)).trans (x386_0.trans (congrArg iI (show (60000 - z372 + 28 : Int) = 60000 - z372 + 28 by omega)))) (by omega) (by omega) (by omega)) kl_M_putSealed ks_M_putSealed kx_M_putSealed ki_M_putSealed ini_M hd_M_putSealed ⟨Nat.le_of_ble_eq_true rfl, Nat.le_of_ble_eq_true rfl⟩ rfl (Nat.le_of_ble_eq_true rfl) d_M_request_738 ⟨Nat.le_refl _, Nat.le_refl _⟩) X Y hA S (by decide) (by decide) (fun u H locs Y S s388 p388 => ?_)
                                                              obtain ⟨I388, J388, B388, G388⟩ := u
                                                              dsimp only at Y S s388 p388
                                                              have f389 : stT (B388 97) (B388 98) (B388 100) (B388 107) (B388 108) (B388 109) := (stT_cg (s388.2.2 97 (by decide)) (s388.2.2 98 (by decide)) (s388.2.2 100 (by decide)) (s388.2.2 107 (by decide)) (s388.2.2 108 (by decide)) (s388.2.2 109 (by decide)) (stT_cg rfl rfl rfl rfl rfl rfl (stT_cg (s386.2.2 97 (by decide)) (s386.2.2 98 (by decide)) (s386.2.2 100 (by decide)) (s386.2.2 107 (by decide)) (s386.2.2 108 (by decide)) (s386.2.2 109 (by decide)) f376)))
                                                              have f390 : stA (B388 110) (B388 118) (B388 119) (B388 120) := (stA_cg (s388.2.2 110 (by decide)) (s388.2.2 118 (by decide)) (s388.2.2 119 (by decide)) (s388.2.2 120 (by decide)) (stA_cg rfl rfl rfl rfl (stA_cg (s386.2.2 110 (by decide)) (s386.2.2 118 (by decide)) (s386.2.2 119 (by decide)) (s386.2.2 120 (by decide)) f375)))
                                                              obtain ⟨x388, g388_MF⟩ := p388
                                                              obtain ⟨z391, e391, l391, u391⟩ := x388
                                                              refine lv_aload_n X.1 X.2.1 d_M_request_741 rfl (lv_at hl 0 rfl) ?_
                                                              refine r_ni (m_run (As := []) (rest := []) (n := 0) X Y hZ hA hml hl.1 (r_M_toRoom l D E h q H.size I388 J388 B388 G388 S.1 z391 e391 (by omega) (by omega)) kl_M_toRoom ks_M_toRoom kx_M_toRoom ki_M_toRoom ini_M hd_M_toRoom ⟨Nat.le_of_ble_eq_true rfl, Nat.le_of_ble_eq_true rfl⟩ rfl (Nat.le_of_ble_eq_true rfl) d_M_request_742 ⟨Nat.le_refl _, Nat.le_refl _⟩) X Y hA S (by decide) (by decide) (fun z392 u H locs Y S s392 p392 => ?_)
                                                              obtain ⟨I392, J392, B392, G392⟩ := u
                                                              dsimp only at Y S s392 p392
                                                              have i392 : I388 = I392 := (funext (fun j => s392.2.1 j (by simp))).symm
                                                              subst i392
                                                              obtain ⟨l392, u392, x392⟩ := p392
                                                              refine lv_istore (lv' := [(15, .int (iI z392)), (0, .ref h), (1, .int (iI a1)), (2, .int (iI a2)), (13, .int (iI (60000 - z261))), (14, .int (iI z275)), (16, .int (iI z374))]) X.1 X.2.1 d_M_request_745 hl (by decide) rfl (fun ls hl => ?_)
                                                              refine lv_aload_n X.1 X.2.1 d_M_request_747 rfl (lv_at hl 1 rfl) ?_
                                                              refine m_get X Y 95 (by decide) lk_micros (gf_micros _ _ _) rfl d_M_request_748 ?_
                                                              refine lv_iload_n X.1 X.2.1 d_M_request_751 rfl (lv_at hl 2 rfl) ?_
                                                              refine lv_dup2_11 X.1 X.2.1 d_M_request_752 rfl rfl ?_
                                                              refine r_iald X Y S (aw_micros _ _ _ _ _ _ _) rfl (by omega) (show a1 < ((4 : Nat) : Int) by omega) (by omega) d_M_request_753 (fun z393 q393 l393 u393 => ?_)
                                                              refine lv_iconst (v := iI 1) X.1 X.2.1 d_M_request_754 (by decide) ?_
                                                              refine lv_iadd X.1 X.2.1 d_M_request_755 ?_
                                                              refine t_u (fun z394 l394 u394 => ?_)
                                                              refine r_iast X Y S (aw_micros _ _ _ _ _ _ _) (sw_micros _ _ _ _ _ _ _) rfl ⟨(show ((-2147483648) : Int) ≤ z394 by omega), (show z394 ≤ (2147483647 : Int) by omega)⟩ ⟨by omega, by omega⟩ (by omega) (show a1 < ((4 : Nat) : Int) by omega) (by omega) (by decide) d_M_request_756 (fun B395 H locs Y S w395 => ?_)
                                                              have f396 : stT (B395 97) (B395 98) (B395 100) (B395 107) (B395 108) (B395 109) := (stT_cg (w395.2 97 (by decide)) (w395.2 98 (by decide)) (w395.2 100 (by decide)) (w395.2 107 (by decide)) (w395.2 108 (by decide)) (w395.2 109 (by decide)) (stT_cg (s392.2.2 97 (by decide)) (s392.2.2 98 (by decide)) (s392.2.2 100 (by decide)) (s392.2.2 107 (by decide)) (s392.2.2 108 (by decide)) (s392.2.2 109 (by decide)) f389))
                                                              refine lv_goto (tgt := 934) X.1 X.2.1 d_M_request_757 (by decide) ?_
                                                              exact J286 z392 (cn + 20) I388 J392 B395 G392 _ _ _ (by omega) (by omega) (stA_cg (w395.2 110 (by decide)) (w395.2 118 (by decide)) (w395.2 119 (by decide)) (w395.2 120 (by decide)) (stA_cg (s392.2.2 110 (by decide)) (s392.2.2 118 (by decide)) (s392.2.2 119 (by decide)) (s392.2.2 120 (by decide)) f390)) f396 ((s388.2.1 54 (by decide)).trans ((s387.2.1 54 (by decide)).trans ((s386.2.1 54 (by decide)).trans e377))) ((s388.2.1 2 (by decide)).trans ((s387.2.1 2 (by decide)).trans ((s386.2.1 2 (by decide)).trans e380))) ((s388.2.1 33 (by decide)).trans ((s387.2.1 33 (by decide)).trans (x386_1.trans (congrArg iI (show ((cn + 4) + 16 : Int) = cn + 20 by omega))))) (by omega) (by omega) (by omega) (by omega) (by omega) Y S (lv_sub hl [1, 3, 4, 0] rfl)
                                                            · refine lv_aload_n X.1 X.2.1 d_M_request_679 rfl (lv_at hl 0 rfl) ?_
                                                              refine m_get X Y 56 (by decide) lk_made (gf_made _ _ _) rfl d_M_request_680 ?_
                                                              refine lv_iload X.1 X.2.1 d_M_request_683 (lv_at hl 5 rfl) ?_
                                                              refine lv_aload_n X.1 X.2.1 d_M_request_685 rfl (lv_at hl 0 rfl) ?_
                                                              refine m_get X Y 96 (by decide) lk_agentKeys (gf_agentKeys _ _ _) rfl d_M_request_686 ?_
                                                              refine lv_bipush (v := iI 64) X.1 X.2.1 d_M_request_689 (by decide) ?_
                                                              refine lv_iload_n X.1 X.2.1 d_M_request_691 rfl (lv_at hl 1 rfl) ?_
                                                              refine z_imul X.1 X.2.1 d_M_request_692 ?_
                                                              refine lv_bipush (v := iI 32) X.1 X.2.1 d_M_request_693 (by decide) ?_
                                                              refine lv_iload X.1 X.2.1 d_M_request_695 (lv_at hl 4 rfl) ?_
                                                              refine lv_bipush (v := iI 17) X.1 X.2.1 d_M_request_697 (by decide) ?_
                                                              refine lv_isub X.1 X.2.1 d_M_request_699 ?_
                                                              refine t_u (fun z397 l397 u397 => ?_)
                                                              refine lv_imul X.1 X.2.1 d_M_request_700 ?_
                                                              refine t_u (fun z398 l398 u398 => ?_)
                                                              refine lv_iadd X.1 X.2.1 d_M_request_701 ?_
                                                              refine t_u (fun z399 l399 u399 => ?_)
                                                              refine lv_iload X.1 X.2.1 d_M_request_702 (lv_at hl 5 rfl) ?_
                                                              refine lv_iadd X.1 X.2.1 d_M_request_704 ?_
                                                              refine t_u (fun z400 l400 u400 => ?_)
                                                              refine r_bald X Y S (aw_agentKeys _ _ _ _ _ _ _) rfl (by omega) (show z400 < ((256 : Nat) : Int) by omega) (by omega) d_M_request_705 (fun z401 q401 l401 u401 => ?_)
                                                              refine r_bast X Y S (aw_made _ _ _ _ _ _ _) (sw_made _ _ _ _ _ _ _) rfl (by omega) (show z374 < ((32 : Nat) : Int) by omega) (by omega) (by decide) d_M_request_706 (fun B402 H locs Y S w402 => ?_)
                                                              refine lv_iinc (v := iI (z374 + 1)) (lv' := [(16, .int (iI (z374 + 1))), (0, .ref h), (1, .int (iI a1)), (2, .int (iI a2)), (13, .int (iI (60000 - z261))), (14, .int (iI z275))]) X.1 X.2.1 d_M_request_707 hl (k := 5) rfl ((iI_add _ _).trans (congrArg iI (by omega))) (by decide) rfl (fun ls hl => ?_)
                                                              refine lv_goto (tgt := 672) X.1 X.2.1 d_M_request_710 (by decide) ?_
                                                              exact ih382 ((32 - (z374 + 1)).toNat) (by omega) (z374 + 1) I373 J373 B402 G373 _ _ _ rfl (by omega) (by omega) (stA_cg (w402.2 110 (by decide)) (w402.2 118 (by decide)) (w402.2 119 (by decide)) (w402.2 120 (by decide)) f375) (stT_cg (w402.2 97 (by decide)) (w402.2 98 (by decide)) (w402.2 100 (by decide)) (w402.2 107 (by decide)) (w402.2 108 (by decide)) (w402.2 109 (by decide)) f376) e377 e378 e379 e380 Y S (lv_sub hl [1, 2, 3, 4, 5, 0] rfl)
                                                        refine lv_istore (lv' := [(16, .int (iI 0)), (15, .int (iI 0)), (14, .int (iI z275)), (0, .ref h), (1, .int (iI a1)), (2, .int (iI a2)), (5, .int (iI a5)), (9, .int (iI z154)), (10, .long v155), (13, .int (iI (60000 - z261)))]) X.1 X.2.1 d_M_request_670 hl (by decide) rfl (fun ls hl => ?_)
                                                        exact J381 _ 0 I371 J371 B371 G371 _ _ _ rfl (by omega) (by omega) (stA_cg (s371.2.2 110 (by decide)) (s371.2.2 118 (by decide)) (s371.2.2 119 (by decide)) (s371.2.2 120 (by decide)) f369) (stT_cg (s371.2.2 97 (by decide)) (s371.2.2 98 (by decide)) (s371.2.2 100 (by decide)) (s371.2.2 107 (by decide)) (s371.2.2 108 (by decide)) (s371.2.2 109 (by decide)) f368) ((s371.2.1 54 (by decide)).trans ((s367.2.1 54 (by decide)).trans ((s365.2.1 54 (by decide)).trans ((s361.2.1 54 (by decide)).trans e266)))) e372 ((s371.2.1 33 (by decide)).trans ((s367.2.1 33 (by decide)).trans ((s365.2.1 33 (by decide)).trans ((s361.2.1 33 (by decide)).trans e268)))) ((s371.2.1 2 (by decide)).trans ((s367.2.1 2 (by decide)).trans ((s365.2.1 2 (by decide)).trans ((s361.2.1 2 (by decide)).trans e269)))) Y S (lv_sub hl [3, 4, 5, 9, 2, 0] rfl)
                                                    · refine lv_aload_n X.1 X.2.1 d_M_request_590 rfl (lv_at hl 0 rfl) ?_
                                                      refine m_get X Y 0 (by decide) lk_mem (gf_mem _ _ _) rfl d_M_request_591 ?_
                                                      refine lv_sipush (v := iI 22200) X.1 X.2.1 d_M_request_594 (by decide) ?_
                                                      refine lv_iload X.1 X.2.1 d_M_request_597 (lv_at hl 7 rfl) ?_
                                                      refine z_iadd X.1 X.2.1 d_M_request_599 ?_
                                                      refine lv_aload_n X.1 X.2.1 d_M_request_600 rfl (lv_at hl 0 rfl) ?_
                                                      refine m_get X Y 0 (by decide) lk_mem (gf_mem _ _ _) rfl d_M_request_601 ?_
                                                      refine lv_aload_n X.1 X.2.1 d_M_request_604 rfl (lv_at hl 0 rfl) ?_
                                                      refine r_get0 X Y (by decide) lk_w0 (gf_w0 _ _ _) rfl e267 d_M_request_605 ?_
                                                      refine lv_iload X.1 X.2.1 d_M_request_608 (lv_at hl 7 rfl) ?_
                                                      refine z_iadd X.1 X.2.1 d_M_request_610 ?_
                                                      refine r_bald X Y S (aw_mem _ _ _ _ _ _ _) rfl (by omega) (show z261 + z263 < ((60000 : Nat) : Int) by omega) (by omega) d_M_request_611 (fun z403 q403 l403 u403 => ?_)
                                                      refine r_bast X Y S (aw_mem _ _ _ _ _ _ _) (sw_mem _ _ _ _ _ _ _) rfl (by omega) (show 22200 + z263 < ((60000 : Nat) : Int) by omega) (by omega) (by decide) d_M_request_612 (fun B404 H locs Y S w404 => ?_)
                                                      refine lv_iinc (v := iI (z263 + 1)) (lv' := [(14, .int (iI (z263 + 1))), (0, .ref h), (1, .int (iI a1)), (2, .int (iI a2)), (5, .int (iI a5)), (9, .int (iI z154)), (10, .long v155), (13, .int (iI (60000 - z261)))]) X.1 X.2.1 d_M_request_613 hl (k := 7) rfl ((iI_add _ _).trans (congrArg iI (by omega))) (by decide) rfl (fun ls hl => ?_)
                                                      refine lv_goto (tgt := 583) X.1 X.2.1 d_M_request_616 (by decide) ?_
                                                      exact ih271 ((60017 - (z263 + 1)).toNat) (by omega) (z263 + 1) I262 J262 B404 G262 _ _ _ rfl (by omega) (by omega) (stA_cg (w404.2 110 (by decide)) (w404.2 118 (by decide)) (w404.2 119 (by decide)) (w404.2 120 (by decide)) f264) (stT_cg (w404.2 97 (by decide)) (w404.2 98 (by decide)) (w404.2 100 (by decide)) (w404.2 107 (by decide)) (w404.2 108 (by decide)) (w404.2 109 (by decide)) f265) e266 e267 e268 e269 Y S (lv_sub hl [1, 2, 3, 4, 5, 6, 7, 0] rfl)
                                                refine lv_istore (lv' := [(14, .int (iI 0)), (13, .int (iI (60000 - z261))), (0, .ref h), (1, .int (iI a1)), (2, .int (iI a2)), (4, .int (iI a4)), (5, .int (iI a5)), (9, .int (iI z154)), (10, .long v155)]) X.1 X.2.1 d_M_request_581 hl (by decide) rfl (fun ls hl => ?_)
                                                exact J270 _ 0 I259 J259 B259 G259 _ _ _ rfl (by omega) (by omega) (stA_cg (s259.2.2 110 (by decide)) (s259.2.2 118 (by decide)) (s259.2.2 119 (by decide)) (s259.2.2 120 (by decide)) (stA_cg (s257.2.2 110 (by decide)) (s257.2.2 118 (by decide)) (s257.2.2 119 (by decide)) (s257.2.2 120 (by decide)) f245)) f260 ((s259.2.1 54 (by decide)).trans ((s257.2.1 54 (by decide)).trans e247)) e261 ((s259.2.1 33 (by decide)).trans ((s257.2.1 33 (by decide)).trans e248)) ((s259.2.1 2 (by decide)).trans ((s257.2.1 2 (by decide)).trans e249)) Y S (lv_sub hl [2, 3, 4, 6, 7, 8, 1, 0] rfl)
                                              refine z_icmp_ge (tgt := 556) X.1 X.2.1 d_M_request_533 (by decide) ⟨by omega, by omega⟩ ⟨by decide, by decide⟩ (fun h405 => False.elim (by omega)) (fun h405 => ?_)
                                              · refine lv_aload_n X.1 X.2.1 d_M_request_536 rfl (lv_at hl 0 rfl) ?_
                                                refine lv_iconst (v := iI 1) X.1 X.2.1 d_M_request_537 (by decide) ?_
                                                refine lv_aload_n X.1 X.2.1 d_M_request_538 rfl (lv_at hl 0 rfl) ?_
                                                refine m_get X Y 92 (by decide) lk_agentNames (gf_agentNames _ _ _) rfl d_M_request_539 ?_
                                                refine lv_bipush (v := iI 40) X.1 X.2.1 d_M_request_542 (by decide) ?_
                                                refine lv_iload_n X.1 X.2.1 d_M_request_544 rfl (lv_at hl 1 rfl) ?_
                                                refine z_imul X.1 X.2.1 d_M_request_545 ?_
                                                refine lv_aload_n X.1 X.2.1 d_M_request_546 rfl (lv_at hl 0 rfl) ?_
                                                refine m_get X Y 93 (by decide) lk_agentSizes (gf_agentSizes _ _ _) rfl d_M_request_547 ?_
                                                refine lv_iload_n X.1 X.2.1 d_M_request_550 rfl (lv_at hl 1 rfl) ?_
                                                refine r_iald X Y S (aw_agentSizes _ _ _ _ _ _ _) rfl (by omega) (show a1 < ((4 : Nat) : Int) by omega) (by omega) d_M_request_551 (fun z406 q406 l406 u406 => ?_)
                                                refine lv_iconst (v := iI 1) X.1 X.2.1 d_M_request_552 (by decide) ?_
                                                refine r_nv (m_run (As := [.int (iI 1), .ref ((q 92)), .int (iI (40 * a1)), .int (iI z406), .int (iI 1)]) (rest := []) (n := 5) X Y hZ hA hml hl.1 (r_M_partsField_agentNames l D E h q H.size I241 J241 B241 G241 1 (by decide) (by decide) (40 * a1) (by omega) (by omega) z406 (by omega) (by omega) 1 (by decide) (by decide) S.1 z243 e243 (by omega) (by omega)) kl_M_partsField ks_M_partsField kx_M_partsField ki_M_partsField ini_M hd_M_partsField ⟨Nat.le_of_ble_eq_true rfl, Nat.le_of_ble_eq_true rfl⟩ rfl (Nat.le_of_ble_eq_true rfl) d_M_request_553 ⟨Nat.le_refl _, Nat.le_refl _⟩) X Y hA S (by decide) (by decide) (fun u H locs Y S s407 p407 => ?_)
                                                obtain ⟨I407, J407, B407, G407⟩ := u
                                                dsimp only at Y S s407 p407
                                                have f408 : stT (B407 97) (B407 98) (B407 100) (B407 107) (B407 108) (B407 109) := (stT_cg (s407.2.2 97 (by decide)) (s407.2.2 98 (by decide)) (s407.2.2 100 (by decide)) (s407.2.2 107 (by decide)) (s407.2.2 108 (by decide)) (s407.2.2 109 (by decide)) (stT_cg (s241.2.2 97 (by decide)) (s241.2.2 98 (by decide)) (s241.2.2 100 (by decide)) (s241.2.2 107 (by decide)) (s241.2.2 108 (by decide)) (s241.2.2 109 (by decide)) f239))
                                                obtain ⟨x407, g407_MF⟩ := p407
                                                obtain ⟨z409, e409, l409, u409⟩ := x407
                                                exact J253 z409 I407 J407 B407 G407 _ _ _ (stA_cg (s407.2.2 110 (by decide)) (s407.2.2 118 (by decide)) (s407.2.2 119 (by decide)) (s407.2.2 120 (by decide)) f242) f408 ((s407.2.1 54 (by decide)).trans ((s241.2.1 54 (by decide)).trans ((s238.2.1 54 (by decide)).trans ((s236.2.1 54 (by decide)).trans e221)))) ((s407.2.1 33 (by decide)).trans ((s241.2.1 33 (by decide)).trans ((s238.2.1 33 (by decide)).trans ((s236.2.1 33 (by decide)).trans e222)))) ((s407.2.1 2 (by decide)).trans ((s241.2.1 2 (by decide)).trans ((s238.2.1 2 (by decide)).trans ((s236.2.1 2 (by decide)).trans e223)))) e409 (by omega) (by omega) (by omega) (by omega) Y S (lv_sub hl [0, 1, 2, 3, 4, 5, 6] rfl)
                                            refine z_if_ne (tgt := 490) X.1 X.2.1 d_M_request_483 (by decide) ⟨by omega, by omega⟩ (fun h410 => ?_) (fun h410 => ?_)
                                            · refine lv_lload X.1 X.2.1 d_M_request_490 (lv_at hl 7 rfl) ?_
                                              refine lv_iload X.1 X.2.1 d_M_request_492 (lv_at hl 5 rfl) ?_
                                              refine lv_i2l X.1 X.2.1 d_M_request_494 rfl ?_
                                              refine t_anyl (fun v411 => ?_)
                                              refine lv_ladd X.1 X.2.1 d_M_request_495 ?_
                                              refine t_anyl (fun v412 => ?_)
                                              refine lv_ldc2 (v := (2145916799)) X.1 X.2.1 X.2.2.2.1 (X.2.2.1 _ cl_M_937) d_M_request_496 ?_
                                              refine p_calll (As := [.long v412, .long ((2145916799))]) (rest := [.int (iI 5), .ref h]) (n := 2) X Y hml hl.1 (r_M_lesser l v412 ((2145916799))) kl_M_lesser ks_M_lesser ki_M_lesser ini_M hd_M_lesser ⟨Nat.le_of_ble_eq_true rfl, Nat.le_of_ble_eq_true rfl⟩ rfl (Nat.le_of_ble_eq_true rfl) d_M_request_499 ⟨Nat.le_refl _, Nat.le_refl _⟩ (fun v413 H locs p413 Y => ?_)
                                              exact J232 v413 _ _ _  Y S (lv_sub hl [0, 1, 2, 3, 4, 6, 7] rfl)
                                            · refine lv_lconst (v := 0) X.1 X.2.1 d_M_request_486 rfl ?_
                                              refine lv_goto (tgt := 502) X.1 X.2.1 d_M_request_487 (by decide) ?_
                                              exact J232 0 _ _ _  Y S (lv_sub hl [0, 1, 2, 3, 4, 6, 7] rfl)
                                          refine z_if_le (tgt := 479) X.1 X.2.1 d_M_request_458 (by decide) ⟨by omega, by omega⟩ (fun h414 => ?_) (fun h414 => ?_)
                                          · exact J227 z217 I215 J215 B215 G215 _ _ _ (stA_cg (s215.2.2 110 (by decide)) (s215.2.2 118 (by decide)) (s215.2.2 119 (by decide)) (s215.2.2 120 (by decide)) f212) f216 ((s215.2.1 54 (by decide)).trans ((s211.2.1 54 (by decide)).trans ((s208.2.1 54 (by decide)).trans ((s206.2.1 54 (by decide)).trans e194)))) ((s215.2.1 33 (by decide)).trans ((s211.2.1 33 (by decide)).trans ((s208.2.1 33 (by decide)).trans ((s206.2.1 33 (by decide)).trans e195)))) ((s215.2.1 2 (by decide)).trans ((s211.2.1 2 (by decide)).trans ((s208.2.1 2 (by decide)).trans ((s206.2.1 2 (by decide)).trans e196)))) e217 (by omega) (by omega) (by omega) (by omega) Y S (lv_sub hl [0, 1, 2, 3, 4, 5, 7, 8] rfl)
                                          · refine lv_aload_n X.1 X.2.1 d_M_request_461 rfl (lv_at hl 0 rfl) ?_
                                            refine lv_bipush (v := iI 6) X.1 X.2.1 d_M_request_462 (by decide) ?_
                                            refine lv_lload X.1 X.2.1 d_M_request_464 (lv_at hl 8 rfl) ?_
                                            refine lv_iload X.1 X.2.1 d_M_request_466 (lv_at hl 6 rfl) ?_
                                            refine lv_i2l X.1 X.2.1 d_M_request_468 rfl ?_
                                            refine t_anyl (fun v415 => ?_)
                                            refine lv_ladd X.1 X.2.1 d_M_request_469 ?_
                                            refine t_anyl (fun v416 => ?_)
                                            refine lv_ldc2 (v := (2145916799)) X.1 X.2.1 X.2.2.2.1 (X.2.2.1 _ cl_M_937) d_M_request_470 ?_
                                            refine p_calll (As := [.long v416, .long ((2145916799))]) (rest := [.int (iI 6), .ref h]) (n := 2) X Y hml hl.1 (r_M_lesser l v416 ((2145916799))) kl_M_lesser ks_M_lesser ki_M_lesser ini_M hd_M_lesser ⟨Nat.le_of_ble_eq_true rfl, Nat.le_of_ble_eq_true rfl⟩ rfl (Nat.le_of_ble_eq_true rfl) d_M_request_473 ⟨Nat.le_refl _, Nat.le_refl _⟩ (fun v417 H locs p417 Y => ?_)
                                            refine r_nv (m_run (As := [.int (iI 6), .long v417]) (rest := []) (n := 2) X Y hZ hA hml hl.1 (r_M_timeField l D E h q H.size I215 J215 B215 G215 6 (by decide) (by decide) v417 S.1 z217 e217 (by omega) (by omega)) kl_M_timeField ks_M_timeField kx_M_timeField ki_M_timeField ini_M hd_M_timeField ⟨Nat.le_of_ble_eq_true rfl, Nat.le_of_ble_eq_true rfl⟩ rfl (Nat.le_of_ble_eq_true rfl) d_M_request_476 ⟨Nat.le_refl _, Nat.le_refl _⟩) X Y hA S (by decide) (by decide) (fun u H locs Y S s418 p418 => ?_)
                                            obtain ⟨I418, J418, B418, G418⟩ := u
                                            dsimp only at Y S s418 p418
                                            obtain ⟨x418, g418_MF⟩ := p418
                                            obtain ⟨z419, e419, l419, u419⟩ := x418
                                            exact J227 z419 I418 J418 B418 G418 _ _ _ (stA_cg (s418.2.2 110 (by decide)) (s418.2.2 118 (by decide)) (s418.2.2 119 (by decide)) (s418.2.2 120 (by decide)) (stA_cg (s215.2.2 110 (by decide)) (s215.2.2 118 (by decide)) (s215.2.2 119 (by decide)) (s215.2.2 120 (by decide)) f212)) (stT_cg (s418.2.2 97 (by decide)) (s418.2.2 98 (by decide)) (s418.2.2 100 (by decide)) (s418.2.2 107 (by decide)) (s418.2.2 108 (by decide)) (s418.2.2 109 (by decide)) f216) ((s418.2.1 54 (by decide)).trans ((s215.2.1 54 (by decide)).trans ((s211.2.1 54 (by decide)).trans ((s208.2.1 54 (by decide)).trans ((s206.2.1 54 (by decide)).trans e194))))) ((s418.2.1 33 (by decide)).trans ((s215.2.1 33 (by decide)).trans ((s211.2.1 33 (by decide)).trans ((s208.2.1 33 (by decide)).trans ((s206.2.1 33 (by decide)).trans e195))))) ((s418.2.1 2 (by decide)).trans ((s215.2.1 2 (by decide)).trans ((s211.2.1 2 (by decide)).trans ((s208.2.1 2 (by decide)).trans ((s206.2.1 2 (by decide)).trans e196))))) e419 (by omega) (by omega) (by omega) (by omega) Y S (lv_sub hl [0, 1, 2, 3, 4, 5, 7, 8] rfl)
                                        refine z_icmp_le (tgt := 418) X.1 X.2.1 d_M_request_396 (by decide) ⟨by omega, by omega⟩ ⟨by decide, by decide⟩ (fun h420 => ?_) (fun h420 => ?_)
                                        · exact J200 60000 I189 J189 B186 G189 _ _ _ f190 (stT_cg rfl rfl rfl rfl rfl rfl f187) ((s189.2.1 54 (by decide)).trans ((s182.2.1 54 (by decide)).trans e174)) ((s189.2.1 33 (by decide)).trans (x182.trans (congrArg iI (show (cn + 4 : Int) = cn + 4 by omega)))) ((s189.2.1 2 (by decide)).trans ((s182.2.1 2 (by decide)).trans e176)) (x189.trans (congrArg iI (show (60000 : Int) = 60000 by omega))) (by omega) (by omega) (by omega) (by omega) Y S (lv_sub hl [1, 2, 3, 4, 5, 6, 7, 8, 9, 0] rfl)
                                        · refine lv_aload_n X.1 X.2.1 d_M_request_399 rfl (lv_at hl 1 rfl) ?_
                                          refine lv_iload X.1 X.2.1 d_M_request_400 (lv_at hl 5 rfl) ?_
                                          refine lv_iconst (v := iI 3) X.1 X.2.1 d_M_request_402 (by decide) ?_
                                          have J422 : ∀ (v421 : Int64) (H : Heap) (locs : List Loc) (ls : Array Slot), mH D E (mA E h q sz) s.heap h q I189 J189 B186 G189 H locs → rS [2, 3, 8, 14, 18, 33, 36, 42, 54, 55] [0, 1, 5, 6, 7, 9, 10, 11, 12, 13, 15, 16, 17, 19, 20, 21, 22, 23, 34, 35, 53, 56, 58, 60, 95, 110, 111, 112, 113, 115, 116, 117, 118, 119, 120, 132] I B I189 B186 → lv_has ls 18 [(0, .ref h), (1, .int (iI a1)), (2, .int (iI a2)), (4, .int (iI a4)), (5, .int (iI a5)), (6, .int (iI a6)), (7, .int (iI a7)), (9, .int (iI z154)), (10, .long v155), (12, .int (iI 60000))] → W p l e (mR 8 236) s m AV below meth c H locs 0 0 QQ (F0 m 415 ls [.long v421, .ref h]) := by
                                            intro v421 H locs ls  Y S hl
                                            refine r_nv (m_run (As := [.long v421]) (rest := []) (n := 1) X Y hZ hA hml hl.1 (r_M_putNumber l D E h q H.size I189 J189 B186 G189 v421 S.1 60000 (x189.trans (congrArg iI (show (60000 : Int) = 60000 by omega))) (by omega) (by omega)) kl_M_putNumber ks_M_putNumber kx_M_putNumber ki_M_putNumber ini_M hd_M_putNumber ⟨Nat.le_of_ble_eq_true rfl, Nat.le_of_ble_eq_true rfl⟩ rfl (Nat.le_of_ble_eq_true rfl) d_M_request_415 ⟨Nat.le_refl _, Nat.le_refl _⟩) X Y hA S (by decide) (by decide) (fun u H locs Y S s426 p426 => ?_)
                                            obtain ⟨I426, J426, B426, G426⟩ := u
                                            dsimp only at Y S s426 p426
                                            obtain ⟨x426, g426_MF⟩ := p426
                                            obtain ⟨z427, e427, l427, u427⟩ := x426
                                            exact J200 z427 I426 J426 B426 G426 _ _ _ (stA_cg (s426.2.2 110 (by decide)) (s426.2.2 118 (by decide)) (s426.2.2 119 (by decide)) (s426.2.2 120 (by decide)) f190) (stT_cg (s426.2.2 97 (by decide)) (s426.2.2 98 (by decide)) (s426.2.2 100 (by decide)) (s426.2.2 107 (by decide)) (s426.2.2 108 (by decide)) (s426.2.2 109 (by decide)) (stT_cg rfl rfl rfl rfl rfl rfl f187)) ((s426.2.1 54 (by decide)).trans ((s189.2.1 54 (by decide)).trans ((s182.2.1 54 (by decide)).trans e174))) ((s426.2.1 33 (by decide)).trans ((s189.2.1 33 (by decide)).trans (x182.trans (congrArg iI (show (cn + 4 : Int) = cn + 4 by omega))))) ((s426.2.1 2 (by decide)).trans ((s189.2.1 2 (by decide)).trans ((s182.2.1 2 (by decide)).trans e176))) e427 (by omega) (by omega) (by omega) (by omega) Y S (lv_sub hl [0, 1, 2, 3, 4, 5, 6, 7, 8, 9] rfl)
                                          refine z_icmp_ne (tgt := 412) X.1 X.2.1 d_M_request_403 (by decide) ⟨by omega, by omega⟩ ⟨by decide, by decide⟩ (fun h428 => ?_) (fun h428 => ?_)
                                          · refine lv_ldc2 (v := (17)) X.1 X.2.1 X.2.2.2.1 (X.2.2.1 _ cl_M_697) d_M_request_412 ?_
                                            exact J422 ((17)) _ _ _  Y S (lv_sub hl [1, 2, 3, 4, 5, 6, 7, 8, 9, 0] rfl)
                                          · refine lv_ldc2 (v := (18)) X.1 X.2.1 X.2.2.2.1 (X.2.2.1 _ cl_M_699) d_M_request_406 ?_
                                            refine lv_goto (tgt := 415) X.1 X.2.1 d_M_request_409 (by decide) ?_
                                            exact J422 ((18)) _ _ _  Y S (lv_sub hl [1, 2, 3, 4, 5, 6, 7, 8, 9, 0] rfl)
                                    · refine lv_aload_n X.1 X.2.1 d_M_request_198 rfl (lv_at hl 0 rfl) ?_
                                      refine m_get X Y 117 (by decide) lk_askedNames (gf_askedNames _ _ _) rfl d_M_request_199 ?_
                                      refine lv_bipush (v := iI 40) X.1 X.2.1 d_M_request_202 (by decide) ?_
                                      refine lv_iload_n X.1 X.2.1 d_M_request_204 rfl (lv_at hl 1 rfl) ?_
                                      refine z_imul X.1 X.2.1 d_M_request_205 ?_
                                      refine lv_iload X.1 X.2.1 d_M_request_206 (lv_at hl 9 rfl) ?_
                                      refine z_iadd X.1 X.2.1 d_M_request_208 ?_
                                      refine lv_aload_n X.1 X.2.1 d_M_request_209 rfl (lv_at hl 0 rfl) ?_
                                      refine m_get X Y 53 (by decide) lk_name (gf_name _ _ _) rfl d_M_request_210 ?_
                                      refine lv_iload X.1 X.2.1 d_M_request_213 (lv_at hl 9 rfl) ?_
                                      refine r_bald X Y S (aw_name _ _ _ _ _ _ _) rfl (by omega) (show z171 < ((40 : Nat) : Int) by omega) (by omega) d_M_request_215 (fun z429 q429 l429 u429 => ?_)
                                      refine r_bast X Y S (aw_askedNames _ _ _ _ _ _ _) (sw_askedNames _ _ _ _ _ _ _) rfl (by omega) (show (40 * a1) + z171 < ((160 : Nat) : Int) by omega) (by omega) (by decide) d_M_request_216 (fun B430 H locs Y S w430 => ?_)
                                      refine lv_iinc (v := iI (z171 + 1)) (lv' := [(12, .int (iI (z171 + 1))), (0, .ref h), (1, .int (iI a1)), (2, .int (iI a2)), (4, .int (iI a4)), (5, .int (iI a5)), (6, .int (iI a6)), (7, .int (iI a7)), (9, .int (iI z154)), (10, .long v155)]) X.1 X.2.1 d_M_request_217 hl (k := 9) rfl ((iI_add _ _).trans (congrArg iI (by omega))) (by decide) rfl (fun ls hl => ?_)
                                      refine lv_goto (tgt := 189) X.1 X.2.1 d_M_request_220 (by decide) ?_
                                      exact ih178 ((40 - (z171 + 1)).toNat) (by omega) (z171 + 1) I170 J170 B430 G170 _ _ _ rfl (by omega) (by omega) (stA_cg (w430.2 110 (by decide)) (w430.2 118 (by decide)) (w430.2 119 (by decide)) (w430.2 120 (by decide)) f172) (stT_cg (w430.2 97 (by decide)) (w430.2 98 (by decide)) (w430.2 100 (by decide)) (w430.2 107 (by decide)) (w430.2 108 (by decide)) (w430.2 109 (by decide)) f173) e174 e175 e176 Y S (lv_sub hl [1, 2, 3, 4, 5, 6, 7, 8, 9, 0] rfl)
                                refine lv_istore (lv' := [(12, .int (iI 0)), (0, .ref h), (1, .int (iI a1)), (2, .int (iI a2)), (4, .int (iI a4)), (5, .int (iI a5)), (6, .int (iI a6)), (7, .int (iI a7)), (9, .int (iI z154)), (10, .long v155)]) X.1 X.2.1 d_M_request_187 hl (by decide) rfl (fun ls hl => ?_)
                                exact J177 _ 0 I152 J155 B167 G155 _ _ _ rfl (by omega) (by omega) f169 f168 ((w152.2 54 (by decide)).trans e102) ((w152.2 33 (by decide)).trans ((s101.2.1 33 (by decide)).trans gcn)) w152.1 Y S (lv_sub hl [1, 2, 3, 4, 5, 6, 7, 8, 9, 0] rfl)
                              have J431 : ∀  (H : Heap) (locs : List Loc) (ls : Array Slot), mH D E (mA E h q sz) s.heap h q I152 J155 B159 G155 H locs → rS [2, 3, 8, 14, 18, 33, 36, 42, 54, 55] [0, 1, 5, 6, 7, 9, 10, 11, 12, 13, 15, 16, 17, 19, 20, 21, 22, 23, 34, 35, 53, 56, 58, 60, 95, 110, 111, 112, 113, 115, 116, 117, 118, 119, 120, 132] I B I152 B159 → lv_has ls 18 [(0, .ref h), (1, .int (iI a1)), (2, .int (iI a2)), (4, .int (iI a4)), (5, .int (iI a5)), (6, .int (iI a6)), (7, .int (iI a7)), (9, .int (iI z154)), (10, .long v155)] → W p l e (mR 8 236) s m AV below meth c H locs 0 0 QQ (F0 m 174 ls [.int (iI a1), .ref ((q 115))]) := by
                                intro  H locs ls  Y S hl
                                refine lv_iconst (v := iI 0) X.1 X.2.1 d_M_request_174 (by decide) ?_
                                exact J162 0 _ _ _ (by omega) (by omega) Y S (lv_sub hl [0, 1, 2, 3, 4, 5, 6, 7, 8] rfl)
                              refine z_icmp_ne (tgt := 174) X.1 X.2.1 d_M_request_156 (by decide) ⟨by omega, by omega⟩ ⟨by decide, by decide⟩ (fun h435 => ?_) (fun h435 => False.elim (by omega))
                              · exact J431  _ _ _  Y S (lv_sub hl [3, 4, 5, 7, 8, 9, 10, 1, 0] rfl)
                          · refine lv_aload_n X.1 X.2.1 d_M_request_91 rfl (lv_at hl 1 rfl) ?_
                            refine lv_iload_n X.1 X.2.1 d_M_request_92 rfl (lv_at hl 2 rfl) ?_
                            refine lv_iload_n X.1 X.2.1 d_M_request_93 rfl (lv_at hl 4 rfl) ?_
                            refine r_ni (m_run (As := [.int (iI a1), .int (iI a3)]) (rest := []) (n := 2) X Y hZ hA hml hl.1 (r_M_hasTicket l D E h q H.size I101 J113 B101 G113 a1 (by omega) (by omega) a3 (by omega) (by omega) S.1) kl_M_hasTicket ks_M_hasTicket kx_M_hasTicket ki_M_hasTicket ini_M hd_M_hasTicket ⟨Nat.le_of_ble_eq_true rfl, Nat.le_of_ble_eq_true rfl⟩ rfl (Nat.le_of_ble_eq_true rfl) d_M_request_94 ⟨Nat.le_refl _, Nat.le_refl _⟩) X Y hA S (by decide) (by decide) (fun z436 u H locs Y S s436 p436 => ?_)
                            obtain ⟨I436, J436, B436, G436⟩ := u
                            dsimp only at Y S s436 p436
                            have i436 : I101 = I436 := (funext (fun j => s436.2.1 j (by simp))).symm
                            subst i436
                            have b436 : B101 = B436 := (funext (fun j => s436.2.2 j (by simp))).symm
                            subst b436
                            obtain ⟨l436, u436, x436, st436⟩ := p436
                            refine z_if_eq (tgt := 104) X.1 X.2.1 d_M_request_97 (by decide) ⟨by omega, by omega⟩ (fun h437 => ?_) (fun h437 => ?_)
                            · refine lv_iconst (v := iI 0) X.1 X.2.1 d_M_request_104 (by decide) ?_
                              refine lv_istore (lv' := [(8, .int (iI 0)), (0, .ref h), (1, .int (iI a1)), (2, .int (iI a2)), (3, .int (iI a3)), (4, .int (iI a4)), (5, .int (iI a5)), (6, .int (iI a6)), (7, .int (iI a7))]) X.1 X.2.1 d_M_request_105 hl (by decide) rfl (fun ls hl => ?_)
                              refine lv_aload_n X.1 X.2.1 d_M_request_107 rfl (lv_at hl 1 rfl) ?_
                              refine lv_iconst (v := iI 0) X.1 X.2.1 d_M_request_108 (by decide) ?_
                              refine r_puti (k := 2) X Y S (by decide) lk_length rfl rfl (t_M_ok 2 (by decide)) rfl rfl (sf_length _ _ _ _) (Nat.le_of_ble_eq_true rfl) rfl (show (0 : Int) ≤ 0 by omega) (show 0 ≤ (4000 : Int) by omega) ⟨by omega, by omega⟩ (by decide) d_M_request_109 (fun I438 H locs Y S w438 => ?_)
                              have f439 : stT (B101 97) (B101 98) (B101 100) (B101 107) (B101 108) (B101 109) := (stT_cg rfl rfl rfl rfl rfl rfl (stT_cg rfl rfl rfl rfl rfl rfl (stT_cg rfl rfl rfl rfl rfl rfl (stT_cg (s101.2.2 97 (by decide)) (s101.2.2 98 (by decide)) (s101.2.2 100 (by decide)) (s101.2.2 107 (by decide)) (s101.2.2 108 (by decide)) (s101.2.2 109 (by decide)) f_FT))))
                              refine lv_iload X.1 X.2.1 d_M_request_112 (lv_at hl 0 rfl) ?_
                              refine z_if_ne (tgt := 119) X.1 X.2.1 d_M_request_114 (by decide) ⟨by decide, by decide⟩ (fun h440 => False.elim (by omega)) (fun h440 => ?_)
                              · refine lv_iconst (v := iI (-1)) X.1 X.2.1 d_M_request_117 (by decide) ?_
                                exact m_reti hQQ X Y hr hlk ⟨S, (-1), rfl, ⟨by omega, by omega, ⟨cn, ((w438.2 33 (by decide)).trans ((s101.2.1 33 (by decide)).trans gcn)), by omega, by omega⟩, f439, (stA_cg rfl rfl rfl rfl (stA_cg rfl rfl rfl rfl (stA_cg rfl rfl rfl rfl (stA_cg (s101.2.2 110 (by decide)) (s101.2.2 118 (by decide)) (s101.2.2 119 (by decide)) (s101.2.2 120 (by decide)) f_FA))))⟩⟩ d_M_request_118
                            · refine lv_iconst (v := iI 1) X.1 X.2.1 d_M_request_100 (by decide) ?_
                              refine lv_goto (tgt := 105) X.1 X.2.1 d_M_request_101 (by decide) ?_
                              refine lv_istore (lv' := [(8, .int (iI 1)), (0, .ref h), (1, .int (iI a1)), (2, .int (iI a2)), (3, .int (iI a3)), (4, .int (iI a4)), (5, .int (iI a5)), (6, .int (iI a6)), (7, .int (iI a7))]) X.1 X.2.1 d_M_request_105 hl (by decide) rfl (fun ls hl => ?_)
                              refine lv_aload_n X.1 X.2.1 d_M_request_107 rfl (lv_at hl 1 rfl) ?_
                              refine lv_iconst (v := iI 0) X.1 X.2.1 d_M_request_108 (by decide) ?_
                              refine r_puti (k := 2) X Y S (by decide) lk_length rfl rfl (t_M_ok 2 (by decide)) rfl rfl (sf_length _ _ _ _) (Nat.le_of_ble_eq_true rfl) rfl (show (0 : Int) ≤ 0 by omega) (show 0 ≤ (4000 : Int) by omega) ⟨by omega, by omega⟩ (by decide) d_M_request_109 (fun I441 H locs Y S w441 => ?_)
                              have f442 : stT (B101 97) (B101 98) (B101 100) (B101 107) (B101 108) (B101 109) := (stT_cg rfl rfl rfl rfl rfl rfl (stT_cg rfl rfl rfl rfl rfl rfl (stT_cg rfl rfl rfl rfl rfl rfl (stT_cg (s101.2.2 97 (by decide)) (s101.2.2 98 (by decide)) (s101.2.2 100 (by decide)) (s101.2.2 107 (by decide)) (s101.2.2 108 (by decide)) (s101.2.2 109 (by decide)) f_FT))))
                              refine lv_iload X.1 X.2.1 d_M_request_112 (lv_at hl 0 rfl) ?_
                              refine z_if_ne (tgt := 119) X.1 X.2.1 d_M_request_114 (by decide) ⟨by decide, by decide⟩ (fun h443 => ?_) (fun h443 => False.elim (by omega))
                              · refine lv_bipush (v := iI 8) X.1 X.2.1 d_M_request_119 (by decide) ?_
                                refine lv_iload_n X.1 X.2.1 d_M_request_121 rfl (lv_at hl 2 rfl) ?_
                                refine z_imul X.1 X.2.1 d_M_request_122 ?_
                                refine lv_iload_n X.1 X.2.1 d_M_request_123 rfl (lv_at hl 4 rfl) ?_
                                refine z_iadd X.1 X.2.1 d_M_request_124 ?_
                                refine lv_istore (lv' := [(9, .int (iI ((8 * a1) + a3))), (8, .int (iI 1)), (0, .ref h), (1, .int (iI a1)), (2, .int (iI a2)), (3, .int (iI a3)), (4, .int (iI a4)), (5, .int (iI a5)), (6, .int (iI a6)), (7, .int (iI a7))]) X.1 X.2.1 d_M_request_125 hl (by decide) rfl (fun ls hl => ?_)
                                have f444 : (B101 97 ((8 * a1) + a3).toNat).toInt ≠ 0 := by rw [show (8 * a1) + a3 = 8 * a1 + a3 by omega]; exact st436 (by omega)
                                have f445 : (B101 97 ((8 * a1) + a3).toNat).toInt ≠ 0 := by rw [show (8 * a1) + a3 = 8 * a1 + a3 by omega]; exact st436 (by omega)
                                refine lv_aload_n X.1 X.2.1 d_M_request_127 rfl (lv_at hl 2 rfl) ?_
                                refine lv_iload_n X.1 X.2.1 d_M_request_128 rfl (lv_at hl 3 rfl) ?_
                                refine r_nl (m_run (As := [.int (iI a1)]) (rest := []) (n := 1) X Y hZ hA hml hl.1 (r_M_clockOf l D E h q H.size I441 J436 B101 G436 a1 (by omega) (by omega) S.1) kl_M_clockOf ks_M_clockOf kx_M_clockOf ki_M_clockOf ini_M hd_M_clockOf ⟨Nat.le_of_ble_eq_true rfl, Nat.le_of_ble_eq_true rfl⟩ rfl (Nat.le_of_ble_eq_true rfl) d_M_request_129 ⟨Nat.le_refl _, Nat.le_refl _⟩) X Y hA S (by decide) (by decide) (fun v446 u H locs Y S s446 p446 => ?_)
                                obtain ⟨I446, J446, B446, G446⟩ := u
                                dsimp only at Y S s446 p446
                                have i446 : I441 = I446 := (funext (fun j => s446.2.1 j (by simp))).symm
                                subst i446
                                have b446 : B101 = B446 := (funext (fun j => s446.2.2 j (by simp))).symm
                                subst b446
                                refine lv_lstore (lv' := [(10, .long v446), (9, .int (iI ((8 * a1) + a3))), (8, .int (iI 1)), (0, .ref h), (1, .int (iI a1)), (2, .int (iI a2)), (3, .int (iI a3)), (4, .int (iI a4)), (5, .int (iI a5)), (6, .int (iI a6)), (7, .int (iI a7))]) X.1 X.2.1 d_M_request_132 hl (by decide) rfl (fun ls hl => ?_)
                                refine lv_aload_n X.1 X.2.1 d_M_request_134 rfl (lv_at hl 3 rfl) ?_
                                refine m_get X Y 110 (by decide) lk_askedKind (gf_askedKind _ _ _) rfl d_M_request_135 ?_
                                refine lv_iload_n X.1 X.2.1 d_M_request_138 rfl (lv_at hl 4 rfl) ?_
                                refine lv_iload_n X.1 X.2.1 d_M_request_139 rfl (lv_at hl 5 rfl) ?_
                                refine r_iast X Y S (aw_askedKind _ _ _ _ _ _ _) (sw_askedKind _ _ _ _ _ _ _) rfl ⟨(show ((-1) : Int) ≤ a2 by omega), (show a2 ≤ (2 : Int) by omega)⟩ ⟨by omega, by omega⟩ (by omega) (show a1 < ((4 : Nat) : Int) by omega) (by omega) (by decide) d_M_request_140 (fun B447 H locs Y S w447 => ?_)
                                have f448 : stAX a1 (B447 110) (B447 118) (B447 119) (B447 120) := by rw [w447.1, w447.2 118 (by decide), w447.2 119 (by decide), w447.2 120 (by decide)]; exact stAX_of (by omega) (stA_cg rfl rfl rfl rfl (stA_cg rfl rfl rfl rfl (stA_cg rfl rfl rfl rfl (stA_cg rfl rfl rfl rfl (stA_cg (s101.2.2 110 (by decide)) (s101.2.2 118 (by decide)) (s101.2.2 119 (by decide)) (s101.2.2 120 (by decide)) f_FA)))))
                                refine lv_aload_n X.1 X.2.1 d_M_request_141 rfl (lv_at hl 3 rfl) ?_
                                refine m_get X Y 111 (by decide) lk_askedTypes (gf_askedTypes _ _ _) rfl d_M_request_142 ?_
                                refine lv_iload_n X.1 X.2.1 d_M_request_145 rfl (lv_at hl 4 rfl) ?_
                                refine lv_iload X.1 X.2.1 d_M_request_146 (lv_at hl 8 rfl) ?_
                                refine r_iast X Y S (aw_askedTypes _ _ _ _ _ _ _) (sw_askedTypes _ _ _ _ _ _ _) rfl ⟨(show (0 : Int) ≤ a5 by omega), (show a5 ≤ (4 : Int) by omega)⟩ ⟨by omega, by omega⟩ (by omega) (show a1 < ((4 : Nat) : Int) by omega) (by omega) (by decide) d_M_request_148 (fun B449 H locs Y S w449 => ?_)
                                have f450 : stT (B449 97) (B449 98) (B449 100) (B449 107) (B449 108) (B449 109) := (stT_cg (w449.2 97 (by decide)) (w449.2 98 (by decide)) (w449.2 100 (by decide)) (w449.2 107 (by decide)) (w449.2 108 (by decide)) (w449.2 109 (by decide)) (stT_cg (w447.2 97 (by decide)) (w447.2 98 (by decide)) (w447.2 100 (by decide)) (w447.2 107 (by decide)) (w447.2 108 (by decide)) (w447.2 109 (by decide)) (stT_cg rfl rfl rfl rfl rfl rfl f442)))
                                refine lv_aload_n X.1 X.2.1 d_M_request_149 rfl (lv_at hl 3 rfl) ?_
                                refine m_get X Y 115 (by decide) lk_askedRenew (gf_askedRenew _ _ _) rfl d_M_request_150 ?_
                                refine lv_iload_n X.1 X.2.1 d_M_request_153 rfl (lv_at hl 4 rfl) ?_
                                refine lv_iload_n X.1 X.2.1 d_M_request_154 rfl (lv_at hl 5 rfl) ?_
                                refine lv_iconst (v := iI 2) X.1 X.2.1 d_M_request_155 (by decide) ?_
                                have J459 : ∀ (z452 : Int) (I451 : Nat → Int32) (J451 : Nat → Int64) (B451 : Nat → Nat → Int32) (G451 : Nat → Nat → Int64) (H : Heap) (locs : List Loc) (ls : Array Slot), (0 ≤ z452) → (z452 ≤ 1) → (stAX a1 (B451 110) (B451 118) (B451 119) (B451 120)) → (stT (B451 97) (B451 98) (B451 100) (B451 107) (B451 108) (B451 109)) → ((B451 97 ((8 * a1) + a3).toNat).toInt ≠ 0) → (I451 54 = iI z102) → (I451 33 = iI cn) → (I451 2 = iI 0) → mH D E (mA E h q sz) s.heap h q I451 J451 B451 G451 H locs → rS [2, 3, 8, 14, 18, 33, 36, 42, 54, 55] [0, 1, 5, 6, 7, 9, 10, 11, 12, 13, 15, 16, 17, 19, 20, 21, 22, 23, 34, 35, 53, 56, 58, 60, 95, 110, 111, 112, 113, 115, 116, 117, 118, 119, 120, 132] I B I451 B451 → lv_has ls 18 [(0, .ref h), (1, .int (iI a1)), (2, .int (iI a2)), (4, .int (iI a4)), (5, .int (iI a5)), (6, .int (iI a6)), (7, .int (iI a7)), (9, .int (iI ((8 * a1) + a3))), (10, .long v446)] → W p l e (mR 8 236) s m AV below meth c H locs 0 0 QQ (F0 m 175 ls [.int (iI z452), .int (iI a1), .ref ((q 115))]) := by
                                  intro z452 I451 J451 B451 G451 H locs ls l452 u452 f453 f454 f455 e456 e457 e458 Y S hl
                                  refine r_zast X Y S (aw_askedRenew _ _ _ _ _ _ _) (sw_askedRenew _ _ _ _ _ _ _) rfl ⟨by omega, by omega⟩ (by omega) (show a1 < ((4 : Nat) : Int) by omega) (by omega) (by decide) d_M_request_175 (fun B463 H locs Y S w463 => ?_)
                                  refine lv_aload_n X.1 X.2.1 d_M_request_176 rfl (lv_at hl 0 rfl) ?_
                                  refine m_get X Y 113 (by decide) lk_askedSize (gf_askedSize _ _ _) rfl d_M_request_177 ?_
                                  refine lv_iload_n X.1 X.2.1 d_M_request_180 rfl (lv_at hl 1 rfl) ?_
                                  refine lv_aload_n X.1 X.2.1 d_M_request_181 rfl (lv_at hl 0 rfl) ?_
                                  refine r_get0 X Y (by decide) lk_nameSize (gf_nameSize _ _ _) rfl e456 d_M_request_182 ?_
                                  refine r_iast X Y S (aw_askedSize _ _ _ _ _ _ _) (sw_askedSize _ _ _ _ _ _ _) rfl ⟨(show (0 : Int) ≤ z102 by omega), (show z102 ≤ (33 : Int) by omega)⟩ ⟨by omega, by omega⟩ (by omega) (show a1 < ((4 : Nat) : Int) by omega) (by omega) (by decide) d_M_request_185 (fun B464 H locs Y S w464 => ?_)
                                  have f465 : stT (B464 97) (B464 98) (B464 100) (B464 107) (B464 108) (B464 109) := (stT_cg (w464.2 97 (by decide)) (w464.2 98 (by decide)) (w464.2 100 (by decide)) (w464.2 107 (by decide)) (w464.2 108 (by decide)) (w464.2 109 (by decide)) (stT_cg (w463.2 97 (by decide)) (w463.2 98 (by decide)) (w463.2 100 (by decide)) (w463.2 107 (by decide)) (w463.2 108 (by decide)) (w463.2 109 (by decide)) f454))
                                  refine lv_iconst (v := iI 0) X.1 X.2.1 d_M_request_186 (by decide) ?_
                                  have J474 : ∀ (n476 : Nat) (z467 : Int) (I466 : Nat → Int32) (J466 : Nat → Int64) (B466 : Nat → Nat → Int32) (G466 : Nat → Nat → Int64) (H : Heap) (locs : List Loc) (ls : Array Slot), (40 - z467).toNat = n476 → (0 ≤ z467) → (z467 ≤ 40) → (stAX a1 (B466 110) (B466 118) (B466 119) (B466 120)) → (stT (B466 97) (B466 98) (B466 100) (B466 107) (B466 108) (B466 109)) → ((B466 97 ((8 * a1) + a3).toNat).toInt ≠ 0) → (I466 54 = iI z102) → (I466 33 = iI cn) → (I466 2 = iI 0) → mH D E (mA E h q sz) s.heap h q I466 J466 B466 G466 H locs → rS [2, 3, 8, 14, 18, 33, 36, 42, 54, 55] [0, 1, 5, 6, 7, 9, 10, 11, 12, 13, 15, 16, 17, 19, 20, 21, 22, 23, 34, 35, 53, 56, 58, 60, 95, 110, 111, 112, 113, 115, 116, 117, 118, 119, 120, 132] I B I466 B466 → lv_has ls 18 [(0, .ref h), (1, .int (iI a1)), (2, .int (iI a2)), (4, .int (iI a4)), (5, .int (iI a5)), (6, .int (iI a6)), (7, .int (iI a7)), (9, .int (iI ((8 * a1) + a3))), (10, .long v446), (12, .int (iI z467))] → W p l e (mR 8 236) s m AV below meth c H locs 0 0 QQ (F0 m 189 ls []) := by
                                    intro n476
                                    induction n476 using Nat.strongRecOn with
                                    | ind n476 ih475 =>
                                      intro z467 I466 J466 B466 G466 H locs ls hm477 l467 u467 f468 f469 f470 e471 e472 e473 Y S hl
                                      refine lv_iload X.1 X.2.1 d_M_request_189 (lv_at hl 9 rfl) ?_
                                      refine lv_aload_n X.1 X.2.1 d_M_request_191 rfl (lv_at hl 0 rfl) ?_
                                      refine r_get0 X Y (by decide) lk_nameSize (gf_nameSize _ _ _) rfl e471 d_M_request_192 ?_
                                      refine z_icmp_ge (tgt := 223) X.1 X.2.1 d_M_request_195 (by decide) ⟨by omega, by omega⟩ ⟨by omega, by omega⟩ (fun h478 => ?_) (fun h478 => ?_)
                                      · refine lv_aload_n X.1 X.2.1 d_M_request_223 rfl (lv_at hl 0 rfl) ?_
                                        refine m_get X Y 114 (by decide) lk_askedNonce (gf_askedNonce _ _ _) rfl d_M_request_224 ?_
                                        refine lv_iload_n X.1 X.2.1 d_M_request_227 rfl (lv_at hl 1 rfl) ?_
                                        refine lv_aload_n X.1 X.2.1 d_M_request_228 rfl (lv_at hl 0 rfl) ?_
                                        refine r_ni (m_run (As := []) (rest := [.int (iI a1), .ref ((q 114))]) (n := 0) X Y hZ hA hml hl.1 (r_M_fourCoins l D E h q H.size I466 J466 B466 G466 S.1 cn e472 (by omega) (by omega)) kl_M_fourCoins ks_M_fourCoins kx_M_fourCoins ki_M_fourCoins ini_M hd_M_fourCoins ⟨Nat.le_of_ble_eq_true rfl, Nat.le_of_ble_eq_true rfl⟩ rfl (Nat.le_of_ble_eq_true rfl) d_M_request_229 ⟨Nat.le_refl _, Nat.le_refl _⟩) X Y hA S (by decide) (by decide) (fun z479 u H locs Y S s479 p479 => ?_)
                                        obtain ⟨I479, J479, B479, G479⟩ := u
                                        dsimp only at Y S s479 p479
                                        obtain ⟨l479, u479, x479⟩ := p479
                                        refine lv_ldcw (v := (2147483647)) X.1 X.2.1 X.2.2.2.1 (X.2.2.1 _ cn_M_933) d_M_request_232 ?_
                                        refine t_eq (y := iI 2147483647) (by decide) ?_
                                        refine z_iand X.1 X.2.1 (by omega) (by omega) d_M_request_235 (fun z480 l480 u480 => ?_)
                                        refine lv_i2l X.1 X.2.1 d_M_request_236 rfl ?_
                                        refine t_anyl (fun v481 => ?_)
                                        refine r_last X Y (aw_askedNonce _ _ _ _ _ _ _) (sw_askedNonce _ _ _ _ _ _ _) (by omega) (show a1 < ((4 : Nat) : Int) by omega) (by omega) d_M_request_237 (fun G482 H locs Y => ?_)
                                        refine lv_aload_n X.1 X.2.1 d_M_request_238 rfl (lv_at hl 0 rfl) ?_
                                        refine m_get X Y 112 (by decide) lk_askedSub (gf_askedSub _ _ _) rfl d_M_request_239 ?_
                                        refine lv_iload_n X.1 X.2.1 d_M_request_242 rfl (lv_at hl 1 rfl) ?_
                                        refine lv_iconst (v := iI 0) X.1 X.2.1 d_M_request_243 (by decide) ?_
                                        refine r_iast X Y S (aw_askedSub _ _ _ _ _ _ _) (sw_askedSub _ _ _ _ _ _ _) rfl ⟨(show (0 : Int) ≤ 0 by omega), (show 0 ≤ (18 : Int) by omega)⟩ ⟨by omega, by omega⟩ (by omega) (show a1 < ((4 : Nat) : Int) by omega) (by omega) (by decide) d_M_request_244 (fun B483 H locs Y S w483 => ?_)
                                        have f484 : stT (B483 97) (B483 98) (B483 100) (B483 107) (B483 108) (B483 109) := (stT_cg (w483.2 97 (by decide)) (w483.2 98 (by decide)) (w483.2 100 (by decide)) (w483.2 107 (by decide)) (w483.2 108 (by decide)) (w483.2 109 (by decide)) (stT_cg (s479.2.2 97 (by decide)) (s479.2.2 98 (by decide)) (s479.2.2 100 (by decide)) (s479.2.2 107 (by decide)) (s479.2.2 108 (by decide)) (s479.2.2 109 (by decide)) f469))
                                        refine lv_iload_n X.1 X.2.1 d_M_request_245 rfl (lv_at hl 2 rfl) ?_
                                        refine lv_iconst (v := iI 2) X.1 X.2.1 d_M_request_246 (by decide) ?_
                                        refine z_icmp_ne (tgt := 383) X.1 X.2.1 d_M_request_247 (by decide) ⟨by omega, by omega⟩ ⟨by decide, by decide⟩ (fun h485 => False.elim (by omega)) (fun h485 => ?_)
                                        · refine lv_aload_n X.1 X.2.1 d_M_request_250 rfl (lv_at hl 0 rfl) ?_
                                          refine m_get X Y 112 (by decide) lk_askedSub (gf_askedSub _ _ _) rfl d_M_request_251 ?_
                                          refine lv_iload_n X.1 X.2.1 d_M_request_254 rfl (lv_at hl 1 rfl) ?_
                                          refine lv_aload_n X.1 X.2.1 d_M_request_255 rfl (lv_at hl 0 rfl) ?_
                                          refine m_get X Y 102 (by decide) lk_ticketTypes (gf_ticketTypes _ _ _) rfl d_M_request_256 ?_
                                          refine lv_iload X.1 X.2.1 d_M_request_259 (lv_at hl 7 rfl) ?_
                                          refine r_iald X Y S (aw_ticketTypes _ _ _ _ _ _ _) rfl (by omega) (show (8 * a1) + a3 < ((32 : Nat) : Int) by omega) (by omega) d_M_request_261 (fun z486 q486 l486 u486 => ?_)
                                          refine r_iast X Y S (aw_askedSub _ _ _ _ _ _ _) (sw_askedSub _ _ _ _ _ _ _) rfl ⟨(show (0 : Int) ≤ z486 by omega), (show z486 ≤ (18 : Int) by omega)⟩ ⟨by omega, by omega⟩ (by omega) (show a1 < ((4 : Nat) : Int) by omega) (by omega) (by decide) d_M_request_262 (fun B487 H locs Y S w487 => ?_)
                                          have f488 : stAX a1 (B487 110) (B487 118) (B487 119) (B487 120) := (stAX_cg (w487.2 110 (by decide)) (w487.2 118 (by decide)) (w487.2 119 (by decide)) (w487.2 120 (by decide)) (stAX_cg (w483.2 110 (by decide)) (w483.2 118 (by decide)) (w483.2 119 (by decide)) (w483.2 120 (by decide)) (stAX_cg (s479.2.2 110 (by decide)) (s479.2.2 118 (by decide)) (s479.2.2 119 (by decide)) (s479.2.2 120 (by decide)) f468)))
                                          refine lv_aload_n X.1 X.2.1 d_M_request_263 rfl (lv_at hl 0 rfl) ?_
                                          refine lv_aload_n X.1 X.2.1 d_M_request_264 rfl (lv_at hl 0 rfl) ?_
                                          refine m_get X Y 102 (by decide) lk_ticketTypes (gf_ticketTypes _ _ _) rfl d_M_request_265 ?_
                                          refine lv_iload X.1 X.2.1 d_M_request_268 (lv_at hl 7 rfl) ?_
                                          refine r_iald X Y S (aw_ticketTypes _ _ _ _ _ _ _) rfl (by omega) (show (8 * a1) + a3 < ((32 : Nat) : Int) by omega) (by omega) d_M_request_270 (fun z489 q489 l489 u489 => ?_)
                                          refine lv_aload_n X.1 X.2.1 d_M_request_271 rfl (lv_at hl 0 rfl) ?_
                                          refine m_get X Y 60 (by decide) lk_fresh (gf_fresh _ _ _) rfl d_M_request_272 ?_
                                          refine r_nv (m_run (As := [.int (iI z489), .ref ((q 60))]) (rest := []) (n := 2) X Y hZ hA hml hl.1 (r_M_newKey_fresh l D E h q H.size I479 J479 B487 G482 z489 (by omega) (by omega) S.1 (cn + 4) (x479.trans (congrArg iI (show (cn + 4 : Int) = cn + 4 by omega))) (by omega) (by omega)) kl_M_newKey ks_M_newKey kx_M_newKey ki_M_newKey ini_M hd_M_newKey ⟨Nat.le_of_ble_eq_true rfl, Nat.le_of_ble_eq_true rfl⟩ rfl (Nat.le_of_ble_eq_true rfl) d_M_request_275 ⟨Nat.le_refl _, Nat.le_refl _⟩) X Y hA S (by decide) (by decide) (fun u H locs Y S s490 p490 => ?_)
                                          obtain ⟨I490, J490, B490, G490⟩ := u
                                          dsimp only at Y S s490 p490
                                          have f491 : stT (B490 97) (B490 98) (B490 100) (B490 107) (B490 108) (B490 109) := (stT_cg (s490.2.2 97 (by decide)) (s490.2.2 98 (by decide)) (s490.2.2 100 (by decide)) (s490.2.2 107 (by decide)) (s490.2.2 108 (by decide)) (s490.2.2 109 (by decide)) (stT_cg (w487.2 97 (by decide)) (w487.2 98 (by decide)) (w487.2 100 (by decide)) (w487.2 107 (by decide)) (w487.2 108 (by decide)) (w487.2 109 (by decide)) f484))
                                          have x490 := p490
                                          obtain ⟨z492, e492, l492, u492⟩ := x490
                                          refine lv_iconst (v := iI 0) X.1 X.2.1 d_M_request_278 (by decide) ?_
                                          have J501 : ∀ (n503 : Nat) (z494 : Int) (I493 : Nat → Int32) (J493 : Nat → Int64) (B493 : Nat → Nat → Int32) (G493 : Nat → Nat → Int64) (H : Heap) (locs : List Loc) (ls : Array Slot), (32 - z494).toNat = n503 → (0 ≤ z494) → (z494 ≤ 32) → (stAX a1 (B493 110) (B493 118) (B493 119) (B493 120)) → (stT (B493 97) (B493 98) (B493 100) (B493 107) (B493 108) (B493 109)) → ((B493 97 ((8 * a1) + a3).toNat).toInt ≠ 0) → (I493 54 = iI z102) → (I493 33 = iI z492) → (I493 2 = iI 0) → mH D E (mA E h q sz) s.heap h q I493 J493 B493 G493 H locs → rS [2, 3, 8, 14, 18, 33, 36, 42, 54, 55] [0, 1, 5, 6, 7, 9, 10, 11, 12, 13, 15, 16, 17, 19, 20, 21, 22, 23, 34, 35, 53, 56, 58, 60, 95, 110, 111, 112, 113, 115, 116, 117, 118, 119, 120, 132] I B I493 B493 → lv_has ls 18 [(0, .ref h), (1, .int (iI a1)), (2, .int (iI a2)), (4, .int (iI a4)), (5, .int (iI a5)), (6, .int (iI a6)), (7, .int (iI a7)), (9, .int (iI ((8 * a1) + a3))), (10, .long v446), (12, .int (iI z494))] → W p l e (mR 8 236) s m AV below meth c H locs 0 0 QQ (F0 m 281 ls []) := by
                                            intro n503
                                            induction n503 using Nat.strongRecOn with
                                            | ind n503 ih502 =>
                                              intro z494 I493 J493 B493 G493 H locs ls hm504 l494 u494 f495 f496 f497 e498 e499 e500 Y S hl
                                              refine lv_iload X.1 X.2.1 d_M_request_281 (lv_at hl 9 rfl) ?_
                                              refine lv_bipush (v := iI 32) X.1 X.2.1 d_M_request_283 (by decide) ?_
                                              refine z_icmp_ge (tgt := 313) X.1 X.2.1 d_M_request_285 (by decide) ⟨by omega, by omega⟩ ⟨by decide, by decide⟩ (fun h505 => ?_) (fun h505 => ?_)
                                              · refine lv_aload_n X.1 X.2.1 d_M_request_313 rfl (lv_at hl 0 rfl) ?_
                                                refine m_get X Y 119 (by decide) lk_askedRealm (gf_askedRealm _ _ _) rfl d_M_request_314 ?_
                                                refine lv_iload_n X.1 X.2.1 d_M_request_317 rfl (lv_at hl 1 rfl) ?_
                                                refine lv_aload_n X.1 X.2.1 d_M_request_318 rfl (lv_at hl 0 rfl) ?_
                                                refine m_get X Y 108 (by decide) lk_realmSizes (gf_realmSizes _ _ _) rfl d_M_request_319 ?_
                                                refine lv_iload X.1 X.2.1 d_M_request_322 (lv_at hl 7 rfl) ?_
                                                refine r_iald X Y S (aw_realmSizes _ _ _ _ _ _ _) rfl (by omega) (show (8 * a1) + a3 < ((32 : Nat) : Int) by omega) (by omega) d_M_request_324 (fun z506 q506 l506 u506 => ?_)
                                                refine r_iast X Y S (aw_askedRealm _ _ _ _ _ _ _) (sw_askedRealm _ _ _ _ _ _ _) rfl ⟨(show (0 : Int) ≤ z506 by omega), (show z506 ≤ (100 : Int) by omega)⟩ ⟨by omega, by omega⟩ (by omega) (show a1 < ((4 : Nat) : Int) by omega) (by omega) (by decide) d_M_request_325 (fun B507 H locs Y S w507 => ?_)
                                                have f508 : stAX a1 (B507 110) (B507 118) (B507 119) (B507 120) := by rw [w507.1, w507.2 110 (by decide), w507.2 118 (by decide), w507.2 120 (by decide)]; exact stAX_119 (by omega) f495
                                                have f509 : zeq (B507 119) (B507 108) (a1).toNat ((8 * a1) + a3).toNat := by unfold zeq; rw [w507.1, pk_us, w507.2 108 (by decide), iI_toInt ⟨by omega, by omega⟩]; exact q506
                                                refine lv_aload_n X.1 X.2.1 d_M_request_326 rfl (lv_at hl 0 rfl) ?_
                                                refine m_get X Y 120 (by decide) lk_askedClient (gf_askedClient _ _ _) rfl d_M_request_327 ?_
                                                refine lv_iload_n X.1 X.2.1 d_M_request_330 rfl (lv_at hl 1 rfl) ?_
                                                refine lv_aload_n X.1 X.2.1 d_M_request_331 rfl (lv_at hl 0 rfl) ?_
                                                refine m_get X Y 109 (by decide) lk_clientSizes (gf_clientSizes _ _ _) rfl d_M_request_332 ?_
                                                refine lv_iload X.1 X.2.1 d_M_request_335 (lv_at hl 7 rfl) ?_
                                                refine r_iald X Y S (aw_clientSizes _ _ _ _ _ _ _) rfl (by omega) (show (8 * a1) + a3 < ((32 : Nat) : Int) by omega) (by omega) d_M_request_337 (fun z510 q510 l510 u510 => ?_)
                                                refine r_iast X Y S (aw_askedClient _ _ _ _ _ _ _) (sw_askedClient _ _ _ _ _ _ _) rfl ⟨(show (0 : Int) ≤ z510 by omega), (show z510 ≤ (300 : Int) by omega)⟩ ⟨by omega, by omega⟩ (by omega) (show a1 < ((4 : Nat) : Int) by omega) (by omega) (by decide) d_M_request_338 (fun B511 H locs Y S w511 => ?_)
                                                have f512 : stT (B511 97) (B511 98) (B511 100) (B511 107) (B511 108) (B511 109) := (stT_cg (w511.2 97 (by decide)) (w511.2 98 (by decide)) (w511.2 100 (by decide)) (w511.2 107 (by decide)) (w511.2 108 (by decide)) (w511.2 109 (by decide)) (stT_cg (w507.2 97 (by decide)) (w507.2 98 (by decide)) (w507.2 100 (by decide)) (w507.2 107 (by decide)) (w507.2 108 (by decide)) (w507.2 109 (by decide)) f496))
                                                have f513 : stAX a1 (B511 110) (B511 118) (B511 119) (B511 120) := by rw [w511.1, w511.2 110 (by decide), w511.2 118 (by decide), w511.2 119 (by decide)]; exact stAX_120 (by omega) f508
                                                have f514 : zeq (B511 120) (B511 109) (a1).toNat ((8 * a1) + a3).toNat := by unfold zeq; rw [w511.1, pk_us, w511.2 109 (by decide), iI_toInt ⟨by omega, by omega⟩]; exact q510
                                                refine lv_iconst (v := iI 0) X.1 X.2.1 d_M_request_339 (by decide) ?_
                                                have J526 : ∀ (n528 : Nat) (z516 : Int) (I515 : Nat → Int32) (J515 : Nat → Int64) (B515 : Nat → Nat → Int32) (G515 : Nat → Nat → Int64) (H : Heap) (locs : List Loc) (ls : Array Slot), (400 - z516).toNat = n528 → (0 ≤ z516) → (z516 ≤ 400) → (stAX a1 (B515 110) (B515 118) (B515 119) (B515 120)) → (stT (B515 97) (B515 98) (B515 100) (B515 107) (B515 108) (B515 109)) → ((B515 97 ((8 * a1) + a3).toNat).toInt ≠ 0) → (zeq (B515 119) (B515 108) (a1).toNat ((8 * a1) + a3).toNat) → (zeq (B515 120) (B515 109) (a1).toNat ((8 * a1) + a3).toNat) → (I515 54 = iI z102) → (I515 33 = iI z492) → (I515 2 = iI 0) → (cpy (B515 118) (B515 107) (400 * a1) (400 * ((8 * a1) + a3)) z516) → mH D E (mA E h q sz) s.heap h q I515 J515 B515 G515 H locs → rS [2, 3, 8, 14, 18, 33, 36, 42, 54, 55] [0, 1, 5, 6, 7, 9, 10, 11, 12, 13, 15, 16, 17, 19, 20, 21, 22, 23, 34, 35, 53, 56, 58, 60, 95, 110, 111, 112, 113, 115, 116, 117, 118, 119, 120, 132] I B I515 B515 → lv_has ls 18 [(0, .ref h), (1, .int (iI a1)), (2, .int (iI a2)), (4, .int (iI a4)), (5, .int (iI a5)), (6, .int (iI a6)), (7, .int (iI a7)), (9, .int (iI ((8 * a1) + a3))), (10, .long v446), (12, .int (iI z516))] → W p l e (mR 8 236) s m AV below meth c H locs 0 0 QQ (F0 m 342 ls []) := by
                                                  intro n528
                                                  induction n528 using Nat.strongRecOn with
                                                  | ind n528 ih527 =>
                                                    intro z516 I515 J515 B515 G515 H locs ls hm529 l516 u516 f517 f518 f519 f520 f521 e522 e523 e524 i525 Y S hl
                                                    refine lv_iload X.1 X.2.1 d_M_request_342 (lv_at hl 9 rfl) ?_
                                                    refine lv_sipush (v := iI 400) X.1 X.2.1 d_M_request_344 (by decide) ?_
                                                    refine z_icmp_ge (tgt := 383) X.1 X.2.1 d_M_request_347 (by decide) ⟨by omega, by omega⟩ ⟨by decide, by decide⟩ (fun h530 => ?_) (fun h530 => ?_)
                                                    · refine lv_aload_n X.1 X.2.1 d_M_request_383 rfl (lv_at hl 0 rfl) ?_
                                                      have f531 : stA (B515 110) (B515 118) (B515 119) (B515 120) := stA_yes f517 (by omega) f518 f519 (by omega) (by omega) f520 f521 ⟨(S.1.2 108 _).1, (S.1.2 108 _).2, (S.1.2 109 _).2⟩ (by have k9 := i525; rw [show z516 = (400 : Int) by omega] at k9; exact k9)
                                                      refine r_nv (m_run (As := []) (rest := []) (n := 0) X Y hZ hA hml hl.1 (r_M_start l D E h q H.size I515 J515 B515 G515 S.1) kl_M_start ks_M_start kx_M_start ki_M_start ini_M hd_M_start ⟨Nat.le_of_ble_eq_true rfl, Nat.le_of_ble_eq_true rfl⟩ rfl (Nat.le_of_ble_eq_true rfl) d_M_request_384 ⟨Nat.le_refl _, Nat.le_refl _⟩) X Y hA S (by decide) (by decide) (fun u H locs Y S s532 p532 => ?_)
                                                      obtain ⟨I532, J532, B532, G532⟩ := u
                                                      dsimp only at Y S s532 p532
                                                      have b532 : B515 = B532 := (funext (fun j => s532.2.2 j (by simp))).symm
                                                      subst b532
                                                      have x532 := p532
                                                      refine lv_aload_n X.1 X.2.1 d_M_request_387 rfl (lv_at hl 0 rfl) ?_
                                                      refine r_get0 X Y (by decide) lk_w0 (gf_w0 _ _ _) rfl (x532.trans (congrArg iI (show (60000 : Int) = 60000 by omega))) d_M_request_388 ?_
                                                      refine lv_istore (lv' := [(12, .int (iI 60000)), (0, .ref h), (1, .int (iI a1)), (2, .int (iI a2)), (4, .int (iI a4)), (5, .int (iI a5)), (6, .int (iI a6)), (7, .int (iI a7)), (9, .int (iI ((8 * a1) + a3))), (10, .long v446)]) X.1 X.2.1 d_M_request_391 hl (by decide) rfl (fun ls hl => ?_)
                                                      refine lv_iload X.1 X.2.1 d_M_request_393 (lv_at hl 5 rfl) ?_
                                                      refine lv_iconst (v := iI 2) X.1 X.2.1 d_M_request_395 (by decide) ?_
                                                      have J546 : ∀ (z543 : Int) (I533 : Nat → Int32) (J533 : Nat → Int64) (B533 : Nat → Nat → Int32) (G533 : Nat → Nat → Int64) (H : Heap) (locs : List Loc) (ls : Array Slot), (stA (B533 110) (B533 118) (B533 119) (B533 120)) → (stAX a1 (B533 110) (B533 118) (B533 119) (B533 120)) → (stT (B533 97) (B533 98) (B533 100) (B533 107) (B533 108) (B533 109)) → ((B533 97 ((8 * a1) + a3).toNat).toInt ≠ 0) → (zeq (B533 119) (B533 108) (a1).toNat ((8 * a1) + a3).toNat) → (zeq (B533 120) (B533 109) (a1).toNat ((8 * a1) + a3).toNat) → (I533 54 = iI z102) → (I533 33 = iI z492) → (I533 2 = iI 0) → (I533 42 = iI z543) → (0 ≤ z543) → (z543 ≤ 60000) → (60000 - (20) ≤ z543) → (z543 ≤ 60000) → mH D E (mA E h q sz) s.heap h q I533 J533 B533 G533 H locs → rS [2, 3, 8, 14, 18, 33, 36, 42, 54, 55] [0, 1, 5, 6, 7, 9, 10, 11, 12, 13, 15, 16, 17, 19, 20, 21, 22, 23, 34, 35, 53, 56, 58, 60, 95, 110, 111, 112, 113, 115, 116, 117, 118, 119, 120, 132] I B I533 B533 → lv_has ls 18 [(0, .ref h), (1, .int (iI a1)), (2, .int (iI a2)), (4, .int (iI a4)), (5, .int (iI a5)), (6, .int (iI a6)), (7, .int (iI a7)), (9, .int (iI ((8 * a1) + a3))), (10, .long v446), (12, .int (iI 60000))] → W p l e (mR 8 236) s m AV below meth c H locs 0 0 QQ (F0 m 418 ls []) := by
                                                        intro z543 I533 J533 B533 G533 H locs ls f534 f535 f536 f537 f538 f539 e540 e541 e542 e543 l543 u543 i544 i545 Y S hl
                                                        refine lv_aload_n X.1 X.2.1 d_M_request_418 rfl (lv_at hl 0 rfl) ?_
                                                        refine lv_iload X.1 X.2.1 d_M_request_419 (lv_at hl 4 rfl) ?_
                                                        refine p_calli (As := [.int (iI a5)]) (rest := [.ref h]) (n := 1) X Y hml hl.1 (r_M_firstType l a5 (by omega) (by omega)) kl_M_firstType ks_M_firstType ki_M_firstType ini_M hd_M_firstType ⟨Nat.le_of_ble_eq_true rfl, Nat.le_of_ble_eq_true rfl⟩ rfl (Nat.le_of_ble_eq_true rfl) d_M_request_421 ⟨Nat.le_refl _, Nat.le_refl _⟩ (fun r550 H locs p550 Y => ?_)
                                                        obtain ⟨z550, e550, p550⟩ := p550
                                                        subst e550
                                                        obtain ⟨l550, u550⟩ := p550
                                                        refine lv_i2l X.1 X.2.1 d_M_request_424 rfl ?_
                                                        refine t_anyl (fun v551 => ?_)
                                                        refine r_nv (m_run (As := [.long v551]) (rest := []) (n := 1) X Y hZ hA hml hl.1 (r_M_putNumber l D E h q H.size I533 J533 B533 G533 v551 S.1 z543 e543 (by omega) (by omega)) kl_M_putNumber ks_M_putNumber kx_M_putNumber ki_M_putNumber ini_M hd_M_putNumber ⟨Nat.le_of_ble_eq_true rfl, Nat.le_of_ble_eq_true rfl⟩ rfl (Nat.le_of_ble_eq_true rfl) d_M_request_425 ⟨Nat.le_refl _, Nat.le_refl _⟩) X Y hA S (by decide) (by decide) (fun u H locs Y S s552 p552 => ?_)
                                                        obtain ⟨I552, J552, B552, G552⟩ := u
                                                        dsimp only at Y S s552 p552
                                                        obtain ⟨x552, g552_MF⟩ := p552
                                                        obtain ⟨z553, e553, l553, u553⟩ := x552
                                                        refine lv_aload_n X.1 X.2.1 d_M_request_428 rfl (lv_at hl 0 rfl) ?_
                                                        refine lv_bipush (v := iI 48) X.1 X.2.1 d_M_request_429 (by decide) ?_
                                                        refine lv_iload X.1 X.2.1 d_M_request_431 (lv_at hl 9 rfl) ?_
                                                        refine r_nv (m_run (As := [.int (iI 48), .int (iI 60000)]) (rest := []) (n := 2) X Y hZ hA hml hl.1 (r_M_head l D E h q H.size I552 J552 B552 G552 48 (by decide) (by decide) 60000 (by decide) (by decide) S.1 z553 e553 (by omega) (by omega)) kl_M_head ks_M_head kx_M_head ki_M_head ini_M hd_M_head ⟨Nat.le_of_ble_eq_true rfl, Nat.le_of_ble_eq_true rfl⟩ rfl (Nat.le_of_ble_eq_true rfl) d_M_request_433 ⟨Nat.le_refl _, Nat.le_refl _⟩) X Y hA S (by decide) (by decide) (fun u H locs Y S s554 p554 => ?_)
                                                        obtain ⟨I554, J554, B554, G554⟩ := u
                                                        dsimp only at Y S s554 p554
                                                        have f555 : stT (B554 97) (B554 98) (B554 100) (B554 107) (B554 108) (B554 109) := (stT_cg (s554.2.2 97 (by decide)) (s554.2.2 98 (by decide)) (s554.2.2 100 (by decide)) (s554.2.2 107 (by decide)) (s554.2.2 108 (by decide)) (s554.2.2 109 (by decide)) (stT_cg (s552.2.2 97 (by decide)) (s552.2.2 98 (by decide)) (s552.2.2 100 (by decide)) (s552.2.2 107 (by decide)) (s552.2.2 108 (by decide)) (s552.2.2 109 (by decide)) f536))
                                                        obtain ⟨x554, g554_MF⟩ := p554
                                                        obtain ⟨z556, e556, l556, u556⟩ := x554
                                                        refine lv_aload_n X.1 X.2.1 d_M_request_436 rfl (lv_at hl 0 rfl) ?_
                                                        refine lv_bipush (v := iI 8) X.1 X.2.1 d_M_request_437 (by decide) ?_
                                                        refine lv_iload X.1 X.2.1 d_M_request_439 (lv_at hl 9 rfl) ?_
                                                        refine r_nv (m_run (As := [.int (iI 8), .int (iI 60000)]) (rest := []) (n := 2) X Y hZ hA hml hl.1 (r_M_field l D E h q H.size I554 J554 B554 G554 8 (by decide) (by decide) 60000 (by decide) (by decide) S.1 z556 e556 (by omega) (by omega)) kl_M_field ks_M_field kx_M_field ki_M_field ini_M hd_M_field ⟨Nat.le_of_ble_eq_true rfl, Nat.le_of_ble_eq_true rfl⟩ rfl (Nat.le_of_ble_eq_true rfl) d_M_request_441 ⟨Nat.le_refl _, Nat.le_refl _⟩) X Y hA S (by decide) (by decide) (fun u H locs Y S s557 p557 => ?_)
                                                        obtain ⟨I557, J557, B557, G557⟩ := u
                                                        dsimp only at Y S s557 p557
                                                        have f558 : stAX a1 (B557 110) (B557 118) (B557 119) (B557 120) := (stAX_cg (s557.2.2 110 (by decide)) (s557.2.2 118 (by decide)) (s557.2.2 119 (by decide)) (s557.2.2 120 (by decide)) (stAX_cg (s554.2.2 110 (by decide)) (s554.2.2 118 (by decide)) (s554.2.2 119 (by decide)) (s554.2.2 120 (by decide)) (stAX_cg (s552.2.2 110 (by decide)) (s552.2.2 118 (by decide)) (s552.2.2 119 (by decide)) (s552.2.2 120 (by decide)) f535)))
                                                        have f559 : stA (B557 110) (B557 118) (B557 119) (B557 120) := (stA_cg (s557.2.2 110 (by decide)) (s557.2.2 118 (by decide)) (s557.2.2 119 (by decide)) (s557.2.2 120 (by decide)) (stA_cg (s554.2.2 110 (by decide)) (s554.2.2 118 (by decide)) (s554.2.2 119 (by decide)) (s554.2.2 120 (by decide)) (stA_cg (s552.2.2 110 (by decide)) (s552.2.2 118 (by decide)) (s552.2.2 119 (by decide)) (s552.2.2 120 (by decide)) f534)))
                                                        obtain ⟨x557, g557_MF⟩ := p557
                                                        obtain ⟨z560, e560, l560, u560⟩ := x557
                                                        refine lv_aload_n X.1 X.2.1 d_M_request_444 rfl (lv_at hl 0 rfl) ?_
                                                        refine lv_bipush (v := iI 7) X.1 X.2.1 d_M_request_445 (by decide) ?_
                                                        refine lv_aload_n X.1 X.2.1 d_M_request_447 rfl (lv_at hl 0 rfl) ?_
                                                        refine m_get X Y 114 (by decide) lk_askedNonce (gf_askedNonce _ _ _) rfl d_M_request_448 ?_
                                                        refine lv_iload_n X.1 X.2.1 d_M_request_451 rfl (lv_at hl 1 rfl) ?_
                                                        refine r_lald X Y (aw_askedNonce _ _ _ _ _ _ _) (by omega) (show a1 < ((4 : Nat) : Int) by omega) (by omega) d_M_request_452 (fun v561 => ?_)
                                                        refine r_nv (m_run (As := [.int (iI 7), .long v561]) (rest := []) (n := 2) X Y hZ hA hml hl.1 (r_M_numberField l D E h q H.size I557 J557 B557 G557 7 (by decide) (by decide) v561 S.1 z560 e560 (by omega) (by omega)) kl_M_numberField ks_M_numberField kx_M_numberField ki_M_numberField ini_M hd_M_numberField ⟨Nat.le_of_ble_eq_true rfl, Nat.le_of_ble_eq_true rfl⟩ rfl (Nat.le_of_ble_eq_true rfl) d_M_request_453 ⟨Nat.le_refl _, Nat.le_refl _⟩) X Y hA S (by decide) (by decide) (fun u H locs Y S s562 p562 => ?_)
                                                        obtain ⟨I562, J562, B562, G562⟩ := u
                                                        dsimp only at Y S s562 p562
                                                        have f563 : stT (B562 97) (B562 98) (B562 100) (B562 107) (B562 108) (B562 109) := (stT_cg (s562.2.2 97 (by decide)) (s562.2.2 98 (by decide)) (s562.2.2 100 (by decide)) (s562.2.2 107 (by decide)) (s562.2.2 108 (by decide)) (s562.2.2 109 (by decide)) (stT_cg (s557.2.2 97 (by decide)) (s557.2.2 98 (by decide)) (s557.2.2 100 (by decide)) (s557.2.2 107 (by decide)) (s557.2.2 108 (by decide)) (s557.2.2 109 (by decide)) f555))
                                                        have f564 : zeq (B562 119) (B562 108) (a1).toNat ((8 * a1) + a3).toNat := (zeq_cg (s562.2.2 108 (by decide)) (s562.2.2 119 (by decide)) (zeq_cg (s557.2.2 108 (by decide)) (s557.2.2 119 (by decide)) (zeq_cg (s554.2.2 108 (by decide)) (s554.2.2 119 (by decide)) (zeq_cg (s552.2.2 108 (by decide)) (s552.2.2 119 (by decide)) f538))))
                                                        have f565 : zeq (B562 120) (B562 109) (a1).toNat ((8 * a1) + a3).toNat := (zeq_cg (s562.2.2 109 (by decide)) (s562.2.2 120 (by decide)) (zeq_cg (s557.2.2 109 (by decide)) (s557.2.2 120 (by decide)) (zeq_cg (s554.2.2 109 (by decide)) (s554.2.2 120 (by decide)) (zeq_cg (s552.2.2 109 (by decide)) (s552.2.2 120 (by decide)) f539))))
                                                        obtain ⟨x562, g562_MF⟩ := p562
                                                        obtain ⟨z566, e566, l566, u566⟩ := x562
                                                        refine lv_iload X.1 X.2.1 d_M_request_456 (lv_at hl 6 rfl) ?_
                                                        have J580 : ∀ (z577 : Int) (I567 : Nat → Int32) (J567 : Nat → Int64) (B567 : Nat → Nat → Int32) (G567 : Nat → Nat → Int64) (H : Heap) (locs : List Loc) (ls : Array Slot), (stA (B567 110) (B567 118) (B567 119) (B567 120)) → (stAX a1 (B567 110) (B567 118) (B567 119) (B567 120)) → (stT (B567 97) (B567 98) (B567 100) (B567 107) (B567 108) (B567 109)) → ((B567 97 ((8 * a1) + a3).toNat).toInt ≠ 0) → (zeq (B567 119) (B567 108) (a1).toNat ((8 * a1) + a3).toNat) → (zeq (B567 120) (B567 109) (a1).toNat ((8 * a1) + a3).toNat) → (I567 54 = iI z102) → (I567 33 = iI z492) → (I567 2 = iI 0) → (I567 42 = iI z577) → (0 ≤ z577) → (z577 ≤ 60000) → (60000 - (120) ≤ z577) → (z577 ≤ 60000) → mH D E (mA E h q sz) s.heap h q I567 J567 B567 G567 H locs → rS [2, 3, 8, 14, 18, 33, 36, 42, 54, 55] [0, 1, 5, 6, 7, 9, 10, 11, 12, 13, 15, 16, 17, 19, 20, 21, 22, 23, 34, 35, 53, 56, 58, 60, 95, 110, 111, 112, 113, 115, 116, 117, 118, 119, 120, 132] I B I567 B567 → lv_has ls 18 [(0, .ref h), (1, .int (iI a1)), (2, .int (iI a2)), (4, .int (iI a4)), (5, .int (iI a5)), (6, .int (iI a6)), (9, .int (iI ((8 * a1) + a3))), (10, .long v446)] → W p l e (mR 8 236) s m AV below meth c H locs 0 0 QQ (F0 m 479 ls []) := by
                                                          intro z577 I567 J567 B567 G567 H locs ls f568 f569 f570 f571 f572 f573 e574 e575 e576 e577 l577 u577 i578 i579 Y S hl
                                                          refine lv_aload_n X.1 X.2.1 d_M_request_479 rfl (lv_at hl 0 rfl) ?_
                                                          refine lv_iconst (v := iI 5) X.1 X.2.1 d_M_request_480 (by decide) ?_
                                                          refine lv_iload X.1 X.2.1 d_M_request_481 (lv_at hl 5 rfl) ?_
                                                          have J585 : ∀ (v584 : Int64) (H : Heap) (locs : List Loc) (ls : Array Slot), mH D E (mA E h q sz) s.heap h q I567 J567 B567 G567 H locs → rS [2, 3, 8, 14, 18, 33, 36, 42, 54, 55] [0, 1, 5, 6, 7, 9, 10, 11, 12, 13, 15, 16, 17, 19, 20, 21, 22, 23, 34, 35, 53, 56, 58, 60, 95, 110, 111, 112, 113, 115, 116, 117, 118, 119, 120, 132] I B I567 B567 → lv_has ls 18 [(0, .ref h), (1, .int (iI a1)), (2, .int (iI a2)), (4, .int (iI a4)), (5, .int (iI a5)), (9, .int (iI ((8 * a1) + a3))), (10, .long v446)] → W p l e (mR 8 236) s m AV below meth c H locs 0 0 QQ (F0 m 502 ls [.long v584, .int (iI 5), .ref h]) := by
                                                            intro v584 H locs ls  Y S hl
                                                            refine r_nv (m_run (As := [.int (iI 5), .long v584]) (rest := []) (n := 2) X Y hZ hA hml hl.1 (r_M_timeField l D E h q H.size I567 J567 B567 G567 5 (by decide) (by decide) v584 S.1 z577 e577 (by omega) (by omega)) kl_M_timeField ks_M_timeField kx_M_timeField ki_M_timeField ini_M hd_M_timeField ⟨Nat.le_of_ble_eq_true rfl, Nat.le_of_ble_eq_true rfl⟩ rfl (Nat.le_of_ble_eq_true rfl) d_M_request_502 ⟨Nat.le_refl _, Nat.le_refl _⟩) X Y hA S (by decide) (by decide) (fun u H locs Y S s589 p589 => ?_)
                                                            obtain ⟨I589, J589, B589, G589⟩ := u
                                                            dsimp only at Y S s589 p589
                                                            obtain ⟨x589, g589_MF⟩ := p589
                                                            obtain ⟨z590, e590, l590, u590⟩ := x589
                                                            refine lv_aload_n X.1 X.2.1 d_M_request_505 rfl (lv_at hl 0 rfl) ?_
                                                            refine lv_iconst (v := iI 3) X.1 X.2.1 d_M_request_506 (by decide) ?_
                                                            refine lv_aload_n X.1 X.2.1 d_M_request_507 rfl (lv_at hl 0 rfl) ?_
                                                            refine m_get X Y 117 (by decide) lk_askedNames (gf_askedNames _ _ _) rfl d_M_request_508 ?_
                                                            refine lv_bipush (v := iI 40) X.1 X.2.1 d_M_request_511 (by decide) ?_
                                                            refine lv_iload_n X.1 X.2.1 d_M_request_513 rfl (lv_at hl 1 rfl) ?_
                                                            refine z_imul X.1 X.2.1 d_M_request_514 ?_
                                                            refine lv_aload_n X.1 X.2.1 d_M_request_515 rfl (lv_at hl 0 rfl) ?_
                                                            refine r_get0 X Y (by decide) lk_nameSize (gf_nameSize _ _ _) rfl ((s589.2.1 54 (by decide)).trans e574) d_M_request_516 ?_
                                                            refine lv_iconst (v := iI 2) X.1 X.2.1 d_M_request_519 (by decide) ?_
                                                            refine r_nv (m_run (As := [.int (iI 3), .ref ((q 117)), .int (iI (40 * a1)), .int (iI z102), .int (iI 2)]) (rest := []) (n := 5) X Y hZ hA hml hl.1 (r_M_partsField_askedNames l D E h q H.size I589 J589 B589 G589 3 (by decide) (by decide) (40 * a1) (by omega) (by omega) z102 (by omega) (by omega) 2 (by decide) (by decide) S.1 z590 e590 (by omega) (by omega)) kl_M_partsField ks_M_partsField kx_M_partsField ki_M_partsField ini_M hd_M_partsField ⟨Nat.le_of_ble_eq_true rfl, Nat.le_of_ble_eq_true rfl⟩ rfl (Nat.le_of_ble_eq_true rfl) d_M_request_520 ⟨Nat.le_refl _, Nat.le_refl _⟩) X Y hA S (by decide) (by decide) (fun u H locs Y S s591 p591 => ?_)
                                                            obtain ⟨I591, J591, B591, G591⟩ := u
                                                            dsimp only at Y S s591 p591
                                                            have f592 : stT (B591 97) (B591 98) (B591 100) (B591 107) (B591 108) (B591 109) := (stT_cg (s591.2.2 97 (by decide)) (s591.2.2 98 (by decide)) (s591.2.2 100 (by decide)) (s591.2.2 107 (by decide)) (s591.2.2 108 (by decide)) (s591.2.2 109 (by decide)) (stT_cg (s589.2.2 97 (by decide)) (s589.2.2 98 (by decide)) (s589.2.2 100 (by decide)) (s589.2.2 107 (by decide)) (s589.2.2 108 (by decide)) (s589.2.2 109 (by decide)) f570))
                                                            obtain ⟨x591, g591_MF⟩ := p591
                                                            obtain ⟨z593, e593, l593, u593⟩ := x591
                                                            refine lv_aload_n X.1 X.2.1 d_M_request_523 rfl (lv_at hl 0 rfl) ?_
                                                            refine lv_iconst (v := iI 2) X.1 X.2.1 d_M_request_524 (by decide) ?_
                                                            refine m_ldcSW (i := 2) X (by decide) (by decide) d_M_request_525 ?_
                                                            refine r_nv (m_run (As := [.int (iI 2), .ref ((D.2.1 2))]) (rest := []) (n := 2) X Y hZ hA hml hl.1 (r_M_wordField l D E h q H.size I591 J591 B591 G591 2 (by decide) (by decide) 2 (show 2 < nZ by decide) S.1 z593 e593 (by omega) (by omega)) kl_M_wordField ks_M_wordField kx_M_wordField ki_M_wordField ini_M hd_M_wordField ⟨Nat.le_of_ble_eq_true rfl, Nat.le_of_ble_eq_true rfl⟩ rfl (Nat.le_of_ble_eq_true rfl) d_M_request_528 ⟨Nat.le_refl _, Nat.le_refl _⟩) X Y hA S (by decide) (by decide) (fun u H locs Y S s594 p594 => ?_)
                                                            obtain ⟨I594, J594, B594, G594⟩ := u
                                                            dsimp only at Y S s594 p594
                                                            have f595 : stAX a1 (B594 110) (B594 118) (B594 119) (B594 120) := (stAX_cg (s594.2.2 110 (by decide)) (s594.2.2 118 (by decide)) (s594.2.2 119 (by decide)) (s594.2.2 120 (by decide)) (stAX_cg (s591.2.2 110 (by decide)) (s591.2.2 118 (by decide)) (s591.2.2 119 (by decide)) (s591.2.2 120 (by decide)) (stAX_cg (s589.2.2 110 (by decide)) (s589.2.2 118 (by decide)) (s589.2.2 119 (by decide)) (s589.2.2 120 (by decide)) f569)))
                                                            have f596 : stA (B594 110) (B594 118) (B594 119) (B594 120) := (stA_cg (s594.2.2 110 (by decide)) (s594.2.2 118 (by decide)) (s594.2.2 119 (by decide)) (s594.2.2 120 (by decide)) (stA_cg (s591.2.2 110 (by decide)) (s591.2.2 118 (by decide)) (s591.2.2 119 (by decide)) (s591.2.2 120 (by decide)) (stA_cg (s589.2.2 110 (by decide)) (s589.2.2 118 (by decide)) (s589.2.2 119 (by decide)) (s589.2.2 120 (by decide)) f568)))
                                                            obtain ⟨x594, g594_MF⟩ := p594
                                                            obtain ⟨z597, e597, l597, u597⟩ := x594
                                                            refine lv_iload_n X.1 X.2.1 d_M_request_531 rfl (lv_at hl 2 rfl) ?_
                                                            refine lv_iconst (v := iI 2) X.1 X.2.1 d_M_request_532 (by decide) ?_
                                                            have J600 : ∀  (H : Heap) (locs : List Loc) (ls : Array Slot), (60000 - (900) ≤ z597) → (z597 ≤ 60000) → mH D E (mA E h q sz) s.heap h q I594 J594 B594 G594 H locs → rS [2, 3, 8, 14, 18, 33, 36, 42, 54, 55] [0, 1, 5, 6, 7, 9, 10, 11, 12, 13, 15, 16, 17, 19, 20, 21, 22, 23, 34, 35, 53, 56, 58, 60, 95, 110, 111, 112, 113, 115, 116, 117, 118, 119, 120, 132] I B I594 B594 → lv_has ls 18 [(0, .ref h), (1, .int (iI a1)), (2, .int (iI a2)), (4, .int (iI a4)), (5, .int (iI a5)), (9, .int (iI ((8 * a1) + a3))), (10, .long v446)] → W p l e (mR 8 236) s m AV below meth c H locs 0 0 QQ (F0 m 556 ls []) := by
                                                              intro  H locs ls i598 i599 Y S hl
                                                              refine lv_aload_n X.1 X.2.1 d_M_request_556 rfl (lv_at hl 0 rfl) ?_
                                                              refine lv_iconst (v := iI 0) X.1 X.2.1 d_M_request_557 (by decide) ?_
                                                              refine lv_iload X.1 X.2.1 d_M_request_558 (lv_at hl 3 rfl) ?_
                                                              refine r_nv (m_run (As := [.int (iI 0), .int (iI a4)]) (rest := []) (n := 2) X Y hZ hA hml hl.1 (r_M_flagsField l D E h q H.size I594 J594 B594 G594 0 (by decide) (by decide) a4 (by omega) (by omega) S.1 z597 e597 (by omega) (by omega)) kl_M_flagsField ks_M_flagsField kx_M_flagsField ki_M_flagsField ini_M hd_M_flagsField ⟨Nat.le_of_ble_eq_true rfl, Nat.le_of_ble_eq_true rfl⟩ rfl (Nat.le_of_ble_eq_true rfl) d_M_request_560 ⟨Nat.le_refl _, Nat.le_refl _⟩) X Y hA S (by decide) (by decide) (fun u H locs Y S s604 p604 => ?_)
                                                              obtain ⟨I604, J604, B604, G604⟩ := u
                                                              dsimp only at Y S s604 p604
                                                              have f605 : stT (B604 97) (B604 98) (B604 100) (B604 107) (B604 108) (B604 109) := (stT_cg (s604.2.2 97 (by decide)) (s604.2.2 98 (by decide)) (s604.2.2 100 (by decide)) (s604.2.2 107 (by decide)) (s604.2.2 108 (by decide)) (s604.2.2 109 (by decide)) (stT_cg (s594.2.2 97 (by decide)) (s594.2.2 98 (by decide)) (s594.2.2 100 (by decide)) (s594.2.2 107 (by decide)) (s594.2.2 108 (by decide)) (s594.2.2 109 (by decide)) f592))
                                                              have f606 : zeq (B604 119) (B604 108) (a1).toNat ((8 * a1) + a3).toNat := (zeq_cg (s604.2.2 108 (by decide)) (s604.2.2 119 (by decide)) (zeq_cg (s594.2.2 108 (by decide)) (s594.2.2 119 (by decide)) (zeq_cg (s591.2.2 108 (by decide)) (s591.2.2 119 (by decide)) (zeq_cg (s589.2.2 108 (by decide)) (s589.2.2 119 (by decide)) f572))))
                                                              have f607 : zeq (B604 120) (B604 109) (a1).toNat ((8 * a1) + a3).toNat := (zeq_cg (s604.2.2 109 (by decide)) (s604.2.2 120 (by decide)) (zeq_cg (s594.2.2 109 (by decide)) (s594.2.2 120 (by decide)) (zeq_cg (s591.2.2 109 (by decide)) (s591.2.2 120 (by decide)) (zeq_cg (s589.2.2 109 (by decide)) (s589.2.2 120 (by decide)) f573))))
                                                              obtain ⟨x604, g604_MF⟩ := p604
                                                              obtain ⟨z608, e608, l608, u608⟩ := x604
                                                              refine lv_aload_n X.1 X.2.1 d_M_request_563 rfl (lv_at hl 0 rfl) ?_
                                                              refine lv_bipush (v := iI 48) X.1 X.2.1 d_M_request_564 (by decide) ?_
                                                              refine lv_ldc (v := (60000)) X.1 X.2.1 X.2.2.2.1 (X.2.2.1 _ cn_M_9) d_M_request_566 ?_
                                                              refine t_eq (y := iI 60000) (by decide) ?_
                                                              refine r_nv (m_run (As := [.int (iI 48), .int (iI 60000)]) (rest := []) (n := 2) X Y hZ hA hml hl.1 (r_M_head l D E h q H.size I604 J604 B604 G604 48 (by decide) (by decide) 60000 (by decide) (by decide) S.1 z608 e608 (by omega) (by omega)) kl_M_head ks_M_head kx_M_head ki_M_head ini_M hd_M_head ⟨Nat.le_of_ble_eq_true rfl, Nat.le_of_ble_eq_true rfl⟩ rfl (Nat.le_of_ble_eq_true rfl) d_M_request_568 ⟨Nat.le_refl _, Nat.le_refl _⟩) X Y hA S (by decide) (by decide) (fun u H locs Y S s609 p609 => ?_)
                                                              obtain ⟨I609, J609, B609, G609⟩ := u
                                                              dsimp only at Y S s609 p609
                                                              obtain ⟨x609, g609_MF⟩ := p609
                                                              obtain ⟨z610, e610, l610, u610⟩ := x609
                                                              refine lv_ldc (v := (60000)) X.1 X.2.1 X.2.2.2.1 (X.2.2.1 _ cn_M_9) d_M_request_571 ?_
                                                              refine t_eq (y := iI 60000) (by decide) ?_
                                                              refine lv_aload_n X.1 X.2.1 d_M_request_573 rfl (lv_at hl 0 rfl) ?_
                                                              refine r_get0 X Y (by decide) lk_w0 (gf_w0 _ _ _) rfl e610 d_M_request_574 ?_
                                                              refine z_isub X.1 X.2.1 d_M_request_577 ?_
                                                              refine lv_istore (lv' := [(13, .int (iI (60000 - z610))), (0, .ref h), (1, .int (iI a1)), (2, .int (iI a2)), (4, .int (iI a4)), (5, .int (iI a5)), (9, .int (iI ((8 * a1) + a3))), (10, .long v446)]) X.1 X.2.1 d_M_request_578 hl (by decide) rfl (fun ls hl => ?_)
                                                              refine lv_iconst (v := iI 0) X.1 X.2.1 d_M_request_580 (by decide) ?_
                                                              have J623 : ∀ (n625 : Nat) (z612 : Int) (I611 : Nat → Int32) (J611 : Nat → Int64) (B611 : Nat → Nat → Int32) (G611 : Nat → Nat → Int64) (H : Heap) (locs : List Loc) (ls : Array Slot), (60421 - z612).toNat = n625 → (0 ≤ z612) → (z612 ≤ 60421) → (stA (B611 110) (B611 118) (B611 119) (B611 120)) → (stAX a1 (B611 110) (B611 118) (B611 119) (B611 120)) → (stT (B611 97) (B611 98) (B611 100) (B611 107) (B611 108) (B611 109)) → ((B611 97 ((8 * a1) + a3).toNat).toInt ≠ 0) → (zeq (B611 119) (B611 108) (a1).toNat ((8 * a1) + a3).toNat) → (zeq (B611 120) (B611 109) (a1).toNat ((8 * a1) + a3).toNat) → (I611 54 = iI z102) → (I611 42 = iI z610) → (I611 33 = iI z492) → (I611 2 = iI 0) → mH D E (mA E h q sz) s.heap h q I611 J611 B611 G611 H locs → rS [2, 3, 8, 14, 18, 33, 36, 42, 54, 55] [0, 1, 5, 6, 7, 9, 10, 11, 12, 13, 15, 16, 17, 19, 20, 21, 22, 23, 34, 35, 53, 56, 58, 60, 95, 110, 111, 112, 113, 115, 116, 117, 118, 119, 120, 132] I B I611 B611 → lv_has ls 18 [(0, .ref h), (1, .int (iI a1)), (2, .int (iI a2)), (5, .int (iI a5)), (9, .int (iI ((8 * a1) + a3))), (10, .long v446), (13, .int (iI (60000 - z610))), (14, .int (iI z612))] → W p l e (mR 8 236) s m AV below meth c H locs 0 0 QQ (F0 m 583 ls []) := by
                                                                intro n625
                                                                induction n625 using Nat.strongRecOn with
                                                                | ind n625 ih624 =>
                                                                  intro z612 I611 J611 B611 G611 H locs ls hm626 l612 u612 f613 f614 f615 f616 f617 f618 e619 e620 e621 e622 Y S hl
                                                                  refine lv_iload X.1 X.2.1 d_M_request_583 (lv_at hl 7 rfl) ?_
                                                                  refine lv_iload X.1 X.2.1 d_M_request_585 (lv_at hl 6 rfl) ?_
                                                                  refine z_icmp_ge (tgt := 619) X.1 X.2.1 d_M_request_587 (by decide) ⟨by omega, by omega⟩ ⟨by omega, by omega⟩ (fun h627 => ?_) (fun h627 => ?_)
                                                                  · refine lv_iload X.1 X.2.1 d_M_request_619 (lv_at hl 3 rfl) ?_
                                                                    refine p_calli (As := [.int (iI a5)]) (rest := []) (n := 1) X Y hml hl.1 (r_M_firstType l a5 (by omega) (by omega)) kl_M_firstType ks_M_firstType ki_M_firstType ini_M hd_M_firstType ⟨Nat.le_of_ble_eq_true rfl, Nat.le_of_ble_eq_true rfl⟩ rfl (Nat.le_of_ble_eq_true rfl) d_M_request_621 ⟨Nat.le_refl _, Nat.le_refl _⟩ (fun r628 H locs p628 Y => ?_)
                                                                    obtain ⟨z628, e628, p628⟩ := p628
                                                                    subst e628
                                                                    obtain ⟨l628, u628⟩ := p628
                                                                    refine lv_istore (lv' := [(14, .int (iI z628)), (0, .ref h), (1, .int (iI a1)), (2, .int (iI a2)), (5, .int (iI a5)), (9, .int (iI ((8 * a1) + a3))), (10, .long v446), (13, .int (iI (60000 - z610)))]) X.1 X.2.1 d_M_request_624 hl (by decide) rfl (fun ls hl => ?_)
                                                                    refine lv_iconst (v := iI 0) X.1 X.2.1 d_M_request_626 (by decide) ?_
                                                                    refine lv_istore (lv' := [(15, .int (iI 0)), (14, .int (iI z628)), (0, .ref h), (1, .int (iI a1)), (2, .int (iI a2)), (5, .int (iI a5)), (9, .int (iI ((8 * a1) + a3))), (10, .long v446), (13, .int (iI (60000 - z610)))]) X.1 X.2.1 d_M_request_627 hl (by decide) rfl (fun ls hl => ?_)
                                                                    refine lv_iload_n X.1 X.2.1 d_M_request_629 rfl (lv_at hl 4 rfl) ?_
                                                                    refine lv_iconst (v := iI 1) X.1 X.2.1 d_M_request_630 (by decide) ?_
                                                                    have J643 : ∀ (z630 : Int) (z639 : Int) (I629 : Nat → Int32) (J629 : Nat → Int64) (B629 : Nat → Nat → Int32) (G629 : Nat → Nat → Int64) (H : Heap) (locs : List Loc) (ls : Array Slot), (0 ≤ z630) → (z630 ≤ 20000) → (stA (B629 110) (B629 118) (B629 119) (B629 120)) → (stAX a1 (B629 110) (B629 118) (B629 119) (B629 120)) → (stT (B629 97) (B629 98) (B629 100) (B629 107) (B629 108) (B629 109)) → ((B629 97 ((8 * a1) + a3).toNat).toInt ≠ 0) → (zeq (B629 119) (B629 108) (a1).toNat ((8 * a1) + a3).toNat) → (zeq (B629 120) (B629 109) (a1).toNat ((8 * a1) + a3).toNat) → (I629 54 = iI z102) → (I629 2 = iI 0) → (I629 33 = iI z639) → (0 ≤ z639) → (z639 ≤ 1901000) → (cn ≤ z639 ∧ z639 ≤ cn + 100) → (z630 ≤ 6000) → (0 ≤ z630) → mH D E (mA E h q sz) s.heap h q I629 J629 B629 G629 H locs → rS [2, 3, 8, 14, 18, 33, 36, 42, 54, 55] [0, 1, 5, 6, 7, 9, 10, 11, 12, 13, 15, 16, 17, 19, 20, 21, 22, 23, 34, 35, 53, 56, 58, 60, 95, 110, 111, 112, 113, 115, 116, 117, 118, 119, 120, 132] I B I629 B629 → lv_has ls 18 [(0, .ref h), (2, .int (iI a2)), (13, .int (iI (60000 - z610))), (15, .int (iI z630))] → W p l e (mR 8 236) s m AV below meth c H locs 0 0 QQ (F0 m 934 ls []) := by
                                                                      intro z630 z639 I629 J629 B629 G629 H locs ls l630 u630 f631 f632 f633 f634 f635 f636 e637 e638 e639 l639 u639 i640 i641 i642 Y S hl
                                                                      refine lv_aload_n X.1 X.2.1 d_M_request_934 rfl (lv_at hl 0 rfl) ?_
                                                                      refine r_nv (m_run (As := []) (rest := []) (n := 0) X Y hZ hA hml hl.1 (r_M_start l D E h q H.size I629 J629 B629 G629 S.1) kl_M_start ks_M_start kx_M_start ki_M_start ini_M hd_M_start ⟨Nat.le_of_ble_eq_true rfl, Nat.le_of_ble_eq_true rfl⟩ rfl (Nat.le_of_ble_eq_true rfl) d_M_request_935 ⟨Nat.le_refl _, Nat.le_refl _⟩) X Y hA S (by decide) (by decide) (fun u H locs Y S s647 p647 => ?_)
                                                                      obtain ⟨I647, J647, B647, G647⟩ := u
                                                                      dsimp only at Y S s647 p647
                                                                      have b647 : B629 = B647 := (funext (fun j => s647.2.2 j (by simp))).symm
                                                                      subst b647
                                                                      have x647 := p647
                                                                      refine lv_aload_n X.1 X.2.1 d_M_request_938 rfl (lv_at hl 0 rfl) ?_
                                                                      refine lv_iconst (v := iI 4) X.1 X.2.1 d_M_request_939 (by decide) ?_
                                                                      refine lv_sipush (v := iI 22200) X.1 X.2.1 d_M_request_940 (by decide) ?_
                                                                      refine lv_sipush (v := iI 22200) X.1 X.2.1 d_M_request_943 (by decide) ?_
                                                                      refine lv_iload X.1 X.2.1 d_M_request_946 (lv_at hl 2 rfl) ?_
                                                                      refine z_iadd X.1 X.2.1 d_M_request_948 ?_
                                                                      refine r_nv (m_run (As := [.int (iI 4), .int (iI 22200), .int (iI (22200 + (60000 - z610)))]) (rest := []) (n := 3) X Y hZ hA hml hl.1 (r_M_copyField l D E h q H.size I647 J647 B629 G647 4 (by decide) (by decide) 22200 (by decide) (by decide) (22200 + (60000 - z610)) (by omega) (by omega) S.1 60000 (x647.trans (congrArg iI (show (60000 : Int) = 60000 by omega))) (by omega) (by omega) (by omega) (by omega) (by omega) (by omega)) kl_M_copyField ks_M_copyField kx_M_copyField ki_M_copyField ini_M hd_M_copyField ⟨Nat.le_of_ble_eq_true rfl, Nat.le_of_ble_eq_true rfl⟩ rfl (Nat.le_of_ble_eq_true rfl) d_M_request_949 ⟨Nat.le_refl _, Nat.le_refl _⟩) X Y hA S (by decide) (by decide) (fun u H locs Y S s648 p648 => ?_)
                                                                      obtain ⟨I648, J648, B648, G648⟩ := u
                                                                      dsimp only at Y S s648 p648
                                                                      obtain ⟨x648, g648_MF⟩ := p648
                                                                      obtain ⟨z649, e649, l649, u649⟩ := x648
                                                                      refine lv_iload_n X.1 X.2.1 d_M_request_952 rfl (lv_at hl 1 rfl) ?_
                                                                      have J663 : ∀ (z660 : Int) (I650 : Nat → Int32) (J650 : Nat → Int64) (B650 : Nat → Nat → Int32) (G650 : Nat → Nat → Int64) (H : Heap) (locs : List Loc) (ls : Array Slot), (stA (B650 110) (B650 118) (B650 119) (B650 120)) → (stAX a1 (B650 110) (B650 118) (B650 119) (B650 120)) → (stT (B650 97) (B650 98) (B650 100) (B650 107) (B650 108) (B650 109)) → ((B650 97 ((8 * a1) + a3).toNat).toInt ≠ 0) → (zeq (B650 119) (B650 108) (a1).toNat ((8 * a1) + a3).toNat) → (zeq (B650 120) (B650 109) (a1).toNat ((8 * a1) + a3).toNat) → (I650 54 = iI z102) → (I650 33 = iI z639) → (I650 2 = iI 0) → (I650 42 = iI z660) → (0 ≤ z660) → (z660 ≤ 60000) → (60000 - (1200 + 8000) ≤ z660) → (z660 ≤ 60000) → mH D E (mA E h q sz) s.heap h q I650 J650 B650 G650 H locs → rS [2, 3, 8, 14, 18, 33, 36, 42, 54, 55] [0, 1, 5, 6, 7, 9, 10, 11, 12, 13, 15, 16, 17, 19, 20, 21, 22, 23, 34, 35, 53, 56, 58, 60, 95, 110, 111, 112, 113, 115, 116, 117, 118, 119, 120, 132] I B I650 B650 → lv_has ls 18 [(0, .ref h), (2, .int (iI a2))] → W p l e (mR 8 236) s m AV below meth c H locs 0 0 QQ (F0 m 1035 ls []) := by
                                                                        intro z660 I650 J650 B650 G650 H locs ls f651 f652 f653 f654 f655 f656 e657 e658 e659 e660 l660 u660 i661 i662 Y S hl
                                                                        refine lv_aload_n X.1 X.2.1 d_M_request_1035 rfl (lv_at hl 0 rfl) ?_
                                                                        refine lv_iconst (v := iI 2) X.1 X.2.1 d_M_request_1036 (by decide) ?_
                                                                        refine lv_iload_n X.1 X.2.1 d_M_request_1037 rfl (lv_at hl 1 rfl) ?_
                                                                        refine lv_iconst (v := iI 2) X.1 X.2.1 d_M_request_1038 (by decide) ?_
                                                                        have J668 : ∀ (v667 : Int64) (H : Heap) (locs : List Loc) (ls : Array Slot), mH D E (mA E h q sz) s.heap h q I650 J650 B650 G650 H locs → rS [2, 3, 8, 14, 18, 33, 36, 42, 54, 55] [0, 1, 5, 6, 7, 9, 10, 11, 12, 13, 15, 16, 17, 19, 20, 21, 22, 23, 34, 35, 53, 56, 58, 60, 95, 110, 111, 112, 113, 115, 116, 117, 118, 119, 120, 132] I B I650 B650 → lv_has ls 18 [(0, .ref h), (2, .int (iI a2))] → W p l e (mR 8 236) s m AV below meth c H locs 0 0 QQ (F0 m 1051 ls [.long v667, .int (iI 2), .ref h]) := by
                                                                          intro v667 H locs ls  Y S hl
                                                                          refine r_nv (m_run (As := [.int (iI 2), .long v667]) (rest := []) (n := 2) X Y hZ hA hml hl.1 (r_M_numberField l D E h q H.size I650 J650 B650 G650 2 (by decide) (by decide) v667 S.1 z660 e660 (by omega) (by omega)) kl_M_numberField ks_M_numberField kx_M_numberField ki_M_numberField ini_M hd_M_numberField ⟨Nat.le_of_ble_eq_true rfl, Nat.le_of_ble_eq_true rfl⟩ rfl (Nat.le_of_ble_eq_true rfl) d_M_request_1051 ⟨Nat.le_refl _, Nat.le_refl _⟩) X Y hA S (by decide) (by decide) (fun u H locs Y S s672 p672 => ?_)
                                                                          obtain ⟨I672, J672, B672, G672⟩ := u
                                                                          dsimp only at Y S s672 p672
                                                                          obtain ⟨x672, g672_MF⟩ := p672
                                                                          obtain ⟨z673, e673, l673, u673⟩ := x672
                                                                          refine lv_aload_n X.1 X.2.1 d_M_request_1054 rfl (lv_at hl 0 rfl) ?_
                                                                          refine lv_iconst (v := iI 1) X.1 X.2.1 d_M_request_1055 (by decide) ?_
                                                                          refine lv_ldc2 (v := (5)) X.1 X.2.1 X.2.2.2.1 (X.2.2.1 _ cl_M_669) d_M_request_1056 ?_
                                                                          refine r_nv (m_run (As := [.int (iI 1), .long ((5))]) (rest := []) (n := 2) X Y hZ hA hml hl.1 (r_M_numberField l D E h q H.size I672 J672 B672 G672 1 (by decide) (by decide) ((5)) S.1 z673 e673 (by omega) (by omega)) kl_M_numberField ks_M_numberField kx_M_numberField ki_M_numberField ini_M hd_M_numberField ⟨Nat.le_of_ble_eq_true rfl, Nat.le_of_ble_eq_true rfl⟩ rfl (Nat.le_of_ble_eq_true rfl) d_M_request_1059 ⟨Nat.le_refl _, Nat.le_refl _⟩) X Y hA S (by decide) (by decide) (fun u H locs Y S s674 p674 => ?_)
                                                                          obtain ⟨I674, J674, B674, G674⟩ := u
                                                                          dsimp only at Y S s674 p674
                                                                          have f675 : stT (B674 97) (B674 98) (B674 100) (B674 107) (B674 108) (B674 109) := (stT_cg (s674.2.2 97 (by decide)) (s674.2.2 98 (by decide)) (s674.2.2 100 (by decide)) (s674.2.2 107 (by decide)) (s674.2.2 108 (by decide)) (s674.2.2 109 (by decide)) (stT_cg (s672.2.2 97 (by decide)) (s672.2.2 98 (by decide)) (s672.2.2 100 (by decide)) (s672.2.2 107 (by decide)) (s672.2.2 108 (by decide)) (s672.2.2 109 (by decide)) f653))
                                                                          obtain ⟨x674, g674_MF⟩ := p674
                                                                          obtain ⟨z676, e676, l676, u676⟩ := x674
                                                                          refine lv_aload_n X.1 X.2.1 d_M_request_1062 rfl (lv_at hl 0 rfl) ?_
                                                                          refine lv_bipush (v := iI 48) X.1 X.2.1 d_M_request_1063 (by decide) ?_
                                                                          refine lv_ldc (v := (60000)) X.1 X.2.1 X.2.2.2.1 (X.2.2.1 _ cn_M_9) d_M_request_1065 ?_
                                                                          refine t_eq (y := iI 60000) (by decide) ?_
                                                                          refine r_nv (m_run (As := [.int (iI 48), .int (iI 60000)]) (rest := []) (n := 2) X Y hZ hA hml hl.1 (r_M_head l D E h q H.size I674 J674 B674 G674 48 (by decide) (by decide) 60000 (by decide) (by decide) S.1 z676 e676 (by omega) (by omega)) kl_M_head ks_M_head kx_M_head ki_M_head ini_M hd_M_head ⟨Nat.le_of_ble_eq_true rfl, Nat.le_of_ble_eq_true rfl⟩ rfl (Nat.le_of_ble_eq_true rfl) d_M_request_1067 ⟨Nat.le_refl _, Nat.le_refl _⟩) X Y hA S (by decide) (by decide) (fun u H locs Y S s677 p677 => ?_)
                                                                          obtain ⟨I677, J677, B677, G677⟩ := u
                                                                          dsimp only at Y S s677 p677
                                                                          have f678 : stAX a1 (B677 110) (B677 118) (B677 119) (B677 120) := (stAX_cg (s677.2.2 110 (by decide)) (s677.2.2 118 (by decide)) (s677.2.2 119 (by decide)) (s677.2.2 120 (by decide)) (stAX_cg (s674.2.2 110 (by decide)) (s674.2.2 118 (by decide)) (s674.2.2 119 (by decide)) (s674.2.2 120 (by decide)) (stAX_cg (s672.2.2 110 (by decide)) (s672.2.2 118 (by decide)) (s672.2.2 119 (by decide)) (s672.2.2 120 (by decide)) f652)))
                                                                          have f679 : stA (B677 110) (B677 118) (B677 119) (B677 120) := (stA_cg (s677.2.2 110 (by decide)) (s677.2.2 118 (by decide)) (s677.2.2 119 (by decide)) (s677.2.2 120 (by decide)) (stA_cg (s674.2.2 110 (by decide)) (s674.2.2 118 (by decide)) (s674.2.2 119 (by decide)) (s674.2.2 120 (by decide)) (stA_cg (s672.2.2 110 (by decide)) (s672.2.2 118 (by decide)) (s672.2.2 119 (by decide)) (s672.2.2 120 (by decide)) f651)))
                                                                          obtain ⟨x677, g677_MF⟩ := p677
                                                                          obtain ⟨z680, e680, l680, u680⟩ := x677
                                                                          refine lv_aload_n X.1 X.2.1 d_M_request_1070 rfl (lv_at hl 0 rfl) ?_
                                                                          refine lv_iload_n X.1 X.2.1 d_M_request_1071 rfl (lv_at hl 1 rfl) ?_
                                                                          refine lv_iconst (v := iI 2) X.1 X.2.1 d_M_request_1072 (by decide) ?_
                                                                          have J682 : ∀ (z681 : Int) (H : Heap) (locs : List Loc) (ls : Array Slot), (108 ≤ z681) → (z681 ≤ 108) → mH D E (mA E h q sz) s.heap h q I677 J677 B677 G677 H locs → rS [2, 3, 8, 14, 18, 33, 36, 42, 54, 55] [0, 1, 5, 6, 7, 9, 10, 11, 12, 13, 15, 16, 17, 19, 20, 21, 22, 23, 34, 35, 53, 56, 58, 60, 95, 110, 111, 112, 113, 115, 116, 117, 118, 119, 120, 132] I B I677 B677 → lv_has ls 18 [(0, .ref h)] → W p l e (mR 8 236) s m AV below meth c H locs 0 0 QQ (F0 m 1083 ls [.int (iI z681), .ref h]) := by
                                                                            intro z681 H locs ls l681 u681 Y S hl
                                                                            refine lv_ldc (v := (60000)) X.1 X.2.1 X.2.2.2.1 (X.2.2.1 _ cn_M_9) d_M_request_1083 ?_
                                                                            refine t_eq (y := iI 60000) (by decide) ?_
                                                                            refine r_nv (m_run (As := [.int (iI z681), .int (iI 60000)]) (rest := []) (n := 2) X Y hZ hA hml hl.1 (r_M_head l D E h q H.size I677 J677 B677 G677 z681 (by omega) (by omega) 60000 (by decide) (by decide) S.1 z680 e680 (by omega) (by omega)) kl_M_head ks_M_head kx_M_head ki_M_head ini_M hd_M_head ⟨Nat.le_of_ble_eq_true rfl, Nat.le_of_ble_eq_true rfl⟩ rfl (Nat.le_of_ble_eq_true rfl) d_M_request_1085 ⟨Nat.le_refl _, Nat.le_refl _⟩) X Y hA S (by decide) (by decide) (fun u H locs Y S s686 p686 => ?_)
                                                                            obtain ⟨I686, J686, B686, G686⟩ := u
                                                                            dsimp only at Y S s686 p686
                                                                            have f687 : stT (B686 97) (B686 98) (B686 100) (B686 107) (B686 108) (B686 109) := (stT_cg (s686.2.2 97 (by decide)) (s686.2.2 98 (by decide)) (s686.2.2 100 (by decide)) (s686.2.2 107 (by decide)) (s686.2.2 108 (by decide)) (s686.2.2 109 (by decide)) (stT_cg (s677.2.2 97 (by decide)) (s677.2.2 98 (by decide)) (s677.2.2 100 (by decide)) (s677.2.2 107 (by decide)) (s677.2.2 108 (by decide)) (s677.2.2 109 (by decide)) f675))
                                                                            have f688 : zeq (B686 119) (B686 108) (a1).toNat ((8 * a1) + a3).toNat := (zeq_cg (s686.2.2 108 (by decide)) (s686.2.2 119 (by decide)) (zeq_cg (s677.2.2 108 (by decide)) (s677.2.2 119 (by decide)) (zeq_cg (s674.2.2 108 (by decide)) (s674.2.2 119 (by decide)) (zeq_cg (s672.2.2 108 (by decide)) (s672.2.2 119 (by decide)) f655))))
                                                                            have f689 : zeq (B686 120) (B686 109) (a1).toNat ((8 * a1) + a3).toNat := (zeq_cg (s686.2.2 109 (by decide)) (s686.2.2 120 (by decide)) (zeq_cg (s677.2.2 109 (by decide)) (s677.2.2 120 (by decide)) (zeq_cg (s674.2.2 109 (by decide)) (s674.2.2 120 (by decide)) (zeq_cg (s672.2.2 109 (by decide)) (s672.2.2 120 (by decide)) f656))))
                                                                            obtain ⟨x686, g686_MF⟩ := p686
                                                                            obtain ⟨z690, e690, l690, u690⟩ := x686
                                                                            refine lv_aload_n X.1 X.2.1 d_M_request_1088 rfl (lv_at hl 0 rfl) ?_
                                                                            refine r_nv (m_run (As := []) (rest := []) (n := 0) X Y hZ hA hml hl.1 (r_M_written l D E h q H.size I686 J686 B686 G686 S.1 z690 e690 (by omega) (by omega)) kl_M_written ks_M_written kx_M_written ki_M_written ini_M hd_M_written ⟨Nat.le_of_ble_eq_true rfl, Nat.le_of_ble_eq_true rfl⟩ rfl (Nat.le_of_ble_eq_true rfl) d_M_request_1089 ⟨Nat.le_refl _, Nat.le_refl _⟩) X Y hA S (by decide) (by decide) (fun u H locs Y S s691 p691 => ?_)
                                                                            obtain ⟨I691, J691, B691, G691⟩ := u
                                                                            dsimp only at Y S s691 p691
                                                                            have g691_MF := p691
                                                                            refine lv_aload_n X.1 X.2.1 d_M_request_1092 rfl (lv_at hl 0 rfl) ?_
                                                                            refine r_geti (k := 3) X Y S (by decide) lk_outMany (gf_outMany _ _ _) rfl rfl d_M_request_1093 (fun z692 e692 l692 u692 => ?_)
                                                                            exact m_reti hQQ X Y hr hlk ⟨S, z692, rfl, ⟨by omega, by omega, ⟨z639, ((s691.2.1 33 (by decide)).trans ((s686.2.1 33 (by decide)).trans ((s677.2.1 33 (by decide)).trans ((s674.2.1 33 (by decide)).trans ((s672.2.1 33 (by decide)).trans e658))))), by omega, by omega⟩, (stT_cg (s691.2.2 97 (by decide)) (s691.2.2 98 (by decide)) (s691.2.2 100 (by decide)) (s691.2.2 107 (by decide)) (s691.2.2 108 (by decide)) (s691.2.2 109 (by decide)) f687), (stA_cg (s691.2.2 110 (by decide)) (s691.2.2 118 (by decide)) (s691.2.2 119 (by decide)) (s691.2.2 120 (by decide)) (stA_cg (s686.2.2 110 (by decide)) (s686.2.2 118 (by decide)) (s686.2.2 119 (by decide)) (s686.2.2 120 (by decide)) f679))⟩⟩ d_M_request_1096
                                                                          refine z_icmp_ne (tgt := 1081) X.1 X.2.1 d_M_request_1073 (by decide) ⟨by omega, by omega⟩ ⟨by decide, by decide⟩ (fun h693 => False.elim (by omega)) (fun h693 => ?_)
                                                                          · refine lv_bipush (v := iI 108) X.1 X.2.1 d_M_request_1076 (by decide) ?_
                                                                            refine lv_goto (tgt := 1083) X.1 X.2.1 d_M_request_1078 (by decide) ?_
                                                                            exact J682 108 _ _ _ (by omega) (by omega) Y S (lv_sub hl [0] rfl)
                                                                        refine z_icmp_ne (tgt := 1048) X.1 X.2.1 d_M_request_1039 (by decide) ⟨by omega, by omega⟩ ⟨by decide, by decide⟩ (fun h694 => False.elim (by omega)) (fun h694 => ?_)
                                                                        · refine lv_ldc2 (v := (12)) X.1 X.2.1 X.2.2.2.1 (X.2.2.1 _ cl_M_673) d_M_request_1042 ?_
                                                                          refine lv_goto (tgt := 1051) X.1 X.2.1 d_M_request_1045 (by decide) ?_
                                                                          exact J668 ((12)) _ _ _  Y S (lv_sub hl [0, 1] rfl)
                                                                      refine z_if_le (tgt := 1035) X.1 X.2.1 d_M_request_953 (by decide) ⟨by omega, by omega⟩ (fun h695 => False.elim (by omega)) (fun h695 => ?_)
                                                                      · refine lv_aload_n X.1 X.2.1 d_M_request_956 rfl (lv_at hl 0 rfl) ?_
                                                                        refine r_get0 X Y (by decide) lk_w0 (gf_w0 _ _ _) rfl e649 d_M_request_957 ?_
                                                                        refine lv_istore (lv' := [(16, .int (iI z649)), (0, .ref h), (2, .int (iI a2)), (13, .int (iI (60000 - z610))), (15, .int (iI z630))]) X.1 X.2.1 d_M_request_960 hl (by decide) rfl (fun ls hl => ?_)
                                                                        refine lv_aload_n X.1 X.2.1 d_M_request_962 rfl (lv_at hl 1 rfl) ?_
                                                                        refine r_get0 X Y (by decide) lk_w0 (gf_w0 _ _ _) rfl e649 d_M_request_963 ?_
                                                                        refine lv_istore (lv' := [(17, .int (iI z649)), (16, .int (iI z649)), (0, .ref h), (2, .int (iI a2)), (13, .int (iI (60000 - z610))), (15, .int (iI z630))]) X.1 X.2.1 d_M_request_966 hl (by decide) rfl (fun ls hl => ?_)
                                                                        refine lv_aload_n X.1 X.2.1 d_M_request_968 rfl (lv_at hl 2 rfl) ?_
                                                                        refine lv_aload_n X.1 X.2.1 d_M_request_969 rfl (lv_at hl 2 rfl) ?_
                                                                        refine m_get X Y 0 (by decide) lk_mem (gf_mem _ _ _) rfl d_M_request_970 ?_
                                                                        refine lv_sipush (v := iI 13200) X.1 X.2.1 d_M_request_973 (by decide) ?_
                                                                        refine lv_iload X.1 X.2.1 d_M_request_976 (lv_at hl 5 rfl) ?_
                                                                        refine r_nv (m_run (As := [.ref ((q 0)), .int (iI 13200), .int (iI z630)]) (rest := []) (n := 3) X Y hZ hA hml hl.1 (r_M_putBytes_mem l D E h q H.size I648 J648 B648 G648 13200 (by decide) (by decide) z630 (by omega) (by omega) S.1 z649 e649 (by omega) (by omega) (by omega) (by omega) (by omega)) kl_M_putBytes ks_M_putBytes kx_M_putBytes ki_M_putBytes ini_M hd_M_putBytes ⟨Nat.le_of_ble_eq_true rfl, Nat.le_of_ble_eq_true rfl⟩ rfl (Nat.le_of_ble_eq_true rfl) d_M_request_978 ⟨Nat.le_refl _, Nat.le_refl _⟩) X Y hA S (by decide) (by decide) (fun u H locs Y S s696 p696 => ?_)
                                                                        obtain ⟨I696, J696, B696, G696⟩ := u
                                                                        dsimp only at Y S s696 p696
                                                                        have f697 : stT (B696 97) (B696 98) (B696 100) (B696 107) (B696 108) (B696 109) := (stT_cg (s696.2.2 97 (by decide)) (s696.2.2 98 (by decide)) (s696.2.2 100 (by decide)) (s696.2.2 107 (by decide)) (s696.2.2 108 (by decide)) (s696.2.2 109 (by decide)) (stT_cg (s648.2.2 97 (by decide)) (s648.2.2 98 (by decide)) (s648.2.2 100 (by decide)) (s648.2.2 107 (by decide)) (s648.2.2 108 (by decide)) (s648.2.2 109 (by decide)) (stT_cg rfl rfl rfl rfl rfl rfl f633)))
                                                                        have f698 : stAX a1 (B696 110) (B696 118) (B696 119) (B696 120) := (stAX_cg (s696.2.2 110 (by decide)) (s696.2.2 118 (by decide)) (s696.2.2 119 (by decide)) (s696.2.2 120 (by decide)) (stAX_cg (s648.2.2 110 (by decide)) (s648.2.2 118 (by decide)) (s648.2.2 119 (by decide)) (s648.2.2 120 (by decide)) (stAX_cg rfl rfl rfl rfl f632)))
                                                                        have f699 : stA (B696 110) (B696 118) (B696 119) (B696 120) := (stA_cg (s696.2.2 110 (by decide)) (s696.2.2 118 (by decide)) (s696.2.2 119 (by decide)) (s696.2.2 120 (by decide)) (stA_cg (s648.2.2 110 (by decide)) (s648.2.2 118 (by decide)) (s648.2.2 119 (by decide)) (s648.2.2 120 (by decide)) (stA_cg rfl rfl rfl rfl f631)))
                                                                        obtain ⟨x696, g696_MF⟩ := p696
                                                                        obtain ⟨z700, e700, l700, u700⟩ := x696
                                                                        refine lv_aload_n X.1 X.2.1 d_M_request_981 rfl (lv_at hl 2 rfl) ?_
                                                                        refine lv_iconst (v := iI 4) X.1 X.2.1 d_M_request_982 (by decide) ?_
                                                                        refine lv_iload X.1 X.2.1 d_M_request_983 (lv_at hl 0 rfl) ?_
                                                                        refine r_nv (m_run (As := [.int (iI 4), .int (iI z649)]) (rest := []) (n := 2) X Y hZ hA hml hl.1 (r_M_head l D E h q H.size I696 J696 B696 G696 4 (by decide) (by decide) z649 (by omega) (by omega) S.1 z700 e700 (by omega) (by omega)) kl_M_head ks_M_head kx_M_head ki_M_head ini_M hd_M_head ⟨Nat.le_of_ble_eq_true rfl, Nat.le_of_ble_eq_true rfl⟩ rfl (Nat.le_of_ble_eq_true rfl) d_M_request_985 ⟨Nat.le_refl _, Nat.le_refl _⟩) X Y hA S (by decide) (by decide) (fun u H locs Y S s701 p701 => ?_)
                                                                        obtain ⟨I701, J701, B701, G701⟩ := u
                                                                        dsimp only at Y S s701 p701
                                                                        obtain ⟨x701, g701_MF⟩ := p701
                                                                        obtain ⟨z702, e702, l702, u702⟩ := x701
                                                                        refine lv_aload_n X.1 X.2.1 d_M_request_988 rfl (lv_at hl 2 rfl) ?_
                                                                        refine lv_iconst (v := iI 2) X.1 X.2.1 d_M_request_989 (by decide) ?_
                                                                        refine lv_iload X.1 X.2.1 d_M_request_990 (lv_at hl 0 rfl) ?_
                                                                        refine r_nv (m_run (As := [.int (iI 2), .int (iI z649)]) (rest := []) (n := 2) X Y hZ hA hml hl.1 (r_M_field l D E h q H.size I701 J701 B701 G701 2 (by decide) (by decide) z649 (by omega) (by omega) S.1 z702 e702 (by omega) (by omega)) kl_M_field ks_M_field kx_M_field ki_M_field ini_M hd_M_field ⟨Nat.le_of_ble_eq_true rfl, Nat.le_of_ble_eq_true rfl⟩ rfl (Nat.le_of_ble_eq_true rfl) d_M_request_992 ⟨Nat.le_refl _, Nat.le_refl _⟩) X Y hA S (by decide) (by decide) (fun u H locs Y S s703 p703 => ?_)
                                                                        obtain ⟨I703, J703, B703, G703⟩ := u
                                                                        dsimp only at Y S s703 p703
                                                                        have f704 : stT (B703 97) (B703 98) (B703 100) (B703 107) (B703 108) (B703 109) := (stT_cg (s703.2.2 97 (by decide)) (s703.2.2 98 (by decide)) (s703.2.2 100 (by decide)) (s703.2.2 107 (by decide)) (s703.2.2 108 (by decide)) (s703.2.2 109 (by decide)) (stT_cg (s701.2.2 97 (by decide)) (s701.2.2 98 (by decide)) (s701.2.2 100 (by decide)) (s701.2.2 107 (by decide)) (s701.2.2 108 (by decide)) (s701.2.2 109 (by decide)) f697))
                                                                        have f705 : zeq (B703 119) (B703 108) (a1).toNat ((8 * a1) + a3).toNat := (zeq_cg (s703.2.2 108 (by decide)) (s703.2.2 119 (by decide)) (zeq_cg (s701.2.2 108 (by decide)) (s701.2.2 119 (by decide)) (zeq_cg (s696.2.2 108 (by decide)) (s696.2.2 119 (by decide)) (zeq_cg (s648.2.2 108 (by decide)) (s648.2.2 119 (by decide)) (zeq_cg rfl rfl f635)))))
                                                                        have f706 : zeq (B703 120) (B703 109) (a1).toNat ((8 * a1) + a3).toNat := (zeq_cg (s703.2.2 109 (by decide)) (s703.2.2 120 (by decide)) (zeq_cg (s701.2.2 109 (by decide)) (s701.2.2 120 (by decide)) (zeq_cg (s696.2.2 109 (by decide)) (s696.2.2 120 (by decide)) (zeq_cg (s648.2.2 109 (by decide)) (s648.2.2 120 (by decide)) (zeq_cg rfl rfl f636)))))
                                                                        obtain ⟨x703, g703_MF⟩ := p703
                                                                        obtain ⟨z707, e707, l707, u707⟩ := x703
                                                                        refine lv_aload_n X.1 X.2.1 d_M_request_995 rfl (lv_at hl 2 rfl) ?_
                                                                        refine lv_iconst (v := iI 1) X.1 X.2.1 d_M_request_996 (by decide) ?_
                                                                        refine lv_iload_n X.1 X.2.1 d_M_request_997 rfl (lv_at hl 3 rfl) ?_
                                                                        refine lv_iconst (v := iI 1) X.1 X.2.1 d_M_request_998 (by decide) ?_
                                                                        have J709 : ∀ (v708 : Int64) (H : Heap) (locs : List Loc) (ls : Array Slot), mH D E (mA E h q sz) s.heap h q I703 J703 B703 G703 H locs → rS [2, 3, 8, 14, 18, 33, 36, 42, 54, 55] [0, 1, 5, 6, 7, 9, 10, 11, 12, 13, 15, 16, 17, 19, 20, 21, 22, 23, 34, 35, 53, 56, 58, 60, 95, 110, 111, 112, 113, 115, 116, 117, 118, 119, 120, 132] I B I703 B703 → lv_has ls 18 [(0, .ref h), (2, .int (iI a2)), (16, .int (iI z649))] → W p l e (mR 8 236) s m AV below meth c H locs 0 0 QQ (F0 m 1009 ls [.long v708, .int (iI 1), .ref h]) := by
                                                                          intro v708 H locs ls  Y S hl
                                                                          refine r_nv (m_run (As := [.int (iI 1), .long v708]) (rest := []) (n := 2) X Y hZ hA hml hl.1 (r_M_numberField l D E h q H.size I703 J703 B703 G703 1 (by decide) (by decide) v708 S.1 z707 e707 (by omega) (by omega)) kl_M_numberField ks_M_numberField kx_M_numberField ki_M_numberField ini_M hd_M_numberField ⟨Nat.le_of_ble_eq_true rfl, Nat.le_of_ble_eq_true rfl⟩ rfl (Nat.le_of_ble_eq_true rfl) d_M_request_1009 ⟨Nat.le_refl _, Nat.le_refl _⟩) X Y hA S (by decide) (by decide) (fun u H locs Y S s713 p713 => ?_)
                                                                          obtain ⟨I713, J713, B713, G713⟩ := u
                                                                          dsimp only at Y S s713 p713
                                                                          have f714 : stAX a1 (B713 110) (B713 118) (B713 119) (B713 120) := (stAX_cg (s713.2.2 110 (by decide)) (s713.2.2 118 (by decide)) (s713.2.2 119 (by decide)) (s713.2.2 120 (by decide)) (stAX_cg (s703.2.2 110 (by decide)) (s703.2.2 118 (by decide)) (s703.2.2 119 (by decide)) (s703.2.2 120 (by decide)) (stAX_cg (s701.2.2 110 (by decide)) (s701.2.2 118 (by decide)) (s701.2.2 119 (by decide)) (s701.2.2 120 (by decide)) f698)))
                                                                          have f715 : stA (B713 110) (B713 118) (B713 119) (B713 120) := (stA_cg (s713.2.2 110 (by decide)) (s713.2.2 118 (by decide)) (s713.2.2 119 (by decide)) (s713.2.2 120 (by decide)) (stA_cg (s703.2.2 110 (by decide)) (s703.2.2 118 (by decide)) (s703.2.2 119 (by decide)) (s703.2.2 120 (by decide)) (stA_cg (s701.2.2 110 (by decide)) (s701.2.2 118 (by decide)) (s701.2.2 119 (by decide)) (s701.2.2 120 (by decide)) f699)))
                                                                          obtain ⟨x713, g713_MF⟩ := p713
                                                                          obtain ⟨z716, e716, l716, u716⟩ := x713
                                                                          refine lv_aload_n X.1 X.2.1 d_M_request_1012 rfl (lv_at hl 0 rfl) ?_
                                                                          refine lv_bipush (v := iI 48) X.1 X.2.1 d_M_request_1013 (by decide) ?_
                                                                          refine lv_iload X.1 X.2.1 d_M_request_1015 (lv_at hl 2 rfl) ?_
                                                                          refine r_nv (m_run (As := [.int (iI 48), .int (iI z649)]) (rest := []) (n := 2) X Y hZ hA hml hl.1 (r_M_head l D E h q H.size I713 J713 B713 G713 48 (by decide) (by decide) z649 (by omega) (by omega) S.1 z716 e716 (by omega) (by omega)) kl_M_head ks_M_head kx_M_head ki_M_head ini_M hd_M_head ⟨Nat.le_of_ble_eq_true rfl, Nat.le_of_ble_eq_true rfl⟩ rfl (Nat.le_of_ble_eq_true rfl) d_M_request_1017 ⟨Nat.le_refl _, Nat.le_refl _⟩) X Y hA S (by decide) (by decide) (fun u H locs Y S s717 p717 => ?_)
                                                                          obtain ⟨I717, J717, B717, G717⟩ := u
                                                                          dsimp only at Y S s717 p717
                                                                          have f718 : stT (B717 97) (B717 98) (B717 100) (B717 107) (B717 108) (B717 109) := (stT_cg (s717.2.2 97 (by decide)) (s717.2.2 98 (by decide)) (s717.2.2 100 (by decide)) (s717.2.2 107 (by decide)) (s717.2.2 108 (by decide)) (s717.2.2 109 (by decide)) (stT_cg (s713.2.2 97 (by decide)) (s713.2.2 98 (by decide)) (s713.2.2 100 (by decide)) (s713.2.2 107 (by decide)) (s713.2.2 108 (by decide)) (s713.2.2 109 (by decide)) f704))
                                                                          obtain ⟨x717, g717_MF⟩ := p717
                                                                          obtain ⟨z719, e719, l719, u719⟩ := x717
                                                                          refine lv_aload_n X.1 X.2.1 d_M_request_1020 rfl (lv_at hl 0 rfl) ?_
                                                                          refine lv_bipush (v := iI 48) X.1 X.2.1 d_M_request_1021 (by decide) ?_
                                                                          refine lv_iload X.1 X.2.1 d_M_request_1023 (lv_at hl 2 rfl) ?_
                                                                          refine r_nv (m_run (As := [.int (iI 48), .int (iI z649)]) (rest := []) (n := 2) X Y hZ hA hml hl.1 (r_M_head l D E h q H.size I717 J717 B717 G717 48 (by decide) (by decide) z649 (by omega) (by omega) S.1 z719 e719 (by omega) (by omega)) kl_M_head ks_M_head kx_M_head ki_M_head ini_M hd_M_head ⟨Nat.le_of_ble_eq_true rfl, Nat.le_of_ble_eq_true rfl⟩ rfl (Nat.le_of_ble_eq_true rfl) d_M_request_1025 ⟨Nat.le_refl _, Nat.le_refl _⟩) X Y hA S (by decide) (by decide) (fun u H locs Y S s720 p720 => ?_)
                                                                          obtain ⟨I720, J720, B720, G720⟩ := u
                                                                          dsimp only at Y S s720 p720
                                                                          have f721 : (B720 97 ((8 * a1) + a3).toNat).toInt ≠ 0 := (i97_cg (s720.2.2 97 (by decide)) (i97_cg (s717.2.2 97 (by decide)) (i97_cg (s713.2.2 97 (by decide)) (i97_cg (s703.2.2 97 (by decide)) (i97_cg (s701.2.2 97 (by decide)) (i97_cg (s696.2.2 97 (by decide)) (i97_cg (s648.2.2 97 (by decide)) (i97_cg rfl f634))))))))
                                                                          obtain ⟨x720, g720_MF⟩ := p720
                                                                          obtain ⟨z722, e722, l722, u722⟩ := x720
                                                                          refine lv_aload_n X.1 X.2.1 d_M_request_1028 rfl (lv_at hl 0 rfl) ?_
                                                                          refine lv_iconst (v := iI 3) X.1 X.2.1 d_M_request_1029 (by decide) ?_
                                                                          refine lv_iload X.1 X.2.1 d_M_request_1030 (lv_at hl 2 rfl) ?_
                                                                          refine r_nv (m_run (As := [.int (iI 3), .int (iI z649)]) (rest := []) (n := 2) X Y hZ hA hml hl.1 (r_M_field l D E h q H.size I720 J720 B720 G720 3 (by decide) (by decide) z649 (by omega) (by omega) S.1 z722 e722 (by omega) (by omega)) kl_M_field ks_M_field kx_M_field ki_M_field ini_M hd_M_field ⟨Nat.le_of_ble_eq_true rfl, Nat.le_of_ble_eq_true rfl⟩ rfl (Nat.le_of_ble_eq_true rfl) d_M_request_1032 ⟨Nat.le_refl _, Nat.le_refl _⟩) X Y hA S (by decide) (by decide) (fun u H locs Y S s723 p723 => ?_)
                                                                          obtain ⟨I723, J723, B723, G723⟩ := u
                                                                          dsimp only at Y S s723 p723
                                                                          have f724 : stT (B723 97) (B723 98) (B723 100) (B723 107) (B723 108) (B723 109) := (stT_cg (s723.2.2 97 (by decide)) (s723.2.2 98 (by decide)) (s723.2.2 100 (by decide)) (s723.2.2 107 (by decide)) (s723.2.2 108 (by decide)) (s723.2.2 109 (by decide)) (stT_cg (s720.2.2 97 (by decide)) (s720.2.2 98 (by decide)) (s720.2.2 100 (by decide)) (s720.2.2 107 (by decide)) (s720.2.2 108 (by decide)) (s720.2.2 109 (by decide)) f718))
                                                                          have f725 : zeq (B723 119) (B723 108) (a1).toNat ((8 * a1) + a3).toNat := (zeq_cg (s723.2.2 108 (by decide)) (s723.2.2 119 (by decide)) (zeq_cg (s720.2.2 108 (by decide)) (s720.2.2 119 (by decide)) (zeq_cg (s717.2.2 108 (by decide)) (s717.2.2 119 (by decide)) (zeq_cg (s713.2.2 108 (by decide)) (s713.2.2 119 (by decide)) f705))))
                                                                          have f726 : stAX a1 (B723 110) (B723 118) (B723 119) (B723 120) := (stAX_cg (s723.2.2 110 (by decide)) (s723.2.2 118 (by decide)) (s723.2.2 119 (by decide)) (s723.2.2 120 (by decide)) (stAX_cg (s720.2.2 110 (by decide)) (s720.2.2 118 (by decide)) (s720.2.2 119 (by decide)) (s720.2.2 120 (by decide)) (stAX_cg (s717.2.2 110 (by decide)) (s717.2.2 118 (by decide)) (s717.2.2 119 (by decide)) (s717.2.2 120 (by decide)) f714)))
                                                                          have f727 : zeq (B723 120) (B723 109) (a1).toNat ((8 * a1) + a3).toNat := (zeq_cg (s723.2.2 109 (by decide)) (s723.2.2 120 (by decide)) (zeq_cg (s720.2.2 109 (by decide)) (s720.2.2 120 (by decide)) (zeq_cg (s717.2.2 109 (by decide)) (s717.2.2 120 (by decide)) (zeq_cg (s713.2.2 109 (by decide)) (s713.2.2 120 (by decide)) f706))))
                                                                          have f728 : stA (B723 110) (B723 118) (B723 119) (B723 120) := (stA_cg (s723.2.2 110 (by decide)) (s723.2.2 118 (by decide)) (s723.2.2 119 (by decide)) (s723.2.2 120 (by decide)) (stA_cg (s720.2.2 110 (by decide)) (s720.2.2 118 (by decide)) (s720.2.2 119 (by decide)) (s720.2.2 120 (by decide)) (stA_cg (s717.2.2 110 (by decide)) (s717.2.2 118 (by decide)) (s717.2.2 119 (by decide)) (s717.2.2 120 (by decide)) f715)))
                                                                          obtain ⟨x723, g723_MF⟩ := p723
                                                                          obtain ⟨z729, e729, l729, u729⟩ := x723
                                                                          exact J663 z729 I723 J723 B723 G723 _ _ _ f728 f726 f724 (i97_cg (s723.2.2 97 (by decide)) f721) f725 f727 ((s723.2.1 54 (by decide)).trans ((s720.2.1 54 (by decide)).trans ((s717.2.1 54 (by decide)).trans ((s713.2.1 54 (by decide)).trans ((s703.2.1 54 (by decide)).trans ((s701.2.1 54 (by decide)).trans ((s696.2.1 54 (by decide)).trans ((s648.2.1 54 (by decide)).trans ((s647.2.1 54 (by decide)).trans e637))))))))) ((s723.2.1 33 (by decide)).trans ((s720.2.1 33 (by decide)).trans ((s717.2.1 33 (by decide)).trans ((s713.2.1 33 (by decide)).trans ((s703.2.1 33 (by decide)).trans ((s701.2.1 33 (by decide)).trans ((s696.2.1 33 (by decide)).trans ((s648.2.1 33 (by decide)).trans ((s647.2.1 33 (by decide)).trans e639))))))))) ((s723.2.1 2 (by decide)).trans ((s720.2.1 2 (by decide)).trans ((s717.2.1 2 (by decide)).trans ((s713.2.1 2 (by decide)).trans ((s703.2.1 2 (by decide)).trans ((s701.2.1 2 (by decide)).trans ((s696.2.1 2 (by decide)).trans ((s648.2.1 2 (by decide)).trans ((s647.2.1 2 (by decide)).trans e638))))))))) e729 (by omega) (by omega) (by omega) (by omega) Y S (lv_sub hl [0, 1] rfl)
                                                                        refine z_icmp_ne (tgt := 1008) X.1 X.2.1 d_M_request_999 (by decide) ⟨by omega, by omega⟩ ⟨by decide, by decide⟩ (fun h730 => ?_) (fun h730 => False.elim (by omega))
                                                                        · refine lv_lconst (v := 1) X.1 X.2.1 d_M_request_1008 rfl ?_
                                                                          exact J709 1 _ _ _  Y S (lv_sub hl [2, 3, 1] rfl)
                                                                    refine z_icmp_ne (tgt := 760) X.1 X.2.1 d_M_request_631 (by decide) ⟨by omega, by omega⟩ ⟨by decide, by decide⟩ (fun h731 => ?_) (fun h731 => False.elim (by omega))
                                                                    · refine lv_iload_n X.1 X.2.1 d_M_request_760 rfl (lv_at hl 4 rfl) ?_
                                                                      refine lv_iconst (v := iI 2) X.1 X.2.1 d_M_request_761 (by decide) ?_
                                                                      refine z_icmp_ne (tgt := 934) X.1 X.2.1 d_M_request_762 (by decide) ⟨by omega, by omega⟩ ⟨by decide, by decide⟩ (fun h732 => False.elim (by omega)) (fun h732 => ?_)
                                                                      · refine lv_iconst (v := iI 0) X.1 X.2.1 d_M_request_765 (by decide) ?_
                                                                        have J745 : ∀ (n747 : Nat) (z734 : Int) (I733 : Nat → Int32) (J733 : Nat → Int64) (B733 : Nat → Nat → Int32) (G733 : Nat → Nat → Int64) (H : Heap) (locs : List Loc) (ls : Array Slot), (32 - z734).toNat = n747 → (0 ≤ z734) → (z734 ≤ 32) → (stA (B733 110) (B733 118) (B733 119) (B733 120)) → (stAX a1 (B733 110) (B733 118) (B733 119) (B733 120)) → (stT (B733 97) (B733 98) (B733 100) (B733 107) (B733 108) (B733 109)) → ((B733 97 ((8 * a1) + a3).toNat).toInt ≠ 0) → (zeq (B733 119) (B733 108) (a1).toNat ((8 * a1) + a3).toNat) → (zeq (B733 120) (B733 109) (a1).toNat ((8 * a1) + a3).toNat) → (I733 54 = iI z102) → (I733 42 = iI z610) → (I733 33 = iI z492) → (I733 2 = iI 0) → mH D E (mA E h q sz) s.heap h q I733 J733 B733 G733 H locs → rS [2, 3, 8, 14, 18, 33, 36, 42, 54, 55] [0, 1, 5, 6, 7, 9, 10, 11, 12, 13, 15, 16, 17, 19, 20, 21, 22, 23, 34, 35, 53, 56, 58, 60, 95, 110, 111, 112, 113, 115, 116, 117, 118, 119, 120, 132] I B I733 B733 → lv_has ls 18 [(0, .ref h), (1, .int (iI a1)), (2, .int (iI a2)), (9, .int (iI ((8 * a1) + a3))), (10, .long v446), (13, .int (iI (60000 - z610))), (16, .int (iI z734))] → W p l e (mR 8 236) s m AV below meth c H locs 0 0 QQ (F0 m 768 ls []) := by
                                                                          intro n747
                                                                          induction n747 using Nat.strongRecOn with
                                                                          | ind n747 ih746 =>
                                                                            intro z734 I733 J733 B733 G733 H locs ls hm748 l734 u734 f735 f736 f737 f738 f739 f740 e741 e742 e743 e744 Y S hl
                                                                            refine lv_iload X.1 X.2.1 d_M_request_768 (lv_at hl 6 rfl) ?_
                                                                            refine lv_bipush (v := iI 32) X.1 X.2.1 d_M_request_770 (by decide) ?_
                                                                            refine z_icmp_ge (tgt := 801) X.1 X.2.1 d_M_request_772 (by decide) ⟨by omega, by omega⟩ ⟨by decide, by decide⟩ (fun h749 => ?_) (fun h749 => ?_)
                                                                            · refine lv_aload_n X.1 X.2.1 d_M_request_801 rfl (lv_at hl 0 rfl) ?_
                                                                              refine lv_aload_n X.1 X.2.1 d_M_request_802 rfl (lv_at hl 0 rfl) ?_
                                                                              refine m_get X Y 58 (by decide) lk_key (gf_key _ _ _) rfl d_M_request_803 ?_
                                                                              refine lv_aload_n X.1 X.2.1 d_M_request_806 rfl (lv_at hl 0 rfl) ?_
                                                                              refine m_get X Y 102 (by decide) lk_ticketTypes (gf_ticketTypes _ _ _) rfl d_M_request_807 ?_
                                                                              refine lv_iload X.1 X.2.1 d_M_request_810 (lv_at hl 3 rfl) ?_
                                                                              refine r_iald X Y S (aw_ticketTypes _ _ _ _ _ _ _) rfl (by omega) (show (8 * a1) + a3 < ((32 : Nat) : Int) by omega) (by omega) d_M_request_812 (fun z750 q750 l750 u750 => ?_)
                                                                              refine lv_bipush (v := iI 6) X.1 X.2.1 d_M_request_813 (by decide) ?_
                                                                              refine lv_sipush (v := iI 22200) X.1 X.2.1 d_M_request_815 (by decide) ?_
                                                                              refine lv_sipush (v := iI 22200) X.1 X.2.1 d_M_request_818 (by decide) ?_
                                                                              refine lv_iload X.1 X.2.1 d_M_request_821 (lv_at hl 5 rfl) ?_
                                                                              refine z_iadd X.1 X.2.1 d_M_request_823 ?_
                                                                              refine r_nv (m_run (As := [.ref ((q 58)), .int (iI z750), .int (iI 6), .int (iI 22200), .int (iI (22200 + (60000 - z610)))]) (rest := []) (n := 5) X Y hZ hA hml hl.1 (r_M_checksum_key l D E h q H.size I733 J733 B733 G733 z750 (by omega) (by omega) 6 (by decide) (by decide) 22200 (by decide) (by decide) (22200 + (60000 - z610)) (by omega) (by omega) S.1 (by omega)) kl_M_checksum ks_M_checksum kx_M_checksum ki_M_checksum ini_M hd_M_checksum ⟨Nat.le_of_ble_eq_true rfl, Nat.le_of_ble_eq_true rfl⟩ rfl (Nat.le_of_ble_eq_true rfl) d_M_request_824 ⟨Nat.le_refl _, Nat.le_refl _⟩) X Y hA S (by decide) (by decide) (fun u H locs Y S s751 p751 => ?_)
                                                                              obtain ⟨I751, J751, B751, G751⟩ := u
                                                                              dsimp only at Y S s751 p751
                                                                              refine lv_iconst (v := iI 0) X.1 X.2.1 d_M_request_827 (by decide) ?_
                                                                              have J764 : ∀ (n766 : Nat) (z753 : Int) (I752 : Nat → Int32) (J752 : Nat → Int64) (B752 : Nat → Nat → Int32) (G752 : Nat → Nat → Int64) (H : Heap) (locs : List Loc) (ls : Array Slot), (12 - z753).toNat = n766 → (0 ≤ z753) → (z753 ≤ 12) → (stA (B752 110) (B752 118) (B752 119) (B752 120)) → (stAX a1 (B752 110) (B752 118) (B752 119) (B752 120)) → (stT (B752 97) (B752 98) (B752 100) (B752 107) (B752 108) (B752 109)) → ((B752 97 ((8 * a1) + a3).toNat).toInt ≠ 0) → (zeq (B752 119) (B752 108) (a1).toNat ((8 * a1) + a3).toNat) → (zeq (B752 120) (B752 109) (a1).toNat ((8 * a1) + a3).toNat) → (I752 54 = iI z102) → (I752 42 = iI z610) → (I752 33 = iI z492) → (I752 2 = iI 0) → mH D E (mA E h q sz) s.heap h q I752 J752 B752 G752 H locs → rS [2, 3, 8, 14, 18, 33, 36, 42, 54, 55] [0, 1, 5, 6, 7, 9, 10, 11, 12, 13, 15, 16, 17, 19, 20, 21, 22, 23, 34, 35, 53, 56, 58, 60, 95, 110, 111, 112, 113, 115, 116, 117, 118, 119, 120, 132] I B I752 B752 → lv_has ls 18 [(0, .ref h), (1, .int (iI a1)), (2, .int (iI a2)), (9, .int (iI ((8 * a1) + a3))), (10, .long v446), (13, .int (iI (60000 - z610))), (16, .int (iI z753))] → W p l e (mR 8 236) s m AV below meth c H locs 0 0 QQ (F0 m 830 ls []) := by
                                                                                intro n766
                                                                                induction n766 using Nat.strongRecOn with
                                                                                | ind n766 ih765 =>
                                                                                  intro z753 I752 J752 B752 G752 H locs ls hm767 l753 u753 f754 f755 f756 f757 f758 f759 e760 e761 e762 e763 Y S hl
                                                                                  refine lv_iload X.1 X.2.1 d_M_request_830 (lv_at hl 6 rfl) ?_
                                                                                  refine lv_bipush (v := iI 12) X.1 X.2.1 d_M_request_832 (by decide) ?_
                                                                                  refine z_icmp_ge (tgt := 857) X.1 X.2.1 d_M_request_834 (by decide) ⟨by omega, by omega⟩ ⟨by decide, by decide⟩ (fun h768 => ?_) (fun h768 => ?_)
                                                                                  · refine lv_aload_n X.1 X.2.1 d_M_request_857 rfl (lv_at hl 0 rfl) ?_
                                                                                    refine r_nv (m_run (As := []) (rest := []) (n := 0) X Y hZ hA hml hl.1 (r_M_start l D E h q H.size I752 J752 B752 G752 S.1) kl_M_start ks_M_start kx_M_start ki_M_start ini_M hd_M_start ⟨Nat.le_of_ble_eq_true rfl, Nat.le_of_ble_eq_true rfl⟩ rfl (Nat.le_of_ble_eq_true rfl) d_M_request_858 ⟨Nat.le_refl _, Nat.le_refl _⟩) X Y hA S (by decide) (by decide) (fun u H locs Y S s769 p769 => ?_)
                                                                                    obtain ⟨I769, J769, B769, G769⟩ := u
                                                                                    dsimp only at Y S s769 p769
                                                                                    have b769 : B752 = B769 := (funext (fun j => s769.2.2 j (by simp))).symm
                                                                                    subst b769
                                                                                    have x769 := p769
                                                                                    refine lv_aload_n X.1 X.2.1 d_M_request_861 rfl (lv_at hl 0 rfl) ?_
                                                                                    refine lv_bipush (v := iI 6) X.1 X.2.1 d_M_request_862 (by decide) ?_
                                                                                    refine lv_aload_n X.1 X.2.1 d_M_request_864 rfl (lv_at hl 0 rfl) ?_
                                                                                    refine m_get X Y 102 (by decide) lk_ticketTypes (gf_ticketTypes _ _ _) rfl d_M_request_865 ?_
                                                                                    refine lv_iload X.1 X.2.1 d_M_request_868 (lv_at hl 3 rfl) ?_
                                                                                    refine r_iald X Y S (aw_ticketTypes _ _ _ _ _ _ _) rfl (by omega) (show (8 * a1) + a3 < ((32 : Nat) : Int) by omega) (by omega) d_M_request_870 (fun z770 q770 l770 u770 => ?_)
                                                                                    refine lv_aload_n X.1 X.2.1 d_M_request_871 rfl (lv_at hl 0 rfl) ?_
                                                                                    refine m_get X Y 60 (by decide) lk_fresh (gf_fresh _ _ _) rfl d_M_request_872 ?_
                                                                                    refine r_nv (m_run (As := [.int (iI 6), .int (iI z770), .ref ((q 60))]) (rest := []) (n := 3) X Y hZ hA hml hl.1 (r_M_keyField_fresh l D E h q H.size I769 J769 B752 G769 6 (by decide) (by decide) z770 (by omega) (by omega) S.1 60000 (x769.trans (congrArg iI (show (60000 : Int) = 60000 by omega))) (by omega) (by omega)) kl_M_keyField ks_M_keyField kx_M_keyField ki_M_keyField ini_M hd_M_keyField ⟨Nat.le_of_ble_eq_true rfl, Nat.le_of_ble_eq_true rfl⟩ rfl (Nat.le_of_ble_eq_true rfl) d_M_request_875 ⟨Nat.le_refl _, Nat.le_refl _⟩) X Y hA S (by decide) (by decide) (fun u H locs Y S s771 p771 => ?_)
                                                                                    obtain ⟨I771, J771, B771, G771⟩ := u
                                                                                    dsimp only at Y S s771 p771
                                                                                    obtain ⟨x771, g771_MF⟩ := p771
                                                                                    obtain ⟨z772, e772, l772, u772⟩ := x771
                                                                                    refine lv_aload_n X.1 X.2.1 d_M_request_878 rfl (lv_at hl 0 rfl) ?_
                                                                                    refine lv_iload_n X.1 X.2.1 d_M_request_879 rfl (lv_at hl 1 rfl) ?_
                                                                                    refine lv_iload X.1 X.2.1 d_M_request_880 (lv_at hl 3 rfl) ?_
                                                                                    refine lv_lload X.1 X.2.1 d_M_request_882 (lv_at hl 4 rfl) ?_
                                                                                    refine lv_iconst (v := iI 1) X.1 X.2.1 d_M_request_884 (by decide) ?_
                                                                                    refine r_nv (m_run (As := [.int (iI a1), .int (iI ((8 * a1) + a3)), .long v446, .int (iI 1)]) (rest := []) (n := 4) X Y hZ hA hml hl.1 (r_M_authenticator l D E h q H.size I771 J771 B771 G771 a1 (by omega) (by omega) ((8 * a1) + a3) (by omega) (by omega) v446 1 (by decide) (by decide) S.1 z772 e772 (by omega) (by omega)) kl_M_authenticator ks_M_authenticator kx_M_authenticator ki_M_authenticator ini_M hd_M_authenticator ⟨Nat.le_of_ble_eq_true rfl, Nat.le_of_ble_eq_true rfl⟩ rfl (Nat.le_of_ble_eq_true rfl) d_M_request_885 ⟨Nat.le_refl _, Nat.le_refl _⟩) X Y hA S (by decide) (by decide) (fun u H locs Y S s773 p773 => ?_)
                                                                                    obtain ⟨I773, J773, B773, G773⟩ := u
                                                                                    dsimp only at Y S s773 p773
                                                                                    have f774 : stT (B773 97) (B773 98) (B773 100) (B773 107) (B773 108) (B773 109) := (stT_cg (s773.2.2 97 (by decide)) (s773.2.2 98 (by decide)) (s773.2.2 100 (by decide)) (s773.2.2 107 (by decide)) (s773.2.2 108 (by decide)) (s773.2.2 109 (by decide)) (stT_cg (s771.2.2 97 (by decide)) (s771.2.2 98 (by decide)) (s771.2.2 100 (by decide)) (s771.2.2 107 (by decide)) (s771.2.2 108 (by decide)) (s771.2.2 109 (by decide)) (stT_cg rfl rfl rfl rfl rfl rfl f756)))
                                                                                    have f775 : stAX a1 (B773 110) (B773 118) (B773 119) (B773 120) := (stAX_cg (s773.2.2 110 (by decide)) (s773.2.2 118 (by decide)) (s773.2.2 119 (by decide)) (s773.2.2 120 (by decide)) (stAX_cg (s771.2.2 110 (by decide)) (s771.2.2 118 (by decide)) (s771.2.2 119 (by decide)) (s771.2.2 120 (by decide)) (stAX_cg rfl rfl rfl rfl f755)))
                                                                                    have f776 : stA (B773 110) (B773 118) (B773 119) (B773 120) := (stA_cg (s773.2.2 110 (by decide)) (s773.2.2 118 (by decide)) (s773.2.2 119 (by decide)) (s773.2.2 120 (by decide)) (stA_cg (s771.2.2 110 (by decide)) (s771.2.2 118 (by decide)) (s771.2.2 119 (by decide)) (s771.2.2 120 (by decide)) (stA_cg rfl rfl rfl rfl f754)))
                                                                                    obtain ⟨x773, g773_MF⟩ := p773
                                                                                    obtain ⟨z777, e777, l777, u777⟩ := x773
                                                                                    refine lv_aload_n X.1 X.2.1 d_M_request_888 rfl (lv_at hl 0 rfl) ?_
                                                                                    refine lv_aload_n X.1 X.2.1 d_M_request_889 rfl (lv_at hl 0 rfl) ?_
                                                                                    refine m_get X Y 58 (by decide) lk_key (gf_key _ _ _) rfl d_M_request_890 ?_
                                                                                    refine lv_aload_n X.1 X.2.1 d_M_request_893 rfl (lv_at hl 0 rfl) ?_
                                                                                    refine m_get X Y 102 (by decide) lk_ticketTypes (gf_ticketTypes _ _ _) rfl d_M_request_894 ?_
                                                                                    refine lv_iload X.1 X.2.1 d_M_request_897 (lv_at hl 3 rfl) ?_
                                                                                    refine r_iald X Y S (aw_ticketTypes _ _ _ _ _ _ _) rfl (by omega) (show (8 * a1) + a3 < ((32 : Nat) : Int) by omega) (by omega) d_M_request_899 (fun z778 q778 l778 u778 => ?_)
                                                                                    refine lv_bipush (v := iI 7) X.1 X.2.1 d_M_request_900 (by decide) ?_
                                                                                    refine lv_aload_n X.1 X.2.1 d_M_request_902 rfl (lv_at hl 0 rfl) ?_
                                                                                    refine r_get0 X Y (by decide) lk_w0 (gf_w0 _ _ _) rfl e777 d_M_request_903 ?_
                                                                                    refine lv_ldc (v := (60000)) X.1 X.2.1 X.2.2.2.1 (X.2.2.1 _ cn_M_9) d_M_request_906 ?_
                                                                                    refine t_eq (y := iI 60000) (by decide) ?_
                                                                                    refine r_nv (m_run (As := [.ref ((q 58)), .int (iI z778), .int (iI 7), .int (iI z777), .int (iI 60000)]) (rest := []) (n := 5) X Y hZ hA hml hl.1 (r_M_seal_key l D E h q H.size I773 J773 B773 G773 z778 (by omega) (by omega) 7 (by decide) (by decide) z777 (by omega) (by omega) 60000 (by decide) (by decide) S.1 z492 ((s773.2.1 33 (by decide)).trans ((s771.2.1 33 (by decide)).trans ((s769.2.1 33 (by decide)).trans e762))) (by omega) (by omega) (by omega) (by omega)) kl_M_seal ks_M_seal kx_M_seal ki_M_seal ini_M hd_M_seal ⟨Nat.le_of_ble_eq_true rfl, Nat.le_of_ble_eq_true rfl⟩ rfl (Nat.le_of_ble_eq_true rfl) d_M_request_908 ⟨Nat.le_refl _, Nat.le_refl _⟩) X Y hA S (by decide) (by decide) (fun u H locs Y S s779 p779 => ?_)
                                                                                    obtain ⟨I779, J779, B779, G779⟩ := u
                                                                                    dsimp only at Y S s779 p779
                                                                                    have x779 := p779
                                                                                    obtain ⟨x779_0, x779_1⟩ := x779
                                                                                    refine lv_aload_n X.1 X.2.1 d_M_request_911 rfl (lv_at hl 0 rfl) ?_
                                                                                    refine lv_iload X.1 X.2.1 d_M_request_912 (lv_at hl 3 rfl) ?_
                                                                                    refine lv_iconst (v := iI 0) X.1 X.2.1 d_M_request_914 (by decide) ?_
                                                                                    refine r_nv (m_run (As := [.int (iI ((8 * a1) + a3)), .int (iI 0)]) (rest := []) (n := 2) X Y hZ hA hml hl.1 (r_M_apReq l D E h q H.size I779 J779 B779 G779 ((8 * a1) + a3) (by omega) (by omega) 0 (by decide) (by decide) S.1 (60000 - z777 + 28) (x779_0.trans (congrArg iI (show (60000 - z777 + 28 : Int) = 60000 - z777 + 28 by omega))) (by omega) (by omega)) kl_M_apReq ks_M_apReq kx_M_apReq ki_M_apReq ini_M hd_M_apReq ⟨Nat.le_of_ble_eq_true rfl, Nat.le_of_ble_eq_true rfl⟩ rfl (Nat.le_of_ble_eq_true rfl) d_M_request_915 ⟨Nat.le_refl _, Nat.le_refl _⟩) X Y hA S (by decide) (by decide) (fun u H locs Y S s780 p780 => ?_)
                                                                                    obtain ⟨I780, J780, B780, G780⟩ := u
                                                                                    dsimp only at Y S s780 p780
                                                                                    have f781 : stT (B780 97) (B780 98) (B780 100) (B780 107) (B780 108) (B780 109) := (stT_cg (s780.2.2 97 (by decide)) (s780.2.2 98 (by decide)) (s780.2.2 100 (by decide)) (s780.2.2 107 (by decide)) (s780.2.2 108 (by decide)) (s780.2.2 109 (by decide)) (stT_cg (s779.2.2 97 (by decide)) (s779.2.2 98 (by decide)) (s779.2.2 100 (by decide)) (s779.2.2 107 (by decide)) (s779.2.2 108 (by decide)) (s779.2.2 109 (by decide)) f774))
                                                                                    have f782 : zeq (B780 119) (B780 108) (a1).toNat ((8 * a1) + a3).toNat := (zeq_cg (s780.2.2 108 (by decide)) (s780.2.2 119 (by decide)) (zeq_cg (s779.2.2 108 (by decide)) (s779.2.2 119 (by decide)) (zeq_cg (s773.2.2 108 (by decide)) (s773.2.2 119 (by decide)) (zeq_cg (s771.2.2 108 (by decide)) (s771.2.2 119 (by decide)) (zeq_cg rfl rfl f758)))))
                                                                                    have f783 : zeq (B780 120) (B780 109) (a1).toNat ((8 * a1) + a3).toNat := (zeq_cg (s780.2.2 109 (by decide)) (s780.2.2 120 (by decide)) (zeq_cg (s779.2.2 109 (by decide)) (s779.2.2 120 (by decide)) (zeq_cg (s773.2.2 109 (by decide)) (s773.2.2 120 (by decide)) (zeq_cg (s771.2.2 109 (by decide)) (s771.2.2 120 (by decide)) (zeq_cg rfl rfl f759)))))
                                                                                    have x780 := p780
                                                                                    obtain ⟨z784, e784, x784, y784, y2784⟩ := x780
                                                                                    refine lv_aload_n X.1 X.2.1 d_M_request_918 rfl (lv_at hl 0 rfl) ?_
                                                                                    refine r_ni (m_run (As := []) (rest := []) (n := 0) X Y hZ hA hml hl.1 (r_M_toRoom l D E h q H.size I780 J780 B780 G780 S.1 z784 e784 (by omega) (by omega)) kl_M_toRoom ks_M_toRoom kx_M_toRoom ki_M_toRoom ini_M hd_M_toRoom ⟨Nat.le_of_ble_eq_true rfl, Nat.le_of_ble_eq_true rfl⟩ rfl (Nat.le_of_ble_eq_true rfl) d_M_request_919 ⟨Nat.le_refl _, Nat.le_refl _⟩) X Y hA S (by decide) (by decide) (fun z785 u H locs Y S s785 p785 => ?_)
                                                                                    obtain ⟨I785, J785, B785, G785⟩ := u
                                                                                    dsimp only at Y S s785 p785
                                                                                    have i785 : I780 = I785 := (funext (fun j => s785.2.1 j (by simp))).symm
                                                                                    subst i785
                                                                                    have f786 : stAX a1 (B785 110) (B785 118) (B785 119) (B785 120) := (stAX_cg (s785.2.2 110 (by decide)) (s785.2.2 118 (by decide)) (s785.2.2 119 (by decide)) (s785.2.2 120 (by decide)) (stAX_cg (s780.2.2 110 (by decide)) (s780.2.2 118 (by decide)) (s780.2.2 119 (by decide)) (s780.2.2 120 (by decide)) (stAX_cg (s779.2.2 110 (by decide)) (s779.2.2 118 (by decide)) (s779.2.2 119 (by decide)) (s779.2.2 120 (by decide)) f775)))
                                                                                    have f787 : stA (B785 110) (B785 118) (B785 119) (B785 120) := (stA_cg (s785.2.2 110 (by decide)) (s785.2.2 118 (by decide)) (s785.2.2 119 (by decide)) (s785.2.2 120 (by decide)) (stA_cg (s780.2.2 110 (by decide)) (s780.2.2 118 (by decide)) (s780.2.2 119 (by decide)) (s780.2.2 120 (by decide)) (stA_cg (s779.2.2 110 (by decide)) (s779.2.2 118 (by decide)) (s779.2.2 119 (by decide)) (s779.2.2 120 (by decide)) f776)))
                                                                                    obtain ⟨l785, u785, x785⟩ := p785
                                                                                    refine lv_istore (lv' := [(15, .int (iI z785)), (0, .ref h), (1, .int (iI a1)), (2, .int (iI a2)), (9, .int (iI ((8 * a1) + a3))), (10, .long v446), (13, .int (iI (60000 - z610))), (16, .int (iI z753))]) X.1 X.2.1 d_M_request_922 hl (by decide) rfl (fun ls hl => ?_)
                                                                                    refine lv_aload_n X.1 X.2.1 d_M_request_924 rfl (lv_at hl 1 rfl) ?_
                                                                                    refine m_get X Y 95 (by decide) lk_micros (gf_micros _ _ _) rfl d_M_request_925 ?_
                                                                                    refine lv_iload_n X.1 X.2.1 d_M_request_928 rfl (lv_at hl 2 rfl) ?_
                                                                                    refine lv_dup2_11 X.1 X.2.1 d_M_request_929 rfl rfl ?_
                                                                                    refine r_iald X Y S (aw_micros _ _ _ _ _ _ _) rfl (by omega) (show a1 < ((4 : Nat) : Int) by omega) (by omega) d_M_request_930 (fun z788 q788 l788 u788 => ?_)
                                                                                    refine lv_iconst (v := iI 1) X.1 X.2.1 d_M_request_931 (by decide) ?_
                                                                                    refine lv_iadd X.1 X.2.1 d_M_request_932 ?_
                                                                                    refine t_u (fun z789 l789 u789 => ?_)
                                                                                    refine r_iast X Y S (aw_micros _ _ _ _ _ _ _) (sw_micros _ _ _ _ _ _ _) rfl ⟨(show ((-2147483648) : Int) ≤ z789 by omega), (show z789 ≤ (2147483647 : Int) by omega)⟩ ⟨by omega, by omega⟩ (by omega) (show a1 < ((4 : Nat) : Int) by omega) (by omega) (by decide) d_M_request_933 (fun B790 H locs Y S w790 => ?_)
                                                                                    have f791 : stT (B790 97) (B790 98) (B790 100) (B790 107) (B790 108) (B790 109) := (stT_cg (w790.2 97 (by decide)) (w790.2 98 (by decide)) (w790.2 100 (by decide)) (w790.2 107 (by decide)) (w790.2 108 (by decide)) (w790.2 109 (by decide)) (stT_cg (s785.2.2 97 (by decide)) (s785.2.2 98 (by decide)) (s785.2.2 100 (by decide)) (s785.2.2 107 (by decide)) (s785.2.2 108 (by decide)) (s785.2.2 109 (by decide)) f781))
                                                                                    exact J643 z785 (z492 + 16) I780 J785 B790 G785 _ _ _ (by omega) (by omega) (stA_cg (w790.2 110 (by decide)) (w790.2 118 (by decide)) (w790.2 119 (by decide)) (w790.2 120 (by decide)) f787) (stAX_cg (w790.2 110 (by decide)) (w790.2 118 (by decide)) (w790.2 119 (by decide)) (w790.2 120 (by decide)) f786) f791 (i97_cg (w790.2 97 (by decide)) (i97_cg (s785.2.2 97 (by decide)) (i97_cg (s780.2.2 97 (by decide)) (i97_cg (s779.2.2 97 (by decide)) (i97_cg (s773.2.2 97 (by decide)) (i97_cg (s771.2.2 97 (by decide)) (i97_cg rfl f757))))))) (zeq_cg (w790.2 108 (by decide)) (w790.2 119 (by decide)) (zeq_cg (s785.2.2 108 (by decide)) (s785.2.2 119 (by decide)) f782)) (zeq_cg (w790.2 109 (by decide)) (w790.2 120 (by decide)) (zeq_cg (s785.2.2 109 (by decide)) (s785.2.2 120 (by decide)) f783)) ((s780.2.1 54 (by decide)).trans ((s779.2.1 54 (by decide)).trans ((s773.2.1 54 (by decide)).trans ((s771.2.1 54 (by decide)).trans ((s769.2.1 54 (by decide)).trans e760))))) ((s780.2.1 2 (by decide)).trans ((s779.2.1 2 (by decide)).trans ((s773.2.1 2 (by decide)).trans ((s771.2.1 2 (by decide)).trans ((s769.2.1 2 (by decide)).trans e763))))) ((s780.2.1 33 (by decide)).trans (x779_1.trans (congrArg iI (show (z492 + 16 : Int) = z492 + 16 by omega)))) (by omega) (by omega) (by omega) (by omega) (by omega) Y S (lv_sub hl [1, 3, 6, 0] rfl)
                                                                                  · refine lv_aload_n X.1 X.2.1 d_M_request_837 rfl (lv_at hl 0 rfl) ?_
                                                                                    refine m_get X Y 132 (by decide) lk_kept (gf_kept _ _ _) rfl d_M_request_838 ?_
                                                                                    refine lv_iload X.1 X.2.1 d_M_request_841 (lv_at hl 6 rfl) ?_
                                                                                    refine lv_aload_n X.1 X.2.1 d_M_request_843 rfl (lv_at hl 0 rfl) ?_
                                                                                    refine m_get X Y 10 (by decide) lk_mac (gf_mac _ _ _) rfl d_M_request_844 ?_
                                                                                    refine lv_iload X.1 X.2.1 d_M_request_847 (lv_at hl 6 rfl) ?_
                                                                                    refine r_bald X Y S (aw_mac _ _ _ _ _ _ _) rfl (by omega) (show z753 < ((20 : Nat) : Int) by omega) (by omega) d_M_request_849 (fun z792 q792 l792 u792 => ?_)
                                                                                    refine r_bast X Y S (aw_kept _ _ _ _ _ _ _) (sw_kept _ _ _ _ _ _ _) rfl (by omega) (show z753 < ((12 : Nat) : Int) by omega) (by omega) (by decide) d_M_request_850 (fun B793 H locs Y S w793 => ?_)
                                                                                    refine lv_iinc (v := iI (z753 + 1)) (lv' := [(16, .int (iI (z753 + 1))), (0, .ref h), (1, .int (iI a1)), (2, .int (iI a2)), (9, .int (iI ((8 * a1) + a3))), (10, .long v446), (13, .int (iI (60000 - z610)))]) X.1 X.2.1 d_M_request_851 hl (k := 6) rfl ((iI_add _ _).trans (congrArg iI (by omega))) (by decide) rfl (fun ls hl => ?_)
                                                                                    refine lv_goto (tgt := 830) X.1 X.2.1 d_M_request_854 (by decide) ?_
                                                                                    exact ih765 ((12 - (z753 + 1)).toNat) (by omega) (z753 + 1) I752 J752 B793 G752 _ _ _ rfl (by omega) (by omega) (stA_cg (w793.2 110 (by decide)) (w793.2 118 (by decide)) (w793.2 119 (by decide)) (w793.2 120 (by decide)) f754) (stAX_cg (w793.2 110 (by decide)) (w793.2 118 (by decide)) (w793.2 119 (by decide)) (w793.2 120 (by decide)) f755) (stT_cg (w793.2 97 (by decide)) (w793.2 98 (by decide)) (w793.2 100 (by decide)) (w793.2 107 (by decide)) (w793.2 108 (by decide)) (w793.2 109 (by decide)) f756) (i97_cg (w793.2 97 (by decide)) f757) (zeq_cg (w793.2 108 (by decide)) (w793.2 119 (by decide)) f758) (zeq_cg (w793.2 109 (by decide)) (w793.2 120 (by decide)) f759) e760 e761 e762 e763 Y S (lv_sub hl [1, 2, 3, 4, 5, 6, 0] rfl)
                                                                              refine lv_istore (lv' := [(16, .int (iI 0)), (0, .ref h), (1, .int (iI a1)), (2, .int (iI a2)), (9, .int (iI ((8 * a1) + a3))), (10, .long v446), (13, .int (iI (60000 - z610)))]) X.1 X.2.1 d_M_request_828 hl (by decide) rfl (fun ls hl => ?_)
                                                                              exact J764 _ 0 I751 J751 B751 G751 _ _ _ rfl (by omega) (by omega) (stA_cg (s751.2.2 110 (by decide)) (s751.2.2 118 (by decide)) (s751.2.2 119 (by decide)) (s751.2.2 120 (by decide)) f735) (stAX_cg (s751.2.2 110 (by decide)) (s751.2.2 118 (by decide)) (s751.2.2 119 (by decide)) (s751.2.2 120 (by decide)) f736) (stT_cg (s751.2.2 97 (by decide)) (s751.2.2 98 (by decide)) (s751.2.2 100 (by decide)) (s751.2.2 107 (by decide)) (s751.2.2 108 (by decide)) (s751.2.2 109 (by decide)) f737) (i97_cg (s751.2.2 97 (by decide)) f738) (zeq_cg (s751.2.2 108 (by decide)) (s751.2.2 119 (by decide)) f739) (zeq_cg (s751.2.2 109 (by decide)) (s751.2.2 120 (by decide)) f740) ((s751.2.1 54 (by decide)).trans e741) ((s751.2.1 42 (by decide)).trans e742) ((s751.2.1 33 (by decide)).trans e743) ((s751.2.1 2 (by decide)).trans e744) Y S (lv_sub hl [1, 2, 3, 4, 5, 6, 0] rfl)
                                                                            · refine lv_aload_n X.1 X.2.1 d_M_request_775 rfl (lv_at hl 0 rfl) ?_
                                                                              refine m_get X Y 58 (by decide) lk_key (gf_key _ _ _) rfl d_M_request_776 ?_
                                                                              refine lv_iload X.1 X.2.1 d_M_request_779 (lv_at hl 6 rfl) ?_
                                                                              refine lv_aload_n X.1 X.2.1 d_M_request_781 rfl (lv_at hl 0 rfl) ?_
                                                                              refine m_get X Y 99 (by decide) lk_ticketKeys (gf_ticketKeys _ _ _) rfl d_M_request_782 ?_
                                                                              refine lv_bipush (v := iI 32) X.1 X.2.1 d_M_request_785 (by decide) ?_
                                                                              refine lv_iload X.1 X.2.1 d_M_request_787 (lv_at hl 3 rfl) ?_
                                                                              refine z_imul X.1 X.2.1 d_M_request_789 ?_
                                                                              refine lv_iload X.1 X.2.1 d_M_request_790 (lv_at hl 6 rfl) ?_
                                                                              refine z_iadd X.1 X.2.1 d_M_request_792 ?_
                                                                              refine r_bald X Y S (aw_ticketKeys _ _ _ _ _ _ _) rfl (by omega) (show (32 * ((8 * a1) + a3)) + z734 < ((1024 : Nat) : Int) by omega) (by omega) d_M_request_793 (fun z794 q794 l794 u794 => ?_)
                                                                              refine r_bast X Y S (aw_key _ _ _ _ _ _ _) (sw_key _ _ _ _ _ _ _) rfl (by omega) (show z734 < ((32 : Nat) : Int) by omega) (by omega) (by decide) d_M_request_794 (fun B795 H locs Y S w795 => ?_)
                                                                              refine lv_iinc (v := iI (z734 + 1)) (lv' := [(16, .int (iI (z734 + 1))), (0, .ref h), (1, .int (iI a1)), (2, .int (iI a2)), (9, .int (iI ((8 * a1) + a3))), (10, .long v446), (13, .int (iI (60000 - z610)))]) X.1 X.2.1 d_M_request_795 hl (k := 6) rfl ((iI_add _ _).trans (congrArg iI (by omega))) (by decide) rfl (fun ls hl => ?_)
                                                                              refine lv_goto (tgt := 768) X.1 X.2.1 d_M_request_798 (by decide) ?_
                                                                              exact ih746 ((32 - (z734 + 1)).toNat) (by omega) (z734 + 1) I733 J733 B795 G733 _ _ _ rfl (by omega) (by omega) (stA_cg (w795.2 110 (by decide)) (w795.2 118 (by decide)) (w795.2 119 (by decide)) (w795.2 120 (by decide)) f735) (stAX_cg (w795.2 110 (by decide)) (w795.2 118 (by decide)) (w795.2 119 (by decide)) (w795.2 120 (by decide)) f736) (stT_cg (w795.2 97 (by decide)) (w795.2 98 (by decide)) (w795.2 100 (by decide)) (w795.2 107 (by decide)) (w795.2 108 (by decide)) (w795.2 109 (by decide)) f737) (i97_cg (w795.2 97 (by decide)) f738) (zeq_cg (w795.2 108 (by decide)) (w795.2 119 (by decide)) f739) (zeq_cg (w795.2 109 (by decide)) (w795.2 120 (by decide)) f740) e741 e742 e743 e744 Y S (lv_sub hl [1, 2, 3, 4, 5, 6, 0] rfl)
                                                                        refine lv_istore (lv' := [(16, .int (iI 0)), (15, .int (iI 0)), (14, .int (iI z628)), (0, .ref h), (1, .int (iI a1)), (2, .int (iI a2)), (5, .int (iI a5)), (9, .int (iI ((8 * a1) + a3))), (10, .long v446), (13, .int (iI (60000 - z610)))]) X.1 X.2.1 d_M_request_766 hl (by decide) rfl (fun ls hl => ?_)
                                                                        exact J745 _ 0 I611 J611 B611 G611 _ _ _ rfl (by omega) (by omega) f613 f614 f615 f616 f617 f618 e619 e620 e621 e622 Y S (lv_sub hl [3, 4, 5, 7, 8, 9, 0] rfl)
                                                                  · refine lv_aload_n X.1 X.2.1 d_M_request_590 rfl (lv_at hl 0 rfl) ?_
                                                                    refine m_get X Y 0 (by decide) lk_mem (gf_mem _ _ _) rfl d_M_request_591 ?_
                                                                    refine lv_sipush (v := iI 22200) X.1 X.2.1 d_M_request_594 (by decide) ?_
                                                                    refine lv_iload X.1 X.2.1 d_M_request_597 (lv_at hl 7 rfl) ?_
                                                                    refine z_iadd X.1 X.2.1 d_M_request_599 ?_
                                                                    refine lv_aload_n X.1 X.2.1 d_M_request_600 rfl (lv_at hl 0 rfl) ?_
                                                                    refine m_get X Y 0 (by decide) lk_mem (gf_mem _ _ _) rfl d_M_request_601 ?_
                                                                    refine lv_aload_n X.1 X.2.1 d_M_request_604 rfl (lv_at hl 0 rfl) ?_
                                                                    refine r_get0 X Y (by decide) lk_w0 (gf_w0 _ _ _) rfl e620 d_M_request_605 ?_
                                                                    refine lv_iload X.1 X.2.1 d_M_request_608 (lv_at hl 7 rfl) ?_
                                                                    refine z_iadd X.1 X.2.1 d_M_request_610 ?_
                                                                    refine r_bald X Y S (aw_mem _ _ _ _ _ _ _) rfl (by omega) (show z610 + z612 < ((60000 : Nat) : Int) by omega) (by omega) d_M_request_611 (fun z796 q796 l796 u796 => ?_)
                                                                    refine r_bast X Y S (aw_mem _ _ _ _ _ _ _) (sw_mem _ _ _ _ _ _ _) rfl (by omega) (show 22200 + z612 < ((60000 : Nat) : Int) by omega) (by omega) (by decide) d_M_request_612 (fun B797 H locs Y S w797 => ?_)
                                                                    refine lv_iinc (v := iI (z612 + 1)) (lv' := [(14, .int (iI (z612 + 1))), (0, .ref h), (1, .int (iI a1)), (2, .int (iI a2)), (5, .int (iI a5)), (9, .int (iI ((8 * a1) + a3))), (10, .long v446), (13, .int (iI (60000 - z610)))]) X.1 X.2.1 d_M_request_613 hl (k := 7) rfl ((iI_add _ _).trans (congrArg iI (by omega))) (by decide) rfl (fun ls hl => ?_)
                                                                    refine lv_goto (tgt := 583) X.1 X.2.1 d_M_request_616 (by decide) ?_
                                                                    exact ih624 ((60421 - (z612 + 1)).toNat) (by omega) (z612 + 1) I611 J611 B797 G611 _ _ _ rfl (by omega) (by omega) (stA_cg (w797.2 110 (by decide)) (w797.2 118 (by decide)) (w797.2 119 (by decide)) (w797.2 120 (by decide)) f613) (stAX_cg (w797.2 110 (by decide)) (w797.2 118 (by decide)) (w797.2 119 (by decide)) (w797.2 120 (by decide)) f614) (stT_cg (w797.2 97 (by decide)) (w797.2 98 (by decide)) (w797.2 100 (by decide)) (w797.2 107 (by decide)) (w797.2 108 (by decide)) (w797.2 109 (by decide)) f615) (i97_cg (w797.2 97 (by decide)) f616) (zeq_cg (w797.2 108 (by decide)) (w797.2 119 (by decide)) f617) (zeq_cg (w797.2 109 (by decide)) (w797.2 120 (by decide)) f618) e619 e620 e621 e622 Y S (lv_sub hl [1, 2, 3, 4, 5, 6, 7, 0] rfl)
                                                              refine lv_istore (lv' := [(14, .int (iI 0)), (13, .int (iI (60000 - z610))), (0, .ref h), (1, .int (iI a1)), (2, .int (iI a2)), (4, .int (iI a4)), (5, .int (iI a5)), (9, .int (iI ((8 * a1) + a3))), (10, .long v446)]) X.1 X.2.1 d_M_request_581 hl (by decide) rfl (fun ls hl => ?_)
                                                              exact J623 _ 0 I609 J609 B609 G609 _ _ _ rfl (by omega) (by omega) (stA_cg (s609.2.2 110 (by decide)) (s609.2.2 118 (by decide)) (s609.2.2 119 (by decide)) (s609.2.2 120 (by decide)) (stA_cg (s604.2.2 110 (by decide)) (s604.2.2 118 (by decide)) (s604.2.2 119 (by decide)) (s604.2.2 120 (by decide)) f596)) (stAX_cg (s609.2.2 110 (by decide)) (s609.2.2 118 (by decide)) (s609.2.2 119 (by decide)) (s609.2.2 120 (by decide)) (stAX_cg (s604.2.2 110 (by decide)) (s604.2.2 118 (by decide)) (s604.2.2 119 (by decide)) (s604.2.2 120 (by decide)) f595)) (stT_cg (s609.2.2 97 (by decide)) (s609.2.2 98 (by decide)) (s609.2.2 100 (by decide)) (s609.2.2 107 (by decide)) (s609.2.2 108 (by decide)) (s609.2.2 109 (by decide)) f605) (i97_cg (s609.2.2 97 (by decide)) (i97_cg (s604.2.2 97 (by decide)) (i97_cg (s594.2.2 97 (by decide)) (i97_cg (s591.2.2 97 (by decide)) (i97_cg (s589.2.2 97 (by decide)) f571))))) (zeq_cg (s609.2.2 108 (by decide)) (s609.2.2 119 (by decide)) f606) (zeq_cg (s609.2.2 109 (by decide)) (s609.2.2 120 (by decide)) f607) ((s609.2.1 54 (by decide)).trans ((s604.2.1 54 (by decide)).trans ((s594.2.1 54 (by decide)).trans ((s591.2.1 54 (by decide)).trans ((s589.2.1 54 (by decide)).trans e574))))) e610 ((s609.2.1 33 (by decide)).trans ((s604.2.1 33 (by decide)).trans ((s594.2.1 33 (by decide)).trans ((s591.2.1 33 (by decide)).trans ((s589.2.1 33 (by decide)).trans e575))))) ((s609.2.1 2 (by decide)).trans ((s604.2.1 2 (by decide)).trans ((s594.2.1 2 (by decide)).trans ((s591.2.1 2 (by decide)).trans ((s589.2.1 2 (by decide)).trans e576))))) Y S (lv_sub hl [2, 3, 4, 6, 7, 8, 1, 0] rfl)
                                                            refine z_icmp_ge (tgt := 556) X.1 X.2.1 d_M_request_533 (by decide) ⟨by omega, by omega⟩ ⟨by decide, by decide⟩ (fun h798 => ?_) (fun h798 => False.elim (by omega))
                                                            · exact J600  _ _ _ (by omega) (by omega) Y S (lv_sub hl [0, 1, 2, 3, 4, 5, 6] rfl)
                                                          refine z_if_ne (tgt := 490) X.1 X.2.1 d_M_request_483 (by decide) ⟨by omega, by omega⟩ (fun h799 => ?_) (fun h799 => ?_)
                                                          · refine lv_lload X.1 X.2.1 d_M_request_490 (lv_at hl 7 rfl) ?_
                                                            refine lv_iload X.1 X.2.1 d_M_request_492 (lv_at hl 5 rfl) ?_
                                                            refine lv_i2l X.1 X.2.1 d_M_request_494 rfl ?_
                                                            refine t_anyl (fun v800 => ?_)
                                                            refine lv_ladd X.1 X.2.1 d_M_request_495 ?_
                                                            refine t_anyl (fun v801 => ?_)
                                                            refine lv_ldc2 (v := (2145916799)) X.1 X.2.1 X.2.2.2.1 (X.2.2.1 _ cl_M_937) d_M_request_496 ?_
                                                            refine p_calll (As := [.long v801, .long ((2145916799))]) (rest := [.int (iI 5), .ref h]) (n := 2) X Y hml hl.1 (r_M_lesser l v801 ((2145916799))) kl_M_lesser ks_M_lesser ki_M_lesser ini_M hd_M_lesser ⟨Nat.le_of_ble_eq_true rfl, Nat.le_of_ble_eq_true rfl⟩ rfl (Nat.le_of_ble_eq_true rfl) d_M_request_499 ⟨Nat.le_refl _, Nat.le_refl _⟩ (fun v802 H locs p802 Y => ?_)
                                                            exact J585 v802 _ _ _  Y S (lv_sub hl [0, 1, 2, 3, 4, 6, 7] rfl)
                                                          · refine lv_lconst (v := 0) X.1 X.2.1 d_M_request_486 rfl ?_
                                                            refine lv_goto (tgt := 502) X.1 X.2.1 d_M_request_487 (by decide) ?_
                                                            exact J585 0 _ _ _  Y S (lv_sub hl [0, 1, 2, 3, 4, 6, 7] rfl)
                                                        refine z_if_le (tgt := 479) X.1 X.2.1 d_M_request_458 (by decide) ⟨by omega, by omega⟩ (fun h803 => ?_) (fun h803 => ?_)
                                                        · exact J580 z566 I562 J562 B562 G562 _ _ _ (stA_cg (s562.2.2 110 (by decide)) (s562.2.2 118 (by decide)) (s562.2.2 119 (by decide)) (s562.2.2 120 (by decide)) f559) (stAX_cg (s562.2.2 110 (by decide)) (s562.2.2 118 (by decide)) (s562.2.2 119 (by decide)) (s562.2.2 120 (by decide)) f558) f563 (i97_cg (s562.2.2 97 (by decide)) (i97_cg (s557.2.2 97 (by decide)) (i97_cg (s554.2.2 97 (by decide)) (i97_cg (s552.2.2 97 (by decide)) f537)))) f564 f565 ((s562.2.1 54 (by decide)).trans ((s557.2.1 54 (by decide)).trans ((s554.2.1 54 (by decide)).trans ((s552.2.1 54 (by decide)).trans e540)))) ((s562.2.1 33 (by decide)).trans ((s557.2.1 33 (by decide)).trans ((s554.2.1 33 (by decide)).trans ((s552.2.1 33 (by decide)).trans e541)))) ((s562.2.1 2 (by decide)).trans ((s557.2.1 2 (by decide)).trans ((s554.2.1 2 (by decide)).trans ((s552.2.1 2 (by decide)).trans e542)))) e566 (by omega) (by omega) (by omega) (by omega) Y S (lv_sub hl [0, 1, 2, 3, 4, 5, 7, 8] rfl)
                                                        · refine lv_aload_n X.1 X.2.1 d_M_request_461 rfl (lv_at hl 0 rfl) ?_
                                                          refine lv_bipush (v := iI 6) X.1 X.2.1 d_M_request_462 (by decide) ?_
                                                          refine lv_lload X.1 X.2.1 d_M_request_464 (lv_at hl 8 rfl) ?_
                                                          refine lv_iload X.1 X.2.1 d_M_request_466 (lv_at hl 6 rfl) ?_
                                                          refine lv_i2l X.1 X.2.1 d_M_request_468 rfl ?_
                                                          refine t_anyl (fun v804 => ?_)
                                                          refine lv_ladd X.1 X.2.1 d_M_request_469 ?_
                                                          refine t_anyl (fun v805 => ?_)
                                                          refine lv_ldc2 (v := (2145916799)) X.1 X.2.1 X.2.2.2.1 (X.2.2.1 _ cl_M_937) d_M_request_470 ?_
                                                          refine p_calll (As := [.long v805, .long ((2145916799))]) (rest := [.int (iI 6), .ref h]) (n := 2) X Y hml hl.1 (r_M_lesser l v805 ((2145916799))) kl_M_lesser ks_M_lesser ki_M_lesser ini_M hd_M_lesser ⟨Nat.le_of_ble_eq_true rfl, Nat.le_of_ble_eq_true rfl⟩ rfl (Nat.le_of_ble_eq_true rfl) d_M_request_473 ⟨Nat.le_refl _, Nat.le_refl _⟩ (fun v806 H locs p806 Y => ?_)
                                                          refine r_nv (m_run (As := [.int (iI 6), .long v806]) (rest := []) (n := 2) X Y hZ hA hml hl.1 (r_M_timeField l D E h q H.size I562 J562 B562 G562 6 (by decide) (by decide) v806 S.1 z566 e566 (by omega) (by omega)) kl_M_timeField ks_M_timeField kx_M_timeField ki_M_timeField ini_M hd_M_timeField ⟨Nat.le_of_ble_eq_true rfl, Nat.le_of_ble_eq_true rfl⟩ rfl (Nat.le_of_ble_eq_true rfl) d_M_request_476 ⟨Nat.le_refl _, Nat.le_refl _⟩) X Y hA S (by decide) (by decide) (fun u H locs Y S s807 p807 => ?_)
                                                          obtain ⟨I807, J807, B807, G807⟩ := u
                                                          dsimp only at Y S s807 p807
                                                          obtain ⟨x807, g807_MF⟩ := p807
                                                          obtain ⟨z808, e808, l808, u808⟩ := x807
                                                          exact J580 z808 I807 J807 B807 G807 _ _ _ (stA_cg (s807.2.2 110 (by decide)) (s807.2.2 118 (by decide)) (s807.2.2 119 (by decide)) (s807.2.2 120 (by decide)) (stA_cg (s562.2.2 110 (by decide)) (s562.2.2 118 (by decide)) (s562.2.2 119 (by decide)) (s562.2.2 120 (by decide)) f559)) (stAX_cg (s807.2.2 110 (by decide)) (s807.2.2 118 (by decide)) (s807.2.2 119 (by decide)) (s807.2.2 120 (by decide)) (stAX_cg (s562.2.2 110 (by decide)) (s562.2.2 118 (by decide)) (s562.2.2 119 (by decide)) (s562.2.2 120 (by decide)) f558)) (stT_cg (s807.2.2 97 (by decide)) (s807.2.2 98 (by decide)) (s807.2.2 100 (by decide)) (s807.2.2 107 (by decide)) (s807.2.2 108 (by decide)) (s807.2.2 109 (by decide)) f563) (i97_cg (s807.2.2 97 (by decide)) (i97_cg (s562.2.2 97 (by decide)) (i97_cg (s557.2.2 97 (by decide)) (i97_cg (s554.2.2 97 (by decide)) (i97_cg (s552.2.2 97 (by decide)) f537))))) (zeq_cg (s807.2.2 108 (by decide)) (s807.2.2 119 (by decide)) f564) (zeq_cg (s807.2.2 109 (by decide)) (s807.2.2 120 (by decide)) f565) ((s807.2.1 54 (by decide)).trans ((s562.2.1 54 (by decide)).trans ((s557.2.1 54 (by decide)).trans ((s554.2.1 54 (by decide)).trans ((s552.2.1 54 (by decide)).trans e540))))) ((s807.2.1 33 (by decide)).trans ((s562.2.1 33 (by decide)).trans ((s557.2.1 33 (by decide)).trans ((s554.2.1 33 (by decide)).trans ((s552.2.1 33 (by decide)).trans e541))))) ((s807.2.1 2 (by decide)).trans ((s562.2.1 2 (by decide)).trans ((s557.2.1 2 (by decide)).trans ((s554.2.1 2 (by decide)).trans ((s552.2.1 2 (by decide)).trans e542))))) e808 (by omega) (by omega) (by omega) (by omega) Y S (lv_sub hl [0, 1, 2, 3, 4, 5, 7, 8] rfl)
                                                      refine z_icmp_le (tgt := 418) X.1 X.2.1 d_M_request_396 (by decide) ⟨by omega, by omega⟩ ⟨by decide, by decide⟩ (fun h809 => ?_) (fun h809 => ?_)
                                                      · exact J546 60000 I532 J532 B515 G532 _ _ _ (stA_cg rfl rfl rfl rfl f531) (stAX_cg rfl rfl rfl rfl f517) (stT_cg rfl rfl rfl rfl rfl rfl f518) (i97_cg rfl f519) (zeq_cg rfl rfl f520) (zeq_cg rfl rfl f521) ((s532.2.1 54 (by decide)).trans e522) ((s532.2.1 33 (by decide)).trans e523) ((s532.2.1 2 (by decide)).trans e524) (x532.trans (congrArg iI (show (60000 : Int) = 60000 by omega))) (by omega) (by omega) (by omega) (by omega) Y S (lv_sub hl [1, 2, 3, 4, 5, 6, 7, 8, 9, 0] rfl)
                                                      · refine lv_aload_n X.1 X.2.1 d_M_request_399 rfl (lv_at hl 1 rfl) ?_
                                                        refine lv_iload X.1 X.2.1 d_M_request_400 (lv_at hl 5 rfl) ?_
                                                        refine lv_iconst (v := iI 3) X.1 X.2.1 d_M_request_402 (by decide) ?_
                                                        have J811 : ∀ (v810 : Int64) (H : Heap) (locs : List Loc) (ls : Array Slot), mH D E (mA E h q sz) s.heap h q I532 J532 B515 G532 H locs → rS [2, 3, 8, 14, 18, 33, 36, 42, 54, 55] [0, 1, 5, 6, 7, 9, 10, 11, 12, 13, 15, 16, 17, 19, 20, 21, 22, 23, 34, 35, 53, 56, 58, 60, 95, 110, 111, 112, 113, 115, 116, 117, 118, 119, 120, 132] I B I532 B515 → lv_has ls 18 [(0, .ref h), (1, .int (iI a1)), (2, .int (iI a2)), (4, .int (iI a4)), (5, .int (iI a5)), (6, .int (iI a6)), (7, .int (iI a7)), (9, .int (iI ((8 * a1) + a3))), (10, .long v446), (12, .int (iI 60000))] → W p l e (mR 8 236) s m AV below meth c H locs 0 0 QQ (F0 m 415 ls [.long v810, .ref h]) := by
                                                          intro v810 H locs ls  Y S hl
                                                          refine r_nv (m_run (As := [.long v810]) (rest := []) (n := 1) X Y hZ hA hml hl.1 (r_M_putNumber l D E h q H.size I532 J532 B515 G532 v810 S.1 60000 (x532.trans (congrArg iI (show (60000 : Int) = 60000 by omega))) (by omega) (by omega)) kl_M_putNumber ks_M_putNumber kx_M_putNumber ki_M_putNumber ini_M hd_M_putNumber ⟨Nat.le_of_ble_eq_true rfl, Nat.le_of_ble_eq_true rfl⟩ rfl (Nat.le_of_ble_eq_true rfl) d_M_request_415 ⟨Nat.le_refl _, Nat.le_refl _⟩) X Y hA S (by decide) (by decide) (fun u H locs Y S s815 p815 => ?_)
                                                          obtain ⟨I815, J815, B815, G815⟩ := u
                                                          dsimp only at Y S s815 p815
                                                          obtain ⟨x815, g815_MF⟩ := p815
                                                          obtain ⟨z816, e816, l816, u816⟩ := x815
                                                          exact J546 z816 I815 J815 B815 G815 _ _ _ (stA_cg (s815.2.2 110 (by decide)) (s815.2.2 118 (by decide)) (s815.2.2 119 (by decide)) (s815.2.2 120 (by decide)) (stA_cg rfl rfl rfl rfl f531)) (stAX_cg (s815.2.2 110 (by decide)) (s815.2.2 118 (by decide)) (s815.2.2 119 (by decide)) (s815.2.2 120 (by decide)) (stAX_cg rfl rfl rfl rfl f517)) (stT_cg (s815.2.2 97 (by decide)) (s815.2.2 98 (by decide)) (s815.2.2 100 (by decide)) (s815.2.2 107 (by decide)) (s815.2.2 108 (by decide)) (s815.2.2 109 (by decide)) (stT_cg rfl rfl rfl rfl rfl rfl f518)) (i97_cg (s815.2.2 97 (by decide)) (i97_cg rfl f519)) (zeq_cg (s815.2.2 108 (by decide)) (s815.2.2 119 (by decide)) (zeq_cg rfl rfl f520)) (zeq_cg (s815.2.2 109 (by decide)) (s815.2.2 120 (by decide)) (zeq_cg rfl rfl f521)) ((s815.2.1 54 (by decide)).trans ((s532.2.1 54 (by decide)).trans e522)) ((s815.2.1 33 (by decide)).trans ((s532.2.1 33 (by decide)).trans e523)) ((s815.2.1 2 (by decide)).trans ((s532.2.1 2 (by decide)).trans e524)) e816 (by omega) (by omega) (by omega) (by omega) Y S (lv_sub hl [0, 1, 2, 3, 4, 5, 6, 7, 8, 9] rfl)
                                                        refine z_icmp_ne (tgt := 412) X.1 X.2.1 d_M_request_403 (by decide) ⟨by omega, by omega⟩ ⟨by decide, by decide⟩ (fun h817 => ?_) (fun h817 => ?_)
                                                        · refine lv_ldc2 (v := (17)) X.1 X.2.1 X.2.2.2.1 (X.2.2.1 _ cl_M_697) d_M_request_412 ?_
                                                          exact J811 ((17)) _ _ _  Y S (lv_sub hl [1, 2, 3, 4, 5, 6, 7, 8, 9, 0] rfl)
                                                        · refine lv_ldc2 (v := (18)) X.1 X.2.1 X.2.2.2.1 (X.2.2.1 _ cl_M_699) d_M_request_406 ?_
                                                          refine lv_goto (tgt := 415) X.1 X.2.1 d_M_request_409 (by decide) ?_
                                                          exact J811 ((18)) _ _ _  Y S (lv_sub hl [1, 2, 3, 4, 5, 6, 7, 8, 9, 0] rfl)
                                                    · refine lv_aload_n X.1 X.2.1 d_M_request_350 rfl (lv_at hl 0 rfl) ?_
                                                      refine m_get X Y 118 (by decide) lk_askedClients (gf_askedClients _ _ _) rfl d_M_request_351 ?_
                                                      refine lv_sipush (v := iI 400) X.1 X.2.1 d_M_request_354 (by decide) ?_
                                                      refine lv_iload_n X.1 X.2.1 d_M_request_357 rfl (lv_at hl 1 rfl) ?_
                                                      refine z_imul X.1 X.2.1 d_M_request_358 ?_
                                                      refine lv_iload X.1 X.2.1 d_M_request_359 (lv_at hl 9 rfl) ?_
                                                      refine z_iadd X.1 X.2.1 d_M_request_361 ?_
                                                      refine lv_aload_n X.1 X.2.1 d_M_request_362 rfl (lv_at hl 0 rfl) ?_
                                                      refine m_get X Y 107 (by decide) lk_clientBytes (gf_clientBytes _ _ _) rfl d_M_request_363 ?_
                                                      refine lv_sipush (v := iI 400) X.1 X.2.1 d_M_request_366 (by decide) ?_
                                                      refine lv_iload X.1 X.2.1 d_M_request_369 (lv_at hl 7 rfl) ?_
                                                      refine z_imul X.1 X.2.1 d_M_request_371 ?_
                                                      refine lv_iload X.1 X.2.1 d_M_request_372 (lv_at hl 9 rfl) ?_
                                                      refine z_iadd X.1 X.2.1 d_M_request_374 ?_
                                                      refine r_bald X Y S (aw_clientBytes _ _ _ _ _ _ _) rfl (by omega) (show (400 * ((8 * a1) + a3)) + z516 < ((12800 : Nat) : Int) by omega) (by omega) d_M_request_375 (fun z818 q818 l818 u818 => ?_)
                                                      refine r_bast X Y S (aw_askedClients _ _ _ _ _ _ _) (sw_askedClients _ _ _ _ _ _ _) rfl (by omega) (show (400 * a1) + z516 < ((1600 : Nat) : Int) by omega) (by omega) (by decide) d_M_request_376 (fun B819 H locs Y S w819 => ?_)
                                                      have f820 : stAX a1 (B819 110) (B819 118) (B819 119) (B819 120) := by rw [w819.1, w819.2 110 (by decide), w819.2 119 (by decide), w819.2 120 (by decide)]; exact stAX_118 (fun t9 => ⟨(S.1.2 119 t9).1, (S.1.2 119 t9).2, (S.1.2 120 t9).2⟩) (by omega) (by omega) f517
                                                      refine lv_iinc (v := iI (z516 + 1)) (lv' := [(12, .int (iI (z516 + 1))), (0, .ref h), (1, .int (iI a1)), (2, .int (iI a2)), (4, .int (iI a4)), (5, .int (iI a5)), (6, .int (iI a6)), (7, .int (iI a7)), (9, .int (iI ((8 * a1) + a3))), (10, .long v446)]) X.1 X.2.1 d_M_request_377 hl (k := 9) rfl ((iI_add _ _).trans (congrArg iI (by omega))) (by decide) rfl (fun ls hl => ?_)
                                                      refine lv_goto (tgt := 342) X.1 X.2.1 d_M_request_380 (by decide) ?_
                                                      exact ih527 ((400 - (z516 + 1)).toNat) (by omega) (z516 + 1) I515 J515 B819 G515 _ _ _ rfl (by omega) (by omega) f820 (stT_cg (w819.2 97 (by decide)) (w819.2 98 (by decide)) (w819.2 100 (by decide)) (w819.2 107 (by decide)) (w819.2 108 (by decide)) (w819.2 109 (by decide)) f518) (i97_cg (w819.2 97 (by decide)) f519) (zeq_cg (w819.2 108 (by decide)) (w819.2 119 (by decide)) f520) (zeq_cg (w819.2 109 (by decide)) (w819.2 120 (by decide)) f521) e522 e523 e524 (cpy_go (by omega) (by omega) (by decide) w819 (show (400 * a1) + z516 = _ by omega) q818 (show (400 * ((8 * a1) + a3)) + z516 = _ by omega) (by omega) (by omega) i525) Y S (lv_sub hl [1, 2, 3, 4, 5, 6, 7, 8, 9, 0] rfl)
                                                refine lv_istore (lv' := [(12, .int (iI 0)), (0, .ref h), (1, .int (iI a1)), (2, .int (iI a2)), (4, .int (iI a4)), (5, .int (iI a5)), (6, .int (iI a6)), (7, .int (iI a7)), (9, .int (iI ((8 * a1) + a3))), (10, .long v446)]) X.1 X.2.1 d_M_request_340 hl (by decide) rfl (fun ls hl => ?_)
                                                exact J526 _ 0 I493 J493 B511 G493 _ _ _ rfl (by omega) (by omega) f513 f512 (i97_cg (w511.2 97 (by decide)) (i97_cg (w507.2 97 (by decide)) f497)) (zeq_cg (w511.2 108 (by decide)) (w511.2 119 (by decide)) f509) f514 e498 e499 e500 (cpy_0 rfl) Y S (lv_sub hl [1, 2, 3, 4, 5, 6, 7, 8, 9, 0] rfl)
                                              · refine lv_aload_n X.1 X.2.1 d_M_request_288 rfl (lv_at hl 0 rfl) ?_
                                                refine m_get X Y 116 (by decide) lk_askedKeys (gf_askedKeys _ _ _) rfl d_M_request_289 ?_
                                                refine lv_bipush (v := iI 32) X.1 X.2.1 d_M_request_292 (by decide) ?_
                                                refine lv_iload_n X.1 X.2.1 d_M_request_294 rfl (lv_at hl 1 rfl) ?_
                                                refine z_imul X.1 X.2.1 d_M_request_295 ?_
                                                refine lv_iload X.1 X.2.1 d_M_request_296 (lv_at hl 9 rfl) ?_
                                                refine z_iadd X.1 X.2.1 d_M_request_298 ?_
                                                refine lv_aload_n X.1 X.2.1 d_M_request_299 rfl (lv_at hl 0 rfl) ?_
                                                refine m_get X Y 60 (by decide) lk_fresh (gf_fresh _ _ _) rfl d_M_request_300 ?_
                                                refine lv_iload X.1 X.2.1 d_M_request_303 (lv_at hl 9 rfl) ?_
                                                refine r_bald X Y S (aw_fresh _ _ _ _ _ _ _) rfl (by omega) (show z494 < ((32 : Nat) : Int) by omega) (by omega) d_M_request_305 (fun z821 q821 l821 u821 => ?_)
                                                refine r_bast X Y S (aw_askedKeys _ _ _ _ _ _ _) (sw_askedKeys _ _ _ _ _ _ _) rfl (by omega) (show (32 * a1) + z494 < ((128 : Nat) : Int) by omega) (by omega) (by decide) d_M_request_306 (fun B822 H locs Y S w822 => ?_)
                                                refine lv_iinc (v := iI (z494 + 1)) (lv' := [(12, .int (iI (z494 + 1))), (0, .ref h), (1, .int (iI a1)), (2, .int (iI a2)), (4, .int (iI a4)), (5, .int (iI a5)), (6, .int (iI a6)), (7, .int (iI a7)), (9, .int (iI ((8 * a1) + a3))), (10, .long v446)]) X.1 X.2.1 d_M_request_307 hl (k := 9) rfl ((iI_add _ _).trans (congrArg iI (by omega))) (by decide) rfl (fun ls hl => ?_)
                                                refine lv_goto (tgt := 281) X.1 X.2.1 d_M_request_310 (by decide) ?_
                                                exact ih502 ((32 - (z494 + 1)).toNat) (by omega) (z494 + 1) I493 J493 B822 G493 _ _ _ rfl (by omega) (by omega) (stAX_cg (w822.2 110 (by decide)) (w822.2 118 (by decide)) (w822.2 119 (by decide)) (w822.2 120 (by decide)) f495) (stT_cg (w822.2 97 (by decide)) (w822.2 98 (by decide)) (w822.2 100 (by decide)) (w822.2 107 (by decide)) (w822.2 108 (by decide)) (w822.2 109 (by decide)) f496) (i97_cg (w822.2 97 (by decide)) f497) e498 e499 e500 Y S (lv_sub hl [1, 2, 3, 4, 5, 6, 7, 8, 9, 0] rfl)
                                          refine lv_istore (lv' := [(12, .int (iI 0)), (0, .ref h), (1, .int (iI a1)), (2, .int (iI a2)), (4, .int (iI a4)), (5, .int (iI a5)), (6, .int (iI a6)), (7, .int (iI a7)), (9, .int (iI ((8 * a1) + a3))), (10, .long v446)]) X.1 X.2.1 d_M_request_279 hl (by decide) rfl (fun ls hl => ?_)
                                          exact J501 _ 0 I490 J490 B490 G490 _ _ _ rfl (by omega) (by omega) (stAX_cg (s490.2.2 110 (by decide)) (s490.2.2 118 (by decide)) (s490.2.2 119 (by decide)) (s490.2.2 120 (by decide)) f488) f491 (i97_cg (s490.2.2 97 (by decide)) (i97_cg (w487.2 97 (by decide)) (i97_cg (w483.2 97 (by decide)) (i97_cg (s479.2.2 97 (by decide)) f470)))) ((s490.2.1 54 (by decide)).trans ((s479.2.1 54 (by decide)).trans e471)) e492 ((s490.2.1 2 (by decide)).trans ((s479.2.1 2 (by decide)).trans e473)) Y S (lv_sub hl [1, 2, 3, 4, 5, 6, 7, 8, 9, 0] rfl)
                                      · refine lv_aload_n X.1 X.2.1 d_M_request_198 rfl (lv_at hl 0 rfl) ?_
                                        refine m_get X Y 117 (by decide) lk_askedNames (gf_askedNames _ _ _) rfl d_M_request_199 ?_
                                        refine lv_bipush (v := iI 40) X.1 X.2.1 d_M_request_202 (by decide) ?_
                                        refine lv_iload_n X.1 X.2.1 d_M_request_204 rfl (lv_at hl 1 rfl) ?_
                                        refine z_imul X.1 X.2.1 d_M_request_205 ?_
                                        refine lv_iload X.1 X.2.1 d_M_request_206 (lv_at hl 9 rfl) ?_
                                        refine z_iadd X.1 X.2.1 d_M_request_208 ?_
                                        refine lv_aload_n X.1 X.2.1 d_M_request_209 rfl (lv_at hl 0 rfl) ?_
                                        refine m_get X Y 53 (by decide) lk_name (gf_name _ _ _) rfl d_M_request_210 ?_
                                        refine lv_iload X.1 X.2.1 d_M_request_213 (lv_at hl 9 rfl) ?_
                                        refine r_bald X Y S (aw_name _ _ _ _ _ _ _) rfl (by omega) (show z467 < ((40 : Nat) : Int) by omega) (by omega) d_M_request_215 (fun z823 q823 l823 u823 => ?_)
                                        refine r_bast X Y S (aw_askedNames _ _ _ _ _ _ _) (sw_askedNames _ _ _ _ _ _ _) rfl (by omega) (show (40 * a1) + z467 < ((160 : Nat) : Int) by omega) (by omega) (by decide) d_M_request_216 (fun B824 H locs Y S w824 => ?_)
                                        refine lv_iinc (v := iI (z467 + 1)) (lv' := [(12, .int (iI (z467 + 1))), (0, .ref h), (1, .int (iI a1)), (2, .int (iI a2)), (4, .int (iI a4)), (5, .int (iI a5)), (6, .int (iI a6)), (7, .int (iI a7)), (9, .int (iI ((8 * a1) + a3))), (10, .long v446)]) X.1 X.2.1 d_M_request_217 hl (k := 9) rfl ((iI_add _ _).trans (congrArg iI (by omega))) (by decide) rfl (fun ls hl => ?_)
                                        refine lv_goto (tgt := 189) X.1 X.2.1 d_M_request_220 (by decide) ?_
                                        exact ih475 ((40 - (z467 + 1)).toNat) (by omega) (z467 + 1) I466 J466 B824 G466 _ _ _ rfl (by omega) (by omega) (stAX_cg (w824.2 110 (by decide)) (w824.2 118 (by decide)) (w824.2 119 (by decide)) (w824.2 120 (by decide)) f468) (stT_cg (w824.2 97 (by decide)) (w824.2 98 (by decide)) (w824.2 100 (by decide)) (w824.2 107 (by decide)) (w824.2 108 (by decide)) (w824.2 109 (by decide)) f469) (i97_cg (w824.2 97 (by decide)) f470) e471 e472 e473 Y S (lv_sub hl [1, 2, 3, 4, 5, 6, 7, 8, 9, 0] rfl)
                                  refine lv_istore (lv' := [(12, .int (iI 0)), (0, .ref h), (1, .int (iI a1)), (2, .int (iI a2)), (4, .int (iI a4)), (5, .int (iI a5)), (6, .int (iI a6)), (7, .int (iI a7)), (9, .int (iI ((8 * a1) + a3))), (10, .long v446)]) X.1 X.2.1 d_M_request_187 hl (by decide) rfl (fun ls hl => ?_)
                                  exact J474 _ 0 I451 J451 B464 G451 _ _ _ rfl (by omega) (by omega) (stAX_cg (w464.2 110 (by decide)) (w464.2 118 (by decide)) (w464.2 119 (by decide)) (w464.2 120 (by decide)) (stAX_cg (w463.2 110 (by decide)) (w463.2 118 (by decide)) (w463.2 119 (by decide)) (w463.2 120 (by decide)) f453)) f465 (i97_cg (w464.2 97 (by decide)) (i97_cg (w463.2 97 (by decide)) f455)) e456 e457 e458 Y S (lv_sub hl [1, 2, 3, 4, 5, 6, 7, 8, 9, 0] rfl)
                                have J832 : ∀ (I825 : Nat → Int32) (J825 : Nat → Int64) (B825 : Nat → Nat → Int32) (G825 : Nat → Nat → Int64) (H : Heap) (locs : List Loc) (ls : Array Slot), (stAX a1 (B825 110) (B825 118) (B825 119) (B825 120)) → (stT (B825 97) (B825 98) (B825 100) (B825 107) (B825 108) (B825 109)) → ((B825 97 ((8 * a1) + a3).toNat).toInt ≠ 0) → (I825 54 = iI z102) → (I825 33 = iI cn) → (I825 2 = iI 0) → mH D E (mA E h q sz) s.heap h q I825 J825 B825 G825 H locs → rS [2, 3, 8, 14, 18, 33, 36, 42, 54, 55] [0, 1, 5, 6, 7, 9, 10, 11, 12, 13, 15, 16, 17, 19, 20, 21, 22, 23, 34, 35, 53, 56, 58, 60, 95, 110, 111, 112, 113, 115, 116, 117, 118, 119, 120, 132] I B I825 B825 → lv_has ls 18 [(0, .ref h), (1, .int (iI a1)), (2, .int (iI a2)), (4, .int (iI a4)), (5, .int (iI a5)), (6, .int (iI a6)), (7, .int (iI a7)), (9, .int (iI ((8 * a1) + a3))), (10, .long v446)] → W p l e (mR 8 236) s m AV below meth c H locs 0 0 QQ (F0 m 174 ls [.int (iI a1), .ref ((q 115))]) := by
                                  intro I825 J825 B825 G825 H locs ls f826 f827 f828 e829 e830 e831 Y S hl
                                  refine lv_iconst (v := iI 0) X.1 X.2.1 d_M_request_174 (by decide) ?_
                                  exact J459 0 I825 J825 B825 G825 _ _ _ (by omega) (by omega) f826 f827 f828 e829 e830 e831 Y S (lv_sub hl [0, 1, 2, 3, 4, 5, 6, 7, 8] rfl)
                                refine z_icmp_ne (tgt := 174) X.1 X.2.1 d_M_request_156 (by decide) ⟨by omega, by omega⟩ ⟨by decide, by decide⟩ (fun h836 => False.elim (by omega)) (fun h836 => ?_)
                                · refine lv_aload_n X.1 X.2.1 d_M_request_159 rfl (lv_at hl 3 rfl) ?_
                                  refine lv_iload X.1 X.2.1 d_M_request_160 (lv_at hl 7 rfl) ?_
                                  refine lv_bipush (v := iI 30) X.1 X.2.1 d_M_request_162 (by decide) ?_
                                  refine r_ni (m_run (As := [.int (iI a4), .int (iI 30)]) (rest := [.int (iI a1), .ref ((q 115))]) (n := 2) X Y hZ hA hml hl.1 (r_M_bit l D E h q H.size I441 J446 B449 G446 a4 (by omega) (by omega) 30 (by decide) (by decide) S.1) kl_M_bit ks_M_bit kx_M_bit ki_M_bit ini_M hd_M_bit ⟨Nat.le_of_ble_eq_true rfl, Nat.le_of_ble_eq_true rfl⟩ rfl (Nat.le_of_ble_eq_true rfl) d_M_request_164 ⟨Nat.le_refl _, Nat.le_refl _⟩) X Y hA S (by decide) (by decide) (fun z837 u H locs Y S s837 p837 => ?_)
                                  obtain ⟨I837, J837, B837, G837⟩ := u
                                  dsimp only at Y S s837 p837
                                  have i837 : I441 = I837 := (funext (fun j => s837.2.1 j (by simp))).symm
                                  subst i837
                                  have b837 : B449 = B837 := (funext (fun j => s837.2.2 j (by simp))).symm
                                  subst b837
                                  obtain ⟨l837, u837⟩ := p837
                                  refine z_if_eq (tgt := 174) X.1 X.2.1 d_M_request_167 (by decide) ⟨by omega, by omega⟩ (fun h838 => ?_) (fun h838 => ?_)
                                  · exact J832 I441 J837 B449 G837 _ _ _ (stAX_cg rfl rfl rfl rfl (stAX_cg (w449.2 110 (by decide)) (w449.2 118 (by decide)) (w449.2 119 (by decide)) (w449.2 120 (by decide)) f448)) (stT_cg rfl rfl rfl rfl rfl rfl f450) (i97_cg rfl (i97_cg (w449.2 97 (by decide)) (i97_cg (w447.2 97 (by decide)) (i97_cg rfl f445)))) ((w441.2 54 (by decide)).trans e102) ((w441.2 33 (by decide)).trans ((s101.2.1 33 (by decide)).trans gcn)) w441.1 Y S (lv_sub hl [3, 4, 5, 7, 8, 9, 10, 1, 0] rfl)
                                  · refine lv_iconst (v := iI 1) X.1 X.2.1 d_M_request_170 (by decide) ?_
                                    refine lv_goto (tgt := 175) X.1 X.2.1 d_M_request_171 (by decide) ?_
                                    exact J459 1 I441 J837 B449 G837 _ _ _ (by omega) (by omega) (stAX_cg rfl rfl rfl rfl (stAX_cg (w449.2 110 (by decide)) (w449.2 118 (by decide)) (w449.2 119 (by decide)) (w449.2 120 (by decide)) f448)) (stT_cg rfl rfl rfl rfl rfl rfl f450) (i97_cg rfl (i97_cg (w449.2 97 (by decide)) (i97_cg (w447.2 97 (by decide)) (i97_cg rfl f445)))) ((w441.2 54 (by decide)).trans e102) ((w441.2 33 (by decide)).trans ((s101.2.1 33 (by decide)).trans gcn)) w441.1 Y S (lv_sub hl [3, 4, 5, 7, 8, 9, 10, 1, 0] rfl)
