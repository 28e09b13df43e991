set_option maxHeartbeats 4000000 in
set_option maxRecDepth 100000 in
theorem r_M_a (l : Launch) (D : mD) (E : mE) (h : Nat) (q : Nat → Nat) (sz : Nat) (I : Nat → Int32) (J : Nat → Int64) (B : Nat → Nat → Int32) (G : Nat → Nat → Int64) (a1 : Int) (l_a1 : 0 ≤ a1) (u_a1 : a1 ≤ 11) (a2 : Int) (l_a2 : 0 ≤ a2) (u_a2 : a2 ≤ 15) (hT : rT I B) : Met l y_M_a (k_M_a :: lw_tg) (mR 1 60) (va_Pc [.ref h, .int (iI a1), .int (iI a2)] (mPre D E h q (I, J, B, G) sz)) (va_Qi (rPi [] [] I B (fun (z : Int) (u : mS) => (-1) ≤ z ∧ z ≤ 30000 ∧ z = (B 37 (16 * a1 + a2).toNat).toInt)) (mPost D E h q (mA E h q sz)) (mA E h q sz)) 0 0 (mA E h q sz) := by
  refine m_enter (by decide) rfl (Nat.le_of_ble_eq_true rfl) (fun p e s m below meth c ls AV QQ H locs hQQ X Y hZ hA hr hlk hml hl => ?_)
  have Y : mH D E (mA E h q sz) s.heap h q I J B G H locs := Y
  have S : rS [] [] I B I B := rS_rf hT
  have hl : lv_has ls 3 [(0, .ref h), (1, .int (iI a1)), (2, .int (iI a2))] := hl
  refine lv_aload_n X.1 X.2.1 d_M_a_0 rfl (lv_at hl 0 rfl) ?_
  refine m_get X Y 37 (by decide) lk_from (gf_from _ _ _) rfl d_M_a_1 ?_
  refine lv_bipush (v := iI 16) X.1 X.2.1 d_M_a_4 (by decide) ?_
  refine lv_iload_n X.1 X.2.1 d_M_a_6 rfl (lv_at hl 1 rfl) ?_
  refine z_imul X.1 X.2.1 d_M_a_7 ?_
  refine lv_iload_n X.1 X.2.1 d_M_a_8 rfl (lv_at hl 2 rfl) ?_
  refine z_iadd X.1 X.2.1 d_M_a_9 ?_
  refine r_iald X Y S (aw_from _ _ _ _ _ _ _) rfl (by omega) (show (16 * a1) + a2 < ((192 : Nat) : Int) by omega) (by omega) d_M_a_10 (fun z101 q101 l101 u101 => ?_)
  exact m_reti hQQ X Y hr hlk ⟨S, z101, rfl, ⟨by omega, by omega, by omega⟩⟩ d_M_a_11
set_option maxHeartbeats 4000000 in
set_option maxRecDepth 100000 in
theorem r_M_b (l : Launch) (D : mD) (E : mE) (h : Nat) (q : Nat → Nat) (sz : Nat) (I : Nat → Int32) (J : Nat → Int64) (B : Nat → Nat → Int32) (G : Nat → Nat → Int64) (a1 : Int) (l_a1 : 0 ≤ a1) (u_a1 : a1 ≤ 11) (a2 : Int) (l_a2 : 0 ≤ a2) (u_a2 : a2 ≤ 15) (hT : rT I B) : Met l y_M_b (k_M_b :: lw_tg) (mR 1 60) (va_Pc [.ref h, .int (iI a1), .int (iI a2)] (mPre D E h q (I, J, B, G) sz)) (va_Qi (rPi [] [] I B (fun (z : Int) (u : mS) => (-1) ≤ z ∧ z ≤ 30000 ∧ z = (B 38 (16 * a1 + a2).toNat).toInt)) (mPost D E h q (mA E h q sz)) (mA E h q sz)) 0 0 (mA E h q sz) := by
  refine m_enter (by decide) rfl (Nat.le_of_ble_eq_true rfl) (fun p e s m below meth c ls AV QQ H locs hQQ X Y hZ hA hr hlk hml hl => ?_)
  have Y : mH D E (mA E h q sz) s.heap h q I J B G H locs := Y
  have S : rS [] [] I B I B := rS_rf hT
  have hl : lv_has ls 3 [(0, .ref h), (1, .int (iI a1)), (2, .int (iI a2))] := hl
  refine lv_aload_n X.1 X.2.1 d_M_b_0 rfl (lv_at hl 0 rfl) ?_
  refine m_get X Y 38 (by decide) lk_to (gf_to _ _ _) rfl d_M_b_1 ?_
  refine lv_bipush (v := iI 16) X.1 X.2.1 d_M_b_4 (by decide) ?_
  refine lv_iload_n X.1 X.2.1 d_M_b_6 rfl (lv_at hl 1 rfl) ?_
  refine z_imul X.1 X.2.1 d_M_b_7 ?_
  refine lv_iload_n X.1 X.2.1 d_M_b_8 rfl (lv_at hl 2 rfl) ?_
  refine z_iadd X.1 X.2.1 d_M_b_9 ?_
  refine r_iald X Y S (aw_to _ _ _ _ _ _ _) rfl (by omega) (show (16 * a1) + a2 < ((192 : Nat) : Int) by omega) (by omega) d_M_b_10 (fun z101 q101 l101 u101 => ?_)
  exact m_reti hQQ X Y hr hlk ⟨S, z101, rfl, ⟨by omega, by omega, by omega⟩⟩ d_M_b_11
set_option maxHeartbeats 4000000 in
set_option maxRecDepth 100000 in
theorem r_M_has (l : Launch) (D : mD) (E : mE) (h : Nat) (q : Nat → Nat) (sz : Nat) (I : Nat → Int32) (J : Nat → Int64) (B : Nat → Nat → Int32) (G : Nat → Nat → Int64) (a1 : Int) (l_a1 : 0 ≤ a1) (u_a1 : a1 ≤ 11) (a2 : Int) (l_a2 : 0 ≤ a2) (u_a2 : a2 ≤ 15) (hT : rT I B) : Met l y_M_has (k_M_has :: lw_tg) (mR 1 60) (va_Pc [.ref h, .int (iI a1), .int (iI a2)] (mPre D E h q (I, J, B, G) sz)) (va_Qi (rPi [] [] I B (fun (z : Int) (u : mS) => 0 ≤ z ∧ z ≤ 1 ∧ (z = 1 ↔ 0 ≤ (B 37 (16 * a1 + a2).toNat).toInt))) (mPost D E h q (mA E h q sz)) (mA E h q sz)) 0 0 (mA E h q sz) := by
  refine m_enter (by decide) rfl (Nat.le_of_ble_eq_true rfl) (fun p e s m below meth c ls AV QQ H locs hQQ X Y hZ hA hr hlk hml hl => ?_)
  have Y : mH D E (mA E h q sz) s.heap h q I J B G H locs := Y
  have S : rS [] [] I B I B := rS_rf hT
  have hl : lv_has ls 3 [(0, .ref h), (1, .int (iI a1)), (2, .int (iI a2))] := hl
  refine lv_aload_n X.1 X.2.1 d_M_has_0 rfl (lv_at hl 0 rfl) ?_
  refine m_get X Y 37 (by decide) lk_from (gf_from _ _ _) rfl d_M_has_1 ?_
  refine lv_bipush (v := iI 16) X.1 X.2.1 d_M_has_4 (by decide) ?_
  refine lv_iload_n X.1 X.2.1 d_M_has_6 rfl (lv_at hl 1 rfl) ?_
  refine z_imul X.1 X.2.1 d_M_has_7 ?_
  refine lv_iload_n X.1 X.2.1 d_M_has_8 rfl (lv_at hl 2 rfl) ?_
  refine z_iadd X.1 X.2.1 d_M_has_9 ?_
  refine r_iald X Y S (aw_from _ _ _ _ _ _ _) rfl (by omega) (show (16 * a1) + a2 < ((192 : Nat) : Int) by omega) (by omega) d_M_has_10 (fun z101 q101 l101 u101 => ?_)
  refine z_if_lt (tgt := 18) X.1 X.2.1 d_M_has_11 (by decide) ⟨by omega, by omega⟩ (fun h102 => ?_) (fun h102 => ?_)
  · refine lv_iconst (v := iI 0) X.1 X.2.1 d_M_has_18 (by decide) ?_
    exact m_retz hQQ X Y hr hlk (iI_bool (by omega) (by omega)).1 ⟨S, 0, rfl, ⟨by omega, by omega, by omega⟩⟩ d_M_has_19
  · refine lv_iconst (v := iI 1) X.1 X.2.1 d_M_has_14 (by decide) ?_
    refine lv_goto (tgt := 19) X.1 X.2.1 d_M_has_15 (by decide) ?_
    exact m_retz hQQ X Y hr hlk (iI_bool (by omega) (by omega)).1 ⟨S, 1, rfl, ⟨by omega, by omega, by omega⟩⟩ d_M_has_19
set_option maxHeartbeats 4000000 in
set_option maxRecDepth 100000 in
theorem r_M_numberAt (l : Launch) (D : mD) (E : mE) (h : Nat) (q : Nat → Nat) (sz : Nat) (I : Nat → Int32) (J : Nat → Int64) (B : Nat → Nat → Int32) (G : Nat → Nat → Int64) (a1 : Int) (l_a1 : 0 ≤ a1) (u_a1 : a1 ≤ 11) (a2 : Int) (l_a2 : 0 ≤ a2) (u_a2 : a2 ≤ 15) (hT : rT I B) (f_P1 : pG1 I) (f_P2 : pG2 (B 37) (B 38)) : Met l y_M_numberAt (k_M_numberAt :: lw_tg) (mR 4 141) (va_Pc [.ref h, .int (iI a1), .int (iI a2)] (mPre D E h q (I, J, B, G) sz)) (va_Ql (rPl [39, 40] [] I B (fun (z : Int64) (u : mS) => pG1 u.1)) (mPost D E h q (mA E h q sz)) (mA E h q sz)) 0 0 (mA E h q sz) := by
  refine m_enter (by decide) rfl (Nat.le_of_ble_eq_true rfl) (fun p e s m below meth c ls AV QQ H locs hQQ X Y hZ hA hr hlk hml hl => ?_)
  have Y : mH D E (mA E h q sz) s.heap h q I J B G H locs := Y
  have S : rS [39, 40] [] I B I B := rS_rf hT
  have hl : lv_has ls 3 [(0, .ref h), (1, .int (iI a1)), (2, .int (iI a2))] := hl
  refine lv_aload_n X.1 X.2.1 d_M_numberAt_0 rfl (lv_at hl 0 rfl) ?_
  refine lv_aload_n X.1 X.2.1 d_M_numberAt_1 rfl (lv_at hl 0 rfl) ?_
  refine lv_iload_n X.1 X.2.1 d_M_numberAt_2 rfl (lv_at hl 1 rfl) ?_
  refine lv_iload_n X.1 X.2.1 d_M_numberAt_3 rfl (lv_at hl 2 rfl) ?_
  refine r_ni (m_run (As := [.int (iI a1), .int (iI a2)]) (rest := [.ref h]) (n := 2) X Y hZ hA hml hl.1 (r_M_a l D E h q H.size I J B G a1 (by omega) (by omega) a2 (by omega) (by omega) S.1) kl_M_a ks_M_a kx_M_a ki_M_a ini_M hd_M_a ⟨Nat.le_of_ble_eq_true rfl, Nat.le_of_ble_eq_true rfl⟩ rfl (Nat.le_of_ble_eq_true rfl) d_M_numberAt_4 ⟨Nat.le_refl _, Nat.le_refl _⟩) X Y hA S (by decide) (by decide) (fun z101 u H locs Y S s101 p101 => ?_)
  obtain ⟨I101, J101, B101, G101⟩ := u
  dsimp only at Y S s101 p101
  have i101 : I = I101 := (funext (fun j => s101.2.1 j (by simp))).symm
  subst i101
  have b101 : B = B101 := (funext (fun j => s101.2.2 j (by simp))).symm
  subst b101
  obtain ⟨l101, u101, x101⟩ := p101
  refine lv_aload_n X.1 X.2.1 d_M_numberAt_7 rfl (lv_at hl 0 rfl) ?_
  refine lv_iload_n X.1 X.2.1 d_M_numberAt_8 rfl (lv_at hl 1 rfl) ?_
  refine lv_iload_n X.1 X.2.1 d_M_numberAt_9 rfl (lv_at hl 2 rfl) ?_
  refine r_ni (m_run (As := [.int (iI a1), .int (iI a2)]) (rest := [.int (iI z101), .ref h]) (n := 2) X Y hZ hA hml hl.1 (r_M_b l D E h q H.size I J101 B G101 a1 (by omega) (by omega) a2 (by omega) (by omega) S.1) kl_M_b ks_M_b kx_M_b ki_M_b ini_M hd_M_b ⟨Nat.le_of_ble_eq_true rfl, Nat.le_of_ble_eq_true rfl⟩ rfl (Nat.le_of_ble_eq_true rfl) d_M_numberAt_10 ⟨Nat.le_refl _, Nat.le_refl _⟩) X Y hA S (by decide) (by decide) (fun z102 u H locs Y S s102 p102 => ?_)
  obtain ⟨I102, J102, B102, G102⟩ := u
  dsimp only at Y S s102 p102
  have i102 : I = I102 := (funext (fun j => s102.2.1 j (by simp))).symm
  subst i102
  have b102 : B = B102 := (funext (fun j => s102.2.2 j (by simp))).symm
  subst b102
  obtain ⟨l102, u102, x102⟩ := p102
  have p103 : pr z101 z102 := by rw [x101, x102]; exact (pG2_cg rfl rfl (pG2_cg rfl rfl f_P2)) (16 * a1 + a2 : Int).toNat (by omega)
  unfold pr at p103
  refine lv_ldc2 (v := (-9000000000)) X.1 X.2.1 X.2.2.2.1 (X.2.2.1 _ cl_M_542) d_M_numberAt_13 ?_
  refine lv_ldc2 (v := (9000000000)) X.1 X.2.1 X.2.2.2.1 (X.2.2.1 _ cl_M_544) d_M_numberAt_16 ?_
  refine r_ni (m_run (As := [.int (iI z101), .int (iI z102), .long ((-9000000000)), .long ((9000000000))]) (rest := []) (n := 4) X Y hZ hA hml hl.1 (r_M_number l D E h q H.size I J102 B G102 z101 (by omega) (by omega) z102 (by omega) (by omega) ((-9000000000)) ((9000000000)) S.1 (B 0) rfl (pG1_cg rfl rfl (pG1_cg rfl rfl f_P1)) (by omega) (by omega)) kl_M_number ks_M_number kx_M_number ki_M_number ini_M hd_M_number ⟨Nat.le_of_ble_eq_true rfl, Nat.le_of_ble_eq_true rfl⟩ rfl (Nat.le_of_ble_eq_true rfl) d_M_numberAt_19 ⟨Nat.le_refl _, Nat.le_refl _⟩) X Y hA S (by decide) (by decide) (fun z104 u H locs Y S s104 p104 => ?_)
  obtain ⟨I104, J104, B104, G104⟩ := u
  dsimp only at Y S s104 p104
  have b104 : B = B104 := (funext (fun j => s104.2.2 j (by simp))).symm
  subst b104
  obtain ⟨l104, u104, x104, g104_P1⟩ := p104
  refine lv_pop X.1 X.2.1 d_M_numberAt_22 rfl ?_
  refine lv_aload_n X.1 X.2.1 d_M_numberAt_23 rfl (lv_at hl 0 rfl) ?_
  refine m_get X Y 41 (by decide) lk_value (gf_value _ _ _) rfl d_M_numberAt_24 ?_
  exact m_retl hQQ X Y hr hlk ⟨S, g104_P1⟩ d_M_numberAt_27
set_option maxHeartbeats 4000000 in
set_option maxRecDepth 100000 in
theorem r_M_timeOf (l : Launch) (D : mD) (E : mE) (h : Nat) (q : Nat → Nat) (sz : Nat) (I : Nat → Int32) (J : Nat → Int64) (B : Nat → Nat → Int32) (G : Nat → Nat → Int64) (a1 : Int) (l_a1 : 0 ≤ a1) (u_a1 : a1 ≤ 11) (a2 : Int) (l_a2 : 0 ≤ a2) (u_a2 : a2 ≤ 15) (hT : rT I B) (f_P1 : pG1 I) (f_P2 : pG2 (B 37) (B 38)) : Met l y_M_timeOf (k_M_timeOf :: lw_tg) (mR 3 112) (va_Pc [.ref h, .int (iI a1), .int (iI a2)] (mPre D E h q (I, J, B, G) sz)) (va_Ql (rPl [39, 40] [] I B (fun (z : Int64) (u : mS) => pG1 u.1)) (mPost D E h q (mA E h q sz)) (mA E h q sz)) 0 0 (mA E h q sz) := by
  refine m_enter (by decide) rfl (Nat.le_of_ble_eq_true rfl) (fun p e s m below meth c ls AV QQ H locs hQQ X Y hZ hA hr hlk hml hl => ?_)
  have Y : mH D E (mA E h q sz) s.heap h q I J B G H locs := Y
  have S : rS [39, 40] [] I B I B := rS_rf hT
  have hl : lv_has ls 3 [(0, .ref h), (1, .int (iI a1)), (2, .int (iI a2))] := hl
  refine lv_aload_n X.1 X.2.1 d_M_timeOf_0 rfl (lv_at hl 0 rfl) ?_
  refine lv_aload_n X.1 X.2.1 d_M_timeOf_1 rfl (lv_at hl 0 rfl) ?_
  refine lv_iload_n X.1 X.2.1 d_M_timeOf_2 rfl (lv_at hl 1 rfl) ?_
  refine lv_iload_n X.1 X.2.1 d_M_timeOf_3 rfl (lv_at hl 2 rfl) ?_
  refine r_ni (m_run (As := [.int (iI a1), .int (iI a2)]) (rest := [.ref h]) (n := 2) X Y hZ hA hml hl.1 (r_M_a l D E h q H.size I J B G a1 (by omega) (by omega) a2 (by omega) (by omega) S.1) kl_M_a ks_M_a kx_M_a ki_M_a ini_M hd_M_a ⟨Nat.le_of_ble_eq_true rfl, Nat.le_of_ble_eq_true rfl⟩ rfl (Nat.le_of_ble_eq_true rfl) d_M_timeOf_4 ⟨Nat.le_refl _, Nat.le_refl _⟩) X Y hA S (by decide) (by decide) (fun z101 u H locs Y S s101 p101 => ?_)
  obtain ⟨I101, J101, B101, G101⟩ := u
  dsimp only at Y S s101 p101
  have i101 : I = I101 := (funext (fun j => s101.2.1 j (by simp))).symm
  subst i101
  have b101 : B = B101 := (funext (fun j => s101.2.2 j (by simp))).symm
  subst b101
  obtain ⟨l101, u101, x101⟩ := p101
  refine lv_aload_n X.1 X.2.1 d_M_timeOf_7 rfl (lv_at hl 0 rfl) ?_
  refine lv_iload_n X.1 X.2.1 d_M_timeOf_8 rfl (lv_at hl 1 rfl) ?_
  refine lv_iload_n X.1 X.2.1 d_M_timeOf_9 rfl (lv_at hl 2 rfl) ?_
  refine r_ni (m_run (As := [.int (iI a1), .int (iI a2)]) (rest := [.int (iI z101), .ref h]) (n := 2) X Y hZ hA hml hl.1 (r_M_b l D E h q H.size I J101 B G101 a1 (by omega) (by omega) a2 (by omega) (by omega) S.1) kl_M_b ks_M_b kx_M_b ki_M_b ini_M hd_M_b ⟨Nat.le_of_ble_eq_true rfl, Nat.le_of_ble_eq_true rfl⟩ rfl (Nat.le_of_ble_eq_true rfl) d_M_timeOf_10 ⟨Nat.le_refl _, Nat.le_refl _⟩) X Y hA S (by decide) (by decide) (fun z102 u H locs Y S s102 p102 => ?_)
  obtain ⟨I102, J102, B102, G102⟩ := u
  dsimp only at Y S s102 p102
  have i102 : I = I102 := (funext (fun j => s102.2.1 j (by simp))).symm
  subst i102
  have b102 : B = B102 := (funext (fun j => s102.2.2 j (by simp))).symm
  subst b102
  obtain ⟨l102, u102, x102⟩ := p102
  have p103 : pr z101 z102 := by rw [x101, x102]; exact (pG2_cg rfl rfl (pG2_cg rfl rfl f_P2)) (16 * a1 + a2 : Int).toNat (by omega)
  unfold pr at p103
  refine lv_bipush (v := iI 24) X.1 X.2.1 d_M_timeOf_13 (by decide) ?_
  refine r_ni (m_run (As := [.int (iI z101), .int (iI z102), .int (iI 24)]) (rest := []) (n := 3) X Y hZ hA hml hl.1 (r_M_element l D E h q H.size I J102 B G102 z101 (by omega) (by omega) z102 (by omega) (by omega) 24 (by omega) (by omega) S.1 (B 0) rfl (pG1_cg rfl rfl (pG1_cg rfl rfl f_P1)) (by omega) (by omega)) kl_M_element ks_M_element kx_M_element ki_M_element ini_M hd_M_element ⟨Nat.le_of_ble_eq_true rfl, Nat.le_of_ble_eq_true rfl⟩ rfl (Nat.le_of_ble_eq_true rfl) d_M_timeOf_15 ⟨Nat.le_refl _, Nat.le_refl _⟩) X Y hA S (by decide) (by decide) (fun z104 u H locs Y S s104 p104 => ?_)
  obtain ⟨I104, J104, B104, G104⟩ := u
  dsimp only at Y S s104 p104
  have b104 : B = B104 := (funext (fun j => s104.2.2 j (by simp))).symm
  subst b104
  obtain ⟨l104, u104, x104, st104⟩ := p104
  obtain ⟨x105, y105, ex105, ey105, lx105, ly105, uy105, dy105, iy105, ky105⟩ := st104
  refine lv_pop X.1 X.2.1 d_M_timeOf_18 rfl ?_
  refine lv_aload_n X.1 X.2.1 d_M_timeOf_19 rfl (lv_at hl 0 rfl) ?_
  refine lv_aload_n X.1 X.2.1 d_M_timeOf_20 rfl (lv_at hl 0 rfl) ?_
  refine r_get0 X Y (by decide) lk_inside (gf_inside _ _ _) rfl ex105 d_M_timeOf_21 ?_
  refine r_nl (m_run (As := [.int (iI x105)]) (rest := []) (n := 1) X Y hZ hA hml hl.1 (r_M_timeAt l D E h q H.size I104 J104 B G104 x105 (by omega) (by omega) S.1 (B 0) rfl) kl_M_timeAt ks_M_timeAt kx_M_timeAt ki_M_timeAt ini_M hd_M_timeAt ⟨Nat.le_of_ble_eq_true rfl, Nat.le_of_ble_eq_true rfl⟩ rfl (Nat.le_of_ble_eq_true rfl) d_M_timeOf_24 ⟨Nat.le_refl _, Nat.le_refl _⟩) X Y hA S (by decide) (by decide) (fun v106 u H locs Y S s106 p106 => ?_)
  obtain ⟨I106, J106, B106, G106⟩ := u
  dsimp only at Y S s106 p106
  have i106 : I104 = I106 := (funext (fun j => s106.2.1 j (by simp))).symm
  subst i106
  have b106 : B = B106 := (funext (fun j => s106.2.2 j (by simp))).symm
  subst b106
  have x106 := p106
  exact m_retl hQQ X Y hr hlk ⟨S, (pG1_cg rfl rfl (show pG1 I104 from ⟨x105, y105, ex105, ey105, by omega, by omega, by omega, by omega⟩))⟩ d_M_timeOf_27
set_option maxHeartbeats 4000000 in
set_option maxRecDepth 100000 in
theorem r_M_flagsAt (l : Launch) (D : mD) (E : mE) (h : Nat) (q : Nat → Nat) (sz : Nat) (I : Nat → Int32) (J : Nat → Int64) (B : Nat → Nat → Int32) (G : Nat → Nat → Int64) (a1 : Int) (l_a1 : 0 ≤ a1) (u_a1 : a1 ≤ 11) (a2 : Int) (l_a2 : 0 ≤ a2) (u_a2 : a2 ≤ 15) (hT : rT I B) (f_P1 : pG1 I) (f_P2 : pG2 (B 37) (B 38)) : Met l y_M_flagsAt (k_M_flagsAt :: lw_tg) (mR 2 87) (va_Pc [.ref h, .int (iI a1), .int (iI a2)] (mPre D E h q (I, J, B, G) sz)) (va_Qi (rPi [39, 40] [] I B (fun (z : Int) (u : mS) => (-2147483648) ≤ z ∧ z ≤ 2147483647 ∧ pG1 u.1)) (mPost D E h q (mA E h q sz)) (mA E h q sz)) 0 0 (mA E h q sz) := by
  refine m_enter (by decide) rfl (Nat.le_of_ble_eq_true rfl) (fun p e s m below meth c ls AV QQ H locs hQQ X Y hZ hA hr hlk hml hl => ?_)
  have Y : mH D E (mA E h q sz) s.heap h q I J B G H locs := Y
  have S : rS [39, 40] [] I B I B := rS_rf hT
  have hl : lv_has ls 4 [(0, .ref h), (1, .int (iI a1)), (2, .int (iI a2))] := hl
  refine lv_aload_n X.1 X.2.1 d_M_flagsAt_0 rfl (lv_at hl 0 rfl) ?_
  refine lv_aload_n X.1 X.2.1 d_M_flagsAt_1 rfl (lv_at hl 0 rfl) ?_
  refine lv_iload_n X.1 X.2.1 d_M_flagsAt_2 rfl (lv_at hl 1 rfl) ?_
  refine lv_iload_n X.1 X.2.1 d_M_flagsAt_3 rfl (lv_at hl 2 rfl) ?_
  refine r_ni (m_run (As := [.int (iI a1), .int (iI a2)]) (rest := [.ref h]) (n := 2) X Y hZ hA hml hl.1 (r_M_a l D E h q H.size I J B G a1 (by omega) (by omega) a2 (by omega) (by omega) S.1) kl_M_a ks_M_a kx_M_a ki_M_a ini_M hd_M_a ⟨Nat.le_of_ble_eq_true rfl, Nat.le_of_ble_eq_true rfl⟩ rfl (Nat.le_of_ble_eq_true rfl) d_M_flagsAt_4 ⟨Nat.le_refl _, Nat.le_refl _⟩) X Y hA S (by decide) (by decide) (fun z101 u H locs Y S s101 p101 => ?_)
  obtain ⟨I101, J101, B101, G101⟩ := u
  dsimp only at Y S s101 p101
  have i101 : I = I101 := (funext (fun j => s101.2.1 j (by simp))).symm
  subst i101
  have b101 : B = B101 := (funext (fun j => s101.2.2 j (by simp))).symm
  subst b101
  obtain ⟨l101, u101, x101⟩ := p101
  refine lv_aload_n X.1 X.2.1 d_M_flagsAt_7 rfl (lv_at hl 0 rfl) ?_
  refine lv_iload_n X.1 X.2.1 d_M_flagsAt_8 rfl (lv_at hl 1 rfl) ?_
  refine lv_iload_n X.1 X.2.1 d_M_flagsAt_9 rfl (lv_at hl 2 rfl) ?_
  refine r_ni (m_run (As := [.int (iI a1), .int (iI a2)]) (rest := [.int (iI z101), .ref h]) (n := 2) X Y hZ hA hml hl.1 (r_M_b l D E h q H.size I J101 B G101 a1 (by omega) (by omega) a2 (by omega) (by omega) S.1) kl_M_b ks_M_b kx_M_b ki_M_b ini_M hd_M_b ⟨Nat.le_of_ble_eq_true rfl, Nat.le_of_ble_eq_true rfl⟩ rfl (Nat.le_of_ble_eq_true rfl) d_M_flagsAt_10 ⟨Nat.le_refl _, Nat.le_refl _⟩) X Y hA S (by decide) (by decide) (fun z102 u H locs Y S s102 p102 => ?_)
  obtain ⟨I102, J102, B102, G102⟩ := u
  dsimp only at Y S s102 p102
  have i102 : I = I102 := (funext (fun j => s102.2.1 j (by simp))).symm
  subst i102
  have b102 : B = B102 := (funext (fun j => s102.2.2 j (by simp))).symm
  subst b102
  obtain ⟨l102, u102, x102⟩ := p102
  have p103 : pr z101 z102 := by rw [x101, x102]; exact (pG2_cg rfl rfl (pG2_cg rfl rfl f_P2)) (16 * a1 + a2 : Int).toNat (by omega)
  unfold pr at p103
  refine lv_iconst (v := iI 3) X.1 X.2.1 d_M_flagsAt_13 (by decide) ?_
  refine r_ni (m_run (As := [.int (iI z101), .int (iI z102), .int (iI 3)]) (rest := []) (n := 3) X Y hZ hA hml hl.1 (r_M_element l D E h q H.size I J102 B G102 z101 (by omega) (by omega) z102 (by omega) (by omega) 3 (by omega) (by omega) S.1 (B 0) rfl (pG1_cg rfl rfl (pG1_cg rfl rfl f_P1)) (by omega) (by omega)) kl_M_element ks_M_element kx_M_element ki_M_element ini_M hd_M_element ⟨Nat.le_of_ble_eq_true rfl, Nat.le_of_ble_eq_true rfl⟩ rfl (Nat.le_of_ble_eq_true rfl) d_M_flagsAt_14 ⟨Nat.le_refl _, Nat.le_refl _⟩) X Y hA S (by decide) (by decide) (fun z104 u H locs Y S s104 p104 => ?_)
  obtain ⟨I104, J104, B104, G104⟩ := u
  dsimp only at Y S s104 p104
  have b104 : B = B104 := (funext (fun j => s104.2.2 j (by simp))).symm
  subst b104
  obtain ⟨l104, u104, x104, st104⟩ := p104
  obtain ⟨x105, y105, ex105, ey105, lx105, ly105, uy105, dy105, iy105, ky105⟩ := st104
  refine lv_pop X.1 X.2.1 d_M_flagsAt_17 rfl ?_
  refine lv_aload_n X.1 X.2.1 d_M_flagsAt_18 rfl (lv_at hl 0 rfl) ?_
  refine r_get0 X Y (by decide) lk_inside (gf_inside _ _ _) rfl ex105 d_M_flagsAt_19 ?_
  refine lv_iconst (v := iI 1) X.1 X.2.1 d_M_flagsAt_22 (by decide) ?_
  refine z_iadd X.1 X.2.1 d_M_flagsAt_23 ?_
  refine lv_istore_n (lv' := [(3, .int (iI (x105 + 1))), (0, .ref h), (1, .int (iI a1)), (2, .int (iI a2))]) X.1 X.2.1 d_M_flagsAt_24 rfl hl (by decide) rfl (fun ls hl => ?_)
  refine lv_aload_n X.1 X.2.1 d_M_flagsAt_25 rfl (lv_at hl 1 rfl) ?_
  refine m_get X Y 0 (by decide) lk_mem (gf_mem _ _ _) rfl d_M_flagsAt_26 ?_
  refine lv_iload_n X.1 X.2.1 d_M_flagsAt_29 rfl (lv_at hl 0 rfl) ?_
  refine r_bald X Y S (aw_mem _ _ _ _ _ _ _) rfl (by omega) (show x105 + 1 < ((60000 : Nat) : Int) by omega) (by omega) d_M_flagsAt_30 (fun z106 q106 l106 u106 => ?_)
  refine lv_sipush (v := iI 255) X.1 X.2.1 d_M_flagsAt_31 (by decide) ?_
  refine z_iand X.1 X.2.1 (by omega) (by omega) d_M_flagsAt_34 (fun z107 l107 u107 => ?_)
  refine lv_bipush (v := iI 24) X.1 X.2.1 d_M_flagsAt_35 (by decide) ?_
  refine lv_ishl X.1 X.2.1 d_M_flagsAt_37 ?_
  refine t_u (fun z108 l108 u108 => ?_)
  refine lv_aload_n X.1 X.2.1 d_M_flagsAt_38 rfl (lv_at hl 1 rfl) ?_
  refine m_get X Y 0 (by decide) lk_mem (gf_mem _ _ _) rfl d_M_flagsAt_39 ?_
  refine lv_iload_n X.1 X.2.1 d_M_flagsAt_42 rfl (lv_at hl 0 rfl) ?_
  refine lv_iconst (v := iI 1) X.1 X.2.1 d_M_flagsAt_43 (by decide) ?_
  refine z_iadd X.1 X.2.1 d_M_flagsAt_44 ?_
  refine r_bald X Y S (aw_mem _ _ _ _ _ _ _) rfl (by omega) (show (x105 + 1) + 1 < ((60000 : Nat) : Int) by omega) (by omega) d_M_flagsAt_45 (fun z109 q109 l109 u109 => ?_)
  refine lv_sipush (v := iI 255) X.1 X.2.1 d_M_flagsAt_46 (by decide) ?_
  refine z_iand X.1 X.2.1 (by omega) (by omega) d_M_flagsAt_49 (fun z110 l110 u110 => ?_)
  refine lv_bipush (v := iI 16) X.1 X.2.1 d_M_flagsAt_50 (by decide) ?_
  refine lv_ishl X.1 X.2.1 d_M_flagsAt_52 ?_
  refine t_u (fun z111 l111 u111 => ?_)
  refine lv_ior X.1 X.2.1 d_M_flagsAt_53 ?_
  refine t_u (fun z112 l112 u112 => ?_)
  refine lv_aload_n X.1 X.2.1 d_M_flagsAt_54 rfl (lv_at hl 1 rfl) ?_
  refine m_get X Y 0 (by decide) lk_mem (gf_mem _ _ _) rfl d_M_flagsAt_55 ?_
  refine lv_iload_n X.1 X.2.1 d_M_flagsAt_58 rfl (lv_at hl 0 rfl) ?_
  refine lv_iconst (v := iI 2) X.1 X.2.1 d_M_flagsAt_59 (by decide) ?_
  refine z_iadd X.1 X.2.1 d_M_flagsAt_60 ?_
  refine r_bald X Y S (aw_mem _ _ _ _ _ _ _) rfl (by omega) (show (x105 + 1) + 2 < ((60000 : Nat) : Int) by omega) (by omega) d_M_flagsAt_61 (fun z113 q113 l113 u113 => ?_)
  refine lv_sipush (v := iI 255) X.1 X.2.1 d_M_flagsAt_62 (by decide) ?_
  refine z_iand X.1 X.2.1 (by omega) (by omega) d_M_flagsAt_65 (fun z114 l114 u114 => ?_)
  refine lv_bipush (v := iI 8) X.1 X.2.1 d_M_flagsAt_66 (by decide) ?_
  refine lv_ishl X.1 X.2.1 d_M_flagsAt_68 ?_
  refine t_u (fun z115 l115 u115 => ?_)
  refine lv_ior X.1 X.2.1 d_M_flagsAt_69 ?_
  refine t_u (fun z116 l116 u116 => ?_)
  refine lv_aload_n X.1 X.2.1 d_M_flagsAt_70 rfl (lv_at hl 1 rfl) ?_
  refine m_get X Y 0 (by decide) lk_mem (gf_mem _ _ _) rfl d_M_flagsAt_71 ?_
  refine lv_iload_n X.1 X.2.1 d_M_flagsAt_74 rfl (lv_at hl 0 rfl) ?_
  refine lv_iconst (v := iI 3) X.1 X.2.1 d_M_flagsAt_75 (by decide) ?_
  refine z_iadd X.1 X.2.1 d_M_flagsAt_76 ?_
  refine r_bald X Y S (aw_mem _ _ _ _ _ _ _) rfl (by omega) (show (x105 + 1) + 3 < ((60000 : Nat) : Int) by omega) (by omega) d_M_flagsAt_77 (fun z117 q117 l117 u117 => ?_)
  refine lv_sipush (v := iI 255) X.1 X.2.1 d_M_flagsAt_78 (by decide) ?_
  refine z_iand X.1 X.2.1 (by omega) (by omega) d_M_flagsAt_81 (fun z118 l118 u118 => ?_)
  refine lv_ior X.1 X.2.1 d_M_flagsAt_82 ?_
  refine t_u (fun z119 l119 u119 => ?_)
  exact m_reti hQQ X Y hr hlk ⟨S, z119, rfl, ⟨by omega, by omega, (show pG1 I104 from ⟨x105, y105, ex105, ey105, by omega, by omega, by omega, by omega⟩)⟩⟩ d_M_flagsAt_83
set_option maxHeartbeats 4000000 in
set_option maxRecDepth 100000 in
theorem r_M_hasMoreFlags (l : Launch) (D : mD) (E : mE) (h : Nat) (q : Nat → Nat) (sz : Nat) (I : Nat → Int32) (J : Nat → Int64) (B : Nat → Nat → Int32) (G : Nat → Nat → Int64) (a1 : Int) (l_a1 : 0 ≤ a1) (u_a1 : a1 ≤ 11) (a2 : Int) (l_a2 : 0 ≤ a2) (u_a2 : a2 ≤ 15) (hT : rT I B) (f_P1 : pG1 I) (f_P2 : pG2 (B 37) (B 38)) : Met l y_M_hasMoreFlags (k_M_hasMoreFlags :: lw_tg) (mR 2 87) (va_Pc [.ref h, .int (iI a1), .int (iI a2)] (mPre D E h q (I, J, B, G) sz)) (va_Qi (rPi [39, 40] [] I B (fun (z : Int) (u : mS) => 0 ≤ z ∧ z ≤ 1 ∧ pG1 u.1)) (mPost D E h q (mA E h q sz)) (mA E h q sz)) 0 0 (mA E h q sz) := by
  refine m_enter (by decide) rfl (Nat.le_of_ble_eq_true rfl) (fun p e s m below meth c ls AV QQ H locs hQQ X Y hZ hA hr hlk hml hl => ?_)
  have Y : mH D E (mA E h q sz) s.heap h q I J B G H locs := Y
  have S : rS [39, 40] [] I B I B := rS_rf hT
  have hl : lv_has ls 5 [(0, .ref h), (1, .int (iI a1)), (2, .int (iI a2))] := hl
  refine lv_aload_n X.1 X.2.1 d_M_hasMoreFlags_0 rfl (lv_at hl 0 rfl) ?_
  refine lv_aload_n X.1 X.2.1 d_M_hasMoreFlags_1 rfl (lv_at hl 0 rfl) ?_
  refine lv_iload_n X.1 X.2.1 d_M_hasMoreFlags_2 rfl (lv_at hl 1 rfl) ?_
  refine lv_iload_n X.1 X.2.1 d_M_hasMoreFlags_3 rfl (lv_at hl 2 rfl) ?_
  refine r_ni (m_run (As := [.int (iI a1), .int (iI a2)]) (rest := [.ref h]) (n := 2) X Y hZ hA hml hl.1 (r_M_a l D E h q H.size I J B G a1 (by omega) (by omega) a2 (by omega) (by omega) S.1) kl_M_a ks_M_a kx_M_a ki_M_a ini_M hd_M_a ⟨Nat.le_of_ble_eq_true rfl, Nat.le_of_ble_eq_true rfl⟩ rfl (Nat.le_of_ble_eq_true rfl) d_M_hasMoreFlags_4 ⟨Nat.le_refl _, Nat.le_refl _⟩) X Y hA S (by decide) (by decide) (fun z101 u H locs Y S s101 p101 => ?_)
  obtain ⟨I101, J101, B101, G101⟩ := u
  dsimp only at Y S s101 p101
  have i101 : I = I101 := (funext (fun j => s101.2.1 j (by simp))).symm
  subst i101
  have b101 : B = B101 := (funext (fun j => s101.2.2 j (by simp))).symm
  subst b101
  obtain ⟨l101, u101, x101⟩ := p101
  refine lv_aload_n X.1 X.2.1 d_M_hasMoreFlags_7 rfl (lv_at hl 0 rfl) ?_
  refine lv_iload_n X.1 X.2.1 d_M_hasMoreFlags_8 rfl (lv_at hl 1 rfl) ?_
  refine lv_iload_n X.1 X.2.1 d_M_hasMoreFlags_9 rfl (lv_at hl 2 rfl) ?_
  refine r_ni (m_run (As := [.int (iI a1), .int (iI a2)]) (rest := [.int (iI z101), .ref h]) (n := 2) X Y hZ hA hml hl.1 (r_M_b l D E h q H.size I J101 B G101 a1 (by omega) (by omega) a2 (by omega) (by omega) S.1) kl_M_b ks_M_b kx_M_b ki_M_b ini_M hd_M_b ⟨Nat.le_of_ble_eq_true rfl, Nat.le_of_ble_eq_true rfl⟩ rfl (Nat.le_of_ble_eq_true rfl) d_M_hasMoreFlags_10 ⟨Nat.le_refl _, Nat.le_refl _⟩) X Y hA S (by decide) (by decide) (fun z102 u H locs Y S s102 p102 => ?_)
  obtain ⟨I102, J102, B102, G102⟩ := u
  dsimp only at Y S s102 p102
  have i102 : I = I102 := (funext (fun j => s102.2.1 j (by simp))).symm
  subst i102
  have b102 : B = B102 := (funext (fun j => s102.2.2 j (by simp))).symm
  subst b102
  obtain ⟨l102, u102, x102⟩ := p102
  have p103 : pr z101 z102 := by rw [x101, x102]; exact (pG2_cg rfl rfl (pG2_cg rfl rfl f_P2)) (16 * a1 + a2 : Int).toNat (by omega)
  unfold pr at p103
  refine lv_iconst (v := iI 3) X.1 X.2.1 d_M_hasMoreFlags_13 (by decide) ?_
  refine r_ni (m_run (As := [.int (iI z101), .int (iI z102), .int (iI 3)]) (rest := []) (n := 3) X Y hZ hA hml hl.1 (r_M_element l D E h q H.size I J102 B G102 z101 (by omega) (by omega) z102 (by omega) (by omega) 3 (by omega) (by omega) S.1 (B 0) rfl (pG1_cg rfl rfl (pG1_cg rfl rfl f_P1)) (by omega) (by omega)) kl_M_element ks_M_element kx_M_element ki_M_element ini_M hd_M_element ⟨Nat.le_of_ble_eq_true rfl, Nat.le_of_ble_eq_true rfl⟩ rfl (Nat.le_of_ble_eq_true rfl) d_M_hasMoreFlags_14 ⟨Nat.le_refl _, Nat.le_refl _⟩) X Y hA S (by decide) (by decide) (fun z104 u H locs Y S s104 p104 => ?_)
  obtain ⟨I104, J104, B104, G104⟩ := u
  dsimp only at Y S s104 p104
  have b104 : B = B104 := (funext (fun j => s104.2.2 j (by simp))).symm
  subst b104
  obtain ⟨l104, u104, x104, st104⟩ := p104
  obtain ⟨x105, y105, ex105, ey105, lx105, ly105, uy105, dy105, iy105, ky105⟩ := st104
  refine lv_pop X.1 X.2.1 d_M_hasMoreFlags_17 rfl ?_
  refine lv_iconst (v := iI 0) X.1 X.2.1 d_M_hasMoreFlags_18 (by decide) ?_
  refine lv_istore_n (lv' := [(3, .int (iI 0)), (0, .ref h), (1, .int (iI a1)), (2, .int (iI a2))]) X.1 X.2.1 d_M_hasMoreFlags_19 rfl hl (by decide) rfl (fun ls hl => ?_)
  refine lv_aload_n X.1 X.2.1 d_M_hasMoreFlags_20 rfl (lv_at hl 1 rfl) ?_
  refine r_get0 X Y (by decide) lk_inside (gf_inside _ _ _) rfl ex105 d_M_hasMoreFlags_21 ?_
  refine lv_iconst (v := iI 5) X.1 X.2.1 d_M_hasMoreFlags_24 (by decide) ?_
  refine z_iadd X.1 X.2.1 d_M_hasMoreFlags_25 ?_
  have J108 : ∀ (n110 : Nat) (z106 : Int) (z107 : Int) (H : Heap) (locs : List Loc) (ls : Array Slot), (30005 - z107).toNat = n110 → (0 ≤ z106) → (z106 ≤ 1) → (5 ≤ z107) → (z107 ≤ 30005) → mH D E (mA E h q sz) s.heap h q I104 J104 B G104 H locs → rS [39, 40] [] I B I104 B → lv_has ls 5 [(0, .ref h), (3, .int (iI z106)), (4, .int (iI z107))] → W p l e (mR 2 87) s m AV below meth c H locs 0 0 QQ (F0 m 28 ls []) := by
    intro n110
    induction n110 using Nat.strongRecOn with
    | ind n110 ih109 =>
      intro z106 z107 H locs ls hm111 l106 u106 l107 u107 Y S hl
      refine lv_iload X.1 X.2.1 d_M_hasMoreFlags_28 (lv_at hl 2 rfl) ?_
      refine lv_aload_n X.1 X.2.1 d_M_hasMoreFlags_30 rfl (lv_at hl 0 rfl) ?_
      refine r_get0 X Y (by decide) lk_behind (gf_behind _ _ _) rfl ey105 d_M_hasMoreFlags_31 ?_
      refine z_icmp_ge (tgt := 63) X.1 X.2.1 d_M_hasMoreFlags_34 (by decide) ⟨by omega, by omega⟩ ⟨by omega, by omega⟩ (fun h112 => ?_) (fun h112 => ?_)
      · refine lv_iload_n X.1 X.2.1 d_M_hasMoreFlags_63 rfl (lv_at hl 1 rfl) ?_
        exact m_retz hQQ X Y hr hlk (iI_bool (by omega) (by omega)).1 ⟨S, z106, rfl, ⟨by omega, by omega, (show pG1 I104 from ⟨x105, y105, ex105, ey105, by omega, by omega, by omega, by omega⟩)⟩⟩ d_M_hasMoreFlags_64
      · refine lv_iload_n X.1 X.2.1 d_M_hasMoreFlags_37 rfl (lv_at hl 1 rfl) ?_
        refine z_if_ne (tgt := 51) X.1 X.2.1 d_M_hasMoreFlags_38 (by decide) ⟨by omega, by omega⟩ (fun h113 => ?_) (fun h113 => ?_)
        · refine lv_iconst (v := iI 1) X.1 X.2.1 d_M_hasMoreFlags_51 (by decide) ?_
          refine lv_goto (tgt := 56) X.1 X.2.1 d_M_hasMoreFlags_52 (by decide) ?_
          refine lv_istore_n (lv' := [(3, .int (iI 1)), (0, .ref h), (4, .int (iI z107))]) X.1 X.2.1 d_M_hasMoreFlags_56 rfl hl (by decide) rfl (fun ls hl => ?_)
          refine lv_iinc (v := iI (z107 + 1)) (lv' := [(4, .int (iI (z107 + 1))), (3, .int (iI 1)), (0, .ref h)]) X.1 X.2.1 d_M_hasMoreFlags_57 hl (k := 2) rfl ((iI_add _ _).trans (congrArg iI (by omega))) (by decide) rfl (fun ls hl => ?_)
          refine lv_goto (tgt := 28) X.1 X.2.1 d_M_hasMoreFlags_60 (by decide) ?_
          exact ih109 ((30005 - (z107 + 1)).toNat) (by omega) 1 (z107 + 1) _ _ _ rfl (by omega) (by omega) (by omega) (by omega) Y S (lv_sub hl [2, 1, 0] rfl)
        · refine lv_aload_n X.1 X.2.1 d_M_hasMoreFlags_41 rfl (lv_at hl 0 rfl) ?_
          refine m_get X Y 0 (by decide) lk_mem (gf_mem _ _ _) rfl d_M_hasMoreFlags_42 ?_
          refine lv_iload X.1 X.2.1 d_M_hasMoreFlags_45 (lv_at hl 2 rfl) ?_
          refine r_bald X Y S (aw_mem _ _ _ _ _ _ _) rfl (by omega) (show z107 < ((60000 : Nat) : Int) by omega) (by omega) d_M_hasMoreFlags_47 (fun z114 q114 l114 u114 => ?_)
          refine z_if_eq (tgt := 55) X.1 X.2.1 d_M_hasMoreFlags_48 (by decide) ⟨by omega, by omega⟩ (fun h115 => ?_) (fun h115 => ?_)
          · refine lv_iconst (v := iI 0) X.1 X.2.1 d_M_hasMoreFlags_55 (by decide) ?_
            refine lv_istore_n (lv' := [(3, .int (iI 0)), (0, .ref h), (4, .int (iI z107))]) X.1 X.2.1 d_M_hasMoreFlags_56 rfl hl (by decide) rfl (fun ls hl => ?_)
            refine lv_iinc (v := iI (z107 + 1)) (lv' := [(4, .int (iI (z107 + 1))), (3, .int (iI 0)), (0, .ref h)]) X.1 X.2.1 d_M_hasMoreFlags_57 hl (k := 2) rfl ((iI_add _ _).trans (congrArg iI (by omega))) (by decide) rfl (fun ls hl => ?_)
            refine lv_goto (tgt := 28) X.1 X.2.1 d_M_hasMoreFlags_60 (by decide) ?_
            exact ih109 ((30005 - (z107 + 1)).toNat) (by omega) 0 (z107 + 1) _ _ _ rfl (by omega) (by omega) (by omega) (by omega) Y S (lv_sub hl [2, 1, 0] rfl)
          · refine lv_iconst (v := iI 1) X.1 X.2.1 d_M_hasMoreFlags_51 (by decide) ?_
            refine lv_goto (tgt := 56) X.1 X.2.1 d_M_hasMoreFlags_52 (by decide) ?_
            refine lv_istore_n (lv' := [(3, .int (iI 1)), (0, .ref h), (4, .int (iI z107))]) X.1 X.2.1 d_M_hasMoreFlags_56 rfl hl (by decide) rfl (fun ls hl => ?_)
            refine lv_iinc (v := iI (z107 + 1)) (lv' := [(4, .int (iI (z107 + 1))), (3, .int (iI 1)), (0, .ref h)]) X.1 X.2.1 d_M_hasMoreFlags_57 hl (k := 2) rfl ((iI_add _ _).trans (congrArg iI (by omega))) (by decide) rfl (fun ls hl => ?_)
            refine lv_goto (tgt := 28) X.1 X.2.1 d_M_hasMoreFlags_60 (by decide) ?_
            exact ih109 ((30005 - (z107 + 1)).toNat) (by omega) 1 (z107 + 1) _ _ _ rfl (by omega) (by omega) (by omega) (by omega) Y S (lv_sub hl [2, 1, 0] rfl)
  refine lv_istore (lv' := [(4, .int (iI (x105 + 5))), (3, .int (iI 0)), (0, .ref h), (1, .int (iI a1)), (2, .int (iI a2))]) X.1 X.2.1 d_M_hasMoreFlags_26 hl (by decide) rfl (fun ls hl => ?_)
  exact J108 _ 0 (x105 + 5) _ _ _ rfl (by omega) (by omega) (by omega) (by omega) Y S (lv_sub hl [2, 1, 0] rfl)
set_option maxHeartbeats 4000000 in
set_option maxRecDepth 100000 in
theorem r_M_bit (l : Launch) (D : mD) (E : mE) (h : Nat) (q : Nat → Nat) (sz : Nat) (I : Nat → Int32) (J : Nat → Int64) (B : Nat → Nat → Int32) (G : Nat → Nat → Int64) (a1 : Int) (l_a1 : (-2147483648) ≤ a1) (u_a1 : a1 ≤ 2147483647) (a2 : Int) (l_a2 : (-2147483648) ≤ a2) (u_a2 : a2 ≤ 2147483647) (hT : rT I B) : Met l y_M_bit (k_M_bit :: lw_tg) (mR 1 60) (va_Pc [.ref h, .int (iI a1), .int (iI a2)] (mPre D E h q (I, J, B, G) sz)) (va_Qi (rPi [] [] I B (fun (z : Int) (u : mS) => 0 ≤ z ∧ z ≤ 1)) (mPost D E h q (mA E h q sz)) (mA E h q sz)) 0 0 (mA E h q sz) := by
  refine m_enter (by decide) rfl (Nat.le_of_ble_eq_true rfl) (fun p e s m below meth c ls AV QQ H locs hQQ X Y hZ hA hr hlk hml hl => ?_)
  have Y : mH D E (mA E h q sz) s.heap h q I J B G H locs := Y
  have S : rS [] [] I B I B := rS_rf hT
  have hl : lv_has ls 3 [(0, .ref h), (1, .int (iI a1)), (2, .int (iI a2))] := hl
  refine lv_iload_n X.1 X.2.1 d_M_bit_0 rfl (lv_at hl 1 rfl) ?_
  refine lv_bipush (v := iI 31) X.1 X.2.1 d_M_bit_1 (by decide) ?_
  refine lv_iload_n X.1 X.2.1 d_M_bit_3 rfl (lv_at hl 2 rfl) ?_
  refine lv_isub X.1 X.2.1 d_M_bit_4 ?_
  refine t_u (fun z101 l101 u101 => ?_)
  refine lv_iushr X.1 X.2.1 d_M_bit_5 rfl ?_
  refine t_u (fun z102 l102 u102 => ?_)
  refine lv_iconst (v := iI 1) X.1 X.2.1 d_M_bit_6 (by decide) ?_
  refine z_iand X.1 X.2.1 (by omega) (by omega) d_M_bit_7 (fun z103 l103 u103 => ?_)
  refine lv_iconst (v := iI 1) X.1 X.2.1 d_M_bit_8 (by decide) ?_
  refine z_icmp_ne (tgt := 16) X.1 X.2.1 d_M_bit_9 (by decide) ⟨by omega, by omega⟩ ⟨by omega, by omega⟩ (fun h104 => ?_) (fun h104 => ?_)
  · refine lv_iconst (v := iI 0) X.1 X.2.1 d_M_bit_16 (by decide) ?_
    exact m_retz hQQ X Y hr hlk (iI_bool (by omega) (by omega)).1 ⟨S, 0, rfl, ⟨by omega, by omega⟩⟩ d_M_bit_17
  · refine lv_iconst (v := iI 1) X.1 X.2.1 d_M_bit_12 (by decide) ?_
    refine lv_goto (tgt := 17) X.1 X.2.1 d_M_bit_13 (by decide) ?_
    exact m_retz hQQ X Y hr hlk (iI_bool (by omega) (by omega)).1 ⟨S, 1, rfl, ⟨by omega, by omega⟩⟩ d_M_bit_17
set_option maxHeartbeats 4000000 in
set_option maxRecDepth 100000 in
theorem r_M_isFar (l : Launch) (D : mD) (E : mE) (h : Nat) (q : Nat → Nat) (sz : Nat) (I : Nat → Int32) (J : Nat → Int64) (B : Nat → Nat → Int32) (G : Nat → Nat → Int64) (a1 : Int64) (a2 : Int64) (hT : rT I B) : Met l y_M_isFar (k_M_isFar :: lw_tg) (mR 1 60) (va_Pc [.ref h, .long a1, .long a2] (mPre D E h q (I, J, B, G) sz)) (va_Qi (rPi [] [] I B (fun (z : Int) (u : mS) => 0 ≤ z ∧ z ≤ 1)) (mPost D E h q (mA E h q sz)) (mA E h q sz)) 0 0 (mA E h q sz) := by
  refine m_enter (by decide) rfl (Nat.le_of_ble_eq_true rfl) (fun p e s m below meth c ls AV QQ H locs hQQ X Y hZ hA hr hlk hml hl => ?_)
  have Y : mH D E (mA E h q sz) s.heap h q I J B G H locs := Y
  have S : rS [] [] I B I B := rS_rf hT
  have hl : lv_has ls 5 [(0, .ref h), (1, .long a1), (3, .long a2)] := hl
  refine lv_lload_n X.1 X.2.1 d_M_isFar_0 rfl (lv_at hl 1 rfl) ?_
  refine lv_lload_n X.1 X.2.1 d_M_isFar_1 rfl (lv_at hl 2 rfl) ?_
  refine lv_ldc2 (v := (300)) X.1 X.2.1 X.2.2.2.1 (X.2.2.1 _ cl_M_646) d_M_isFar_2 ?_
  refine lv_ladd X.1 X.2.1 d_M_isFar_5 ?_
  refine t_anyl (fun v101 => ?_)
  refine W.lcmp X.1 X.2.1 d_M_isFar_6 ?_
  refine t_u (fun z102 l102 u102 => ?_)
  refine z_if_gt (tgt := 20) X.1 X.2.1 d_M_isFar_7 (by decide) ⟨by omega, by omega⟩ (fun h103 => ?_) (fun h103 => ?_)
  · refine lv_iconst (v := iI 1) X.1 X.2.1 d_M_isFar_20 (by decide) ?_
    refine lv_goto (tgt := 25) X.1 X.2.1 d_M_isFar_21 (by decide) ?_
    exact m_retz hQQ X Y hr hlk (iI_bool (by omega) (by omega)).1 ⟨S, 1, rfl, ⟨by omega, by omega⟩⟩ d_M_isFar_25
  · refine lv_lload_n X.1 X.2.1 d_M_isFar_10 rfl (lv_at hl 1 rfl) ?_
    refine lv_lload_n X.1 X.2.1 d_M_isFar_11 rfl (lv_at hl 2 rfl) ?_
    refine lv_ldc2 (v := (300)) X.1 X.2.1 X.2.2.2.1 (X.2.2.1 _ cl_M_646) d_M_isFar_12 ?_
    refine lv_lsub X.1 X.2.1 d_M_isFar_15 ?_
    refine t_anyl (fun v104 => ?_)
    refine W.lcmp X.1 X.2.1 d_M_isFar_16 ?_
    refine t_u (fun z105 l105 u105 => ?_)
    refine z_if_ge (tgt := 24) X.1 X.2.1 d_M_isFar_17 (by decide) ⟨by omega, by omega⟩ (fun h106 => ?_) (fun h106 => ?_)
    · refine lv_iconst (v := iI 0) X.1 X.2.1 d_M_isFar_24 (by decide) ?_
      exact m_retz hQQ X Y hr hlk (iI_bool (by omega) (by omega)).1 ⟨S, 0, rfl, ⟨by omega, by omega⟩⟩ d_M_isFar_25
    · refine lv_iconst (v := iI 1) X.1 X.2.1 d_M_isFar_20 (by decide) ?_
      refine lv_goto (tgt := 25) X.1 X.2.1 d_M_isFar_21 (by decide) ?_
      exact m_retz hQQ X Y hr hlk (iI_bool (by omega) (by omega)).1 ⟨S, 1, rfl, ⟨by omega, by omega⟩⟩ d_M_isFar_25
set_option maxHeartbeats 4000000 in
set_option maxRecDepth 100000 in
theorem r_M_startOf (l : Launch) (D : mD) (E : mE) (h : Nat) (q : Nat → Nat) (sz : Nat) (I : Nat → Int32) (J : Nat → Int64) (B : Nat → Nat → Int32) (G : Nat → Nat → Int64) (a1 : Int) (l_a1 : 0 ≤ a1) (u_a1 : a1 ≤ 11) (a2 : Int) (l_a2 : 0 ≤ a2) (u_a2 : a2 ≤ 15) (a3 : Int) (l_a3 : 0 ≤ a3) (u_a3 : a3 ≤ 15) (hT : rT I B) (f_P1 : pG1 I) (f_P2 : pG2 (B 37) (B 38)) : Met l y_M_startOf (k_M_startOf :: lw_tg) (mR 4 134) (va_Pc [.ref h, .int (iI a1), .int (iI a2), .int (iI a3)] (mPre D E h q (I, J, B, G) sz)) (va_Ql (rPl [39, 40] [] I B (fun (z : Int64) (u : mS) => pG1 u.1)) (mPost D E h q (mA E h q sz)) (mA E h q sz)) 0 0 (mA E h q sz) := by
  refine m_enter (by decide) rfl (Nat.le_of_ble_eq_true rfl) (fun p e s m below meth c ls AV QQ H locs hQQ X Y hZ hA hr hlk hml hl => ?_)
  have Y : mH D E (mA E h q sz) s.heap h q I J B G H locs := Y
  have S : rS [39, 40] [] I B I B := rS_rf hT
  have hl : lv_has ls 4 [(0, .ref h), (1, .int (iI a1)), (2, .int (iI a2)), (3, .int (iI a3))] := hl
  refine lv_aload_n X.1 X.2.1 d_M_startOf_0 rfl (lv_at hl 0 rfl) ?_
  refine lv_iload_n X.1 X.2.1 d_M_startOf_1 rfl (lv_at hl 1 rfl) ?_
  refine lv_iload_n X.1 X.2.1 d_M_startOf_2 rfl (lv_at hl 2 rfl) ?_
  refine r_ni (m_run (As := [.int (iI a1), .int (iI a2)]) (rest := []) (n := 2) X Y hZ hA hml hl.1 (r_M_has l D E h q H.size I J B G a1 (by omega) (by omega) a2 (by omega) (by omega) S.1) kl_M_has ks_M_has kx_M_has ki_M_has ini_M hd_M_has ⟨Nat.le_of_ble_eq_true rfl, Nat.le_of_ble_eq_true rfl⟩ rfl (Nat.le_of_ble_eq_true rfl) d_M_startOf_3 ⟨Nat.le_refl _, Nat.le_refl _⟩) X Y hA S (by decide) (by decide) (fun z101 u H locs Y S s101 p101 => ?_)
  obtain ⟨I101, J101, B101, G101⟩ := u
  dsimp only at Y S s101 p101
  have i101 : I = I101 := (funext (fun j => s101.2.1 j (by simp))).symm
  subst i101
  have b101 : B = B101 := (funext (fun j => s101.2.2 j (by simp))).symm
  subst b101
  obtain ⟨l101, u101, x101⟩ := p101
  refine z_if_eq (tgt := 18) X.1 X.2.1 d_M_startOf_6 (by decide) ⟨by omega, by omega⟩ (fun h102 => ?_) (fun h102 => ?_)
  · refine lv_aload_n X.1 X.2.1 d_M_startOf_18 rfl (lv_at hl 0 rfl) ?_
    refine lv_iload_n X.1 X.2.1 d_M_startOf_19 rfl (lv_at hl 1 rfl) ?_
    refine lv_iload_n X.1 X.2.1 d_M_startOf_20 rfl (lv_at hl 3 rfl) ?_
    refine r_nl (m_run (As := [.int (iI a1), .int (iI a3)]) (rest := []) (n := 2) X Y hZ hA hml hl.1 (r_M_timeOf l D E h q H.size I J101 B G101 a1 (by omega) (by omega) a3 (by omega) (by omega) S.1 (pG1_cg rfl rfl f_P1) (pG2_cg rfl rfl f_P2)) kl_M_timeOf ks_M_timeOf kx_M_timeOf ki_M_timeOf ini_M hd_M_timeOf ⟨Nat.le_of_ble_eq_true rfl, Nat.le_of_ble_eq_true rfl⟩ rfl (Nat.le_of_ble_eq_true rfl) d_M_startOf_21 ⟨Nat.le_refl _, Nat.le_refl _⟩) X Y hA S (by decide) (by decide) (fun v103 u H locs Y S s103 p103 => ?_)
    obtain ⟨I103, J103, B103, G103⟩ := u
    dsimp only at Y S s103 p103
    have b103 : B = B103 := (funext (fun j => s103.2.2 j (by simp))).symm
    subst b103
    have g103_P1 := p103
    exact m_retl hQQ X Y hr hlk ⟨S, g103_P1⟩ d_M_startOf_24
  · refine lv_aload_n X.1 X.2.1 d_M_startOf_9 rfl (lv_at hl 0 rfl) ?_
    refine lv_iload_n X.1 X.2.1 d_M_startOf_10 rfl (lv_at hl 1 rfl) ?_
    refine lv_iload_n X.1 X.2.1 d_M_startOf_11 rfl (lv_at hl 2 rfl) ?_
    refine r_nl (m_run (As := [.int (iI a1), .int (iI a2)]) (rest := []) (n := 2) X Y hZ hA hml hl.1 (r_M_timeOf l D E h q H.size I J101 B G101 a1 (by omega) (by omega) a2 (by omega) (by omega) S.1 (pG1_cg rfl rfl f_P1) (pG2_cg rfl rfl f_P2)) kl_M_timeOf ks_M_timeOf kx_M_timeOf ki_M_timeOf ini_M hd_M_timeOf ⟨Nat.le_of_ble_eq_true rfl, Nat.le_of_ble_eq_true rfl⟩ rfl (Nat.le_of_ble_eq_true rfl) d_M_startOf_12 ⟨Nat.le_refl _, Nat.le_refl _⟩) X Y hA S (by decide) (by decide) (fun v104 u H locs Y S s104 p104 => ?_)
    obtain ⟨I104, J104, B104, G104⟩ := u
    dsimp only at Y S s104 p104
    have b104 : B = B104 := (funext (fun j => s104.2.2 j (by simp))).symm
    subst b104
    have g104_P1 := p104
    refine lv_goto (tgt := 24) X.1 X.2.1 d_M_startOf_15 (by decide) ?_
    exact m_retl hQQ X Y hr hlk ⟨S, g104_P1⟩ d_M_startOf_24
set_option maxHeartbeats 4000000 in
set_option maxRecDepth 100000 in
theorem r_M_isWord (l : Launch) (D : mD) (E : mE) (h : Nat) (q : Nat → Nat) (sz : Nat) (I : Nat → Int32) (J : Nat → Int64) (B : Nat → Nat → Int32) (G : Nat → Nat → Int64) (a1 : Int) (l_a1 : (-1) ≤ a1) (u_a1 : a1 ≤ 30000) (a2 : Int) (l_a2 : (-1) ≤ a2) (u_a2 : a2 ≤ 30000) (a3 : Nat) (k3 : a3 < nZ) (hT : rT I B) (f_P1 : pG1 I) (q0 : 0 ≤ a1 ∨ a2 < a1 + 2) (q1 : a2 - a1 ≤ 4200) : Met l y_M_isWord (k_M_isWord :: lw_tg) (mR 4 90) (va_Pc [.ref h, .int (iI a1), .int (iI a2), .ref (D.2.1 a3)] (mPre D E h q (I, J, B, G) sz)) (va_Qi (rPi [39, 40] [] I B (fun (z : Int) (u : mS) => 0 ≤ z ∧ z ≤ 1 ∧ (z = 0 ∨ (gb (B 0) a1 = 27 → 0 ≤ elI (B 0) a1 a2 → elE (B 0) a1 a2 - elI (B 0) a1 a2 = zn a3)) ∧ pG1 u.1)) (mPost D E h q (mA E h q sz)) (mA E h q sz)) 0 0 (mA E h q sz) := by
  refine m_enter (by decide) rfl (Nat.le_of_ble_eq_true rfl) (fun p e s m below meth c ls AV QQ H locs hQQ X Y hZ hA hr hlk hml hl => ?_)
  have Y : mH D E (mA E h q sz) s.heap h q I J B G H locs := Y
  have S : rS [39, 40] [] I B I B := rS_rf hT
  have hl : lv_has ls 5 [(0, .ref h), (1, .int (iI a1)), (2, .int (iI a2)), (3, .ref ((D.2.1 a3)))] := hl
  refine lv_aload_n X.1 X.2.1 d_M_isWord_0 rfl (lv_at hl 0 rfl) ?_
  refine lv_iload_n X.1 X.2.1 d_M_isWord_1 rfl (lv_at hl 1 rfl) ?_
  refine lv_iload_n X.1 X.2.1 d_M_isWord_2 rfl (lv_at hl 2 rfl) ?_
  refine lv_bipush (v := iI 27) X.1 X.2.1 d_M_isWord_3 (by decide) ?_
  refine r_ni (m_run (As := [.int (iI a1), .int (iI a2), .int (iI 27)]) (rest := []) (n := 3) X Y hZ hA hml hl.1 (r_M_element l D E h q H.size I J B G a1 (by omega) (by omega) a2 (by omega) (by omega) 27 (by omega) (by omega) S.1 (B 0) rfl f_P1 (by omega) (by omega)) kl_M_element ks_M_element kx_M_element ki_M_element ini_M hd_M_element ⟨Nat.le_of_ble_eq_true rfl, Nat.le_of_ble_eq_true rfl⟩ rfl (Nat.le_of_ble_eq_true rfl) d_M_isWord_5 ⟨Nat.le_refl _, Nat.le_refl _⟩) X Y hA S (by decide) (by decide) (fun z101 u H locs Y S s101 p101 => ?_)
  obtain ⟨I101, J101, B101, G101⟩ := u
  dsimp only at Y S s101 p101
  have b101 : B = B101 := (funext (fun j => s101.2.2 j (by simp))).symm
  subst b101
  obtain ⟨l101, u101, x101, st101⟩ := p101
  obtain ⟨x102, y102, ex102, ey102, lx102, ly102, uy102, dy102, iy102, ky102⟩ := st101
  refine lv_pop X.1 X.2.1 d_M_isWord_8 rfl ?_
  refine lv_aload_n X.1 X.2.1 d_M_isWord_9 rfl (lv_at hl 0 rfl) ?_
  refine r_get0 X Y (by decide) lk_behind (gf_behind _ _ _) rfl ey102 d_M_isWord_10 ?_
  refine lv_aload_n X.1 X.2.1 d_M_isWord_13 rfl (lv_at hl 0 rfl) ?_
  refine r_get0 X Y (by decide) lk_inside (gf_inside _ _ _) rfl ex102 d_M_isWord_14 ?_
  refine z_isub X.1 X.2.1 d_M_isWord_17 ?_
  refine lv_aload_n X.1 X.2.1 d_M_isWord_18 rfl (lv_at hl 3 rfl) ?_
  refine r_length (i := a3) X Y hZ k3 hml hl.1 ⟨Nat.le_of_ble_eq_true rfl, Nat.le_of_ble_eq_true rfl⟩ (Nat.le_of_ble_eq_true rfl) d_M_isWord_19 ⟨Nat.le_refl _, Nat.le_refl _⟩ (fun H locs Y => ?_)
  have y103 := zn_64 a3 k3
  refine z_icmp_eq (tgt := 27) X.1 X.2.1 d_M_isWord_22 (by decide) ⟨by omega, by omega⟩ ⟨by omega, by omega⟩ (fun h104 => ?_) (fun h104 => ?_)
  · refine lv_iconst (v := iI 0) X.1 X.2.1 d_M_isWord_27 (by decide) ?_
    have J106 : ∀ (n108 : Nat) (z105 : Int) (H : Heap) (locs : List Loc) (ls : Array Slot), (64 - z105).toNat = n108 → (0 ≤ z105) → (z105 ≤ 64) → mH D E (mA E h q sz) s.heap h q I101 J101 B G101 H locs → rS [39, 40] [] I B I101 B → lv_has ls 5 [(0, .ref h), (3, .ref ((D.2.1 a3))), (4, .int (iI z105))] → W p l e (mR 4 90) s m AV below meth c H locs 0 0 QQ (F0 m 30 ls []) := by
      intro n108
      induction n108 using Nat.strongRecOn with
      | ind n108 ih107 =>
        intro z105 H locs ls hm109 l105 u105 Y S hl
        refine lv_iload X.1 X.2.1 d_M_isWord_30 (lv_at hl 2 rfl) ?_
        refine lv_aload_n X.1 X.2.1 d_M_isWord_32 rfl (lv_at hl 1 rfl) ?_
        refine r_length (i := a3) X Y hZ k3 hml hl.1 ⟨Nat.le_of_ble_eq_true rfl, Nat.le_of_ble_eq_true rfl⟩ (Nat.le_of_ble_eq_true rfl) d_M_isWord_33 ⟨Nat.le_refl _, Nat.le_refl _⟩ (fun H locs Y => ?_)
        have y110 := zn_64 a3 k3
        refine z_icmp_ge (tgt := 68) X.1 X.2.1 d_M_isWord_36 (by decide) ⟨by omega, by omega⟩ ⟨by omega, by omega⟩ (fun h111 => ?_) (fun h111 => ?_)
        · refine lv_iconst (v := iI 1) X.1 X.2.1 d_M_isWord_68 (by decide) ?_
          exact m_retz hQQ X Y hr hlk (iI_bool (by omega) (by omega)).1 ⟨S, 1, rfl, ⟨by omega, by omega, by omega, (show pG1 I101 from ⟨x102, y102, ex102, ey102, by omega, by omega, by omega, by omega⟩)⟩⟩ d_M_isWord_69
        · refine lv_aload_n X.1 X.2.1 d_M_isWord_39 rfl (lv_at hl 0 rfl) ?_
          refine m_get X Y 0 (by decide) lk_mem (gf_mem _ _ _) rfl d_M_isWord_40 ?_
          refine lv_aload_n X.1 X.2.1 d_M_isWord_43 rfl (lv_at hl 0 rfl) ?_
          refine r_get0 X Y (by decide) lk_inside (gf_inside _ _ _) rfl ex102 d_M_isWord_44 ?_
          refine lv_iload X.1 X.2.1 d_M_isWord_47 (lv_at hl 2 rfl) ?_
          refine z_iadd X.1 X.2.1 d_M_isWord_49 ?_
          refine r_bald X Y S (aw_mem _ _ _ _ _ _ _) rfl (by omega) (show x102 + z105 < ((60000 : Nat) : Int) by omega) (by omega) d_M_isWord_50 (fun z112 q112 l112 u112 => ?_)
          refine lv_aload_n X.1 X.2.1 d_M_isWord_51 rfl (lv_at hl 1 rfl) ?_
          refine lv_iload X.1 X.2.1 d_M_isWord_52 (lv_at hl 2 rfl) ?_
          refine r_charAt (i := a3) X Y hZ k3 (by omega) (by omega) hml hl.1 ⟨Nat.le_of_ble_eq_true rfl, Nat.le_of_ble_eq_true rfl⟩ (Nat.le_of_ble_eq_true rfl) d_M_isWord_54 ⟨Nat.le_refl _, Nat.le_refl _⟩ (fun H locs z113 Y e113 l113 u113 => ?_)
          refine z_icmp_eq (tgt := 62) X.1 X.2.1 d_M_isWord_57 (by decide) ⟨by omega, by omega⟩ ⟨by omega, by omega⟩ (fun h114 => ?_) (fun h114 => ?_)
          · refine lv_iinc (v := iI (z105 + 1)) (lv' := [(4, .int (iI (z105 + 1))), (0, .ref h), (3, .ref ((D.2.1 a3)))]) X.1 X.2.1 d_M_isWord_62 hl (k := 2) rfl ((iI_add _ _).trans (congrArg iI (by omega))) (by decide) rfl (fun ls hl => ?_)
            refine lv_goto (tgt := 30) X.1 X.2.1 d_M_isWord_65 (by decide) ?_
            exact ih107 ((64 - (z105 + 1)).toNat) (by omega) (z105 + 1) _ _ _ rfl (by omega) (by omega) Y S (lv_sub hl [1, 2, 0] rfl)
          · refine lv_iconst (v := iI 0) X.1 X.2.1 d_M_isWord_60 (by decide) ?_
            exact m_retz hQQ X Y hr hlk (iI_bool (by omega) (by omega)).1 ⟨S, 0, rfl, ⟨by omega, by omega, by omega, (show pG1 I101 from ⟨x102, y102, ex102, ey102, by omega, by omega, by omega, by omega⟩)⟩⟩ d_M_isWord_61
    refine lv_istore (lv' := [(4, .int (iI 0)), (0, .ref h), (1, .int (iI a1)), (2, .int (iI a2)), (3, .ref ((D.2.1 a3)))]) X.1 X.2.1 d_M_isWord_28 hl (by decide) rfl (fun ls hl => ?_)
    exact J106 _ 0 _ _ _ rfl (by omega) (by omega) Y S (lv_sub hl [1, 4, 0] rfl)
  · refine lv_iconst (v := iI 0) X.1 X.2.1 d_M_isWord_25 (by decide) ?_
    exact m_retz hQQ X Y hr hlk (iI_bool (by omega) (by omega)).1 ⟨S, 0, rfl, ⟨by omega, by omega, by omega, (show pG1 I101 from ⟨x102, y102, ex102, ey102, by omega, by omega, by omega, by omega⟩)⟩⟩ d_M_isWord_26
set_option maxHeartbeats 4000000 in
set_option maxRecDepth 100000 in
theorem r_M_isSame (l : Launch) (D : mD) (E : mE) (h : Nat) (q : Nat → Nat) (sz : Nat) (I : Nat → Int32) (J : Nat → Int64) (B : Nat → Nat → Int32) (G : Nat → Nat → Int64) (a1 : Int) (l_a1 : (-1) ≤ a1) (u_a1 : a1 ≤ 60000) (a2 : Int) (l_a2 : (-1) ≤ a2) (u_a2 : a2 ≤ 60000) (a3 : Int) (l_a3 : (-1) ≤ a3) (u_a3 : a3 ≤ 60000) (a4 : Int) (l_a4 : (-1) ≤ a4) (u_a4 : a4 ≤ 60000) (hT : rT I B) (q0 : 0 ≤ a1 ∨ a2 ≤ a1) (q1 : 0 ≤ a3 ∨ a4 ≤ a3) : Met l y_M_isSame (k_M_isSame :: lw_tg) (mR 1 60) (va_Pc [.ref h, .int (iI a1), .int (iI a2), .int (iI a3), .int (iI a4)] (mPre D E h q (I, J, B, G) sz)) (va_Qi (rPi [] [] I B (fun (z : Int) (u : mS) => 0 ≤ z ∧ z ≤ 1 ∧ (z = 0 ∨ a2 - a1 = a4 - a3))) (mPost D E h q (mA E h q sz)) (mA E h q sz)) 0 0 (mA E h q sz) := by
  refine m_enter (by decide) rfl (Nat.le_of_ble_eq_true rfl) (fun p e s m below meth c ls AV QQ H locs hQQ X Y hZ hA hr hlk hml hl => ?_)
  have Y : mH D E (mA E h q sz) s.heap h q I J B G H locs := Y
  have S : rS [] [] I B I B := rS_rf hT
  have hl : lv_has ls 6 [(0, .ref h), (1, .int (iI a1)), (2, .int (iI a2)), (3, .int (iI a3)), (4, .int (iI a4))] := hl
  refine lv_iload_n X.1 X.2.1 d_M_isSame_0 rfl (lv_at hl 2 rfl) ?_
  refine lv_iload_n X.1 X.2.1 d_M_isSame_1 rfl (lv_at hl 1 rfl) ?_
  refine z_isub X.1 X.2.1 d_M_isSame_2 ?_
  refine lv_iload X.1 X.2.1 d_M_isSame_3 (lv_at hl 4 rfl) ?_
  refine lv_iload_n X.1 X.2.1 d_M_isSame_5 rfl (lv_at hl 3 rfl) ?_
  refine z_isub X.1 X.2.1 d_M_isSame_6 ?_
  refine z_icmp_eq (tgt := 12) X.1 X.2.1 d_M_isSame_7 (by decide) ⟨by omega, by omega⟩ ⟨by omega, by omega⟩ (fun h101 => ?_) (fun h101 => ?_)
  · refine lv_iconst (v := iI 0) X.1 X.2.1 d_M_isSame_12 (by decide) ?_
    have J103 : ∀ (n105 : Nat) (z102 : Int) (H : Heap) (locs : List Loc) (ls : Array Slot), (60001 - z102).toNat = n105 → (0 ≤ z102) → (z102 ≤ 60001) → mH D E (mA E h q sz) s.heap h q I J B G H locs → rS [] [] I B I B → lv_has ls 6 [(0, .ref h), (1, .int (iI a1)), (2, .int (iI a2)), (3, .int (iI a3)), (5, .int (iI z102))] → W p l e (mR 1 60) s m AV below meth c H locs 0 0 QQ (F0 m 15 ls []) := by
      intro n105
      induction n105 using Nat.strongRecOn with
      | ind n105 ih104 =>
        intro z102 H locs ls hm106 l102 u102 Y S hl
        refine lv_iload X.1 X.2.1 d_M_isSame_15 (lv_at hl 4 rfl) ?_
        refine lv_iload_n X.1 X.2.1 d_M_isSame_17 rfl (lv_at hl 2 rfl) ?_
        refine lv_iload_n X.1 X.2.1 d_M_isSame_18 rfl (lv_at hl 1 rfl) ?_
        refine z_isub X.1 X.2.1 d_M_isSame_19 ?_
        refine z_icmp_ge (tgt := 52) X.1 X.2.1 d_M_isSame_20 (by decide) ⟨by omega, by omega⟩ ⟨by omega, by omega⟩ (fun h107 => ?_) (fun h107 => ?_)
        · refine lv_iconst (v := iI 1) X.1 X.2.1 d_M_isSame_52 (by decide) ?_
          exact m_retz hQQ X Y hr hlk (iI_bool (by omega) (by omega)).1 ⟨S, 1, rfl, ⟨by omega, by omega, by omega⟩⟩ d_M_isSame_53
        · refine lv_aload_n X.1 X.2.1 d_M_isSame_23 rfl (lv_at hl 0 rfl) ?_
          refine m_get X Y 0 (by decide) lk_mem (gf_mem _ _ _) rfl d_M_isSame_24 ?_
          refine lv_iload_n X.1 X.2.1 d_M_isSame_27 rfl (lv_at hl 1 rfl) ?_
          refine lv_iload X.1 X.2.1 d_M_isSame_28 (lv_at hl 4 rfl) ?_
          refine z_iadd X.1 X.2.1 d_M_isSame_30 ?_
          refine r_bald X Y S (aw_mem _ _ _ _ _ _ _) rfl (by omega) (show a1 + z102 < ((60000 : Nat) : Int) by omega) (by omega) d_M_isSame_31 (fun z108 q108 l108 u108 => ?_)
          refine lv_aload_n X.1 X.2.1 d_M_isSame_32 rfl (lv_at hl 0 rfl) ?_
          refine m_get X Y 0 (by decide) lk_mem (gf_mem _ _ _) rfl d_M_isSame_33 ?_
          refine lv_iload_n X.1 X.2.1 d_M_isSame_36 rfl (lv_at hl 3 rfl) ?_
          refine lv_iload X.1 X.2.1 d_M_isSame_37 (lv_at hl 4 rfl) ?_
          refine z_iadd X.1 X.2.1 d_M_isSame_39 ?_
          refine r_bald X Y S (aw_mem _ _ _ _ _ _ _) rfl (by omega) (show a3 + z102 < ((60000 : Nat) : Int) by omega) (by omega) d_M_isSame_40 (fun z109 q109 l109 u109 => ?_)
          refine z_icmp_eq (tgt := 46) X.1 X.2.1 d_M_isSame_41 (by decide) ⟨by omega, by omega⟩ ⟨by omega, by omega⟩ (fun h110 => ?_) (fun h110 => ?_)
          · refine lv_iinc (v := iI (z102 + 1)) (lv' := [(5, .int (iI (z102 + 1))), (0, .ref h), (1, .int (iI a1)), (2, .int (iI a2)), (3, .int (iI a3))]) X.1 X.2.1 d_M_isSame_46 hl (k := 4) rfl ((iI_add _ _).trans (congrArg iI (by omega))) (by decide) rfl (fun ls hl => ?_)
            refine lv_goto (tgt := 15) X.1 X.2.1 d_M_isSame_49 (by decide) ?_
            exact ih104 ((60001 - (z102 + 1)).toNat) (by omega) (z102 + 1) _ _ _ rfl (by omega) (by omega) Y S (lv_sub hl [1, 2, 3, 4, 0] rfl)
          · refine lv_iconst (v := iI 0) X.1 X.2.1 d_M_isSame_44 (by decide) ?_
            exact m_retz hQQ X Y hr hlk (iI_bool (by omega) (by omega)).1 ⟨S, 0, rfl, ⟨by omega, by omega, by omega⟩⟩ d_M_isSame_45
    refine lv_istore (lv' := [(5, .int (iI 0)), (0, .ref h), (1, .int (iI a1)), (2, .int (iI a2)), (3, .int (iI a3)), (4, .int (iI a4))]) X.1 X.2.1 d_M_isSame_13 hl (by decide) rfl (fun ls hl => ?_)
    exact J103 _ 0 _ _ _ rfl (by omega) (by omega) Y S (lv_sub hl [1, 2, 3, 4, 0] rfl)
  · refine lv_iconst (v := iI 0) X.1 X.2.1 d_M_isSame_10 (by decide) ?_
    exact m_retz hQQ X Y hr hlk (iI_bool (by omega) (by omega)).1 ⟨S, 0, rfl, ⟨by omega, by omega, by omega⟩⟩ d_M_isSame_11
set_option maxHeartbeats 4000000 in
set_option maxRecDepth 100000 in
theorem r_M_partsAt (l : Launch) (D : mD) (E : mE) (h : Nat) (q : Nat → Nat) (sz : Nat) (I : Nat → Int32) (J : Nat → Int64) (B : Nat → Nat → Int32) (G : Nat → Nat → Int64) (a1 : Int) (l_a1 : (-1) ≤ a1) (u_a1 : a1 ≤ 30000) (a2 : Int) (l_a2 : (-1) ≤ a2) (u_a2 : a2 ≤ 30000) (hT : rT I B) (f_P1 : pG1 I) (f_P2 : pG2 (B 37) (B 38)) (q0 : 0 ≤ a1 ∨ a2 < a1 + 2) (q1 : a2 - a1 ≤ 4200) : Met l y_M_partsAt (k_M_partsAt :: lw_tg) (mR 43 1992) (va_Pc [.ref h, .int (iI a1), .int (iI a2)] (mPre D E h q (I, J, B, G) sz)) (va_Qi (rPi [39, 40] [37, 38] I B (fun (z : Int) (u : mS) => (-1) ≤ z ∧ z ≤ 30000 ∧ z = (u.2.2.1 37 (16 * 11 + 1 : Int).toNat).toInt ∧ (NP (B 0) a1 a2 → (u.2.2.1 37 (16 * 11 + 1 : Int).toNat).toInt = npI (B 0) a1 a2 ∧ (u.2.2.1 38 (16 * 11 + 1 : Int).toNat).toInt = a2) ∧ pG1 u.1 ∧ pG2 (u.2.2.1 37) (u.2.2.1 38) ∧ thF [11] (B 37) (B 38) (u.2.2.1 37) (u.2.2.1 38))) (mPost D E h q (mA E h q sz)) (mA E h q sz)) 0 0 (mA E h q sz) := by
  refine m_enter (by decide) rfl (Nat.le_of_ble_eq_true rfl) (fun p e s m below meth c ls AV QQ H locs hQQ X Y hZ hA hr hlk hml hl => ?_)
  have Y : mH D E (mA E h q sz) s.heap h q I J B G H locs := Y
  have S : rS [39, 40] [37, 38] I B I B := rS_rf hT
  have hl : lv_has ls 3 [(0, .ref h), (1, .int (iI a1)), (2, .int (iI a2))] := hl
  refine lv_aload_n X.1 X.2.1 d_M_partsAt_0 rfl (lv_at hl 0 rfl) ?_
  refine m_ldcSW (i := 4) X (by decide) (by decide) d_M_partsAt_1 ?_
  refine lv_iload_n X.1 X.2.1 d_M_partsAt_4 rfl (lv_at hl 1 rfl) ?_
  refine lv_iload_n X.1 X.2.1 d_M_partsAt_5 rfl (lv_at hl 2 rfl) ?_
  refine lv_bipush (v := iI 11) X.1 X.2.1 d_M_partsAt_6 (by decide) ?_
  refine r_ni (m_run (As := [.ref ((D.2.1 4)), .int (iI a1), .int (iI a2), .int (iI 11)]) (rest := []) (n := 4) X Y hZ hA hml hl.1 (r_M_sequence_t l D E h q H.size I J B G 4 (show 4 < nZ by decide) a1 (by omega) (by omega) a2 (by omega) (by omega) 11 (by omega) (by omega) S.1 4 (B 0) rfl (isF (B 0) 4) (by decide) (hisU (show rki 4 ≤ 4 by decide)) f_P1 f_P2 (by omega) (by omega)) kl_M_sequence ks_M_sequence kx_M_sequence ki_M_sequence ini_M hd_M_sequence ⟨Nat.le_of_ble_eq_true rfl, Nat.le_of_ble_eq_true rfl⟩ rfl (Nat.le_of_ble_eq_true rfl) d_M_partsAt_8 ⟨Nat.le_refl _, Nat.le_refl _⟩) X Y hA S (by decide) (by decide) (fun z101 u H locs Y S s101 p101 => ?_)
  obtain ⟨I101, J101, B101, G101⟩ := u
  dsimp only at Y S s101 p101
  obtain ⟨l101, u101, x101, st101, g101_P1, g101_P2⟩ := p101
  have g101_TF : thF [11] (B 37) (B 38) (B101 37) (B101 38) := thF_of st101.1
  refine lv_pop X.1 X.2.1 d_M_partsAt_11 rfl ?_
  refine lv_aload_n X.1 X.2.1 d_M_partsAt_12 rfl (lv_at hl 0 rfl) ?_
  refine lv_bipush (v := iI 11) X.1 X.2.1 d_M_partsAt_13 (by decide) ?_
  refine lv_iconst (v := iI 1) X.1 X.2.1 d_M_partsAt_15 (by decide) ?_
  refine r_ni (m_run (As := [.int (iI 11), .int (iI 1)]) (rest := []) (n := 2) X Y hZ hA hml hl.1 (r_M_a l D E h q H.size I101 J101 B101 G101 11 (by omega) (by omega) 1 (by omega) (by omega) S.1) kl_M_a ks_M_a kx_M_a ki_M_a ini_M hd_M_a ⟨Nat.le_of_ble_eq_true rfl, Nat.le_of_ble_eq_true rfl⟩ rfl (Nat.le_of_ble_eq_true rfl) d_M_partsAt_16 ⟨Nat.le_refl _, Nat.le_refl _⟩) X Y hA S (by decide) (by decide) (fun z102 u H locs Y S s102 p102 => ?_)
  obtain ⟨I102, J102, B102, G102⟩ := u
  dsimp only at Y S s102 p102
  have i102 : I101 = I102 := (funext (fun j => s102.2.1 j (by simp))).symm
  subst i102
  have b102 : B101 = B102 := (funext (fun j => s102.2.2 j (by simp))).symm
  subst b102
  obtain ⟨l102, u102, x102⟩ := p102
  exact m_reti hQQ X Y hr hlk ⟨S, z102, rfl, ⟨by omega, by omega, x102, fun h9 => by have h8 := st101.2 (x101.mpr h9) 1 (by decide) (by decide); rw [NP_fd h9] at h8; exact ⟨congrArg Prod.fst h8, congrArg Prod.snd h8⟩, (pG1_cg rfl rfl g101_P1), (pG2_cg rfl rfl g101_P2), (thF_cg rfl rfl (thF_tr thF_rf g101_TF (by decide)))⟩⟩ d_M_partsAt_19
set_option maxHeartbeats 4000000 in
set_option maxRecDepth 100000 in
theorem r_M_sameNames (l : Launch) (D : mD) (E : mE) (h : Nat) (q : Nat → Nat) (sz : Nat) (I : Nat → Int32) (J : Nat → Int64) (B : Nat → Nat → Int32) (G : Nat → Nat → Int64) (a1 : Int) (l_a1 : (-1) ≤ a1) (u_a1 : a1 ≤ 30000) (a2 : Int) (l_a2 : (-1) ≤ a2) (u_a2 : a2 ≤ 30000) (a3 : Int) (l_a3 : (-1) ≤ a3) (u_a3 : a3 ≤ 30000) (a4 : Int) (l_a4 : (-1) ≤ a4) (u_a4 : a4 ≤ 30000) (hT : rT I B) (f_P1 : pG1 I) (f_P2 : pG2 (B 37) (B 38)) (q0 : 0 ≤ a1 ∨ a2 < a1 + 2) (q1 : a2 - a1 ≤ 4200) (q2 : 0 ≤ a3 ∨ a4 < a3 + 2) (q3 : a4 - a3 ≤ 4200) : Met l y_M_sameNames (k_M_sameNames :: lw_tg) (mR 44 2014) (va_Pc [.ref h, .int (iI a1), .int (iI a2), .int (iI a3), .int (iI a4)] (mPre D E h q (I, J, B, G) sz)) (va_Qi (rPi [39, 40] [37, 38] I B (fun (z : Int) (u : mS) => 0 ≤ z ∧ z ≤ 1 ∧ (z = 0 ∨ (NP (B 0) a1 a2 → NP (B 0) a3 a4 → a2 - npI (B 0) a1 a2 = a4 - npI (B 0) a3 a4)) ∧ pG1 u.1 ∧ pG2 (u.2.2.1 37) (u.2.2.1 38) ∧ thF [11] (B 37) (B 38) (u.2.2.1 37) (u.2.2.1 38))) (mPost D E h q (mA E h q sz)) (mA E h q sz)) 0 0 (mA E h q sz) := by
  refine m_enter (by decide) rfl (Nat.le_of_ble_eq_true rfl) (fun p e s m below meth c ls AV QQ H locs hQQ X Y hZ hA hr hlk hml hl => ?_)
  have Y : mH D E (mA E h q sz) s.heap h q I J B G H locs := Y
  have S : rS [39, 40] [37, 38] I B I B := rS_rf hT
  have hl : lv_has ls 8 [(0, .ref h), (1, .int (iI a1)), (2, .int (iI a2)), (3, .int (iI a3)), (4, .int (iI a4))] := hl
  refine lv_aload_n X.1 X.2.1 d_M_sameNames_0 rfl (lv_at hl 0 rfl) ?_
  refine lv_iload_n X.1 X.2.1 d_M_sameNames_1 rfl (lv_at hl 1 rfl) ?_
  refine lv_iload_n X.1 X.2.1 d_M_sameNames_2 rfl (lv_at hl 2 rfl) ?_
  refine r_ni (m_run (As := [.int (iI a1), .int (iI a2)]) (rest := []) (n := 2) X Y hZ hA hml hl.1 (r_M_partsAt l D E h q H.size I J B G a1 (by omega) (by omega) a2 (by omega) (by omega) S.1 f_P1 f_P2 (by omega) (by omega)) kl_M_partsAt ks_M_partsAt kx_M_partsAt ki_M_partsAt ini_M hd_M_partsAt ⟨Nat.le_of_ble_eq_true rfl, Nat.le_of_ble_eq_true rfl⟩ rfl (Nat.le_of_ble_eq_true rfl) d_M_sameNames_3 ⟨Nat.le_refl _, Nat.le_refl _⟩) X Y hA S (by decide) (by decide) (fun z101 u H locs Y S s101 p101 => ?_)
  obtain ⟨I101, J101, B101, G101⟩ := u
  dsimp only at Y S s101 p101
  obtain ⟨l101, u101, x101, st101, g101_P1, g101_P2, g101_TF⟩ := p101
  refine lv_istore (lv' := [(5, .int (iI z101)), (0, .ref h), (1, .int (iI a1)), (2, .int (iI a2)), (3, .int (iI a3)), (4, .int (iI a4))]) X.1 X.2.1 d_M_sameNames_6 hl (by decide) rfl (fun ls hl => ?_)
  refine lv_aload_n X.1 X.2.1 d_M_sameNames_8 rfl (lv_at hl 1 rfl) ?_
  refine lv_bipush (v := iI 11) X.1 X.2.1 d_M_sameNames_9 (by decide) ?_
  refine lv_iconst (v := iI 1) X.1 X.2.1 d_M_sameNames_11 (by decide) ?_
  refine r_ni (m_run (As := [.int (iI 11), .int (iI 1)]) (rest := []) (n := 2) X Y hZ hA hml hl.1 (r_M_b l D E h q H.size I101 J101 B101 G101 11 (by omega) (by omega) 1 (by omega) (by omega) S.1) kl_M_b ks_M_b kx_M_b ki_M_b ini_M hd_M_b ⟨Nat.le_of_ble_eq_true rfl, Nat.le_of_ble_eq_true rfl⟩ rfl (Nat.le_of_ble_eq_true rfl) d_M_sameNames_12 ⟨Nat.le_refl _, Nat.le_refl _⟩) X Y hA S (by decide) (by decide) (fun z102 u H locs Y S s102 p102 => ?_)
  obtain ⟨I102, J102, B102, G102⟩ := u
  dsimp only at Y S s102 p102
  have i102 : I101 = I102 := (funext (fun j => s102.2.1 j (by simp))).symm
  subst i102
  have b102 : B101 = B102 := (funext (fun j => s102.2.2 j (by simp))).symm
  subst b102
  obtain ⟨l102, u102, x102⟩ := p102
  have p103 : pr z101 z102 := by rw [x101, x102]; exact (pG2_cg rfl rfl g101_P2) (16 * 11 + 1 : Int).toNat (by omega)
  unfold pr at p103
  refine lv_istore (lv' := [(6, .int (iI z102)), (5, .int (iI z101)), (0, .ref h), (1, .int (iI a1)), (2, .int (iI a2)), (3, .int (iI a3)), (4, .int (iI a4))]) X.1 X.2.1 d_M_sameNames_15 hl (by decide) rfl (fun ls hl => ?_)
  refine lv_aload_n X.1 X.2.1 d_M_sameNames_17 rfl (lv_at hl 2 rfl) ?_
  refine lv_iload_n X.1 X.2.1 d_M_sameNames_18 rfl (lv_at hl 5 rfl) ?_
  refine lv_iload X.1 X.2.1 d_M_sameNames_19 (lv_at hl 6 rfl) ?_
  refine r_ni (m_run (As := [.int (iI a3), .int (iI a4)]) (rest := []) (n := 2) X Y hZ hA hml hl.1 (r_M_partsAt l D E h q H.size I101 J102 B101 G102 a3 (by omega) (by omega) a4 (by omega) (by omega) S.1 (pG1_cg rfl rfl g101_P1) (pG2_cg rfl rfl g101_P2) (by omega) (by omega)) kl_M_partsAt ks_M_partsAt kx_M_partsAt ki_M_partsAt ini_M hd_M_partsAt ⟨Nat.le_of_ble_eq_true rfl, Nat.le_of_ble_eq_true rfl⟩ rfl (Nat.le_of_ble_eq_true rfl) d_M_sameNames_21 ⟨Nat.le_refl _, Nat.le_refl _⟩) X Y hA S (by decide) (by decide) (fun z104 u H locs Y S s104 p104 => ?_)
  obtain ⟨I104, J104, B104, G104⟩ := u
  dsimp only at Y S s104 p104
  obtain ⟨l104, u104, x104, st104, g104_P1, g104_P2, g104_TF⟩ := p104
  refine lv_istore (lv' := [(7, .int (iI z104)), (6, .int (iI z102)), (5, .int (iI z101)), (0, .ref h), (1, .int (iI a1)), (2, .int (iI a2)), (3, .int (iI a3)), (4, .int (iI a4))]) X.1 X.2.1 d_M_sameNames_24 hl (by decide) rfl (fun ls hl => ?_)
  refine lv_aload_n X.1 X.2.1 d_M_sameNames_26 rfl (lv_at hl 3 rfl) ?_
  refine lv_iload X.1 X.2.1 d_M_sameNames_27 (lv_at hl 2 rfl) ?_
  refine lv_iload X.1 X.2.1 d_M_sameNames_29 (lv_at hl 1 rfl) ?_
  refine lv_iload X.1 X.2.1 d_M_sameNames_31 (lv_at hl 0 rfl) ?_
  refine lv_aload_n X.1 X.2.1 d_M_sameNames_33 rfl (lv_at hl 3 rfl) ?_
  refine lv_bipush (v := iI 11) X.1 X.2.1 d_M_sameNames_34 (by decide) ?_
  refine lv_iconst (v := iI 1) X.1 X.2.1 d_M_sameNames_36 (by decide) ?_
  refine r_ni (m_run (As := [.int (iI 11), .int (iI 1)]) (rest := [.int (iI z104), .int (iI z102), .int (iI z101), .ref h]) (n := 2) X Y hZ hA hml hl.1 (r_M_b l D E h q H.size I104 J104 B104 G104 11 (by omega) (by omega) 1 (by omega) (by omega) S.1) kl_M_b ks_M_b kx_M_b ki_M_b ini_M hd_M_b ⟨Nat.le_of_ble_eq_true rfl, Nat.le_of_ble_eq_true rfl⟩ rfl (Nat.le_of_ble_eq_true rfl) d_M_sameNames_37 ⟨Nat.le_refl _, Nat.le_refl _⟩) X Y hA S (by decide) (by decide) (fun z105 u H locs Y S s105 p105 => ?_)
  obtain ⟨I105, J105, B105, G105⟩ := u
  dsimp only at Y S s105 p105
  have i105 : I104 = I105 := (funext (fun j => s105.2.1 j (by simp))).symm
  subst i105
  have b105 : B104 = B105 := (funext (fun j => s105.2.2 j (by simp))).symm
  subst b105
  obtain ⟨l105, u105, x105⟩ := p105
  have p106 : pr z104 z105 := by rw [x104, x105]; exact (pG2_cg rfl rfl g104_P2) (16 * 11 + 1 : Int).toNat (by omega)
  unfold pr at p106
  refine r_ni (m_run (As := [.int (iI z101), .int (iI z102), .int (iI z104), .int (iI z105)]) (rest := []) (n := 4) X Y hZ hA hml hl.1 (r_M_isSame l D E h q H.size I104 J105 B104 G105 z101 (by omega) (by omega) z102 (by omega) (by omega) z104 (by omega) (by omega) z105 (by omega) (by omega) S.1 (by omega) (by omega)) kl_M_isSame ks_M_isSame kx_M_isSame ki_M_isSame ini_M hd_M_isSame ⟨Nat.le_of_ble_eq_true rfl, Nat.le_of_ble_eq_true rfl⟩ rfl (Nat.le_of_ble_eq_true rfl) d_M_sameNames_40 ⟨Nat.le_refl _, Nat.le_refl _⟩) X Y hA S (by decide) (by decide) (fun z107 u H locs Y S s107 p107 => ?_)
  obtain ⟨I107, J107, B107, G107⟩ := u
  dsimp only at Y S s107 p107
  have i107 : I104 = I107 := (funext (fun j => s107.2.1 j (by simp))).symm
  subst i107
  have b107 : B104 = B107 := (funext (fun j => s107.2.2 j (by simp))).symm
  subst b107
  obtain ⟨l107, u107, x107⟩ := p107
  exact m_retz hQQ X Y hr hlk (iI_bool (by omega) (by omega)).1 ⟨S, z107, rfl, ⟨by omega, by omega, by rcases x107 with e | e; (exact .inl e); (refine .inr (fun h8 h9 => ?_); have k1 := st101 h8; rw [← (s101.2.2 0 (by decide))] at h9; have k2 := st104 h9; rw [(s101.2.2 0 (by decide))] at k2; omega), (pG1_cg rfl rfl (pG1_cg rfl rfl g104_P1)), (pG2_cg rfl rfl (pG2_cg rfl rfl g104_P2)), (thF_cg rfl rfl (thF_cg rfl rfl (thF_tr (thF_cg rfl rfl (thF_tr thF_rf g101_TF (by decide))) g104_TF (by decide))))⟩⟩ d_M_sameNames_43
set_option maxHeartbeats 4000000 in
set_option maxRecDepth 100000 in
theorem r_M_principalAt (l : Launch) (D : mD) (E : mE) (h : Nat) (q : Nat → Nat) (sz : Nat) (I : Nat → Int32) (J : Nat → Int64) (B : Nat → Nat → Int32) (G : Nat → Nat → Int64) (a1 : Int) (l_a1 : (-1) ≤ a1) (u_a1 : a1 ≤ 30000) (a2 : Int) (l_a2 : (-1) ≤ a2) (u_a2 : a2 ≤ 30000) (hT : rT I B) (f_P1 : pG1 I) (f_P2 : pG2 (B 37) (B 38)) (q0 : 0 ≤ a1 ∨ a2 < a1 + 2) (q1 : a2 - a1 ≤ 4200) : Met l y_M_principalAt (k_M_principalAt :: lw_tg) (mR 44 2014) (va_Pc [.ref h, .int (iI a1), .int (iI a2)] (mPre D E h q (I, J, B, G) sz)) (va_Qi (rPi [39, 40, 54] [37, 38, 53] I B (fun (z : Int) (u : mS) => (-1) ≤ z ∧ z ≤ 11 ∧ pG1 u.1 ∧ pG2 (u.2.2.1 37) (u.2.2.1 38) ∧ thF [11] (B 37) (B 38) (u.2.2.1 37) (u.2.2.1 38))) (mPost D E h q (mA E h q sz)) (mA E h q sz)) 0 0 (mA E h q sz) := by
  refine m_enter (by decide) rfl (Nat.le_of_ble_eq_true rfl) (fun p e s m below meth c ls AV QQ H locs hQQ X Y hZ hA hr hlk hml hl => ?_)
  have Y : mH D E (mA E h q sz) s.heap h q I J B G H locs := Y
  have S : rS [39, 40, 54] [37, 38, 53] I B I B := rS_rf hT
  have hl : lv_has ls 9 [(0, .ref h), (1, .int (iI a1)), (2, .int (iI a2))] := hl
  refine lv_iload_n X.1 X.2.1 d_M_principalAt_0 rfl (lv_at hl 1 rfl) ?_
  refine z_if_ge (tgt := 6) X.1 X.2.1 d_M_principalAt_1 (by decide) ⟨by omega, by omega⟩ (fun h101 => ?_) (fun h101 => ?_)
  · refine lv_aload_n X.1 X.2.1 d_M_principalAt_6 rfl (lv_at hl 0 rfl) ?_
    refine lv_iload_n X.1 X.2.1 d_M_principalAt_7 rfl (lv_at hl 1 rfl) ?_
    refine lv_iload_n X.1 X.2.1 d_M_principalAt_8 rfl (lv_at hl 2 rfl) ?_
    refine r_ni (m_run (As := [.int (iI a1), .int (iI a2)]) (rest := []) (n := 2) X Y hZ hA hml hl.1 (r_M_partsAt l D E h q H.size I J B G a1 (by omega) (by omega) a2 (by omega) (by omega) S.1 f_P1 f_P2 (by omega) (by omega)) kl_M_partsAt ks_M_partsAt kx_M_partsAt ki_M_partsAt ini_M hd_M_partsAt ⟨Nat.le_of_ble_eq_true rfl, Nat.le_of_ble_eq_true rfl⟩ rfl (Nat.le_of_ble_eq_true rfl) d_M_principalAt_9 ⟨Nat.le_refl _, Nat.le_refl _⟩) X Y hA S (by decide) (by decide) (fun z102 u H locs Y S s102 p102 => ?_)
    obtain ⟨I102, J102, B102, G102⟩ := u
    dsimp only at Y S s102 p102
    obtain ⟨l102, u102, x102, st102, g102_P1, g102_P2, g102_TF⟩ := p102
    refine lv_istore_n (lv' := [(3, .int (iI z102)), (0, .ref h), (1, .int (iI a1)), (2, .int (iI a2))]) X.1 X.2.1 d_M_principalAt_12 rfl hl (by decide) rfl (fun ls hl => ?_)
    refine lv_aload_n X.1 X.2.1 d_M_principalAt_13 rfl (lv_at hl 1 rfl) ?_
    refine lv_bipush (v := iI 11) X.1 X.2.1 d_M_principalAt_14 (by decide) ?_
    refine lv_iconst (v := iI 1) X.1 X.2.1 d_M_principalAt_16 (by decide) ?_
    refine r_ni (m_run (As := [.int (iI 11), .int (iI 1)]) (rest := []) (n := 2) X Y hZ hA hml hl.1 (r_M_b l D E h q H.size I102 J102 B102 G102 11 (by omega) (by omega) 1 (by omega) (by omega) S.1) kl_M_b ks_M_b kx_M_b ki_M_b ini_M hd_M_b ⟨Nat.le_of_ble_eq_true rfl, Nat.le_of_ble_eq_true rfl⟩ rfl (Nat.le_of_ble_eq_true rfl) d_M_principalAt_17 ⟨Nat.le_refl _, Nat.le_refl _⟩) X Y hA S (by decide) (by decide) (fun z103 u H locs Y S s103 p103 => ?_)
    obtain ⟨I103, J103, B103, G103⟩ := u
    dsimp only at Y S s103 p103
    have i103 : I102 = I103 := (funext (fun j => s103.2.1 j (by simp))).symm
    subst i103
    have b103 : B102 = B103 := (funext (fun j => s103.2.2 j (by simp))).symm
    subst b103
    obtain ⟨l103, u103, x103⟩ := p103
    have p104 : pr z102 z103 := by rw [x102, x103]; exact (pG2_cg rfl rfl g102_P2) (16 * 11 + 1 : Int).toNat (by omega)
    unfold pr at p104
    refine lv_istore (lv' := [(4, .int (iI z103)), (3, .int (iI z102)), (0, .ref h), (1, .int (iI a1)), (2, .int (iI a2))]) X.1 X.2.1 d_M_principalAt_20 hl (by decide) rfl (fun ls hl => ?_)
    refine lv_aload_n X.1 X.2.1 d_M_principalAt_22 rfl (lv_at hl 2 rfl) ?_
    refine lv_iload_n X.1 X.2.1 d_M_principalAt_23 rfl (lv_at hl 1 rfl) ?_
    refine lv_iload X.1 X.2.1 d_M_principalAt_24 (lv_at hl 0 rfl) ?_
    refine lv_bipush (v := iI 48) X.1 X.2.1 d_M_principalAt_26 (by decide) ?_
    refine r_ni (m_run (As := [.int (iI z102), .int (iI z103), .int (iI 48)]) (rest := []) (n := 3) X Y hZ hA hml hl.1 (r_M_element l D E h q H.size I102 J103 B102 G103 z102 (by omega) (by omega) z103 (by omega) (by omega) 48 (by omega) (by omega) S.1 (B102 0) rfl (pG1_cg rfl rfl g102_P1) (by omega) (by omega)) kl_M_element ks_M_element kx_M_element ki_M_element ini_M hd_M_element ⟨Nat.le_of_ble_eq_true rfl, Nat.le_of_ble_eq_true rfl⟩ rfl (Nat.le_of_ble_eq_true rfl) d_M_principalAt_28 ⟨Nat.le_refl _, Nat.le_refl _⟩) X Y hA S (by decide) (by decide) (fun z105 u H locs Y S s105 p105 => ?_)
    obtain ⟨I105, J105, B105, G105⟩ := u
    dsimp only at Y S s105 p105
    have b105 : B102 = B105 := (funext (fun j => s105.2.2 j (by simp))).symm
    subst b105
    obtain ⟨l105, u105, x105, st105⟩ := p105
    obtain ⟨x106, y106, ex106, ey106, lx106, ly106, uy106, dy106, iy106, ky106⟩ := st105
    refine lv_pop X.1 X.2.1 d_M_principalAt_31 rfl ?_
    refine lv_aload_n X.1 X.2.1 d_M_principalAt_32 rfl (lv_at hl 2 rfl) ?_
    refine r_get0 X Y (by decide) lk_behind (gf_behind _ _ _) rfl ey106 d_M_principalAt_33 ?_
    refine lv_istore (lv' := [(5, .int (iI y106)), (4, .int (iI z103)), (3, .int (iI z102)), (0, .ref h), (1, .int (iI a1)), (2, .int (iI a2))]) X.1 X.2.1 d_M_principalAt_36 hl (by decide) rfl (fun ls hl => ?_)
    refine lv_aload_n X.1 X.2.1 d_M_principalAt_38 rfl (lv_at hl 3 rfl) ?_
    refine r_get0 X Y (by decide) lk_inside (gf_inside _ _ _) rfl ex106 d_M_principalAt_39 ?_
    refine lv_istore (lv' := [(6, .int (iI x106)), (5, .int (iI y106)), (4, .int (iI z103)), (3, .int (iI z102)), (0, .ref h), (1, .int (iI a1)), (2, .int (iI a2))]) X.1 X.2.1 d_M_principalAt_42 hl (by decide) rfl (fun ls hl => ?_)
    refine lv_aload_n X.1 X.2.1 d_M_principalAt_44 rfl (lv_at hl 4 rfl) ?_
    refine lv_iconst (v := iI 0) X.1 X.2.1 d_M_principalAt_45 (by decide) ?_
    refine r_puti (k := 54) X Y S (by decide) lk_nameSize rfl rfl (t_M_ok 54 (by decide)) rfl rfl (sf_nameSize _ _ _ _) (Nat.le_of_ble_eq_true rfl) rfl (show (0 : Int) ≤ 0 by omega) (show 0 ≤ (40 : Int) by omega) ⟨by omega, by omega⟩ (by decide) d_M_principalAt_46 (fun I107 H locs Y S w107 => ?_)
    refine lv_iload X.1 X.2.1 d_M_principalAt_49 (lv_at hl 0 rfl) ?_
    refine lv_iload X.1 X.2.1 d_M_principalAt_51 (lv_at hl 1 rfl) ?_
    refine z_icmp_ge (tgt := 60) X.1 X.2.1 d_M_principalAt_53 (by decide) ⟨by omega, by omega⟩ ⟨by omega, by omega⟩ (fun h108 => ?_) (fun h108 => ?_)
    · refine lv_iconst (v := iI 0) X.1 X.2.1 d_M_principalAt_60 (by decide) ?_
      have J114 : ∀ (z109 : Int) (H : Heap) (locs : List Loc) (ls : Array Slot), (0 ≤ z109) → (z109 ≤ 0) → (z109 = 0 ∨ 0 ≤ 33) → (0 ≤ x106) → (y106 - x106 ≤ 4200) → (y106 = x106 ∨ y106 = y106) → mH D E (mA E h q sz) s.heap h q I107 J105 B102 G105 H locs → rS [39, 40, 54] [37, 38, 53] I B I107 B102 → lv_has ls 9 [(0, .ref h), (5, .int (iI y106)), (6, .int (iI x106)), (7, .int (iI z109))] → W p l e (mR 44 2014) s m AV below meth c H locs 0 0 QQ (F0 m 63 ls []) := by
        intro z109 H locs ls l109 u109 i110 i111 i112 i113 Y S hl
        refine lv_iload X.1 X.2.1 d_M_principalAt_63 (lv_at hl 2 rfl) ?_
        refine lv_iload X.1 X.2.1 d_M_principalAt_65 (lv_at hl 1 rfl) ?_
        refine z_icmp_ge (tgt := 245) X.1 X.2.1 d_M_principalAt_67 (by decide) ⟨by omega, by omega⟩ ⟨by omega, by omega⟩ (fun h118 => ?_) (fun h118 => ?_)
        · refine lv_iload X.1 X.2.1 d_M_principalAt_245 (lv_at hl 3 rfl) ?_
          refine z_if_eq (tgt := 257) X.1 X.2.1 d_M_principalAt_247 (by decide) ⟨by omega, by omega⟩ (fun h119 => ?_) (fun h119 => False.elim (by omega))
          · refine lv_iconst (v := iI (-1)) X.1 X.2.1 d_M_principalAt_257 (by decide) ?_
            exact m_reti hQQ X Y hr hlk ⟨S, (-1), rfl, ⟨by omega, by omega, (pG1_cg (w107.2 39 (by decide)) (w107.2 40 (by decide)) (show pG1 I105 from ⟨x106, y106, ex106, ey106, by omega, by omega, by omega, by omega⟩)), (pG2_cg rfl rfl (pG2_cg rfl rfl (pG2_cg rfl rfl g102_P2))), (thF_cg rfl rfl (thF_cg rfl rfl (thF_cg rfl rfl (thF_tr thF_rf g102_TF (by decide)))))⟩⟩ d_M_principalAt_258
        · refine lv_iload X.1 X.2.1 d_M_principalAt_70 (lv_at hl 3 rfl) ?_
          refine z_if_eq (tgt := 245) X.1 X.2.1 d_M_principalAt_72 (by decide) ⟨by omega, by omega⟩ (fun h120 => ?_) (fun h120 => False.elim (by omega))
          · refine lv_iload X.1 X.2.1 d_M_principalAt_245 (lv_at hl 3 rfl) ?_
            refine z_if_eq (tgt := 257) X.1 X.2.1 d_M_principalAt_247 (by decide) ⟨by omega, by omega⟩ (fun h121 => ?_) (fun h121 => False.elim (by omega))
            · refine lv_iconst (v := iI (-1)) X.1 X.2.1 d_M_principalAt_257 (by decide) ?_
              exact m_reti hQQ X Y hr hlk ⟨S, (-1), rfl, ⟨by omega, by omega, (pG1_cg (w107.2 39 (by decide)) (w107.2 40 (by decide)) (show pG1 I105 from ⟨x106, y106, ex106, ey106, by omega, by omega, by omega, by omega⟩)), (pG2_cg rfl rfl (pG2_cg rfl rfl (pG2_cg rfl rfl g102_P2))), (thF_cg rfl rfl (thF_cg rfl rfl (thF_cg rfl rfl (thF_tr thF_rf g102_TF (by decide)))))⟩⟩ d_M_principalAt_258
      refine lv_istore (lv' := [(7, .int (iI 0)), (6, .int (iI x106)), (5, .int (iI y106)), (4, .int (iI z103)), (3, .int (iI z102)), (0, .ref h), (1, .int (iI a1)), (2, .int (iI a2))]) X.1 X.2.1 d_M_principalAt_61 hl (by decide) rfl (fun ls hl => ?_)
      exact J114 0 _ _ _ (by omega) (by omega) (by omega) (by omega) (by omega) (by omega) Y S (lv_sub hl [5, 2, 1, 0] rfl)
    · refine lv_iconst (v := iI 1) X.1 X.2.1 d_M_principalAt_56 (by decide) ?_
      refine lv_goto (tgt := 61) X.1 X.2.1 d_M_principalAt_57 (by decide) ?_
      have J135 : ∀ (n137 : Nat) (z123 : Int) (z124 : Int) (z128 : Int) (z129 : Int) (z130 : Int) (I122 : Nat → Int32) (J122 : Nat → Int64) (B122 : Nat → Nat → Int32) (G122 : Nat → Nat → Int64) (H : Heap) (locs : List Loc) (ls : Array Slot), (2 * (40 - z128) + z124).toNat = n137 → (0 ≤ z123) → (z123 ≤ 30000) → (0 ≤ z124) → (z124 ≤ 1) → (pG1 I122) → (pG2 (B122 37) (B122 38)) → (thF [11] (B 37) (B 38) (B122 37) (B122 38)) → (I122 54 = iI z128) → (0 ≤ z128) → (z128 ≤ 34) → (I122 39 = iI z129) → (0 ≤ z129) → (z129 ≤ 30000) → (I122 40 = iI z130) → (0 ≤ z130) → (z130 ≤ 30000) → (z124 = 0 ∨ z128 ≤ 33) → (0 ≤ z123) → (y106 - z123 ≤ 4200) → (z130 = z123 ∨ z130 = y106) → mH D E (mA E h q sz) s.heap h q I122 J122 B122 G122 H locs → rS [39, 40, 54] [37, 38, 53] I B I122 B122 → lv_has ls 9 [(0, .ref h), (5, .int (iI y106)), (6, .int (iI z123)), (7, .int (iI z124))] → W p l e (mR 44 2014) s m AV below meth c H locs 0 0 QQ (F0 m 63 ls []) := by
        intro n137
        induction n137 using Nat.strongRecOn with
        | ind n137 ih136 =>
          intro z123 z124 z128 z129 z130 I122 J122 B122 G122 H locs ls hm138 l123 u123 l124 u124 f125 f126 f127 e128 l128 u128 e129 l129 u129 e130 l130 u130 i131 i132 i133 i134 Y S hl
          refine lv_iload X.1 X.2.1 d_M_principalAt_63 (lv_at hl 2 rfl) ?_
          refine lv_iload X.1 X.2.1 d_M_principalAt_65 (lv_at hl 1 rfl) ?_
          refine z_icmp_ge (tgt := 245) X.1 X.2.1 d_M_principalAt_67 (by decide) ⟨by omega, by omega⟩ ⟨by omega, by omega⟩ (fun h139 => ?_) (fun h139 => ?_)
          · refine lv_iload X.1 X.2.1 d_M_principalAt_245 (lv_at hl 3 rfl) ?_
            refine z_if_eq (tgt := 257) X.1 X.2.1 d_M_principalAt_247 (by decide) ⟨by omega, by omega⟩ (fun h140 => ?_) (fun h140 => ?_)
            · refine lv_iconst (v := iI (-1)) X.1 X.2.1 d_M_principalAt_257 (by decide) ?_
              exact m_reti hQQ X Y hr hlk ⟨S, (-1), rfl, ⟨by omega, by omega, f125, f126, f127⟩⟩ d_M_principalAt_258
            · refine lv_aload_n X.1 X.2.1 d_M_principalAt_250 rfl (lv_at hl 0 rfl) ?_
              refine r_ni (m_run (As := []) (rest := []) (n := 0) X Y hZ hA hml hl.1 (r_M_findName l D E h q H.size I122 J122 B122 G122 S.1) kl_M_findName ks_M_findName kx_M_findName ki_M_findName ini_M hd_M_findName ⟨Nat.le_of_ble_eq_true rfl, Nat.le_of_ble_eq_true rfl⟩ rfl (Nat.le_of_ble_eq_true rfl) d_M_principalAt_251 ⟨Nat.le_refl _, Nat.le_refl _⟩) X Y hA S (by decide) (by decide) (fun z141 u H locs Y S s141 p141 => ?_)
              obtain ⟨I141, J141, B141, G141⟩ := u
              dsimp only at Y S s141 p141
              have i141 : I122 = I141 := (funext (fun j => s141.2.1 j (by simp))).symm
              subst i141
              have b141 : B122 = B141 := (funext (fun j => s141.2.2 j (by simp))).symm
              subst b141
              obtain ⟨l141, u141⟩ := p141
              refine lv_goto (tgt := 258) X.1 X.2.1 d_M_principalAt_254 (by decide) ?_
              exact m_reti hQQ X Y hr hlk ⟨S, z141, rfl, ⟨by omega, by omega, (pG1_cg rfl rfl f125), (pG2_cg rfl rfl f126), (thF_cg rfl rfl f127)⟩⟩ d_M_principalAt_258
          · refine lv_iload X.1 X.2.1 d_M_principalAt_70 (lv_at hl 3 rfl) ?_
            refine z_if_eq (tgt := 245) X.1 X.2.1 d_M_principalAt_72 (by decide) ⟨by omega, by omega⟩ (fun h142 => ?_) (fun h142 => ?_)
            · refine lv_iload X.1 X.2.1 d_M_principalAt_245 (lv_at hl 3 rfl) ?_
              refine z_if_eq (tgt := 257) X.1 X.2.1 d_M_principalAt_247 (by decide) ⟨by omega, by omega⟩ (fun h143 => ?_) (fun h143 => False.elim (by omega))
              · refine lv_iconst (v := iI (-1)) X.1 X.2.1 d_M_principalAt_257 (by decide) ?_
                exact m_reti hQQ X Y hr hlk ⟨S, (-1), rfl, ⟨by omega, by omega, f125, f126, f127⟩⟩ d_M_principalAt_258
            · refine lv_aload_n X.1 X.2.1 d_M_principalAt_75 rfl (lv_at hl 0 rfl) ?_
              refine lv_iload X.1 X.2.1 d_M_principalAt_76 (lv_at hl 2 rfl) ?_
              refine lv_iload X.1 X.2.1 d_M_principalAt_78 (lv_at hl 1 rfl) ?_
              refine lv_bipush (v := iI 27) X.1 X.2.1 d_M_principalAt_80 (by decide) ?_
              refine r_ni (m_run (As := [.int (iI z123), .int (iI y106), .int (iI 27)]) (rest := []) (n := 3) X Y hZ hA hml hl.1 (r_M_element l D E h q H.size I122 J122 B122 G122 z123 (by omega) (by omega) y106 (by omega) (by omega) 27 (by omega) (by omega) S.1 (B122 0) rfl f125 (by omega) (by omega)) kl_M_element ks_M_element kx_M_element ki_M_element ini_M hd_M_element ⟨Nat.le_of_ble_eq_true rfl, Nat.le_of_ble_eq_true rfl⟩ rfl (Nat.le_of_ble_eq_true rfl) d_M_principalAt_82 ⟨Nat.le_refl _, Nat.le_refl _⟩) X Y hA S (by decide) (by decide) (fun z144 u H locs Y S s144 p144 => ?_)
              obtain ⟨I144, J144, B144, G144⟩ := u
              dsimp only at Y S s144 p144
              have b144 : B122 = B144 := (funext (fun j => s144.2.2 j (by simp))).symm
              subst b144
              obtain ⟨l144, u144, x144, st144⟩ := p144
              obtain ⟨x145, y145, ex145, ey145, lx145, ly145, uy145, dy145, iy145, ky145⟩ := st144
              have oy145 : z144 = 0 → x145 = z129 ∧ y145 = z130 := fun h9 => ⟨(iI_eq ⟨by omega, by omega⟩ ⟨by omega, by omega⟩).mp (ex145.symm.trans ((ky145 h9).1.trans e129)), (iI_eq ⟨by omega, by omega⟩ ⟨by omega, by omega⟩).mp (ey145.symm.trans ((ky145 h9).2.trans e130))⟩
              refine lv_pop X.1 X.2.1 d_M_principalAt_85 rfl ?_
              refine lv_aload_n X.1 X.2.1 d_M_principalAt_86 rfl (lv_at hl 0 rfl) ?_
              refine r_get0 X Y (by decide) lk_nameSize (gf_nameSize _ _ _) rfl ((s144.2.1 54 (by decide)).trans e128) d_M_principalAt_87 ?_
              refine z_if_le (tgt := 114) X.1 X.2.1 d_M_principalAt_90 (by decide) ⟨by omega, by omega⟩ (fun h146 => ?_) (fun h146 => ?_)
              · refine lv_aload_n X.1 X.2.1 d_M_principalAt_114 rfl (lv_at hl 0 rfl) ?_
                refine r_get0 X Y (by decide) lk_behind (gf_behind _ _ _) rfl ey145 d_M_principalAt_115 ?_
                refine lv_aload_n X.1 X.2.1 d_M_principalAt_118 rfl (lv_at hl 0 rfl) ?_
                refine r_get0 X Y (by decide) lk_inside (gf_inside _ _ _) rfl ex145 d_M_principalAt_119 ?_
                refine z_icmp_le (tgt := 162) X.1 X.2.1 d_M_principalAt_122 (by decide) ⟨by omega, by omega⟩ ⟨by omega, by omega⟩ (fun h147 => ?_) (fun h147 => ?_)
                · refine lv_iconst (v := iI 0) X.1 X.2.1 d_M_principalAt_162 (by decide) ?_
                  refine lv_istore (lv' := [(7, .int (iI 0)), (0, .ref h), (5, .int (iI y106)), (6, .int (iI z123))]) X.1 X.2.1 d_M_principalAt_163 hl (by decide) rfl (fun ls hl => ?_)
                  refine lv_aload_n X.1 X.2.1 d_M_principalAt_165 rfl (lv_at hl 1 rfl) ?_
                  refine r_get0 X Y (by decide) lk_inside (gf_inside _ _ _) rfl ex145 d_M_principalAt_166 ?_
                  have J154 : ∀ (z148 : Int) (H : Heap) (locs : List Loc) (ls : Array Slot), (0 ≤ z148) → (z148 ≤ 30000) → (0 = 0 ∨ z128 + (y145 - z148) ≤ 33) → (z128 ≤ z128) → (z148 ≤ y145) → (x145 ≤ z148) → (0 = 0 ∨ z128 + (z148 - x145) ≤ z128) → mH D E (mA E h q sz) s.heap h q I144 J144 B122 G144 H locs → rS [39, 40, 54] [37, 38, 53] I B I144 B122 → lv_has ls 9 [(0, .ref h), (5, .int (iI y106)), (7, .int (iI 0)), (8, .int (iI z148))] → W p l e (mR 44 2014) s m AV below meth c H locs 0 0 QQ (F0 m 171 ls []) := by
                    intro z148 H locs ls l148 u148 i149 i150 i151 i152 i153 Y S hl
                    refine lv_iload X.1 X.2.1 d_M_principalAt_171 (lv_at hl 3 rfl) ?_
                    refine lv_aload_n X.1 X.2.1 d_M_principalAt_173 rfl (lv_at hl 0 rfl) ?_
                    refine r_get0 X Y (by decide) lk_behind (gf_behind _ _ _) rfl ey145 d_M_principalAt_174 ?_
                    refine z_icmp_ge (tgt := 236) X.1 X.2.1 d_M_principalAt_177 (by decide) ⟨by omega, by omega⟩ ⟨by omega, by omega⟩ (fun h158 => ?_) (fun h158 => ?_)
                    · refine lv_aload_n X.1 X.2.1 d_M_principalAt_236 rfl (lv_at hl 0 rfl) ?_
                      refine r_get0 X Y (by decide) lk_behind (gf_behind _ _ _) rfl ey145 d_M_principalAt_237 ?_
                      refine lv_istore (lv' := [(6, .int (iI y145)), (0, .ref h), (5, .int (iI y106)), (7, .int (iI 0)), (8, .int (iI z148))]) X.1 X.2.1 d_M_principalAt_240 hl (by decide) rfl (fun ls hl => ?_)
                      refine lv_goto (tgt := 63) X.1 X.2.1 d_M_principalAt_242 (by decide) ?_
                      exact ih136 ((2 * (40 - z128) + 0).toNat) (by omega) y145 0 z128 x145 y145 I144 J144 B122 G144 _ _ _ rfl (by omega) (by omega) (by omega) (by omega) (show pG1 I144 from ⟨x145, y145, ex145, ey145, by omega, by omega, by omega, by omega⟩) (pG2_cg rfl rfl f126) (thF_cg rfl rfl f127) ((s144.2.1 54 (by decide)).trans e128) (by omega) (by omega) ex145 (by omega) (by omega) ey145 (by omega) (by omega) (by omega) (by omega) (by omega) (by omega) Y S (lv_sub hl [1, 2, 0, 3] rfl)
                    · refine lv_iload X.1 X.2.1 d_M_principalAt_180 (lv_at hl 2 rfl) ?_
                      refine z_if_eq (tgt := 236) X.1 X.2.1 d_M_principalAt_182 (by decide) ⟨by omega, by omega⟩ (fun h159 => ?_) (fun h159 => False.elim (by omega))
                      · refine lv_aload_n X.1 X.2.1 d_M_principalAt_236 rfl (lv_at hl 0 rfl) ?_
                        refine r_get0 X Y (by decide) lk_behind (gf_behind _ _ _) rfl ey145 d_M_principalAt_237 ?_
                        refine lv_istore (lv' := [(6, .int (iI y145)), (0, .ref h), (5, .int (iI y106)), (7, .int (iI 0)), (8, .int (iI z148))]) X.1 X.2.1 d_M_principalAt_240 hl (by decide) rfl (fun ls hl => ?_)
                        refine lv_goto (tgt := 63) X.1 X.2.1 d_M_principalAt_242 (by decide) ?_
                        exact ih136 ((2 * (40 - z128) + 0).toNat) (by omega) y145 0 z128 x145 y145 I144 J144 B122 G144 _ _ _ rfl (by omega) (by omega) (by omega) (by omega) (show pG1 I144 from ⟨x145, y145, ex145, ey145, by omega, by omega, by omega, by omega⟩) (pG2_cg rfl rfl f126) (thF_cg rfl rfl f127) ((s144.2.1 54 (by decide)).trans e128) (by omega) (by omega) ex145 (by omega) (by omega) ey145 (by omega) (by omega) (by omega) (by omega) (by omega) (by omega) Y S (lv_sub hl [1, 2, 0, 3] rfl)
                  refine lv_istore (lv' := [(8, .int (iI x145)), (7, .int (iI 0)), (0, .ref h), (5, .int (iI y106)), (6, .int (iI z123))]) X.1 X.2.1 d_M_principalAt_169 hl (by decide) rfl (fun ls hl => ?_)
                  exact J154 x145 _ _ _ (by omega) (by omega) (by omega) (by omega) (by omega) (by omega) (by omega) Y S (lv_sub hl [2, 3, 1, 0] rfl)
                · refine lv_aload_n X.1 X.2.1 d_M_principalAt_125 rfl (lv_at hl 0 rfl) ?_
                  refine r_get0 X Y (by decide) lk_behind (gf_behind _ _ _) rfl ey145 d_M_principalAt_126 ?_
                  refine lv_aload_n X.1 X.2.1 d_M_principalAt_129 rfl (lv_at hl 0 rfl) ?_
                  refine r_get0 X Y (by decide) lk_inside (gf_inside _ _ _) rfl ex145 d_M_principalAt_130 ?_
                  refine z_isub X.1 X.2.1 d_M_principalAt_133 ?_
                  refine lv_bipush (v := iI 16) X.1 X.2.1 d_M_principalAt_134 (by decide) ?_
                  refine z_icmp_gt (tgt := 162) X.1 X.2.1 d_M_principalAt_136 (by decide) ⟨by omega, by omega⟩ ⟨by omega, by omega⟩ (fun h160 => ?_) (fun h160 => ?_)
                  · refine lv_iconst (v := iI 0) X.1 X.2.1 d_M_principalAt_162 (by decide) ?_
                    refine lv_istore (lv' := [(7, .int (iI 0)), (0, .ref h), (5, .int (iI y106)), (6, .int (iI z123))]) X.1 X.2.1 d_M_principalAt_163 hl (by decide) rfl (fun ls hl => ?_)
                    refine lv_aload_n X.1 X.2.1 d_M_principalAt_165 rfl (lv_at hl 1 rfl) ?_
                    refine r_get0 X Y (by decide) lk_inside (gf_inside _ _ _) rfl ex145 d_M_principalAt_166 ?_
                    have J167 : ∀ (z161 : Int) (H : Heap) (locs : List Loc) (ls : Array Slot), (0 ≤ z161) → (z161 ≤ 29999) → (0 = 0 ∨ z128 + (y145 - z161) ≤ 33) → (z128 ≤ z128) → (z161 ≤ y145) → (x145 ≤ z161) → (0 = 0 ∨ z128 + (z161 - x145) ≤ z128) → mH D E (mA E h q sz) s.heap h q I144 J144 B122 G144 H locs → rS [39, 40, 54] [37, 38, 53] I B I144 B122 → lv_has ls 9 [(0, .ref h), (5, .int (iI y106)), (7, .int (iI 0)), (8, .int (iI z161))] → W p l e (mR 44 2014) s m AV below meth c H locs 0 0 QQ (F0 m 171 ls []) := by
                      intro z161 H locs ls l161 u161 i162 i163 i164 i165 i166 Y S hl
                      refine lv_iload X.1 X.2.1 d_M_principalAt_171 (lv_at hl 3 rfl) ?_
                      refine lv_aload_n X.1 X.2.1 d_M_principalAt_173 rfl (lv_at hl 0 rfl) ?_
                      refine r_get0 X Y (by decide) lk_behind (gf_behind _ _ _) rfl ey145 d_M_principalAt_174 ?_
                      refine z_icmp_ge (tgt := 236) X.1 X.2.1 d_M_principalAt_177 (by decide) ⟨by omega, by omega⟩ ⟨by omega, by omega⟩ (fun h171 => ?_) (fun h171 => ?_)
                      · refine lv_aload_n X.1 X.2.1 d_M_principalAt_236 rfl (lv_at hl 0 rfl) ?_
                        refine r_get0 X Y (by decide) lk_behind (gf_behind _ _ _) rfl ey145 d_M_principalAt_237 ?_
                        refine lv_istore (lv' := [(6, .int (iI y145)), (0, .ref h), (5, .int (iI y106)), (7, .int (iI 0)), (8, .int (iI z161))]) X.1 X.2.1 d_M_principalAt_240 hl (by decide) rfl (fun ls hl => ?_)
                        refine lv_goto (tgt := 63) X.1 X.2.1 d_M_principalAt_242 (by decide) ?_
                        exact ih136 ((2 * (40 - z128) + 0).toNat) (by omega) y145 0 z128 x145 y145 I144 J144 B122 G144 _ _ _ rfl (by omega) (by omega) (by omega) (by omega) (show pG1 I144 from ⟨x145, y145, ex145, ey145, by omega, by omega, by omega, by omega⟩) (pG2_cg rfl rfl f126) (thF_cg rfl rfl f127) ((s144.2.1 54 (by decide)).trans e128) (by omega) (by omega) ex145 (by omega) (by omega) ey145 (by omega) (by omega) (by omega) (by omega) (by omega) (by omega) Y S (lv_sub hl [1, 2, 0, 3] rfl)
                      · refine lv_iload X.1 X.2.1 d_M_principalAt_180 (lv_at hl 2 rfl) ?_
                        refine z_if_eq (tgt := 236) X.1 X.2.1 d_M_principalAt_182 (by decide) ⟨by omega, by omega⟩ (fun h172 => ?_) (fun h172 => False.elim (by omega))
                        · refine lv_aload_n X.1 X.2.1 d_M_principalAt_236 rfl (lv_at hl 0 rfl) ?_
                          refine r_get0 X Y (by decide) lk_behind (gf_behind _ _ _) rfl ey145 d_M_principalAt_237 ?_
                          refine lv_istore (lv' := [(6, .int (iI y145)), (0, .ref h), (5, .int (iI y106)), (7, .int (iI 0)), (8, .int (iI z161))]) X.1 X.2.1 d_M_principalAt_240 hl (by decide) rfl (fun ls hl => ?_)
                          refine lv_goto (tgt := 63) X.1 X.2.1 d_M_principalAt_242 (by decide) ?_
                          exact ih136 ((2 * (40 - z128) + 0).toNat) (by omega) y145 0 z128 x145 y145 I144 J144 B122 G144 _ _ _ rfl (by omega) (by omega) (by omega) (by omega) (show pG1 I144 from ⟨x145, y145, ex145, ey145, by omega, by omega, by omega, by omega⟩) (pG2_cg rfl rfl f126) (thF_cg rfl rfl f127) ((s144.2.1 54 (by decide)).trans e128) (by omega) (by omega) ex145 (by omega) (by omega) ey145 (by omega) (by omega) (by omega) (by omega) (by omega) (by omega) Y S (lv_sub hl [1, 2, 0, 3] rfl)
                    refine lv_istore (lv' := [(8, .int (iI x145)), (7, .int (iI 0)), (0, .ref h), (5, .int (iI y106)), (6, .int (iI z123))]) X.1 X.2.1 d_M_principalAt_169 hl (by decide) rfl (fun ls hl => ?_)
                    exact J167 x145 _ _ _ (by omega) (by omega) (by omega) (by omega) (by omega) (by omega) (by omega) Y S (lv_sub hl [2, 3, 1, 0] rfl)
                  · refine lv_aload_n X.1 X.2.1 d_M_principalAt_139 rfl (lv_at hl 0 rfl) ?_
                    refine r_get0 X Y (by decide) lk_nameSize (gf_nameSize _ _ _) rfl ((s144.2.1 54 (by decide)).trans e128) d_M_principalAt_140 ?_
                    refine lv_aload_n X.1 X.2.1 d_M_principalAt_143 rfl (lv_at hl 0 rfl) ?_
                    refine r_get0 X Y (by decide) lk_behind (gf_behind _ _ _) rfl ey145 d_M_principalAt_144 ?_
                    refine z_iadd X.1 X.2.1 d_M_principalAt_147 ?_
                    refine lv_aload_n X.1 X.2.1 d_M_principalAt_148 rfl (lv_at hl 0 rfl) ?_
                    refine r_get0 X Y (by decide) lk_inside (gf_inside _ _ _) rfl ex145 d_M_principalAt_149 ?_
                    refine z_isub X.1 X.2.1 d_M_principalAt_152 ?_
                    refine lv_bipush (v := iI 33) X.1 X.2.1 d_M_principalAt_153 (by decide) ?_
                    refine z_icmp_gt (tgt := 162) X.1 X.2.1 d_M_principalAt_155 (by decide) ⟨by omega, by omega⟩ ⟨by omega, by omega⟩ (fun h173 => ?_) (fun h173 => ?_)
                    · refine lv_iconst (v := iI 0) X.1 X.2.1 d_M_principalAt_162 (by decide) ?_
                      refine lv_istore (lv' := [(7, .int (iI 0)), (0, .ref h), (5, .int (iI y106)), (6, .int (iI z123))]) X.1 X.2.1 d_M_principalAt_163 hl (by decide) rfl (fun ls hl => ?_)
                      refine lv_aload_n X.1 X.2.1 d_M_principalAt_165 rfl (lv_at hl 1 rfl) ?_
                      refine r_get0 X Y (by decide) lk_inside (gf_inside _ _ _) rfl ex145 d_M_principalAt_166 ?_
                      have J180 : ∀ (z174 : Int) (H : Heap) (locs : List Loc) (ls : Array Slot), (0 ≤ z174) → (z174 ≤ 29999) → (0 = 0 ∨ z128 + (y145 - z174) ≤ 33) → (z128 ≤ z128) → (z174 ≤ y145) → (x145 ≤ z174) → (0 = 0 ∨ z128 + (z174 - x145) ≤ z128) → mH D E (mA E h q sz) s.heap h q I144 J144 B122 G144 H locs → rS [39, 40, 54] [37, 38, 53] I B I144 B122 → lv_has ls 9 [(0, .ref h), (5, .int (iI y106)), (7, .int (iI 0)), (8, .int (iI z174))] → W p l e (mR 44 2014) s m AV below meth c H locs 0 0 QQ (F0 m 171 ls []) := by
                        intro z174 H locs ls l174 u174 i175 i176 i177 i178 i179 Y S hl
                        refine lv_iload X.1 X.2.1 d_M_principalAt_171 (lv_at hl 3 rfl) ?_
                        refine lv_aload_n X.1 X.2.1 d_M_principalAt_173 rfl (lv_at hl 0 rfl) ?_
                        refine r_get0 X Y (by decide) lk_behind (gf_behind _ _ _) rfl ey145 d_M_principalAt_174 ?_
                        refine z_icmp_ge (tgt := 236) X.1 X.2.1 d_M_principalAt_177 (by decide) ⟨by omega, by omega⟩ ⟨by omega, by omega⟩ (fun h184 => ?_) (fun h184 => ?_)
                        · refine lv_aload_n X.1 X.2.1 d_M_principalAt_236 rfl (lv_at hl 0 rfl) ?_
                          refine r_get0 X Y (by decide) lk_behind (gf_behind _ _ _) rfl ey145 d_M_principalAt_237 ?_
                          refine lv_istore (lv' := [(6, .int (iI y145)), (0, .ref h), (5, .int (iI y106)), (7, .int (iI 0)), (8, .int (iI z174))]) X.1 X.2.1 d_M_principalAt_240 hl (by decide) rfl (fun ls hl => ?_)
                          refine lv_goto (tgt := 63) X.1 X.2.1 d_M_principalAt_242 (by decide) ?_
                          exact ih136 ((2 * (40 - z128) + 0).toNat) (by omega) y145 0 z128 x145 y145 I144 J144 B122 G144 _ _ _ rfl (by omega) (by omega) (by omega) (by omega) (show pG1 I144 from ⟨x145, y145, ex145, ey145, by omega, by omega, by omega, by omega⟩) (pG2_cg rfl rfl f126) (thF_cg rfl rfl f127) ((s144.2.1 54 (by decide)).trans e128) (by omega) (by omega) ex145 (by omega) (by omega) ey145 (by omega) (by omega) (by omega) (by omega) (by omega) (by omega) Y S (lv_sub hl [1, 2, 0, 3] rfl)
                        · refine lv_iload X.1 X.2.1 d_M_principalAt_180 (lv_at hl 2 rfl) ?_
                          refine z_if_eq (tgt := 236) X.1 X.2.1 d_M_principalAt_182 (by decide) ⟨by omega, by omega⟩ (fun h185 => ?_) (fun h185 => False.elim (by omega))
                          · refine lv_aload_n X.1 X.2.1 d_M_principalAt_236 rfl (lv_at hl 0 rfl) ?_
                            refine r_get0 X Y (by decide) lk_behind (gf_behind _ _ _) rfl ey145 d_M_principalAt_237 ?_
                            refine lv_istore (lv' := [(6, .int (iI y145)), (0, .ref h), (5, .int (iI y106)), (7, .int (iI 0)), (8, .int (iI z174))]) X.1 X.2.1 d_M_principalAt_240 hl (by decide) rfl (fun ls hl => ?_)
                            refine lv_goto (tgt := 63) X.1 X.2.1 d_M_principalAt_242 (by decide) ?_
                            exact ih136 ((2 * (40 - z128) + 0).toNat) (by omega) y145 0 z128 x145 y145 I144 J144 B122 G144 _ _ _ rfl (by omega) (by omega) (by omega) (by omega) (show pG1 I144 from ⟨x145, y145, ex145, ey145, by omega, by omega, by omega, by omega⟩) (pG2_cg rfl rfl f126) (thF_cg rfl rfl f127) ((s144.2.1 54 (by decide)).trans e128) (by omega) (by omega) ex145 (by omega) (by omega) ey145 (by omega) (by omega) (by omega) (by omega) (by omega) (by omega) Y S (lv_sub hl [1, 2, 0, 3] rfl)
                      refine lv_istore (lv' := [(8, .int (iI x145)), (7, .int (iI 0)), (0, .ref h), (5, .int (iI y106)), (6, .int (iI z123))]) X.1 X.2.1 d_M_principalAt_169 hl (by decide) rfl (fun ls hl => ?_)
                      exact J180 x145 _ _ _ (by omega) (by omega) (by omega) (by omega) (by omega) (by omega) (by omega) Y S (lv_sub hl [2, 3, 1, 0] rfl)
                    · refine lv_iconst (v := iI 1) X.1 X.2.1 d_M_principalAt_158 (by decide) ?_
                      refine lv_goto (tgt := 163) X.1 X.2.1 d_M_principalAt_159 (by decide) ?_
                      refine lv_istore (lv' := [(7, .int (iI 1)), (0, .ref h), (5, .int (iI y106)), (6, .int (iI z123))]) X.1 X.2.1 d_M_principalAt_163 hl (by decide) rfl (fun ls hl => ?_)
                      refine lv_aload_n X.1 X.2.1 d_M_principalAt_165 rfl (lv_at hl 1 rfl) ?_
                      refine r_get0 X Y (by decide) lk_inside (gf_inside _ _ _) rfl ex145 d_M_principalAt_166 ?_
                      have J200 : ∀ (n202 : Nat) (z187 : Int) (z188 : Int) (z194 : Int) (I186 : Nat → Int32) (J186 : Nat → Int64) (B186 : Nat → Nat → Int32) (G186 : Nat → Nat → Int64) (H : Heap) (locs : List Loc) (ls : Array Slot), (30000 - z188).toNat = n202 → (0 ≤ z187) → (z187 ≤ 1) → (0 ≤ z188) → (z188 ≤ 30000) → (pG1 I186) → (pG2 (B186 37) (B186 38)) → (thF [11] (B 37) (B 38) (B186 37) (B186 38)) → (I186 39 = iI x145) → (I186 40 = iI y145) → (I186 54 = iI z194) → (0 ≤ z194) → (z194 ≤ 34) → (z187 = 0 ∨ z194 + (y145 - z188) ≤ 33) → (z128 ≤ z194) → (z188 ≤ y145) → (x145 ≤ z188) → (z187 = 0 ∨ z128 + (z188 - x145) ≤ z194) → mH D E (mA E h q sz) s.heap h q I186 J186 B186 G186 H locs → rS [39, 40, 54] [37, 38, 53] I B I186 B186 → lv_has ls 9 [(0, .ref h), (5, .int (iI y106)), (7, .int (iI z187)), (8, .int (iI z188))] → W p l e (mR 44 2014) s m AV below meth c H locs 0 0 QQ (F0 m 171 ls []) := by
                        intro n202
                        induction n202 using Nat.strongRecOn with
                        | ind n202 ih201 =>
                          intro z187 z188 z194 I186 J186 B186 G186 H locs ls hm203 l187 u187 l188 u188 f189 f190 f191 e192 e193 e194 l194 u194 i195 i196 i197 i198 i199 Y S hl
                          refine lv_iload X.1 X.2.1 d_M_principalAt_171 (lv_at hl 3 rfl) ?_
                          refine lv_aload_n X.1 X.2.1 d_M_principalAt_173 rfl (lv_at hl 0 rfl) ?_
                          refine r_get0 X Y (by decide) lk_behind (gf_behind _ _ _) rfl e193 d_M_principalAt_174 ?_
                          refine z_icmp_ge (tgt := 236) X.1 X.2.1 d_M_principalAt_177 (by decide) ⟨by omega, by omega⟩ ⟨by omega, by omega⟩ (fun h204 => ?_) (fun h204 => ?_)
                          · refine lv_aload_n X.1 X.2.1 d_M_principalAt_236 rfl (lv_at hl 0 rfl) ?_
                            refine r_get0 X Y (by decide) lk_behind (gf_behind _ _ _) rfl e193 d_M_principalAt_237 ?_
                            refine lv_istore (lv' := [(6, .int (iI y145)), (0, .ref h), (5, .int (iI y106)), (7, .int (iI z187)), (8, .int (iI z188))]) X.1 X.2.1 d_M_principalAt_240 hl (by decide) rfl (fun ls hl => ?_)
                            refine lv_goto (tgt := 63) X.1 X.2.1 d_M_principalAt_242 (by decide) ?_
                            exact ih136 ((2 * (40 - z194) + z187).toNat) (by omega) y145 z187 z194 x145 y145 I186 J186 B186 G186 _ _ _ rfl (by omega) (by omega) (by omega) (by omega) f189 f190 f191 e194 (by omega) (by omega) e192 (by omega) (by omega) e193 (by omega) (by omega) (by omega) (by omega) (by omega) (by omega) Y S (lv_sub hl [1, 2, 0, 3] rfl)
                          · refine lv_iload X.1 X.2.1 d_M_principalAt_180 (lv_at hl 2 rfl) ?_
                            refine z_if_eq (tgt := 236) X.1 X.2.1 d_M_principalAt_182 (by decide) ⟨by omega, by omega⟩ (fun h205 => ?_) (fun h205 => ?_)
                            · refine lv_aload_n X.1 X.2.1 d_M_principalAt_236 rfl (lv_at hl 0 rfl) ?_
                              refine r_get0 X Y (by decide) lk_behind (gf_behind _ _ _) rfl e193 d_M_principalAt_237 ?_
                              refine lv_istore (lv' := [(6, .int (iI y145)), (0, .ref h), (5, .int (iI y106)), (7, .int (iI z187)), (8, .int (iI z188))]) X.1 X.2.1 d_M_principalAt_240 hl (by decide) rfl (fun ls hl => ?_)
                              refine lv_goto (tgt := 63) X.1 X.2.1 d_M_principalAt_242 (by decide) ?_
                              exact ih136 ((2 * (40 - z194) + z187).toNat) (by omega) y145 z187 z194 x145 y145 I186 J186 B186 G186 _ _ _ rfl (by omega) (by omega) (by omega) (by omega) f189 f190 f191 e194 (by omega) (by omega) e192 (by omega) (by omega) e193 (by omega) (by omega) (by omega) (by omega) (by omega) (by omega) Y S (lv_sub hl [1, 2, 0, 3] rfl)
                            · refine lv_aload_n X.1 X.2.1 d_M_principalAt_185 rfl (lv_at hl 0 rfl) ?_
                              refine m_get X Y 53 (by decide) lk_name (gf_name _ _ _) rfl d_M_principalAt_186 ?_
                              refine lv_aload_n X.1 X.2.1 d_M_principalAt_189 rfl (lv_at hl 0 rfl) ?_
                              refine r_get0 X Y (by decide) lk_nameSize (gf_nameSize _ _ _) rfl e194 d_M_principalAt_190 ?_
                              refine lv_aload_n X.1 X.2.1 d_M_principalAt_193 rfl (lv_at hl 0 rfl) ?_
                              refine m_get X Y 0 (by decide) lk_mem (gf_mem _ _ _) rfl d_M_principalAt_194 ?_
                              refine lv_iload X.1 X.2.1 d_M_principalAt_197 (lv_at hl 3 rfl) ?_
                              refine r_bald X Y S (aw_mem _ _ _ _ _ _ _) rfl (by omega) (show z188 < ((60000 : Nat) : Int) by omega) (by omega) d_M_principalAt_199 (fun z206 q206 l206 u206 => ?_)
                              refine r_bast X Y S (aw_name _ _ _ _ _ _ _) (sw_name _ _ _ _ _ _ _) rfl (by omega) (show z194 < ((40 : Nat) : Int) by omega) (by omega) (by decide) d_M_principalAt_200 (fun B207 H locs Y S w207 => ?_)
                              refine lv_aload_n X.1 X.2.1 d_M_principalAt_201 rfl (lv_at hl 0 rfl) ?_
                              refine lv_dup X.1 X.2.1 d_M_principalAt_202 rfl ?_
                              refine r_get0 X Y (by decide) lk_nameSize (gf_nameSize _ _ _) rfl e194 d_M_principalAt_203 ?_
                              refine lv_iconst (v := iI 1) X.1 X.2.1 d_M_principalAt_206 (by decide) ?_
                              refine z_iadd X.1 X.2.1 d_M_principalAt_207 ?_
                              refine r_puti (k := 54) X Y S (by decide) lk_nameSize rfl rfl (t_M_ok 54 (by decide)) rfl rfl (sf_nameSize _ _ _ _) (Nat.le_of_ble_eq_true rfl) rfl (show (0 : Int) ≤ z194 + 1 by omega) (show z194 + 1 ≤ (40 : Int) by omega) ⟨by omega, by omega⟩ (by decide) d_M_principalAt_208 (fun I208 H locs Y S w208 => ?_)
                              refine lv_aload_n X.1 X.2.1 d_M_principalAt_211 rfl (lv_at hl 0 rfl) ?_
                              refine m_get X Y 0 (by decide) lk_mem (gf_mem _ _ _) rfl d_M_principalAt_212 ?_
                              refine lv_iload X.1 X.2.1 d_M_principalAt_215 (lv_at hl 3 rfl) ?_
                              refine r_bald X Y S (aw_mem _ _ _ _ _ _ _) rfl (by omega) (show z188 < ((60000 : Nat) : Int) by omega) (by omega) d_M_principalAt_217 (fun z209 q209 l209 u209 => ?_)
                              refine lv_bipush (v := iI 47) X.1 X.2.1 d_M_principalAt_218 (by decide) ?_
                              refine z_icmp_eq (tgt := 227) X.1 X.2.1 d_M_principalAt_220 (by decide) ⟨by omega, by omega⟩ ⟨by omega, by omega⟩ (fun h210 => ?_) (fun h210 => ?_)
                              · refine lv_iconst (v := iI 0) X.1 X.2.1 d_M_principalAt_227 (by decide) ?_
                                refine lv_istore (lv' := [(7, .int (iI 0)), (0, .ref h), (5, .int (iI y106)), (8, .int (iI z188))]) X.1 X.2.1 d_M_principalAt_228 hl (by decide) rfl (fun ls hl => ?_)
                                refine lv_iinc (v := iI (z188 + 1)) (lv' := [(8, .int (iI (z188 + 1))), (7, .int (iI 0)), (0, .ref h), (5, .int (iI y106))]) X.1 X.2.1 d_M_principalAt_230 hl (k := 3) rfl ((iI_add _ _).trans (congrArg iI (by omega))) (by decide) rfl (fun ls hl => ?_)
                                refine lv_goto (tgt := 171) X.1 X.2.1 d_M_principalAt_233 (by decide) ?_
                                exact ih201 ((30000 - (z188 + 1)).toNat) (by omega) 0 (z188 + 1) (z194 + 1) I208 J186 B207 G186 _ _ _ rfl (by omega) (by omega) (by omega) (by omega) (pG1_cg (w208.2 39 (by decide)) (w208.2 40 (by decide)) (pG1_cg rfl rfl f189)) (pG2_cg rfl rfl (pG2_cg (w207.2 37 (by decide)) (w207.2 38 (by decide)) f190)) (thF_cg rfl rfl (thF_cg (w207.2 37 (by decide)) (w207.2 38 (by decide)) f191)) ((w208.2 39 (by decide)).trans e192) ((w208.2 40 (by decide)).trans e193) w208.1 (by omega) (by omega) (by omega) (by omega) (by omega) (by omega) (by omega) Y S (lv_sub hl [2, 3, 1, 0] rfl)
                              · refine lv_iconst (v := iI 1) X.1 X.2.1 d_M_principalAt_223 (by decide) ?_
                                refine lv_goto (tgt := 228) X.1 X.2.1 d_M_principalAt_224 (by decide) ?_
                                refine lv_istore (lv' := [(7, .int (iI 1)), (0, .ref h), (5, .int (iI y106)), (8, .int (iI z188))]) X.1 X.2.1 d_M_principalAt_228 hl (by decide) rfl (fun ls hl => ?_)
                                refine lv_iinc (v := iI (z188 + 1)) (lv' := [(8, .int (iI (z188 + 1))), (7, .int (iI 1)), (0, .ref h), (5, .int (iI y106))]) X.1 X.2.1 d_M_principalAt_230 hl (k := 3) rfl ((iI_add _ _).trans (congrArg iI (by omega))) (by decide) rfl (fun ls hl => ?_)
                                refine lv_goto (tgt := 171) X.1 X.2.1 d_M_principalAt_233 (by decide) ?_
                                exact ih201 ((30000 - (z188 + 1)).toNat) (by omega) 1 (z188 + 1) (z194 + 1) I208 J186 B207 G186 _ _ _ rfl (by omega) (by omega) (by omega) (by omega) (pG1_cg (w208.2 39 (by decide)) (w208.2 40 (by decide)) (pG1_cg rfl rfl f189)) (pG2_cg rfl rfl (pG2_cg (w207.2 37 (by decide)) (w207.2 38 (by decide)) f190)) (thF_cg rfl rfl (thF_cg (w207.2 37 (by decide)) (w207.2 38 (by decide)) f191)) ((w208.2 39 (by decide)).trans e192) ((w208.2 40 (by decide)).trans e193) w208.1 (by omega) (by omega) (by omega) (by omega) (by omega) (by omega) (by omega) Y S (lv_sub hl [2, 3, 1, 0] rfl)
                      refine lv_istore (lv' := [(8, .int (iI x145)), (7, .int (iI 1)), (0, .ref h), (5, .int (iI y106)), (6, .int (iI z123))]) X.1 X.2.1 d_M_principalAt_169 hl (by decide) rfl (fun ls hl => ?_)
                      exact J200 _ 1 x145 z128 I144 J144 B122 G144 _ _ _ rfl (by omega) (by omega) (by omega) (by omega) (show pG1 I144 from ⟨x145, y145, ex145, ey145, by omega, by omega, by omega, by omega⟩) (pG2_cg rfl rfl f126) (thF_cg rfl rfl f127) ex145 ey145 ((s144.2.1 54 (by decide)).trans e128) (by omega) (by omega) (by omega) (by omega) (by omega) (by omega) (by omega) Y S (lv_sub hl [2, 3, 1, 0] rfl)
              · refine lv_aload_n X.1 X.2.1 d_M_principalAt_93 rfl (lv_at hl 0 rfl) ?_
                refine m_get X Y 53 (by decide) lk_name (gf_name _ _ _) rfl d_M_principalAt_94 ?_
                refine lv_aload_n X.1 X.2.1 d_M_principalAt_97 rfl (lv_at hl 0 rfl) ?_
                refine r_get0 X Y (by decide) lk_nameSize (gf_nameSize _ _ _) rfl ((s144.2.1 54 (by decide)).trans e128) d_M_principalAt_98 ?_
                refine lv_bipush (v := iI 47) X.1 X.2.1 d_M_principalAt_101 (by decide) ?_
                refine r_bast X Y S (aw_name _ _ _ _ _ _ _) (sw_name _ _ _ _ _ _ _) rfl (by omega) (show z128 < ((40 : Nat) : Int) by omega) (by omega) (by decide) d_M_principalAt_103 (fun B211 H locs Y S w211 => ?_)
                refine lv_aload_n X.1 X.2.1 d_M_principalAt_104 rfl (lv_at hl 0 rfl) ?_
                refine lv_dup X.1 X.2.1 d_M_principalAt_105 rfl ?_
                refine r_get0 X Y (by decide) lk_nameSize (gf_nameSize _ _ _) rfl ((s144.2.1 54 (by decide)).trans e128) d_M_principalAt_106 ?_
                refine lv_iconst (v := iI 1) X.1 X.2.1 d_M_principalAt_109 (by decide) ?_
                refine z_iadd X.1 X.2.1 d_M_principalAt_110 ?_
                refine r_puti (k := 54) X Y S (by decide) lk_nameSize rfl rfl (t_M_ok 54 (by decide)) rfl rfl (sf_nameSize _ _ _ _) (Nat.le_of_ble_eq_true rfl) rfl (show (0 : Int) ≤ z128 + 1 by omega) (show z128 + 1 ≤ (40 : Int) by omega) ⟨by omega, by omega⟩ (by decide) d_M_principalAt_111 (fun I212 H locs Y S w212 => ?_)
                refine lv_aload_n X.1 X.2.1 d_M_principalAt_114 rfl (lv_at hl 0 rfl) ?_
                refine r_get0 X Y (by decide) lk_behind (gf_behind _ _ _) rfl ((w212.2 40 (by decide)).trans ey145) d_M_principalAt_115 ?_
                refine lv_aload_n X.1 X.2.1 d_M_principalAt_118 rfl (lv_at hl 0 rfl) ?_
                refine r_get0 X Y (by decide) lk_inside (gf_inside _ _ _) rfl ((w212.2 39 (by decide)).trans ex145) d_M_principalAt_119 ?_
                refine z_icmp_le (tgt := 162) X.1 X.2.1 d_M_principalAt_122 (by decide) ⟨by omega, by omega⟩ ⟨by omega, by omega⟩ (fun h213 => ?_) (fun h213 => ?_)
                · refine lv_iconst (v := iI 0) X.1 X.2.1 d_M_principalAt_162 (by decide) ?_
                  refine lv_istore (lv' := [(7, .int (iI 0)), (0, .ref h), (5, .int (iI y106)), (6, .int (iI z123))]) X.1 X.2.1 d_M_principalAt_163 hl (by decide) rfl (fun ls hl => ?_)
                  refine lv_aload_n X.1 X.2.1 d_M_principalAt_165 rfl (lv_at hl 1 rfl) ?_
                  refine r_get0 X Y (by decide) lk_inside (gf_inside _ _ _) rfl ((w212.2 39 (by decide)).trans ex145) d_M_principalAt_166 ?_
                  have J220 : ∀ (z214 : Int) (H : Heap) (locs : List Loc) (ls : Array Slot), (0 ≤ z214) → (z214 ≤ 30000) → (0 = 0 ∨ z128 + 1 + (y145 - z214) ≤ 33) → (z128 + 1 ≤ z128 + 1) → (z214 ≤ y145) → (x145 ≤ z214) → (0 = 0 ∨ z128 + 1 + (z214 - x145) ≤ z128 + 1) → mH D E (mA E h q sz) s.heap h q I212 J144 B211 G144 H locs → rS [39, 40, 54] [37, 38, 53] I B I212 B211 → lv_has ls 9 [(0, .ref h), (5, .int (iI y106)), (7, .int (iI 0)), (8, .int (iI z214))] → W p l e (mR 44 2014) s m AV below meth c H locs 0 0 QQ (F0 m 171 ls []) := by
                    intro z214 H locs ls l214 u214 i215 i216 i217 i218 i219 Y S hl
                    refine lv_iload X.1 X.2.1 d_M_principalAt_171 (lv_at hl 3 rfl) ?_
                    refine lv_aload_n X.1 X.2.1 d_M_principalAt_173 rfl (lv_at hl 0 rfl) ?_
                    refine r_get0 X Y (by decide) lk_behind (gf_behind _ _ _) rfl ((w212.2 40 (by decide)).trans ey145) d_M_principalAt_174 ?_
                    refine z_icmp_ge (tgt := 236) X.1 X.2.1 d_M_principalAt_177 (by decide) ⟨by omega, by omega⟩ ⟨by omega, by omega⟩ (fun h224 => ?_) (fun h224 => ?_)
                    · refine lv_aload_n X.1 X.2.1 d_M_principalAt_236 rfl (lv_at hl 0 rfl) ?_
                      refine r_get0 X Y (by decide) lk_behind (gf_behind _ _ _) rfl ((w212.2 40 (by decide)).trans ey145) d_M_principalAt_237 ?_
                      refine lv_istore (lv' := [(6, .int (iI y145)), (0, .ref h), (5, .int (iI y106)), (7, .int (iI 0)), (8, .int (iI z214))]) X.1 X.2.1 d_M_principalAt_240 hl (by decide) rfl (fun ls hl => ?_)
                      refine lv_goto (tgt := 63) X.1 X.2.1 d_M_principalAt_242 (by decide) ?_
                      exact ih136 ((2 * (40 - (z128 + 1)) + 0).toNat) (by omega) y145 0 (z128 + 1) x145 y145 I212 J144 B211 G144 _ _ _ rfl (by omega) (by omega) (by omega) (by omega) (pG1_cg (w212.2 39 (by decide)) (w212.2 40 (by decide)) (pG1_cg rfl rfl (show pG1 I144 from ⟨x145, y145, ex145, ey145, by omega, by omega, by omega, by omega⟩))) (pG2_cg rfl rfl (pG2_cg (w211.2 37 (by decide)) (w211.2 38 (by decide)) (pG2_cg rfl rfl f126))) (thF_cg rfl rfl (thF_cg (w211.2 37 (by decide)) (w211.2 38 (by decide)) (thF_cg rfl rfl f127))) w212.1 (by omega) (by omega) ((w212.2 39 (by decide)).trans ex145) (by omega) (by omega) ((w212.2 40 (by decide)).trans ey145) (by omega) (by omega) (by omega) (by omega) (by omega) (by omega) Y S (lv_sub hl [1, 2, 0, 3] rfl)
                    · refine lv_iload X.1 X.2.1 d_M_principalAt_180 (lv_at hl 2 rfl) ?_
                      refine z_if_eq (tgt := 236) X.1 X.2.1 d_M_principalAt_182 (by decide) ⟨by omega, by omega⟩ (fun h225 => ?_) (fun h225 => False.elim (by omega))
                      · refine lv_aload_n X.1 X.2.1 d_M_principalAt_236 rfl (lv_at hl 0 rfl) ?_
                        refine r_get0 X Y (by decide) lk_behind (gf_behind _ _ _) rfl ((w212.2 40 (by decide)).trans ey145) d_M_principalAt_237 ?_
                        refine lv_istore (lv' := [(6, .int (iI y145)), (0, .ref h), (5, .int (iI y106)), (7, .int (iI 0)), (8, .int (iI z214))]) X.1 X.2.1 d_M_principalAt_240 hl (by decide) rfl (fun ls hl => ?_)
                        refine lv_goto (tgt := 63) X.1 X.2.1 d_M_principalAt_242 (by decide) ?_
                        exact ih136 ((2 * (40 - (z128 + 1)) + 0).toNat) (by omega) y145 0 (z128 + 1) x145 y145 I212 J144 B211 G144 _ _ _ rfl (by omega) (by omega) (by omega) (by omega) (pG1_cg (w212.2 39 (by decide)) (w212.2 40 (by decide)) (pG1_cg rfl rfl (show pG1 I144 from ⟨x145, y145, ex145, ey145, by omega, by omega, by omega, by omega⟩))) (pG2_cg rfl rfl (pG2_cg (w211.2 37 (by decide)) (w211.2 38 (by decide)) (pG2_cg rfl rfl f126))) (thF_cg rfl rfl (thF_cg (w211.2 37 (by decide)) (w211.2 38 (by decide)) (thF_cg rfl rfl f127))) w212.1 (by omega) (by omega) ((w212.2 39 (by decide)).trans ex145) (by omega) (by omega) ((w212.2 40 (by decide)).trans ey145) (by omega) (by omega) (by omega) (by omega) (by omega) (by omega) Y S (lv_sub hl [1, 2, 0, 3] rfl)
                  refine lv_istore (lv' := [(8, .int (iI x145)), (7, .int (iI 0)), (0, .ref h), (5, .int (iI y106)), (6, .int (iI z123))]) X.1 X.2.1 d_M_principalAt_169 hl (by decide) rfl (fun ls hl => ?_)
                  exact J220 x145 _ _ _ (by omega) (by omega) (by omega) (by omega) (by omega) (by omega) (by omega) Y S (lv_sub hl [2, 3, 1, 0] rfl)
                · refine lv_aload_n X.1 X.2.1 d_M_principalAt_125 rfl (lv_at hl 0 rfl) ?_
                  refine r_get0 X Y (by decide) lk_behind (gf_behind _ _ _) rfl ((w212.2 40 (by decide)).trans ey145) d_M_principalAt_126 ?_
                  refine lv_aload_n X.1 X.2.1 d_M_principalAt_129 rfl (lv_at hl 0 rfl) ?_
                  refine r_get0 X Y (by decide) lk_inside (gf_inside _ _ _) rfl ((w212.2 39 (by decide)).trans ex145) d_M_principalAt_130 ?_
                  refine z_isub X.1 X.2.1 d_M_principalAt_133 ?_
                  refine lv_bipush (v := iI 16) X.1 X.2.1 d_M_principalAt_134 (by decide) ?_
                  refine z_icmp_gt (tgt := 162) X.1 X.2.1 d_M_principalAt_136 (by decide) ⟨by omega, by omega⟩ ⟨by omega, by omega⟩ (fun h226 => ?_) (fun h226 => ?_)
                  · refine lv_iconst (v := iI 0) X.1 X.2.1 d_M_principalAt_162 (by decide) ?_
                    refine lv_istore (lv' := [(7, .int (iI 0)), (0, .ref h), (5, .int (iI y106)), (6, .int (iI z123))]) X.1 X.2.1 d_M_principalAt_163 hl (by decide) rfl (fun ls hl => ?_)
                    refine lv_aload_n X.1 X.2.1 d_M_principalAt_165 rfl (lv_at hl 1 rfl) ?_
                    refine r_get0 X Y (by decide) lk_inside (gf_inside _ _ _) rfl ((w212.2 39 (by decide)).trans ex145) d_M_principalAt_166 ?_
                    have J233 : ∀ (z227 : Int) (H : Heap) (locs : List Loc) (ls : Array Slot), (0 ≤ z227) → (z227 ≤ 29999) → (0 = 0 ∨ z128 + 1 + (y145 - z227) ≤ 33) → (z128 + 1 ≤ z128 + 1) → (z227 ≤ y145) → (x145 ≤ z227) → (0 = 0 ∨ z128 + 1 + (z227 - x145) ≤ z128 + 1) → mH D E (mA E h q sz) s.heap h q I212 J144 B211 G144 H locs → rS [39, 40, 54] [37, 38, 53] I B I212 B211 → lv_has ls 9 [(0, .ref h), (5, .int (iI y106)), (7, .int (iI 0)), (8, .int (iI z227))] → W p l e (mR 44 2014) s m AV below meth c H locs 0 0 QQ (F0 m 171 ls []) := by
                      intro z227 H locs ls l227 u227 i228 i229 i230 i231 i232 Y S hl
                      refine lv_iload X.1 X.2.1 d_M_principalAt_171 (lv_at hl 3 rfl) ?_
                      refine lv_aload_n X.1 X.2.1 d_M_principalAt_173 rfl (lv_at hl 0 rfl) ?_
                      refine r_get0 X Y (by decide) lk_behind (gf_behind _ _ _) rfl ((w212.2 40 (by decide)).trans ey145) d_M_principalAt_174 ?_
                      refine z_icmp_ge (tgt := 236) X.1 X.2.1 d_M_principalAt_177 (by decide) ⟨by omega, by omega⟩ ⟨by omega, by omega⟩ (fun h237 => ?_) (fun h237 => ?_)
                      · refine lv_aload_n X.1 X.2.1 d_M_principalAt_236 rfl (lv_at hl 0 rfl) ?_
                        refine r_get0 X Y (by decide) lk_behind (gf_behind _ _ _) rfl ((w212.2 40 (by decide)).trans ey145) d_M_principalAt_237 ?_
                        refine lv_istore (lv' := [(6, .int (iI y145)), (0, .ref h), (5, .int (iI y106)), (7, .int (iI 0)), (8, .int (iI z227))]) X.1 X.2.1 d_M_principalAt_240 hl (by decide) rfl (fun ls hl => ?_)
                        refine lv_goto (tgt := 63) X.1 X.2.1 d_M_principalAt_242 (by decide) ?_
                        exact ih136 ((2 * (40 - (z128 + 1)) + 0).toNat) (by omega) y145 0 (z128 + 1) x145 y145 I212 J144 B211 G144 _ _ _ rfl (by omega) (by omega) (by omega) (by omega) (pG1_cg (w212.2 39 (by decide)) (w212.2 40 (by decide)) (pG1_cg rfl rfl (show pG1 I144 from ⟨x145, y145, ex145, ey145, by omega, by omega, by omega, by omega⟩))) (pG2_cg rfl rfl (pG2_cg (w211.2 37 (by decide)) (w211.2 38 (by decide)) (pG2_cg rfl rfl f126))) (thF_cg rfl rfl (thF_cg (w211.2 37 (by decide)) (w211.2 38 (by decide)) (thF_cg rfl rfl f127))) w212.1 (by omega) (by omega) ((w212.2 39 (by decide)).trans ex145) (by omega) (by omega) ((w212.2 40 (by decide)).trans ey145) (by omega) (by omega) (by omega) (by omega) (by omega) (by omega) Y S (lv_sub hl [1, 2, 0, 3] rfl)
                      · refine lv_iload X.1 X.2.1 d_M_principalAt_180 (lv_at hl 2 rfl) ?_
                        refine z_if_eq (tgt := 236) X.1 X.2.1 d_M_principalAt_182 (by decide) ⟨by omega, by omega⟩ (fun h238 => ?_) (fun h238 => False.elim (by omega))
                        · refine lv_aload_n X.1 X.2.1 d_M_principalAt_236 rfl (lv_at hl 0 rfl) ?_
                          refine r_get0 X Y (by decide) lk_behind (gf_behind _ _ _) rfl ((w212.2 40 (by decide)).trans ey145) d_M_principalAt_237 ?_
                          refine lv_istore (lv' := [(6, .int (iI y145)), (0, .ref h), (5, .int (iI y106)), (7, .int (iI 0)), (8, .int (iI z227))]) X.1 X.2.1 d_M_principalAt_240 hl (by decide) rfl (fun ls hl => ?_)
                          refine lv_goto (tgt := 63) X.1 X.2.1 d_M_principalAt_242 (by decide) ?_
                          exact ih136 ((2 * (40 - (z128 + 1)) + 0).toNat) (by omega) y145 0 (z128 + 1) x145 y145 I212 J144 B211 G144 _ _ _ rfl (by omega) (by omega) (by omega) (by omega) (pG1_cg (w212.2 39 (by decide)) (w212.2 40 (by decide)) (pG1_cg rfl rfl (show pG1 I144 from ⟨x145, y145, ex145, ey145, by omega, by omega, by omega, by omega⟩))) (pG2_cg rfl rfl (pG2_cg (w211.2 37 (by decide)) (w211.2 38 (by decide)) (pG2_cg rfl rfl f126))) (thF_cg rfl rfl (thF_cg (w211.2 37 (by decide)) (w211.2 38 (by decide)) (thF_cg rfl rfl f127))) w212.1 (by omega) (by omega) ((w212.2 39 (by decide)).trans ex145) (by omega) (by omega) ((w212.2 40 (by decide)).trans ey145) (by omega) (by omega) (by omega) (by omega) (by omega) (by omega) Y S (lv_sub hl [1, 2, 0, 3] rfl)
                    refine lv_istore (lv' := [(8, .int (iI x145)), (7, .int (iI 0)), (0, .ref h), (5, .int (iI y106)), (6, .int (iI z123))]) X.1 X.2.1 d_M_principalAt_169 hl (by decide) rfl (fun ls hl => ?_)
                    exact J233 x145 _ _ _ (by omega) (by omega) (by omega) (by omega) (by omega) (by omega) (by omega) Y S (lv_sub hl [2, 3, 1, 0] rfl)
                  · refine lv_aload_n X.1 X.2.1 d_M_principalAt_139 rfl (lv_at hl 0 rfl) ?_
                    refine r_get0 X Y (by decide) lk_nameSize (gf_nameSize _ _ _) rfl w212.1 d_M_principalAt_140 ?_
                    refine lv_aload_n X.1 X.2.1 d_M_principalAt_143 rfl (lv_at hl 0 rfl) ?_
                    refine r_get0 X Y (by decide) lk_behind (gf_behind _ _ _) rfl ((w212.2 40 (by decide)).trans ey145) d_M_principalAt_144 ?_
                    refine z_iadd X.1 X.2.1 d_M_principalAt_147 ?_
                    refine lv_aload_n X.1 X.2.1 d_M_principalAt_148 rfl (lv_at hl 0 rfl) ?_
                    refine r_get0 X Y (by decide) lk_inside (gf_inside _ _ _) rfl ((w212.2 39 (by decide)).trans ex145) d_M_principalAt_149 ?_
                    refine z_isub X.1 X.2.1 d_M_principalAt_152 ?_
                    refine lv_bipush (v := iI 33) X.1 X.2.1 d_M_principalAt_153 (by decide) ?_
                    refine z_icmp_gt (tgt := 162) X.1 X.2.1 d_M_principalAt_155 (by decide) ⟨by omega, by omega⟩ ⟨by omega, by omega⟩ (fun h239 => ?_) (fun h239 => ?_)
                    · refine lv_iconst (v := iI 0) X.1 X.2.1 d_M_principalAt_162 (by decide) ?_
                      refine lv_istore (lv' := [(7, .int (iI 0)), (0, .ref h), (5, .int (iI y106)), (6, .int (iI z123))]) X.1 X.2.1 d_M_principalAt_163 hl (by decide) rfl (fun ls hl => ?_)
                      refine lv_aload_n X.1 X.2.1 d_M_principalAt_165 rfl (lv_at hl 1 rfl) ?_
                      refine r_get0 X Y (by decide) lk_inside (gf_inside _ _ _) rfl ((w212.2 39 (by decide)).trans ex145) d_M_principalAt_166 ?_
                      have J246 : ∀ (z240 : Int) (H : Heap) (locs : List Loc) (ls : Array Slot), (0 ≤ z240) → (z240 ≤ 29999) → (0 = 0 ∨ z128 + 1 + (y145 - z240) ≤ 33) → (z128 + 1 ≤ z128 + 1) → (z240 ≤ y145) → (x145 ≤ z240) → (0 = 0 ∨ z128 + 1 + (z240 - x145) ≤ z128 + 1) → mH D E (mA E h q sz) s.heap h q I212 J144 B211 G144 H locs → rS [39, 40, 54] [37, 38, 53] I B I212 B211 → lv_has ls 9 [(0, .ref h), (5, .int (iI y106)), (7, .int (iI 0)), (8, .int (iI z240))] → W p l e (mR 44 2014) s m AV below meth c H locs 0 0 QQ (F0 m 171 ls []) := by
                        intro z240 H locs ls l240 u240 i241 i242 i243 i244 i245 Y S hl
                        refine lv_iload X.1 X.2.1 d_M_principalAt_171 (lv_at hl 3 rfl) ?_
                        refine lv_aload_n X.1 X.2.1 d_M_principalAt_173 rfl (lv_at hl 0 rfl) ?_
                        refine r_get0 X Y (by decide) lk_behind (gf_behind _ _ _) rfl ((w212.2 40 (by decide)).trans ey145) d_M_principalAt_174 ?_
                        refine z_icmp_ge (tgt := 236) X.1 X.2.1 d_M_principalAt_177 (by decide) ⟨by omega, by omega⟩ ⟨by omega, by omega⟩ (fun h250 => ?_) (fun h250 => ?_)
                        · refine lv_aload_n X.1 X.2.1 d_M_principalAt_236 rfl (lv_at hl 0 rfl) ?_
                          refine r_get0 X Y (by decide) lk_behind (gf_behind _ _ _) rfl ((w212.2 40 (by decide)).trans ey145) d_M_principalAt_237 ?_
                          refine lv_istore (lv' := [(6, .int (iI y145)), (0, .ref h), (5, .int (iI y106)), (7, .int (iI 0)), (8, .int (iI z240))]) X.1 X.2.1 d_M_principalAt_240 hl (by decide) rfl (fun ls hl => ?_)
                          refine lv_goto (tgt := 63) X.1 X.2.1 d_M_principalAt_242 (by decide) ?_
                          exact ih136 ((2 * (40 - (z128 + 1)) + 0).toNat) (by omega) y145 0 (z128 + 1) x145 y145 I212 J144 B211 G144 _ _ _ rfl (by omega) (by omega) (by omega) (by omega) (pG1_cg (w212.2 39 (by decide)) (w212.2 40 (by decide)) (pG1_cg rfl rfl (show pG1 I144 from ⟨x145, y145, ex145, ey145, by omega, by omega, by omega, by omega⟩))) (pG2_cg rfl rfl (pG2_cg (w211.2 37 (by decide)) (w211.2 38 (by decide)) (pG2_cg rfl rfl f126))) (thF_cg rfl rfl (thF_cg (w211.2 37 (by decide)) (w211.2 38 (by decide)) (thF_cg rfl rfl f127))) w212.1 (by omega) (by omega) ((w212.2 39 (by decide)).trans ex145) (by omega) (by omega) ((w212.2 40 (by decide)).trans ey145) (by omega) (by omega) (by omega) (by omega) (by omega) (by omega) Y S (lv_sub hl [1, 2, 0, 3] rfl)
                        · refine lv_iload X.1 X.2.1 d_M_principalAt_180 (lv_at hl 2 rfl) ?_
                          refine z_if_eq (tgt := 236) X.1 X.2.1 d_M_principalAt_182 (by decide) ⟨by omega, by omega⟩ (fun h251 => ?_) (fun h251 => False.elim (by omega))
                          · refine lv_aload_n X.1 X.2.1 d_M_principalAt_236 rfl (lv_at hl 0 rfl) ?_
                            refine r_get0 X Y (by decide) lk_behind (gf_behind _ _ _) rfl ((w212.2 40 (by decide)).trans ey145) d_M_principalAt_237 ?_
                            refine lv_istore (lv' := [(6, .int (iI y145)), (0, .ref h), (5, .int (iI y106)), (7, .int (iI 0)), (8, .int (iI z240))]) X.1 X.2.1 d_M_principalAt_240 hl (by decide) rfl (fun ls hl => ?_)
                            refine lv_goto (tgt := 63) X.1 X.2.1 d_M_principalAt_242 (by decide) ?_
                            exact ih136 ((2 * (40 - (z128 + 1)) + 0).toNat) (by omega) y145 0 (z128 + 1) x145 y145 I212 J144 B211 G144 _ _ _ rfl (by omega) (by omega) (by omega) (by omega) (pG1_cg (w212.2 39 (by decide)) (w212.2 40 (by decide)) (pG1_cg rfl rfl (show pG1 I144 from ⟨x145, y145, ex145, ey145, by omega, by omega, by omega, by omega⟩))) (pG2_cg rfl rfl (pG2_cg (w211.2 37 (by decide)) (w211.2 38 (by decide)) (pG2_cg rfl rfl f126))) (thF_cg rfl rfl (thF_cg (w211.2 37 (by decide)) (w211.2 38 (by decide)) (thF_cg rfl rfl f127))) w212.1 (by omega) (by omega) ((w212.2 39 (by decide)).trans ex145) (by omega) (by omega) ((w212.2 40 (by decide)).trans ey145) (by omega) (by omega) (by omega) (by omega) (by omega) (by omega) Y S (lv_sub hl [1, 2, 0, 3] rfl)
                      refine lv_istore (lv' := [(8, .int (iI x145)), (7, .int (iI 0)), (0, .ref h), (5, .int (iI y106)), (6, .int (iI z123))]) X.1 X.2.1 d_M_principalAt_169 hl (by decide) rfl (fun ls hl => ?_)
                      exact J246 x145 _ _ _ (by omega) (by omega) (by omega) (by omega) (by omega) (by omega) (by omega) Y S (lv_sub hl [2, 3, 1, 0] rfl)
                    · refine lv_iconst (v := iI 1) X.1 X.2.1 d_M_principalAt_158 (by decide) ?_
                      refine lv_goto (tgt := 163) X.1 X.2.1 d_M_principalAt_159 (by decide) ?_
                      refine lv_istore (lv' := [(7, .int (iI 1)), (0, .ref h), (5, .int (iI y106)), (6, .int (iI z123))]) X.1 X.2.1 d_M_principalAt_163 hl (by decide) rfl (fun ls hl => ?_)
                      refine lv_aload_n X.1 X.2.1 d_M_principalAt_165 rfl (lv_at hl 1 rfl) ?_
                      refine r_get0 X Y (by decide) lk_inside (gf_inside _ _ _) rfl ((w212.2 39 (by decide)).trans ex145) d_M_principalAt_166 ?_
                      have J266 : ∀ (n268 : Nat) (z253 : Int) (z254 : Int) (z260 : Int) (I252 : Nat → Int32) (J252 : Nat → Int64) (B252 : Nat → Nat → Int32) (G252 : Nat → Nat → Int64) (H : Heap) (locs : List Loc) (ls : Array Slot), (30000 - z254).toNat = n268 → (0 ≤ z253) → (z253 ≤ 1) → (0 ≤ z254) → (z254 ≤ 30000) → (pG1 I252) → (pG2 (B252 37) (B252 38)) → (thF [11] (B 37) (B 38) (B252 37) (B252 38)) → (I252 39 = iI x145) → (I252 40 = iI y145) → (I252 54 = iI z260) → (0 ≤ z260) → (z260 ≤ 34) → (z253 = 0 ∨ z260 + (y145 - z254) ≤ 33) → (z128 + 1 ≤ z260) → (z254 ≤ y145) → (x145 ≤ z254) → (z253 = 0 ∨ z128 + 1 + (z254 - x145) ≤ z260) → mH D E (mA E h q sz) s.heap h q I252 J252 B252 G252 H locs → rS [39, 40, 54] [37, 38, 53] I B I252 B252 → lv_has ls 9 [(0, .ref h), (5, .int (iI y106)), (7, .int (iI z253)), (8, .int (iI z254))] → W p l e (mR 44 2014) s m AV below meth c H locs 0 0 QQ (F0 m 171 ls []) := by
                        intro n268
                        induction n268 using Nat.strongRecOn with
                        | ind n268 ih267 =>
                          intro z253 z254 z260 I252 J252 B252 G252 H locs ls hm269 l253 u253 l254 u254 f255 f256 f257 e258 e259 e260 l260 u260 i261 i262 i263 i264 i265 Y S hl
                          refine lv_iload X.1 X.2.1 d_M_principalAt_171 (lv_at hl 3 rfl) ?_
                          refine lv_aload_n X.1 X.2.1 d_M_principalAt_173 rfl (lv_at hl 0 rfl) ?_
                          refine r_get0 X Y (by decide) lk_behind (gf_behind _ _ _) rfl e259 d_M_principalAt_174 ?_
                          refine z_icmp_ge (tgt := 236) X.1 X.2.1 d_M_principalAt_177 (by decide) ⟨by omega, by omega⟩ ⟨by omega, by omega⟩ (fun h270 => ?_) (fun h270 => ?_)
                          · refine lv_aload_n X.1 X.2.1 d_M_principalAt_236 rfl (lv_at hl 0 rfl) ?_
                            refine r_get0 X Y (by decide) lk_behind (gf_behind _ _ _) rfl e259 d_M_principalAt_237 ?_
                            refine lv_istore (lv' := [(6, .int (iI y145)), (0, .ref h), (5, .int (iI y106)), (7, .int (iI z253)), (8, .int (iI z254))]) X.1 X.2.1 d_M_principalAt_240 hl (by decide) rfl (fun ls hl => ?_)
                            refine lv_goto (tgt := 63) X.1 X.2.1 d_M_principalAt_242 (by decide) ?_
                            exact ih136 ((2 * (40 - z260) + z253).toNat) (by omega) y145 z253 z260 x145 y145 I252 J252 B252 G252 _ _ _ rfl (by omega) (by omega) (by omega) (by omega) f255 f256 f257 e260 (by omega) (by omega) e258 (by omega) (by omega) e259 (by omega) (by omega) (by omega) (by omega) (by omega) (by omega) Y S (lv_sub hl [1, 2, 0, 3] rfl)
                          · refine lv_iload X.1 X.2.1 d_M_principalAt_180 (lv_at hl 2 rfl) ?_
                            refine z_if_eq (tgt := 236) X.1 X.2.1 d_M_principalAt_182 (by decide) ⟨by omega, by omega⟩ (fun h271 => ?_) (fun h271 => ?_)
                            · refine lv_aload_n X.1 X.2.1 d_M_principalAt_236 rfl (lv_at hl 0 rfl) ?_
                              refine r_get0 X Y (by decide) lk_behind (gf_behind _ _ _) rfl e259 d_M_principalAt_237 ?_
                              refine lv_istore (lv' := [(6, .int (iI y145)), (0, .ref h), (5, .int (iI y106)), (7, .int (iI z253)), (8, .int (iI z254))]) X.1 X.2.1 d_M_principalAt_240 hl (by decide) rfl (fun ls hl => ?_)
                              refine lv_goto (tgt := 63) X.1 X.2.1 d_M_principalAt_242 (by decide) ?_
                              exact ih136 ((2 * (40 - z260) + z253).toNat) (by omega) y145 z253 z260 x145 y145 I252 J252 B252 G252 _ _ _ rfl (by omega) (by omega) (by omega) (by omega) f255 f256 f257 e260 (by omega) (by omega) e258 (by omega) (by omega) e259 (by omega) (by omega) (by omega) (by omega) (by omega) (by omega) Y S (lv_sub hl [1, 2, 0, 3] rfl)
                            · refine lv_aload_n X.1 X.2.1 d_M_principalAt_185 rfl (lv_at hl 0 rfl) ?_
                              refine m_get X Y 53 (by decide) lk_name (gf_name _ _ _) rfl d_M_principalAt_186 ?_
                              refine lv_aload_n X.1 X.2.1 d_M_principalAt_189 rfl (lv_at hl 0 rfl) ?_
                              refine r_get0 X Y (by decide) lk_nameSize (gf_nameSize _ _ _) rfl e260 d_M_principalAt_190 ?_
                              refine lv_aload_n X.1 X.2.1 d_M_principalAt_193 rfl (lv_at hl 0 rfl) ?_
                              refine m_get X Y 0 (by decide) lk_mem (gf_mem _ _ _) rfl d_M_principalAt_194 ?_
                              refine lv_iload X.1 X.2.1 d_M_principalAt_197 (lv_at hl 3 rfl) ?_
                              refine r_bald X Y S (aw_mem _ _ _ _ _ _ _) rfl (by omega) (show z254 < ((60000 : Nat) : Int) by omega) (by omega) d_M_principalAt_199 (fun z272 q272 l272 u272 => ?_)
                              refine r_bast X Y S (aw_name _ _ _ _ _ _ _) (sw_name _ _ _ _ _ _ _) rfl (by omega) (show z260 < ((40 : Nat) : Int) by omega) (by omega) (by decide) d_M_principalAt_200 (fun B273 H locs Y S w273 => ?_)
                              refine lv_aload_n X.1 X.2.1 d_M_principalAt_201 rfl (lv_at hl 0 rfl) ?_
                              refine lv_dup X.1 X.2.1 d_M_principalAt_202 rfl ?_
                              refine r_get0 X Y (by decide) lk_nameSize (gf_nameSize _ _ _) rfl e260 d_M_principalAt_203 ?_
                              refine lv_iconst (v := iI 1) X.1 X.2.1 d_M_principalAt_206 (by decide) ?_
                              refine z_iadd X.1 X.2.1 d_M_principalAt_207 ?_
                              refine r_puti (k := 54) X Y S (by decide) lk_nameSize rfl rfl (t_M_ok 54 (by decide)) rfl rfl (sf_nameSize _ _ _ _) (Nat.le_of_ble_eq_true rfl) rfl (show (0 : Int) ≤ z260 + 1 by omega) (show z260 + 1 ≤ (40 : Int) by omega) ⟨by omega, by omega⟩ (by decide) d_M_principalAt_208 (fun I274 H locs Y S w274 => ?_)
                              refine lv_aload_n X.1 X.2.1 d_M_principalAt_211 rfl (lv_at hl 0 rfl) ?_
                              refine m_get X Y 0 (by decide) lk_mem (gf_mem _ _ _) rfl d_M_principalAt_212 ?_
                              refine lv_iload X.1 X.2.1 d_M_principalAt_215 (lv_at hl 3 rfl) ?_
                              refine r_bald X Y S (aw_mem _ _ _ _ _ _ _) rfl (by omega) (show z254 < ((60000 : Nat) : Int) by omega) (by omega) d_M_principalAt_217 (fun z275 q275 l275 u275 => ?_)
                              refine lv_bipush (v := iI 47) X.1 X.2.1 d_M_principalAt_218 (by decide) ?_
                              refine z_icmp_eq (tgt := 227) X.1 X.2.1 d_M_principalAt_220 (by decide) ⟨by omega, by omega⟩ ⟨by omega, by omega⟩ (fun h276 => ?_) (fun h276 => ?_)
                              · refine lv_iconst (v := iI 0) X.1 X.2.1 d_M_principalAt_227 (by decide) ?_
                                refine lv_istore (lv' := [(7, .int (iI 0)), (0, .ref h), (5, .int (iI y106)), (8, .int (iI z254))]) X.1 X.2.1 d_M_principalAt_228 hl (by decide) rfl (fun ls hl => ?_)
                                refine lv_iinc (v := iI (z254 + 1)) (lv' := [(8, .int (iI (z254 + 1))), (7, .int (iI 0)), (0, .ref h), (5, .int (iI y106))]) X.1 X.2.1 d_M_principalAt_230 hl (k := 3) rfl ((iI_add _ _).trans (congrArg iI (by omega))) (by decide) rfl (fun ls hl => ?_)
                                refine lv_goto (tgt := 171) X.1 X.2.1 d_M_principalAt_233 (by decide) ?_
                                exact ih267 ((30000 - (z254 + 1)).toNat) (by omega) 0 (z254 + 1) (z260 + 1) I274 J252 B273 G252 _ _ _ rfl (by omega) (by omega) (by omega) (by omega) (pG1_cg (w274.2 39 (by decide)) (w274.2 40 (by decide)) (pG1_cg rfl rfl f255)) (pG2_cg rfl rfl (pG2_cg (w273.2 37 (by decide)) (w273.2 38 (by decide)) f256)) (thF_cg rfl rfl (thF_cg (w273.2 37 (by decide)) (w273.2 38 (by decide)) f257)) ((w274.2 39 (by decide)).trans e258) ((w274.2 40 (by decide)).trans e259) w274.1 (by omega) (by omega) (by omega) (by omega) (by omega) (by omega) (by omega) Y S (lv_sub hl [2, 3, 1, 0] rfl)
                              · refine lv_iconst (v := iI 1) X.1 X.2.1 d_M_principalAt_223 (by decide) ?_
                                refine lv_goto (tgt := 228) X.1 X.2.1 d_M_principalAt_224 (by decide) ?_
                                refine lv_istore (lv' := [(7, .int (iI 1)), (0, .ref h), (5, .int (iI y106)), (8, .int (iI z254))]) X.1 X.2.1 d_M_principalAt_228 hl (by decide) rfl (fun ls hl => ?_)
                                refine lv_iinc (v := iI (z254 + 1)) (lv' := [(8, .int (iI (z254 + 1))), (7, .int (iI 1)), (0, .ref h), (5, .int (iI y106))]) X.1 X.2.1 d_M_principalAt_230 hl (k := 3) rfl ((iI_add _ _).trans (congrArg iI (by omega))) (by decide) rfl (fun ls hl => ?_)
                                refine lv_goto (tgt := 171) X.1 X.2.1 d_M_principalAt_233 (by decide) ?_
                                exact ih267 ((30000 - (z254 + 1)).toNat) (by omega) 1 (z254 + 1) (z260 + 1) I274 J252 B273 G252 _ _ _ rfl (by omega) (by omega) (by omega) (by omega) (pG1_cg (w274.2 39 (by decide)) (w274.2 40 (by decide)) (pG1_cg rfl rfl f255)) (pG2_cg rfl rfl (pG2_cg (w273.2 37 (by decide)) (w273.2 38 (by decide)) f256)) (thF_cg rfl rfl (thF_cg (w273.2 37 (by decide)) (w273.2 38 (by decide)) f257)) ((w274.2 39 (by decide)).trans e258) ((w274.2 40 (by decide)).trans e259) w274.1 (by omega) (by omega) (by omega) (by omega) (by omega) (by omega) (by omega) Y S (lv_sub hl [2, 3, 1, 0] rfl)
                      refine lv_istore (lv' := [(8, .int (iI x145)), (7, .int (iI 1)), (0, .ref h), (5, .int (iI y106)), (6, .int (iI z123))]) X.1 X.2.1 d_M_principalAt_169 hl (by decide) rfl (fun ls hl => ?_)
                      exact J266 _ 1 x145 (z128 + 1) I212 J144 B211 G144 _ _ _ rfl (by omega) (by omega) (by omega) (by omega) (pG1_cg (w212.2 39 (by decide)) (w212.2 40 (by decide)) (pG1_cg rfl rfl (show pG1 I144 from ⟨x145, y145, ex145, ey145, by omega, by omega, by omega, by omega⟩))) (pG2_cg rfl rfl (pG2_cg (w211.2 37 (by decide)) (w211.2 38 (by decide)) (pG2_cg rfl rfl f126))) (thF_cg rfl rfl (thF_cg (w211.2 37 (by decide)) (w211.2 38 (by decide)) (thF_cg rfl rfl f127))) ((w212.2 39 (by decide)).trans ex145) ((w212.2 40 (by decide)).trans ey145) w212.1 (by omega) (by omega) (by omega) (by omega) (by omega) (by omega) (by omega) Y S (lv_sub hl [2, 3, 1, 0] rfl)
      refine lv_istore (lv' := [(7, .int (iI 1)), (6, .int (iI x106)), (5, .int (iI y106)), (4, .int (iI z103)), (3, .int (iI z102)), (0, .ref h), (1, .int (iI a1)), (2, .int (iI a2))]) X.1 X.2.1 d_M_principalAt_61 hl (by decide) rfl (fun ls hl => ?_)
      exact J135 _ x106 1 0 x106 y106 I107 J105 B102 G105 _ _ _ rfl (by omega) (by omega) (by omega) (by omega) (pG1_cg (w107.2 39 (by decide)) (w107.2 40 (by decide)) (show pG1 I105 from ⟨x106, y106, ex106, ey106, by omega, by omega, by omega, by omega⟩)) (pG2_cg rfl rfl (pG2_cg rfl rfl (pG2_cg rfl rfl g102_P2))) (thF_cg rfl rfl (thF_cg rfl rfl (thF_cg rfl rfl (thF_tr thF_rf g102_TF (by decide))))) w107.1 (by omega) (by omega) ((w107.2 39 (by decide)).trans ex106) (by omega) (by omega) ((w107.2 40 (by decide)).trans ey106) (by omega) (by omega) (by omega) (by omega) (by omega) (by omega) Y S (lv_sub hl [5, 2, 1, 0] rfl)
  · refine lv_iconst (v := iI (-1)) X.1 X.2.1 d_M_principalAt_4 (by decide) ?_
    exact m_reti hQQ X Y hr hlk ⟨S, (-1), rfl, ⟨by omega, by omega, f_P1, f_P2, thF_rf⟩⟩ d_M_principalAt_5
set_option maxHeartbeats 4000000 in
set_option maxRecDepth 100000 in
theorem r_M_nth (l : Launch) (D : mD) (E : mE) (h : Nat) (q : Nat → Nat) (sz : Nat) (I : Nat → Int32) (J : Nat → Int64) (B : Nat → Nat → Int32) (G : Nat → Nat → Int64) (a1 : Int) (l_a1 : (-1) ≤ a1) (u_a1 : a1 ≤ 30000) (a2 : Int) (l_a2 : (-1) ≤ a2) (u_a2 : a2 ≤ 30000) (a3 : Int) (l_a3 : 0 ≤ a3) (u_a3 : a3 ≤ 40) (hT : rT I B) (mm : Nat → Int32) (gm : B 0 = mm) (T : Int → Int → Prop) (hrw : rwP T mm a1 a2) (f_P1 : pG1 I) (q0 : 0 ≤ a1 ∨ a2 < a1 + 2) (q1 : a2 - a1 ≤ 4200) : Met l y_M_nth (k_M_nth :: lw_tg) (mR 2 87) (va_Pc [.ref h, .int (iI a1), .int (iI a2), .int (iI a3)] (mPre D E h q (I, J, B, G) sz)) (va_Qi (rPi [39, 40, 73, 74] [] I B (fun (z : Int) (u : mS) => 0 ≤ z ∧ z ≤ 1 ∧ (∃ V1 V2 : Int, u.1 73 = iI V1 ∧ u.1 74 = iI V2 ∧ (z = 1 → a3 ≤ 15 ∧ a1 ≤ V1 ∧ V1 ≤ V2 ∧ V2 ≤ a2) ∧ (z = 1 → T V1 V2)) ∧ pG1 u.1)) (mPost D E h q (mA E h q sz)) (mA E h q sz)) 0 0 (mA E h q sz) := by
  refine m_enter (by decide) rfl (Nat.le_of_ble_eq_true rfl) (fun p e s m below meth c ls AV QQ H locs hQQ X Y hZ hA hr hlk hml hl => ?_)
  have Y : mH D E (mA E h q sz) s.heap h q I J B G H locs := Y
  have S : rS [39, 40, 73, 74] [] I B I B := rS_rf hT
  have hl : lv_has ls 7 [(0, .ref h), (1, .int (iI a1)), (2, .int (iI a2)), (3, .int (iI a3))] := hl
  have hw0 := hrw.1
  unfold whP at hw0
  refine lv_aload_n X.1 X.2.1 d_M_nth_0 rfl (lv_at hl 0 rfl) ?_
  refine lv_iload_n X.1 X.2.1 d_M_nth_1 rfl (lv_at hl 1 rfl) ?_
  refine lv_iload_n X.1 X.2.1 d_M_nth_2 rfl (lv_at hl 2 rfl) ?_
  refine lv_bipush (v := iI 48) X.1 X.2.1 d_M_nth_3 (by decide) ?_
  refine r_ni (m_run (As := [.int (iI a1), .int (iI a2), .int (iI 48)]) (rest := []) (n := 3) X Y hZ hA hml hl.1 (r_M_element l D E h q H.size I J B G a1 (by omega) (by omega) a2 (by omega) (by omega) 48 (by omega) (by omega) S.1 mm gm f_P1 (by omega) (by omega)) kl_M_element ks_M_element kx_M_element ki_M_element ini_M hd_M_element ⟨Nat.le_of_ble_eq_true rfl, Nat.le_of_ble_eq_true rfl⟩ rfl (Nat.le_of_ble_eq_true rfl) d_M_nth_5 ⟨Nat.le_refl _, Nat.le_refl _⟩) X Y hA S (by decide) (by decide) (fun z101 u H locs Y S s101 p101 => ?_)
  obtain ⟨I101, J101, B101, G101⟩ := u
  dsimp only at Y S s101 p101
  have b101 : B = B101 := (funext (fun j => s101.2.2 j (by simp))).symm
  subst b101
  obtain ⟨l101, u101, x101, st101⟩ := p101
  obtain ⟨x102, y102, ex102, ey102, lx102, ly102, uy102, dy102, iy102, ky102⟩ := st101
  refine lv_pop X.1 X.2.1 d_M_nth_8 rfl ?_
  refine lv_aload_n X.1 X.2.1 d_M_nth_9 rfl (lv_at hl 0 rfl) ?_
  refine r_get0 X Y (by decide) lk_inside (gf_inside _ _ _) rfl ex102 d_M_nth_10 ?_
  refine lv_istore (lv' := [(4, .int (iI x102)), (0, .ref h), (1, .int (iI a1)), (2, .int (iI a2)), (3, .int (iI a3))]) X.1 X.2.1 d_M_nth_13 hl (by decide) rfl (fun ls hl => ?_)
  refine lv_aload_n X.1 X.2.1 d_M_nth_15 rfl (lv_at hl 1 rfl) ?_
  refine r_get0 X Y (by decide) lk_behind (gf_behind _ _ _) rfl ey102 d_M_nth_16 ?_
  refine lv_istore (lv' := [(5, .int (iI y102)), (4, .int (iI x102)), (0, .ref h), (1, .int (iI a1)), (2, .int (iI a2)), (3, .int (iI a3))]) X.1 X.2.1 d_M_nth_19 hl (by decide) rfl (fun ls hl => ?_)
  refine lv_iconst (v := iI 0) X.1 X.2.1 d_M_nth_21 (by decide) ?_
  have J110 : ∀ (n112 : Nat) (z104 : Int) (z105 : Int) (I103 : Nat → Int32) (J103 : Nat → Int64) (B103 : Nat → Nat → Int32) (G103 : Nat → Nat → Int64) (H : Heap) (locs : List Loc) (ls : Array Slot), (16 - z105).toNat = n112 → (0 ≤ z104) → (z104 ≤ 30000) → (0 ≤ z105) → (z105 ≤ 16) → (pG1 I103) → (rwq T mm a2 (16 - z105).toNat z104) → (a1 ≤ z104) → (z104 ≤ a2) → mH D E (mA E h q sz) s.heap h q I103 J103 B103 G103 H locs → rS [39, 40, 73, 74] [] I B I103 B103 → lv_has ls 7 [(0, .ref h), (3, .int (iI a3)), (4, .int (iI z104)), (5, .int (iI y102)), (6, .int (iI z105))] → W p l e (mR 2 87) s m AV below meth c H locs 0 0 QQ (F0 m 24 ls []) := by
    intro n112
    induction n112 using Nat.strongRecOn with
    | ind n112 ih111 =>
      intro z104 z105 I103 J103 B103 G103 H locs ls hm113 l104 u104 l105 u105 f106 i107 i108 i109 Y S hl
      refine lv_iload X.1 X.2.1 d_M_nth_24 (lv_at hl 2 rfl) ?_
      refine lv_iload X.1 X.2.1 d_M_nth_26 (lv_at hl 3 rfl) ?_
      refine z_icmp_ge (tgt := 85) X.1 X.2.1 d_M_nth_28 (by decide) ⟨by omega, by omega⟩ ⟨by omega, by omega⟩ (fun h114 => ?_) (fun h114 => ?_)
      · refine lv_iconst (v := iI 0) X.1 X.2.1 d_M_nth_85 (by decide) ?_
        obtain ⟨z115, e115, l115, u115⟩ := r_rng (k := 73) (lo := 0) (hi := 30000) S rfl
        obtain ⟨z116, e116, l116, u116⟩ := r_rng (k := 74) (lo := 0) (hi := 30000) S rfl
        exact m_retz hQQ X Y hr hlk (iI_bool (by omega) (by omega)).1 ⟨S, 0, rfl, ⟨by omega, by omega, ⟨z115, z116, e115, e116, by omega, fun h9 => absurd h9 (by decide)⟩, f106⟩⟩ d_M_nth_86
      · have rq := rwq_pT i107 (by omega) (by omega)
        have rq := rwq_pT i107 (by omega) (by omega)
        refine lv_aload_n X.1 X.2.1 d_M_nth_31 rfl (lv_at hl 0 rfl) ?_
        refine lv_iload X.1 X.2.1 d_M_nth_32 (lv_at hl 2 rfl) ?_
        refine lv_iload X.1 X.2.1 d_M_nth_34 (lv_at hl 3 rfl) ?_
        refine lv_aload_n X.1 X.2.1 d_M_nth_36 rfl (lv_at hl 0 rfl) ?_
        refine m_get X Y 0 (by decide) lk_mem (gf_mem _ _ _) rfl d_M_nth_37 ?_
        refine lv_iload X.1 X.2.1 d_M_nth_40 (lv_at hl 2 rfl) ?_
        refine r_bald X Y S (aw_mem _ _ _ _ _ _ _) rfl (by omega) (show z104 < ((60000 : Nat) : Int) by omega) (by omega) d_M_nth_42 (fun z117 q117 l117 u117 => ?_)
        rw [(S.2.2 0 (by decide)).trans gm] at q117
        have g117 : gb mm z104 = z117 % 256 := by unfold gb; rw [← q117]
        have s117 : sg mm z104 = z117 := by unfold sg; rw [← q117]
        refine lv_sipush (v := iI 255) X.1 X.2.1 d_M_nth_43 (by decide) ?_
        refine z_iand255 X.1 X.2.1 d_M_nth_46 ?_
        refine r_ni (m_run (As := [.int (iI z104), .int (iI y102), .int (iI (z117 % 256))]) (rest := []) (n := 3) X Y hZ hA hml hl.1 (r_M_element l D E h q H.size I103 J103 B103 G103 z104 (by omega) (by omega) y102 (by omega) (by omega) (z117 % 256) (by omega) (by omega) S.1 mm ((S.2.2 0 (by decide)).trans gm) f106 (by omega) (by omega)) kl_M_element ks_M_element kx_M_element ki_M_element ini_M hd_M_element ⟨Nat.le_of_ble_eq_true rfl, Nat.le_of_ble_eq_true rfl⟩ rfl (Nat.le_of_ble_eq_true rfl) d_M_nth_47 ⟨Nat.le_refl _, Nat.le_refl _⟩) X Y hA S (by decide) (by decide) (fun z118 u H locs Y S s118 p118 => ?_)
        obtain ⟨I118, J118, B118, G118⟩ := u
        dsimp only at Y S s118 p118
        have b118 : B103 = B118 := (funext (fun j => s118.2.2 j (by simp))).symm
        subst b118
        obtain ⟨l118, u118, x118, st118⟩ := p118
        obtain ⟨x119, y119, ex119, ey119, lx119, ly119, uy119, dy119, iy119, ky119⟩ := st118
        rw [show y102 = a2 by omega] at x118 iy119
        refine lv_pop X.1 X.2.1 d_M_nth_50 rfl ?_
        refine lv_iload X.1 X.2.1 d_M_nth_51 (lv_at hl 4 rfl) ?_
        refine lv_iload_n X.1 X.2.1 d_M_nth_53 rfl (lv_at hl 1 rfl) ?_
        refine z_icmp_ne (tgt := 73) X.1 X.2.1 d_M_nth_54 (by decide) ⟨by omega, by omega⟩ ⟨by omega, by omega⟩ (fun h120 => ?_) (fun h120 => ?_)
        · refine lv_aload_n X.1 X.2.1 d_M_nth_73 rfl (lv_at hl 0 rfl) ?_
          refine r_get0 X Y (by decide) lk_behind (gf_behind _ _ _) rfl ey119 d_M_nth_74 ?_
          refine lv_istore (lv' := [(4, .int (iI y119)), (0, .ref h), (3, .int (iI a3)), (5, .int (iI y102)), (6, .int (iI z105))]) X.1 X.2.1 d_M_nth_77 hl (by decide) rfl (fun ls hl => ?_)
          refine lv_iinc (v := iI (z105 + 1)) (lv' := [(6, .int (iI (z105 + 1))), (4, .int (iI y119)), (0, .ref h), (3, .int (iI a3)), (5, .int (iI y102))]) X.1 X.2.1 d_M_nth_79 hl (k := 4) rfl ((iI_add _ _).trans (congrArg iI (by omega))) (by decide) rfl (fun ls hl => ?_)
          refine lv_goto (tgt := 24) X.1 X.2.1 d_M_nth_82 (by decide) ?_
          exact ih111 ((16 - (z105 + 1)).toNat) (by omega) y119 (z105 + 1) I118 J118 B103 G118 _ _ _ rfl (by omega) (by omega) (by omega) (by omega) (show pG1 I118 from ⟨x119, y119, ex119, ey119, by omega, by omega, by omega, by omega⟩) (by rw [show y119 = elE mm z104 a2 by omega]; exact rq.2.2.2) (by omega) (by omega) Y S (lv_sub hl [2, 3, 1, 4, 0] rfl)
        · refine lv_aload_n X.1 X.2.1 d_M_nth_57 rfl (lv_at hl 0 rfl) ?_
          refine lv_iload X.1 X.2.1 d_M_nth_58 (lv_at hl 2 rfl) ?_
          refine r_puti (k := 73) X Y S (by decide) lk_nthAt rfl rfl (t_M_ok 73 (by decide)) rfl rfl (sf_nthAt _ _ _ _) (Nat.le_of_ble_eq_true rfl) rfl (show (0 : Int) ≤ z104 by omega) (show z104 ≤ (30000 : Int) by omega) ⟨by omega, by omega⟩ (by decide) d_M_nth_60 (fun I121 H locs Y S w121 => ?_)
          refine lv_aload_n X.1 X.2.1 d_M_nth_63 rfl (lv_at hl 0 rfl) ?_
          refine lv_aload_n X.1 X.2.1 d_M_nth_64 rfl (lv_at hl 0 rfl) ?_
          refine r_get0 X Y (by decide) lk_behind (gf_behind _ _ _) rfl ((w121.2 40 (by decide)).trans ey119) d_M_nth_65 ?_
          refine r_puti (k := 74) X Y S (by decide) lk_nthEnd rfl rfl (t_M_ok 74 (by decide)) rfl rfl (sf_nthEnd _ _ _ _) (Nat.le_of_ble_eq_true rfl) rfl (show (0 : Int) ≤ y119 by omega) (show y119 ≤ (30000 : Int) by omega) ⟨by omega, by omega⟩ (by decide) d_M_nth_68 (fun I122 H locs Y S w122 => ?_)
          refine lv_iconst (v := iI 1) X.1 X.2.1 d_M_nth_71 (by decide) ?_
          exact m_retz hQQ X Y hr hlk (iI_bool (by omega) (by omega)).1 ⟨S, 1, rfl, ⟨by omega, by omega, ⟨z104, y119, ((w122.2 73 (by decide)).trans w121.1), w122.1, by omega, fun _ => by rw [show y119 = elE mm z104 a2 by omega]; exact rq.2.2.1⟩, (pG1_cg (w122.2 39 (by decide)) (w122.2 40 (by decide)) (pG1_cg (w121.2 39 (by decide)) (w121.2 40 (by decide)) (show pG1 I118 from ⟨x119, y119, ex119, ey119, by omega, by omega, by omega, by omega⟩)))⟩⟩ d_M_nth_72
  refine lv_istore (lv' := [(6, .int (iI 0)), (5, .int (iI y102)), (4, .int (iI x102)), (0, .ref h), (1, .int (iI a1)), (2, .int (iI a2)), (3, .int (iI a3))]) X.1 X.2.1 d_M_nth_22 hl (by decide) rfl (fun ls hl => ?_)
  exact J110 _ x102 0 I101 J101 B G101 _ _ _ rfl (by omega) (by omega) (by omega) (by omega) (show pG1 I101 from ⟨x102, y102, ex102, ey102, by omega, by omega, by omega, by omega⟩) (by rw [show x102 = elI mm a1 a2 by omega]; exact hrw.2) (by omega) (by omega) Y S (lv_sub hl [3, 6, 2, 1, 0] rfl)
set_option maxHeartbeats 4000000 in
set_option maxRecDepth 100000 in
theorem r_M_typeAsked (l : Launch) (D : mD) (E : mE) (h : Nat) (q : Nat → Nat) (sz : Nat) (I : Nat → Int32) (J : Nat → Int64) (B : Nat → Nat → Int32) (G : Nat → Nat → Int64) (a1 : Int) (l_a1 : (-2147483648) ≤ a1) (u_a1 : a1 ≤ 2147483647) (hT : rT I B) (f_P1 : pG1 I) (f_P2 : pG2 (B 37) (B 38)) (f_R24 : rwA (16 * 1 + 8 : Int).toNat (B 37) (B 38) (B 0)) : Met l y_M_typeAsked (k_M_typeAsked :: lw_tg) (mR 4 141) (va_Pc [.ref h, .int (iI a1)] (mPre D E h q (I, J, B, G) sz)) (va_Qi (rPi [39, 40, 73, 74] [] I B (fun (z : Int) (u : mS) => 0 ≤ z ∧ z ≤ 18 ∧ (z = 0 ∨ z = 17 ∨ z = 18) ∧ pG1 u.1)) (mPost D E h q (mA E h q sz)) (mA E h q sz)) 0 0 (mA E h q sz) := by
  refine m_enter (by decide) rfl (Nat.le_of_ble_eq_true rfl) (fun p e s m below meth c ls AV QQ H locs hQQ X Y hZ hA hr hlk hml hl => ?_)
  have Y : mH D E (mA E h q sz) s.heap h q I J B G H locs := Y
  have S : rS [39, 40, 73, 74] [] I B I B := rS_rf hT
  have hl : lv_has ls 3 [(0, .ref h), (1, .int (iI a1))] := hl
  refine lv_iconst (v := iI 0) X.1 X.2.1 d_M_typeAsked_0 (by decide) ?_
  have J106 : ∀ (n108 : Nat) (z102 : Int) (I101 : Nat → Int32) (J101 : Nat → Int64) (B101 : Nat → Nat → Int32) (G101 : Nat → Nat → Int64) (H : Heap) (locs : List Loc) (ls : Array Slot), (16 - z102).toNat = n108 → (0 ≤ z102) → (z102 ≤ 16) → (pG1 I101) → (pG2 (B101 37) (B101 38)) → (rwA (16 * 1 + 8 : Int).toNat (B101 37) (B101 38) (B101 0)) → mH D E (mA E h q sz) s.heap h q I101 J101 B101 G101 H locs → rS [39, 40, 73, 74] [] I B I101 B101 → lv_has ls 3 [(0, .ref h), (1, .int (iI a1)), (2, .int (iI z102))] → W p l e (mR 4 141) s m AV below meth c H locs 0 0 QQ (F0 m 2 ls []) := by
    intro n108
    induction n108 using Nat.strongRecOn with
    | ind n108 ih107 =>
      intro z102 I101 J101 B101 G101 H locs ls hm109 l102 u102 f103 f104 f105 Y S hl
      refine lv_aload_n X.1 X.2.1 d_M_typeAsked_2 rfl (lv_at hl 0 rfl) ?_
      refine lv_aload_n X.1 X.2.1 d_M_typeAsked_3 rfl (lv_at hl 0 rfl) ?_
      refine lv_iconst (v := iI 1) X.1 X.2.1 d_M_typeAsked_4 (by decide) ?_
      refine lv_bipush (v := iI 8) X.1 X.2.1 d_M_typeAsked_5 (by decide) ?_
      refine r_ni (m_run (As := [.int (iI 1), .int (iI 8)]) (rest := [.ref h]) (n := 2) X Y hZ hA hml hl.1 (r_M_a l D E h q H.size I101 J101 B101 G101 1 (by omega) (by omega) 8 (by omega) (by omega) S.1) kl_M_a ks_M_a kx_M_a ki_M_a ini_M hd_M_a ⟨Nat.le_of_ble_eq_true rfl, Nat.le_of_ble_eq_true rfl⟩ rfl (Nat.le_of_ble_eq_true rfl) d_M_typeAsked_7 ⟨Nat.le_refl _, Nat.le_refl _⟩) X Y hA S (by decide) (by decide) (fun z110 u H locs Y S s110 p110 => ?_)
      obtain ⟨I110, J110, B110, G110⟩ := u
      dsimp only at Y S s110 p110
      have i110 : I101 = I110 := (funext (fun j => s110.2.1 j (by simp))).symm
      subst i110
      have b110 : B101 = B110 := (funext (fun j => s110.2.2 j (by simp))).symm
      subst b110
      obtain ⟨l110, u110, x110⟩ := p110
      refine lv_aload_n X.1 X.2.1 d_M_typeAsked_10 rfl (lv_at hl 0 rfl) ?_
      refine lv_iconst (v := iI 1) X.1 X.2.1 d_M_typeAsked_11 (by decide) ?_
      refine lv_bipush (v := iI 8) X.1 X.2.1 d_M_typeAsked_12 (by decide) ?_
      refine r_ni (m_run (As := [.int (iI 1), .int (iI 8)]) (rest := [.int (iI z110), .ref h]) (n := 2) X Y hZ hA hml hl.1 (r_M_b l D E h q H.size I101 J110 B101 G110 1 (by omega) (by omega) 8 (by omega) (by omega) S.1) kl_M_b ks_M_b kx_M_b ki_M_b ini_M hd_M_b ⟨Nat.le_of_ble_eq_true rfl, Nat.le_of_ble_eq_true rfl⟩ rfl (Nat.le_of_ble_eq_true rfl) d_M_typeAsked_14 ⟨Nat.le_refl _, Nat.le_refl _⟩) X Y hA S (by decide) (by decide) (fun z111 u H locs Y S s111 p111 => ?_)
      obtain ⟨I111, J111, B111, G111⟩ := u
      dsimp only at Y S s111 p111
      have i111 : I101 = I111 := (funext (fun j => s111.2.1 j (by simp))).symm
      subst i111
      have b111 : B101 = B111 := (funext (fun j => s111.2.2 j (by simp))).symm
      subst b111
      obtain ⟨l111, u111, x111⟩ := p111
      have p112 : pr z110 z111 := by rw [x110, x111]; exact (pG2_cg rfl rfl (pG2_cg rfl rfl f104)) (16 * 1 + 8 : Int).toNat (by omega)
      unfold pr at p112
      refine lv_iload_n X.1 X.2.1 d_M_typeAsked_17 rfl (lv_at hl 2 rfl) ?_
      refine r_ni (m_run (As := [.int (iI z110), .int (iI z111), .int (iI z102)]) (rest := []) (n := 3) X Y hZ hA hml hl.1 (r_M_nth l D E h q H.size I101 J111 B101 G111 z110 (by omega) (by omega) z111 (by omega) (by omega) z102 (by omega) (by omega) S.1 (B101 0) rfl tt (by rw [x110, x111]; exact ((rwA_cg rfl rfl rfl (rwA_cg rfl rfl rfl f105))).1) (pG1_cg rfl rfl (pG1_cg rfl rfl f103)) (by omega) (by omega)) kl_M_nth ks_M_nth kx_M_nth ki_M_nth ini_M hd_M_nth ⟨Nat.le_of_ble_eq_true rfl, Nat.le_of_ble_eq_true rfl⟩ rfl (Nat.le_of_ble_eq_true rfl) d_M_typeAsked_18 ⟨Nat.le_refl _, Nat.le_refl _⟩) X Y hA S (by decide) (by decide) (fun z113 u H locs Y S s113 p113 => ?_)
      obtain ⟨I113, J113, B113, G113⟩ := u
      dsimp only at Y S s113 p113
      have b113 : B101 = B113 := (funext (fun j => s113.2.2 j (by simp))).symm
      subst b113
      obtain ⟨l113, u113, st113, g113_P1⟩ := p113
      obtain ⟨x114, y114, ex114, ey114, iy114, ty114⟩ := st113
      refine z_if_eq (tgt := 87) X.1 X.2.1 d_M_typeAsked_21 (by decide) ⟨by omega, by omega⟩ (fun h115 => ?_) (fun h115 => ?_)
      · refine lv_iconst (v := iI 0) X.1 X.2.1 d_M_typeAsked_87 (by decide) ?_
        exact m_reti hQQ X Y hr hlk ⟨S, 0, rfl, ⟨by omega, by omega, by omega, g113_P1⟩⟩ d_M_typeAsked_88
      · refine lv_aload_n X.1 X.2.1 d_M_typeAsked_24 rfl (lv_at hl 0 rfl) ?_
        refine lv_aload_n X.1 X.2.1 d_M_typeAsked_25 rfl (lv_at hl 0 rfl) ?_
        refine r_get0 X Y (by decide) lk_nthAt (gf_nthAt _ _ _) rfl ex114 d_M_typeAsked_26 ?_
        refine lv_aload_n X.1 X.2.1 d_M_typeAsked_29 rfl (lv_at hl 0 rfl) ?_
        refine r_get0 X Y (by decide) lk_nthEnd (gf_nthEnd _ _ _) rfl ey114 d_M_typeAsked_30 ?_
        refine lv_ldc2 (v := (-9000000000)) X.1 X.2.1 X.2.2.2.1 (X.2.2.1 _ cl_M_542) d_M_typeAsked_33 ?_
        refine lv_ldc2 (v := (9000000000)) X.1 X.2.1 X.2.2.2.1 (X.2.2.1 _ cl_M_544) d_M_typeAsked_36 ?_
        refine r_ni (m_run (As := [.int (iI x114), .int (iI y114), .long ((-9000000000)), .long ((9000000000))]) (rest := []) (n := 4) X Y hZ hA hml hl.1 (r_M_number l D E h q H.size I113 J113 B101 G113 x114 (by omega) (by omega) y114 (by omega) (by omega) ((-9000000000)) ((9000000000)) S.1 (B101 0) rfl g113_P1 (by omega) (by omega)) kl_M_number ks_M_number kx_M_number ki_M_number ini_M hd_M_number ⟨Nat.le_of_ble_eq_true rfl, Nat.le_of_ble_eq_true rfl⟩ rfl (Nat.le_of_ble_eq_true rfl) d_M_typeAsked_39 ⟨Nat.le_refl _, Nat.le_refl _⟩) X Y hA S (by decide) (by decide) (fun z116 u H locs Y S s116 p116 => ?_)
        obtain ⟨I116, J116, B116, G116⟩ := u
        dsimp only at Y S s116 p116
        have b116 : B101 = B116 := (funext (fun j => s116.2.2 j (by simp))).symm
        subst b116
        obtain ⟨l116, u116, x116, g116_P1⟩ := p116
        refine lv_pop X.1 X.2.1 d_M_typeAsked_42 rfl ?_
        refine lv_aload_n X.1 X.2.1 d_M_typeAsked_43 rfl (lv_at hl 0 rfl) ?_
        refine m_get X Y 41 (by decide) lk_value (gf_value _ _ _) rfl d_M_typeAsked_44 ?_
        refine lv_ldc2 (v := (17)) X.1 X.2.1 X.2.2.2.1 (X.2.2.1 _ cl_M_697) d_M_typeAsked_47 ?_
        refine z_lcmp X.1 X.2.1 d_M_typeAsked_50 (fun z117 l117 u117 x117 y117 => ?_)
        have c117 : ((17) : Int64).toInt = (17) := by decide
        refine z_if_eq (tgt := 65) X.1 X.2.1 d_M_typeAsked_51 (by decide) ⟨by omega, by omega⟩ (fun h118 => ?_) (fun h118 => ?_)
        · refine lv_aload_n X.1 X.2.1 d_M_typeAsked_65 rfl (lv_at hl 0 rfl) ?_
          refine m_get X Y 41 (by decide) lk_value (gf_value _ _ _) rfl d_M_typeAsked_66 ?_
          refine lv_iload_n X.1 X.2.1 d_M_typeAsked_69 rfl (lv_at hl 1 rfl) ?_
          refine z_i2lx X.1 X.2.1 ⟨by omega, by omega⟩ d_M_typeAsked_70 (fun v119 tv119 => ?_)
          refine z_lcmp X.1 X.2.1 d_M_typeAsked_71 (fun z120 l120 u120 x120 y120 => ?_)
          refine z_if_eq (tgt := 81) X.1 X.2.1 d_M_typeAsked_72 (by decide) ⟨by omega, by omega⟩ (fun h121 => ?_) (fun h121 => ?_)
          · refine lv_iinc (v := iI (z102 + 1)) (lv' := [(2, .int (iI (z102 + 1))), (0, .ref h), (1, .int (iI a1))]) X.1 X.2.1 d_M_typeAsked_81 hl (k := 2) rfl ((iI_add _ _).trans (congrArg iI (by omega))) (by decide) rfl (fun ls hl => ?_)
            refine lv_goto (tgt := 2) X.1 X.2.1 d_M_typeAsked_84 (by decide) ?_
            exact ih107 ((16 - (z102 + 1)).toNat) (by omega) (z102 + 1) I116 J116 B101 G116 _ _ _ rfl (by omega) (by omega) g116_P1 (pG2_cg rfl rfl (pG2_cg rfl rfl (pG2_cg rfl rfl (pG2_cg rfl rfl f104)))) (rwA_cg rfl rfl rfl (rwA_cg rfl rfl rfl (rwA_cg rfl rfl rfl (rwA_cg rfl rfl rfl f105)))) Y S (lv_sub hl [1, 2, 0] rfl)
          · refine lv_aload_n X.1 X.2.1 d_M_typeAsked_75 rfl (lv_at hl 0 rfl) ?_
            refine m_get X Y 41 (by decide) lk_value (gf_value _ _ _) rfl d_M_typeAsked_76 ?_
            refine z_l2i X.1 X.2.1 d_M_typeAsked_79 (fun z122 l122 u122 x122 => ?_)
            exact m_reti hQQ X Y hr hlk ⟨S, z122, rfl, ⟨by omega, by omega, by omega, g116_P1⟩⟩ d_M_typeAsked_80
        · refine lv_aload_n X.1 X.2.1 d_M_typeAsked_54 rfl (lv_at hl 0 rfl) ?_
          refine m_get X Y 41 (by decide) lk_value (gf_value _ _ _) rfl d_M_typeAsked_55 ?_
          refine lv_ldc2 (v := (18)) X.1 X.2.1 X.2.2.2.1 (X.2.2.1 _ cl_M_699) d_M_typeAsked_58 ?_
          refine z_lcmp X.1 X.2.1 d_M_typeAsked_61 (fun z123 l123 u123 x123 y123 => ?_)
          have c123 : ((18) : Int64).toInt = (18) := by decide
          refine z_if_ne (tgt := 81) X.1 X.2.1 d_M_typeAsked_62 (by decide) ⟨by omega, by omega⟩ (fun h124 => ?_) (fun h124 => ?_)
          · refine lv_iinc (v := iI (z102 + 1)) (lv' := [(2, .int (iI (z102 + 1))), (0, .ref h), (1, .int (iI a1))]) X.1 X.2.1 d_M_typeAsked_81 hl (k := 2) rfl ((iI_add _ _).trans (congrArg iI (by omega))) (by decide) rfl (fun ls hl => ?_)
            refine lv_goto (tgt := 2) X.1 X.2.1 d_M_typeAsked_84 (by decide) ?_
            exact ih107 ((16 - (z102 + 1)).toNat) (by omega) (z102 + 1) I116 J116 B101 G116 _ _ _ rfl (by omega) (by omega) g116_P1 (pG2_cg rfl rfl (pG2_cg rfl rfl (pG2_cg rfl rfl (pG2_cg rfl rfl f104)))) (rwA_cg rfl rfl rfl (rwA_cg rfl rfl rfl (rwA_cg rfl rfl rfl (rwA_cg rfl rfl rfl f105)))) Y S (lv_sub hl [1, 2, 0] rfl)
          · refine lv_aload_n X.1 X.2.1 d_M_typeAsked_65 rfl (lv_at hl 0 rfl) ?_
            refine m_get X Y 41 (by decide) lk_value (gf_value _ _ _) rfl d_M_typeAsked_66 ?_
            refine lv_iload_n X.1 X.2.1 d_M_typeAsked_69 rfl (lv_at hl 1 rfl) ?_
            refine z_i2lx X.1 X.2.1 ⟨by omega, by omega⟩ d_M_typeAsked_70 (fun v125 tv125 => ?_)
            refine z_lcmp X.1 X.2.1 d_M_typeAsked_71 (fun z126 l126 u126 x126 y126 => ?_)
            refine z_if_eq (tgt := 81) X.1 X.2.1 d_M_typeAsked_72 (by decide) ⟨by omega, by omega⟩ (fun h127 => ?_) (fun h127 => ?_)
            · refine lv_iinc (v := iI (z102 + 1)) (lv' := [(2, .int (iI (z102 + 1))), (0, .ref h), (1, .int (iI a1))]) X.1 X.2.1 d_M_typeAsked_81 hl (k := 2) rfl ((iI_add _ _).trans (congrArg iI (by omega))) (by decide) rfl (fun ls hl => ?_)
              refine lv_goto (tgt := 2) X.1 X.2.1 d_M_typeAsked_84 (by decide) ?_
              exact ih107 ((16 - (z102 + 1)).toNat) (by omega) (z102 + 1) I116 J116 B101 G116 _ _ _ rfl (by omega) (by omega) g116_P1 (pG2_cg rfl rfl (pG2_cg rfl rfl (pG2_cg rfl rfl (pG2_cg rfl rfl f104)))) (rwA_cg rfl rfl rfl (rwA_cg rfl rfl rfl (rwA_cg rfl rfl rfl (rwA_cg rfl rfl rfl f105)))) Y S (lv_sub hl [1, 2, 0] rfl)
            · refine lv_aload_n X.1 X.2.1 d_M_typeAsked_75 rfl (lv_at hl 0 rfl) ?_
              refine m_get X Y 41 (by decide) lk_value (gf_value _ _ _) rfl d_M_typeAsked_76 ?_
              refine z_l2i X.1 X.2.1 d_M_typeAsked_79 (fun z128 l128 u128 x128 => ?_)
              exact m_reti hQQ X Y hr hlk ⟨S, z128, rfl, ⟨by omega, by omega, by omega, g116_P1⟩⟩ d_M_typeAsked_80
  refine lv_istore_n (lv' := [(2, .int (iI 0)), (0, .ref h), (1, .int (iI a1))]) X.1 X.2.1 d_M_typeAsked_1 rfl hl (by decide) rfl (fun ls hl => ?_)
  exact J106 _ 0 I J B G _ _ _ rfl (by omega) (by omega) f_P1 f_P2 f_R24 Y S (lv_sub hl [1, 2, 0] rfl)
set_option maxHeartbeats 4000000 in
set_option maxRecDepth 100000 in
theorem r_M_padata (l : Launch) (D : mD) (E : mE) (h : Nat) (q : Nat → Nat) (sz : Nat) (I : Nat → Int32) (J : Nat → Int64) (B : Nat → Nat → Int32) (G : Nat → Nat → Int64) (a1 : Int) (l_a1 : (-2147483648) ≤ a1) (u_a1 : a1 ≤ 2147483647) (hT : rT I B) (f_P1 : pG1 I) (f_P2 : pG2 (B 37) (B 38)) (f_R3 : rwO (16 * 0 + 3 : Int).toNat (B 37) (B 38) (B 0)) : Met l y_M_padata (k_M_padata :: lw_tg) (mR 43 1992) (va_Pc [.ref h, .int (iI a1)] (mPre D E h q (I, J, B, G) sz)) (va_Qi (rPi [39, 40, 73, 74] [37, 38] I B (fun (z : Int) (u : mS) => 0 ≤ z ∧ z ≤ 1 ∧ pG1 u.1 ∧ pG2 (u.2.2.1 37) (u.2.2.1 38) ∧ thF [10] (B 37) (B 38) (u.2.2.1 37) (u.2.2.1 38))) (mPost D E h q (mA E h q sz)) (mA E h q sz)) 0 0 (mA E h q sz) := by
  refine m_enter (by decide) rfl (Nat.le_of_ble_eq_true rfl) (fun p e s m below meth c ls AV QQ H locs hQQ X Y hZ hA hr hlk hml hl => ?_)
  have Y : mH D E (mA E h q sz) s.heap h q I J B G H locs := Y
  have S : rS [39, 40, 73, 74] [37, 38] I B I B := rS_rf hT
  have hl : lv_has ls 3 [(0, .ref h), (1, .int (iI a1))] := hl
  refine lv_aload_n X.1 X.2.1 d_M_padata_0 rfl (lv_at hl 0 rfl) ?_
  refine lv_iconst (v := iI 0) X.1 X.2.1 d_M_padata_1 (by decide) ?_
  refine lv_iconst (v := iI 3) X.1 X.2.1 d_M_padata_2 (by decide) ?_
  refine r_ni (m_run (As := [.int (iI 0), .int (iI 3)]) (rest := []) (n := 2) X Y hZ hA hml hl.1 (r_M_has l D E h q H.size I J B G 0 (by omega) (by omega) 3 (by omega) (by omega) S.1) kl_M_has ks_M_has kx_M_has ki_M_has ini_M hd_M_has ⟨Nat.le_of_ble_eq_true rfl, Nat.le_of_ble_eq_true rfl⟩ rfl (Nat.le_of_ble_eq_true rfl) d_M_padata_3 ⟨Nat.le_refl _, Nat.le_refl _⟩) X Y hA S (by decide) (by decide) (fun z101 u H locs Y S s101 p101 => ?_)
  obtain ⟨I101, J101, B101, G101⟩ := u
  dsimp only at Y S s101 p101
  have i101 : I = I101 := (funext (fun j => s101.2.1 j (by simp))).symm
  subst i101
  have b101 : B = B101 := (funext (fun j => s101.2.2 j (by simp))).symm
  subst b101
  obtain ⟨l101, u101, x101⟩ := p101
  refine z_if_ne (tgt := 11) X.1 X.2.1 d_M_padata_6 (by decide) ⟨by omega, by omega⟩ (fun h102 => ?_) (fun h102 => ?_)
  · have f103 : rwA (16 * 0 + 3 : Int).toNat (B 37) (B 38) (B 0) := (rwO_cg rfl rfl rfl f_R3).resolve_left (by omega)
    have f104 : rwA (16 * 0 + 3 : Int).toNat (B 37) (B 38) (B 0) := (rwO_cg rfl rfl rfl f_R3).resolve_left (by omega)
    refine lv_iconst (v := iI 0) X.1 X.2.1 d_M_padata_11 (by decide) ?_
    have J112 : ∀ (n114 : Nat) (z106 : Int) (I105 : Nat → Int32) (J105 : Nat → Int64) (B105 : Nat → Nat → Int32) (G105 : Nat → Nat → Int64) (H : Heap) (locs : List Loc) (ls : Array Slot), (16 - z106).toNat = n114 → (0 ≤ z106) → (z106 ≤ 16) → (pG1 I105) → (pG2 (B105 37) (B105 38)) → (rwO (16 * 0 + 3 : Int).toNat (B105 37) (B105 38) (B105 0)) → (rwA (16 * 0 + 3 : Int).toNat (B105 37) (B105 38) (B105 0)) → (thF [10] (B 37) (B 38) (B105 37) (B105 38)) → mH D E (mA E h q sz) s.heap h q I105 J105 B105 G105 H locs → rS [39, 40, 73, 74] [37, 38] I B I105 B105 → lv_has ls 3 [(0, .ref h), (1, .int (iI a1)), (2, .int (iI z106))] → W p l e (mR 43 1992) s m AV below meth c H locs 0 0 QQ (F0 m 13 ls []) := by
      intro n114
      induction n114 using Nat.strongRecOn with
      | ind n114 ih113 =>
        intro z106 I105 J105 B105 G105 H locs ls hm115 l106 u106 f107 f108 f109 f110 f111 Y S hl
        refine lv_aload_n X.1 X.2.1 d_M_padata_13 rfl (lv_at hl 0 rfl) ?_
        refine lv_aload_n X.1 X.2.1 d_M_padata_14 rfl (lv_at hl 0 rfl) ?_
        refine lv_iconst (v := iI 0) X.1 X.2.1 d_M_padata_15 (by decide) ?_
        refine lv_iconst (v := iI 3) X.1 X.2.1 d_M_padata_16 (by decide) ?_
        refine r_ni (m_run (As := [.int (iI 0), .int (iI 3)]) (rest := [.ref h]) (n := 2) X Y hZ hA hml hl.1 (r_M_a l D E h q H.size I105 J105 B105 G105 0 (by omega) (by omega) 3 (by omega) (by omega) S.1) kl_M_a ks_M_a kx_M_a ki_M_a ini_M hd_M_a ⟨Nat.le_of_ble_eq_true rfl, Nat.le_of_ble_eq_true rfl⟩ rfl (Nat.le_of_ble_eq_true rfl) d_M_padata_17 ⟨Nat.le_refl _, Nat.le_refl _⟩) X Y hA S (by decide) (by decide) (fun z116 u H locs Y S s116 p116 => ?_)
        obtain ⟨I116, J116, B116, G116⟩ := u
        dsimp only at Y S s116 p116
        have i116 : I105 = I116 := (funext (fun j => s116.2.1 j (by simp))).symm
        subst i116
        have b116 : B105 = B116 := (funext (fun j => s116.2.2 j (by simp))).symm
        subst b116
        obtain ⟨l116, u116, x116⟩ := p116
        refine lv_aload_n X.1 X.2.1 d_M_padata_20 rfl (lv_at hl 0 rfl) ?_
        refine lv_iconst (v := iI 0) X.1 X.2.1 d_M_padata_21 (by decide) ?_
        refine lv_iconst (v := iI 3) X.1 X.2.1 d_M_padata_22 (by decide) ?_
        refine r_ni (m_run (As := [.int (iI 0), .int (iI 3)]) (rest := [.int (iI z116), .ref h]) (n := 2) X Y hZ hA hml hl.1 (r_M_b l D E h q H.size I105 J116 B105 G116 0 (by omega) (by omega) 3 (by omega) (by omega) S.1) kl_M_b ks_M_b kx_M_b ki_M_b ini_M hd_M_b ⟨Nat.le_of_ble_eq_true rfl, Nat.le_of_ble_eq_true rfl⟩ rfl (Nat.le_of_ble_eq_true rfl) d_M_padata_23 ⟨Nat.le_refl _, Nat.le_refl _⟩) X Y hA S (by decide) (by decide) (fun z117 u H locs Y S s117 p117 => ?_)
        obtain ⟨I117, J117, B117, G117⟩ := u
        dsimp only at Y S s117 p117
        have i117 : I105 = I117 := (funext (fun j => s117.2.1 j (by simp))).symm
        subst i117
        have b117 : B105 = B117 := (funext (fun j => s117.2.2 j (by simp))).symm
        subst b117
        obtain ⟨l117, u117, x117⟩ := p117
        have p118 : pr z116 z117 := by rw [x116, x117]; exact (pG2_cg rfl rfl (pG2_cg rfl rfl f108)) (16 * 0 + 3 : Int).toNat (by omega)
        unfold pr at p118
        refine lv_iload_n X.1 X.2.1 d_M_padata_26 rfl (lv_at hl 2 rfl) ?_
        refine r_ni (m_run (As := [.int (iI z116), .int (iI z117), .int (iI z106)]) (rest := []) (n := 3) X Y hZ hA hml hl.1 (r_M_nth l D E h q H.size I105 J117 B105 G117 z116 (by omega) (by omega) z117 (by omega) (by omega) z106 (by omega) (by omega) S.1 (B105 0) rfl tt (by rw [x116, x117]; exact ((rwA_cg rfl rfl rfl (rwA_cg rfl rfl rfl f110))).1) (pG1_cg rfl rfl (pG1_cg rfl rfl f107)) (by omega) (by omega)) kl_M_nth ks_M_nth kx_M_nth ki_M_nth ini_M hd_M_nth ⟨Nat.le_of_ble_eq_true rfl, Nat.le_of_ble_eq_true rfl⟩ rfl (Nat.le_of_ble_eq_true rfl) d_M_padata_27 ⟨Nat.le_refl _, Nat.le_refl _⟩) X Y hA S (by decide) (by decide) (fun z119 u H locs Y S s119 p119 => ?_)
        obtain ⟨I119, J119, B119, G119⟩ := u
        dsimp only at Y S s119 p119
        have b119 : B105 = B119 := (funext (fun j => s119.2.2 j (by simp))).symm
        subst b119
        obtain ⟨l119, u119, st119, g119_P1⟩ := p119
        obtain ⟨x120, y120, ex120, ey120, iy120, ty120⟩ := st119
        refine z_if_eq (tgt := 95) X.1 X.2.1 d_M_padata_30 (by decide) ⟨by omega, by omega⟩ (fun h121 => ?_) (fun h121 => ?_)
        · refine lv_iconst (v := iI 0) X.1 X.2.1 d_M_padata_95 (by decide) ?_
          exact m_retz hQQ X Y hr hlk (iI_bool (by omega) (by omega)).1 ⟨S, 0, rfl, ⟨by omega, by omega, g119_P1, (pG2_cg rfl rfl (pG2_cg rfl rfl (pG2_cg rfl rfl f108))), (thF_cg rfl rfl (thF_cg rfl rfl (thF_cg rfl rfl f111)))⟩⟩ d_M_padata_96
        · refine lv_aload_n X.1 X.2.1 d_M_padata_33 rfl (lv_at hl 0 rfl) ?_
          refine m_ldcSW (i := 8) X (by decide) (by decide) d_M_padata_34 ?_
          refine lv_aload_n X.1 X.2.1 d_M_padata_37 rfl (lv_at hl 0 rfl) ?_
          refine r_get0 X Y (by decide) lk_nthAt (gf_nthAt _ _ _) rfl ex120 d_M_padata_38 ?_
          refine lv_aload_n X.1 X.2.1 d_M_padata_41 rfl (lv_at hl 0 rfl) ?_
          refine r_get0 X Y (by decide) lk_nthEnd (gf_nthEnd _ _ _) rfl ey120 d_M_padata_42 ?_
          refine lv_bipush (v := iI 10) X.1 X.2.1 d_M_padata_45 (by decide) ?_
          refine r_ni (m_run (As := [.ref ((D.2.1 8)), .int (iI x120), .int (iI y120), .int (iI 10)]) (rest := []) (n := 4) X Y hZ hA hml hl.1 (r_M_sequence_t l D E h q H.size I119 J119 B105 G119 8 (show 8 < nZ by decide) x120 (by omega) (by omega) y120 (by omega) (by omega) 10 (by omega) (by omega) S.1 5 (B105 0) rfl (isF (B105 0) 5) (by decide) (hisU (show rki 8 ≤ 5 by decide)) g119_P1 (pG2_cg rfl rfl (pG2_cg rfl rfl (pG2_cg rfl rfl f108))) (by omega) (by omega)) kl_M_sequence ks_M_sequence kx_M_sequence ki_M_sequence ini_M hd_M_sequence ⟨Nat.le_of_ble_eq_true rfl, Nat.le_of_ble_eq_true rfl⟩ rfl (Nat.le_of_ble_eq_true rfl) d_M_padata_47 ⟨Nat.le_refl _, Nat.le_refl _⟩) X Y hA S (by decide) (by decide) (fun z122 u H locs Y S s122 p122 => ?_)
          obtain ⟨I122, J122, B122, G122⟩ := u
          dsimp only at Y S s122 p122
          obtain ⟨l122, u122, x122, st122, g122_P1, g122_P2⟩ := p122
          have g122_TF : thF [10] (B105 37) (B105 38) (B122 37) (B122 38) := thF_of st122.1
          have f123 : rwO (16 * 0 + 3 : Int).toNat (B122 37) (B122 38) (B122 0) := (rwO_cg (s122.2.2 0 (by decide)) rfl rfl (rwO_T g122_TF (by decide) (by decide) (rwO_cg rfl rfl rfl (rwO_cg rfl rfl rfl (rwO_cg rfl rfl rfl f109)))))
          have f124 : rwA (16 * 0 + 3 : Int).toNat (B122 37) (B122 38) (B122 0) := (rwA_cg (s122.2.2 0 (by decide)) rfl rfl (rwA_T g122_TF (by decide) (by decide) (rwA_cg rfl rfl rfl (rwA_cg rfl rfl rfl (rwA_cg rfl rfl rfl f110)))))
          refine lv_pop X.1 X.2.1 d_M_padata_50 rfl ?_
          refine lv_aload_n X.1 X.2.1 d_M_padata_51 rfl (lv_at hl 0 rfl) ?_
          refine lv_bipush (v := iI 10) X.1 X.2.1 d_M_padata_52 (by decide) ?_
          refine lv_iconst (v := iI 1) X.1 X.2.1 d_M_padata_54 (by decide) ?_
          refine r_nl (m_run (As := [.int (iI 10), .int (iI 1)]) (rest := []) (n := 2) X Y hZ hA hml hl.1 (r_M_numberAt l D E h q H.size I122 J122 B122 G122 10 (by omega) (by omega) 1 (by omega) (by omega) S.1 g122_P1 g122_P2) kl_M_numberAt ks_M_numberAt kx_M_numberAt ki_M_numberAt ini_M hd_M_numberAt ⟨Nat.le_of_ble_eq_true rfl, Nat.le_of_ble_eq_true rfl⟩ rfl (Nat.le_of_ble_eq_true rfl) d_M_padata_55 ⟨Nat.le_refl _, Nat.le_refl _⟩) X Y hA S (by decide) (by decide) (fun v125 u H locs Y S s125 p125 => ?_)
          obtain ⟨I125, J125, B125, G125⟩ := u
          dsimp only at Y S s125 p125
          have b125 : B122 = B125 := (funext (fun j => s125.2.2 j (by simp))).symm
          subst b125
          have g125_P1 := p125
          refine lv_iload_n X.1 X.2.1 d_M_padata_58 rfl (lv_at hl 1 rfl) ?_
          refine lv_i2l X.1 X.2.1 d_M_padata_59 rfl ?_
          refine t_anyl (fun v126 => ?_)
          refine W.lcmp X.1 X.2.1 d_M_padata_60 ?_
          refine t_u (fun z127 l127 u127 => ?_)
          refine z_if_eq (tgt := 67) X.1 X.2.1 d_M_padata_61 (by decide) ⟨by omega, by omega⟩ (fun h128 => ?_) (fun h128 => ?_)
          · refine lv_aload_n X.1 X.2.1 d_M_padata_67 rfl (lv_at hl 0 rfl) ?_
            refine lv_aload_n X.1 X.2.1 d_M_padata_68 rfl (lv_at hl 0 rfl) ?_
            refine lv_bipush (v := iI 10) X.1 X.2.1 d_M_padata_69 (by decide) ?_
            refine lv_iconst (v := iI 2) X.1 X.2.1 d_M_padata_71 (by decide) ?_
            refine r_ni (m_run (As := [.int (iI 10), .int (iI 2)]) (rest := [.ref h]) (n := 2) X Y hZ hA hml hl.1 (r_M_a l D E h q H.size I125 J125 B122 G125 10 (by omega) (by omega) 2 (by omega) (by omega) S.1) kl_M_a ks_M_a kx_M_a ki_M_a ini_M hd_M_a ⟨Nat.le_of_ble_eq_true rfl, Nat.le_of_ble_eq_true rfl⟩ rfl (Nat.le_of_ble_eq_true rfl) d_M_padata_72 ⟨Nat.le_refl _, Nat.le_refl _⟩) X Y hA S (by decide) (by decide) (fun z129 u H locs Y S s129 p129 => ?_)
            obtain ⟨I129, J129, B129, G129⟩ := u
            dsimp only at Y S s129 p129
            have i129 : I125 = I129 := (funext (fun j => s129.2.1 j (by simp))).symm
            subst i129
            have b129 : B122 = B129 := (funext (fun j => s129.2.2 j (by simp))).symm
            subst b129
            obtain ⟨l129, u129, x129⟩ := p129
            refine lv_aload_n X.1 X.2.1 d_M_padata_75 rfl (lv_at hl 0 rfl) ?_
            refine lv_bipush (v := iI 10) X.1 X.2.1 d_M_padata_76 (by decide) ?_
            refine lv_iconst (v := iI 2) X.1 X.2.1 d_M_padata_78 (by decide) ?_
            refine r_ni (m_run (As := [.int (iI 10), .int (iI 2)]) (rest := [.int (iI z129), .ref h]) (n := 2) X Y hZ hA hml hl.1 (r_M_b l D E h q H.size I125 J129 B122 G129 10 (by omega) (by omega) 2 (by omega) (by omega) S.1) kl_M_b ks_M_b kx_M_b ki_M_b ini_M hd_M_b ⟨Nat.le_of_ble_eq_true rfl, Nat.le_of_ble_eq_true rfl⟩ rfl (Nat.le_of_ble_eq_true rfl) d_M_padata_79 ⟨Nat.le_refl _, Nat.le_refl _⟩) X Y hA S (by decide) (by decide) (fun z130 u H locs Y S s130 p130 => ?_)
            obtain ⟨I130, J130, B130, G130⟩ := u
            dsimp only at Y S s130 p130
            have i130 : I125 = I130 := (funext (fun j => s130.2.1 j (by simp))).symm
            subst i130
            have b130 : B122 = B130 := (funext (fun j => s130.2.2 j (by simp))).symm
            subst b130
            obtain ⟨l130, u130, x130⟩ := p130
            have p131 : pr z129 z130 := by rw [x129, x130]; exact (pG2_cg rfl rfl (pG2_cg rfl rfl (pG2_cg rfl rfl g122_P2))) (16 * 10 + 2 : Int).toNat (by omega)
            unfold pr at p131
            refine lv_iconst (v := iI 4) X.1 X.2.1 d_M_padata_82 (by decide) ?_
            refine r_ni (m_run (As := [.int (iI z129), .int (iI z130), .int (iI 4)]) (rest := []) (n := 3) X Y hZ hA hml hl.1 (r_M_element l D E h q H.size I125 J130 B122 G130 z129 (by omega) (by omega) z130 (by omega) (by omega) 4 (by omega) (by omega) S.1 (B122 0) rfl (pG1_cg rfl rfl (pG1_cg rfl rfl g125_P1)) (by omega) (by omega)) kl_M_element ks_M_element kx_M_element ki_M_element ini_M hd_M_element ⟨Nat.le_of_ble_eq_true rfl, Nat.le_of_ble_eq_true rfl⟩ rfl (Nat.le_of_ble_eq_true rfl) d_M_padata_83 ⟨Nat.le_refl _, Nat.le_refl _⟩) X Y hA S (by decide) (by decide) (fun z132 u H locs Y S s132 p132 => ?_)
            obtain ⟨I132, J132, B132, G132⟩ := u
            dsimp only at Y S s132 p132
            have b132 : B122 = B132 := (funext (fun j => s132.2.2 j (by simp))).symm
            subst b132
            obtain ⟨l132, u132, x132, st132⟩ := p132
            obtain ⟨x133, y133, ex133, ey133, lx133, ly133, uy133, dy133, iy133, ky133⟩ := st132
            refine lv_pop X.1 X.2.1 d_M_padata_86 rfl ?_
            refine lv_iconst (v := iI 1) X.1 X.2.1 d_M_padata_87 (by decide) ?_
            exact m_retz hQQ X Y hr hlk (iI_bool (by omega) (by omega)).1 ⟨S, 1, rfl, ⟨by omega, by omega, (show pG1 I132 from ⟨x133, y133, ex133, ey133, by omega, by omega, by omega, by omega⟩), (pG2_cg rfl rfl (pG2_cg rfl rfl (pG2_cg rfl rfl (pG2_cg rfl rfl g122_P2)))), (thF_cg rfl rfl (thF_cg rfl rfl (thF_cg rfl rfl (thF_cg rfl rfl (thF_tr (thF_cg rfl rfl (thF_cg rfl rfl (thF_cg rfl rfl f111))) g122_TF (by decide))))))⟩⟩ d_M_padata_88
          · refine lv_goto (tgt := 89) X.1 X.2.1 d_M_padata_64 (by decide) ?_
            refine lv_iinc (v := iI (z106 + 1)) (lv' := [(2, .int (iI (z106 + 1))), (0, .ref h), (1, .int (iI a1))]) X.1 X.2.1 d_M_padata_89 hl (k := 2) rfl ((iI_add _ _).trans (congrArg iI (by omega))) (by decide) rfl (fun ls hl => ?_)
            refine lv_goto (tgt := 13) X.1 X.2.1 d_M_padata_92 (by decide) ?_
            exact ih113 ((16 - (z106 + 1)).toNat) (by omega) (z106 + 1) I125 J125 B122 G125 _ _ _ rfl (by omega) (by omega) g125_P1 (pG2_cg rfl rfl g122_P2) (rwO_cg rfl rfl rfl f123) (rwA_cg rfl rfl rfl f124) (thF_cg rfl rfl (thF_tr (thF_cg rfl rfl (thF_cg rfl rfl (thF_cg rfl rfl f111))) g122_TF (by decide))) Y S (lv_sub hl [1, 2, 0] rfl)
    refine lv_istore_n (lv' := [(2, .int (iI 0)), (0, .ref h), (1, .int (iI a1))]) X.1 X.2.1 d_M_padata_12 rfl hl (by decide) rfl (fun ls hl => ?_)
    exact J112 _ 0 I J101 B G101 _ _ _ rfl (by omega) (by omega) (pG1_cg rfl rfl f_P1) (pG2_cg rfl rfl f_P2) (rwO_cg rfl rfl rfl f_R3) f104 (thF_cg rfl rfl thF_rf) Y S (lv_sub hl [1, 2, 0] rfl)
  · refine lv_iconst (v := iI 0) X.1 X.2.1 d_M_padata_9 (by decide) ?_
    exact m_retz hQQ X Y hr hlk (iI_bool (by omega) (by omega)).1 ⟨S, 0, rfl, ⟨by omega, by omega, (pG1_cg rfl rfl f_P1), (pG2_cg rfl rfl f_P2), (thF_cg rfl rfl thF_rf)⟩⟩ d_M_padata_10
set_option maxHeartbeats 4000000 in
set_option maxRecDepth 100000 in
theorem r_M_keyIn_key (l : Launch) (D : mD) (E : mE) (h : Nat) (q : Nat → Nat) (sz : Nat) (I : Nat → Int32) (J : Nat → Int64) (B : Nat → Nat → Int32) (G : Nat → Nat → Int64) (a1 : Int) (l_a1 : 0 ≤ a1) (u_a1 : a1 ≤ 11) (a2 : Int) (l_a2 : 0 ≤ a2) (u_a2 : a2 ≤ 15) (hT : rT I B) (f_P1 : pG1 I) (f_P2 : pG2 (B 37) (B 38)) : Met l y_M_keyIn (k_M_keyIn :: lw_tg) (mR 43 1992) (va_Pc [.ref h, .int (iI a1), .int (iI a2), .ref (q 58)] (mPre D E h q (I, J, B, G) sz)) (va_Qi (rPi [39, 40] [37, 38, 58] I B (fun (z : Int) (u : mS) => 0 ≤ z ∧ z ≤ 18 ∧ (z = 0 ∨ z = 17 ∨ z = 18) ∧ pG1 u.1 ∧ pG2 (u.2.2.1 37) (u.2.2.1 38) ∧ thF [7] (B 37) (B 38) (u.2.2.1 37) (u.2.2.1 38))) (mPost D E h q (mA E h q sz)) (mA E h q sz)) 0 0 (mA E h q sz) := by
  refine m_enter (by decide) rfl (Nat.le_of_ble_eq_true rfl) (fun p e s m below meth c ls AV QQ H locs hQQ X Y hZ hA hr hlk hml hl => ?_)
  have Y : mH D E (mA E h q sz) s.heap h q I J B G H locs := Y
  have S : rS [39, 40] [37, 38, 58] I B I B := rS_rf hT
  have hl : lv_has ls 7 [(0, .ref h), (1, .int (iI a1)), (2, .int (iI a2)), (3, .ref ((q 58)))] := hl
  refine lv_aload_n X.1 X.2.1 d_M_keyIn_0 rfl (lv_at hl 0 rfl) ?_
  refine m_ldcSW (i := 6) X (by decide) (by decide) d_M_keyIn_1 ?_
  refine lv_aload_n X.1 X.2.1 d_M_keyIn_4 rfl (lv_at hl 0 rfl) ?_
  refine lv_iload_n X.1 X.2.1 d_M_keyIn_5 rfl (lv_at hl 1 rfl) ?_
  refine lv_iload_n X.1 X.2.1 d_M_keyIn_6 rfl (lv_at hl 2 rfl) ?_
  refine r_ni (m_run (As := [.int (iI a1), .int (iI a2)]) (rest := [.ref ((D.2.1 6)), .ref h]) (n := 2) X Y hZ hA hml hl.1 (r_M_a l D E h q H.size I J B G a1 (by omega) (by omega) a2 (by omega) (by omega) S.1) kl_M_a ks_M_a kx_M_a ki_M_a ini_M hd_M_a ⟨Nat.le_of_ble_eq_true rfl, Nat.le_of_ble_eq_true rfl⟩ rfl (Nat.le_of_ble_eq_true rfl) d_M_keyIn_7 ⟨Nat.le_refl _, Nat.le_refl _⟩) X Y hA S (by decide) (by decide) (fun z101 u H locs Y S s101 p101 => ?_)
  obtain ⟨I101, J101, B101, G101⟩ := u
  dsimp only at Y S s101 p101
  have i101 : I = I101 := (funext (fun j => s101.2.1 j (by simp))).symm
  subst i101
  have b101 : B = B101 := (funext (fun j => s101.2.2 j (by simp))).symm
  subst b101
  obtain ⟨l101, u101, x101⟩ := p101
  refine lv_aload_n X.1 X.2.1 d_M_keyIn_10 rfl (lv_at hl 0 rfl) ?_
  refine lv_iload_n X.1 X.2.1 d_M_keyIn_11 rfl (lv_at hl 1 rfl) ?_
  refine lv_iload_n X.1 X.2.1 d_M_keyIn_12 rfl (lv_at hl 2 rfl) ?_
  refine r_ni (m_run (As := [.int (iI a1), .int (iI a2)]) (rest := [.int (iI z101), .ref ((D.2.1 6)), .ref h]) (n := 2) X Y hZ hA hml hl.1 (r_M_b l D E h q H.size I J101 B G101 a1 (by omega) (by omega) a2 (by omega) (by omega) S.1) kl_M_b ks_M_b kx_M_b ki_M_b ini_M hd_M_b ⟨Nat.le_of_ble_eq_true rfl, Nat.le_of_ble_eq_true rfl⟩ rfl (Nat.le_of_ble_eq_true rfl) d_M_keyIn_13 ⟨Nat.le_refl _, Nat.le_refl _⟩) X Y hA S (by decide) (by decide) (fun z102 u H locs Y S s102 p102 => ?_)
  obtain ⟨I102, J102, B102, G102⟩ := u
  dsimp only at Y S s102 p102
  have i102 : I = I102 := (funext (fun j => s102.2.1 j (by simp))).symm
  subst i102
  have b102 : B = B102 := (funext (fun j => s102.2.2 j (by simp))).symm
  subst b102
  obtain ⟨l102, u102, x102⟩ := p102
  have p103 : pr z101 z102 := by rw [x101, x102]; exact (pG2_cg rfl rfl (pG2_cg rfl rfl f_P2)) (16 * a1 + a2 : Int).toNat (by omega)
  unfold pr at p103
  refine lv_bipush (v := iI 7) X.1 X.2.1 d_M_keyIn_16 (by decide) ?_
  refine r_ni (m_run (As := [.ref ((D.2.1 6)), .int (iI z101), .int (iI z102), .int (iI 7)]) (rest := []) (n := 4) X Y hZ hA hml hl.1 (r_M_sequence_t l D E h q H.size I J102 B G102 6 (show 6 < nZ by decide) z101 (by omega) (by omega) z102 (by omega) (by omega) 7 (by omega) (by omega) S.1 5 (B 0) rfl (isF (B 0) 5) (by decide) (hisU (show rki 6 ≤ 5 by decide)) (pG1_cg rfl rfl (pG1_cg rfl rfl f_P1)) (pG2_cg rfl rfl (pG2_cg rfl rfl f_P2)) (by omega) (by omega)) kl_M_sequence ks_M_sequence kx_M_sequence ki_M_sequence ini_M hd_M_sequence ⟨Nat.le_of_ble_eq_true rfl, Nat.le_of_ble_eq_true rfl⟩ rfl (Nat.le_of_ble_eq_true rfl) d_M_keyIn_18 ⟨Nat.le_refl _, Nat.le_refl _⟩) X Y hA S (by decide) (by decide) (fun z104 u H locs Y S s104 p104 => ?_)
  obtain ⟨I104, J104, B104, G104⟩ := u
  dsimp only at Y S s104 p104
  obtain ⟨l104, u104, x104, st104, g104_P1, g104_P2⟩ := p104
  have g104_TF : thF [7] (B 37) (B 38) (B104 37) (B104 38) := thF_of st104.1
  refine lv_pop X.1 X.2.1 d_M_keyIn_21 rfl ?_
  refine lv_aload_n X.1 X.2.1 d_M_keyIn_22 rfl (lv_at hl 0 rfl) ?_
  refine lv_bipush (v := iI 7) X.1 X.2.1 d_M_keyIn_23 (by decide) ?_
  refine lv_iconst (v := iI 0) X.1 X.2.1 d_M_keyIn_25 (by decide) ?_
  refine r_nl (m_run (As := [.int (iI 7), .int (iI 0)]) (rest := []) (n := 2) X Y hZ hA hml hl.1 (r_M_numberAt l D E h q H.size I104 J104 B104 G104 7 (by omega) (by omega) 0 (by omega) (by omega) S.1 g104_P1 g104_P2) kl_M_numberAt ks_M_numberAt kx_M_numberAt ki_M_numberAt ini_M hd_M_numberAt ⟨Nat.le_of_ble_eq_true rfl, Nat.le_of_ble_eq_true rfl⟩ rfl (Nat.le_of_ble_eq_true rfl) d_M_keyIn_26 ⟨Nat.le_refl _, Nat.le_refl _⟩) X Y hA S (by decide) (by decide) (fun v105 u H locs Y S s105 p105 => ?_)
  obtain ⟨I105, J105, B105, G105⟩ := u
  dsimp only at Y S s105 p105
  have b105 : B104 = B105 := (funext (fun j => s105.2.2 j (by simp))).symm
  subst b105
  have g105_P1 := p105
  refine lv_lstore (lv' := [(4, .long v105), (0, .ref h), (1, .int (iI a1)), (2, .int (iI a2)), (3, .ref ((q 58)))]) X.1 X.2.1 d_M_keyIn_29 hl (by decide) rfl (fun ls hl => ?_)
  refine lv_aload_n X.1 X.2.1 d_M_keyIn_31 rfl (lv_at hl 1 rfl) ?_
  refine lv_aload_n X.1 X.2.1 d_M_keyIn_32 rfl (lv_at hl 1 rfl) ?_
  refine lv_bipush (v := iI 7) X.1 X.2.1 d_M_keyIn_33 (by decide) ?_
  refine lv_iconst (v := iI 1) X.1 X.2.1 d_M_keyIn_35 (by decide) ?_
  refine r_ni (m_run (As := [.int (iI 7), .int (iI 1)]) (rest := [.ref h]) (n := 2) X Y hZ hA hml hl.1 (r_M_a l D E h q H.size I105 J105 B104 G105 7 (by omega) (by omega) 1 (by omega) (by omega) S.1) kl_M_a ks_M_a kx_M_a ki_M_a ini_M hd_M_a ⟨Nat.le_of_ble_eq_true rfl, Nat.le_of_ble_eq_true rfl⟩ rfl (Nat.le_of_ble_eq_true rfl) d_M_keyIn_36 ⟨Nat.le_refl _, Nat.le_refl _⟩) X Y hA S (by decide) (by decide) (fun z106 u H locs Y S s106 p106 => ?_)
  obtain ⟨I106, J106, B106, G106⟩ := u
  dsimp only at Y S s106 p106
  have i106 : I105 = I106 := (funext (fun j => s106.2.1 j (by simp))).symm
  subst i106
  have b106 : B104 = B106 := (funext (fun j => s106.2.2 j (by simp))).symm
  subst b106
  obtain ⟨l106, u106, x106⟩ := p106
  refine lv_aload_n X.1 X.2.1 d_M_keyIn_39 rfl (lv_at hl 1 rfl) ?_
  refine lv_bipush (v := iI 7) X.1 X.2.1 d_M_keyIn_40 (by decide) ?_
  refine lv_iconst (v := iI 1) X.1 X.2.1 d_M_keyIn_42 (by decide) ?_
  refine r_ni (m_run (As := [.int (iI 7), .int (iI 1)]) (rest := [.int (iI z106), .ref h]) (n := 2) X Y hZ hA hml hl.1 (r_M_b l D E h q H.size I105 J106 B104 G106 7 (by omega) (by omega) 1 (by omega) (by omega) S.1) kl_M_b ks_M_b kx_M_b ki_M_b ini_M hd_M_b ⟨Nat.le_of_ble_eq_true rfl, Nat.le_of_ble_eq_true rfl⟩ rfl (Nat.le_of_ble_eq_true rfl) d_M_keyIn_43 ⟨Nat.le_refl _, Nat.le_refl _⟩) X Y hA S (by decide) (by decide) (fun z107 u H locs Y S s107 p107 => ?_)
  obtain ⟨I107, J107, B107, G107⟩ := u
  dsimp only at Y S s107 p107
  have i107 : I105 = I107 := (funext (fun j => s107.2.1 j (by simp))).symm
  subst i107
  have b107 : B104 = B107 := (funext (fun j => s107.2.2 j (by simp))).symm
  subst b107
  obtain ⟨l107, u107, x107⟩ := p107
  have p108 : pr z106 z107 := by rw [x106, x107]; exact (pG2_cg rfl rfl (pG2_cg rfl rfl (pG2_cg rfl rfl g104_P2))) (16 * 7 + 1 : Int).toNat (by omega)
  unfold pr at p108
  refine lv_iconst (v := iI 4) X.1 X.2.1 d_M_keyIn_46 (by decide) ?_
  refine r_ni (m_run (As := [.int (iI z106), .int (iI z107), .int (iI 4)]) (rest := []) (n := 3) X Y hZ hA hml hl.1 (r_M_element l D E h q H.size I105 J107 B104 G107 z106 (by omega) (by omega) z107 (by omega) (by omega) 4 (by omega) (by omega) S.1 (B104 0) rfl (pG1_cg rfl rfl (pG1_cg rfl rfl g105_P1)) (by omega) (by omega)) kl_M_element ks_M_element kx_M_element ki_M_element ini_M hd_M_element ⟨Nat.le_of_ble_eq_true rfl, Nat.le_of_ble_eq_true rfl⟩ rfl (Nat.le_of_ble_eq_true rfl) d_M_keyIn_47 ⟨Nat.le_refl _, Nat.le_refl _⟩) X Y hA S (by decide) (by decide) (fun z109 u H locs Y S s109 p109 => ?_)
  obtain ⟨I109, J109, B109, G109⟩ := u
  dsimp only at Y S s109 p109
  have b109 : B104 = B109 := (funext (fun j => s109.2.2 j (by simp))).symm
  subst b109
  obtain ⟨l109, u109, x109, st109⟩ := p109
  obtain ⟨x110, y110, ex110, ey110, lx110, ly110, uy110, dy110, iy110, ky110⟩ := st109
  refine lv_pop X.1 X.2.1 d_M_keyIn_50 rfl ?_
  refine lv_lload X.1 X.2.1 d_M_keyIn_51 (lv_at hl 0 rfl) ?_
  refine lv_ldc2 (v := (17)) X.1 X.2.1 X.2.2.2.1 (X.2.2.1 _ cl_M_697) d_M_keyIn_53 ?_
  refine z_lcmp X.1 X.2.1 d_M_keyIn_56 (fun z111 l111 u111 x111 y111 => ?_)
  have c111 : ((17) : Int64).toInt = (17) := by decide
  refine z_if_eq (tgt := 69) X.1 X.2.1 d_M_keyIn_57 (by decide) ⟨by omega, by omega⟩ (fun h112 => ?_) (fun h112 => ?_)
  · refine lv_aload_n X.1 X.2.1 d_M_keyIn_69 rfl (lv_at hl 1 rfl) ?_
    refine r_get0 X Y (by decide) lk_behind (gf_behind _ _ _) rfl ey110 d_M_keyIn_70 ?_
    refine lv_aload_n X.1 X.2.1 d_M_keyIn_73 rfl (lv_at hl 1 rfl) ?_
    refine r_get0 X Y (by decide) lk_inside (gf_inside _ _ _) rfl ex110 d_M_keyIn_74 ?_
    refine z_isub X.1 X.2.1 d_M_keyIn_77 ?_
    refine lv_lload X.1 X.2.1 d_M_keyIn_78 (lv_at hl 0 rfl) ?_
    refine z_l2i X.1 X.2.1 d_M_keyIn_80 (fun z113 l113 u113 x113 => ?_)
    refine p_calli (As := [.int (iI z113)]) (rest := [.int (iI (y110 - x110))]) (n := 1) X Y hml hl.1 (r_M_size l z113 (by omega) (by omega)) kl_M_size ks_M_size ki_M_size ini_M hd_M_size ⟨Nat.le_of_ble_eq_true rfl, Nat.le_of_ble_eq_true rfl⟩ rfl (Nat.le_of_ble_eq_true rfl) d_M_keyIn_81 ⟨Nat.le_refl _, Nat.le_refl _⟩ (fun r114 H locs p114 Y => ?_)
    obtain ⟨z114, e114, p114⟩ := p114
    subst e114
    obtain ⟨l114, u114, x114⟩ := p114
    refine z_icmp_eq (tgt := 89) X.1 X.2.1 d_M_keyIn_84 (by decide) ⟨by omega, by omega⟩ ⟨by omega, by omega⟩ (fun h115 => ?_) (fun h115 => ?_)
    · refine lv_aload_n X.1 X.2.1 d_M_keyIn_89 rfl (lv_at hl 1 rfl) ?_
      refine r_get0 X Y (by decide) lk_inside (gf_inside _ _ _) rfl ex110 d_M_keyIn_90 ?_
      have J124 : ∀ (n126 : Nat) (z117 : Int) (I116 : Nat → Int32) (J116 : Nat → Int64) (B116 : Nat → Nat → Int32) (G116 : Nat → Nat → Int64) (H : Heap) (locs : List Loc) (ls : Array Slot), (30000 - z117).toNat = n126 → (0 ≤ z117) → (z117 ≤ 30000) → (pG1 I116) → (pG2 (B116 37) (B116 38)) → (thF [7] (B 37) (B 38) (B116 37) (B116 38)) → (I116 39 = iI x110) → (I116 40 = iI y110) → (x110 ≤ z117) → mH D E (mA E h q sz) s.heap h q I116 J116 B116 G116 H locs → rS [39, 40] [37, 38, 58] I B I116 B116 → lv_has ls 7 [(0, .ref h), (3, .ref ((q 58))), (4, .long v105), (6, .int (iI z117))] → W p l e (mR 43 1992) s m AV below meth c H locs 0 0 QQ (F0 m 95 ls []) := by
        intro n126
        induction n126 using Nat.strongRecOn with
        | ind n126 ih125 =>
          intro z117 I116 J116 B116 G116 H locs ls hm127 l117 u117 f118 f119 f120 e121 e122 i123 Y S hl
          refine lv_iload X.1 X.2.1 d_M_keyIn_95 (lv_at hl 3 rfl) ?_
          refine lv_aload_n X.1 X.2.1 d_M_keyIn_97 rfl (lv_at hl 0 rfl) ?_
          refine r_get0 X Y (by decide) lk_behind (gf_behind _ _ _) rfl e122 d_M_keyIn_98 ?_
          refine z_icmp_ge (tgt := 126) X.1 X.2.1 d_M_keyIn_101 (by decide) ⟨by omega, by omega⟩ ⟨by omega, by omega⟩ (fun h128 => ?_) (fun h128 => ?_)
          · refine lv_lload X.1 X.2.1 d_M_keyIn_126 (lv_at hl 2 rfl) ?_
            refine z_l2i X.1 X.2.1 d_M_keyIn_128 (fun z129 l129 u129 x129 => ?_)
            exact m_reti hQQ X Y hr hlk ⟨S, z129, rfl, ⟨by omega, by omega, by omega, f118, f119, f120⟩⟩ d_M_keyIn_129
          · refine lv_aload_n X.1 X.2.1 d_M_keyIn_104 rfl (lv_at hl 1 rfl) ?_
            refine lv_iload X.1 X.2.1 d_M_keyIn_105 (lv_at hl 3 rfl) ?_
            refine lv_aload_n X.1 X.2.1 d_M_keyIn_107 rfl (lv_at hl 0 rfl) ?_
            refine r_get0 X Y (by decide) lk_inside (gf_inside _ _ _) rfl e121 d_M_keyIn_108 ?_
            refine z_isub X.1 X.2.1 d_M_keyIn_111 ?_
            refine lv_aload_n X.1 X.2.1 d_M_keyIn_112 rfl (lv_at hl 0 rfl) ?_
            refine m_get X Y 0 (by decide) lk_mem (gf_mem _ _ _) rfl d_M_keyIn_113 ?_
            refine lv_iload X.1 X.2.1 d_M_keyIn_116 (lv_at hl 3 rfl) ?_
            refine r_bald X Y S (aw_mem _ _ _ _ _ _ _) rfl (by omega) (show z117 < ((60000 : Nat) : Int) by omega) (by omega) d_M_keyIn_118 (fun z130 q130 l130 u130 => ?_)
            refine r_bast X Y S (aw_key _ _ _ _ _ _ _) (sw_key _ _ _ _ _ _ _) rfl (by omega) (show z117 - x110 < ((32 : Nat) : Int) by omega) (by omega) (by decide) d_M_keyIn_119 (fun B131 H locs Y S w131 => ?_)
            refine lv_iinc (v := iI (z117 + 1)) (lv' := [(6, .int (iI (z117 + 1))), (0, .ref h), (3, .ref ((q 58))), (4, .long v105)]) X.1 X.2.1 d_M_keyIn_120 hl (k := 3) rfl ((iI_add _ _).trans (congrArg iI (by omega))) (by decide) rfl (fun ls hl => ?_)
            refine lv_goto (tgt := 95) X.1 X.2.1 d_M_keyIn_123 (by decide) ?_
            exact ih125 ((30000 - (z117 + 1)).toNat) (by omega) (z117 + 1) I116 J116 B131 G116 _ _ _ rfl (by omega) (by omega) (pG1_cg rfl rfl f118) (pG2_cg (w131.2 37 (by decide)) (w131.2 38 (by decide)) f119) (thF_cg (w131.2 37 (by decide)) (w131.2 38 (by decide)) f120) e121 e122 (by omega) Y S (lv_sub hl [1, 2, 3, 0] rfl)
      refine lv_istore (lv' := [(6, .int (iI x110)), (4, .long v105), (0, .ref h), (1, .int (iI a1)), (2, .int (iI a2)), (3, .ref ((q 58)))]) X.1 X.2.1 d_M_keyIn_93 hl (by decide) rfl (fun ls hl => ?_)
      exact J124 _ x110 I109 J109 B104 G109 _ _ _ rfl (by omega) (by omega) (show pG1 I109 from ⟨x110, y110, ex110, ey110, by omega, by omega, by omega, by omega⟩) (pG2_cg rfl rfl (pG2_cg rfl rfl (pG2_cg rfl rfl (pG2_cg rfl rfl g104_P2)))) (thF_cg rfl rfl (thF_cg rfl rfl (thF_cg rfl rfl (thF_cg rfl rfl (thF_tr (thF_cg rfl rfl (thF_cg rfl rfl thF_rf)) g104_TF (by decide)))))) ex110 ey110 (by omega) Y S (lv_sub hl [2, 5, 1, 0] rfl)
    · refine lv_iconst (v := iI 0) X.1 X.2.1 d_M_keyIn_87 (by decide) ?_
      exact m_reti hQQ X Y hr hlk ⟨S, 0, rfl, ⟨by omega, by omega, by omega, (show pG1 I109 from ⟨x110, y110, ex110, ey110, by omega, by omega, by omega, by omega⟩), (pG2_cg rfl rfl (pG2_cg rfl rfl (pG2_cg rfl rfl (pG2_cg rfl rfl g104_P2)))), (thF_cg rfl rfl (thF_cg rfl rfl (thF_cg rfl rfl (thF_cg rfl rfl (thF_tr (thF_cg rfl rfl (thF_cg rfl rfl thF_rf)) g104_TF (by decide))))))⟩⟩ d_M_keyIn_88
  · refine lv_lload X.1 X.2.1 d_M_keyIn_60 (lv_at hl 0 rfl) ?_
    refine lv_ldc2 (v := (18)) X.1 X.2.1 X.2.2.2.1 (X.2.2.1 _ cl_M_699) d_M_keyIn_62 ?_
    refine z_lcmp X.1 X.2.1 d_M_keyIn_65 (fun z132 l132 u132 x132 y132 => ?_)
    have c132 : ((18) : Int64).toInt = (18) := by decide
    refine z_if_ne (tgt := 87) X.1 X.2.1 d_M_keyIn_66 (by decide) ⟨by omega, by omega⟩ (fun h133 => ?_) (fun h133 => ?_)
    · refine lv_iconst (v := iI 0) X.1 X.2.1 d_M_keyIn_87 (by decide) ?_
      exact m_reti hQQ X Y hr hlk ⟨S, 0, rfl, ⟨by omega, by omega, by omega, (show pG1 I109 from ⟨x110, y110, ex110, ey110, by omega, by omega, by omega, by omega⟩), (pG2_cg rfl rfl (pG2_cg rfl rfl (pG2_cg rfl rfl (pG2_cg rfl rfl g104_P2)))), (thF_cg rfl rfl (thF_cg rfl rfl (thF_cg rfl rfl (thF_cg rfl rfl (thF_tr (thF_cg rfl rfl (thF_cg rfl rfl thF_rf)) g104_TF (by decide))))))⟩⟩ d_M_keyIn_88
    · refine lv_aload_n X.1 X.2.1 d_M_keyIn_69 rfl (lv_at hl 1 rfl) ?_
      refine r_get0 X Y (by decide) lk_behind (gf_behind _ _ _) rfl ey110 d_M_keyIn_70 ?_
      refine lv_aload_n X.1 X.2.1 d_M_keyIn_73 rfl (lv_at hl 1 rfl) ?_
      refine r_get0 X Y (by decide) lk_inside (gf_inside _ _ _) rfl ex110 d_M_keyIn_74 ?_
      refine z_isub X.1 X.2.1 d_M_keyIn_77 ?_
      refine lv_lload X.1 X.2.1 d_M_keyIn_78 (lv_at hl 0 rfl) ?_
      refine z_l2i X.1 X.2.1 d_M_keyIn_80 (fun z134 l134 u134 x134 => ?_)
      refine p_calli (As := [.int (iI z134)]) (rest := [.int (iI (y110 - x110))]) (n := 1) X Y hml hl.1 (r_M_size l z134 (by omega) (by omega)) kl_M_size ks_M_size ki_M_size ini_M hd_M_size ⟨Nat.le_of_ble_eq_true rfl, Nat.le_of_ble_eq_true rfl⟩ rfl (Nat.le_of_ble_eq_true rfl) d_M_keyIn_81 ⟨Nat.le_refl _, Nat.le_refl _⟩ (fun r135 H locs p135 Y => ?_)
      obtain ⟨z135, e135, p135⟩ := p135
      subst e135
      obtain ⟨l135, u135, x135⟩ := p135
      refine z_icmp_eq (tgt := 89) X.1 X.2.1 d_M_keyIn_84 (by decide) ⟨by omega, by omega⟩ ⟨by omega, by omega⟩ (fun h136 => ?_) (fun h136 => ?_)
      · refine lv_aload_n X.1 X.2.1 d_M_keyIn_89 rfl (lv_at hl 1 rfl) ?_
        refine r_get0 X Y (by decide) lk_inside (gf_inside _ _ _) rfl ex110 d_M_keyIn_90 ?_
        have J145 : ∀ (n147 : Nat) (z138 : Int) (I137 : Nat → Int32) (J137 : Nat → Int64) (B137 : Nat → Nat → Int32) (G137 : Nat → Nat → Int64) (H : Heap) (locs : List Loc) (ls : Array Slot), (30000 - z138).toNat = n147 → (0 ≤ z138) → (z138 ≤ 30000) → (pG1 I137) → (pG2 (B137 37) (B137 38)) → (thF [7] (B 37) (B 38) (B137 37) (B137 38)) → (I137 39 = iI x110) → (I137 40 = iI y110) → (x110 ≤ z138) → mH D E (mA E h q sz) s.heap h q I137 J137 B137 G137 H locs → rS [39, 40] [37, 38, 58] I B I137 B137 → lv_has ls 7 [(0, .ref h), (3, .ref ((q 58))), (4, .long v105), (6, .int (iI z138))] → W p l e (mR 43 1992) s m AV below meth c H locs 0 0 QQ (F0 m 95 ls []) := by
          intro n147
          induction n147 using Nat.strongRecOn with
          | ind n147 ih146 =>
            intro z138 I137 J137 B137 G137 H locs ls hm148 l138 u138 f139 f140 f141 e142 e143 i144 Y S hl
            refine lv_iload X.1 X.2.1 d_M_keyIn_95 (lv_at hl 3 rfl) ?_
            refine lv_aload_n X.1 X.2.1 d_M_keyIn_97 rfl (lv_at hl 0 rfl) ?_
            refine r_get0 X Y (by decide) lk_behind (gf_behind _ _ _) rfl e143 d_M_keyIn_98 ?_
            refine z_icmp_ge (tgt := 126) X.1 X.2.1 d_M_keyIn_101 (by decide) ⟨by omega, by omega⟩ ⟨by omega, by omega⟩ (fun h149 => ?_) (fun h149 => ?_)
            · refine lv_lload X.1 X.2.1 d_M_keyIn_126 (lv_at hl 2 rfl) ?_
              refine z_l2i X.1 X.2.1 d_M_keyIn_128 (fun z150 l150 u150 x150 => ?_)
              exact m_reti hQQ X Y hr hlk ⟨S, z150, rfl, ⟨by omega, by omega, by omega, f139, f140, f141⟩⟩ d_M_keyIn_129
            · refine lv_aload_n X.1 X.2.1 d_M_keyIn_104 rfl (lv_at hl 1 rfl) ?_
              refine lv_iload X.1 X.2.1 d_M_keyIn_105 (lv_at hl 3 rfl) ?_
              refine lv_aload_n X.1 X.2.1 d_M_keyIn_107 rfl (lv_at hl 0 rfl) ?_
              refine r_get0 X Y (by decide) lk_inside (gf_inside _ _ _) rfl e142 d_M_keyIn_108 ?_
              refine z_isub X.1 X.2.1 d_M_keyIn_111 ?_
              refine lv_aload_n X.1 X.2.1 d_M_keyIn_112 rfl (lv_at hl 0 rfl) ?_
              refine m_get X Y 0 (by decide) lk_mem (gf_mem _ _ _) rfl d_M_keyIn_113 ?_
              refine lv_iload X.1 X.2.1 d_M_keyIn_116 (lv_at hl 3 rfl) ?_
              refine r_bald X Y S (aw_mem _ _ _ _ _ _ _) rfl (by omega) (show z138 < ((60000 : Nat) : Int) by omega) (by omega) d_M_keyIn_118 (fun z151 q151 l151 u151 => ?_)
              refine r_bast X Y S (aw_key _ _ _ _ _ _ _) (sw_key _ _ _ _ _ _ _) rfl (by omega) (show z138 - x110 < ((32 : Nat) : Int) by omega) (by omega) (by decide) d_M_keyIn_119 (fun B152 H locs Y S w152 => ?_)
              refine lv_iinc (v := iI (z138 + 1)) (lv' := [(6, .int (iI (z138 + 1))), (0, .ref h), (3, .ref ((q 58))), (4, .long v105)]) X.1 X.2.1 d_M_keyIn_120 hl (k := 3) rfl ((iI_add _ _).trans (congrArg iI (by omega))) (by decide) rfl (fun ls hl => ?_)
              refine lv_goto (tgt := 95) X.1 X.2.1 d_M_keyIn_123 (by decide) ?_
              exact ih146 ((30000 - (z138 + 1)).toNat) (by omega) (z138 + 1) I137 J137 B152 G137 _ _ _ rfl (by omega) (by omega) (pG1_cg rfl rfl f139) (pG2_cg (w152.2 37 (by decide)) (w152.2 38 (by decide)) f140) (thF_cg (w152.2 37 (by decide)) (w152.2 38 (by decide)) f141) e142 e143 (by omega) Y S (lv_sub hl [1, 2, 3, 0] rfl)
        refine lv_istore (lv' := [(6, .int (iI x110)), (4, .long v105), (0, .ref h), (1, .int (iI a1)), (2, .int (iI a2)), (3, .ref ((q 58)))]) X.1 X.2.1 d_M_keyIn_93 hl (by decide) rfl (fun ls hl => ?_)
        exact J145 _ x110 I109 J109 B104 G109 _ _ _ rfl (by omega) (by omega) (show pG1 I109 from ⟨x110, y110, ex110, ey110, by omega, by omega, by omega, by omega⟩) (pG2_cg rfl rfl (pG2_cg rfl rfl (pG2_cg rfl rfl (pG2_cg rfl rfl g104_P2)))) (thF_cg rfl rfl (thF_cg rfl rfl (thF_cg rfl rfl (thF_cg rfl rfl (thF_tr (thF_cg rfl rfl (thF_cg rfl rfl thF_rf)) g104_TF (by decide)))))) ex110 ey110 (by omega) Y S (lv_sub hl [2, 5, 1, 0] rfl)
      · refine lv_iconst (v := iI 0) X.1 X.2.1 d_M_keyIn_87 (by decide) ?_
        exact m_reti hQQ X Y hr hlk ⟨S, 0, rfl, ⟨by omega, by omega, by omega, (show pG1 I109 from ⟨x110, y110, ex110, ey110, by omega, by omega, by omega, by omega⟩), (pG2_cg rfl rfl (pG2_cg rfl rfl (pG2_cg rfl rfl (pG2_cg rfl rfl g104_P2)))), (thF_cg rfl rfl (thF_cg rfl rfl (thF_cg rfl rfl (thF_cg rfl rfl (thF_tr (thF_cg rfl rfl (thF_cg rfl rfl thF_rf)) g104_TF (by decide))))))⟩⟩ d_M_keyIn_88
set_option maxHeartbeats 4000000 in
set_option maxRecDepth 100000 in
theorem r_M_keyIn_sub (l : Launch) (D : mD) (E : mE) (h : Nat) (q : Nat → Nat) (sz : Nat) (I : Nat → Int32) (J : Nat → Int64) (B : Nat → Nat → Int32) (G : Nat → Nat → Int64) (a1 : Int) (l_a1 : 0 ≤ a1) (u_a1 : a1 ≤ 11) (a2 : Int) (l_a2 : 0 ≤ a2) (u_a2 : a2 ≤ 15) (hT : rT I B) (f_P1 : pG1 I) (f_P2 : pG2 (B 37) (B 38)) : Met l y_M_keyIn (k_M_keyIn :: lw_tg) (mR 43 1992) (va_Pc [.ref h, .int (iI a1), .int (iI a2), .ref (q 59)] (mPre D E h q (I, J, B, G) sz)) (va_Qi (rPi [39, 40] [37, 38, 59] I B (fun (z : Int) (u : mS) => 0 ≤ z ∧ z ≤ 18 ∧ (z = 0 ∨ z = 17 ∨ z = 18) ∧ pG1 u.1 ∧ pG2 (u.2.2.1 37) (u.2.2.1 38) ∧ thF [7] (B 37) (B 38) (u.2.2.1 37) (u.2.2.1 38))) (mPost D E h q (mA E h q sz)) (mA E h q sz)) 0 0 (mA E h q sz) := by
  refine m_enter (by decide) rfl (Nat.le_of_ble_eq_true rfl) (fun p e s m below meth c ls AV QQ H locs hQQ X Y hZ hA hr hlk hml hl => ?_)
  have Y : mH D E (mA E h q sz) s.heap h q I J B G H locs := Y
  have S : rS [39, 40] [37, 38, 59] I B I B := rS_rf hT
  have hl : lv_has ls 7 [(0, .ref h), (1, .int (iI a1)), (2, .int (iI a2)), (3, .ref ((q 59)))] := hl
  refine lv_aload_n X.1 X.2.1 d_M_keyIn_0 rfl (lv_at hl 0 rfl) ?_
  refine m_ldcSW (i := 6) X (by decide) (by decide) d_M_keyIn_1 ?_
  refine lv_aload_n X.1 X.2.1 d_M_keyIn_4 rfl (lv_at hl 0 rfl) ?_
  refine lv_iload_n X.1 X.2.1 d_M_keyIn_5 rfl (lv_at hl 1 rfl) ?_
  refine lv_iload_n X.1 X.2.1 d_M_keyIn_6 rfl (lv_at hl 2 rfl) ?_
  refine r_ni (m_run (As := [.int (iI a1), .int (iI a2)]) (rest := [.ref ((D.2.1 6)), .ref h]) (n := 2) X Y hZ hA hml hl.1 (r_M_a l D E h q H.size I J B G a1 (by omega) (by omega) a2 (by omega) (by omega) S.1) kl_M_a ks_M_a kx_M_a ki_M_a ini_M hd_M_a ⟨Nat.le_of_ble_eq_true rfl, Nat.le_of_ble_eq_true rfl⟩ rfl (Nat.le_of_ble_eq_true rfl) d_M_keyIn_7 ⟨Nat.le_refl _, Nat.le_refl _⟩) X Y hA S (by decide) (by decide) (fun z101 u H locs Y S s101 p101 => ?_)
  obtain ⟨I101, J101, B101, G101⟩ := u
  dsimp only at Y S s101 p101
  have i101 : I = I101 := (funext (fun j => s101.2.1 j (by simp))).symm
  subst i101
  have b101 : B = B101 := (funext (fun j => s101.2.2 j (by simp))).symm
  subst b101
  obtain ⟨l101, u101, x101⟩ := p101
  refine lv_aload_n X.1 X.2.1 d_M_keyIn_10 rfl (lv_at hl 0 rfl) ?_
  refine lv_iload_n X.1 X.2.1 d_M_keyIn_11 rfl (lv_at hl 1 rfl) ?_
  refine lv_iload_n X.1 X.2.1 d_M_keyIn_12 rfl (lv_at hl 2 rfl) ?_
  refine r_ni (m_run (As := [.int (iI a1), .int (iI a2)]) (rest := [.int (iI z101), .ref ((D.2.1 6)), .ref h]) (n := 2) X Y hZ hA hml hl.1 (r_M_b l D E h q H.size I J101 B G101 a1 (by omega) (by omega) a2 (by omega) (by omega) S.1) kl_M_b ks_M_b kx_M_b ki_M_b ini_M hd_M_b ⟨Nat.le_of_ble_eq_true rfl, Nat.le_of_ble_eq_true rfl⟩ rfl (Nat.le_of_ble_eq_true rfl) d_M_keyIn_13 ⟨Nat.le_refl _, Nat.le_refl _⟩) X Y hA S (by decide) (by decide) (fun z102 u H locs Y S s102 p102 => ?_)
  obtain ⟨I102, J102, B102, G102⟩ := u
  dsimp only at Y S s102 p102
  have i102 : I = I102 := (funext (fun j => s102.2.1 j (by simp))).symm
  subst i102
  have b102 : B = B102 := (funext (fun j => s102.2.2 j (by simp))).symm
  subst b102
  obtain ⟨l102, u102, x102⟩ := p102
  have p103 : pr z101 z102 := by rw [x101, x102]; exact (pG2_cg rfl rfl (pG2_cg rfl rfl f_P2)) (16 * a1 + a2 : Int).toNat (by omega)
  unfold pr at p103
  refine lv_bipush (v := iI 7) X.1 X.2.1 d_M_keyIn_16 (by decide) ?_
  refine r_ni (m_run (As := [.ref ((D.2.1 6)), .int (iI z101), .int (iI z102), .int (iI 7)]) (rest := []) (n := 4) X Y hZ hA hml hl.1 (r_M_sequence_t l D E h q H.size I J102 B G102 6 (show 6 < nZ by decide) z101 (by omega) (by omega) z102 (by omega) (by omega) 7 (by omega) (by omega) S.1 5 (B 0) rfl (isF (B 0) 5) (by decide) (hisU (show rki 6 ≤ 5 by decide)) (pG1_cg rfl rfl (pG1_cg rfl rfl f_P1)) (pG2_cg rfl rfl (pG2_cg rfl rfl f_P2)) (by omega) (by omega)) kl_M_sequence ks_M_sequence kx_M_sequence ki_M_sequence ini_M hd_M_sequence ⟨Nat.le_of_ble_eq_true rfl, Nat.le_of_ble_eq_true rfl⟩ rfl (Nat.le_of_ble_eq_true rfl) d_M_keyIn_18 ⟨Nat.le_refl _, Nat.le_refl _⟩) X Y hA S (by decide) (by decide) (fun z104 u H locs Y S s104 p104 => ?_)
  obtain ⟨I104, J104, B104, G104⟩ := u
  dsimp only at Y S s104 p104
  obtain ⟨l104, u104, x104, st104, g104_P1, g104_P2⟩ := p104
  have g104_TF : thF [7] (B 37) (B 38) (B104 37) (B104 38) := thF_of st104.1
  refine lv_pop X.1 X.2.1 d_M_keyIn_21 rfl ?_
  refine lv_aload_n X.1 X.2.1 d_M_keyIn_22 rfl (lv_at hl 0 rfl) ?_
  refine lv_bipush (v := iI 7) X.1 X.2.1 d_M_keyIn_23 (by decide) ?_
  refine lv_iconst (v := iI 0) X.1 X.2.1 d_M_keyIn_25 (by decide) ?_
  refine r_nl (m_run (As := [.int (iI 7), .int (iI 0)]) (rest := []) (n := 2) X Y hZ hA hml hl.1 (r_M_numberAt l D E h q H.size I104 J104 B104 G104 7 (by omega) (by omega) 0 (by omega) (by omega) S.1 g104_P1 g104_P2) kl_M_numberAt ks_M_numberAt kx_M_numberAt ki_M_numberAt ini_M hd_M_numberAt ⟨Nat.le_of_ble_eq_true rfl, Nat.le_of_ble_eq_true rfl⟩ rfl (Nat.le_of_ble_eq_true rfl) d_M_keyIn_26 ⟨Nat.le_refl _, Nat.le_refl _⟩) X Y hA S (by decide) (by decide) (fun v105 u H locs Y S s105 p105 => ?_)
  obtain ⟨I105, J105, B105, G105⟩ := u
  dsimp only at Y S s105 p105
  have b105 : B104 = B105 := (funext (fun j => s105.2.2 j (by simp))).symm
  subst b105
  have g105_P1 := p105
  refine lv_lstore (lv' := [(4, .long v105), (0, .ref h), (1, .int (iI a1)), (2, .int (iI a2)), (3, .ref ((q 59)))]) X.1 X.2.1 d_M_keyIn_29 hl (by decide) rfl (fun ls hl => ?_)
  refine lv_aload_n X.1 X.2.1 d_M_keyIn_31 rfl (lv_at hl 1 rfl) ?_
  refine lv_aload_n X.1 X.2.1 d_M_keyIn_32 rfl (lv_at hl 1 rfl) ?_
  refine lv_bipush (v := iI 7) X.1 X.2.1 d_M_keyIn_33 (by decide) ?_
  refine lv_iconst (v := iI 1) X.1 X.2.1 d_M_keyIn_35 (by decide) ?_
  refine r_ni (m_run (As := [.int (iI 7), .int (iI 1)]) (rest := [.ref h]) (n := 2) X Y hZ hA hml hl.1 (r_M_a l D E h q H.size I105 J105 B104 G105 7 (by omega) (by omega) 1 (by omega) (by omega) S.1) kl_M_a ks_M_a kx_M_a ki_M_a ini_M hd_M_a ⟨Nat.le_of_ble_eq_true rfl, Nat.le_of_ble_eq_true rfl⟩ rfl (Nat.le_of_ble_eq_true rfl) d_M_keyIn_36 ⟨Nat.le_refl _, Nat.le_refl _⟩) X Y hA S (by decide) (by decide) (fun z106 u H locs Y S s106 p106 => ?_)
  obtain ⟨I106, J106, B106, G106⟩ := u
  dsimp only at Y S s106 p106
  have i106 : I105 = I106 := (funext (fun j => s106.2.1 j (by simp))).symm
  subst i106
  have b106 : B104 = B106 := (funext (fun j => s106.2.2 j (by simp))).symm
  subst b106
  obtain ⟨l106, u106, x106⟩ := p106
  refine lv_aload_n X.1 X.2.1 d_M_keyIn_39 rfl (lv_at hl 1 rfl) ?_
  refine lv_bipush (v := iI 7) X.1 X.2.1 d_M_keyIn_40 (by decide) ?_
  refine lv_iconst (v := iI 1) X.1 X.2.1 d_M_keyIn_42 (by decide) ?_
  refine r_ni (m_run (As := [.int (iI 7), .int (iI 1)]) (rest := [.int (iI z106), .ref h]) (n := 2) X Y hZ hA hml hl.1 (r_M_b l D E h q H.size I105 J106 B104 G106 7 (by omega) (by omega) 1 (by omega) (by omega) S.1) kl_M_b ks_M_b kx_M_b ki_M_b ini_M hd_M_b ⟨Nat.le_of_ble_eq_true rfl, Nat.le_of_ble_eq_true rfl⟩ rfl (Nat.le_of_ble_eq_true rfl) d_M_keyIn_43 ⟨Nat.le_refl _, Nat.le_refl _⟩) X Y hA S (by decide) (by decide) (fun z107 u H locs Y S s107 p107 => ?_)
  obtain ⟨I107, J107, B107, G107⟩ := u
  dsimp only at Y S s107 p107
  have i107 : I105 = I107 := (funext (fun j => s107.2.1 j (by simp))).symm
  subst i107
  have b107 : B104 = B107 := (funext (fun j => s107.2.2 j (by simp))).symm
  subst b107
  obtain ⟨l107, u107, x107⟩ := p107
  have p108 : pr z106 z107 := by rw [x106, x107]; exact (pG2_cg rfl rfl (pG2_cg rfl rfl (pG2_cg rfl rfl g104_P2))) (16 * 7 + 1 : Int).toNat (by omega)
  unfold pr at p108
  refine lv_iconst (v := iI 4) X.1 X.2.1 d_M_keyIn_46 (by decide) ?_
  refine r_ni (m_run (As := [.int (iI z106), .int (iI z107), .int (iI 4)]) (rest := []) (n := 3) X Y hZ hA hml hl.1 (r_M_element l D E h q H.size I105 J107 B104 G107 z106 (by omega) (by omega) z107 (by omega) (by omega) 4 (by omega) (by omega) S.1 (B104 0) rfl (pG1_cg rfl rfl (pG1_cg rfl rfl g105_P1)) (by omega) (by omega)) kl_M_element ks_M_element kx_M_element ki_M_element ini_M hd_M_element ⟨Nat.le_of_ble_eq_true rfl, Nat.le_of_ble_eq_true rfl⟩ rfl (Nat.le_of_ble_eq_true rfl) d_M_keyIn_47 ⟨Nat.le_refl _, Nat.le_refl _⟩) X Y hA S (by decide) (by decide) (fun z109 u H locs Y S s109 p109 => ?_)
  obtain ⟨I109, J109, B109, G109⟩ := u
  dsimp only at Y S s109 p109
  have b109 : B104 = B109 := (funext (fun j => s109.2.2 j (by simp))).symm
  subst b109
  obtain ⟨l109, u109, x109, st109⟩ := p109
  obtain ⟨x110, y110, ex110, ey110, lx110, ly110, uy110, dy110, iy110, ky110⟩ := st109
  refine lv_pop X.1 X.2.1 d_M_keyIn_50 rfl ?_
  refine lv_lload X.1 X.2.1 d_M_keyIn_51 (lv_at hl 0 rfl) ?_
  refine lv_ldc2 (v := (17)) X.1 X.2.1 X.2.2.2.1 (X.2.2.1 _ cl_M_697) d_M_keyIn_53 ?_
  refine z_lcmp X.1 X.2.1 d_M_keyIn_56 (fun z111 l111 u111 x111 y111 => ?_)
  have c111 : ((17) : Int64).toInt = (17) := by decide
  refine z_if_eq (tgt := 69) X.1 X.2.1 d_M_keyIn_57 (by decide) ⟨by omega, by omega⟩ (fun h112 => ?_) (fun h112 => ?_)
  · refine lv_aload_n X.1 X.2.1 d_M_keyIn_69 rfl (lv_at hl 1 rfl) ?_
    refine r_get0 X Y (by decide) lk_behind (gf_behind _ _ _) rfl ey110 d_M_keyIn_70 ?_
    refine lv_aload_n X.1 X.2.1 d_M_keyIn_73 rfl (lv_at hl 1 rfl) ?_
    refine r_get0 X Y (by decide) lk_inside (gf_inside _ _ _) rfl ex110 d_M_keyIn_74 ?_
    refine z_isub X.1 X.2.1 d_M_keyIn_77 ?_
    refine lv_lload X.1 X.2.1 d_M_keyIn_78 (lv_at hl 0 rfl) ?_
    refine z_l2i X.1 X.2.1 d_M_keyIn_80 (fun z113 l113 u113 x113 => ?_)
    refine p_calli (As := [.int (iI z113)]) (rest := [.int (iI (y110 - x110))]) (n := 1) X Y hml hl.1 (r_M_size l z113 (by omega) (by omega)) kl_M_size ks_M_size ki_M_size ini_M hd_M_size ⟨Nat.le_of_ble_eq_true rfl, Nat.le_of_ble_eq_true rfl⟩ rfl (Nat.le_of_ble_eq_true rfl) d_M_keyIn_81 ⟨Nat.le_refl _, Nat.le_refl _⟩ (fun r114 H locs p114 Y => ?_)
    obtain ⟨z114, e114, p114⟩ := p114
    subst e114
    obtain ⟨l114, u114, x114⟩ := p114
    refine z_icmp_eq (tgt := 89) X.1 X.2.1 d_M_keyIn_84 (by decide) ⟨by omega, by omega⟩ ⟨by omega, by omega⟩ (fun h115 => ?_) (fun h115 => ?_)
    · refine lv_aload_n X.1 X.2.1 d_M_keyIn_89 rfl (lv_at hl 1 rfl) ?_
      refine r_get0 X Y (by decide) lk_inside (gf_inside _ _ _) rfl ex110 d_M_keyIn_90 ?_
      have J124 : ∀ (n126 : Nat) (z117 : Int) (I116 : Nat → Int32) (J116 : Nat → Int64) (B116 : Nat → Nat → Int32) (G116 : Nat → Nat → Int64) (H : Heap) (locs : List Loc) (ls : Array Slot), (30000 - z117).toNat = n126 → (0 ≤ z117) → (z117 ≤ 30000) → (pG1 I116) → (pG2 (B116 37) (B116 38)) → (thF [7] (B 37) (B 38) (B116 37) (B116 38)) → (I116 39 = iI x110) → (I116 40 = iI y110) → (x110 ≤ z117) → mH D E (mA E h q sz) s.heap h q I116 J116 B116 G116 H locs → rS [39, 40] [37, 38, 59] I B I116 B116 → lv_has ls 7 [(0, .ref h), (3, .ref ((q 59))), (4, .long v105), (6, .int (iI z117))] → W p l e (mR 43 1992) s m AV below meth c H locs 0 0 QQ (F0 m 95 ls []) := by
        intro n126
        induction n126 using Nat.strongRecOn with
        | ind n126 ih125 =>
          intro z117 I116 J116 B116 G116 H locs ls hm127 l117 u117 f118 f119 f120 e121 e122 i123 Y S hl
          refine lv_iload X.1 X.2.1 d_M_keyIn_95 (lv_at hl 3 rfl) ?_
          refine lv_aload_n X.1 X.2.1 d_M_keyIn_97 rfl (lv_at hl 0 rfl) ?_
          refine r_get0 X Y (by decide) lk_behind (gf_behind _ _ _) rfl e122 d_M_keyIn_98 ?_
          refine z_icmp_ge (tgt := 126) X.1 X.2.1 d_M_keyIn_101 (by decide) ⟨by omega, by omega⟩ ⟨by omega, by omega⟩ (fun h128 => ?_) (fun h128 => ?_)
          · refine lv_lload X.1 X.2.1 d_M_keyIn_126 (lv_at hl 2 rfl) ?_
            refine z_l2i X.1 X.2.1 d_M_keyIn_128 (fun z129 l129 u129 x129 => ?_)
            exact m_reti hQQ X Y hr hlk ⟨S, z129, rfl, ⟨by omega, by omega, by omega, f118, f119, f120⟩⟩ d_M_keyIn_129
          · refine lv_aload_n X.1 X.2.1 d_M_keyIn_104 rfl (lv_at hl 1 rfl) ?_
            refine lv_iload X.1 X.2.1 d_M_keyIn_105 (lv_at hl 3 rfl) ?_
            refine lv_aload_n X.1 X.2.1 d_M_keyIn_107 rfl (lv_at hl 0 rfl) ?_
            refine r_get0 X Y (by decide) lk_inside (gf_inside _ _ _) rfl e121 d_M_keyIn_108 ?_
            refine z_isub X.1 X.2.1 d_M_keyIn_111 ?_
            refine lv_aload_n X.1 X.2.1 d_M_keyIn_112 rfl (lv_at hl 0 rfl) ?_
            refine m_get X Y 0 (by decide) lk_mem (gf_mem _ _ _) rfl d_M_keyIn_113 ?_
            refine lv_iload X.1 X.2.1 d_M_keyIn_116 (lv_at hl 3 rfl) ?_
            refine r_bald X Y S (aw_mem _ _ _ _ _ _ _) rfl (by omega) (show z117 < ((60000 : Nat) : Int) by omega) (by omega) d_M_keyIn_118 (fun z130 q130 l130 u130 => ?_)
            refine r_bast X Y S (aw_sub _ _ _ _ _ _ _) (sw_sub _ _ _ _ _ _ _) rfl (by omega) (show z117 - x110 < ((32 : Nat) : Int) by omega) (by omega) (by decide) d_M_keyIn_119 (fun B131 H locs Y S w131 => ?_)
            refine lv_iinc (v := iI (z117 + 1)) (lv' := [(6, .int (iI (z117 + 1))), (0, .ref h), (3, .ref ((q 59))), (4, .long v105)]) X.1 X.2.1 d_M_keyIn_120 hl (k := 3) rfl ((iI_add _ _).trans (congrArg iI (by omega))) (by decide) rfl (fun ls hl => ?_)
            refine lv_goto (tgt := 95) X.1 X.2.1 d_M_keyIn_123 (by decide) ?_
            exact ih125 ((30000 - (z117 + 1)).toNat) (by omega) (z117 + 1) I116 J116 B131 G116 _ _ _ rfl (by omega) (by omega) (pG1_cg rfl rfl f118) (pG2_cg (w131.2 37 (by decide)) (w131.2 38 (by decide)) f119) (thF_cg (w131.2 37 (by decide)) (w131.2 38 (by decide)) f120) e121 e122 (by omega) Y S (lv_sub hl [1, 2, 3, 0] rfl)
      refine lv_istore (lv' := [(6, .int (iI x110)), (4, .long v105), (0, .ref h), (1, .int (iI a1)), (2, .int (iI a2)), (3, .ref ((q 59)))]) X.1 X.2.1 d_M_keyIn_93 hl (by decide) rfl (fun ls hl => ?_)
      exact J124 _ x110 I109 J109 B104 G109 _ _ _ rfl (by omega) (by omega) (show pG1 I109 from ⟨x110, y110, ex110, ey110, by omega, by omega, by omega, by omega⟩) (pG2_cg rfl rfl (pG2_cg rfl rfl (pG2_cg rfl rfl (pG2_cg rfl rfl g104_P2)))) (thF_cg rfl rfl (thF_cg rfl rfl (thF_cg rfl rfl (thF_cg rfl rfl (thF_tr (thF_cg rfl rfl (thF_cg rfl rfl thF_rf)) g104_TF (by decide)))))) ex110 ey110 (by omega) Y S (lv_sub hl [2, 5, 1, 0] rfl)
    · refine lv_iconst (v := iI 0) X.1 X.2.1 d_M_keyIn_87 (by decide) ?_
      exact m_reti hQQ X Y hr hlk ⟨S, 0, rfl, ⟨by omega, by omega, by omega, (show pG1 I109 from ⟨x110, y110, ex110, ey110, by omega, by omega, by omega, by omega⟩), (pG2_cg rfl rfl (pG2_cg rfl rfl (pG2_cg rfl rfl (pG2_cg rfl rfl g104_P2)))), (thF_cg rfl rfl (thF_cg rfl rfl (thF_cg rfl rfl (thF_cg rfl rfl (thF_tr (thF_cg rfl rfl (thF_cg rfl rfl thF_rf)) g104_TF (by decide))))))⟩⟩ d_M_keyIn_88
  · refine lv_lload X.1 X.2.1 d_M_keyIn_60 (lv_at hl 0 rfl) ?_
    refine lv_ldc2 (v := (18)) X.1 X.2.1 X.2.2.2.1 (X.2.2.1 _ cl_M_699) d_M_keyIn_62 ?_
    refine z_lcmp X.1 X.2.1 d_M_keyIn_65 (fun z132 l132 u132 x132 y132 => ?_)
    have c132 : ((18) : Int64).toInt = (18) := by decide
    refine z_if_ne (tgt := 87) X.1 X.2.1 d_M_keyIn_66 (by decide) ⟨by omega, by omega⟩ (fun h133 => ?_) (fun h133 => ?_)
    · refine lv_iconst (v := iI 0) X.1 X.2.1 d_M_keyIn_87 (by decide) ?_
      exact m_reti hQQ X Y hr hlk ⟨S, 0, rfl, ⟨by omega, by omega, by omega, (show pG1 I109 from ⟨x110, y110, ex110, ey110, by omega, by omega, by omega, by omega⟩), (pG2_cg rfl rfl (pG2_cg rfl rfl (pG2_cg rfl rfl (pG2_cg rfl rfl g104_P2)))), (thF_cg rfl rfl (thF_cg rfl rfl (thF_cg rfl rfl (thF_cg rfl rfl (thF_tr (thF_cg rfl rfl (thF_cg rfl rfl thF_rf)) g104_TF (by decide))))))⟩⟩ d_M_keyIn_88
    · refine lv_aload_n X.1 X.2.1 d_M_keyIn_69 rfl (lv_at hl 1 rfl) ?_
      refine r_get0 X Y (by decide) lk_behind (gf_behind _ _ _) rfl ey110 d_M_keyIn_70 ?_
      refine lv_aload_n X.1 X.2.1 d_M_keyIn_73 rfl (lv_at hl 1 rfl) ?_
      refine r_get0 X Y (by decide) lk_inside (gf_inside _ _ _) rfl ex110 d_M_keyIn_74 ?_
      refine z_isub X.1 X.2.1 d_M_keyIn_77 ?_
      refine lv_lload X.1 X.2.1 d_M_keyIn_78 (lv_at hl 0 rfl) ?_
      refine z_l2i X.1 X.2.1 d_M_keyIn_80 (fun z134 l134 u134 x134 => ?_)
      refine p_calli (As := [.int (iI z134)]) (rest := [.int (iI (y110 - x110))]) (n := 1) X Y hml hl.1 (r_M_size l z134 (by omega) (by omega)) kl_M_size ks_M_size ki_M_size ini_M hd_M_size ⟨Nat.le_of_ble_eq_true rfl, Nat.le_of_ble_eq_true rfl⟩ rfl (Nat.le_of_ble_eq_true rfl) d_M_keyIn_81 ⟨Nat.le_refl _, Nat.le_refl _⟩ (fun r135 H locs p135 Y => ?_)
      obtain ⟨z135, e135, p135⟩ := p135
      subst e135
      obtain ⟨l135, u135, x135⟩ := p135
      refine z_icmp_eq (tgt := 89) X.1 X.2.1 d_M_keyIn_84 (by decide) ⟨by omega, by omega⟩ ⟨by omega, by omega⟩ (fun h136 => ?_) (fun h136 => ?_)
      · refine lv_aload_n X.1 X.2.1 d_M_keyIn_89 rfl (lv_at hl 1 rfl) ?_
        refine r_get0 X Y (by decide) lk_inside (gf_inside _ _ _) rfl ex110 d_M_keyIn_90 ?_
        have J145 : ∀ (n147 : Nat) (z138 : Int) (I137 : Nat → Int32) (J137 : Nat → Int64) (B137 : Nat → Nat → Int32) (G137 : Nat → Nat → Int64) (H : Heap) (locs : List Loc) (ls : Array Slot), (30000 - z138).toNat = n147 → (0 ≤ z138) → (z138 ≤ 30000) → (pG1 I137) → (pG2 (B137 37) (B137 38)) → (thF [7] (B 37) (B 38) (B137 37) (B137 38)) → (I137 39 = iI x110) → (I137 40 = iI y110) → (x110 ≤ z138) → mH D E (mA E h q sz) s.heap h q I137 J137 B137 G137 H locs → rS [39, 40] [37, 38, 59] I B I137 B137 → lv_has ls 7 [(0, .ref h), (3, .ref ((q 59))), (4, .long v105), (6, .int (iI z138))] → W p l e (mR 43 1992) s m AV below meth c H locs 0 0 QQ (F0 m 95 ls []) := by
          intro n147
          induction n147 using Nat.strongRecOn with
          | ind n147 ih146 =>
            intro z138 I137 J137 B137 G137 H locs ls hm148 l138 u138 f139 f140 f141 e142 e143 i144 Y S hl
            refine lv_iload X.1 X.2.1 d_M_keyIn_95 (lv_at hl 3 rfl) ?_
            refine lv_aload_n X.1 X.2.1 d_M_keyIn_97 rfl (lv_at hl 0 rfl) ?_
            refine r_get0 X Y (by decide) lk_behind (gf_behind _ _ _) rfl e143 d_M_keyIn_98 ?_
            refine z_icmp_ge (tgt := 126) X.1 X.2.1 d_M_keyIn_101 (by decide) ⟨by omega, by omega⟩ ⟨by omega, by omega⟩ (fun h149 => ?_) (fun h149 => ?_)
            · refine lv_lload X.1 X.2.1 d_M_keyIn_126 (lv_at hl 2 rfl) ?_
              refine z_l2i X.1 X.2.1 d_M_keyIn_128 (fun z150 l150 u150 x150 => ?_)
              exact m_reti hQQ X Y hr hlk ⟨S, z150, rfl, ⟨by omega, by omega, by omega, f139, f140, f141⟩⟩ d_M_keyIn_129
            · refine lv_aload_n X.1 X.2.1 d_M_keyIn_104 rfl (lv_at hl 1 rfl) ?_
              refine lv_iload X.1 X.2.1 d_M_keyIn_105 (lv_at hl 3 rfl) ?_
              refine lv_aload_n X.1 X.2.1 d_M_keyIn_107 rfl (lv_at hl 0 rfl) ?_
              refine r_get0 X Y (by decide) lk_inside (gf_inside _ _ _) rfl e142 d_M_keyIn_108 ?_
              refine z_isub X.1 X.2.1 d_M_keyIn_111 ?_
              refine lv_aload_n X.1 X.2.1 d_M_keyIn_112 rfl (lv_at hl 0 rfl) ?_
              refine m_get X Y 0 (by decide) lk_mem (gf_mem _ _ _) rfl d_M_keyIn_113 ?_
              refine lv_iload X.1 X.2.1 d_M_keyIn_116 (lv_at hl 3 rfl) ?_
              refine r_bald X Y S (aw_mem _ _ _ _ _ _ _) rfl (by omega) (show z138 < ((60000 : Nat) : Int) by omega) (by omega) d_M_keyIn_118 (fun z151 q151 l151 u151 => ?_)
              refine r_bast X Y S (aw_sub _ _ _ _ _ _ _) (sw_sub _ _ _ _ _ _ _) rfl (by omega) (show z138 - x110 < ((32 : Nat) : Int) by omega) (by omega) (by decide) d_M_keyIn_119 (fun B152 H locs Y S w152 => ?_)
              refine lv_iinc (v := iI (z138 + 1)) (lv' := [(6, .int (iI (z138 + 1))), (0, .ref h), (3, .ref ((q 59))), (4, .long v105)]) X.1 X.2.1 d_M_keyIn_120 hl (k := 3) rfl ((iI_add _ _).trans (congrArg iI (by omega))) (by decide) rfl (fun ls hl => ?_)
              refine lv_goto (tgt := 95) X.1 X.2.1 d_M_keyIn_123 (by decide) ?_
              exact ih146 ((30000 - (z138 + 1)).toNat) (by omega) (z138 + 1) I137 J137 B152 G137 _ _ _ rfl (by omega) (by omega) (pG1_cg rfl rfl f139) (pG2_cg (w152.2 37 (by decide)) (w152.2 38 (by decide)) f140) (thF_cg (w152.2 37 (by decide)) (w152.2 38 (by decide)) f141) e142 e143 (by omega) Y S (lv_sub hl [1, 2, 3, 0] rfl)
        refine lv_istore (lv' := [(6, .int (iI x110)), (4, .long v105), (0, .ref h), (1, .int (iI a1)), (2, .int (iI a2)), (3, .ref ((q 59)))]) X.1 X.2.1 d_M_keyIn_93 hl (by decide) rfl (fun ls hl => ?_)
        exact J145 _ x110 I109 J109 B104 G109 _ _ _ rfl (by omega) (by omega) (show pG1 I109 from ⟨x110, y110, ex110, ey110, by omega, by omega, by omega, by omega⟩) (pG2_cg rfl rfl (pG2_cg rfl rfl (pG2_cg rfl rfl (pG2_cg rfl rfl g104_P2)))) (thF_cg rfl rfl (thF_cg rfl rfl (thF_cg rfl rfl (thF_cg rfl rfl (thF_tr (thF_cg rfl rfl (thF_cg rfl rfl thF_rf)) g104_TF (by decide)))))) ex110 ey110 (by omega) Y S (lv_sub hl [2, 5, 1, 0] rfl)
      · refine lv_iconst (v := iI 0) X.1 X.2.1 d_M_keyIn_87 (by decide) ?_
        exact m_reti hQQ X Y hr hlk ⟨S, 0, rfl, ⟨by omega, by omega, by omega, (show pG1 I109 from ⟨x110, y110, ex110, ey110, by omega, by omega, by omega, by omega⟩), (pG2_cg rfl rfl (pG2_cg rfl rfl (pG2_cg rfl rfl (pG2_cg rfl rfl g104_P2)))), (thF_cg rfl rfl (thF_cg rfl rfl (thF_cg rfl rfl (thF_cg rfl rfl (thF_tr (thF_cg rfl rfl (thF_cg rfl rfl thF_rf)) g104_TF (by decide))))))⟩⟩ d_M_keyIn_88
set_option maxHeartbeats 4000000 in
set_option maxRecDepth 100000 in
theorem r_M_mayOpen (l : Launch) (D : mD) (E : mE) (h : Nat) (q : Nat → Nat) (sz : Nat) (I : Nat → Int32) (J : Nat → Int64) (B : Nat → Nat → Int32) (G : Nat → Nat → Int64) (a1 : Int) (l_a1 : 0 ≤ a1) (u_a1 : a1 ≤ 11) (a2 : Int64) (hT : rT I B) : Met l y_M_mayOpen (k_M_mayOpen :: lw_tg) (mR 1 60) (va_Pc [.ref h, .int (iI a1), .long a2] (mPre D E h q (I, J, B, G) sz)) (va_Qi (rPi [] [] I B (fun (z : Int) (u : mS) => 0 ≤ z ∧ z ≤ 1 ∧ (z = 0 ∨ 0 ≤ a2.toInt ∧ a2.toInt ≤ 2000))) (mPost D E h q (mA E h q sz)) (mA E h q sz)) 0 0 (mA E h q sz) := by
  refine m_enter (by decide) rfl (Nat.le_of_ble_eq_true rfl) (fun p e s m below meth c ls AV QQ H locs hQQ X Y hZ hA hr hlk hml hl => ?_)
  have Y : mH D E (mA E h q sz) s.heap h q I J B G H locs := Y
  have S : rS [] [] I B I B := rS_rf hT
  have hl : lv_has ls 4 [(0, .ref h), (1, .int (iI a1)), (2, .long a2)] := hl
  refine lv_lload_n X.1 X.2.1 d_M_mayOpen_0 rfl (lv_at hl 2 rfl) ?_
  refine lv_aload_n X.1 X.2.1 d_M_mayOpen_1 rfl (lv_at hl 0 rfl) ?_
  refine m_get X Y 46 (by decide) lk_versions (gf_versions _ _ _) rfl d_M_mayOpen_2 ?_
  refine lv_iload_n X.1 X.2.1 d_M_mayOpen_5 rfl (lv_at hl 1 rfl) ?_
  refine r_iald X Y S (aw_versions _ _ _ _ _ _ _) rfl (by omega) (show a1 < ((12 : Nat) : Int) by omega) (by omega) d_M_mayOpen_6 (fun z101 q101 l101 u101 => ?_)
  refine z_i2lx X.1 X.2.1 ⟨by omega, by omega⟩ d_M_mayOpen_7 (fun v102 tv102 => ?_)
  refine z_lcmp X.1 X.2.1 d_M_mayOpen_8 (fun z103 l103 u103 x103 y103 => ?_)
  refine z_if_eq (tgt := 32) X.1 X.2.1 d_M_mayOpen_9 (by decide) ⟨by omega, by omega⟩ (fun h104 => ?_) (fun h104 => ?_)
  · refine lv_iconst (v := iI 1) X.1 X.2.1 d_M_mayOpen_32 (by decide) ?_
    refine lv_goto (tgt := 37) X.1 X.2.1 d_M_mayOpen_33 (by decide) ?_
    exact m_retz hQQ X Y hr hlk (iI_bool (by omega) (by omega)).1 ⟨S, 1, rfl, ⟨by omega, by omega, by omega⟩⟩ d_M_mayOpen_37
  · refine lv_lload_n X.1 X.2.1 d_M_mayOpen_12 rfl (lv_at hl 2 rfl) ?_
    refine lv_aload_n X.1 X.2.1 d_M_mayOpen_13 rfl (lv_at hl 0 rfl) ?_
    refine m_get X Y 46 (by decide) lk_versions (gf_versions _ _ _) rfl d_M_mayOpen_14 ?_
    refine lv_iload_n X.1 X.2.1 d_M_mayOpen_17 rfl (lv_at hl 1 rfl) ?_
    refine r_iald X Y S (aw_versions _ _ _ _ _ _ _) rfl (by omega) (show a1 < ((12 : Nat) : Int) by omega) (by omega) d_M_mayOpen_18 (fun z105 q105 l105 u105 => ?_)
    refine lv_iconst (v := iI 1) X.1 X.2.1 d_M_mayOpen_19 (by decide) ?_
    refine z_isub X.1 X.2.1 d_M_mayOpen_20 ?_
    refine z_i2lx X.1 X.2.1 ⟨by omega, by omega⟩ d_M_mayOpen_21 (fun v106 tv106 => ?_)
    refine z_lcmp X.1 X.2.1 d_M_mayOpen_22 (fun z107 l107 u107 x107 y107 => ?_)
    refine z_if_ne (tgt := 36) X.1 X.2.1 d_M_mayOpen_23 (by decide) ⟨by omega, by omega⟩ (fun h108 => ?_) (fun h108 => ?_)
    · refine lv_iconst (v := iI 0) X.1 X.2.1 d_M_mayOpen_36 (by decide) ?_
      exact m_retz hQQ X Y hr hlk (iI_bool (by omega) (by omega)).1 ⟨S, 0, rfl, ⟨by omega, by omega, by omega⟩⟩ d_M_mayOpen_37
    · refine lv_lload_n X.1 X.2.1 d_M_mayOpen_26 rfl (lv_at hl 2 rfl) ?_
      refine lv_lconst (v := 0) X.1 X.2.1 d_M_mayOpen_27 rfl ?_
      refine z_lcmp X.1 X.2.1 d_M_mayOpen_28 (fun z109 l109 u109 x109 y109 => ?_)
      have c109 : (0 : Int64).toInt = 0 := by decide
      refine z_if_le (tgt := 36) X.1 X.2.1 d_M_mayOpen_29 (by decide) ⟨by omega, by omega⟩ (fun h110 => ?_) (fun h110 => ?_)
      · refine lv_iconst (v := iI 0) X.1 X.2.1 d_M_mayOpen_36 (by decide) ?_
        exact m_retz hQQ X Y hr hlk (iI_bool (by omega) (by omega)).1 ⟨S, 0, rfl, ⟨by omega, by omega, by omega⟩⟩ d_M_mayOpen_37
      · refine lv_iconst (v := iI 1) X.1 X.2.1 d_M_mayOpen_32 (by decide) ?_
        refine lv_goto (tgt := 37) X.1 X.2.1 d_M_mayOpen_33 (by decide) ?_
        exact m_retz hQQ X Y hr hlk (iI_bool (by omega) (by omega)).1 ⟨S, 1, rfl, ⟨by omega, by omega, by omega⟩⟩ d_M_mayOpen_37
set_option maxHeartbeats 4000000 in
set_option maxRecDepth 100000 in
theorem r_M_mayOptions (l : Launch) (D : mD) (E : mE) (h : Nat) (q : Nat → Nat) (sz : Nat) (I : Nat → Int32) (J : Nat → Int64) (B : Nat → Nat → Int32) (G : Nat → Nat → Int64) (a1 : Int) (l_a1 : (-2147483648) ≤ a1) (u_a1 : a1 ≤ 2147483647) (hT : rT I B) (f_P1 : pG1 I) (f_P2 : pG2 (B 37) (B 38)) : Met l y_M_mayOptions (k_M_mayOptions :: lw_tg) (mR 3 111) (va_Pc [.ref h, .int (iI a1)] (mPre D E h q (I, J, B, G) sz)) (va_Qi (rPi [39, 40] [] I B (fun (z : Int) (u : mS) => 0 ≤ z ∧ z ≤ 1 ∧ pG1 u.1)) (mPost D E h q (mA E h q sz)) (mA E h q sz)) 0 0 (mA E h q sz) := by
  refine m_enter (by decide) rfl (Nat.le_of_ble_eq_true rfl) (fun p e s m below meth c ls AV QQ H locs hQQ X Y hZ hA hr hlk hml hl => ?_)
  have Y : mH D E (mA E h q sz) s.heap h q I J B G H locs := Y
  have S : rS [39, 40] [] I B I B := rS_rf hT
  have hl : lv_has ls 3 [(0, .ref h), (1, .int (iI a1))] := hl
  refine lv_iconst (v := iI 1) X.1 X.2.1 d_M_mayOptions_0 (by decide) ?_
  refine p_calli (As := [.int (iI 1)]) (rest := []) (n := 1) X Y hml hl.1 (r_M_bitOf l 1 (by omega) (by omega)) kl_M_bitOf ks_M_bitOf ki_M_bitOf ini_M hd_M_bitOf ⟨Nat.le_of_ble_eq_true rfl, Nat.le_of_ble_eq_true rfl⟩ rfl (Nat.le_of_ble_eq_true rfl) d_M_mayOptions_1 ⟨Nat.le_refl _, Nat.le_refl _⟩ (fun r101 H locs p101 Y => ?_)
  obtain ⟨z101, e101, p101⟩ := p101
  subst e101
  obtain ⟨l101, u101⟩ := p101
  refine lv_iconst (v := iI 3) X.1 X.2.1 d_M_mayOptions_4 (by decide) ?_
  refine p_calli (As := [.int (iI 3)]) (rest := [.int (iI z101)]) (n := 1) X Y hml hl.1 (r_M_bitOf l 3 (by omega) (by omega)) kl_M_bitOf ks_M_bitOf ki_M_bitOf ini_M hd_M_bitOf ⟨Nat.le_of_ble_eq_true rfl, Nat.le_of_ble_eq_true rfl⟩ rfl (Nat.le_of_ble_eq_true rfl) d_M_mayOptions_5 ⟨Nat.le_refl _, Nat.le_refl _⟩ (fun r102 H locs p102 Y => ?_)
  obtain ⟨z102, e102, p102⟩ := p102
  subst e102
  obtain ⟨l102, u102⟩ := p102
  refine lv_ior X.1 X.2.1 d_M_mayOptions_8 ?_
  refine t_u (fun z103 l103 u103 => ?_)
  refine lv_bipush (v := iI 8) X.1 X.2.1 d_M_mayOptions_9 (by decide) ?_
  refine p_calli (As := [.int (iI 8)]) (rest := [.int (iI z103)]) (n := 1) X Y hml hl.1 (r_M_bitOf l 8 (by omega) (by omega)) kl_M_bitOf ks_M_bitOf ki_M_bitOf ini_M hd_M_bitOf ⟨Nat.le_of_ble_eq_true rfl, Nat.le_of_ble_eq_true rfl⟩ rfl (Nat.le_of_ble_eq_true rfl) d_M_mayOptions_11 ⟨Nat.le_refl _, Nat.le_refl _⟩ (fun r104 H locs p104 Y => ?_)
  obtain ⟨z104, e104, p104⟩ := p104
  subst e104
  obtain ⟨l104, u104⟩ := p104
  refine lv_ior X.1 X.2.1 d_M_mayOptions_14 ?_
  refine t_u (fun z105 l105 u105 => ?_)
  refine lv_bipush (v := iI 15) X.1 X.2.1 d_M_mayOptions_15 (by decide) ?_
  refine p_calli (As := [.int (iI 15)]) (rest := [.int (iI z105)]) (n := 1) X Y hml hl.1 (r_M_bitOf l 15 (by omega) (by omega)) kl_M_bitOf ks_M_bitOf ki_M_bitOf ini_M hd_M_bitOf ⟨Nat.le_of_ble_eq_true rfl, Nat.le_of_ble_eq_true rfl⟩ rfl (Nat.le_of_ble_eq_true rfl) d_M_mayOptions_17 ⟨Nat.le_refl _, Nat.le_refl _⟩ (fun r106 H locs p106 Y => ?_)
  obtain ⟨z106, e106, p106⟩ := p106
  subst e106
  obtain ⟨l106, u106⟩ := p106
  refine lv_ior X.1 X.2.1 d_M_mayOptions_20 ?_
  refine t_u (fun z107 l107 u107 => ?_)
  refine lv_bipush (v := iI 26) X.1 X.2.1 d_M_mayOptions_21 (by decide) ?_
  refine p_calli (As := [.int (iI 26)]) (rest := [.int (iI z107)]) (n := 1) X Y hml hl.1 (r_M_bitOf l 26 (by omega) (by omega)) kl_M_bitOf ks_M_bitOf ki_M_bitOf ini_M hd_M_bitOf ⟨Nat.le_of_ble_eq_true rfl, Nat.le_of_ble_eq_true rfl⟩ rfl (Nat.le_of_ble_eq_true rfl) d_M_mayOptions_23 ⟨Nat.le_refl _, Nat.le_refl _⟩ (fun r108 H locs p108 Y => ?_)
  obtain ⟨z108, e108, p108⟩ := p108
  subst e108
  obtain ⟨l108, u108⟩ := p108
  refine lv_ior X.1 X.2.1 d_M_mayOptions_26 ?_
  refine t_u (fun z109 l109 u109 => ?_)
  refine lv_bipush (v := iI 27) X.1 X.2.1 d_M_mayOptions_27 (by decide) ?_
  refine p_calli (As := [.int (iI 27)]) (rest := [.int (iI z109)]) (n := 1) X Y hml hl.1 (r_M_bitOf l 27 (by omega) (by omega)) kl_M_bitOf ks_M_bitOf ki_M_bitOf ini_M hd_M_bitOf ⟨Nat.le_of_ble_eq_true rfl, Nat.le_of_ble_eq_true rfl⟩ rfl (Nat.le_of_ble_eq_true rfl) d_M_mayOptions_29 ⟨Nat.le_refl _, Nat.le_refl _⟩ (fun r110 H locs p110 Y => ?_)
  obtain ⟨z110, e110, p110⟩ := p110
  subst e110
  obtain ⟨l110, u110⟩ := p110
  refine lv_ior X.1 X.2.1 d_M_mayOptions_32 ?_
  refine t_u (fun z111 l111 u111 => ?_)
  refine lv_iload_n X.1 X.2.1 d_M_mayOptions_33 rfl (lv_at hl 1 rfl) ?_
  refine lv_ior X.1 X.2.1 d_M_mayOptions_34 ?_
  refine t_u (fun z112 l112 u112 => ?_)
  refine lv_istore_n (lv' := [(2, .int (iI z112)), (0, .ref h), (1, .int (iI a1))]) X.1 X.2.1 d_M_mayOptions_35 rfl hl (by decide) rfl (fun ls hl => ?_)
  refine lv_aload_n X.1 X.2.1 d_M_mayOptions_36 rfl (lv_at hl 1 rfl) ?_
  refine lv_iconst (v := iI 1) X.1 X.2.1 d_M_mayOptions_37 (by decide) ?_
  refine lv_iconst (v := iI 0) X.1 X.2.1 d_M_mayOptions_38 (by decide) ?_
  refine r_ni (m_run (As := [.int (iI 1), .int (iI 0)]) (rest := []) (n := 2) X Y hZ hA hml hl.1 (r_M_flagsAt l D E h q H.size I J B G 1 (by omega) (by omega) 0 (by omega) (by omega) S.1 f_P1 f_P2) kl_M_flagsAt ks_M_flagsAt kx_M_flagsAt ki_M_flagsAt ini_M hd_M_flagsAt ⟨Nat.le_of_ble_eq_true rfl, Nat.le_of_ble_eq_true rfl⟩ rfl (Nat.le_of_ble_eq_true rfl) d_M_mayOptions_39 ⟨Nat.le_refl _, Nat.le_refl _⟩) X Y hA S (by decide) (by decide) (fun z113 u H locs Y S s113 p113 => ?_)
  obtain ⟨I113, J113, B113, G113⟩ := u
  dsimp only at Y S s113 p113
  have b113 : B = B113 := (funext (fun j => s113.2.2 j (by simp))).symm
  subst b113
  obtain ⟨l113, u113, g113_P1⟩ := p113
  refine lv_iload_n X.1 X.2.1 d_M_mayOptions_42 rfl (lv_at hl 0 rfl) ?_
  refine lv_iconst (v := iI (-1)) X.1 X.2.1 d_M_mayOptions_43 (by decide) ?_
  refine lv_ixor X.1 X.2.1 d_M_mayOptions_44 ?_
  refine t_u (fun z114 l114 u114 => ?_)
  refine lv_iand X.1 X.2.1 d_M_mayOptions_45 ?_
  refine t_u (fun z116 l116 u116 => ?_)
  refine z_if_ne (tgt := 62) X.1 X.2.1 d_M_mayOptions_46 (by decide) ⟨by omega, by omega⟩ (fun h117 => ?_) (fun h117 => ?_)
  · refine lv_iconst (v := iI 0) X.1 X.2.1 d_M_mayOptions_62 (by decide) ?_
    exact m_retz hQQ X Y hr hlk (iI_bool (by omega) (by omega)).1 ⟨S, 0, rfl, ⟨by omega, by omega, g113_P1⟩⟩ d_M_mayOptions_63
  · refine lv_aload_n X.1 X.2.1 d_M_mayOptions_49 rfl (lv_at hl 1 rfl) ?_
    refine lv_iconst (v := iI 1) X.1 X.2.1 d_M_mayOptions_50 (by decide) ?_
    refine lv_iconst (v := iI 0) X.1 X.2.1 d_M_mayOptions_51 (by decide) ?_
    refine r_ni (m_run (As := [.int (iI 1), .int (iI 0)]) (rest := []) (n := 2) X Y hZ hA hml hl.1 (r_M_hasMoreFlags l D E h q H.size I113 J113 B G113 1 (by omega) (by omega) 0 (by omega) (by omega) S.1 g113_P1 (pG2_cg rfl rfl f_P2)) kl_M_hasMoreFlags ks_M_hasMoreFlags kx_M_hasMoreFlags ki_M_hasMoreFlags ini_M hd_M_hasMoreFlags ⟨Nat.le_of_ble_eq_true rfl, Nat.le_of_ble_eq_true rfl⟩ rfl (Nat.le_of_ble_eq_true rfl) d_M_mayOptions_52 ⟨Nat.le_refl _, Nat.le_refl _⟩) X Y hA S (by decide) (by decide) (fun z118 u H locs Y S s118 p118 => ?_)
    obtain ⟨I118, J118, B118, G118⟩ := u
    dsimp only at Y S s118 p118
    have b118 : B = B118 := (funext (fun j => s118.2.2 j (by simp))).symm
    subst b118
    obtain ⟨l118, u118, g118_P1⟩ := p118
    refine z_if_ne (tgt := 62) X.1 X.2.1 d_M_mayOptions_55 (by decide) ⟨by omega, by omega⟩ (fun h119 => ?_) (fun h119 => ?_)
    · refine lv_iconst (v := iI 0) X.1 X.2.1 d_M_mayOptions_62 (by decide) ?_
      exact m_retz hQQ X Y hr hlk (iI_bool (by omega) (by omega)).1 ⟨S, 0, rfl, ⟨by omega, by omega, g118_P1⟩⟩ d_M_mayOptions_63
    · refine lv_iconst (v := iI 1) X.1 X.2.1 d_M_mayOptions_58 (by decide) ?_
      refine lv_goto (tgt := 63) X.1 X.2.1 d_M_mayOptions_59 (by decide) ?_
      exact m_retz hQQ X Y hr hlk (iI_bool (by omega) (by omega)).1 ⟨S, 1, rfl, ⟨by omega, by omega, g118_P1⟩⟩ d_M_mayOptions_63
set_option maxHeartbeats 4000000 in
set_option maxRecDepth 100000 in
theorem r_M_seen (l : Launch) (D : mD) (E : mE) (h : Nat) (q : Nat → Nat) (sz : Nat) (I : Nat → Int32) (J : Nat → Int64) (B : Nat → Nat → Int32) (G : Nat → Nat → Int64) (a1 : Int) (l_a1 : 0 ≤ a1) (u_a1 : a1 ≤ 12) (a2 : Int) (l_a2 : (-1) ≤ a2) (u_a2 : a2 ≤ 30000) (a3 : Int) (l_a3 : (-1) ≤ a3) (u_a3 : a3 ≤ 30000) (a4 : Int64) (a5 : Int) (l_a5 : (-2147483648) ≤ a5) (u_a5 : a5 ≤ 2147483647) (hT : rT I B) (hnp : NP (B 0) a2 a3) (hns : a3 - npI (B 0) a2 a3 ≤ 44) (f_P1 : pG1 I) (f_P2 : pG2 (B 37) (B 38)) (q0 : 0 ≤ a2 ∨ a3 < a2 + 2) (q1 : a3 - a2 ≤ 4200) : Met l y_M_seen (k_M_seen :: lw_tg) (mR 44 2014) (va_Pc [.ref h, .int (iI a1), .int (iI a2), .int (iI a3), .long a4, .int (iI a5)] (mPre D E h q (I, J, B, G) sz)) (va_Qi (rPi [39, 40] [37, 38, 61, 62, 63, 64] I B (fun (z : Int) (u : mS) => 0 ≤ z ∧ z ≤ 34 ∧ pG1 u.1 ∧ pG2 (u.2.2.1 37) (u.2.2.1 38) ∧ thF [11] (B 37) (B 38) (u.2.2.1 37) (u.2.2.1 38))) (mPost D E h q (mA E h q sz)) (mA E h q sz)) 0 0 (mA E h q sz) := by
  refine m_enter (by decide) rfl (Nat.le_of_ble_eq_true rfl) (fun p e s m below meth c ls AV QQ H locs hQQ X Y hZ hA hr hlk hml hl => ?_)
  have Y : mH D E (mA E h q sz) s.heap h q I J B G H locs := Y
  have S : rS [39, 40] [37, 38, 61, 62, 63, 64] I B I B := rS_rf hT
  have hl : lv_has ls 14 [(0, .ref h), (1, .int (iI a1)), (2, .int (iI a2)), (3, .int (iI a3)), (4, .long a4), (6, .int (iI a5))] := hl
  refine lv_aload_n X.1 X.2.1 d_M_seen_0 rfl (lv_at hl 0 rfl) ?_
  refine lv_iload_n X.1 X.2.1 d_M_seen_1 rfl (lv_at hl 2 rfl) ?_
  refine lv_iload_n X.1 X.2.1 d_M_seen_2 rfl (lv_at hl 3 rfl) ?_
  refine r_ni (m_run (As := [.int (iI a2), .int (iI a3)]) (rest := []) (n := 2) X Y hZ hA hml hl.1 (r_M_partsAt l D E h q H.size I J B G a2 (by omega) (by omega) a3 (by omega) (by omega) S.1 f_P1 f_P2 (by omega) (by omega)) kl_M_partsAt ks_M_partsAt kx_M_partsAt ki_M_partsAt ini_M hd_M_partsAt ⟨Nat.le_of_ble_eq_true rfl, Nat.le_of_ble_eq_true rfl⟩ rfl (Nat.le_of_ble_eq_true rfl) d_M_seen_3 ⟨Nat.le_refl _, Nat.le_refl _⟩) X Y hA S (by decide) (by decide) (fun z101 u H locs Y S s101 p101 => ?_)
  obtain ⟨I101, J101, B101, G101⟩ := u
  dsimp only at Y S s101 p101
  obtain ⟨l101, u101, x101, st101, g101_P1, g101_P2, g101_TF⟩ := p101
  have sn := st101 hnp
  refine lv_istore (lv' := [(7, .int (iI z101)), (0, .ref h), (1, .int (iI a1)), (2, .int (iI a2)), (3, .int (iI a3)), (4, .long a4), (6, .int (iI a5))]) X.1 X.2.1 d_M_seen_6 hl (by decide) rfl (fun ls hl => ?_)
  refine lv_aload_n X.1 X.2.1 d_M_seen_8 rfl (lv_at hl 1 rfl) ?_
  refine lv_bipush (v := iI 11) X.1 X.2.1 d_M_seen_9 (by decide) ?_
  refine lv_iconst (v := iI 1) X.1 X.2.1 d_M_seen_11 (by decide) ?_
  refine r_ni (m_run (As := [.int (iI 11), .int (iI 1)]) (rest := []) (n := 2) X Y hZ hA hml hl.1 (r_M_b l D E h q H.size I101 J101 B101 G101 11 (by omega) (by omega) 1 (by omega) (by omega) S.1) kl_M_b ks_M_b kx_M_b ki_M_b ini_M hd_M_b ⟨Nat.le_of_ble_eq_true rfl, Nat.le_of_ble_eq_true rfl⟩ rfl (Nat.le_of_ble_eq_true rfl) d_M_seen_12 ⟨Nat.le_refl _, Nat.le_refl _⟩) X Y hA S (by decide) (by decide) (fun z102 u H locs Y S s102 p102 => ?_)
  obtain ⟨I102, J102, B102, G102⟩ := u
  dsimp only at Y S s102 p102
  have i102 : I101 = I102 := (funext (fun j => s102.2.1 j (by simp))).symm
  subst i102
  have b102 : B101 = B102 := (funext (fun j => s102.2.2 j (by simp))).symm
  subst b102
  obtain ⟨l102, u102, x102⟩ := p102
  have p103 : pr z101 z102 := by rw [x101, x102]; exact (pG2_cg rfl rfl g101_P2) (16 * 11 + 1 : Int).toNat (by omega)
  unfold pr at p103
  refine lv_istore (lv' := [(8, .int (iI z102)), (7, .int (iI z101)), (0, .ref h), (1, .int (iI a1)), (2, .int (iI a2)), (3, .int (iI a3)), (4, .long a4), (6, .int (iI a5))]) X.1 X.2.1 d_M_seen_15 hl (by decide) rfl (fun ls hl => ?_)
  refine lv_iconst (v := iI 0) X.1 X.2.1 d_M_seen_17 (by decide) ?_
  refine lv_istore (lv' := [(9, .int (iI 0)), (8, .int (iI z102)), (7, .int (iI z101)), (0, .ref h), (1, .int (iI a1)), (2, .int (iI a2)), (3, .int (iI a3)), (4, .long a4), (6, .int (iI a5))]) X.1 X.2.1 d_M_seen_18 hl (by decide) rfl (fun ls hl => ?_)
  refine lv_iconst (v := iI 0) X.1 X.2.1 d_M_seen_20 (by decide) ?_
  have J111 : ∀ (n113 : Nat) (z105 : Int) (z106 : Int) (I104 : Nat → Int32) (J104 : Nat → Int64) (B104 : Nat → Nat → Int32) (G104 : Nat → Nat → Int64) (H : Heap) (locs : List Loc) (ls : Array Slot), (32 - z106).toNat = n113 → (0 ≤ z105) → (z105 ≤ 32) → (0 ≤ z106) → (z106 ≤ 32) → (pG1 I104) → (pG2 (B104 37) (B104 38)) → (thF [11] (B 37) (B 38) (B104 37) (B104 38)) → (z105 ≤ z106) → mH D E (mA E h q sz) s.heap h q I104 J104 B104 G104 H locs → rS [39, 40] [37, 38, 61, 62, 63, 64] I B I104 B104 → lv_has ls 14 [(0, .ref h), (1, .int (iI a1)), (4, .long a4), (6, .int (iI a5)), (7, .int (iI z101)), (8, .int (iI z102)), (9, .int (iI z105)), (10, .int (iI z106))] → W p l e (mR 44 2014) s m AV below meth c H locs 0 0 QQ (F0 m 23 ls []) := by
    intro n113
    induction n113 using Nat.strongRecOn with
    | ind n113 ih112 =>
      intro z105 z106 I104 J104 B104 G104 H locs ls hm114 l105 u105 l106 u106 f107 f108 f109 i110 Y S hl
      refine lv_iload X.1 X.2.1 d_M_seen_23 (lv_at hl 7 rfl) ?_
      refine lv_aload_n X.1 X.2.1 d_M_seen_25 rfl (lv_at hl 0 rfl) ?_
      refine m_get X Y 64 (by decide) lk_seenMany (gf_seenMany _ _ _) rfl d_M_seen_26 ?_
      refine lv_iload_n X.1 X.2.1 d_M_seen_29 rfl (lv_at hl 1 rfl) ?_
      refine r_iald X Y S (aw_seenMany _ _ _ _ _ _ _) rfl (by omega) (show a1 < ((13 : Nat) : Int) by omega) (by omega) d_M_seen_30 (fun z115 q115 l115 u115 => ?_)
      refine z_icmp_ge (tgt := 168) X.1 X.2.1 d_M_seen_31 (by decide) ⟨by omega, by omega⟩ ⟨by omega, by omega⟩ (fun h116 => ?_) (fun h116 => ?_)
      · refine lv_aload_n X.1 X.2.1 d_M_seen_168 rfl (lv_at hl 0 rfl) ?_
        refine m_get X Y 64 (by decide) lk_seenMany (gf_seenMany _ _ _) rfl d_M_seen_169 ?_
        refine lv_iload_n X.1 X.2.1 d_M_seen_172 rfl (lv_at hl 1 rfl) ?_
        refine lv_iload X.1 X.2.1 d_M_seen_173 (lv_at hl 6 rfl) ?_
        refine r_iast X Y S (aw_seenMany _ _ _ _ _ _ _) (sw_seenMany _ _ _ _ _ _ _) rfl ⟨(show (0 : Int) ≤ z105 by omega), (show z105 ≤ (32 : Int) by omega)⟩ ⟨by omega, by omega⟩ (by omega) (show a1 < ((13 : Nat) : Int) by omega) (by omega) (by decide) d_M_seen_175 (fun B117 H locs Y S w117 => ?_)
        refine lv_iconst (v := iI 0) X.1 X.2.1 d_M_seen_176 (by decide) ?_
        have J119 : ∀ (n121 : Nat) (z118 : Int) (H : Heap) (locs : List Loc) (ls : Array Slot), (32 - z118).toNat = n121 → (0 ≤ z118) → (z118 ≤ 32) → mH D E (mA E h q sz) s.heap h q I104 J104 B117 G104 H locs → rS [39, 40] [37, 38, 61, 62, 63, 64] I B I104 B117 → lv_has ls 14 [(0, .ref h), (1, .int (iI a1)), (4, .long a4), (6, .int (iI a5)), (7, .int (iI z101)), (8, .int (iI z102)), (9, .int (iI z105)), (10, .int (iI z118))] → W p l e (mR 44 2014) s m AV below meth c H locs 0 0 QQ (F0 m 179 ls []) := by
          intro n121
          induction n121 using Nat.strongRecOn with
          | ind n121 ih120 =>
            intro z118 H locs ls hm122 l118 u118 Y S hl
            refine lv_iload X.1 X.2.1 d_M_seen_179 (lv_at hl 7 rfl) ?_
            refine lv_iload X.1 X.2.1 d_M_seen_181 (lv_at hl 6 rfl) ?_
            refine z_icmp_ge (tgt := 313) X.1 X.2.1 d_M_seen_183 (by decide) ⟨by omega, by omega⟩ ⟨by omega, by omega⟩ (fun h123 => ?_) (fun h123 => ?_)
            · refine lv_iload X.1 X.2.1 d_M_seen_313 (lv_at hl 6 rfl) ?_
              refine lv_aload_n X.1 X.2.1 d_M_seen_315 rfl (lv_at hl 0 rfl) ?_
              refine r_geti (k := 57) X Y S (by decide) lk_most (gf_most _ _ _) rfl rfl d_M_seen_316 (fun z124 e124 l124 u124 => ?_)
              refine z_icmp_lt (tgt := 325) X.1 X.2.1 d_M_seen_319 (by decide) ⟨by omega, by omega⟩ ⟨by omega, by omega⟩ (fun h125 => ?_) (fun h125 => ?_)
              · refine lv_bipush (v := iI 32) X.1 X.2.1 d_M_seen_325 (by decide) ?_
                refine lv_iload_n X.1 X.2.1 d_M_seen_327 rfl (lv_at hl 1 rfl) ?_
                refine z_imul X.1 X.2.1 d_M_seen_328 ?_
                refine lv_iload X.1 X.2.1 d_M_seen_329 (lv_at hl 6 rfl) ?_
                refine z_iadd X.1 X.2.1 d_M_seen_331 ?_
                refine lv_istore (lv' := [(10, .int (iI ((32 * a1) + z105))), (0, .ref h), (1, .int (iI a1)), (4, .long a4), (6, .int (iI a5)), (7, .int (iI z101)), (8, .int (iI z102)), (9, .int (iI z105))]) X.1 X.2.1 d_M_seen_332 hl (by decide) rfl (fun ls hl => ?_)
                refine lv_aload_n X.1 X.2.1 d_M_seen_334 rfl (lv_at hl 1 rfl) ?_
                refine m_get X Y 64 (by decide) lk_seenMany (gf_seenMany _ _ _) rfl d_M_seen_335 ?_
                refine lv_iload_n X.1 X.2.1 d_M_seen_338 rfl (lv_at hl 2 rfl) ?_
                refine lv_dup2_11 X.1 X.2.1 d_M_seen_339 rfl rfl ?_
                refine r_iald X Y S (aw_seenMany _ _ _ _ _ _ _) rfl (by omega) (show a1 < ((13 : Nat) : Int) by omega) (by omega) d_M_seen_340 (fun z126 q126 l126 u126 => ?_)
                have rs126 : z126 = z105 := by rw [q126, w117.1, pk_us]; exact iI_toInt ⟨by omega, by omega⟩
                have rs126 : z126 = z105 := by rw [q126, w117.1, pk_us]; exact iI_toInt ⟨by omega, by omega⟩
                refine lv_iconst (v := iI 1) X.1 X.2.1 d_M_seen_341 (by decide) ?_
                refine z_iadd X.1 X.2.1 d_M_seen_342 ?_
                refine r_iast X Y S (aw_seenMany _ _ _ _ _ _ _) (sw_seenMany _ _ _ _ _ _ _) rfl ⟨(show (0 : Int) ≤ z126 + 1 by omega), (show z126 + 1 ≤ (32 : Int) by omega)⟩ ⟨by omega, by omega⟩ (by omega) (show a1 < ((13 : Nat) : Int) by omega) (by omega) (by decide) d_M_seen_343 (fun B127 H locs Y S w127 => ?_)
                refine lv_aload_n X.1 X.2.1 d_M_seen_344 rfl (lv_at hl 1 rfl) ?_
                refine m_get X Y 62 (by decide) lk_seenSizes (gf_seenSizes _ _ _) rfl d_M_seen_345 ?_
                refine lv_iload X.1 X.2.1 d_M_seen_348 (lv_at hl 0 rfl) ?_
                refine lv_iload X.1 X.2.1 d_M_seen_350 (lv_at hl 6 rfl) ?_
                refine lv_iload X.1 X.2.1 d_M_seen_352 (lv_at hl 5 rfl) ?_
                refine z_isub X.1 X.2.1 d_M_seen_354 ?_
                refine r_iast X Y S (aw_seenSizes _ _ _ _ _ _ _) (sw_seenSizes _ _ _ _ _ _ _) rfl ⟨(show ((-60000) : Int) ≤ z102 - z101 by omega), (show z102 - z101 ≤ (60000 : Int) by omega)⟩ ⟨by omega, by omega⟩ (by omega) (show (32 * a1) + z105 < ((416 : Nat) : Int) by omega) (by omega) (by decide) d_M_seen_355 (fun B128 H locs Y S w128 => ?_)
                refine lv_aload_n X.1 X.2.1 d_M_seen_356 rfl (lv_at hl 1 rfl) ?_
                refine m_get X Y 65 (by decide) lk_seenTimes (gf_seenTimes _ _ _) rfl d_M_seen_357 ?_
                refine lv_iload X.1 X.2.1 d_M_seen_360 (lv_at hl 0 rfl) ?_
                refine lv_lload X.1 X.2.1 d_M_seen_362 (lv_at hl 3 rfl) ?_
                refine r_last X Y (aw_seenTimes _ _ _ _ _ _ _) (sw_seenTimes _ _ _ _ _ _ _) (by omega) (show (32 * a1) + z105 < ((416 : Nat) : Int) by omega) (by omega) d_M_seen_364 (fun G129 H locs Y => ?_)
                refine lv_aload_n X.1 X.2.1 d_M_seen_365 rfl (lv_at hl 1 rfl) ?_
                refine m_get X Y 63 (by decide) lk_seenMicros (gf_seenMicros _ _ _) rfl d_M_seen_366 ?_
                refine lv_iload X.1 X.2.1 d_M_seen_369 (lv_at hl 0 rfl) ?_
                refine lv_iload X.1 X.2.1 d_M_seen_371 (lv_at hl 4 rfl) ?_
                refine r_iast X Y S (aw_seenMicros _ _ _ _ _ _ _) (sw_seenMicros _ _ _ _ _ _ _) rfl ⟨(show ((-2147483648) : Int) ≤ a5 by omega), (show a5 ≤ (2147483647 : Int) by omega)⟩ ⟨by omega, by omega⟩ (by omega) (show (32 * a1) + z105 < ((416 : Nat) : Int) by omega) (by omega) (by decide) d_M_seen_373 (fun B130 H locs Y S w130 => ?_)
                refine lv_iconst (v := iI 0) X.1 X.2.1 d_M_seen_374 (by decide) ?_
                have J137 : ∀ (n139 : Nat) (z132 : Int) (I131 : Nat → Int32) (J131 : Nat → Int64) (B131 : Nat → Nat → Int32) (G131 : Nat → Nat → Int64) (H : Heap) (locs : List Loc) (ls : Array Slot), (30001 - z132).toNat = n139 → (0 ≤ z132) → (z132 ≤ 30001) → (pG1 I131) → (pG2 (B131 37) (B131 38)) → (thF [11] (B 37) (B 38) (B131 37) (B131 38)) → (I131 57 = iI z124) → mH D E (mA E h q sz) s.heap h q I131 J131 B131 G131 H locs → rS [39, 40] [37, 38, 61, 62, 63, 64] I B I131 B131 → lv_has ls 14 [(0, .ref h), (7, .int (iI z101)), (8, .int (iI z102)), (10, .int (iI ((32 * a1) + z105))), (11, .int (iI z132))] → W p l e (mR 44 2014) s m AV below meth c H locs 0 0 QQ (F0 m 377 ls []) := by
                  intro n139
                  induction n139 using Nat.strongRecOn with
                  | ind n139 ih138 =>
                    intro z132 I131 J131 B131 G131 H locs ls hm140 l132 u132 f133 f134 f135 e136 Y S hl
                    refine lv_iload X.1 X.2.1 d_M_seen_377 (lv_at hl 4 rfl) ?_
                    refine lv_iload X.1 X.2.1 d_M_seen_379 (lv_at hl 2 rfl) ?_
                    refine lv_iload X.1 X.2.1 d_M_seen_381 (lv_at hl 1 rfl) ?_
                    refine z_isub X.1 X.2.1 d_M_seen_383 ?_
                    refine z_icmp_ge (tgt := 416) X.1 X.2.1 d_M_seen_384 (by decide) ⟨by omega, by omega⟩ ⟨by omega, by omega⟩ (fun h141 => ?_) (fun h141 => ?_)
                    · refine lv_iconst (v := iI 0) X.1 X.2.1 d_M_seen_416 (by decide) ?_
                      exact m_reti hQQ X Y hr hlk ⟨S, 0, rfl, ⟨by omega, by omega, f133, f134, f135⟩⟩ d_M_seen_417
                    · refine lv_aload_n X.1 X.2.1 d_M_seen_387 rfl (lv_at hl 0 rfl) ?_
                      refine m_get X Y 61 (by decide) lk_seenNames (gf_seenNames _ _ _) rfl d_M_seen_388 ?_
                      refine lv_bipush (v := iI 44) X.1 X.2.1 d_M_seen_391 (by decide) ?_
                      refine lv_iload X.1 X.2.1 d_M_seen_393 (lv_at hl 3 rfl) ?_
                      refine z_imul X.1 X.2.1 d_M_seen_395 ?_
                      refine lv_iload X.1 X.2.1 d_M_seen_396 (lv_at hl 4 rfl) ?_
                      refine z_iadd X.1 X.2.1 d_M_seen_398 ?_
                      refine lv_aload_n X.1 X.2.1 d_M_seen_399 rfl (lv_at hl 0 rfl) ?_
                      refine m_get X Y 0 (by decide) lk_mem (gf_mem _ _ _) rfl d_M_seen_400 ?_
                      refine lv_iload X.1 X.2.1 d_M_seen_403 (lv_at hl 1 rfl) ?_
                      refine lv_iload X.1 X.2.1 d_M_seen_405 (lv_at hl 4 rfl) ?_
                      refine z_iadd X.1 X.2.1 d_M_seen_407 ?_
                      refine r_bald X Y S (aw_mem _ _ _ _ _ _ _) rfl (by omega) (show z101 + z132 < ((60000 : Nat) : Int) by omega) (by omega) d_M_seen_408 (fun z142 q142 l142 u142 => ?_)
                      refine r_bast X Y S (aw_seenNames _ _ _ _ _ _ _) (sw_seenNames _ _ _ _ _ _ _) rfl (by omega) (show (44 * ((32 * a1) + z105)) + z132 < ((18304 : Nat) : Int) by omega) (by omega) (by decide) d_M_seen_409 (fun B143 H locs Y S w143 => ?_)
                      refine lv_iinc (v := iI (z132 + 1)) (lv' := [(11, .int (iI (z132 + 1))), (0, .ref h), (7, .int (iI z101)), (8, .int (iI z102)), (10, .int (iI ((32 * a1) + z105)))]) X.1 X.2.1 d_M_seen_410 hl (k := 4) rfl ((iI_add _ _).trans (congrArg iI (by omega))) (by decide) rfl (fun ls hl => ?_)
                      refine lv_goto (tgt := 377) X.1 X.2.1 d_M_seen_413 (by decide) ?_
                      exact ih138 ((30001 - (z132 + 1)).toNat) (by omega) (z132 + 1) I131 J131 B143 G131 _ _ _ rfl (by omega) (by omega) (pG1_cg rfl rfl f133) (pG2_cg (w143.2 37 (by decide)) (w143.2 38 (by decide)) f134) (thF_cg (w143.2 37 (by decide)) (w143.2 38 (by decide)) f135) e136 Y S (lv_sub hl [1, 2, 3, 4, 0] rfl)
                refine lv_istore (lv' := [(11, .int (iI 0)), (10, .int (iI ((32 * a1) + z105))), (0, .ref h), (1, .int (iI a1)), (4, .long a4), (6, .int (iI a5)), (7, .int (iI z101)), (8, .int (iI z102)), (9, .int (iI z105))]) X.1 X.2.1 d_M_seen_375 hl (by decide) rfl (fun ls hl => ?_)
                exact J137 _ 0 I104 J104 B130 G129 _ _ _ rfl (by omega) (by omega) (pG1_cg rfl rfl (pG1_cg rfl rfl (pG1_cg rfl rfl (pG1_cg rfl rfl f107)))) (pG2_cg (w130.2 37 (by decide)) (w130.2 38 (by decide)) (pG2_cg (w128.2 37 (by decide)) (w128.2 38 (by decide)) (pG2_cg (w127.2 37 (by decide)) (w127.2 38 (by decide)) (pG2_cg (w117.2 37 (by decide)) (w117.2 38 (by decide)) f108)))) (thF_cg (w130.2 37 (by decide)) (w130.2 38 (by decide)) (thF_cg (w128.2 37 (by decide)) (w128.2 38 (by decide)) (thF_cg (w127.2 37 (by decide)) (w127.2 38 (by decide)) (thF_cg (w117.2 37 (by decide)) (w117.2 38 (by decide)) f109)))) e124 Y S (lv_sub hl [2, 6, 7, 1, 0] rfl)
              · refine lv_bipush (v := iI 29) X.1 X.2.1 d_M_seen_322 (by decide) ?_
                exact m_reti hQQ X Y hr hlk ⟨S, 29, rfl, ⟨by omega, by omega, (pG1_cg rfl rfl f107), (pG2_cg (w117.2 37 (by decide)) (w117.2 38 (by decide)) f108), (thF_cg (w117.2 37 (by decide)) (w117.2 38 (by decide)) f109)⟩⟩ d_M_seen_324
            · refine lv_bipush (v := iI 32) X.1 X.2.1 d_M_seen_186 (by decide) ?_
              refine lv_iload_n X.1 X.2.1 d_M_seen_188 rfl (lv_at hl 1 rfl) ?_
              refine z_imul X.1 X.2.1 d_M_seen_189 ?_
              refine lv_iload X.1 X.2.1 d_M_seen_190 (lv_at hl 7 rfl) ?_
              refine z_iadd X.1 X.2.1 d_M_seen_192 ?_
              refine lv_istore (lv' := [(11, .int (iI ((32 * a1) + z118))), (0, .ref h), (1, .int (iI a1)), (4, .long a4), (6, .int (iI a5)), (7, .int (iI z101)), (8, .int (iI z102)), (9, .int (iI z105)), (10, .int (iI z118))]) X.1 X.2.1 d_M_seen_193 hl (by decide) rfl (fun ls hl => ?_)
              refine lv_aload_n X.1 X.2.1 d_M_seen_195 rfl (lv_at hl 1 rfl) ?_
              refine m_get X Y 65 (by decide) lk_seenTimes (gf_seenTimes _ _ _) rfl d_M_seen_196 ?_
              refine lv_iload X.1 X.2.1 d_M_seen_199 (lv_at hl 0 rfl) ?_
              refine r_lald X Y (aw_seenTimes _ _ _ _ _ _ _) (by omega) (show (32 * a1) + z118 < ((416 : Nat) : Int) by omega) (by omega) d_M_seen_201 (fun v144 => ?_)
              refine lv_lload X.1 X.2.1 d_M_seen_202 (lv_at hl 3 rfl) ?_
              refine W.lcmp X.1 X.2.1 d_M_seen_204 ?_
              refine t_u (fun z145 l145 u145 => ?_)
              refine z_if_ne (tgt := 239) X.1 X.2.1 d_M_seen_205 (by decide) ⟨by omega, by omega⟩ (fun h146 => ?_) (fun h146 => ?_)
              · refine lv_iconst (v := iI 0) X.1 X.2.1 d_M_seen_239 (by decide) ?_
                refine lv_istore (lv' := [(12, .int (iI 0)), (11, .int (iI ((32 * a1) + z118))), (0, .ref h), (1, .int (iI a1)), (4, .long a4), (6, .int (iI a5)), (7, .int (iI z101)), (8, .int (iI z102)), (9, .int (iI z105)), (10, .int (iI z118))]) X.1 X.2.1 d_M_seen_240 hl (by decide) rfl (fun ls hl => ?_)
                refine lv_iconst (v := iI 0) X.1 X.2.1 d_M_seen_242 (by decide) ?_
                have J148 : ∀ (z147 : Int) (H : Heap) (locs : List Loc) (ls : Array Slot), (0 ≤ z147) → (z147 ≤ 0) → mH D E (mA E h q sz) s.heap h q I104 J104 B117 G104 H locs → rS [39, 40] [37, 38, 61, 62, 63, 64] I B I104 B117 → lv_has ls 14 [(0, .ref h), (1, .int (iI a1)), (4, .long a4), (6, .int (iI a5)), (7, .int (iI z101)), (8, .int (iI z102)), (9, .int (iI z105)), (10, .int (iI z118)), (11, .int (iI ((32 * a1) + z118))), (12, .int (iI 0)), (13, .int (iI z147))] → W p l e (mR 44 2014) s m AV below meth c H locs 0 0 QQ (F0 m 245 ls []) := by
                  intro z147 H locs ls l147 u147 Y S hl
                  refine lv_iload X.1 X.2.1 d_M_seen_245 (lv_at hl 10 rfl) ?_
                  refine lv_iload X.1 X.2.1 d_M_seen_247 (lv_at hl 5 rfl) ?_
                  refine lv_iload X.1 X.2.1 d_M_seen_249 (lv_at hl 4 rfl) ?_
                  refine z_isub X.1 X.2.1 d_M_seen_251 ?_
                  refine z_icmp_ge (tgt := 299) X.1 X.2.1 d_M_seen_252 (by decide) ⟨by omega, by omega⟩ ⟨by omega, by omega⟩ (fun h152 => ?_) (fun h152 => ?_)
                  · refine lv_iload X.1 X.2.1 d_M_seen_299 (lv_at hl 9 rfl) ?_
                    refine z_if_eq (tgt := 307) X.1 X.2.1 d_M_seen_301 (by decide) ⟨by omega, by omega⟩ (fun h153 => ?_) (fun h153 => False.elim (by omega))
                    · refine lv_iinc (v := iI (z118 + 1)) (lv' := [(10, .int (iI (z118 + 1))), (0, .ref h), (1, .int (iI a1)), (4, .long a4), (6, .int (iI a5)), (7, .int (iI z101)), (8, .int (iI z102)), (9, .int (iI z105)), (11, .int (iI ((32 * a1) + z118))), (12, .int (iI 0)), (13, .int (iI z147))]) X.1 X.2.1 d_M_seen_307 hl (k := 7) rfl ((iI_add _ _).trans (congrArg iI (by omega))) (by decide) rfl (fun ls hl => ?_)
                      refine lv_goto (tgt := 179) X.1 X.2.1 d_M_seen_310 (by decide) ?_
                      exact ih120 ((32 - (z118 + 1)).toNat) (by omega) (z118 + 1) _ _ _ rfl (by omega) (by omega) Y S (lv_sub hl [1, 2, 3, 4, 5, 6, 7, 0] rfl)
                  · refine lv_iload X.1 X.2.1 d_M_seen_255 (lv_at hl 9 rfl) ?_
                    refine z_if_eq (tgt := 299) X.1 X.2.1 d_M_seen_257 (by decide) ⟨by omega, by omega⟩ (fun h154 => ?_) (fun h154 => False.elim (by omega))
                    · refine lv_iload X.1 X.2.1 d_M_seen_299 (lv_at hl 9 rfl) ?_
                      refine z_if_eq (tgt := 307) X.1 X.2.1 d_M_seen_301 (by decide) ⟨by omega, by omega⟩ (fun h155 => ?_) (fun h155 => False.elim (by omega))
                      · refine lv_iinc (v := iI (z118 + 1)) (lv' := [(10, .int (iI (z118 + 1))), (0, .ref h), (1, .int (iI a1)), (4, .long a4), (6, .int (iI a5)), (7, .int (iI z101)), (8, .int (iI z102)), (9, .int (iI z105)), (11, .int (iI ((32 * a1) + z118))), (12, .int (iI 0)), (13, .int (iI z147))]) X.1 X.2.1 d_M_seen_307 hl (k := 7) rfl ((iI_add _ _).trans (congrArg iI (by omega))) (by decide) rfl (fun ls hl => ?_)
                        refine lv_goto (tgt := 179) X.1 X.2.1 d_M_seen_310 (by decide) ?_
                        exact ih120 ((32 - (z118 + 1)).toNat) (by omega) (z118 + 1) _ _ _ rfl (by omega) (by omega) Y S (lv_sub hl [1, 2, 3, 4, 5, 6, 7, 0] rfl)
                refine lv_istore (lv' := [(13, .int (iI 0)), (12, .int (iI 0)), (11, .int (iI ((32 * a1) + z118))), (0, .ref h), (1, .int (iI a1)), (4, .long a4), (6, .int (iI a5)), (7, .int (iI z101)), (8, .int (iI z102)), (9, .int (iI z105)), (10, .int (iI z118))]) X.1 X.2.1 d_M_seen_243 hl (by decide) rfl (fun ls hl => ?_)
                exact J148 0 _ _ _ (by omega) (by omega) Y S (lv_sub hl [3, 4, 5, 6, 7, 8, 9, 10, 2, 1, 0] rfl)
              · refine lv_aload_n X.1 X.2.1 d_M_seen_208 rfl (lv_at hl 1 rfl) ?_
                refine m_get X Y 63 (by decide) lk_seenMicros (gf_seenMicros _ _ _) rfl d_M_seen_209 ?_
                refine lv_iload X.1 X.2.1 d_M_seen_212 (lv_at hl 0 rfl) ?_
                refine r_iald X Y S (aw_seenMicros _ _ _ _ _ _ _) rfl (by omega) (show (32 * a1) + z118 < ((416 : Nat) : Int) by omega) (by omega) d_M_seen_214 (fun z156 q156 l156 u156 => ?_)
                refine lv_iload X.1 X.2.1 d_M_seen_215 (lv_at hl 4 rfl) ?_
                refine z_icmp_ne (tgt := 239) X.1 X.2.1 d_M_seen_217 (by decide) ⟨by omega, by omega⟩ ⟨by omega, by omega⟩ (fun h157 => ?_) (fun h157 => ?_)
                · refine lv_iconst (v := iI 0) X.1 X.2.1 d_M_seen_239 (by decide) ?_
                  refine lv_istore (lv' := [(12, .int (iI 0)), (11, .int (iI ((32 * a1) + z118))), (0, .ref h), (1, .int (iI a1)), (4, .long a4), (6, .int (iI a5)), (7, .int (iI z101)), (8, .int (iI z102)), (9, .int (iI z105)), (10, .int (iI z118))]) X.1 X.2.1 d_M_seen_240 hl (by decide) rfl (fun ls hl => ?_)
                  refine lv_iconst (v := iI 0) X.1 X.2.1 d_M_seen_242 (by decide) ?_
                  have J159 : ∀ (z158 : Int) (H : Heap) (locs : List Loc) (ls : Array Slot), (0 ≤ z158) → (z158 ≤ 0) → mH D E (mA E h q sz) s.heap h q I104 J104 B117 G104 H locs → rS [39, 40] [37, 38, 61, 62, 63, 64] I B I104 B117 → lv_has ls 14 [(0, .ref h), (1, .int (iI a1)), (4, .long a4), (6, .int (iI a5)), (7, .int (iI z101)), (8, .int (iI z102)), (9, .int (iI z105)), (10, .int (iI z118)), (11, .int (iI ((32 * a1) + z118))), (12, .int (iI 0)), (13, .int (iI z158))] → W p l e (mR 44 2014) s m AV below meth c H locs 0 0 QQ (F0 m 245 ls []) := by
                    intro z158 H locs ls l158 u158 Y S hl
                    refine lv_iload X.1 X.2.1 d_M_seen_245 (lv_at hl 10 rfl) ?_
                    refine lv_iload X.1 X.2.1 d_M_seen_247 (lv_at hl 5 rfl) ?_
                    refine lv_iload X.1 X.2.1 d_M_seen_249 (lv_at hl 4 rfl) ?_
                    refine z_isub X.1 X.2.1 d_M_seen_251 ?_
                    refine z_icmp_ge (tgt := 299) X.1 X.2.1 d_M_seen_252 (by decide) ⟨by omega, by omega⟩ ⟨by omega, by omega⟩ (fun h163 => ?_) (fun h163 => ?_)
                    · refine lv_iload X.1 X.2.1 d_M_seen_299 (lv_at hl 9 rfl) ?_
                      refine z_if_eq (tgt := 307) X.1 X.2.1 d_M_seen_301 (by decide) ⟨by omega, by omega⟩ (fun h164 => ?_) (fun h164 => False.elim (by omega))
                      · refine lv_iinc (v := iI (z118 + 1)) (lv' := [(10, .int (iI (z118 + 1))), (0, .ref h), (1, .int (iI a1)), (4, .long a4), (6, .int (iI a5)), (7, .int (iI z101)), (8, .int (iI z102)), (9, .int (iI z105)), (11, .int (iI ((32 * a1) + z118))), (12, .int (iI 0)), (13, .int (iI z158))]) X.1 X.2.1 d_M_seen_307 hl (k := 7) rfl ((iI_add _ _).trans (congrArg iI (by omega))) (by decide) rfl (fun ls hl => ?_)
                        refine lv_goto (tgt := 179) X.1 X.2.1 d_M_seen_310 (by decide) ?_
                        exact ih120 ((32 - (z118 + 1)).toNat) (by omega) (z118 + 1) _ _ _ rfl (by omega) (by omega) Y S (lv_sub hl [1, 2, 3, 4, 5, 6, 7, 0] rfl)
                    · refine lv_iload X.1 X.2.1 d_M_seen_255 (lv_at hl 9 rfl) ?_
                      refine z_if_eq (tgt := 299) X.1 X.2.1 d_M_seen_257 (by decide) ⟨by omega, by omega⟩ (fun h165 => ?_) (fun h165 => False.elim (by omega))
                      · refine lv_iload X.1 X.2.1 d_M_seen_299 (lv_at hl 9 rfl) ?_
                        refine z_if_eq (tgt := 307) X.1 X.2.1 d_M_seen_301 (by decide) ⟨by omega, by omega⟩ (fun h166 => ?_) (fun h166 => False.elim (by omega))
                        · refine lv_iinc (v := iI (z118 + 1)) (lv' := [(10, .int (iI (z118 + 1))), (0, .ref h), (1, .int (iI a1)), (4, .long a4), (6, .int (iI a5)), (7, .int (iI z101)), (8, .int (iI z102)), (9, .int (iI z105)), (11, .int (iI ((32 * a1) + z118))), (12, .int (iI 0)), (13, .int (iI z158))]) X.1 X.2.1 d_M_seen_307 hl (k := 7) rfl ((iI_add _ _).trans (congrArg iI (by omega))) (by decide) rfl (fun ls hl => ?_)
                          refine lv_goto (tgt := 179) X.1 X.2.1 d_M_seen_310 (by decide) ?_
                          exact ih120 ((32 - (z118 + 1)).toNat) (by omega) (z118 + 1) _ _ _ rfl (by omega) (by omega) Y S (lv_sub hl [1, 2, 3, 4, 5, 6, 7, 0] rfl)
                  refine lv_istore (lv' := [(13, .int (iI 0)), (12, .int (iI 0)), (11, .int (iI ((32 * a1) + z118))), (0, .ref h), (1, .int (iI a1)), (4, .long a4), (6, .int (iI a5)), (7, .int (iI z101)), (8, .int (iI z102)), (9, .int (iI z105)), (10, .int (iI z118))]) X.1 X.2.1 d_M_seen_243 hl (by decide) rfl (fun ls hl => ?_)
                  exact J159 0 _ _ _ (by omega) (by omega) Y S (lv_sub hl [3, 4, 5, 6, 7, 8, 9, 10, 2, 1, 0] rfl)
                · refine lv_aload_n X.1 X.2.1 d_M_seen_220 rfl (lv_at hl 1 rfl) ?_
                  refine m_get X Y 62 (by decide) lk_seenSizes (gf_seenSizes _ _ _) rfl d_M_seen_221 ?_
                  refine lv_iload X.1 X.2.1 d_M_seen_224 (lv_at hl 0 rfl) ?_
                  refine r_iald X Y S (aw_seenSizes _ _ _ _ _ _ _) rfl (by omega) (show (32 * a1) + z118 < ((416 : Nat) : Int) by omega) (by omega) d_M_seen_226 (fun z167 q167 l167 u167 => ?_)
                  refine lv_iload X.1 X.2.1 d_M_seen_227 (lv_at hl 6 rfl) ?_
                  refine lv_iload X.1 X.2.1 d_M_seen_229 (lv_at hl 5 rfl) ?_
                  refine z_isub X.1 X.2.1 d_M_seen_231 ?_
                  refine z_icmp_ne (tgt := 239) X.1 X.2.1 d_M_seen_232 (by decide) ⟨by omega, by omega⟩ ⟨by omega, by omega⟩ (fun h168 => ?_) (fun h168 => ?_)
                  · refine lv_iconst (v := iI 0) X.1 X.2.1 d_M_seen_239 (by decide) ?_
                    refine lv_istore (lv' := [(12, .int (iI 0)), (11, .int (iI ((32 * a1) + z118))), (0, .ref h), (1, .int (iI a1)), (4, .long a4), (6, .int (iI a5)), (7, .int (iI z101)), (8, .int (iI z102)), (9, .int (iI z105)), (10, .int (iI z118))]) X.1 X.2.1 d_M_seen_240 hl (by decide) rfl (fun ls hl => ?_)
                    refine lv_iconst (v := iI 0) X.1 X.2.1 d_M_seen_242 (by decide) ?_
                    have J170 : ∀ (z169 : Int) (H : Heap) (locs : List Loc) (ls : Array Slot), (0 ≤ z169) → (z169 ≤ 0) → mH D E (mA E h q sz) s.heap h q I104 J104 B117 G104 H locs → rS [39, 40] [37, 38, 61, 62, 63, 64] I B I104 B117 → lv_has ls 14 [(0, .ref h), (1, .int (iI a1)), (4, .long a4), (6, .int (iI a5)), (7, .int (iI z101)), (8, .int (iI z102)), (9, .int (iI z105)), (10, .int (iI z118)), (11, .int (iI ((32 * a1) + z118))), (12, .int (iI 0)), (13, .int (iI z169))] → W p l e (mR 44 2014) s m AV below meth c H locs 0 0 QQ (F0 m 245 ls []) := by
                      intro z169 H locs ls l169 u169 Y S hl
                      refine lv_iload X.1 X.2.1 d_M_seen_245 (lv_at hl 10 rfl) ?_
                      refine lv_iload X.1 X.2.1 d_M_seen_247 (lv_at hl 5 rfl) ?_
                      refine lv_iload X.1 X.2.1 d_M_seen_249 (lv_at hl 4 rfl) ?_
                      refine z_isub X.1 X.2.1 d_M_seen_251 ?_
                      refine z_icmp_ge (tgt := 299) X.1 X.2.1 d_M_seen_252 (by decide) ⟨by omega, by omega⟩ ⟨by omega, by omega⟩ (fun h174 => ?_) (fun h174 => ?_)
                      · refine lv_iload X.1 X.2.1 d_M_seen_299 (lv_at hl 9 rfl) ?_
                        refine z_if_eq (tgt := 307) X.1 X.2.1 d_M_seen_301 (by decide) ⟨by omega, by omega⟩ (fun h175 => ?_) (fun h175 => False.elim (by omega))
                        · refine lv_iinc (v := iI (z118 + 1)) (lv' := [(10, .int (iI (z118 + 1))), (0, .ref h), (1, .int (iI a1)), (4, .long a4), (6, .int (iI a5)), (7, .int (iI z101)), (8, .int (iI z102)), (9, .int (iI z105)), (11, .int (iI ((32 * a1) + z118))), (12, .int (iI 0)), (13, .int (iI z169))]) X.1 X.2.1 d_M_seen_307 hl (k := 7) rfl ((iI_add _ _).trans (congrArg iI (by omega))) (by decide) rfl (fun ls hl => ?_)
                          refine lv_goto (tgt := 179) X.1 X.2.1 d_M_seen_310 (by decide) ?_
                          exact ih120 ((32 - (z118 + 1)).toNat) (by omega) (z118 + 1) _ _ _ rfl (by omega) (by omega) Y S (lv_sub hl [1, 2, 3, 4, 5, 6, 7, 0] rfl)
                      · refine lv_iload X.1 X.2.1 d_M_seen_255 (lv_at hl 9 rfl) ?_
                        refine z_if_eq (tgt := 299) X.1 X.2.1 d_M_seen_257 (by decide) ⟨by omega, by omega⟩ (fun h176 => ?_) (fun h176 => False.elim (by omega))
                        · refine lv_iload X.1 X.2.1 d_M_seen_299 (lv_at hl 9 rfl) ?_
                          refine z_if_eq (tgt := 307) X.1 X.2.1 d_M_seen_301 (by decide) ⟨by omega, by omega⟩ (fun h177 => ?_) (fun h177 => False.elim (by omega))
                          · refine lv_iinc (v := iI (z118 + 1)) (lv' := [(10, .int (iI (z118 + 1))), (0, .ref h), (1, .int (iI a1)), (4, .long a4), (6, .int (iI a5)), (7, .int (iI z101)), (8, .int (iI z102)), (9, .int (iI z105)), (11, .int (iI ((32 * a1) + z118))), (12, .int (iI 0)), (13, .int (iI z169))]) X.1 X.2.1 d_M_seen_307 hl (k := 7) rfl ((iI_add _ _).trans (congrArg iI (by omega))) (by decide) rfl (fun ls hl => ?_)
                            refine lv_goto (tgt := 179) X.1 X.2.1 d_M_seen_310 (by decide) ?_
                            exact ih120 ((32 - (z118 + 1)).toNat) (by omega) (z118 + 1) _ _ _ rfl (by omega) (by omega) Y S (lv_sub hl [1, 2, 3, 4, 5, 6, 7, 0] rfl)
                    refine lv_istore (lv' := [(13, .int (iI 0)), (12, .int (iI 0)), (11, .int (iI ((32 * a1) + z118))), (0, .ref h), (1, .int (iI a1)), (4, .long a4), (6, .int (iI a5)), (7, .int (iI z101)), (8, .int (iI z102)), (9, .int (iI z105)), (10, .int (iI z118))]) X.1 X.2.1 d_M_seen_243 hl (by decide) rfl (fun ls hl => ?_)
                    exact J170 0 _ _ _ (by omega) (by omega) Y S (lv_sub hl [3, 4, 5, 6, 7, 8, 9, 10, 2, 1, 0] rfl)
                  · refine lv_iconst (v := iI 1) X.1 X.2.1 d_M_seen_235 (by decide) ?_
                    refine lv_goto (tgt := 240) X.1 X.2.1 d_M_seen_236 (by decide) ?_
                    refine lv_istore (lv' := [(12, .int (iI 1)), (11, .int (iI ((32 * a1) + z118))), (0, .ref h), (1, .int (iI a1)), (4, .long a4), (6, .int (iI a5)), (7, .int (iI z101)), (8, .int (iI z102)), (9, .int (iI z105)), (10, .int (iI z118))]) X.1 X.2.1 d_M_seen_240 hl (by decide) rfl (fun ls hl => ?_)
                    refine lv_iconst (v := iI 0) X.1 X.2.1 d_M_seen_242 (by decide) ?_
                    have J180 : ∀ (n182 : Nat) (z178 : Int) (z179 : Int) (H : Heap) (locs : List Loc) (ls : Array Slot), (30001 - z179).toNat = n182 → (0 ≤ z178) → (z178 ≤ 1) → (0 ≤ z179) → (z179 ≤ 30001) → mH D E (mA E h q sz) s.heap h q I104 J104 B117 G104 H locs → rS [39, 40] [37, 38, 61, 62, 63, 64] I B I104 B117 → lv_has ls 14 [(0, .ref h), (1, .int (iI a1)), (4, .long a4), (6, .int (iI a5)), (7, .int (iI z101)), (8, .int (iI z102)), (9, .int (iI z105)), (10, .int (iI z118)), (11, .int (iI ((32 * a1) + z118))), (12, .int (iI z178)), (13, .int (iI z179))] → W p l e (mR 44 2014) s m AV below meth c H locs 0 0 QQ (F0 m 245 ls []) := by
                      intro n182
                      induction n182 using Nat.strongRecOn with
                      | ind n182 ih181 =>
                        intro z178 z179 H locs ls hm183 l178 u178 l179 u179 Y S hl
                        refine lv_iload X.1 X.2.1 d_M_seen_245 (lv_at hl 10 rfl) ?_
                        refine lv_iload X.1 X.2.1 d_M_seen_247 (lv_at hl 5 rfl) ?_
                        refine lv_iload X.1 X.2.1 d_M_seen_249 (lv_at hl 4 rfl) ?_
                        refine z_isub X.1 X.2.1 d_M_seen_251 ?_
                        refine z_icmp_ge (tgt := 299) X.1 X.2.1 d_M_seen_252 (by decide) ⟨by omega, by omega⟩ ⟨by omega, by omega⟩ (fun h184 => ?_) (fun h184 => ?_)
                        · refine lv_iload X.1 X.2.1 d_M_seen_299 (lv_at hl 9 rfl) ?_
                          refine z_if_eq (tgt := 307) X.1 X.2.1 d_M_seen_301 (by decide) ⟨by omega, by omega⟩ (fun h185 => ?_) (fun h185 => ?_)
                          · refine lv_iinc (v := iI (z118 + 1)) (lv' := [(10, .int (iI (z118 + 1))), (0, .ref h), (1, .int (iI a1)), (4, .long a4), (6, .int (iI a5)), (7, .int (iI z101)), (8, .int (iI z102)), (9, .int (iI z105)), (11, .int (iI ((32 * a1) + z118))), (12, .int (iI z178)), (13, .int (iI z179))]) X.1 X.2.1 d_M_seen_307 hl (k := 7) rfl ((iI_add _ _).trans (congrArg iI (by omega))) (by decide) rfl (fun ls hl => ?_)
                            refine lv_goto (tgt := 179) X.1 X.2.1 d_M_seen_310 (by decide) ?_
                            exact ih120 ((32 - (z118 + 1)).toNat) (by omega) (z118 + 1) _ _ _ rfl (by omega) (by omega) Y S (lv_sub hl [1, 2, 3, 4, 5, 6, 7, 0] rfl)
                          · refine lv_bipush (v := iI 34) X.1 X.2.1 d_M_seen_304 (by decide) ?_
                            exact m_reti hQQ X Y hr hlk ⟨S, 34, rfl, ⟨by omega, by omega, (pG1_cg rfl rfl f107), (pG2_cg (w117.2 37 (by decide)) (w117.2 38 (by decide)) f108), (thF_cg (w117.2 37 (by decide)) (w117.2 38 (by decide)) f109)⟩⟩ d_M_seen_306
                        · refine lv_iload X.1 X.2.1 d_M_seen_255 (lv_at hl 9 rfl) ?_
                          refine z_if_eq (tgt := 299) X.1 X.2.1 d_M_seen_257 (by decide) ⟨by omega, by omega⟩ (fun h186 => ?_) (fun h186 => ?_)
                          · refine lv_iload X.1 X.2.1 d_M_seen_299 (lv_at hl 9 rfl) ?_
                            refine z_if_eq (tgt := 307) X.1 X.2.1 d_M_seen_301 (by decide) ⟨by omega, by omega⟩ (fun h187 => ?_) (fun h187 => False.elim (by omega))
                            · refine lv_iinc (v := iI (z118 + 1)) (lv' := [(10, .int (iI (z118 + 1))), (0, .ref h), (1, .int (iI a1)), (4, .long a4), (6, .int (iI a5)), (7, .int (iI z101)), (8, .int (iI z102)), (9, .int (iI z105)), (11, .int (iI ((32 * a1) + z118))), (12, .int (iI z178)), (13, .int (iI z179))]) X.1 X.2.1 d_M_seen_307 hl (k := 7) rfl ((iI_add _ _).trans (congrArg iI (by omega))) (by decide) rfl (fun ls hl => ?_)
                              refine lv_goto (tgt := 179) X.1 X.2.1 d_M_seen_310 (by decide) ?_
                              exact ih120 ((32 - (z118 + 1)).toNat) (by omega) (z118 + 1) _ _ _ rfl (by omega) (by omega) Y S (lv_sub hl [1, 2, 3, 4, 5, 6, 7, 0] rfl)
                          · refine lv_aload_n X.1 X.2.1 d_M_seen_260 rfl (lv_at hl 0 rfl) ?_
                            refine m_get X Y 61 (by decide) lk_seenNames (gf_seenNames _ _ _) rfl d_M_seen_261 ?_
                            refine lv_bipush (v := iI 44) X.1 X.2.1 d_M_seen_264 (by decide) ?_
                            refine lv_iload X.1 X.2.1 d_M_seen_266 (lv_at hl 8 rfl) ?_
                            refine z_imul X.1 X.2.1 d_M_seen_268 ?_
                            refine lv_iload X.1 X.2.1 d_M_seen_269 (lv_at hl 10 rfl) ?_
                            refine z_iadd X.1 X.2.1 d_M_seen_271 ?_
                            refine r_bald X Y S (aw_seenNames _ _ _ _ _ _ _) rfl (by omega) (show (44 * ((32 * a1) + z118)) + z179 < ((18304 : Nat) : Int) by omega) (by omega) d_M_seen_272 (fun z188 q188 l188 u188 => ?_)
                            refine lv_aload_n X.1 X.2.1 d_M_seen_273 rfl (lv_at hl 0 rfl) ?_
                            refine m_get X Y 0 (by decide) lk_mem (gf_mem _ _ _) rfl d_M_seen_274 ?_
                            refine lv_iload X.1 X.2.1 d_M_seen_277 (lv_at hl 4 rfl) ?_
                            refine lv_iload X.1 X.2.1 d_M_seen_279 (lv_at hl 10 rfl) ?_
                            refine z_iadd X.1 X.2.1 d_M_seen_281 ?_
                            refine r_bald X Y S (aw_mem _ _ _ _ _ _ _) rfl (by omega) (show z101 + z179 < ((60000 : Nat) : Int) by omega) (by omega) d_M_seen_282 (fun z189 q189 l189 u189 => ?_)
                            refine z_icmp_ne (tgt := 290) X.1 X.2.1 d_M_seen_283 (by decide) ⟨by omega, by omega⟩ ⟨by omega, by omega⟩ (fun h190 => ?_) (fun h190 => ?_)
                            · refine lv_iconst (v := iI 0) X.1 X.2.1 d_M_seen_290 (by decide) ?_
                              refine lv_istore (lv' := [(12, .int (iI 0)), (0, .ref h), (1, .int (iI a1)), (4, .long a4), (6, .int (iI a5)), (7, .int (iI z101)), (8, .int (iI z102)), (9, .int (iI z105)), (10, .int (iI z118)), (11, .int (iI ((32 * a1) + z118))), (13, .int (iI z179))]) X.1 X.2.1 d_M_seen_291 hl (by decide) rfl (fun ls hl => ?_)
                              refine lv_iinc (v := iI (z179 + 1)) (lv' := [(13, .int (iI (z179 + 1))), (12, .int (iI 0)), (0, .ref h), (1, .int (iI a1)), (4, .long a4), (6, .int (iI a5)), (7, .int (iI z101)), (8, .int (iI z102)), (9, .int (iI z105)), (10, .int (iI z118)), (11, .int (iI ((32 * a1) + z118)))]) X.1 X.2.1 d_M_seen_293 hl (k := 10) rfl ((iI_add _ _).trans (congrArg iI (by omega))) (by decide) rfl (fun ls hl => ?_)
                              refine lv_goto (tgt := 245) X.1 X.2.1 d_M_seen_296 (by decide) ?_
                              exact ih181 ((30001 - (z179 + 1)).toNat) (by omega) 0 (z179 + 1) _ _ _ rfl (by omega) (by omega) (by omega) (by omega) Y S (lv_sub hl [2, 3, 4, 5, 6, 7, 8, 9, 10, 1, 0] rfl)
                            · refine lv_iconst (v := iI 1) X.1 X.2.1 d_M_seen_286 (by decide) ?_
                              refine lv_goto (tgt := 291) X.1 X.2.1 d_M_seen_287 (by decide) ?_
                              refine lv_istore (lv' := [(12, .int (iI 1)), (0, .ref h), (1, .int (iI a1)), (4, .long a4), (6, .int (iI a5)), (7, .int (iI z101)), (8, .int (iI z102)), (9, .int (iI z105)), (10, .int (iI z118)), (11, .int (iI ((32 * a1) + z118))), (13, .int (iI z179))]) X.1 X.2.1 d_M_seen_291 hl (by decide) rfl (fun ls hl => ?_)
                              refine lv_iinc (v := iI (z179 + 1)) (lv' := [(13, .int (iI (z179 + 1))), (12, .int (iI 1)), (0, .ref h), (1, .int (iI a1)), (4, .long a4), (6, .int (iI a5)), (7, .int (iI z101)), (8, .int (iI z102)), (9, .int (iI z105)), (10, .int (iI z118)), (11, .int (iI ((32 * a1) + z118)))]) X.1 X.2.1 d_M_seen_293 hl (k := 10) rfl ((iI_add _ _).trans (congrArg iI (by omega))) (by decide) rfl (fun ls hl => ?_)
                              refine lv_goto (tgt := 245) X.1 X.2.1 d_M_seen_296 (by decide) ?_
                              exact ih181 ((30001 - (z179 + 1)).toNat) (by omega) 1 (z179 + 1) _ _ _ rfl (by omega) (by omega) (by omega) (by omega) Y S (lv_sub hl [2, 3, 4, 5, 6, 7, 8, 9, 10, 1, 0] rfl)
                    refine lv_istore (lv' := [(13, .int (iI 0)), (12, .int (iI 1)), (11, .int (iI ((32 * a1) + z118))), (0, .ref h), (1, .int (iI a1)), (4, .long a4), (6, .int (iI a5)), (7, .int (iI z101)), (8, .int (iI z102)), (9, .int (iI z105)), (10, .int (iI z118))]) X.1 X.2.1 d_M_seen_243 hl (by decide) rfl (fun ls hl => ?_)
                    exact J180 _ 1 0 _ _ _ rfl (by omega) (by omega) (by omega) (by omega) Y S (lv_sub hl [3, 4, 5, 6, 7, 8, 9, 10, 2, 1, 0] rfl)
        refine lv_istore (lv' := [(10, .int (iI 0)), (0, .ref h), (1, .int (iI a1)), (4, .long a4), (6, .int (iI a5)), (7, .int (iI z101)), (8, .int (iI z102)), (9, .int (iI z105))]) X.1 X.2.1 d_M_seen_177 hl (by decide) rfl (fun ls hl => ?_)
        exact J119 _ 0 _ _ _ rfl (by omega) (by omega) Y S (lv_sub hl [1, 2, 3, 4, 5, 6, 7, 0] rfl)
      · refine lv_bipush (v := iI 32) X.1 X.2.1 d_M_seen_34 (by decide) ?_
        refine lv_iload_n X.1 X.2.1 d_M_seen_36 rfl (lv_at hl 1 rfl) ?_
        refine z_imul X.1 X.2.1 d_M_seen_37 ?_
        refine lv_iload X.1 X.2.1 d_M_seen_38 (lv_at hl 7 rfl) ?_
        refine z_iadd X.1 X.2.1 d_M_seen_40 ?_
        refine lv_istore (lv' := [(11, .int (iI ((32 * a1) + z106))), (0, .ref h), (1, .int (iI a1)), (4, .long a4), (6, .int (iI a5)), (7, .int (iI z101)), (8, .int (iI z102)), (9, .int (iI z105)), (10, .int (iI z106))]) X.1 X.2.1 d_M_seen_41 hl (by decide) rfl (fun ls hl => ?_)
        refine lv_aload_n X.1 X.2.1 d_M_seen_43 rfl (lv_at hl 1 rfl) ?_
        refine m_get X Y 65 (by decide) lk_seenTimes (gf_seenTimes _ _ _) rfl d_M_seen_44 ?_
        refine lv_iload X.1 X.2.1 d_M_seen_47 (lv_at hl 0 rfl) ?_
        refine r_lald X Y (aw_seenTimes _ _ _ _ _ _ _) (by omega) (show (32 * a1) + z106 < ((416 : Nat) : Int) by omega) (by omega) d_M_seen_49 (fun v191 => ?_)
        refine lv_aload_n X.1 X.2.1 d_M_seen_50 rfl (lv_at hl 1 rfl) ?_
        refine r_geti (k := 4) X Y S (by decide) lk_now (gf_now _ _ _) rfl rfl d_M_seen_51 (fun z192 e192 l192 u192 => ?_)
        refine lv_i2l X.1 X.2.1 d_M_seen_54 rfl ?_
        refine t_anyl (fun v193 => ?_)
        refine lv_ldc2 (v := (300)) X.1 X.2.1 X.2.2.2.1 (X.2.2.1 _ cl_M_646) d_M_seen_55 ?_
        refine lv_lsub X.1 X.2.1 d_M_seen_58 ?_
        refine t_anyl (fun v194 => ?_)
        refine W.lcmp X.1 X.2.1 d_M_seen_59 ?_
        refine t_u (fun z195 l195 u195 => ?_)
        refine z_if_ge (tgt := 66) X.1 X.2.1 d_M_seen_60 (by decide) ⟨by omega, by omega⟩ (fun h196 => ?_) (fun h196 => ?_)
        · refine lv_bipush (v := iI 32) X.1 X.2.1 d_M_seen_66 (by decide) ?_
          refine lv_iload_n X.1 X.2.1 d_M_seen_68 rfl (lv_at hl 2 rfl) ?_
          refine z_imul X.1 X.2.1 d_M_seen_69 ?_
          refine lv_iload X.1 X.2.1 d_M_seen_70 (lv_at hl 7 rfl) ?_
          refine z_iadd X.1 X.2.1 d_M_seen_72 ?_
          refine lv_istore (lv' := [(12, .int (iI ((32 * a1) + z105))), (11, .int (iI ((32 * a1) + z106))), (0, .ref h), (1, .int (iI a1)), (4, .long a4), (6, .int (iI a5)), (7, .int (iI z101)), (8, .int (iI z102)), (9, .int (iI z105)), (10, .int (iI z106))]) X.1 X.2.1 d_M_seen_73 hl (by decide) rfl (fun ls hl => ?_)
          refine lv_iconst (v := iI 0) X.1 X.2.1 d_M_seen_75 (by decide) ?_
          have J202 : ∀ (n204 : Nat) (z198 : Int) (I197 : Nat → Int32) (J197 : Nat → Int64) (B197 : Nat → Nat → Int32) (G197 : Nat → Nat → Int64) (H : Heap) (locs : List Loc) (ls : Array Slot), (44 - z198).toNat = n204 → (0 ≤ z198) → (z198 ≤ 44) → (pG1 I197) → (pG2 (B197 37) (B197 38)) → (thF [11] (B 37) (B 38) (B197 37) (B197 38)) → mH D E (mA E h q sz) s.heap h q I197 J197 B197 G197 H locs → rS [39, 40] [37, 38, 61, 62, 63, 64] I B I197 B197 → lv_has ls 14 [(0, .ref h), (1, .int (iI a1)), (4, .long a4), (6, .int (iI a5)), (7, .int (iI z101)), (8, .int (iI z102)), (9, .int (iI z105)), (10, .int (iI z106)), (11, .int (iI ((32 * a1) + z106))), (12, .int (iI ((32 * a1) + z105))), (13, .int (iI z198))] → W p l e (mR 44 2014) s m AV below meth c H locs 0 0 QQ (F0 m 78 ls []) := by
            intro n204
            induction n204 using Nat.strongRecOn with
            | ind n204 ih203 =>
              intro z198 I197 J197 B197 G197 H locs ls hm205 l198 u198 f199 f200 f201 Y S hl
              refine lv_iload X.1 X.2.1 d_M_seen_78 (lv_at hl 10 rfl) ?_
              refine lv_bipush (v := iI 44) X.1 X.2.1 d_M_seen_80 (by decide) ?_
              refine z_icmp_ge (tgt := 117) X.1 X.2.1 d_M_seen_82 (by decide) ⟨by omega, by omega⟩ ⟨by omega, by omega⟩ (fun h206 => ?_) (fun h206 => ?_)
              · refine lv_aload_n X.1 X.2.1 d_M_seen_117 rfl (lv_at hl 0 rfl) ?_
                refine m_get X Y 62 (by decide) lk_seenSizes (gf_seenSizes _ _ _) rfl d_M_seen_118 ?_
                refine lv_iload X.1 X.2.1 d_M_seen_121 (lv_at hl 9 rfl) ?_
                refine lv_aload_n X.1 X.2.1 d_M_seen_123 rfl (lv_at hl 0 rfl) ?_
                refine m_get X Y 62 (by decide) lk_seenSizes (gf_seenSizes _ _ _) rfl d_M_seen_124 ?_
                refine lv_iload X.1 X.2.1 d_M_seen_127 (lv_at hl 8 rfl) ?_
                refine r_iald X Y S (aw_seenSizes _ _ _ _ _ _ _) rfl (by omega) (show (32 * a1) + z106 < ((416 : Nat) : Int) by omega) (by omega) d_M_seen_129 (fun z207 q207 l207 u207 => ?_)
                refine r_iast X Y S (aw_seenSizes _ _ _ _ _ _ _) (sw_seenSizes _ _ _ _ _ _ _) rfl ⟨(show ((-60000) : Int) ≤ z207 by omega), (show z207 ≤ (60000 : Int) by omega)⟩ ⟨by omega, by omega⟩ (by omega) (show (32 * a1) + z105 < ((416 : Nat) : Int) by omega) (by omega) (by decide) d_M_seen_130 (fun B208 H locs Y S w208 => ?_)
                refine lv_aload_n X.1 X.2.1 d_M_seen_131 rfl (lv_at hl 0 rfl) ?_
                refine m_get X Y 65 (by decide) lk_seenTimes (gf_seenTimes _ _ _) rfl d_M_seen_132 ?_
                refine lv_iload X.1 X.2.1 d_M_seen_135 (lv_at hl 9 rfl) ?_
                refine lv_aload_n X.1 X.2.1 d_M_seen_137 rfl (lv_at hl 0 rfl) ?_
                refine m_get X Y 65 (by decide) lk_seenTimes (gf_seenTimes _ _ _) rfl d_M_seen_138 ?_
                refine lv_iload X.1 X.2.1 d_M_seen_141 (lv_at hl 8 rfl) ?_
                refine r_lald X Y (aw_seenTimes _ _ _ _ _ _ _) (by omega) (show (32 * a1) + z106 < ((416 : Nat) : Int) by omega) (by omega) d_M_seen_143 (fun v209 => ?_)
                refine r_last X Y (aw_seenTimes _ _ _ _ _ _ _) (sw_seenTimes _ _ _ _ _ _ _) (by omega) (show (32 * a1) + z105 < ((416 : Nat) : Int) by omega) (by omega) d_M_seen_144 (fun G210 H locs Y => ?_)
                refine lv_aload_n X.1 X.2.1 d_M_seen_145 rfl (lv_at hl 0 rfl) ?_
                refine m_get X Y 63 (by decide) lk_seenMicros (gf_seenMicros _ _ _) rfl d_M_seen_146 ?_
                refine lv_iload X.1 X.2.1 d_M_seen_149 (lv_at hl 9 rfl) ?_
                refine lv_aload_n X.1 X.2.1 d_M_seen_151 rfl (lv_at hl 0 rfl) ?_
                refine m_get X Y 63 (by decide) lk_seenMicros (gf_seenMicros _ _ _) rfl d_M_seen_152 ?_
                refine lv_iload X.1 X.2.1 d_M_seen_155 (lv_at hl 8 rfl) ?_
                refine r_iald X Y S (aw_seenMicros _ _ _ _ _ _ _) rfl (by omega) (show (32 * a1) + z106 < ((416 : Nat) : Int) by omega) (by omega) d_M_seen_157 (fun z211 q211 l211 u211 => ?_)
                refine r_iast X Y S (aw_seenMicros _ _ _ _ _ _ _) (sw_seenMicros _ _ _ _ _ _ _) rfl ⟨(show ((-2147483648) : Int) ≤ z211 by omega), (show z211 ≤ (2147483647 : Int) by omega)⟩ ⟨by omega, by omega⟩ (by omega) (show (32 * a1) + z105 < ((416 : Nat) : Int) by omega) (by omega) (by decide) d_M_seen_158 (fun B212 H locs Y S w212 => ?_)
                refine lv_iinc (v := iI (z105 + 1)) (lv' := [(9, .int (iI (z105 + 1))), (0, .ref h), (1, .int (iI a1)), (4, .long a4), (6, .int (iI a5)), (7, .int (iI z101)), (8, .int (iI z102)), (10, .int (iI z106)), (11, .int (iI ((32 * a1) + z106))), (12, .int (iI ((32 * a1) + z105))), (13, .int (iI z198))]) X.1 X.2.1 d_M_seen_159 hl (k := 6) rfl ((iI_add _ _).trans (congrArg iI (by omega))) (by decide) rfl (fun ls hl => ?_)
                refine lv_iinc (v := iI (z106 + 1)) (lv' := [(10, .int (iI (z106 + 1))), (9, .int (iI (z105 + 1))), (0, .ref h), (1, .int (iI a1)), (4, .long a4), (6, .int (iI a5)), (7, .int (iI z101)), (8, .int (iI z102)), (11, .int (iI ((32 * a1) + z106))), (12, .int (iI ((32 * a1) + z105))), (13, .int (iI z198))]) X.1 X.2.1 d_M_seen_162 hl (k := 7) rfl ((iI_add _ _).trans (congrArg iI (by omega))) (by decide) rfl (fun ls hl => ?_)
                refine lv_goto (tgt := 23) X.1 X.2.1 d_M_seen_165 (by decide) ?_
                exact ih112 ((32 - (z106 + 1)).toNat) (by omega) (z105 + 1) (z106 + 1) I197 J197 B212 G210 _ _ _ rfl (by omega) (by omega) (by omega) (by omega) (pG1_cg rfl rfl (pG1_cg rfl rfl f199)) (pG2_cg (w212.2 37 (by decide)) (w212.2 38 (by decide)) (pG2_cg (w208.2 37 (by decide)) (w208.2 38 (by decide)) f200)) (thF_cg (w212.2 37 (by decide)) (w212.2 38 (by decide)) (thF_cg (w208.2 37 (by decide)) (w208.2 38 (by decide)) f201)) (by omega) Y S (lv_sub hl [2, 3, 4, 5, 6, 7, 1, 0] rfl)
              · refine lv_aload_n X.1 X.2.1 d_M_seen_85 rfl (lv_at hl 0 rfl) ?_
                refine m_get X Y 61 (by decide) lk_seenNames (gf_seenNames _ _ _) rfl d_M_seen_86 ?_
                refine lv_bipush (v := iI 44) X.1 X.2.1 d_M_seen_89 (by decide) ?_
                refine lv_iload X.1 X.2.1 d_M_seen_91 (lv_at hl 9 rfl) ?_
                refine z_imul X.1 X.2.1 d_M_seen_93 ?_
                refine lv_iload X.1 X.2.1 d_M_seen_94 (lv_at hl 10 rfl) ?_
                refine z_iadd X.1 X.2.1 d_M_seen_96 ?_
                refine lv_aload_n X.1 X.2.1 d_M_seen_97 rfl (lv_at hl 0 rfl) ?_
                refine m_get X Y 61 (by decide) lk_seenNames (gf_seenNames _ _ _) rfl d_M_seen_98 ?_
                refine lv_bipush (v := iI 44) X.1 X.2.1 d_M_seen_101 (by decide) ?_
                refine lv_iload X.1 X.2.1 d_M_seen_103 (lv_at hl 8 rfl) ?_
                refine z_imul X.1 X.2.1 d_M_seen_105 ?_
                refine lv_iload X.1 X.2.1 d_M_seen_106 (lv_at hl 10 rfl) ?_
                refine z_iadd X.1 X.2.1 d_M_seen_108 ?_
                refine r_bald X Y S (aw_seenNames _ _ _ _ _ _ _) rfl (by omega) (show (44 * ((32 * a1) + z106)) + z198 < ((18304 : Nat) : Int) by omega) (by omega) d_M_seen_109 (fun z213 q213 l213 u213 => ?_)
                refine r_bast X Y S (aw_seenNames _ _ _ _ _ _ _) (sw_seenNames _ _ _ _ _ _ _) rfl (by omega) (show (44 * ((32 * a1) + z105)) + z198 < ((18304 : Nat) : Int) by omega) (by omega) (by decide) d_M_seen_110 (fun B214 H locs Y S w214 => ?_)
                refine lv_iinc (v := iI (z198 + 1)) (lv' := [(13, .int (iI (z198 + 1))), (0, .ref h), (1, .int (iI a1)), (4, .long a4), (6, .int (iI a5)), (7, .int (iI z101)), (8, .int (iI z102)), (9, .int (iI z105)), (10, .int (iI z106)), (11, .int (iI ((32 * a1) + z106))), (12, .int (iI ((32 * a1) + z105)))]) X.1 X.2.1 d_M_seen_111 hl (k := 10) rfl ((iI_add _ _).trans (congrArg iI (by omega))) (by decide) rfl (fun ls hl => ?_)
                refine lv_goto (tgt := 78) X.1 X.2.1 d_M_seen_114 (by decide) ?_
                exact ih203 ((44 - (z198 + 1)).toNat) (by omega) (z198 + 1) I197 J197 B214 G197 _ _ _ rfl (by omega) (by omega) (pG1_cg rfl rfl f199) (pG2_cg (w214.2 37 (by decide)) (w214.2 38 (by decide)) f200) (thF_cg (w214.2 37 (by decide)) (w214.2 38 (by decide)) f201) Y S (lv_sub hl [1, 2, 3, 4, 5, 6, 7, 8, 9, 10, 0] rfl)
          refine lv_istore (lv' := [(13, .int (iI 0)), (12, .int (iI ((32 * a1) + z105))), (11, .int (iI ((32 * a1) + z106))), (0, .ref h), (1, .int (iI a1)), (4, .long a4), (6, .int (iI a5)), (7, .int (iI z101)), (8, .int (iI z102)), (9, .int (iI z105)), (10, .int (iI z106))]) X.1 X.2.1 d_M_seen_76 hl (by decide) rfl (fun ls hl => ?_)
          exact J202 _ 0 I104 J104 B104 G104 _ _ _ rfl (by omega) (by omega) f107 f108 f109 Y S (lv_sub hl [3, 4, 5, 6, 7, 8, 9, 10, 2, 1, 0] rfl)
        · refine lv_goto (tgt := 162) X.1 X.2.1 d_M_seen_63 (by decide) ?_
          refine lv_iinc (v := iI (z106 + 1)) (lv' := [(10, .int (iI (z106 + 1))), (11, .int (iI ((32 * a1) + z106))), (0, .ref h), (1, .int (iI a1)), (4, .long a4), (6, .int (iI a5)), (7, .int (iI z101)), (8, .int (iI z102)), (9, .int (iI z105))]) X.1 X.2.1 d_M_seen_162 hl (k := 8) rfl ((iI_add _ _).trans (congrArg iI (by omega))) (by decide) rfl (fun ls hl => ?_)
          refine lv_goto (tgt := 23) X.1 X.2.1 d_M_seen_165 (by decide) ?_
          exact ih112 ((32 - (z106 + 1)).toNat) (by omega) z105 (z106 + 1) I104 J104 B104 G104 _ _ _ rfl (by omega) (by omega) (by omega) (by omega) f107 f108 f109 (by omega) Y S (lv_sub hl [2, 3, 4, 5, 6, 7, 8, 0] rfl)
  refine lv_istore (lv' := [(10, .int (iI 0)), (9, .int (iI 0)), (8, .int (iI z102)), (7, .int (iI z101)), (0, .ref h), (1, .int (iI a1)), (2, .int (iI a2)), (3, .int (iI a3)), (4, .long a4), (6, .int (iI a5))]) X.1 X.2.1 d_M_seen_21 hl (by decide) rfl (fun ls hl => ?_)
  exact J111 _ 0 0 I101 J102 B101 G102 _ _ _ rfl (by omega) (by omega) (by omega) (by omega) (pG1_cg rfl rfl g101_P1) (pG2_cg rfl rfl g101_P2) (thF_cg rfl rfl (thF_tr thF_rf g101_TF (by decide))) (by omega) Y S (lv_sub hl [4, 5, 8, 9, 3, 2, 1, 0] rfl)
