def kn (ty : Int) : Prop := ty ∈ ([105, 117, 109, 111, 115, 116, 102, 83, 101, 69, 75, 67, 82, 72, 112, 108, 78, 104, 65, 80, 76, 89, 84, 73, 107, 86, 81] : List Int)
def rki (i : Nat) : Nat := ((ftab i).map (fun x => rk x.2.2.2)).foldl max 0
theorem tyrk {i : Nat} {ty : Int} (hi : i < 26) (h : tyin i ty = true) : rk ty ≤ rki i ∧ kn ty := by
  have h2 : ∀ i, i < 26 → ∀ x ∈ ftab i, rk x.2.2.2 ≤ rki i := by decide +kernel
  have h3 : ∀ i, i < 26 → ∀ x ∈ ftab i, kn x.2.2.2 := by unfold kn; decide +kernel
  obtain ⟨x, hx, e⟩ := List.any_eq_true.mp h
  have e2 := of_decide_eq_true e
  rw [← e2]
  exact ⟨h2 i hi x hx, h3 i hi x hx⟩
theorem is_83 {m : Nat → Int32} {a b : Int} {r : Nat} : isF m (r + 1) 83 a b = rwP (isF m r 115) m a b := rfl
theorem is_101 {m : Nat → Int32} {a b : Int} {r : Nat} : isF m (r + 1) 101 a b = rwP (isF m r 105) m a b := rfl
theorem is_69 {m : Nat → Int32} {a b : Int} {r : Nat} : isF m (r + 1) 69 a b = sqP (isF m r) m (rs 5 0) a b := rfl
theorem is_75 {m : Nat → Int32} {a b : Int} {r : Nat} : isF m (r + 1) 75 a b = sqP (isF m r) m (rs 6 0) a b := rfl
theorem is_67 {m : Nat → Int32} {a b : Int} {r : Nat} : isF m (r + 1) 67 a b = sqP (isF m r) m (rs 6 0) a b := rfl
theorem is_82 {m : Nat → Int32} {a b : Int} {r : Nat} : isF m (r + 1) 82 a b = sqP (isF m r) m (rs 6 0) a b := rfl
theorem is_72 {m : Nat → Int32} {a b : Int} {r : Nat} : isF m (r + 1) 72 a b = sqP (isF m r) m (rs 6 0) a b := rfl
theorem is_112 {m : Nat → Int32} {a b : Int} {r : Nat} : isF m (r + 1) 112 a b = sqP (isF m r) m (rs 8 0) a b := rfl
theorem is_108 {m : Nat → Int32} {a b : Int} {r : Nat} : isF m (r + 1) 108 a b = sqP (isF m r) m (rs 11 0) a b := rfl
theorem is_78 {m : Nat → Int32} {a b : Int} {r : Nat} : isF m (r + 1) 78 a b = sqP (isF m r) m (rs 4 0) a b := rfl
theorem is_104 {m : Nat → Int32} {a b : Int} {r : Nat} : isF m (r + 1) 104 a b = rwP (isF m r 72) m a b := rfl
theorem is_65 {m : Nat → Int32} {a b : Int} {r : Nat} : isF m (r + 1) 65 a b = rwP (isF m r 75) m a b := rfl
theorem is_80 {m : Nat → Int32} {a b : Int} {r : Nat} : isF m (r + 1) 80 a b = rwP (isF m r 112) m a b := rfl
theorem is_76 {m : Nat → Int32} {a b : Int} {r : Nat} : isF m (r + 1) 76 a b = rwP (isF m r 108) m a b := rfl
theorem is_89 {m : Nat → Int32} {a b : Int} {r : Nat} : isF m (r + 1) 89 a b = sqP (isF m r) m (rs 9 0) a b := rfl
theorem is_84 {m : Nat → Int32} {a b : Int} {r : Nat} : isF m (r + 1) 84 a b = (whP m a b 97 ∧ sqP (isF m r) m (rs 7 0) (elI m a b) b) := rfl
theorem is_73 {m : Nat → Int32} {a b : Int} {r : Nat} : isF m (r + 1) 73 a b = sqP (isF m r) m (rs 10 0) a b := rfl
theorem is_107 {m : Nat → Int32} {a b : Int} {r : Nat} : isF m (r + 1) 107 a b = rwP (isF m r 84) m a b := rfl
theorem is_86 {m : Nat → Int32} {a b : Int} {r : Nat} : isF m (r + 1) 86 a b = rwP (isF m r 73) m a b := rfl
theorem is_81 {m : Nat → Int32} {a b : Int} {r : Nat} : isF m (r + 1) 81 a b = sqP (isF m r) m (rs 12 0) a b := rfl
set_option maxHeartbeats 4000000 in
set_option maxRecDepth 100000 in
theorem r_M_is_83 (l : Launch) (D : mD) (E : mE) (h : Nat) (q : Nat → Nat) (sz : Nat) (I : Nat → Int32) (J : Nat → Int64) (B : Nat → Nat → Int32) (G : Nat → Nat → Int64) (a2 : Int) (l_a2 : (-1) ≤ a2) (u_a2 : a2 ≤ 30000) (a3 : Int) (l_a3 : (-1) ≤ a3) (u_a3 : a3 ≤ 30000) (hT : rT I B) (r : Nat) (hr0 : 0 ≤ r) (mm : Nat → Int32) (gm : B 0 = mm) (ih : ∀ ty : Int, kn ty → rk ty ≤ r → CIs l D E h q r mm ty (isF mm r ty)) (f_P1 : pG1 I) (q0 : 0 ≤ a2 ∨ a3 < a2 + 2) (q1 : a3 - a2 ≤ 4200) : Met l y_M_is (k_M_is :: lw_tg) (mR (10 + 6 * (r + 1)) (400 + 300 * (r + 1))) (va_Pc [.ref h, .int (iI 83), .int (iI a2), .int (iI a3)] (mPre D E h q (I, J, B, G) sz)) (va_Qi (rPi [39, 40] [] I B (fun (z : Int) (u : mS) => 0 ≤ z ∧ z ≤ 1 ∧ (z = 1 ↔ isF mm (r + 1) 83 a2 a3) ∧ pG1 u.1)) (mPost D E h q (mA E h q sz)) (mA E h q sz)) 0 0 (mA E h q sz) := by
  refine m_enter (by decide) rfl (Nat.le_of_ble_eq_true rfl) (fun p e s m below meth c ls AV QQ H locs hQQ X Y hZ hA hr hlk hml hl => ?_)
  have Y : mH D E (mA E h q sz) s.heap h q I J B G H locs := Y
  have S : rS [39, 40] [] I B I B := rS_rf hT
  have hl : lv_has ls 6 [(0, .ref h), (1, .int (iI 83)), (2, .int (iI a2)), (3, .int (iI a3))] := hl
  refine lv_iload_n X.1 X.2.1 d_M_is_0 rfl (lv_at hl 1 rfl) ?_
  refine lv_tableIn (off := 427) (tgt := 428) X.1 X.2.1 d_M_is_1 (by decide) (by decide) (by decide) (by decide) ?_
  refine lv_aload_n X.1 X.2.1 d_M_is_428 rfl (lv_at hl 0 rfl) ?_
  refine lv_bipush (v := iI 115) X.1 X.2.1 d_M_is_429 (by decide) ?_
  refine lv_iload_n X.1 X.2.1 d_M_is_431 rfl (lv_at hl 2 rfl) ?_
  refine lv_iload_n X.1 X.2.1 d_M_is_432 rfl (lv_at hl 3 rfl) ?_
  refine r_ni (m_run (As := [.int (iI 115), .int (iI a2), .int (iI a3)]) (rest := []) (n := 3) X Y hZ hA hml hl.1 (r_M_row l D E h q H.size I J B G 115 (by omega) (by omega) a2 (by omega) (by omega) a3 (by omega) (by omega) S.1 r mm gm (isF mm r 115) (ih 115 (by unfold kn; decide) (Nat.le_trans (show rk 115 ≤ 0 by decide) hr0)) f_P1 (by omega) (by omega)) kl_M_row ks_M_row kx_M_row ki_M_row ini_M hd_M_row ⟨by simp only [mR]; omega, by simp only [mR]; omega⟩ rfl (Nat.le_of_ble_eq_true rfl) d_M_is_433 ⟨Nat.le_refl _, Nat.le_refl _⟩) X Y hA S (by decide) (by decide) (fun z101 u H locs Y S s101 p101 => ?_)
  obtain ⟨I101, J101, B101, G101⟩ := u
  dsimp only at Y S s101 p101
  obtain ⟨l101, u101, x101, g101_P1⟩ := p101
  exact m_retz hQQ X Y hr hlk (iI_bool (by omega) (by omega)).1 ⟨S, z101, rfl, ⟨by omega, by omega, iff_eq is_83 x101, g101_P1⟩⟩ d_M_is_436
set_option maxHeartbeats 4000000 in
set_option maxRecDepth 100000 in
theorem r_M_is_101 (l : Launch) (D : mD) (E : mE) (h : Nat) (q : Nat → Nat) (sz : Nat) (I : Nat → Int32) (J : Nat → Int64) (B : Nat → Nat → Int32) (G : Nat → Nat → Int64) (a2 : Int) (l_a2 : (-1) ≤ a2) (u_a2 : a2 ≤ 30000) (a3 : Int) (l_a3 : (-1) ≤ a3) (u_a3 : a3 ≤ 30000) (hT : rT I B) (r : Nat) (hr0 : 0 ≤ r) (mm : Nat → Int32) (gm : B 0 = mm) (ih : ∀ ty : Int, kn ty → rk ty ≤ r → CIs l D E h q r mm ty (isF mm r ty)) (f_P1 : pG1 I) (q0 : 0 ≤ a2 ∨ a3 < a2 + 2) (q1 : a3 - a2 ≤ 4200) : Met l y_M_is (k_M_is :: lw_tg) (mR (10 + 6 * (r + 1)) (400 + 300 * (r + 1))) (va_Pc [.ref h, .int (iI 101), .int (iI a2), .int (iI a3)] (mPre D E h q (I, J, B, G) sz)) (va_Qi (rPi [39, 40] [] I B (fun (z : Int) (u : mS) => 0 ≤ z ∧ z ≤ 1 ∧ (z = 1 ↔ isF mm (r + 1) 101 a2 a3) ∧ pG1 u.1)) (mPost D E h q (mA E h q sz)) (mA E h q sz)) 0 0 (mA E h q sz) := by
  refine m_enter (by decide) rfl (Nat.le_of_ble_eq_true rfl) (fun p e s m below meth c ls AV QQ H locs hQQ X Y hZ hA hr hlk hml hl => ?_)
  have Y : mH D E (mA E h q sz) s.heap h q I J B G H locs := Y
  have S : rS [39, 40] [] I B I B := rS_rf hT
  have hl : lv_has ls 6 [(0, .ref h), (1, .int (iI 101)), (2, .int (iI a2)), (3, .int (iI a3))] := hl
  refine lv_iload_n X.1 X.2.1 d_M_is_0 rfl (lv_at hl 1 rfl) ?_
  refine lv_tableIn (off := 508) (tgt := 509) X.1 X.2.1 d_M_is_1 (by decide) (by decide) (by decide) (by decide) ?_
  refine lv_aload_n X.1 X.2.1 d_M_is_509 rfl (lv_at hl 0 rfl) ?_
  refine lv_bipush (v := iI 105) X.1 X.2.1 d_M_is_510 (by decide) ?_
  refine lv_iload_n X.1 X.2.1 d_M_is_512 rfl (lv_at hl 2 rfl) ?_
  refine lv_iload_n X.1 X.2.1 d_M_is_513 rfl (lv_at hl 3 rfl) ?_
  refine r_ni (m_run (As := [.int (iI 105), .int (iI a2), .int (iI a3)]) (rest := []) (n := 3) X Y hZ hA hml hl.1 (r_M_row l D E h q H.size I J B G 105 (by omega) (by omega) a2 (by omega) (by omega) a3 (by omega) (by omega) S.1 r mm gm (isF mm r 105) (ih 105 (by unfold kn; decide) (Nat.le_trans (show rk 105 ≤ 0 by decide) hr0)) f_P1 (by omega) (by omega)) kl_M_row ks_M_row kx_M_row ki_M_row ini_M hd_M_row ⟨by simp only [mR]; omega, by simp only [mR]; omega⟩ rfl (Nat.le_of_ble_eq_true rfl) d_M_is_514 ⟨Nat.le_refl _, Nat.le_refl _⟩) X Y hA S (by decide) (by decide) (fun z101 u H locs Y S s101 p101 => ?_)
  obtain ⟨I101, J101, B101, G101⟩ := u
  dsimp only at Y S s101 p101
  obtain ⟨l101, u101, x101, g101_P1⟩ := p101
  exact m_retz hQQ X Y hr hlk (iI_bool (by omega) (by omega)).1 ⟨S, z101, rfl, ⟨by omega, by omega, iff_eq is_101 x101, g101_P1⟩⟩ d_M_is_517
set_option maxHeartbeats 4000000 in
set_option maxRecDepth 100000 in
theorem r_M_is_69 (l : Launch) (D : mD) (E : mE) (h : Nat) (q : Nat → Nat) (sz : Nat) (I : Nat → Int32) (J : Nat → Int64) (B : Nat → Nat → Int32) (G : Nat → Nat → Int64) (a2 : Int) (l_a2 : (-1) ≤ a2) (u_a2 : a2 ≤ 30000) (a3 : Int) (l_a3 : (-1) ≤ a3) (u_a3 : a3 ≤ 30000) (hT : rT I B) (r : Nat) (hr0 : 0 ≤ r) (mm : Nat → Int32) (gm : B 0 = mm) (ih : ∀ ty : Int, kn ty → rk ty ≤ r → CIs l D E h q r mm ty (isF mm r ty)) (f_P1 : pG1 I) (q0 : 0 ≤ a2 ∨ a3 < a2 + 2) (q1 : a3 - a2 ≤ 4200) : Met l y_M_is (k_M_is :: lw_tg) (mR (10 + 6 * (r + 1)) (400 + 300 * (r + 1))) (va_Pc [.ref h, .int (iI 69), .int (iI a2), .int (iI a3)] (mPre D E h q (I, J, B, G) sz)) (va_Qi (rPi [39, 40] [] I B (fun (z : Int) (u : mS) => 0 ≤ z ∧ z ≤ 1 ∧ (z = 1 ↔ isF mm (r + 1) 69 a2 a3) ∧ pG1 u.1)) (mPost D E h q (mA E h q sz)) (mA E h q sz)) 0 0 (mA E h q sz) := by
  refine m_enter (by decide) rfl (Nat.le_of_ble_eq_true rfl) (fun p e s m below meth c ls AV QQ H locs hQQ X Y hZ hA hr hlk hml hl => ?_)
  have Y : mH D E (mA E h q sz) s.heap h q I J B G H locs := Y
  have S : rS [39, 40] [] I B I B := rS_rf hT
  have hl : lv_has ls 6 [(0, .ref h), (1, .int (iI 69)), (2, .int (iI a2)), (3, .int (iI a3))] := hl
  refine lv_iload_n X.1 X.2.1 d_M_is_0 rfl (lv_at hl 1 rfl) ?_
  refine lv_tableIn (off := 436) (tgt := 437) X.1 X.2.1 d_M_is_1 (by decide) (by decide) (by decide) (by decide) ?_
  refine lv_aload_n X.1 X.2.1 d_M_is_437 rfl (lv_at hl 0 rfl) ?_
  refine m_ldcSW (i := 5) X (by decide) (by decide) d_M_is_438 ?_
  refine lv_iload_n X.1 X.2.1 d_M_is_441 rfl (lv_at hl 2 rfl) ?_
  refine lv_iload_n X.1 X.2.1 d_M_is_442 rfl (lv_at hl 3 rfl) ?_
  refine lv_iconst (v := iI (-1)) X.1 X.2.1 d_M_is_443 (by decide) ?_
  refine r_ni (m_run (As := [.ref ((D.2.1 5)), .int (iI a2), .int (iI a3), .int (iI ((-1)))]) (rest := []) (n := 4) X Y hZ hA hml hl.1 (r_M_sequence_n l D E h q H.size I J B G 5 (show 5 < nZ by decide) a2 (by omega) (by omega) a3 (by omega) (by omega) S.1 r mm gm (isF mm r) (by decide) (fun ty h9 => ih ty (tyrk (i := 5) (by decide) h9).2 (Nat.le_trans (tyrk (i := 5) (by decide) h9).1 (show rki 5 ≤ r from Nat.le_trans (show rki 5 ≤ 0 by decide) hr0))) f_P1 (by omega) (by omega)) kl_M_sequence ks_M_sequence kx_M_sequence ki_M_sequence ini_M hd_M_sequence ⟨by simp only [mR]; omega, by simp only [mR]; omega⟩ rfl (Nat.le_of_ble_eq_true rfl) d_M_is_444 ⟨Nat.le_refl _, Nat.le_refl _⟩) X Y hA S (by decide) (by decide) (fun z101 u H locs Y S s101 p101 => ?_)
  obtain ⟨I101, J101, B101, G101⟩ := u
  dsimp only at Y S s101 p101
  obtain ⟨l101, u101, x101, g101_P1⟩ := p101
  exact m_retz hQQ X Y hr hlk (iI_bool (by omega) (by omega)).1 ⟨S, z101, rfl, ⟨by omega, by omega, iff_eq is_69 x101, g101_P1⟩⟩ d_M_is_447
set_option maxHeartbeats 4000000 in
set_option maxRecDepth 100000 in
theorem r_M_is_75 (l : Launch) (D : mD) (E : mE) (h : Nat) (q : Nat → Nat) (sz : Nat) (I : Nat → Int32) (J : Nat → Int64) (B : Nat → Nat → Int32) (G : Nat → Nat → Int64) (a2 : Int) (l_a2 : (-1) ≤ a2) (u_a2 : a2 ≤ 30000) (a3 : Int) (l_a3 : (-1) ≤ a3) (u_a3 : a3 ≤ 30000) (hT : rT I B) (r : Nat) (hr0 : 0 ≤ r) (mm : Nat → Int32) (gm : B 0 = mm) (ih : ∀ ty : Int, kn ty → rk ty ≤ r → CIs l D E h q r mm ty (isF mm r ty)) (f_P1 : pG1 I) (q0 : 0 ≤ a2 ∨ a3 < a2 + 2) (q1 : a3 - a2 ≤ 4200) : Met l y_M_is (k_M_is :: lw_tg) (mR (10 + 6 * (r + 1)) (400 + 300 * (r + 1))) (va_Pc [.ref h, .int (iI 75), .int (iI a2), .int (iI a3)] (mPre D E h q (I, J, B, G) sz)) (va_Qi (rPi [39, 40] [] I B (fun (z : Int) (u : mS) => 0 ≤ z ∧ z ≤ 1 ∧ (z = 1 ↔ isF mm (r + 1) 75 a2 a3) ∧ pG1 u.1)) (mPost D E h q (mA E h q sz)) (mA E h q sz)) 0 0 (mA E h q sz) := by
  refine m_enter (by decide) rfl (Nat.le_of_ble_eq_true rfl) (fun p e s m below meth c ls AV QQ H locs hQQ X Y hZ hA hr hlk hml hl => ?_)
  have Y : mH D E (mA E h q sz) s.heap h q I J B G H locs := Y
  have S : rS [39, 40] [] I B I B := rS_rf hT
  have hl : lv_has ls 6 [(0, .ref h), (1, .int (iI 75)), (2, .int (iI a2)), (3, .int (iI a3))] := hl
  refine lv_iload_n X.1 X.2.1 d_M_is_0 rfl (lv_at hl 1 rfl) ?_
  refine lv_tableIn (off := 447) (tgt := 448) X.1 X.2.1 d_M_is_1 (by decide) (by decide) (by decide) (by decide) ?_
  refine lv_aload_n X.1 X.2.1 d_M_is_448 rfl (lv_at hl 0 rfl) ?_
  refine m_ldcSW (i := 6) X (by decide) (by decide) d_M_is_449 ?_
  refine lv_iload_n X.1 X.2.1 d_M_is_452 rfl (lv_at hl 2 rfl) ?_
  refine lv_iload_n X.1 X.2.1 d_M_is_453 rfl (lv_at hl 3 rfl) ?_
  refine lv_iconst (v := iI (-1)) X.1 X.2.1 d_M_is_454 (by decide) ?_
  refine r_ni (m_run (As := [.ref ((D.2.1 6)), .int (iI a2), .int (iI a3), .int (iI ((-1)))]) (rest := []) (n := 4) X Y hZ hA hml hl.1 (r_M_sequence_n l D E h q H.size I J B G 6 (show 6 < nZ by decide) a2 (by omega) (by omega) a3 (by omega) (by omega) S.1 r mm gm (isF mm r) (by decide) (fun ty h9 => ih ty (tyrk (i := 6) (by decide) h9).2 (Nat.le_trans (tyrk (i := 6) (by decide) h9).1 (show rki 6 ≤ r from Nat.le_trans (show rki 6 ≤ 0 by decide) hr0))) f_P1 (by omega) (by omega)) kl_M_sequence ks_M_sequence kx_M_sequence ki_M_sequence ini_M hd_M_sequence ⟨by simp only [mR]; omega, by simp only [mR]; omega⟩ rfl (Nat.le_of_ble_eq_true rfl) d_M_is_455 ⟨Nat.le_refl _, Nat.le_refl _⟩) X Y hA S (by decide) (by decide) (fun z101 u H locs Y S s101 p101 => ?_)
  obtain ⟨I101, J101, B101, G101⟩ := u
  dsimp only at Y S s101 p101
  obtain ⟨l101, u101, x101, g101_P1⟩ := p101
  exact m_retz hQQ X Y hr hlk (iI_bool (by omega) (by omega)).1 ⟨S, z101, rfl, ⟨by omega, by omega, iff_eq is_75 x101, g101_P1⟩⟩ d_M_is_458
set_option maxHeartbeats 4000000 in
set_option maxRecDepth 100000 in
theorem r_M_is_67 (l : Launch) (D : mD) (E : mE) (h : Nat) (q : Nat → Nat) (sz : Nat) (I : Nat → Int32) (J : Nat → Int64) (B : Nat → Nat → Int32) (G : Nat → Nat → Int64) (a2 : Int) (l_a2 : (-1) ≤ a2) (u_a2 : a2 ≤ 30000) (a3 : Int) (l_a3 : (-1) ≤ a3) (u_a3 : a3 ≤ 30000) (hT : rT I B) (r : Nat) (hr0 : 0 ≤ r) (mm : Nat → Int32) (gm : B 0 = mm) (ih : ∀ ty : Int, kn ty → rk ty ≤ r → CIs l D E h q r mm ty (isF mm r ty)) (f_P1 : pG1 I) (q0 : 0 ≤ a2 ∨ a3 < a2 + 2) (q1 : a3 - a2 ≤ 4200) : Met l y_M_is (k_M_is :: lw_tg) (mR (10 + 6 * (r + 1)) (400 + 300 * (r + 1))) (va_Pc [.ref h, .int (iI 67), .int (iI a2), .int (iI a3)] (mPre D E h q (I, J, B, G) sz)) (va_Qi (rPi [39, 40] [] I B (fun (z : Int) (u : mS) => 0 ≤ z ∧ z ≤ 1 ∧ (z = 1 ↔ isF mm (r + 1) 67 a2 a3) ∧ pG1 u.1)) (mPost D E h q (mA E h q sz)) (mA E h q sz)) 0 0 (mA E h q sz) := by
  refine m_enter (by decide) rfl (Nat.le_of_ble_eq_true rfl) (fun p e s m below meth c ls AV QQ H locs hQQ X Y hZ hA hr hlk hml hl => ?_)
  have Y : mH D E (mA E h q sz) s.heap h q I J B G H locs := Y
  have S : rS [39, 40] [] I B I B := rS_rf hT
  have hl : lv_has ls 6 [(0, .ref h), (1, .int (iI 67)), (2, .int (iI a2)), (3, .int (iI a3))] := hl
  refine lv_iload_n X.1 X.2.1 d_M_is_0 rfl (lv_at hl 1 rfl) ?_
  refine lv_tableIn (off := 447) (tgt := 448) X.1 X.2.1 d_M_is_1 (by decide) (by decide) (by decide) (by decide) ?_
  refine lv_aload_n X.1 X.2.1 d_M_is_448 rfl (lv_at hl 0 rfl) ?_
  refine m_ldcSW (i := 6) X (by decide) (by decide) d_M_is_449 ?_
  refine lv_iload_n X.1 X.2.1 d_M_is_452 rfl (lv_at hl 2 rfl) ?_
  refine lv_iload_n X.1 X.2.1 d_M_is_453 rfl (lv_at hl 3 rfl) ?_
  refine lv_iconst (v := iI (-1)) X.1 X.2.1 d_M_is_454 (by decide) ?_
  refine r_ni (m_run (As := [.ref ((D.2.1 6)), .int (iI a2), .int (iI a3), .int (iI ((-1)))]) (rest := []) (n := 4) X Y hZ hA hml hl.1 (r_M_sequence_n l D E h q H.size I J B G 6 (show 6 < nZ by decide) a2 (by omega) (by omega) a3 (by omega) (by omega) S.1 r mm gm (isF mm r) (by decide) (fun ty h9 => ih ty (tyrk (i := 6) (by decide) h9).2 (Nat.le_trans (tyrk (i := 6) (by decide) h9).1 (show rki 6 ≤ r from Nat.le_trans (show rki 6 ≤ 0 by decide) hr0))) f_P1 (by omega) (by omega)) kl_M_sequence ks_M_sequence kx_M_sequence ki_M_sequence ini_M hd_M_sequence ⟨by simp only [mR]; omega, by simp only [mR]; omega⟩ rfl (Nat.le_of_ble_eq_true rfl) d_M_is_455 ⟨Nat.le_refl _, Nat.le_refl _⟩) X Y hA S (by decide) (by decide) (fun z101 u H locs Y S s101 p101 => ?_)
  obtain ⟨I101, J101, B101, G101⟩ := u
  dsimp only at Y S s101 p101
  obtain ⟨l101, u101, x101, g101_P1⟩ := p101
  exact m_retz hQQ X Y hr hlk (iI_bool (by omega) (by omega)).1 ⟨S, z101, rfl, ⟨by omega, by omega, iff_eq is_67 x101, g101_P1⟩⟩ d_M_is_458
set_option maxHeartbeats 4000000 in
set_option maxRecDepth 100000 in
theorem r_M_is_82 (l : Launch) (D : mD) (E : mE) (h : Nat) (q : Nat → Nat) (sz : Nat) (I : Nat → Int32) (J : Nat → Int64) (B : Nat → Nat → Int32) (G : Nat → Nat → Int64) (a2 : Int) (l_a2 : (-1) ≤ a2) (u_a2 : a2 ≤ 30000) (a3 : Int) (l_a3 : (-1) ≤ a3) (u_a3 : a3 ≤ 30000) (hT : rT I B) (r : Nat) (hr0 : 0 ≤ r) (mm : Nat → Int32) (gm : B 0 = mm) (ih : ∀ ty : Int, kn ty → rk ty ≤ r → CIs l D E h q r mm ty (isF mm r ty)) (f_P1 : pG1 I) (q0 : 0 ≤ a2 ∨ a3 < a2 + 2) (q1 : a3 - a2 ≤ 4200) : Met l y_M_is (k_M_is :: lw_tg) (mR (10 + 6 * (r + 1)) (400 + 300 * (r + 1))) (va_Pc [.ref h, .int (iI 82), .int (iI a2), .int (iI a3)] (mPre D E h q (I, J, B, G) sz)) (va_Qi (rPi [39, 40] [] I B (fun (z : Int) (u : mS) => 0 ≤ z ∧ z ≤ 1 ∧ (z = 1 ↔ isF mm (r + 1) 82 a2 a3) ∧ pG1 u.1)) (mPost D E h q (mA E h q sz)) (mA E h q sz)) 0 0 (mA E h q sz) := by
  refine m_enter (by decide) rfl (Nat.le_of_ble_eq_true rfl) (fun p e s m below meth c ls AV QQ H locs hQQ X Y hZ hA hr hlk hml hl => ?_)
  have Y : mH D E (mA E h q sz) s.heap h q I J B G H locs := Y
  have S : rS [39, 40] [] I B I B := rS_rf hT
  have hl : lv_has ls 6 [(0, .ref h), (1, .int (iI 82)), (2, .int (iI a2)), (3, .int (iI a3))] := hl
  refine lv_iload_n X.1 X.2.1 d_M_is_0 rfl (lv_at hl 1 rfl) ?_
  refine lv_tableIn (off := 447) (tgt := 448) X.1 X.2.1 d_M_is_1 (by decide) (by decide) (by decide) (by decide) ?_
  refine lv_aload_n X.1 X.2.1 d_M_is_448 rfl (lv_at hl 0 rfl) ?_
  refine m_ldcSW (i := 6) X (by decide) (by decide) d_M_is_449 ?_
  refine lv_iload_n X.1 X.2.1 d_M_is_452 rfl (lv_at hl 2 rfl) ?_
  refine lv_iload_n X.1 X.2.1 d_M_is_453 rfl (lv_at hl 3 rfl) ?_
  refine lv_iconst (v := iI (-1)) X.1 X.2.1 d_M_is_454 (by decide) ?_
  refine r_ni (m_run (As := [.ref ((D.2.1 6)), .int (iI a2), .int (iI a3), .int (iI ((-1)))]) (rest := []) (n := 4) X Y hZ hA hml hl.1 (r_M_sequence_n l D E h q H.size I J B G 6 (show 6 < nZ by decide) a2 (by omega) (by omega) a3 (by omega) (by omega) S.1 r mm gm (isF mm r) (by decide) (fun ty h9 => ih ty (tyrk (i := 6) (by decide) h9).2 (Nat.le_trans (tyrk (i := 6) (by decide) h9).1 (show rki 6 ≤ r from Nat.le_trans (show rki 6 ≤ 0 by decide) hr0))) f_P1 (by omega) (by omega)) kl_M_sequence ks_M_sequence kx_M_sequence ki_M_sequence ini_M hd_M_sequence ⟨by simp only [mR]; omega, by simp only [mR]; omega⟩ rfl (Nat.le_of_ble_eq_true rfl) d_M_is_455 ⟨Nat.le_refl _, Nat.le_refl _⟩) X Y hA S (by decide) (by decide) (fun z101 u H locs Y S s101 p101 => ?_)
  obtain ⟨I101, J101, B101, G101⟩ := u
  dsimp only at Y S s101 p101
  obtain ⟨l101, u101, x101, g101_P1⟩ := p101
  exact m_retz hQQ X Y hr hlk (iI_bool (by omega) (by omega)).1 ⟨S, z101, rfl, ⟨by omega, by omega, iff_eq is_82 x101, g101_P1⟩⟩ d_M_is_458
set_option maxHeartbeats 4000000 in
set_option maxRecDepth 100000 in
theorem r_M_is_72 (l : Launch) (D : mD) (E : mE) (h : Nat) (q : Nat → Nat) (sz : Nat) (I : Nat → Int32) (J : Nat → Int64) (B : Nat → Nat → Int32) (G : Nat → Nat → Int64) (a2 : Int) (l_a2 : (-1) ≤ a2) (u_a2 : a2 ≤ 30000) (a3 : Int) (l_a3 : (-1) ≤ a3) (u_a3 : a3 ≤ 30000) (hT : rT I B) (r : Nat) (hr0 : 0 ≤ r) (mm : Nat → Int32) (gm : B 0 = mm) (ih : ∀ ty : Int, kn ty → rk ty ≤ r → CIs l D E h q r mm ty (isF mm r ty)) (f_P1 : pG1 I) (q0 : 0 ≤ a2 ∨ a3 < a2 + 2) (q1 : a3 - a2 ≤ 4200) : Met l y_M_is (k_M_is :: lw_tg) (mR (10 + 6 * (r + 1)) (400 + 300 * (r + 1))) (va_Pc [.ref h, .int (iI 72), .int (iI a2), .int (iI a3)] (mPre D E h q (I, J, B, G) sz)) (va_Qi (rPi [39, 40] [] I B (fun (z : Int) (u : mS) => 0 ≤ z ∧ z ≤ 1 ∧ (z = 1 ↔ isF mm (r + 1) 72 a2 a3) ∧ pG1 u.1)) (mPost D E h q (mA E h q sz)) (mA E h q sz)) 0 0 (mA E h q sz) := by
  refine m_enter (by decide) rfl (Nat.le_of_ble_eq_true rfl) (fun p e s m below meth c ls AV QQ H locs hQQ X Y hZ hA hr hlk hml hl => ?_)
  have Y : mH D E (mA E h q sz) s.heap h q I J B G H locs := Y
  have S : rS [39, 40] [] I B I B := rS_rf hT
  have hl : lv_has ls 6 [(0, .ref h), (1, .int (iI 72)), (2, .int (iI a2)), (3, .int (iI a3))] := hl
  refine lv_iload_n X.1 X.2.1 d_M_is_0 rfl (lv_at hl 1 rfl) ?_
  refine lv_tableIn (off := 447) (tgt := 448) X.1 X.2.1 d_M_is_1 (by decide) (by decide) (by decide) (by decide) ?_
  refine lv_aload_n X.1 X.2.1 d_M_is_448 rfl (lv_at hl 0 rfl) ?_
  refine m_ldcSW (i := 6) X (by decide) (by decide) d_M_is_449 ?_
  refine lv_iload_n X.1 X.2.1 d_M_is_452 rfl (lv_at hl 2 rfl) ?_
  refine lv_iload_n X.1 X.2.1 d_M_is_453 rfl (lv_at hl 3 rfl) ?_
  refine lv_iconst (v := iI (-1)) X.1 X.2.1 d_M_is_454 (by decide) ?_
  refine r_ni (m_run (As := [.ref ((D.2.1 6)), .int (iI a2), .int (iI a3), .int (iI ((-1)))]) (rest := []) (n := 4) X Y hZ hA hml hl.1 (r_M_sequence_n l D E h q H.size I J B G 6 (show 6 < nZ by decide) a2 (by omega) (by omega) a3 (by omega) (by omega) S.1 r mm gm (isF mm r) (by decide) (fun ty h9 => ih ty (tyrk (i := 6) (by decide) h9).2 (Nat.le_trans (tyrk (i := 6) (by decide) h9).1 (show rki 6 ≤ r from Nat.le_trans (show rki 6 ≤ 0 by decide) hr0))) f_P1 (by omega) (by omega)) kl_M_sequence ks_M_sequence kx_M_sequence ki_M_sequence ini_M hd_M_sequence ⟨by simp only [mR]; omega, by simp only [mR]; omega⟩ rfl (Nat.le_of_ble_eq_true rfl) d_M_is_455 ⟨Nat.le_refl _, Nat.le_refl _⟩) X Y hA S (by decide) (by decide) (fun z101 u H locs Y S s101 p101 => ?_)
  obtain ⟨I101, J101, B101, G101⟩ := u
  dsimp only at Y S s101 p101
  obtain ⟨l101, u101, x101, g101_P1⟩ := p101
  exact m_retz hQQ X Y hr hlk (iI_bool (by omega) (by omega)).1 ⟨S, z101, rfl, ⟨by omega, by omega, iff_eq is_72 x101, g101_P1⟩⟩ d_M_is_458
set_option maxHeartbeats 4000000 in
set_option maxRecDepth 100000 in
theorem r_M_is_112 (l : Launch) (D : mD) (E : mE) (h : Nat) (q : Nat → Nat) (sz : Nat) (I : Nat → Int32) (J : Nat → Int64) (B : Nat → Nat → Int32) (G : Nat → Nat → Int64) (a2 : Int) (l_a2 : (-1) ≤ a2) (u_a2 : a2 ≤ 30000) (a3 : Int) (l_a3 : (-1) ≤ a3) (u_a3 : a3 ≤ 30000) (hT : rT I B) (r : Nat) (hr0 : 0 ≤ r) (mm : Nat → Int32) (gm : B 0 = mm) (ih : ∀ ty : Int, kn ty → rk ty ≤ r → CIs l D E h q r mm ty (isF mm r ty)) (f_P1 : pG1 I) (q0 : 0 ≤ a2 ∨ a3 < a2 + 2) (q1 : a3 - a2 ≤ 4200) : Met l y_M_is (k_M_is :: lw_tg) (mR (10 + 6 * (r + 1)) (400 + 300 * (r + 1))) (va_Pc [.ref h, .int (iI 112), .int (iI a2), .int (iI a3)] (mPre D E h q (I, J, B, G) sz)) (va_Qi (rPi [39, 40] [] I B (fun (z : Int) (u : mS) => 0 ≤ z ∧ z ≤ 1 ∧ (z = 1 ↔ isF mm (r + 1) 112 a2 a3) ∧ pG1 u.1)) (mPost D E h q (mA E h q sz)) (mA E h q sz)) 0 0 (mA E h q sz) := by
  refine m_enter (by decide) rfl (Nat.le_of_ble_eq_true rfl) (fun p e s m below meth c ls AV QQ H locs hQQ X Y hZ hA hr hlk hml hl => ?_)
  have Y : mH D E (mA E h q sz) s.heap h q I J B G H locs := Y
  have S : rS [39, 40] [] I B I B := rS_rf hT
  have hl : lv_has ls 6 [(0, .ref h), (1, .int (iI 112)), (2, .int (iI a2)), (3, .int (iI a3))] := hl
  refine lv_iload_n X.1 X.2.1 d_M_is_0 rfl (lv_at hl 1 rfl) ?_
  refine lv_tableIn (off := 497) (tgt := 498) X.1 X.2.1 d_M_is_1 (by decide) (by decide) (by decide) (by decide) ?_
  refine lv_aload_n X.1 X.2.1 d_M_is_498 rfl (lv_at hl 0 rfl) ?_
  refine m_ldcSW (i := 8) X (by decide) (by decide) d_M_is_499 ?_
  refine lv_iload_n X.1 X.2.1 d_M_is_502 rfl (lv_at hl 2 rfl) ?_
  refine lv_iload_n X.1 X.2.1 d_M_is_503 rfl (lv_at hl 3 rfl) ?_
  refine lv_iconst (v := iI (-1)) X.1 X.2.1 d_M_is_504 (by decide) ?_
  refine r_ni (m_run (As := [.ref ((D.2.1 8)), .int (iI a2), .int (iI a3), .int (iI ((-1)))]) (rest := []) (n := 4) X Y hZ hA hml hl.1 (r_M_sequence_n l D E h q H.size I J B G 8 (show 8 < nZ by decide) a2 (by omega) (by omega) a3 (by omega) (by omega) S.1 r mm gm (isF mm r) (by decide) (fun ty h9 => ih ty (tyrk (i := 8) (by decide) h9).2 (Nat.le_trans (tyrk (i := 8) (by decide) h9).1 (show rki 8 ≤ r from Nat.le_trans (show rki 8 ≤ 0 by decide) hr0))) f_P1 (by omega) (by omega)) kl_M_sequence ks_M_sequence kx_M_sequence ki_M_sequence ini_M hd_M_sequence ⟨by simp only [mR]; omega, by simp only [mR]; omega⟩ rfl (Nat.le_of_ble_eq_true rfl) d_M_is_505 ⟨Nat.le_refl _, Nat.le_refl _⟩) X Y hA S (by decide) (by decide) (fun z101 u H locs Y S s101 p101 => ?_)
  obtain ⟨I101, J101, B101, G101⟩ := u
  dsimp only at Y S s101 p101
  obtain ⟨l101, u101, x101, g101_P1⟩ := p101
  exact m_retz hQQ X Y hr hlk (iI_bool (by omega) (by omega)).1 ⟨S, z101, rfl, ⟨by omega, by omega, iff_eq is_112 x101, g101_P1⟩⟩ d_M_is_508
set_option maxHeartbeats 4000000 in
set_option maxRecDepth 100000 in
theorem r_M_is_108 (l : Launch) (D : mD) (E : mE) (h : Nat) (q : Nat → Nat) (sz : Nat) (I : Nat → Int32) (J : Nat → Int64) (B : Nat → Nat → Int32) (G : Nat → Nat → Int64) (a2 : Int) (l_a2 : (-1) ≤ a2) (u_a2 : a2 ≤ 30000) (a3 : Int) (l_a3 : (-1) ≤ a3) (u_a3 : a3 ≤ 30000) (hT : rT I B) (r : Nat) (hr0 : 0 ≤ r) (mm : Nat → Int32) (gm : B 0 = mm) (ih : ∀ ty : Int, kn ty → rk ty ≤ r → CIs l D E h q r mm ty (isF mm r ty)) (f_P1 : pG1 I) (q0 : 0 ≤ a2 ∨ a3 < a2 + 2) (q1 : a3 - a2 ≤ 4200) : Met l y_M_is (k_M_is :: lw_tg) (mR (10 + 6 * (r + 1)) (400 + 300 * (r + 1))) (va_Pc [.ref h, .int (iI 108), .int (iI a2), .int (iI a3)] (mPre D E h q (I, J, B, G) sz)) (va_Qi (rPi [39, 40] [] I B (fun (z : Int) (u : mS) => 0 ≤ z ∧ z ≤ 1 ∧ (z = 1 ↔ isF mm (r + 1) 108 a2 a3) ∧ pG1 u.1)) (mPost D E h q (mA E h q sz)) (mA E h q sz)) 0 0 (mA E h q sz) := by
  refine m_enter (by decide) rfl (Nat.le_of_ble_eq_true rfl) (fun p e s m below meth c ls AV QQ H locs hQQ X Y hZ hA hr hlk hml hl => ?_)
  have Y : mH D E (mA E h q sz) s.heap h q I J B G H locs := Y
  have S : rS [39, 40] [] I B I B := rS_rf hT
  have hl : lv_has ls 6 [(0, .ref h), (1, .int (iI 108)), (2, .int (iI a2)), (3, .int (iI a3))] := hl
  refine lv_iload_n X.1 X.2.1 d_M_is_0 rfl (lv_at hl 1 rfl) ?_
  refine lv_tableIn (off := 566) (tgt := 567) X.1 X.2.1 d_M_is_1 (by decide) (by decide) (by decide) (by decide) ?_
  refine lv_aload_n X.1 X.2.1 d_M_is_567 rfl (lv_at hl 0 rfl) ?_
  refine m_ldcSW (i := 11) X (by decide) (by decide) d_M_is_568 ?_
  refine lv_iload_n X.1 X.2.1 d_M_is_571 rfl (lv_at hl 2 rfl) ?_
  refine lv_iload_n X.1 X.2.1 d_M_is_572 rfl (lv_at hl 3 rfl) ?_
  refine lv_iconst (v := iI (-1)) X.1 X.2.1 d_M_is_573 (by decide) ?_
  refine r_ni (m_run (As := [.ref ((D.2.1 11)), .int (iI a2), .int (iI a3), .int (iI ((-1)))]) (rest := []) (n := 4) X Y hZ hA hml hl.1 (r_M_sequence_n l D E h q H.size I J B G 11 (show 11 < nZ by decide) a2 (by omega) (by omega) a3 (by omega) (by omega) S.1 r mm gm (isF mm r) (by decide) (fun ty h9 => ih ty (tyrk (i := 11) (by decide) h9).2 (Nat.le_trans (tyrk (i := 11) (by decide) h9).1 (show rki 11 ≤ r from Nat.le_trans (show rki 11 ≤ 0 by decide) hr0))) f_P1 (by omega) (by omega)) kl_M_sequence ks_M_sequence kx_M_sequence ki_M_sequence ini_M hd_M_sequence ⟨by simp only [mR]; omega, by simp only [mR]; omega⟩ rfl (Nat.le_of_ble_eq_true rfl) d_M_is_574 ⟨Nat.le_refl _, Nat.le_refl _⟩) X Y hA S (by decide) (by decide) (fun z101 u H locs Y S s101 p101 => ?_)
  obtain ⟨I101, J101, B101, G101⟩ := u
  dsimp only at Y S s101 p101
  obtain ⟨l101, u101, x101, g101_P1⟩ := p101
  exact m_retz hQQ X Y hr hlk (iI_bool (by omega) (by omega)).1 ⟨S, z101, rfl, ⟨by omega, by omega, iff_eq is_108 x101, g101_P1⟩⟩ d_M_is_577
set_option maxHeartbeats 4000000 in
set_option maxRecDepth 100000 in
theorem r_M_is_78 (l : Launch) (D : mD) (E : mE) (h : Nat) (q : Nat → Nat) (sz : Nat) (I : Nat → Int32) (J : Nat → Int64) (B : Nat → Nat → Int32) (G : Nat → Nat → Int64) (a2 : Int) (l_a2 : (-1) ≤ a2) (u_a2 : a2 ≤ 30000) (a3 : Int) (l_a3 : (-1) ≤ a3) (u_a3 : a3 ≤ 30000) (hT : rT I B) (r : Nat) (hr0 : 1 ≤ r) (mm : Nat → Int32) (gm : B 0 = mm) (ih : ∀ ty : Int, kn ty → rk ty ≤ r → CIs l D E h q r mm ty (isF mm r ty)) (f_P1 : pG1 I) (q0 : 0 ≤ a2 ∨ a3 < a2 + 2) (q1 : a3 - a2 ≤ 4200) : Met l y_M_is (k_M_is :: lw_tg) (mR (10 + 6 * (r + 1)) (400 + 300 * (r + 1))) (va_Pc [.ref h, .int (iI 78), .int (iI a2), .int (iI a3)] (mPre D E h q (I, J, B, G) sz)) (va_Qi (rPi [39, 40] [] I B (fun (z : Int) (u : mS) => 0 ≤ z ∧ z ≤ 1 ∧ (z = 1 ↔ isF mm (r + 1) 78 a2 a3) ∧ pG1 u.1)) (mPost D E h q (mA E h q sz)) (mA E h q sz)) 0 0 (mA E h q sz) := by
  refine m_enter (by decide) rfl (Nat.le_of_ble_eq_true rfl) (fun p e s m below meth c ls AV QQ H locs hQQ X Y hZ hA hr hlk hml hl => ?_)
  have Y : mH D E (mA E h q sz) s.heap h q I J B G H locs := Y
  have S : rS [39, 40] [] I B I B := rS_rf hT
  have hl : lv_has ls 6 [(0, .ref h), (1, .int (iI 78)), (2, .int (iI a2)), (3, .int (iI a3))] := hl
  refine lv_iload_n X.1 X.2.1 d_M_is_0 rfl (lv_at hl 1 rfl) ?_
  refine lv_tableIn (off := 416) (tgt := 417) X.1 X.2.1 d_M_is_1 (by decide) (by decide) (by decide) (by decide) ?_
  refine lv_aload_n X.1 X.2.1 d_M_is_417 rfl (lv_at hl 0 rfl) ?_
  refine m_ldcSW (i := 4) X (by decide) (by decide) d_M_is_418 ?_
  refine lv_iload_n X.1 X.2.1 d_M_is_421 rfl (lv_at hl 2 rfl) ?_
  refine lv_iload_n X.1 X.2.1 d_M_is_422 rfl (lv_at hl 3 rfl) ?_
  refine lv_iconst (v := iI (-1)) X.1 X.2.1 d_M_is_423 (by decide) ?_
  refine r_ni (m_run (As := [.ref ((D.2.1 4)), .int (iI a2), .int (iI a3), .int (iI ((-1)))]) (rest := []) (n := 4) X Y hZ hA hml hl.1 (r_M_sequence_n l D E h q H.size I J B G 4 (show 4 < nZ by decide) a2 (by omega) (by omega) a3 (by omega) (by omega) S.1 r mm gm (isF mm r) (by decide) (fun ty h9 => ih ty (tyrk (i := 4) (by decide) h9).2 (Nat.le_trans (tyrk (i := 4) (by decide) h9).1 (show rki 4 ≤ r from Nat.le_trans (show rki 4 ≤ 1 by decide) hr0))) f_P1 (by omega) (by omega)) kl_M_sequence ks_M_sequence kx_M_sequence ki_M_sequence ini_M hd_M_sequence ⟨by simp only [mR]; omega, by simp only [mR]; omega⟩ rfl (Nat.le_of_ble_eq_true rfl) d_M_is_424 ⟨Nat.le_refl _, Nat.le_refl _⟩) X Y hA S (by decide) (by decide) (fun z101 u H locs Y S s101 p101 => ?_)
  obtain ⟨I101, J101, B101, G101⟩ := u
  dsimp only at Y S s101 p101
  obtain ⟨l101, u101, x101, g101_P1⟩ := p101
  exact m_retz hQQ X Y hr hlk (iI_bool (by omega) (by omega)).1 ⟨S, z101, rfl, ⟨by omega, by omega, iff_eq is_78 x101, g101_P1⟩⟩ d_M_is_427
set_option maxHeartbeats 4000000 in
set_option maxRecDepth 100000 in
theorem r_M_is_104 (l : Launch) (D : mD) (E : mE) (h : Nat) (q : Nat → Nat) (sz : Nat) (I : Nat → Int32) (J : Nat → Int64) (B : Nat → Nat → Int32) (G : Nat → Nat → Int64) (a2 : Int) (l_a2 : (-1) ≤ a2) (u_a2 : a2 ≤ 30000) (a3 : Int) (l_a3 : (-1) ≤ a3) (u_a3 : a3 ≤ 30000) (hT : rT I B) (r : Nat) (hr0 : 1 ≤ r) (mm : Nat → Int32) (gm : B 0 = mm) (ih : ∀ ty : Int, kn ty → rk ty ≤ r → CIs l D E h q r mm ty (isF mm r ty)) (f_P1 : pG1 I) (q0 : 0 ≤ a2 ∨ a3 < a2 + 2) (q1 : a3 - a2 ≤ 4200) : Met l y_M_is (k_M_is :: lw_tg) (mR (10 + 6 * (r + 1)) (400 + 300 * (r + 1))) (va_Pc [.ref h, .int (iI 104), .int (iI a2), .int (iI a3)] (mPre D E h q (I, J, B, G) sz)) (va_Qi (rPi [39, 40] [] I B (fun (z : Int) (u : mS) => 0 ≤ z ∧ z ≤ 1 ∧ (z = 1 ↔ isF mm (r + 1) 104 a2 a3) ∧ pG1 u.1)) (mPost D E h q (mA E h q sz)) (mA E h q sz)) 0 0 (mA E h q sz) := by
  refine m_enter (by decide) rfl (Nat.le_of_ble_eq_true rfl) (fun p e s m below meth c ls AV QQ H locs hQQ X Y hZ hA hr hlk hml hl => ?_)
  have Y : mH D E (mA E h q sz) s.heap h q I J B G H locs := Y
  have S : rS [39, 40] [] I B I B := rS_rf hT
  have hl : lv_has ls 6 [(0, .ref h), (1, .int (iI 104)), (2, .int (iI a2)), (3, .int (iI a3))] := hl
  refine lv_iload_n X.1 X.2.1 d_M_is_0 rfl (lv_at hl 1 rfl) ?_
  refine lv_tableIn (off := 470) (tgt := 471) X.1 X.2.1 d_M_is_1 (by decide) (by decide) (by decide) (by decide) ?_
  refine lv_aload_n X.1 X.2.1 d_M_is_471 rfl (lv_at hl 0 rfl) ?_
  refine lv_bipush (v := iI 72) X.1 X.2.1 d_M_is_472 (by decide) ?_
  refine lv_iload_n X.1 X.2.1 d_M_is_474 rfl (lv_at hl 2 rfl) ?_
  refine lv_iload_n X.1 X.2.1 d_M_is_475 rfl (lv_at hl 3 rfl) ?_
  refine r_ni (m_run (As := [.int (iI 72), .int (iI a2), .int (iI a3)]) (rest := []) (n := 3) X Y hZ hA hml hl.1 (r_M_row l D E h q H.size I J B G 72 (by omega) (by omega) a2 (by omega) (by omega) a3 (by omega) (by omega) S.1 r mm gm (isF mm r 72) (ih 72 (by unfold kn; decide) (Nat.le_trans (show rk 72 ≤ 1 by decide) hr0)) f_P1 (by omega) (by omega)) kl_M_row ks_M_row kx_M_row ki_M_row ini_M hd_M_row ⟨by simp only [mR]; omega, by simp only [mR]; omega⟩ rfl (Nat.le_of_ble_eq_true rfl) d_M_is_476 ⟨Nat.le_refl _, Nat.le_refl _⟩) X Y hA S (by decide) (by decide) (fun z101 u H locs Y S s101 p101 => ?_)
  obtain ⟨I101, J101, B101, G101⟩ := u
  dsimp only at Y S s101 p101
  obtain ⟨l101, u101, x101, g101_P1⟩ := p101
  exact m_retz hQQ X Y hr hlk (iI_bool (by omega) (by omega)).1 ⟨S, z101, rfl, ⟨by omega, by omega, iff_eq is_104 x101, g101_P1⟩⟩ d_M_is_479
set_option maxHeartbeats 4000000 in
set_option maxRecDepth 100000 in
theorem r_M_is_65 (l : Launch) (D : mD) (E : mE) (h : Nat) (q : Nat → Nat) (sz : Nat) (I : Nat → Int32) (J : Nat → Int64) (B : Nat → Nat → Int32) (G : Nat → Nat → Int64) (a2 : Int) (l_a2 : (-1) ≤ a2) (u_a2 : a2 ≤ 30000) (a3 : Int) (l_a3 : (-1) ≤ a3) (u_a3 : a3 ≤ 30000) (hT : rT I B) (r : Nat) (hr0 : 1 ≤ r) (mm : Nat → Int32) (gm : B 0 = mm) (ih : ∀ ty : Int, kn ty → rk ty ≤ r → CIs l D E h q r mm ty (isF mm r ty)) (f_P1 : pG1 I) (q0 : 0 ≤ a2 ∨ a3 < a2 + 2) (q1 : a3 - a2 ≤ 4200) : Met l y_M_is (k_M_is :: lw_tg) (mR (10 + 6 * (r + 1)) (400 + 300 * (r + 1))) (va_Pc [.ref h, .int (iI 65), .int (iI a2), .int (iI a3)] (mPre D E h q (I, J, B, G) sz)) (va_Qi (rPi [39, 40] [] I B (fun (z : Int) (u : mS) => 0 ≤ z ∧ z ≤ 1 ∧ (z = 1 ↔ isF mm (r + 1) 65 a2 a3) ∧ pG1 u.1)) (mPost D E h q (mA E h q sz)) (mA E h q sz)) 0 0 (mA E h q sz) := by
  refine m_enter (by decide) rfl (Nat.le_of_ble_eq_true rfl) (fun p e s m below meth c ls AV QQ H locs hQQ X Y hZ hA hr hlk hml hl => ?_)
  have Y : mH D E (mA E h q sz) s.heap h q I J B G H locs := Y
  have S : rS [39, 40] [] I B I B := rS_rf hT
  have hl : lv_has ls 6 [(0, .ref h), (1, .int (iI 65)), (2, .int (iI a2)), (3, .int (iI a3))] := hl
  refine lv_iload_n X.1 X.2.1 d_M_is_0 rfl (lv_at hl 1 rfl) ?_
  refine lv_tableIn (off := 479) (tgt := 480) X.1 X.2.1 d_M_is_1 (by decide) (by decide) (by decide) (by decide) ?_
  refine lv_aload_n X.1 X.2.1 d_M_is_480 rfl (lv_at hl 0 rfl) ?_
  refine lv_bipush (v := iI 75) X.1 X.2.1 d_M_is_481 (by decide) ?_
  refine lv_iload_n X.1 X.2.1 d_M_is_483 rfl (lv_at hl 2 rfl) ?_
  refine lv_iload_n X.1 X.2.1 d_M_is_484 rfl (lv_at hl 3 rfl) ?_
  refine r_ni (m_run (As := [.int (iI 75), .int (iI a2), .int (iI a3)]) (rest := []) (n := 3) X Y hZ hA hml hl.1 (r_M_row l D E h q H.size I J B G 75 (by omega) (by omega) a2 (by omega) (by omega) a3 (by omega) (by omega) S.1 r mm gm (isF mm r 75) (ih 75 (by unfold kn; decide) (Nat.le_trans (show rk 75 ≤ 1 by decide) hr0)) f_P1 (by omega) (by omega)) kl_M_row ks_M_row kx_M_row ki_M_row ini_M hd_M_row ⟨by simp only [mR]; omega, by simp only [mR]; omega⟩ rfl (Nat.le_of_ble_eq_true rfl) d_M_is_485 ⟨Nat.le_refl _, Nat.le_refl _⟩) X Y hA S (by decide) (by decide) (fun z101 u H locs Y S s101 p101 => ?_)
  obtain ⟨I101, J101, B101, G101⟩ := u
  dsimp only at Y S s101 p101
  obtain ⟨l101, u101, x101, g101_P1⟩ := p101
  exact m_retz hQQ X Y hr hlk (iI_bool (by omega) (by omega)).1 ⟨S, z101, rfl, ⟨by omega, by omega, iff_eq is_65 x101, g101_P1⟩⟩ d_M_is_488
set_option maxHeartbeats 4000000 in
set_option maxRecDepth 100000 in
theorem r_M_is_80 (l : Launch) (D : mD) (E : mE) (h : Nat) (q : Nat → Nat) (sz : Nat) (I : Nat → Int32) (J : Nat → Int64) (B : Nat → Nat → Int32) (G : Nat → Nat → Int64) (a2 : Int) (l_a2 : (-1) ≤ a2) (u_a2 : a2 ≤ 30000) (a3 : Int) (l_a3 : (-1) ≤ a3) (u_a3 : a3 ≤ 30000) (hT : rT I B) (r : Nat) (hr0 : 1 ≤ r) (mm : Nat → Int32) (gm : B 0 = mm) (ih : ∀ ty : Int, kn ty → rk ty ≤ r → CIs l D E h q r mm ty (isF mm r ty)) (f_P1 : pG1 I) (q0 : 0 ≤ a2 ∨ a3 < a2 + 2) (q1 : a3 - a2 ≤ 4200) : Met l y_M_is (k_M_is :: lw_tg) (mR (10 + 6 * (r + 1)) (400 + 300 * (r + 1))) (va_Pc [.ref h, .int (iI 80), .int (iI a2), .int (iI a3)] (mPre D E h q (I, J, B, G) sz)) (va_Qi (rPi [39, 40] [] I B (fun (z : Int) (u : mS) => 0 ≤ z ∧ z ≤ 1 ∧ (z = 1 ↔ isF mm (r + 1) 80 a2 a3) ∧ pG1 u.1)) (mPost D E h q (mA E h q sz)) (mA E h q sz)) 0 0 (mA E h q sz) := by
  refine m_enter (by decide) rfl (Nat.le_of_ble_eq_true rfl) (fun p e s m below meth c ls AV QQ H locs hQQ X Y hZ hA hr hlk hml hl => ?_)
  have Y : mH D E (mA E h q sz) s.heap h q I J B G H locs := Y
  have S : rS [39, 40] [] I B I B := rS_rf hT
  have hl : lv_has ls 6 [(0, .ref h), (1, .int (iI 80)), (2, .int (iI a2)), (3, .int (iI a3))] := hl
  refine lv_iload_n X.1 X.2.1 d_M_is_0 rfl (lv_at hl 1 rfl) ?_
  refine lv_tableIn (off := 488) (tgt := 489) X.1 X.2.1 d_M_is_1 (by decide) (by decide) (by decide) (by decide) ?_
  refine lv_aload_n X.1 X.2.1 d_M_is_489 rfl (lv_at hl 0 rfl) ?_
  refine lv_bipush (v := iI 112) X.1 X.2.1 d_M_is_490 (by decide) ?_
  refine lv_iload_n X.1 X.2.1 d_M_is_492 rfl (lv_at hl 2 rfl) ?_
  refine lv_iload_n X.1 X.2.1 d_M_is_493 rfl (lv_at hl 3 rfl) ?_
  refine r_ni (m_run (As := [.int (iI 112), .int (iI a2), .int (iI a3)]) (rest := []) (n := 3) X Y hZ hA hml hl.1 (r_M_row l D E h q H.size I J B G 112 (by omega) (by omega) a2 (by omega) (by omega) a3 (by omega) (by omega) S.1 r mm gm (isF mm r 112) (ih 112 (by unfold kn; decide) (Nat.le_trans (show rk 112 ≤ 1 by decide) hr0)) f_P1 (by omega) (by omega)) kl_M_row ks_M_row kx_M_row ki_M_row ini_M hd_M_row ⟨by simp only [mR]; omega, by simp only [mR]; omega⟩ rfl (Nat.le_of_ble_eq_true rfl) d_M_is_494 ⟨Nat.le_refl _, Nat.le_refl _⟩) X Y hA S (by decide) (by decide) (fun z101 u H locs Y S s101 p101 => ?_)
  obtain ⟨I101, J101, B101, G101⟩ := u
  dsimp only at Y S s101 p101
  obtain ⟨l101, u101, x101, g101_P1⟩ := p101
  exact m_retz hQQ X Y hr hlk (iI_bool (by omega) (by omega)).1 ⟨S, z101, rfl, ⟨by omega, by omega, iff_eq is_80 x101, g101_P1⟩⟩ d_M_is_497
set_option maxHeartbeats 4000000 in
set_option maxRecDepth 100000 in
theorem r_M_is_76 (l : Launch) (D : mD) (E : mE) (h : Nat) (q : Nat → Nat) (sz : Nat) (I : Nat → Int32) (J : Nat → Int64) (B : Nat → Nat → Int32) (G : Nat → Nat → Int64) (a2 : Int) (l_a2 : (-1) ≤ a2) (u_a2 : a2 ≤ 30000) (a3 : Int) (l_a3 : (-1) ≤ a3) (u_a3 : a3 ≤ 30000) (hT : rT I B) (r : Nat) (hr0 : 1 ≤ r) (mm : Nat → Int32) (gm : B 0 = mm) (ih : ∀ ty : Int, kn ty → rk ty ≤ r → CIs l D E h q r mm ty (isF mm r ty)) (f_P1 : pG1 I) (q0 : 0 ≤ a2 ∨ a3 < a2 + 2) (q1 : a3 - a2 ≤ 4200) : Met l y_M_is (k_M_is :: lw_tg) (mR (10 + 6 * (r + 1)) (400 + 300 * (r + 1))) (va_Pc [.ref h, .int (iI 76), .int (iI a2), .int (iI a3)] (mPre D E h q (I, J, B, G) sz)) (va_Qi (rPi [39, 40] [] I B (fun (z : Int) (u : mS) => 0 ≤ z ∧ z ≤ 1 ∧ (z = 1 ↔ isF mm (r + 1) 76 a2 a3) ∧ pG1 u.1)) (mPost D E h q (mA E h q sz)) (mA E h q sz)) 0 0 (mA E h q sz) := by
  refine m_enter (by decide) rfl (Nat.le_of_ble_eq_true rfl) (fun p e s m below meth c ls AV QQ H locs hQQ X Y hZ hA hr hlk hml hl => ?_)
  have Y : mH D E (mA E h q sz) s.heap h q I J B G H locs := Y
  have S : rS [39, 40] [] I B I B := rS_rf hT
  have hl : lv_has ls 6 [(0, .ref h), (1, .int (iI 76)), (2, .int (iI a2)), (3, .int (iI a3))] := hl
  refine lv_iload_n X.1 X.2.1 d_M_is_0 rfl (lv_at hl 1 rfl) ?_
  refine lv_tableIn (off := 557) (tgt := 558) X.1 X.2.1 d_M_is_1 (by decide) (by decide) (by decide) (by decide) ?_
  refine lv_aload_n X.1 X.2.1 d_M_is_558 rfl (lv_at hl 0 rfl) ?_
  refine lv_bipush (v := iI 108) X.1 X.2.1 d_M_is_559 (by decide) ?_
  refine lv_iload_n X.1 X.2.1 d_M_is_561 rfl (lv_at hl 2 rfl) ?_
  refine lv_iload_n X.1 X.2.1 d_M_is_562 rfl (lv_at hl 3 rfl) ?_
  refine r_ni (m_run (As := [.int (iI 108), .int (iI a2), .int (iI a3)]) (rest := []) (n := 3) X Y hZ hA hml hl.1 (r_M_row l D E h q H.size I J B G 108 (by omega) (by omega) a2 (by omega) (by omega) a3 (by omega) (by omega) S.1 r mm gm (isF mm r 108) (ih 108 (by unfold kn; decide) (Nat.le_trans (show rk 108 ≤ 1 by decide) hr0)) f_P1 (by omega) (by omega)) kl_M_row ks_M_row kx_M_row ki_M_row ini_M hd_M_row ⟨by simp only [mR]; omega, by simp only [mR]; omega⟩ rfl (Nat.le_of_ble_eq_true rfl) d_M_is_563 ⟨Nat.le_refl _, Nat.le_refl _⟩) X Y hA S (by decide) (by decide) (fun z101 u H locs Y S s101 p101 => ?_)
  obtain ⟨I101, J101, B101, G101⟩ := u
  dsimp only at Y S s101 p101
  obtain ⟨l101, u101, x101, g101_P1⟩ := p101
  exact m_retz hQQ X Y hr hlk (iI_bool (by omega) (by omega)).1 ⟨S, z101, rfl, ⟨by omega, by omega, iff_eq is_76 x101, g101_P1⟩⟩ d_M_is_566
set_option maxHeartbeats 4000000 in
set_option maxRecDepth 100000 in
theorem r_M_is_89 (l : Launch) (D : mD) (E : mE) (h : Nat) (q : Nat → Nat) (sz : Nat) (I : Nat → Int32) (J : Nat → Int64) (B : Nat → Nat → Int32) (G : Nat → Nat → Int64) (a2 : Int) (l_a2 : (-1) ≤ a2) (u_a2 : a2 ≤ 30000) (a3 : Int) (l_a3 : (-1) ≤ a3) (u_a3 : a3 ≤ 30000) (hT : rT I B) (r : Nat) (hr0 : 1 ≤ r) (mm : Nat → Int32) (gm : B 0 = mm) (ih : ∀ ty : Int, kn ty → rk ty ≤ r → CIs l D E h q r mm ty (isF mm r ty)) (f_P1 : pG1 I) (q0 : 0 ≤ a2 ∨ a3 < a2 + 2) (q1 : a3 - a2 ≤ 4200) : Met l y_M_is (k_M_is :: lw_tg) (mR (10 + 6 * (r + 1)) (400 + 300 * (r + 1))) (va_Pc [.ref h, .int (iI 89), .int (iI a2), .int (iI a3)] (mPre D E h q (I, J, B, G) sz)) (va_Qi (rPi [39, 40] [] I B (fun (z : Int) (u : mS) => 0 ≤ z ∧ z ≤ 1 ∧ (z = 1 ↔ isF mm (r + 1) 89 a2 a3) ∧ pG1 u.1)) (mPost D E h q (mA E h q sz)) (mA E h q sz)) 0 0 (mA E h q sz) := by
  refine m_enter (by decide) rfl (Nat.le_of_ble_eq_true rfl) (fun p e s m below meth c ls AV QQ H locs hQQ X Y hZ hA hr hlk hml hl => ?_)
  have Y : mH D E (mA E h q sz) s.heap h q I J B G H locs := Y
  have S : rS [39, 40] [] I B I B := rS_rf hT
  have hl : lv_has ls 6 [(0, .ref h), (1, .int (iI 89)), (2, .int (iI a2)), (3, .int (iI a3))] := hl
  refine lv_iload_n X.1 X.2.1 d_M_is_0 rfl (lv_at hl 1 rfl) ?_
  refine lv_tableIn (off := 526) (tgt := 527) X.1 X.2.1 d_M_is_1 (by decide) (by decide) (by decide) (by decide) ?_
  refine lv_aload_n X.1 X.2.1 d_M_is_527 rfl (lv_at hl 0 rfl) ?_
  refine m_ldcSW (i := 9) X (by decide) (by decide) d_M_is_528 ?_
  refine lv_iload_n X.1 X.2.1 d_M_is_531 rfl (lv_at hl 2 rfl) ?_
  refine lv_iload_n X.1 X.2.1 d_M_is_532 rfl (lv_at hl 3 rfl) ?_
  refine lv_iconst (v := iI (-1)) X.1 X.2.1 d_M_is_533 (by decide) ?_
  refine r_ni (m_run (As := [.ref ((D.2.1 9)), .int (iI a2), .int (iI a3), .int (iI ((-1)))]) (rest := []) (n := 4) X Y hZ hA hml hl.1 (r_M_sequence_n l D E h q H.size I J B G 9 (show 9 < nZ by decide) a2 (by omega) (by omega) a3 (by omega) (by omega) S.1 r mm gm (isF mm r) (by decide) (fun ty h9 => ih ty (tyrk (i := 9) (by decide) h9).2 (Nat.le_trans (tyrk (i := 9) (by decide) h9).1 (show rki 9 ≤ r from Nat.le_trans (show rki 9 ≤ 1 by decide) hr0))) f_P1 (by omega) (by omega)) kl_M_sequence ks_M_sequence kx_M_sequence ki_M_sequence ini_M hd_M_sequence ⟨by simp only [mR]; omega, by simp only [mR]; omega⟩ rfl (Nat.le_of_ble_eq_true rfl) d_M_is_534 ⟨Nat.le_refl _, Nat.le_refl _⟩) X Y hA S (by decide) (by decide) (fun z101 u H locs Y S s101 p101 => ?_)
  obtain ⟨I101, J101, B101, G101⟩ := u
  dsimp only at Y S s101 p101
  obtain ⟨l101, u101, x101, g101_P1⟩ := p101
  exact m_retz hQQ X Y hr hlk (iI_bool (by omega) (by omega)).1 ⟨S, z101, rfl, ⟨by omega, by omega, iff_eq is_89 x101, g101_P1⟩⟩ d_M_is_537
set_option maxHeartbeats 4000000 in
set_option maxRecDepth 100000 in
theorem r_M_is_84 (l : Launch) (D : mD) (E : mE) (h : Nat) (q : Nat → Nat) (sz : Nat) (I : Nat → Int32) (J : Nat → Int64) (B : Nat → Nat → Int32) (G : Nat → Nat → Int64) (a2 : Int) (l_a2 : (-1) ≤ a2) (u_a2 : a2 ≤ 30000) (a3 : Int) (l_a3 : (-1) ≤ a3) (u_a3 : a3 ≤ 30000) (hT : rT I B) (r : Nat) (hr0 : 2 ≤ r) (mm : Nat → Int32) (gm : B 0 = mm) (ih : ∀ ty : Int, kn ty → rk ty ≤ r → CIs l D E h q r mm ty (isF mm r ty)) (f_P1 : pG1 I) (q0 : 0 ≤ a2 ∨ a3 < a2 + 2) (q1 : a3 - a2 ≤ 4200) : Met l y_M_is (k_M_is :: lw_tg) (mR (10 + 6 * (r + 1)) (400 + 300 * (r + 1))) (va_Pc [.ref h, .int (iI 84), .int (iI a2), .int (iI a3)] (mPre D E h q (I, J, B, G) sz)) (va_Qi (rPi [39, 40] [] I B (fun (z : Int) (u : mS) => 0 ≤ z ∧ z ≤ 1 ∧ (z = 1 ↔ isF mm (r + 1) 84 a2 a3) ∧ pG1 u.1)) (mPost D E h q (mA E h q sz)) (mA E h q sz)) 0 0 (mA E h q sz) := by
  refine m_enter (by decide) rfl (Nat.le_of_ble_eq_true rfl) (fun p e s m below meth c ls AV QQ H locs hQQ X Y hZ hA hr hlk hml hl => ?_)
  have Y : mH D E (mA E h q sz) s.heap h q I J B G H locs := Y
  have S : rS [39, 40] [] I B I B := rS_rf hT
  have hl : lv_has ls 6 [(0, .ref h), (1, .int (iI 84)), (2, .int (iI a2)), (3, .int (iI a3))] := hl
  refine lv_iload_n X.1 X.2.1 d_M_is_0 rfl (lv_at hl 1 rfl) ?_
  refine lv_tableIn (off := 458) (tgt := 459) X.1 X.2.1 d_M_is_1 (by decide) (by decide) (by decide) (by decide) ?_
  refine lv_aload_n X.1 X.2.1 d_M_is_459 rfl (lv_at hl 0 rfl) ?_
  refine lv_iconst (v := iI 1) X.1 X.2.1 d_M_is_460 (by decide) ?_
  refine m_ldcSW (i := 7) X (by decide) (by decide) d_M_is_461 ?_
  refine lv_iload_n X.1 X.2.1 d_M_is_464 rfl (lv_at hl 2 rfl) ?_
  refine lv_iload_n X.1 X.2.1 d_M_is_465 rfl (lv_at hl 3 rfl) ?_
  refine lv_iconst (v := iI (-1)) X.1 X.2.1 d_M_is_466 (by decide) ?_
  refine r_ni (m_run (As := [.int (iI 1), .ref ((D.2.1 7)), .int (iI a2), .int (iI a3), .int (iI ((-1)))]) (rest := []) (n := 5) X Y hZ hA hml hl.1 (r_M_applied_n l D E h q H.size I J B G 1 (by omega) (by omega) 7 (show 7 < nZ by decide) a2 (by omega) (by omega) a3 (by omega) (by omega) S.1 r mm gm (isF mm r) (by decide) (fun ty h9 => ih ty (tyrk (i := 7) (by decide) h9).2 (Nat.le_trans (tyrk (i := 7) (by decide) h9).1 (show rki 7 ≤ r from Nat.le_trans (show rki 7 ≤ 2 by decide) hr0))) f_P1 (by omega) (by omega)) kl_M_applied ks_M_applied kx_M_applied ki_M_applied ini_M hd_M_applied ⟨by simp only [mR]; omega, by simp only [mR]; omega⟩ rfl (Nat.le_of_ble_eq_true rfl) d_M_is_467 ⟨Nat.le_refl _, Nat.le_refl _⟩) X Y hA S (by decide) (by decide) (fun z101 u H locs Y S s101 p101 => ?_)
  obtain ⟨I101, J101, B101, G101⟩ := u
  dsimp only at Y S s101 p101
  obtain ⟨l101, u101, x101, g101_P1⟩ := p101
  exact m_retz hQQ X Y hr hlk (iI_bool (by omega) (by omega)).1 ⟨S, z101, rfl, ⟨by omega, by omega, iff_eq is_84 x101, g101_P1⟩⟩ d_M_is_470
set_option maxHeartbeats 4000000 in
set_option maxRecDepth 100000 in
theorem r_M_is_73 (l : Launch) (D : mD) (E : mE) (h : Nat) (q : Nat → Nat) (sz : Nat) (I : Nat → Int32) (J : Nat → Int64) (B : Nat → Nat → Int32) (G : Nat → Nat → Int64) (a2 : Int) (l_a2 : (-1) ≤ a2) (u_a2 : a2 ≤ 30000) (a3 : Int) (l_a3 : (-1) ≤ a3) (u_a3 : a3 ≤ 30000) (hT : rT I B) (r : Nat) (hr0 : 2 ≤ r) (mm : Nat → Int32) (gm : B 0 = mm) (ih : ∀ ty : Int, kn ty → rk ty ≤ r → CIs l D E h q r mm ty (isF mm r ty)) (f_P1 : pG1 I) (q0 : 0 ≤ a2 ∨ a3 < a2 + 2) (q1 : a3 - a2 ≤ 4200) : Met l y_M_is (k_M_is :: lw_tg) (mR (10 + 6 * (r + 1)) (400 + 300 * (r + 1))) (va_Pc [.ref h, .int (iI 73), .int (iI a2), .int (iI a3)] (mPre D E h q (I, J, B, G) sz)) (va_Qi (rPi [39, 40] [] I B (fun (z : Int) (u : mS) => 0 ≤ z ∧ z ≤ 1 ∧ (z = 1 ↔ isF mm (r + 1) 73 a2 a3) ∧ pG1 u.1)) (mPost D E h q (mA E h q sz)) (mA E h q sz)) 0 0 (mA E h q sz) := by
  refine m_enter (by decide) rfl (Nat.le_of_ble_eq_true rfl) (fun p e s m below meth c ls AV QQ H locs hQQ X Y hZ hA hr hlk hml hl => ?_)
  have Y : mH D E (mA E h q sz) s.heap h q I J B G H locs := Y
  have S : rS [39, 40] [] I B I B := rS_rf hT
  have hl : lv_has ls 6 [(0, .ref h), (1, .int (iI 73)), (2, .int (iI a2)), (3, .int (iI a3))] := hl
  refine lv_iload_n X.1 X.2.1 d_M_is_0 rfl (lv_at hl 1 rfl) ?_
  refine lv_tableIn (off := 546) (tgt := 547) X.1 X.2.1 d_M_is_1 (by decide) (by decide) (by decide) (by decide) ?_
  refine lv_aload_n X.1 X.2.1 d_M_is_547 rfl (lv_at hl 0 rfl) ?_
  refine m_ldcSW (i := 10) X (by decide) (by decide) d_M_is_548 ?_
  refine lv_iload_n X.1 X.2.1 d_M_is_551 rfl (lv_at hl 2 rfl) ?_
  refine lv_iload_n X.1 X.2.1 d_M_is_552 rfl (lv_at hl 3 rfl) ?_
  refine lv_iconst (v := iI (-1)) X.1 X.2.1 d_M_is_553 (by decide) ?_
  refine r_ni (m_run (As := [.ref ((D.2.1 10)), .int (iI a2), .int (iI a3), .int (iI ((-1)))]) (rest := []) (n := 4) X Y hZ hA hml hl.1 (r_M_sequence_n l D E h q H.size I J B G 10 (show 10 < nZ by decide) a2 (by omega) (by omega) a3 (by omega) (by omega) S.1 r mm gm (isF mm r) (by decide) (fun ty h9 => ih ty (tyrk (i := 10) (by decide) h9).2 (Nat.le_trans (tyrk (i := 10) (by decide) h9).1 (show rki 10 ≤ r from Nat.le_trans (show rki 10 ≤ 2 by decide) hr0))) f_P1 (by omega) (by omega)) kl_M_sequence ks_M_sequence kx_M_sequence ki_M_sequence ini_M hd_M_sequence ⟨by simp only [mR]; omega, by simp only [mR]; omega⟩ rfl (Nat.le_of_ble_eq_true rfl) d_M_is_554 ⟨Nat.le_refl _, Nat.le_refl _⟩) X Y hA S (by decide) (by decide) (fun z101 u H locs Y S s101 p101 => ?_)
  obtain ⟨I101, J101, B101, G101⟩ := u
  dsimp only at Y S s101 p101
  obtain ⟨l101, u101, x101, g101_P1⟩ := p101
  exact m_retz hQQ X Y hr hlk (iI_bool (by omega) (by omega)).1 ⟨S, z101, rfl, ⟨by omega, by omega, iff_eq is_73 x101, g101_P1⟩⟩ d_M_is_557
set_option maxHeartbeats 4000000 in
set_option maxRecDepth 100000 in
theorem r_M_is_107 (l : Launch) (D : mD) (E : mE) (h : Nat) (q : Nat → Nat) (sz : Nat) (I : Nat → Int32) (J : Nat → Int64) (B : Nat → Nat → Int32) (G : Nat → Nat → Int64) (a2 : Int) (l_a2 : (-1) ≤ a2) (u_a2 : a2 ≤ 30000) (a3 : Int) (l_a3 : (-1) ≤ a3) (u_a3 : a3 ≤ 30000) (hT : rT I B) (r : Nat) (hr0 : 3 ≤ r) (mm : Nat → Int32) (gm : B 0 = mm) (ih : ∀ ty : Int, kn ty → rk ty ≤ r → CIs l D E h q r mm ty (isF mm r ty)) (f_P1 : pG1 I) (q0 : 0 ≤ a2 ∨ a3 < a2 + 2) (q1 : a3 - a2 ≤ 4200) : Met l y_M_is (k_M_is :: lw_tg) (mR (10 + 6 * (r + 1)) (400 + 300 * (r + 1))) (va_Pc [.ref h, .int (iI 107), .int (iI a2), .int (iI a3)] (mPre D E h q (I, J, B, G) sz)) (va_Qi (rPi [39, 40] [] I B (fun (z : Int) (u : mS) => 0 ≤ z ∧ z ≤ 1 ∧ (z = 1 ↔ isF mm (r + 1) 107 a2 a3) ∧ pG1 u.1)) (mPost D E h q (mA E h q sz)) (mA E h q sz)) 0 0 (mA E h q sz) := by
  refine m_enter (by decide) rfl (Nat.le_of_ble_eq_true rfl) (fun p e s m below meth c ls AV QQ H locs hQQ X Y hZ hA hr hlk hml hl => ?_)
  have Y : mH D E (mA E h q sz) s.heap h q I J B G H locs := Y
  have S : rS [39, 40] [] I B I B := rS_rf hT
  have hl : lv_has ls 6 [(0, .ref h), (1, .int (iI 107)), (2, .int (iI a2)), (3, .int (iI a3))] := hl
  refine lv_iload_n X.1 X.2.1 d_M_is_0 rfl (lv_at hl 1 rfl) ?_
  refine lv_tableIn (off := 517) (tgt := 518) X.1 X.2.1 d_M_is_1 (by decide) (by decide) (by decide) (by decide) ?_
  refine lv_aload_n X.1 X.2.1 d_M_is_518 rfl (lv_at hl 0 rfl) ?_
  refine lv_bipush (v := iI 84) X.1 X.2.1 d_M_is_519 (by decide) ?_
  refine lv_iload_n X.1 X.2.1 d_M_is_521 rfl (lv_at hl 2 rfl) ?_
  refine lv_iload_n X.1 X.2.1 d_M_is_522 rfl (lv_at hl 3 rfl) ?_
  refine r_ni (m_run (As := [.int (iI 84), .int (iI a2), .int (iI a3)]) (rest := []) (n := 3) X Y hZ hA hml hl.1 (r_M_row l D E h q H.size I J B G 84 (by omega) (by omega) a2 (by omega) (by omega) a3 (by omega) (by omega) S.1 r mm gm (isF mm r 84) (ih 84 (by unfold kn; decide) (Nat.le_trans (show rk 84 ≤ 3 by decide) hr0)) f_P1 (by omega) (by omega)) kl_M_row ks_M_row kx_M_row ki_M_row ini_M hd_M_row ⟨by simp only [mR]; omega, by simp only [mR]; omega⟩ rfl (Nat.le_of_ble_eq_true rfl) d_M_is_523 ⟨Nat.le_refl _, Nat.le_refl _⟩) X Y hA S (by decide) (by decide) (fun z101 u H locs Y S s101 p101 => ?_)
  obtain ⟨I101, J101, B101, G101⟩ := u
  dsimp only at Y S s101 p101
  obtain ⟨l101, u101, x101, g101_P1⟩ := p101
  exact m_retz hQQ X Y hr hlk (iI_bool (by omega) (by omega)).1 ⟨S, z101, rfl, ⟨by omega, by omega, iff_eq is_107 x101, g101_P1⟩⟩ d_M_is_526
set_option maxHeartbeats 4000000 in
set_option maxRecDepth 100000 in
theorem r_M_is_86 (l : Launch) (D : mD) (E : mE) (h : Nat) (q : Nat → Nat) (sz : Nat) (I : Nat → Int32) (J : Nat → Int64) (B : Nat → Nat → Int32) (G : Nat → Nat → Int64) (a2 : Int) (l_a2 : (-1) ≤ a2) (u_a2 : a2 ≤ 30000) (a3 : Int) (l_a3 : (-1) ≤ a3) (u_a3 : a3 ≤ 30000) (hT : rT I B) (r : Nat) (hr0 : 3 ≤ r) (mm : Nat → Int32) (gm : B 0 = mm) (ih : ∀ ty : Int, kn ty → rk ty ≤ r → CIs l D E h q r mm ty (isF mm r ty)) (f_P1 : pG1 I) (q0 : 0 ≤ a2 ∨ a3 < a2 + 2) (q1 : a3 - a2 ≤ 4200) : Met l y_M_is (k_M_is :: lw_tg) (mR (10 + 6 * (r + 1)) (400 + 300 * (r + 1))) (va_Pc [.ref h, .int (iI 86), .int (iI a2), .int (iI a3)] (mPre D E h q (I, J, B, G) sz)) (va_Qi (rPi [39, 40] [] I B (fun (z : Int) (u : mS) => 0 ≤ z ∧ z ≤ 1 ∧ (z = 1 ↔ isF mm (r + 1) 86 a2 a3) ∧ pG1 u.1)) (mPost D E h q (mA E h q sz)) (mA E h q sz)) 0 0 (mA E h q sz) := by
  refine m_enter (by decide) rfl (Nat.le_of_ble_eq_true rfl) (fun p e s m below meth c ls AV QQ H locs hQQ X Y hZ hA hr hlk hml hl => ?_)
  have Y : mH D E (mA E h q sz) s.heap h q I J B G H locs := Y
  have S : rS [39, 40] [] I B I B := rS_rf hT
  have hl : lv_has ls 6 [(0, .ref h), (1, .int (iI 86)), (2, .int (iI a2)), (3, .int (iI a3))] := hl
  refine lv_iload_n X.1 X.2.1 d_M_is_0 rfl (lv_at hl 1 rfl) ?_
  refine lv_tableIn (off := 537) (tgt := 538) X.1 X.2.1 d_M_is_1 (by decide) (by decide) (by decide) (by decide) ?_
  refine lv_aload_n X.1 X.2.1 d_M_is_538 rfl (lv_at hl 0 rfl) ?_
  refine lv_bipush (v := iI 73) X.1 X.2.1 d_M_is_539 (by decide) ?_
  refine lv_iload_n X.1 X.2.1 d_M_is_541 rfl (lv_at hl 2 rfl) ?_
  refine lv_iload_n X.1 X.2.1 d_M_is_542 rfl (lv_at hl 3 rfl) ?_
  refine r_ni (m_run (As := [.int (iI 73), .int (iI a2), .int (iI a3)]) (rest := []) (n := 3) X Y hZ hA hml hl.1 (r_M_row l D E h q H.size I J B G 73 (by omega) (by omega) a2 (by omega) (by omega) a3 (by omega) (by omega) S.1 r mm gm (isF mm r 73) (ih 73 (by unfold kn; decide) (Nat.le_trans (show rk 73 ≤ 3 by decide) hr0)) f_P1 (by omega) (by omega)) kl_M_row ks_M_row kx_M_row ki_M_row ini_M hd_M_row ⟨by simp only [mR]; omega, by simp only [mR]; omega⟩ rfl (Nat.le_of_ble_eq_true rfl) d_M_is_543 ⟨Nat.le_refl _, Nat.le_refl _⟩) X Y hA S (by decide) (by decide) (fun z101 u H locs Y S s101 p101 => ?_)
  obtain ⟨I101, J101, B101, G101⟩ := u
  dsimp only at Y S s101 p101
  obtain ⟨l101, u101, x101, g101_P1⟩ := p101
  exact m_retz hQQ X Y hr hlk (iI_bool (by omega) (by omega)).1 ⟨S, z101, rfl, ⟨by omega, by omega, iff_eq is_86 x101, g101_P1⟩⟩ d_M_is_546
set_option maxHeartbeats 4000000 in
set_option maxRecDepth 100000 in
theorem r_M_is_81 (l : Launch) (D : mD) (E : mE) (h : Nat) (q : Nat → Nat) (sz : Nat) (I : Nat → Int32) (J : Nat → Int64) (B : Nat → Nat → Int32) (G : Nat → Nat → Int64) (a2 : Int) (l_a2 : (-1) ≤ a2) (u_a2 : a2 ≤ 30000) (a3 : Int) (l_a3 : (-1) ≤ a3) (u_a3 : a3 ≤ 30000) (hT : rT I B) (r : Nat) (hr0 : 4 ≤ r) (mm : Nat → Int32) (gm : B 0 = mm) (ih : ∀ ty : Int, kn ty → rk ty ≤ r → CIs l D E h q r mm ty (isF mm r ty)) (f_P1 : pG1 I) (q0 : 0 ≤ a2 ∨ a3 < a2 + 2) (q1 : a3 - a2 ≤ 4200) : Met l y_M_is (k_M_is :: lw_tg) (mR (10 + 6 * (r + 1)) (400 + 300 * (r + 1))) (va_Pc [.ref h, .int (iI 81), .int (iI a2), .int (iI a3)] (mPre D E h q (I, J, B, G) sz)) (va_Qi (rPi [39, 40] [] I B (fun (z : Int) (u : mS) => 0 ≤ z ∧ z ≤ 1 ∧ (z = 1 ↔ isF mm (r + 1) 81 a2 a3) ∧ pG1 u.1)) (mPost D E h q (mA E h q sz)) (mA E h q sz)) 0 0 (mA E h q sz) := by
  refine m_enter (by decide) rfl (Nat.le_of_ble_eq_true rfl) (fun p e s m below meth c ls AV QQ H locs hQQ X Y hZ hA hr hlk hml hl => ?_)
  have Y : mH D E (mA E h q sz) s.heap h q I J B G H locs := Y
  have S : rS [39, 40] [] I B I B := rS_rf hT
  have hl : lv_has ls 6 [(0, .ref h), (1, .int (iI 81)), (2, .int (iI a2)), (3, .int (iI a3))] := hl
  refine lv_iload_n X.1 X.2.1 d_M_is_0 rfl (lv_at hl 1 rfl) ?_
  refine lv_tableIn (off := 577) (tgt := 578) X.1 X.2.1 d_M_is_1 (by decide) (by decide) (by decide) (by decide) ?_
  refine lv_aload_n X.1 X.2.1 d_M_is_578 rfl (lv_at hl 0 rfl) ?_
  refine m_ldcSW (i := 12) X (by decide) (by decide) d_M_is_579 ?_
  refine lv_iload_n X.1 X.2.1 d_M_is_582 rfl (lv_at hl 2 rfl) ?_
  refine lv_iload_n X.1 X.2.1 d_M_is_583 rfl (lv_at hl 3 rfl) ?_
  refine lv_iconst (v := iI (-1)) X.1 X.2.1 d_M_is_584 (by decide) ?_
  refine r_ni (m_run (As := [.ref ((D.2.1 12)), .int (iI a2), .int (iI a3), .int (iI ((-1)))]) (rest := []) (n := 4) X Y hZ hA hml hl.1 (r_M_sequence_n l D E h q H.size I J B G 12 (show 12 < nZ by decide) a2 (by omega) (by omega) a3 (by omega) (by omega) S.1 r mm gm (isF mm r) (by decide) (fun ty h9 => ih ty (tyrk (i := 12) (by decide) h9).2 (Nat.le_trans (tyrk (i := 12) (by decide) h9).1 (show rki 12 ≤ r from Nat.le_trans (show rki 12 ≤ 4 by decide) hr0))) f_P1 (by omega) (by omega)) kl_M_sequence ks_M_sequence kx_M_sequence ki_M_sequence ini_M hd_M_sequence ⟨by simp only [mR]; omega, by simp only [mR]; omega⟩ rfl (Nat.le_of_ble_eq_true rfl) d_M_is_585 ⟨Nat.le_refl _, Nat.le_refl _⟩) X Y hA S (by decide) (by decide) (fun z101 u H locs Y S s101 p101 => ?_)
  obtain ⟨I101, J101, B101, G101⟩ := u
  dsimp only at Y S s101 p101
  obtain ⟨l101, u101, x101, g101_P1⟩ := p101
  exact m_retz hQQ X Y hr hlk (iI_bool (by omega) (by omega)).1 ⟨S, z101, rfl, ⟨by omega, by omega, iff_eq is_81 x101, g101_P1⟩⟩ d_M_is_588
theorem ci_105 {l : Launch} {D : mD} {E : mE} {h : Nat} {q : Nat → Nat} {mm : Nat → Int32} (r : Nat) : CIs l D E h q r mm 105 (isF mm r 105) := fun sz I J B G a2 h1 h2 a3 h3 h4 hT gm hp q0 q1 => r_M_is_105 l D E h q sz I J B G a2 h1 h2 a3 h3 h4 hT r mm gm hp q0 q1
theorem ci_117 {l : Launch} {D : mD} {E : mE} {h : Nat} {q : Nat → Nat} {mm : Nat → Int32} (r : Nat) : CIs l D E h q r mm 117 (isF mm r 117) := fun sz I J B G a2 h1 h2 a3 h3 h4 hT gm hp q0 q1 => r_M_is_117 l D E h q sz I J B G a2 h1 h2 a3 h3 h4 hT r mm gm hp q0 q1
theorem ci_109 {l : Launch} {D : mD} {E : mE} {h : Nat} {q : Nat → Nat} {mm : Nat → Int32} (r : Nat) : CIs l D E h q r mm 109 (isF mm r 109) := fun sz I J B G a2 h1 h2 a3 h3 h4 hT gm hp q0 q1 => r_M_is_109 l D E h q sz I J B G a2 h1 h2 a3 h3 h4 hT r mm gm hp q0 q1
theorem ci_111 {l : Launch} {D : mD} {E : mE} {h : Nat} {q : Nat → Nat} {mm : Nat → Int32} (r : Nat) : CIs l D E h q r mm 111 (isF mm r 111) := fun sz I J B G a2 h1 h2 a3 h3 h4 hT gm hp q0 q1 => r_M_is_111 l D E h q sz I J B G a2 h1 h2 a3 h3 h4 hT r mm gm hp q0 q1
theorem ci_115 {l : Launch} {D : mD} {E : mE} {h : Nat} {q : Nat → Nat} {mm : Nat → Int32} (r : Nat) : CIs l D E h q r mm 115 (isF mm r 115) := fun sz I J B G a2 h1 h2 a3 h3 h4 hT gm hp q0 q1 => r_M_is_115 l D E h q sz I J B G a2 h1 h2 a3 h3 h4 hT r mm gm hp q0 q1
theorem ci_116 {l : Launch} {D : mD} {E : mE} {h : Nat} {q : Nat → Nat} {mm : Nat → Int32} (r : Nat) : CIs l D E h q r mm 116 (isF mm r 116) := fun sz I J B G a2 h1 h2 a3 h3 h4 hT gm hp q0 q1 => r_M_is_116 l D E h q sz I J B G a2 h1 h2 a3 h3 h4 hT r mm gm hp q0 q1
theorem ci_102 {l : Launch} {D : mD} {E : mE} {h : Nat} {q : Nat → Nat} {mm : Nat → Int32} (r : Nat) : CIs l D E h q r mm 102 (isF mm r 102) := fun sz I J B G a2 h1 h2 a3 h3 h4 hT gm hp q0 q1 => r_M_is_102 l D E h q sz I J B G a2 h1 h2 a3 h3 h4 hT r mm gm hp q0 q1
theorem ci_83 {l : Launch} {D : mD} {E : mE} {h : Nat} {q : Nat → Nat} {mm : Nat → Int32} {r : Nat} (hr : 0 ≤ r) (ih : ∀ ty : Int, kn ty → rk ty ≤ r → CIs l D E h q r mm ty (isF mm r ty)) : CIs l D E h q (r + 1) mm 83 (isF mm (r + 1) 83) := fun sz I J B G a2 h1 h2 a3 h3 h4 hT gm hp q0 q1 => r_M_is_83 l D E h q sz I J B G a2 h1 h2 a3 h3 h4 hT r hr mm gm ih hp q0 q1
theorem ci_101 {l : Launch} {D : mD} {E : mE} {h : Nat} {q : Nat → Nat} {mm : Nat → Int32} {r : Nat} (hr : 0 ≤ r) (ih : ∀ ty : Int, kn ty → rk ty ≤ r → CIs l D E h q r mm ty (isF mm r ty)) : CIs l D E h q (r + 1) mm 101 (isF mm (r + 1) 101) := fun sz I J B G a2 h1 h2 a3 h3 h4 hT gm hp q0 q1 => r_M_is_101 l D E h q sz I J B G a2 h1 h2 a3 h3 h4 hT r hr mm gm ih hp q0 q1
theorem ci_69 {l : Launch} {D : mD} {E : mE} {h : Nat} {q : Nat → Nat} {mm : Nat → Int32} {r : Nat} (hr : 0 ≤ r) (ih : ∀ ty : Int, kn ty → rk ty ≤ r → CIs l D E h q r mm ty (isF mm r ty)) : CIs l D E h q (r + 1) mm 69 (isF mm (r + 1) 69) := fun sz I J B G a2 h1 h2 a3 h3 h4 hT gm hp q0 q1 => r_M_is_69 l D E h q sz I J B G a2 h1 h2 a3 h3 h4 hT r hr mm gm ih hp q0 q1
theorem ci_75 {l : Launch} {D : mD} {E : mE} {h : Nat} {q : Nat → Nat} {mm : Nat → Int32} {r : Nat} (hr : 0 ≤ r) (ih : ∀ ty : Int, kn ty → rk ty ≤ r → CIs l D E h q r mm ty (isF mm r ty)) : CIs l D E h q (r + 1) mm 75 (isF mm (r + 1) 75) := fun sz I J B G a2 h1 h2 a3 h3 h4 hT gm hp q0 q1 => r_M_is_75 l D E h q sz I J B G a2 h1 h2 a3 h3 h4 hT r hr mm gm ih hp q0 q1
theorem ci_67 {l : Launch} {D : mD} {E : mE} {h : Nat} {q : Nat → Nat} {mm : Nat → Int32} {r : Nat} (hr : 0 ≤ r) (ih : ∀ ty : Int, kn ty → rk ty ≤ r → CIs l D E h q r mm ty (isF mm r ty)) : CIs l D E h q (r + 1) mm 67 (isF mm (r + 1) 67) := fun sz I J B G a2 h1 h2 a3 h3 h4 hT gm hp q0 q1 => r_M_is_67 l D E h q sz I J B G a2 h1 h2 a3 h3 h4 hT r hr mm gm ih hp q0 q1
theorem ci_82 {l : Launch} {D : mD} {E : mE} {h : Nat} {q : Nat → Nat} {mm : Nat → Int32} {r : Nat} (hr : 0 ≤ r) (ih : ∀ ty : Int, kn ty → rk ty ≤ r → CIs l D E h q r mm ty (isF mm r ty)) : CIs l D E h q (r + 1) mm 82 (isF mm (r + 1) 82) := fun sz I J B G a2 h1 h2 a3 h3 h4 hT gm hp q0 q1 => r_M_is_82 l D E h q sz I J B G a2 h1 h2 a3 h3 h4 hT r hr mm gm ih hp q0 q1
theorem ci_72 {l : Launch} {D : mD} {E : mE} {h : Nat} {q : Nat → Nat} {mm : Nat → Int32} {r : Nat} (hr : 0 ≤ r) (ih : ∀ ty : Int, kn ty → rk ty ≤ r → CIs l D E h q r mm ty (isF mm r ty)) : CIs l D E h q (r + 1) mm 72 (isF mm (r + 1) 72) := fun sz I J B G a2 h1 h2 a3 h3 h4 hT gm hp q0 q1 => r_M_is_72 l D E h q sz I J B G a2 h1 h2 a3 h3 h4 hT r hr mm gm ih hp q0 q1
theorem ci_112 {l : Launch} {D : mD} {E : mE} {h : Nat} {q : Nat → Nat} {mm : Nat → Int32} {r : Nat} (hr : 0 ≤ r) (ih : ∀ ty : Int, kn ty → rk ty ≤ r → CIs l D E h q r mm ty (isF mm r ty)) : CIs l D E h q (r + 1) mm 112 (isF mm (r + 1) 112) := fun sz I J B G a2 h1 h2 a3 h3 h4 hT gm hp q0 q1 => r_M_is_112 l D E h q sz I J B G a2 h1 h2 a3 h3 h4 hT r hr mm gm ih hp q0 q1
theorem ci_108 {l : Launch} {D : mD} {E : mE} {h : Nat} {q : Nat → Nat} {mm : Nat → Int32} {r : Nat} (hr : 0 ≤ r) (ih : ∀ ty : Int, kn ty → rk ty ≤ r → CIs l D E h q r mm ty (isF mm r ty)) : CIs l D E h q (r + 1) mm 108 (isF mm (r + 1) 108) := fun sz I J B G a2 h1 h2 a3 h3 h4 hT gm hp q0 q1 => r_M_is_108 l D E h q sz I J B G a2 h1 h2 a3 h3 h4 hT r hr mm gm ih hp q0 q1
theorem ci_78 {l : Launch} {D : mD} {E : mE} {h : Nat} {q : Nat → Nat} {mm : Nat → Int32} {r : Nat} (hr : 1 ≤ r) (ih : ∀ ty : Int, kn ty → rk ty ≤ r → CIs l D E h q r mm ty (isF mm r ty)) : CIs l D E h q (r + 1) mm 78 (isF mm (r + 1) 78) := fun sz I J B G a2 h1 h2 a3 h3 h4 hT gm hp q0 q1 => r_M_is_78 l D E h q sz I J B G a2 h1 h2 a3 h3 h4 hT r hr mm gm ih hp q0 q1
theorem ci_104 {l : Launch} {D : mD} {E : mE} {h : Nat} {q : Nat → Nat} {mm : Nat → Int32} {r : Nat} (hr : 1 ≤ r) (ih : ∀ ty : Int, kn ty → rk ty ≤ r → CIs l D E h q r mm ty (isF mm r ty)) : CIs l D E h q (r + 1) mm 104 (isF mm (r + 1) 104) := fun sz I J B G a2 h1 h2 a3 h3 h4 hT gm hp q0 q1 => r_M_is_104 l D E h q sz I J B G a2 h1 h2 a3 h3 h4 hT r hr mm gm ih hp q0 q1
theorem ci_65 {l : Launch} {D : mD} {E : mE} {h : Nat} {q : Nat → Nat} {mm : Nat → Int32} {r : Nat} (hr : 1 ≤ r) (ih : ∀ ty : Int, kn ty → rk ty ≤ r → CIs l D E h q r mm ty (isF mm r ty)) : CIs l D E h q (r + 1) mm 65 (isF mm (r + 1) 65) := fun sz I J B G a2 h1 h2 a3 h3 h4 hT gm hp q0 q1 => r_M_is_65 l D E h q sz I J B G a2 h1 h2 a3 h3 h4 hT r hr mm gm ih hp q0 q1
theorem ci_80 {l : Launch} {D : mD} {E : mE} {h : Nat} {q : Nat → Nat} {mm : Nat → Int32} {r : Nat} (hr : 1 ≤ r) (ih : ∀ ty : Int, kn ty → rk ty ≤ r → CIs l D E h q r mm ty (isF mm r ty)) : CIs l D E h q (r + 1) mm 80 (isF mm (r + 1) 80) := fun sz I J B G a2 h1 h2 a3 h3 h4 hT gm hp q0 q1 => r_M_is_80 l D E h q sz I J B G a2 h1 h2 a3 h3 h4 hT r hr mm gm ih hp q0 q1
theorem ci_76 {l : Launch} {D : mD} {E : mE} {h : Nat} {q : Nat → Nat} {mm : Nat → Int32} {r : Nat} (hr : 1 ≤ r) (ih : ∀ ty : Int, kn ty → rk ty ≤ r → CIs l D E h q r mm ty (isF mm r ty)) : CIs l D E h q (r + 1) mm 76 (isF mm (r + 1) 76) := fun sz I J B G a2 h1 h2 a3 h3 h4 hT gm hp q0 q1 => r_M_is_76 l D E h q sz I J B G a2 h1 h2 a3 h3 h4 hT r hr mm gm ih hp q0 q1
theorem ci_89 {l : Launch} {D : mD} {E : mE} {h : Nat} {q : Nat → Nat} {mm : Nat → Int32} {r : Nat} (hr : 1 ≤ r) (ih : ∀ ty : Int, kn ty → rk ty ≤ r → CIs l D E h q r mm ty (isF mm r ty)) : CIs l D E h q (r + 1) mm 89 (isF mm (r + 1) 89) := fun sz I J B G a2 h1 h2 a3 h3 h4 hT gm hp q0 q1 => r_M_is_89 l D E h q sz I J B G a2 h1 h2 a3 h3 h4 hT r hr mm gm ih hp q0 q1
theorem ci_84 {l : Launch} {D : mD} {E : mE} {h : Nat} {q : Nat → Nat} {mm : Nat → Int32} {r : Nat} (hr : 2 ≤ r) (ih : ∀ ty : Int, kn ty → rk ty ≤ r → CIs l D E h q r mm ty (isF mm r ty)) : CIs l D E h q (r + 1) mm 84 (isF mm (r + 1) 84) := fun sz I J B G a2 h1 h2 a3 h3 h4 hT gm hp q0 q1 => r_M_is_84 l D E h q sz I J B G a2 h1 h2 a3 h3 h4 hT r hr mm gm ih hp q0 q1
theorem ci_73 {l : Launch} {D : mD} {E : mE} {h : Nat} {q : Nat → Nat} {mm : Nat → Int32} {r : Nat} (hr : 2 ≤ r) (ih : ∀ ty : Int, kn ty → rk ty ≤ r → CIs l D E h q r mm ty (isF mm r ty)) : CIs l D E h q (r + 1) mm 73 (isF mm (r + 1) 73) := fun sz I J B G a2 h1 h2 a3 h3 h4 hT gm hp q0 q1 => r_M_is_73 l D E h q sz I J B G a2 h1 h2 a3 h3 h4 hT r hr mm gm ih hp q0 q1
theorem ci_107 {l : Launch} {D : mD} {E : mE} {h : Nat} {q : Nat → Nat} {mm : Nat → Int32} {r : Nat} (hr : 3 ≤ r) (ih : ∀ ty : Int, kn ty → rk ty ≤ r → CIs l D E h q r mm ty (isF mm r ty)) : CIs l D E h q (r + 1) mm 107 (isF mm (r + 1) 107) := fun sz I J B G a2 h1 h2 a3 h3 h4 hT gm hp q0 q1 => r_M_is_107 l D E h q sz I J B G a2 h1 h2 a3 h3 h4 hT r hr mm gm ih hp q0 q1
theorem ci_86 {l : Launch} {D : mD} {E : mE} {h : Nat} {q : Nat → Nat} {mm : Nat → Int32} {r : Nat} (hr : 3 ≤ r) (ih : ∀ ty : Int, kn ty → rk ty ≤ r → CIs l D E h q r mm ty (isF mm r ty)) : CIs l D E h q (r + 1) mm 86 (isF mm (r + 1) 86) := fun sz I J B G a2 h1 h2 a3 h3 h4 hT gm hp q0 q1 => r_M_is_86 l D E h q sz I J B G a2 h1 h2 a3 h3 h4 hT r hr mm gm ih hp q0 q1
theorem ci_81 {l : Launch} {D : mD} {E : mE} {h : Nat} {q : Nat → Nat} {mm : Nat → Int32} {r : Nat} (hr : 4 ≤ r) (ih : ∀ ty : Int, kn ty → rk ty ≤ r → CIs l D E h q r mm ty (isF mm r ty)) : CIs l D E h q (r + 1) mm 81 (isF mm (r + 1) 81) := fun sz I J B G a2 h1 h2 a3 h3 h4 hT gm hp q0 q1 => r_M_is_81 l D E h q sz I J B G a2 h1 h2 a3 h3 h4 hT r hr mm gm ih hp q0 q1
theorem ciR {l : Launch} {D : mD} {E : mE} {h : Nat} {q : Nat → Nat} {mm : Nat → Int32} : ∀ (r : Nat) (ty : Int), kn ty → rk ty ≤ r → CIs l D E h q r mm ty (isF mm r ty)
  | 0, ty, hk, hr => by
    simp only [kn, List.mem_cons, List.not_mem_nil, or_false] at hk
    rcases hk with e | e | e | e | e | e | e | e | e | e | e | e | e | e | e | e | e | e | e | e | e | e | e | e | e | e | e
    · subst e; exact ci_105 0
    · subst e; exact ci_117 0
    · subst e; exact ci_109 0
    · subst e; exact ci_111 0
    · subst e; exact ci_115 0
    · subst e; exact ci_116 0
    · subst e; exact ci_102 0
    · subst e; exact absurd hr (by decide)
    · subst e; exact absurd hr (by decide)
    · subst e; exact absurd hr (by decide)
    · subst e; exact absurd hr (by decide)
    · subst e; exact absurd hr (by decide)
    · subst e; exact absurd hr (by decide)
    · subst e; exact absurd hr (by decide)
    · subst e; exact absurd hr (by decide)
    · subst e; exact absurd hr (by decide)
    · subst e; exact absurd hr (by decide)
    · subst e; exact absurd hr (by decide)
    · subst e; exact absurd hr (by decide)
    · subst e; exact absurd hr (by decide)
    · subst e; exact absurd hr (by decide)
    · subst e; exact absurd hr (by decide)
    · subst e; exact absurd hr (by decide)
    · subst e; exact absurd hr (by decide)
    · subst e; exact absurd hr (by decide)
    · subst e; exact absurd hr (by decide)
    · subst e; exact absurd hr (by decide)
  | r + 1, ty, hk, hr => by
    have ih := ciR (l := l) (D := D) (E := E) (h := h) (q := q) (mm := mm) r
    simp only [kn, List.mem_cons, List.not_mem_nil, or_false] at hk
    rcases hk with e | e | e | e | e | e | e | e | e | e | e | e | e | e | e | e | e | e | e | e | e | e | e | e | e | e | e
    · subst e; exact ci_105 (r + 1)
    · subst e; exact ci_117 (r + 1)
    · subst e; exact ci_109 (r + 1)
    · subst e; exact ci_111 (r + 1)
    · subst e; exact ci_115 (r + 1)
    · subst e; exact ci_116 (r + 1)
    · subst e; exact ci_102 (r + 1)
    · subst e; exact ci_83 (by have h9 : rk 83 = 1 := (by decide); omega) ih
    · subst e; exact ci_101 (by have h9 : rk 101 = 1 := (by decide); omega) ih
    · subst e; exact ci_69 (by have h9 : rk 69 = 1 := (by decide); omega) ih
    · subst e; exact ci_75 (by have h9 : rk 75 = 1 := (by decide); omega) ih
    · subst e; exact ci_67 (by have h9 : rk 67 = 1 := (by decide); omega) ih
    · subst e; exact ci_82 (by have h9 : rk 82 = 1 := (by decide); omega) ih
    · subst e; exact ci_72 (by have h9 : rk 72 = 1 := (by decide); omega) ih
    · subst e; exact ci_112 (by have h9 : rk 112 = 1 := (by decide); omega) ih
    · subst e; exact ci_108 (by have h9 : rk 108 = 1 := (by decide); omega) ih
    · subst e; exact ci_78 (by have h9 : rk 78 = 2 := (by decide); omega) ih
    · subst e; exact ci_104 (by have h9 : rk 104 = 2 := (by decide); omega) ih
    · subst e; exact ci_65 (by have h9 : rk 65 = 2 := (by decide); omega) ih
    · subst e; exact ci_80 (by have h9 : rk 80 = 2 := (by decide); omega) ih
    · subst e; exact ci_76 (by have h9 : rk 76 = 2 := (by decide); omega) ih
    · subst e; exact ci_89 (by have h9 : rk 89 = 2 := (by decide); omega) ih
    · subst e; exact ci_84 (by have h9 : rk 84 = 3 := (by decide); omega) ih
    · subst e; exact ci_73 (by have h9 : rk 73 = 3 := (by decide); omega) ih
    · subst e; exact ci_107 (by have h9 : rk 107 = 4 := (by decide); omega) ih
    · subst e; exact ci_86 (by have h9 : rk 86 = 4 := (by decide); omega) ih
    · subst e; exact ci_81 (by have h9 : rk 81 = 5 := (by decide); omega) ih
theorem hisU {l : Launch} {D : mD} {E : mE} {h : Nat} {q : Nat → Nat} {mm : Nat → Int32} {r i : Nat} (hr : rki i ≤ r) : ∀ ty : Int, tyin i ty = true → CIs l D E h q r mm ty (isF mm r ty) := fun ty h9 => by
  by_cases hi : i < 26
  · exact ciR r ty (tyrk hi h9).2 (Nat.le_trans (tyrk hi h9).1 hr)
  · exact absurd h9 (by
      have e : ftab i = [] := by
        match i, hi with
        | n + 26, _ => rfl
      unfold tyin; rw [e]; exact Bool.false_ne_true)
