/-! clock and room: what they answer. -/
set_option maxHeartbeats 4000000 in
set_option maxRecDepth 100000 in
theorem c_H_clockX (l : Launch) (D : va_G) (E : cE) (T : cT) (κ : tK) (L : List Nat) (f : pF) (sz : Nat) (h : Nat) (k0 : κ h = (10, 0)) (a1 : Int) (l_a1 : (-2147483648) ≤ a1) (u_a1 : a1 ≤ 2147483647) (hw : tW E T κ L f) : Met l y_H_clock (k_H_clock :: lw_tg) (kRm 1 60 0 0) (va_Pc [.ref h, .int (iI a1)] (kPre D E T L f sz)) (va_Qi (nPi E T [21] κ L f (fun (z : Int) (g : pF) => 0 ≤ z ∧ z ≤ 1 ∧ (z = 1 ↔ 0 ≤ a1 ∧ a1 ≤ 2000000000))) (cPost D E (pA L sz)) (pA L sz)) 0 0 (pA L sz) := by
  refine k_enter (own := R_H) (by decide) rfl (Nat.le_of_ble_eq_true rfl) (fun p e s m below meth c ls AV QQ H locs hQQ X Y hA hin hr hlk hml hl KS KR => ?_)
  have hl : lv_has ls 2 [(0, .ref h), (1, .int (iI a1))] := hl
  have S : tS E T (tFr κ L [21] []) κ L f κ L f := tS_rf hw
  refine lv_iload_n X.1 X.2.1 d_H_clock_0 rfl (lv_at hl 1 rfl) ?_
  refine z_if_lt (tgt := 10) X.1 X.2.1 d_H_clock_1 (by decide) ⟨by omega, by omega⟩ (fun h101 => ?_) (fun h101 => ?_)
  · refine lv_iconst (v := iI 0) X.1 X.2.1 d_H_clock_10 (by decide) ?_
    exact c_retz hQQ X Y hr hlk (iI_bool (by omega) (by omega)).1 ⟨rfl, S, 0, rfl, ⟨by omega, by omega, by omega⟩⟩ d_H_clock_11
  · refine lv_iload_n X.1 X.2.1 d_H_clock_4 rfl (lv_at hl 1 rfl) ?_
    refine lv_ldc (v := (2000000000)) X.1 X.2.1 X.2.2.2.1 (X.2.2.1 _ cn_H_109) d_H_clock_5 ?_
    refine t_eq (y := iI 2000000000) (by decide) ?_
    refine z_icmp_le (tgt := 12) X.1 X.2.1 d_H_clock_7 (by decide) ⟨by omega, by omega⟩ ⟨by omega, by omega⟩ (fun h102 => ?_) (fun h102 => ?_)
    · refine lv_aload_n X.1 X.2.1 d_H_clock_12 rfl (lv_at hl 0 rfl) ?_
      refine t_getr (ci := 0) X Y S k0 rfl i_H 0 (by decide) rfl (k1 := 21) (k2 := 0) rfl rfl lk_H_12 (fun _ h9 => h9) d_H_clock_13 (fun b103 e103 k103 => ?_)
      refine lv_iload_n X.1 X.2.1 d_H_clock_16 rfl (lv_at hl 1 rfl) ?_
      refine t_put (ci := 11) X Y S k103 rfl i_Va t_Va t_Va_ok n_Va 0 (by decide) rfl lk_H_110 (fun _ h9 => h9) rfl (t_Va_ok 0 (by decide)) rfl rfl ⟨_, rfl, (show ((-2147483648) : Int) ≤ a1 by omega), (show a1 ≤ (2147483647 : Int) by omega)⟩ (nF_of S k103 (by decide)) d_H_clock_17 (fun f104 H locs Y S w104 => ?_)
      refine lv_iconst (v := iI 1) X.1 X.2.1 d_H_clock_20 (by decide) ?_
      exact c_retz hQQ X Y hr hlk (iI_bool (by omega) (by omega)).1 ⟨rfl, S, 1, rfl, ⟨by omega, by omega, by omega⟩⟩ d_H_clock_21
    · refine lv_iconst (v := iI 0) X.1 X.2.1 d_H_clock_10 (by decide) ?_
      exact c_retz hQQ X Y hr hlk (iI_bool (by omega) (by omega)).1 ⟨rfl, S, 0, rfl, ⟨by omega, by omega, by omega⟩⟩ d_H_clock_11
set_option maxHeartbeats 4000000 in
set_option maxRecDepth 100000 in
theorem c_H_roomX (l : Launch) (D : va_G) (E : cE) (T : cT) (κ : tK) (L : List Nat) (f : pF) (sz : Nat) (h : Nat) (k0 : κ h = (10, 0)) (a1 : Int) (l_a1 : (-2147483648) ≤ a1) (u_a1 : a1 ≤ 2147483647) (hw : tW E T κ L f) : Met l y_H_room (k_H_room :: lw_tg) (kRm 1 60 0 0) (va_Pc [.ref h, .int (iI a1)] (kPre D E T L f sz)) (va_Qi (nPi E T [15] κ L f (fun (z : Int) (g : pF) => 0 ≤ z ∧ z ≤ 1 ∧ (z = 1 ↔ 1 ≤ a1 ∧ a1 ≤ 32))) (cPost D E (pA L sz)) (pA L sz)) 0 0 (pA L sz) := by
  refine k_enter (own := R_H) (by decide) rfl (Nat.le_of_ble_eq_true rfl) (fun p e s m below meth c ls AV QQ H locs hQQ X Y hA hin hr hlk hml hl KS KR => ?_)
  have hl : lv_has ls 2 [(0, .ref h), (1, .int (iI a1))] := hl
  have S : tS E T (tFr κ L [15] []) κ L f κ L f := tS_rf hw
  refine lv_iload_n X.1 X.2.1 d_H_room_0 rfl (lv_at hl 1 rfl) ?_
  refine lv_iconst (v := iI 1) X.1 X.2.1 d_H_room_1 (by decide) ?_
  refine z_icmp_lt (tgt := 11) X.1 X.2.1 d_H_room_2 (by decide) ⟨by omega, by omega⟩ ⟨by omega, by omega⟩ (fun h101 => ?_) (fun h101 => ?_)
  · refine lv_iconst (v := iI 0) X.1 X.2.1 d_H_room_11 (by decide) ?_
    exact c_retz hQQ X Y hr hlk (iI_bool (by omega) (by omega)).1 ⟨rfl, S, 0, rfl, ⟨by omega, by omega, by omega⟩⟩ d_H_room_12
  · refine lv_iload_n X.1 X.2.1 d_H_room_5 rfl (lv_at hl 1 rfl) ?_
    refine lv_bipush (v := iI 32) X.1 X.2.1 d_H_room_6 (by decide) ?_
    refine z_icmp_le (tgt := 13) X.1 X.2.1 d_H_room_8 (by decide) ⟨by omega, by omega⟩ ⟨by omega, by omega⟩ (fun h102 => ?_) (fun h102 => ?_)
    · refine lv_aload_n X.1 X.2.1 d_H_room_13 rfl (lv_at hl 0 rfl) ?_
      refine t_getr (ci := 0) X Y S k0 rfl i_H 5 (by decide) rfl (k1 := 15) (k2 := 0) rfl rfl lk_H_36 (fun _ h9 => h9) d_H_room_14 (fun b103 e103 k103 => ?_)
      refine lv_iload_n X.1 X.2.1 d_H_room_17 rfl (lv_at hl 1 rfl) ?_
      refine t_put (ci := 5) X Y S k103 rfl i_Ga t_Ga t_Ga_ok n_Ga 4 (by decide) rfl lk_H_145 (fun _ h9 => h9) rfl (t_Ga_ok 4 (by decide)) rfl rfl ⟨_, rfl, (show ((-2147483648) : Int) ≤ a1 by omega), (show a1 ≤ (2147483647 : Int) by omega)⟩ (nF_of S k103 (by decide)) d_H_room_18 (fun f104 H locs Y S w104 => ?_)
      refine lv_iconst (v := iI 1) X.1 X.2.1 d_H_room_21 (by decide) ?_
      exact c_retz hQQ X Y hr hlk (iI_bool (by omega) (by omega)).1 ⟨rfl, S, 1, rfl, ⟨by omega, by omega, by omega⟩⟩ d_H_room_22
    · refine lv_iconst (v := iI 0) X.1 X.2.1 d_H_room_11 (by decide) ?_
      exact c_retz hQQ X Y hr hlk (iI_bool (by omega) (by omega)).1 ⟨rfl, S, 0, rfl, ⟨by omega, by omega, by omega⟩⟩ d_H_room_12
set_option maxHeartbeats 4000000 in
set_option maxRecDepth 100000 in
theorem r_M_clock_x (l : Launch) (D : mD) (E : mE) (h : Nat) (q : Nat → Nat) (sz : Nat) (I : Nat → Int32) (J : Nat → Int64) (B : Nat → Nat → Int32) (G : Nat → Nat → Int64) (a1 : Int) (l_a1 : (-2147483648) ≤ a1) (u_a1 : a1 ≤ 2147483647) (hT : rT I B) : Met l y_M_clock (k_M_clock :: lw_tg) (mR 1 60) (va_Pc [.ref h, .int (iI a1)] (mPre D E h q (I, J, B, G) sz)) (va_Qi (rPi [4] [] I B (fun (z : Int) (u : mS) => 0 ≤ z ∧ z ≤ 1 ∧ (z = 1 ↔ 0 ≤ a1 ∧ a1 ≤ 2000000000))) (mPost D E h q (mA E h q sz)) (mA E h q sz)) 0 0 (mA E h q sz) := by
  refine m_enter (by decide) rfl (Nat.le_of_ble_eq_true rfl) (fun p e s m below meth c ls AV QQ H locs hQQ X Y hZ hA hr hlk hml hl => ?_)
  have Y : mH D E (mA E h q sz) s.heap h q I J B G H locs := Y
  have S : rS [4] [] I B I B := rS_rf hT
  have hl : lv_has ls 2 [(0, .ref h), (1, .int (iI a1))] := hl
  refine lv_iload_n X.1 X.2.1 d_M_clock_0 rfl (lv_at hl 1 rfl) ?_
  refine z_if_lt (tgt := 11) X.1 X.2.1 d_M_clock_1 (by decide) ⟨by omega, by omega⟩ (fun h101 => ?_) (fun h101 => ?_)
  · refine lv_iconst (v := iI 0) X.1 X.2.1 d_M_clock_11 (by decide) ?_
    exact m_retz hQQ X Y hr hlk (iI_bool (by omega) (by omega)).1 ⟨S, 0, rfl, ⟨by omega, by omega, by omega⟩⟩ d_M_clock_12
  · refine lv_iload_n X.1 X.2.1 d_M_clock_4 rfl (lv_at hl 1 rfl) ?_
    refine lv_ldcw (v := (2000000000)) X.1 X.2.1 X.2.2.2.1 (X.2.2.1 _ cn_M_351) d_M_clock_5 ?_
    refine t_eq (y := iI 2000000000) (by decide) ?_
    refine z_icmp_le (tgt := 13) X.1 X.2.1 d_M_clock_8 (by decide) ⟨by omega, by omega⟩ ⟨by omega, by omega⟩ (fun h102 => ?_) (fun h102 => ?_)
    · refine lv_aload_n X.1 X.2.1 d_M_clock_13 rfl (lv_at hl 0 rfl) ?_
      refine lv_iload_n X.1 X.2.1 d_M_clock_14 rfl (lv_at hl 1 rfl) ?_
      refine r_puti (k := 4) X Y S (by decide) lk_now rfl rfl (t_M_ok 4 (by decide)) rfl rfl (sf_now _ _ _ _) (Nat.le_of_ble_eq_true rfl) rfl (show ((-2147483648) : Int) ≤ a1 by omega) (show a1 ≤ (2147483647 : Int) by omega) ⟨by omega, by omega⟩ (by decide) d_M_clock_15 (fun I103 H locs Y S w103 => ?_)
      refine lv_iconst (v := iI 1) X.1 X.2.1 d_M_clock_18 (by decide) ?_
      exact m_retz hQQ X Y hr hlk (iI_bool (by omega) (by omega)).1 ⟨S, 1, rfl, ⟨by omega, by omega, by omega⟩⟩ d_M_clock_19
    · refine lv_iconst (v := iI 0) X.1 X.2.1 d_M_clock_11 (by decide) ?_
      exact m_retz hQQ X Y hr hlk (iI_bool (by omega) (by omega)).1 ⟨S, 0, rfl, ⟨by omega, by omega, by omega⟩⟩ d_M_clock_12
set_option maxHeartbeats 4000000 in
set_option maxRecDepth 100000 in
theorem r_M_room_x (l : Launch) (D : mD) (E : mE) (h : Nat) (q : Nat → Nat) (sz : Nat) (I : Nat → Int32) (J : Nat → Int64) (B : Nat → Nat → Int32) (G : Nat → Nat → Int64) (a1 : Int) (l_a1 : (-2147483648) ≤ a1) (u_a1 : a1 ≤ 2147483647) (hT : rT I B) : Met l y_M_room (k_M_room :: lw_tg) (mR 1 60) (va_Pc [.ref h, .int (iI a1)] (mPre D E h q (I, J, B, G) sz)) (va_Qi (rPi [57] [] I B (fun (z : Int) (u : mS) => 0 ≤ z ∧ z ≤ 1 ∧ (z = 1 ↔ 1 ≤ a1 ∧ a1 ≤ 32))) (mPost D E h q (mA E h q sz)) (mA E h q sz)) 0 0 (mA E h q sz) := by
  refine m_enter (by decide) rfl (Nat.le_of_ble_eq_true rfl) (fun p e s m below meth c ls AV QQ H locs hQQ X Y hZ hA hr hlk hml hl => ?_)
  have Y : mH D E (mA E h q sz) s.heap h q I J B G H locs := Y
  have S : rS [57] [] I B I B := rS_rf hT
  have hl : lv_has ls 2 [(0, .ref h), (1, .int (iI a1))] := hl
  refine lv_iload_n X.1 X.2.1 d_M_room_0 rfl (lv_at hl 1 rfl) ?_
  refine lv_iconst (v := iI 1) X.1 X.2.1 d_M_room_1 (by decide) ?_
  refine z_icmp_lt (tgt := 11) X.1 X.2.1 d_M_room_2 (by decide) ⟨by omega, by omega⟩ ⟨by omega, by omega⟩ (fun h101 => ?_) (fun h101 => ?_)
  · refine lv_iconst (v := iI 0) X.1 X.2.1 d_M_room_11 (by decide) ?_
    exact m_retz hQQ X Y hr hlk (iI_bool (by omega) (by omega)).1 ⟨S, 0, rfl, ⟨by omega, by omega, by omega⟩⟩ d_M_room_12
  · refine lv_iload_n X.1 X.2.1 d_M_room_5 rfl (lv_at hl 1 rfl) ?_
    refine lv_bipush (v := iI 32) X.1 X.2.1 d_M_room_6 (by decide) ?_
    refine z_icmp_le (tgt := 13) X.1 X.2.1 d_M_room_8 (by decide) ⟨by omega, by omega⟩ ⟨by omega, by omega⟩ (fun h102 => ?_) (fun h102 => ?_)
    · refine lv_aload_n X.1 X.2.1 d_M_room_13 rfl (lv_at hl 0 rfl) ?_
      refine lv_iload_n X.1 X.2.1 d_M_room_14 rfl (lv_at hl 1 rfl) ?_
      refine r_puti (k := 57) X Y S (by decide) lk_most rfl rfl (t_M_ok 57 (by decide)) rfl rfl (sf_most _ _ _ _) (Nat.le_of_ble_eq_true rfl) rfl (show (1 : Int) ≤ a1 by omega) (show a1 ≤ (32 : Int) by omega) ⟨by omega, by omega⟩ (by decide) d_M_room_15 (fun I103 H locs Y S w103 => ?_)
      refine lv_iconst (v := iI 1) X.1 X.2.1 d_M_room_18 (by decide) ?_
      exact m_retz hQQ X Y hr hlk (iI_bool (by omega) (by omega)).1 ⟨S, 1, rfl, ⟨by omega, by omega, by omega⟩⟩ d_M_room_19
    · refine lv_iconst (v := iI 0) X.1 X.2.1 d_M_room_11 (by decide) ?_
      exact m_retz hQQ X Y hr hlk (iI_bool (by omega) (by omega)).1 ⟨S, 0, rfl, ⟨by omega, by omega, by omega⟩⟩ d_M_room_12
set_option maxHeartbeats 4000000 in
set_option maxRecDepth 100000 in
theorem r_M_seed_x (l : Launch) (D : mD) (E : mE) (h : Nat) (q : Nat → Nat) (sz : Nat) (I : Nat → Int32) (J : Nat → Int64) (B : Nat → Nat → Int32) (G : Nat → Nat → Int64) (hT : rT I B) (cn : Int) (gcn : I 33 = iI cn) (lcn : 0 ≤ cn) (ucn : cn ≤ 1900000) : Met l y_M_seed (k_M_seed :: lw_tg) (mR 1 60) (va_Pc [.ref h] (mPre D E h q (I, J, B, G) sz)) (va_Qi (rPi [2, 32, 33] [31] I B (fun (z : Int) (u : mS) => 0 ≤ z ∧ z ≤ 1 ∧ (∃ V2 : Int, u.1 33 = iI V2 ∧ (V2 ≤ cn) ∧ 0 ≤ V2 ∧ V2 ≤ 2000000))) (mPost D E h q (mA E h q sz)) (mA E h q sz)) 0 0 (mA E h q sz) := by
  refine m_enter (by decide) rfl (Nat.le_of_ble_eq_true rfl) (fun p e s m below meth c ls AV QQ H locs hQQ X Y hZ hA hr hlk hml hl => ?_)
  have Y : mH D E (mA E h q sz) s.heap h q I J B G H locs := Y
  have S : rS [2, 32, 33] [31] I B I B := rS_rf hT
  have hl : lv_has ls 2 [(0, .ref h)] := hl
  refine lv_aload_n X.1 X.2.1 d_M_seed_0 rfl (lv_at hl 0 rfl) ?_
  refine r_geti (k := 2) X Y S (by decide) lk_length (gf_length _ _ _) rfl rfl d_M_seed_1 (fun z101 e101 l101 u101 => ?_)
  refine lv_bipush (v := iI 64) X.1 X.2.1 d_M_seed_4 (by decide) ?_
  refine z_icmp_le (tgt := 11) X.1 X.2.1 d_M_seed_6 (by decide) ⟨by omega, by omega⟩ ⟨by omega, by omega⟩ (fun h102 => ?_) (fun h102 => ?_)
  · refine lv_iconst (v := iI 0) X.1 X.2.1 d_M_seed_11 (by decide) ?_
    have J107 : ∀ (n109 : Nat) (z104 : Int) (I103 : Nat → Int32) (J103 : Nat → Int64) (B103 : Nat → Nat → Int32) (G103 : Nat → Nat → Int64) (H : Heap) (locs : List Loc) (ls : Array Slot), (64 - z104).toNat = n109 → (0 ≤ z104) → (z104 ≤ 64) → (I103 2 = iI z101) → (I103 33 = iI cn) → mH D E (mA E h q sz) s.heap h q I103 J103 B103 G103 H locs → rS [2, 32, 33] [31] I B I103 B103 → lv_has ls 2 [(0, .ref h), (1, .int (iI z104))] → W p l e (mR 1 60) s m AV below meth c H locs 0 0 QQ (F0 m 13 ls []) := by
      intro n109
      induction n109 using Nat.strongRecOn with
      | ind n109 ih108 =>
        intro z104 I103 J103 B103 G103 H locs ls hm110 l104 u104 e105 e106 Y S hl
        refine lv_iload_n X.1 X.2.1 d_M_seed_13 rfl (lv_at hl 1 rfl) ?_
        refine lv_aload_n X.1 X.2.1 d_M_seed_14 rfl (lv_at hl 0 rfl) ?_
        refine r_get0 X Y (by decide) lk_length (gf_length _ _ _) rfl e105 d_M_seed_15 ?_
        refine z_icmp_ge (tgt := 39) X.1 X.2.1 d_M_seed_18 (by decide) ⟨by omega, by omega⟩ ⟨by omega, by omega⟩ (fun h111 => ?_) (fun h111 => ?_)
        · refine lv_aload_n X.1 X.2.1 d_M_seed_39 rfl (lv_at hl 0 rfl) ?_
          refine lv_aload_n X.1 X.2.1 d_M_seed_40 rfl (lv_at hl 0 rfl) ?_
          refine r_get0 X Y (by decide) lk_length (gf_length _ _ _) rfl e105 d_M_seed_41 ?_
          refine r_puti (k := 32) X Y S (by decide) lk_seedMany rfl rfl (t_M_ok 32 (by decide)) rfl rfl (sf_seedMany _ _ _ _) (Nat.le_of_ble_eq_true rfl) rfl (show (0 : Int) ≤ z101 by omega) (show z101 ≤ (64 : Int) by omega) ⟨by omega, by omega⟩ (by decide) d_M_seed_44 (fun I112 H locs Y S w112 => ?_)
          refine lv_aload_n X.1 X.2.1 d_M_seed_47 rfl (lv_at hl 0 rfl) ?_
          refine lv_iconst (v := iI 0) X.1 X.2.1 d_M_seed_48 (by decide) ?_
          refine r_puti (k := 2) X Y S (by decide) lk_length rfl rfl (t_M_ok 2 (by decide)) rfl rfl (sf_length _ _ _ _) (Nat.le_of_ble_eq_true rfl) rfl (show (0 : Int) ≤ 0 by omega) (show 0 ≤ (4000 : Int) by omega) ⟨by omega, by omega⟩ (by decide) d_M_seed_49 (fun I113 H locs Y S w113 => ?_)
          refine lv_aload_n X.1 X.2.1 d_M_seed_52 rfl (lv_at hl 0 rfl) ?_
          refine lv_iconst (v := iI 0) X.1 X.2.1 d_M_seed_53 (by decide) ?_
          refine r_puti (k := 33) X Y S (by decide) lk_coin rfl rfl (t_M_ok 33 (by decide)) rfl rfl (sf_coin _ _ _ _) (Nat.le_of_ble_eq_true rfl) rfl (show ((-2147483648) : Int) ≤ 0 by omega) (show 0 ≤ (2147483647 : Int) by omega) ⟨by omega, by omega⟩ (by decide) d_M_seed_54 (fun I114 H locs Y S w114 => ?_)
          refine lv_iconst (v := iI 1) X.1 X.2.1 d_M_seed_57 (by decide) ?_
          exact m_retz hQQ X Y hr hlk (iI_bool (by omega) (by omega)).1 ⟨S, 1, rfl, ⟨by omega, by omega, ⟨0, w114.1, by omega, by omega, by omega⟩⟩⟩ d_M_seed_58
        · refine lv_aload_n X.1 X.2.1 d_M_seed_21 rfl (lv_at hl 0 rfl) ?_
          refine m_get X Y 31 (by decide) lk_seed (gf_seed _ _ _) rfl d_M_seed_22 ?_
          refine lv_iload_n X.1 X.2.1 d_M_seed_25 rfl (lv_at hl 1 rfl) ?_
          refine lv_aload_n X.1 X.2.1 d_M_seed_26 rfl (lv_at hl 0 rfl) ?_
          refine m_get X Y 0 (by decide) lk_mem (gf_mem _ _ _) rfl d_M_seed_27 ?_
          refine lv_iload_n X.1 X.2.1 d_M_seed_30 rfl (lv_at hl 1 rfl) ?_
          refine r_bald X Y S (aw_mem _ _ _ _ _ _ _) rfl (by omega) (show z104 < ((60000 : Nat) : Int) by omega) (by omega) d_M_seed_31 (fun z115 q115 l115 u115 => ?_)
          refine r_bast X Y S (aw_seed _ _ _ _ _ _ _) (sw_seed _ _ _ _ _ _ _) rfl (by omega) (show z104 < ((64 : Nat) : Int) by omega) (by omega) (by decide) d_M_seed_32 (fun B116 H locs Y S w116 => ?_)
          refine lv_iinc (v := iI (z104 + 1)) (lv' := [(1, .int (iI (z104 + 1))), (0, .ref h)]) X.1 X.2.1 d_M_seed_33 hl (k := 1) rfl ((iI_add _ _).trans (congrArg iI (by omega))) (by decide) rfl (fun ls hl => ?_)
          refine lv_goto (tgt := 13) X.1 X.2.1 d_M_seed_36 (by decide) ?_
          exact ih108 ((64 - (z104 + 1)).toNat) (by omega) (z104 + 1) I103 J103 B116 G103 _ _ _ rfl (by omega) (by omega) e105 e106 Y S (lv_sub hl [1, 0] rfl)
    refine lv_istore_n (lv' := [(1, .int (iI 0)), (0, .ref h)]) X.1 X.2.1 d_M_seed_12 rfl hl (by decide) rfl (fun ls hl => ?_)
    exact J107 _ 0 I J B G _ _ _ rfl (by omega) (by omega) e101 gcn Y S (lv_sub hl [1, 0] rfl)
  · refine lv_iconst (v := iI 0) X.1 X.2.1 d_M_seed_9 (by decide) ?_
    exact m_retz hQQ X Y hr hlk (iI_bool (by omega) (by omega)).1 ⟨S, 0, rfl, ⟨by omega, by omega, ⟨cn, gcn, by omega, by omega, by omega⟩⟩⟩ d_M_seed_10
