set_option maxHeartbeats 4000000 in
set_option maxRecDepth 100000 in
theorem r_M_left (l : Launch) (a1 : Int) (l_a1 : (-2147483648) ≤ a1) (u_a1 : a1 ≤ 2147483647) (a2 : Int) (l_a2 : (-2147483648) ≤ a2) (u_a2 : a2 ≤ 2147483647) : Met l y_M_left (k_M_left :: lw_tg) (mR 1 60) (va_Pc [.int (iI a1), .int (iI a2)] pPre) (va_Qi (fun (r : Int32) (_ : Unit) => ∃ z : Int, r = iI z ∧ (-2147483648) ≤ z ∧ z ≤ 2147483647) (fun _ _ => True) (fun _ => False)) 0 0 (fun _ => False) := by
  refine p_enter (by decide) rfl (Nat.le_of_ble_eq_true rfl) (fun p e s m below meth c ls AV QQ H locs hQQ hS X hr hlk hml hl => ?_)
  have hl : lv_has ls 2 [(0, .int (iI a1)), (1, .int (iI a2))] := hl
  refine lv_iload_n X.1 X.2.1 d_M_left_0 rfl (lv_at hl 0 rfl) ?_
  refine lv_iload_n X.1 X.2.1 d_M_left_1 rfl (lv_at hl 1 rfl) ?_
  refine lv_ishl X.1 X.2.1 d_M_left_2 ?_
  refine t_u (fun z101 l101 u101 => ?_)
  refine lv_iload_n X.1 X.2.1 d_M_left_3 rfl (lv_at hl 0 rfl) ?_
  refine lv_bipush (v := iI 32) X.1 X.2.1 d_M_left_4 (by decide) ?_
  refine lv_iload_n X.1 X.2.1 d_M_left_6 rfl (lv_at hl 1 rfl) ?_
  refine lv_isub X.1 X.2.1 d_M_left_7 ?_
  refine t_u (fun z102 l102 u102 => ?_)
  refine lv_iushr X.1 X.2.1 d_M_left_8 rfl ?_
  refine t_u (fun z103 l103 u103 => ?_)
  refine lv_ior X.1 X.2.1 d_M_left_9 ?_
  refine t_u (fun z104 l104 u104 => ?_)
  exact p_reti hQQ hS X hr hlk ⟨z104, rfl, ⟨by omega, by omega⟩⟩ d_M_left_10
set_option maxHeartbeats 4000000 in
set_option maxRecDepth 100000 in
theorem r_M_twice (l : Launch) (a1 : Int) (l_a1 : 0 ≤ a1) (u_a1 : a1 ≤ 255) : Met l y_M_twice (k_M_twice :: lw_tg) (mR 1 60) (va_Pc [.int (iI a1)] pPre) (va_Qi (fun (r : Int32) (_ : Unit) => ∃ z : Int, r = iI z ∧ 0 ≤ z ∧ z ≤ 255) (fun _ _ => True) (fun _ => False)) 0 0 (fun _ => False) := by
  refine p_enter (by decide) rfl (Nat.le_of_ble_eq_true rfl) (fun p e s m below meth c ls AV QQ H locs hQQ hS X hr hlk hml hl => ?_)
  have hl : lv_has ls 1 [(0, .int (iI a1))] := hl
  refine lv_iload_n X.1 X.2.1 d_M_twice_0 rfl (lv_at hl 0 rfl) ?_
  refine lv_iconst (v := iI 1) X.1 X.2.1 d_M_twice_1 (by decide) ?_
  refine lv_ishl X.1 X.2.1 d_M_twice_2 ?_
  refine t_u (fun z101 l101 u101 => ?_)
  refine lv_iload_n X.1 X.2.1 d_M_twice_3 rfl (lv_at hl 0 rfl) ?_
  refine lv_bipush (v := iI 127) X.1 X.2.1 d_M_twice_4 (by decide) ?_
  refine z_icmp_le (tgt := 14) X.1 X.2.1 d_M_twice_6 (by decide) ⟨by omega, by omega⟩ ⟨by omega, by omega⟩ (fun h102 => ?_) (fun h102 => ?_)
  · refine lv_iconst (v := iI 0) X.1 X.2.1 d_M_twice_14 (by decide) ?_
    refine lv_ixor X.1 X.2.1 d_M_twice_15 ?_
    refine t_u (fun z103 l103 u103 => ?_)
    refine lv_sipush (v := iI 255) X.1 X.2.1 d_M_twice_16 (by decide) ?_
    refine z_iand X.1 X.2.1 (by omega) (by omega) d_M_twice_19 (fun z104 l104 u104 => ?_)
    exact p_reti hQQ hS X hr hlk ⟨z104, rfl, ⟨by omega, by omega⟩⟩ d_M_twice_20
  · refine lv_bipush (v := iI 27) X.1 X.2.1 d_M_twice_9 (by decide) ?_
    refine lv_goto (tgt := 15) X.1 X.2.1 d_M_twice_11 (by decide) ?_
    refine lv_ixor X.1 X.2.1 d_M_twice_15 ?_
    refine t_u (fun z105 l105 u105 => ?_)
    refine lv_sipush (v := iI 255) X.1 X.2.1 d_M_twice_16 (by decide) ?_
    refine z_iand X.1 X.2.1 (by omega) (by omega) d_M_twice_19 (fun z106 l106 u106 => ?_)
    exact p_reti hQQ hS X hr hlk ⟨z106, rfl, ⟨by omega, by omega⟩⟩ d_M_twice_20
set_option maxHeartbeats 4000000 in
set_option maxRecDepth 100000 in
theorem r_M_size (l : Launch) (a1 : Int) (l_a1 : (-2147483648) ≤ a1) (u_a1 : a1 ≤ 2147483647) : Met l y_M_size (k_M_size :: lw_tg) (mR 1 60) (va_Pc [.int (iI a1)] pPre) (va_Qi (fun (r : Int32) (_ : Unit) => ∃ z : Int, r = iI z ∧ 16 ≤ z ∧ z ≤ 32 ∧ (z = 16 ∨ z = 32)) (fun _ _ => True) (fun _ => False)) 0 0 (fun _ => False) := by
  refine p_enter (by decide) rfl (Nat.le_of_ble_eq_true rfl) (fun p e s m below meth c ls AV QQ H locs hQQ hS X hr hlk hml hl => ?_)
  have hl : lv_has ls 1 [(0, .int (iI a1))] := hl
  refine lv_iload_n X.1 X.2.1 d_M_size_0 rfl (lv_at hl 0 rfl) ?_
  refine lv_bipush (v := iI 17) X.1 X.2.1 d_M_size_1 (by decide) ?_
  refine z_icmp_ne (tgt := 11) X.1 X.2.1 d_M_size_3 (by decide) ⟨by omega, by omega⟩ ⟨by omega, by omega⟩ (fun h101 => ?_) (fun h101 => ?_)
  · refine lv_bipush (v := iI 32) X.1 X.2.1 d_M_size_11 (by decide) ?_
    exact p_reti hQQ hS X hr hlk ⟨32, rfl, ⟨by omega, by omega, by omega⟩⟩ d_M_size_13
  · refine lv_bipush (v := iI 16) X.1 X.2.1 d_M_size_6 (by decide) ?_
    refine lv_goto (tgt := 13) X.1 X.2.1 d_M_size_8 (by decide) ?_
    exact p_reti hQQ hS X hr hlk ⟨16, rfl, ⟨by omega, by omega, by omega⟩⟩ d_M_size_13
set_option maxHeartbeats 4000000 in
set_option maxRecDepth 100000 in
theorem r_M_daysOf (l : Launch) (a1 : Int) (l_a1 : (-2147483648) ≤ a1) (u_a1 : a1 ≤ 2147483647) (a2 : Int) (l_a2 : (-2147483648) ≤ a2) (u_a2 : a2 ≤ 2147483647) : Met l y_M_daysOf (k_M_daysOf :: lw_tg) (mR 1 60) (va_Pc [.int (iI a1), .int (iI a2)] pPre) (va_Qi (fun (r : Int32) (_ : Unit) => ∃ z : Int, r = iI z ∧ (-2147483648) ≤ z ∧ z ≤ 2147483647) (fun _ _ => True) (fun _ => False)) 0 0 (fun _ => False) := by
  refine p_enter (by decide) rfl (Nat.le_of_ble_eq_true rfl) (fun p e s m below meth c ls AV QQ H locs hQQ hS X hr hlk hml hl => ?_)
  have hl : lv_has ls 2 [(0, .int (iI a1)), (1, .int (iI a2))] := hl
  refine lv_iload_n X.1 X.2.1 d_M_daysOf_0 rfl (lv_at hl 1 rfl) ?_
  refine lv_iconst (v := iI 2) X.1 X.2.1 d_M_daysOf_1 (by decide) ?_
  refine z_icmp_ne (tgt := 21) X.1 X.2.1 d_M_daysOf_2 (by decide) ⟨by omega, by omega⟩ ⟨by omega, by omega⟩ (fun h101 => ?_) (fun h101 => ?_)
  · refine lv_iload_n X.1 X.2.1 d_M_daysOf_21 rfl (lv_at hl 1 rfl) ?_
    refine lv_iconst (v := iI 4) X.1 X.2.1 d_M_daysOf_22 (by decide) ?_
    refine z_icmp_eq (tgt := 44) X.1 X.2.1 d_M_daysOf_23 (by decide) ⟨by omega, by omega⟩ ⟨by omega, by omega⟩ (fun h102 => ?_) (fun h102 => ?_)
    · refine lv_bipush (v := iI 30) X.1 X.2.1 d_M_daysOf_44 (by decide) ?_
      refine lv_goto (tgt := 51) X.1 X.2.1 d_M_daysOf_46 (by decide) ?_
      exact p_reti hQQ hS X hr hlk ⟨30, rfl, ⟨by omega, by omega⟩⟩ d_M_daysOf_51
    · refine lv_iload_n X.1 X.2.1 d_M_daysOf_26 rfl (lv_at hl 1 rfl) ?_
      refine lv_bipush (v := iI 6) X.1 X.2.1 d_M_daysOf_27 (by decide) ?_
      refine z_icmp_eq (tgt := 44) X.1 X.2.1 d_M_daysOf_29 (by decide) ⟨by omega, by omega⟩ ⟨by omega, by omega⟩ (fun h103 => ?_) (fun h103 => ?_)
      · refine lv_bipush (v := iI 30) X.1 X.2.1 d_M_daysOf_44 (by decide) ?_
        refine lv_goto (tgt := 51) X.1 X.2.1 d_M_daysOf_46 (by decide) ?_
        exact p_reti hQQ hS X hr hlk ⟨30, rfl, ⟨by omega, by omega⟩⟩ d_M_daysOf_51
      · refine lv_iload_n X.1 X.2.1 d_M_daysOf_32 rfl (lv_at hl 1 rfl) ?_
        refine lv_bipush (v := iI 9) X.1 X.2.1 d_M_daysOf_33 (by decide) ?_
        refine z_icmp_eq (tgt := 44) X.1 X.2.1 d_M_daysOf_35 (by decide) ⟨by omega, by omega⟩ ⟨by omega, by omega⟩ (fun h104 => ?_) (fun h104 => ?_)
        · refine lv_bipush (v := iI 30) X.1 X.2.1 d_M_daysOf_44 (by decide) ?_
          refine lv_goto (tgt := 51) X.1 X.2.1 d_M_daysOf_46 (by decide) ?_
          exact p_reti hQQ hS X hr hlk ⟨30, rfl, ⟨by omega, by omega⟩⟩ d_M_daysOf_51
        · refine lv_iload_n X.1 X.2.1 d_M_daysOf_38 rfl (lv_at hl 1 rfl) ?_
          refine lv_bipush (v := iI 11) X.1 X.2.1 d_M_daysOf_39 (by decide) ?_
          refine z_icmp_ne (tgt := 49) X.1 X.2.1 d_M_daysOf_41 (by decide) ⟨by omega, by omega⟩ ⟨by omega, by omega⟩ (fun h105 => ?_) (fun h105 => ?_)
          · refine lv_bipush (v := iI 31) X.1 X.2.1 d_M_daysOf_49 (by decide) ?_
            exact p_reti hQQ hS X hr hlk ⟨31, rfl, ⟨by omega, by omega⟩⟩ d_M_daysOf_51
          · refine lv_bipush (v := iI 30) X.1 X.2.1 d_M_daysOf_44 (by decide) ?_
            refine lv_goto (tgt := 51) X.1 X.2.1 d_M_daysOf_46 (by decide) ?_
            exact p_reti hQQ hS X hr hlk ⟨30, rfl, ⟨by omega, by omega⟩⟩ d_M_daysOf_51
  · refine lv_iload_n X.1 X.2.1 d_M_daysOf_5 rfl (lv_at hl 0 rfl) ?_
    refine lv_iconst (v := iI 4) X.1 X.2.1 d_M_daysOf_6 (by decide) ?_
    refine z_iremg X.1 X.2.1 ⟨by omega, by omega⟩ ⟨by decide, by decide⟩ d_M_daysOf_7 (fun z106 l106 u106 x106 => ?_)
    refine z_if_ne (tgt := 16) X.1 X.2.1 d_M_daysOf_8 (by decide) ⟨by omega, by omega⟩ (fun h107 => ?_) (fun h107 => ?_)
    · refine lv_bipush (v := iI 28) X.1 X.2.1 d_M_daysOf_16 (by decide) ?_
      refine lv_goto (tgt := 51) X.1 X.2.1 d_M_daysOf_18 (by decide) ?_
      exact p_reti hQQ hS X hr hlk ⟨28, rfl, ⟨by omega, by omega⟩⟩ d_M_daysOf_51
    · refine lv_bipush (v := iI 29) X.1 X.2.1 d_M_daysOf_11 (by decide) ?_
      refine lv_goto (tgt := 51) X.1 X.2.1 d_M_daysOf_13 (by decide) ?_
      exact p_reti hQQ hS X hr hlk ⟨29, rfl, ⟨by omega, by omega⟩⟩ d_M_daysOf_51
set_option maxHeartbeats 4000000 in
set_option maxRecDepth 100000 in
theorem r_M_bitOf (l : Launch) (a1 : Int) (l_a1 : (-2147483648) ≤ a1) (u_a1 : a1 ≤ 2147483647) : Met l y_M_bitOf (k_M_bitOf :: lw_tg) (mR 1 60) (va_Pc [.int (iI a1)] pPre) (va_Qi (fun (r : Int32) (_ : Unit) => ∃ z : Int, r = iI z ∧ (-2147483648) ≤ z ∧ z ≤ 2147483647) (fun _ _ => True) (fun _ => False)) 0 0 (fun _ => False) := by
  refine p_enter (by decide) rfl (Nat.le_of_ble_eq_true rfl) (fun p e s m below meth c ls AV QQ H locs hQQ hS X hr hlk hml hl => ?_)
  have hl : lv_has ls 1 [(0, .int (iI a1))] := hl
  refine lv_iconst (v := iI 1) X.1 X.2.1 d_M_bitOf_0 (by decide) ?_
  refine lv_bipush (v := iI 31) X.1 X.2.1 d_M_bitOf_1 (by decide) ?_
  refine lv_iload_n X.1 X.2.1 d_M_bitOf_3 rfl (lv_at hl 0 rfl) ?_
  refine lv_isub X.1 X.2.1 d_M_bitOf_4 ?_
  refine t_u (fun z101 l101 u101 => ?_)
  refine lv_ishl X.1 X.2.1 d_M_bitOf_5 ?_
  refine t_u (fun z102 l102 u102 => ?_)
  exact p_reti hQQ hS X hr hlk ⟨z102, rfl, ⟨by omega, by omega⟩⟩ d_M_bitOf_6
set_option maxHeartbeats 4000000 in
set_option maxRecDepth 100000 in
theorem r_M_firstType (l : Launch) (a1 : Int) (l_a1 : (-2147483648) ≤ a1) (u_a1 : a1 ≤ 2147483647) : Met l y_M_firstType (k_M_firstType :: lw_tg) (mR 1 60) (va_Pc [.int (iI a1)] pPre) (va_Qi (fun (r : Int32) (_ : Unit) => ∃ z : Int, r = iI z ∧ (-2147483648) ≤ z ∧ z ≤ 2147483647) (fun _ _ => True) (fun _ => False)) 0 0 (fun _ => False) := by
  refine p_enter (by decide) rfl (Nat.le_of_ble_eq_true rfl) (fun p e s m below meth c ls AV QQ H locs hQQ hS X hr hlk hml hl => ?_)
  have hl : lv_has ls 1 [(0, .int (iI a1))] := hl
  refine lv_iload_n X.1 X.2.1 d_M_firstType_0 rfl (lv_at hl 0 rfl) ?_
  refine lv_iconst (v := iI 1) X.1 X.2.1 d_M_firstType_1 (by decide) ?_
  refine z_icmp_eq (tgt := 10) X.1 X.2.1 d_M_firstType_2 (by decide) ⟨by omega, by omega⟩ ⟨by omega, by omega⟩ (fun h101 => ?_) (fun h101 => ?_)
  · refine lv_bipush (v := iI 17) X.1 X.2.1 d_M_firstType_10 (by decide) ?_
    refine lv_goto (tgt := 17) X.1 X.2.1 d_M_firstType_12 (by decide) ?_
    exact p_reti hQQ hS X hr hlk ⟨17, rfl, ⟨by omega, by omega⟩⟩ d_M_firstType_17
  · refine lv_iload_n X.1 X.2.1 d_M_firstType_5 rfl (lv_at hl 0 rfl) ?_
    refine lv_iconst (v := iI 3) X.1 X.2.1 d_M_firstType_6 (by decide) ?_
    refine z_icmp_ne (tgt := 15) X.1 X.2.1 d_M_firstType_7 (by decide) ⟨by omega, by omega⟩ ⟨by omega, by omega⟩ (fun h102 => ?_) (fun h102 => ?_)
    · refine lv_bipush (v := iI 18) X.1 X.2.1 d_M_firstType_15 (by decide) ?_
      exact p_reti hQQ hS X hr hlk ⟨18, rfl, ⟨by omega, by omega⟩⟩ d_M_firstType_17
    · refine lv_bipush (v := iI 17) X.1 X.2.1 d_M_firstType_10 (by decide) ?_
      refine lv_goto (tgt := 17) X.1 X.2.1 d_M_firstType_12 (by decide) ?_
      exact p_reti hQQ hS X hr hlk ⟨17, rfl, ⟨by omega, by omega⟩⟩ d_M_firstType_17
set_option maxHeartbeats 4000000 in
set_option maxRecDepth 100000 in
theorem r_M_feed (l : Launch) (D : mD) (E : mE) (h : Nat) (q : Nat → Nat) (sz : Nat) (I : Nat → Int32) (J : Nat → Int64) (B : Nat → Nat → Int32) (G : Nat → Nat → Int64) (a1 : Int) (l_a1 : (-2147483648) ≤ a1) (u_a1 : a1 ≤ 2147483647) (a2 : Int) (l_a2 : (-2147483648) ≤ a2) (u_a2 : a2 ≤ 2147483647) (a3 : Int) (l_a3 : (-2147483648) ≤ a3) (u_a3 : a3 ≤ 2147483647) (a4 : Int) (l_a4 : (-2147483648) ≤ a4) (u_a4 : a4 ≤ 2147483647) (a5 : Int) (l_a5 : (-2147483648) ≤ a5) (u_a5 : a5 ≤ 2147483647) (hT : rT I B) : Met l y_M_feed (k_M_feed :: lw_tg) (mR 1 60) (va_Pc [.ref h, .int (iI a1), .int (iI a2), .int (iI a3), .int (iI a4), .int (iI a5)] (mPre D E h q (I, J, B, G) sz)) (va_Qi (rPi [2] [0] I B (fun (z : Int) (u : mS) => 0 ≤ z ∧ z ≤ 1)) (mPost D E h q (mA E h q sz)) (mA E h q sz)) 0 0 (mA E h q sz) := by
  refine m_enter (by decide) rfl (Nat.le_of_ble_eq_true rfl) (fun p e s m below meth c ls AV QQ H locs hQQ X Y hZ hA hr hlk hml hl => ?_)
  have Y : mH D E (mA E h q sz) s.heap h q I J B G H locs := Y
  have S : rS [2] [0] I B I B := rS_rf hT
  have hl : lv_has ls 8 [(0, .ref h), (1, .int (iI a1)), (2, .int (iI a2)), (3, .int (iI a3)), (4, .int (iI a4)), (5, .int (iI a5))] := hl
  refine lv_aload_n X.1 X.2.1 d_M_feed_0 rfl (lv_at hl 0 rfl) ?_
  refine r_geti (k := 2) X Y S (by decide) lk_length (gf_length _ _ _) rfl rfl d_M_feed_1 (fun z101 e101 l101 u101 => ?_)
  refine lv_bipush (v := iI 20) X.1 X.2.1 d_M_feed_4 (by decide) ?_
  refine z_iadd X.1 X.2.1 d_M_feed_6 ?_
  refine lv_sipush (v := iI 4000) X.1 X.2.1 d_M_feed_7 (by decide) ?_
  refine z_icmp_le (tgt := 15) X.1 X.2.1 d_M_feed_10 (by decide) ⟨by omega, by omega⟩ ⟨by omega, by omega⟩ (fun h102 => ?_) (fun h102 => ?_)
  · refine lv_iconst (v := iI 0) X.1 X.2.1 d_M_feed_15 (by decide) ?_
    have J105 : ∀ (n107 : Nat) (z104 : Int) (I103 : Nat → Int32) (J103 : Nat → Int64) (B103 : Nat → Nat → Int32) (G103 : Nat → Nat → Int64) (H : Heap) (locs : List Loc) (ls : Array Slot), (20 - z104).toNat = n107 → (0 ≤ z104) → (z104 ≤ 20) → mH D E (mA E h q sz) s.heap h q I103 J103 B103 G103 H locs → rS [2] [0] I B I103 B103 → lv_has ls 8 [(0, .ref h), (1, .int (iI a1)), (2, .int (iI a2)), (3, .int (iI a3)), (4, .int (iI a4)), (5, .int (iI a5)), (6, .int (iI z104))] → W p l e (mR 1 60) s m AV below meth c H locs 0 0 QQ (F0 m 18 ls []) := by
      intro n107
      induction n107 using Nat.strongRecOn with
      | ind n107 ih106 =>
        intro z104 I103 J103 B103 G103 H locs ls hm108 l104 u104 Y S hl
        refine lv_iload X.1 X.2.1 d_M_feed_18 (lv_at hl 6 rfl) ?_
        refine lv_bipush (v := iI 20) X.1 X.2.1 d_M_feed_20 (by decide) ?_
        refine z_icmp_ge (tgt := 112) X.1 X.2.1 d_M_feed_22 (by decide) ⟨by omega, by omega⟩ ⟨by omega, by omega⟩ (fun h109 => ?_) (fun h109 => ?_)
        · refine lv_iconst (v := iI 1) X.1 X.2.1 d_M_feed_112 (by decide) ?_
          exact m_retz hQQ X Y hr hlk (iI_bool (by omega) (by omega)).1 ⟨S, 1, rfl, ⟨by omega, by omega⟩⟩ d_M_feed_113
        · refine lv_iload X.1 X.2.1 d_M_feed_25 (lv_at hl 6 rfl) ?_
          refine lv_iconst (v := iI 4) X.1 X.2.1 d_M_feed_27 (by decide) ?_
          have J111 : ∀ (z110 : Int) (H : Heap) (locs : List Loc) (ls : Array Slot), ((-2147483648) ≤ z110) → (z110 ≤ 2147483647) → mH D E (mA E h q sz) s.heap h q I103 J103 B103 G103 H locs → rS [2] [0] I B I103 B103 → lv_has ls 8 [(0, .ref h), (1, .int (iI a1)), (2, .int (iI a2)), (3, .int (iI a3)), (4, .int (iI a4)), (5, .int (iI a5)), (6, .int (iI z104))] → W p l e (mR 1 60) s m AV below meth c H locs 0 0 QQ (F0 m 71 ls [.int (iI z110)]) := by
            intro z110 H locs ls l110 u110 Y S hl
            refine lv_istore (lv' := [(7, .int (iI z110)), (0, .ref h), (1, .int (iI a1)), (2, .int (iI a2)), (3, .int (iI a3)), (4, .int (iI a4)), (5, .int (iI a5)), (6, .int (iI z104))]) X.1 X.2.1 d_M_feed_71 hl (by decide) rfl (fun ls hl => ?_)
            refine lv_aload_n X.1 X.2.1 d_M_feed_73 rfl (lv_at hl 1 rfl) ?_
            refine m_get X Y 0 (by decide) lk_mem (gf_mem _ _ _) rfl d_M_feed_74 ?_
            refine lv_aload_n X.1 X.2.1 d_M_feed_77 rfl (lv_at hl 1 rfl) ?_
            refine r_geti (k := 2) X Y S (by decide) lk_length (gf_length _ _ _) rfl rfl d_M_feed_78 (fun z115 e115 l115 u115 => ?_)
            refine lv_iload X.1 X.2.1 d_M_feed_81 (lv_at hl 0 rfl) ?_
            refine lv_bipush (v := iI 24) X.1 X.2.1 d_M_feed_83 (by decide) ?_
            refine lv_bipush (v := iI 8) X.1 X.2.1 d_M_feed_85 (by decide) ?_
            refine lv_iload X.1 X.2.1 d_M_feed_87 (lv_at hl 7 rfl) ?_
            refine lv_iconst (v := iI 4) X.1 X.2.1 d_M_feed_89 (by decide) ?_
            refine z_irem X.1 X.2.1 (by omega) (by omega) ⟨by decide, by decide⟩ d_M_feed_90 ?_
            refine z_imul X.1 X.2.1 d_M_feed_91 ?_
            refine z_isub X.1 X.2.1 d_M_feed_92 ?_
            refine lv_ishr X.1 X.2.1 d_M_feed_93 ?_
            refine t_u (fun z116 l116 u116 => ?_)
            refine lv_i2b X.1 X.2.1 d_M_feed_94 rfl ?_
            refine t_u (fun z117 l117 u117 => ?_)
            refine r_bast X Y S (aw_mem _ _ _ _ _ _ _) (sw_mem _ _ _ _ _ _ _) rfl (by omega) (show z115 < ((60000 : Nat) : Int) by omega) (by omega) (by decide) d_M_feed_95 (fun B118 H locs Y S w118 => ?_)
            refine lv_aload_n X.1 X.2.1 d_M_feed_96 rfl (lv_at hl 1 rfl) ?_
            refine lv_dup X.1 X.2.1 d_M_feed_97 rfl ?_
            refine r_get0 X Y (by decide) lk_length (gf_length _ _ _) rfl e115 d_M_feed_98 ?_
            refine lv_iconst (v := iI 1) X.1 X.2.1 d_M_feed_101 (by decide) ?_
            refine z_iadd X.1 X.2.1 d_M_feed_102 ?_
            refine r_puti (k := 2) X Y S (by decide) lk_length rfl rfl (t_M_ok 2 (by decide)) rfl rfl (sf_length _ _ _ _) (Nat.le_of_ble_eq_true rfl) rfl (show (0 : Int) ≤ z115 + 1 by omega) (show z115 + 1 ≤ (4000 : Int) by omega) ⟨by omega, by omega⟩ (by decide) d_M_feed_103 (fun I119 H locs Y S w119 => ?_)
            refine lv_iinc (v := iI (z104 + 1)) (lv' := [(6, .int (iI (z104 + 1))), (7, .int (iI z110)), (0, .ref h), (1, .int (iI a1)), (2, .int (iI a2)), (3, .int (iI a3)), (4, .int (iI a4)), (5, .int (iI a5))]) X.1 X.2.1 d_M_feed_106 hl (k := 7) rfl ((iI_add _ _).trans (congrArg iI (by omega))) (by decide) rfl (fun ls hl => ?_)
            refine lv_goto (tgt := 18) X.1 X.2.1 d_M_feed_109 (by decide) ?_
            exact ih106 ((20 - (z104 + 1)).toNat) (by omega) (z104 + 1) I119 J103 B118 G103 _ _ _ rfl (by omega) (by omega) Y S (lv_sub hl [2, 3, 4, 5, 6, 7, 0] rfl)
          refine z_icmp_ge (tgt := 35) X.1 X.2.1 d_M_feed_28 (by decide) ⟨by omega, by omega⟩ ⟨by omega, by omega⟩ (fun h120 => ?_) (fun h120 => ?_)
          · refine lv_iload X.1 X.2.1 d_M_feed_35 (lv_at hl 6 rfl) ?_
            refine lv_bipush (v := iI 8) X.1 X.2.1 d_M_feed_37 (by decide) ?_
            refine z_icmp_ge (tgt := 46) X.1 X.2.1 d_M_feed_39 (by decide) ⟨by omega, by omega⟩ ⟨by omega, by omega⟩ (fun h121 => ?_) (fun h121 => ?_)
            · refine lv_iload X.1 X.2.1 d_M_feed_46 (lv_at hl 6 rfl) ?_
              refine lv_bipush (v := iI 12) X.1 X.2.1 d_M_feed_48 (by decide) ?_
              refine z_icmp_ge (tgt := 57) X.1 X.2.1 d_M_feed_50 (by decide) ⟨by omega, by omega⟩ ⟨by omega, by omega⟩ (fun h122 => ?_) (fun h122 => ?_)
              · refine lv_iload X.1 X.2.1 d_M_feed_57 (lv_at hl 6 rfl) ?_
                refine lv_bipush (v := iI 16) X.1 X.2.1 d_M_feed_59 (by decide) ?_
                refine z_icmp_ge (tgt := 69) X.1 X.2.1 d_M_feed_61 (by decide) ⟨by omega, by omega⟩ ⟨by omega, by omega⟩ (fun h123 => ?_) (fun h123 => ?_)
                · refine lv_iload X.1 X.2.1 d_M_feed_69 (lv_at hl 5 rfl) ?_
                  exact J111 a5 _ _ _ (by omega) (by omega) Y S (lv_sub hl [0, 1, 2, 3, 4, 5, 6] rfl)
                · refine lv_iload X.1 X.2.1 d_M_feed_64 (lv_at hl 4 rfl) ?_
                  refine lv_goto (tgt := 71) X.1 X.2.1 d_M_feed_66 (by decide) ?_
                  exact J111 a4 _ _ _ (by omega) (by omega) Y S (lv_sub hl [0, 1, 2, 3, 4, 5, 6] rfl)
              · refine lv_iload_n X.1 X.2.1 d_M_feed_53 rfl (lv_at hl 3 rfl) ?_
                refine lv_goto (tgt := 71) X.1 X.2.1 d_M_feed_54 (by decide) ?_
                exact J111 a3 _ _ _ (by omega) (by omega) Y S (lv_sub hl [0, 1, 2, 3, 4, 5, 6] rfl)
            · refine lv_iload_n X.1 X.2.1 d_M_feed_42 rfl (lv_at hl 2 rfl) ?_
              refine lv_goto (tgt := 71) X.1 X.2.1 d_M_feed_43 (by decide) ?_
              exact J111 a2 _ _ _ (by omega) (by omega) Y S (lv_sub hl [0, 1, 2, 3, 4, 5, 6] rfl)
          · refine lv_iload_n X.1 X.2.1 d_M_feed_31 rfl (lv_at hl 1 rfl) ?_
            refine lv_goto (tgt := 71) X.1 X.2.1 d_M_feed_32 (by decide) ?_
            exact J111 a1 _ _ _ (by omega) (by omega) Y S (lv_sub hl [0, 1, 2, 3, 4, 5, 6] rfl)
    refine lv_istore (lv' := [(6, .int (iI 0)), (0, .ref h), (1, .int (iI a1)), (2, .int (iI a2)), (3, .int (iI a3)), (4, .int (iI a4)), (5, .int (iI a5))]) X.1 X.2.1 d_M_feed_16 hl (by decide) rfl (fun ls hl => ?_)
    exact J105 _ 0 I J B G _ _ _ rfl (by omega) (by omega) Y S (lv_sub hl [1, 2, 3, 4, 5, 6, 0] rfl)
  · refine lv_iconst (v := iI 0) X.1 X.2.1 d_M_feed_13 (by decide) ?_
    exact m_retz hQQ X Y hr hlk (iI_bool (by omega) (by omega)).1 ⟨S, 0, rfl, ⟨by omega, by omega⟩⟩ d_M_feed_14
set_option maxHeartbeats 4000000 in
set_option maxRecDepth 100000 in
theorem r_M_end (l : Launch) (D : mD) (E : mE) (h : Nat) (q : Nat → Nat) (sz : Nat) (I : Nat → Int32) (J : Nat → Int64) (B : Nat → Nat → Int32) (G : Nat → Nat → Int64) (a1 : Int) (l_a1 : (-2147483648) ≤ a1) (u_a1 : a1 ≤ 2147483647) (hT : rT I B) : Met l y_M_end (k_M_end :: lw_tg) (mR 1 60) (va_Pc [.ref h, .int (iI a1)] (mPre D E h q (I, J, B, G) sz)) (va_Qi (rPi [2] [] I B (fun (z : Int) (u : mS) => 0 ≤ z ∧ z ≤ 1)) (mPost D E h q (mA E h q sz)) (mA E h q sz)) 0 0 (mA E h q sz) := by
  refine m_enter (by decide) rfl (Nat.le_of_ble_eq_true rfl) (fun p e s m below meth c ls AV QQ H locs hQQ X Y hZ hA hr hlk hml hl => ?_)
  have Y : mH D E (mA E h q sz) s.heap h q I J B G H locs := Y
  have S : rS [2] [] I B I B := rS_rf hT
  have hl : lv_has ls 2 [(0, .ref h), (1, .int (iI a1))] := hl
  refine lv_iload_n X.1 X.2.1 d_M_end_0 rfl (lv_at hl 1 rfl) ?_
  refine z_if_lt (tgt := 12) X.1 X.2.1 d_M_end_1 (by decide) ⟨by omega, by omega⟩ (fun h101 => ?_) (fun h101 => ?_)
  · refine lv_iconst (v := iI 0) X.1 X.2.1 d_M_end_12 (by decide) ?_
    exact m_retz hQQ X Y hr hlk (iI_bool (by omega) (by omega)).1 ⟨S, 0, rfl, ⟨by omega, by omega⟩⟩ d_M_end_13
  · refine lv_iload_n X.1 X.2.1 d_M_end_4 rfl (lv_at hl 1 rfl) ?_
    refine lv_aload_n X.1 X.2.1 d_M_end_5 rfl (lv_at hl 0 rfl) ?_
    refine r_geti (k := 2) X Y S (by decide) lk_length (gf_length _ _ _) rfl rfl d_M_end_6 (fun z102 e102 l102 u102 => ?_)
    refine z_icmp_le (tgt := 14) X.1 X.2.1 d_M_end_9 (by decide) ⟨by omega, by omega⟩ ⟨by omega, by omega⟩ (fun h103 => ?_) (fun h103 => ?_)
    · refine lv_aload_n X.1 X.2.1 d_M_end_14 rfl (lv_at hl 0 rfl) ?_
      refine lv_iload_n X.1 X.2.1 d_M_end_15 rfl (lv_at hl 1 rfl) ?_
      refine r_puti (k := 2) X Y S (by decide) lk_length rfl rfl (t_M_ok 2 (by decide)) rfl rfl (sf_length _ _ _ _) (Nat.le_of_ble_eq_true rfl) rfl (show (0 : Int) ≤ a1 by omega) (show a1 ≤ (4000 : Int) by omega) ⟨by omega, by omega⟩ (by decide) d_M_end_16 (fun I104 H locs Y S w104 => ?_)
      refine lv_iconst (v := iI 1) X.1 X.2.1 d_M_end_19 (by decide) ?_
      exact m_retz hQQ X Y hr hlk (iI_bool (by omega) (by omega)).1 ⟨S, 1, rfl, ⟨by omega, by omega⟩⟩ d_M_end_20
    · refine lv_iconst (v := iI 0) X.1 X.2.1 d_M_end_12 (by decide) ?_
      exact m_retz hQQ X Y hr hlk (iI_bool (by omega) (by omega)).1 ⟨S, 0, rfl, ⟨by omega, by omega⟩⟩ d_M_end_13
set_option maxHeartbeats 4000000 in
set_option maxRecDepth 100000 in
theorem r_M_out (l : Launch) (D : mD) (E : mE) (h : Nat) (q : Nat → Nat) (sz : Nat) (I : Nat → Int32) (J : Nat → Int64) (B : Nat → Nat → Int32) (G : Nat → Nat → Int64) (a1 : Int) (l_a1 : (-2147483648) ≤ a1) (u_a1 : a1 ≤ 2147483647) (hT : rT I B) : Met l y_M_out (k_M_out :: lw_tg) (mR 1 60) (va_Pc [.ref h, .int (iI a1)] (mPre D E h q (I, J, B, G) sz)) (va_Qi (rPi [] [] I B (fun (z : Int) (u : mS) => (-2147483648) ≤ z ∧ z ≤ 2147483647)) (mPost D E h q (mA E h q sz)) (mA E h q sz)) 0 0 (mA E h q sz) := by
  refine m_enter (by decide) rfl (Nat.le_of_ble_eq_true rfl) (fun p e s m below meth c ls AV QQ H locs hQQ X Y hZ hA hr hlk hml hl => ?_)
  have Y : mH D E (mA E h q sz) s.heap h q I J B G H locs := Y
  have S : rS [] [] I B I B := rS_rf hT
  have hl : lv_has ls 2 [(0, .ref h), (1, .int (iI a1))] := hl
  refine lv_iload_n X.1 X.2.1 d_M_out_0 rfl (lv_at hl 1 rfl) ?_
  refine lv_iconst (v := iI (-1)) X.1 X.2.1 d_M_out_1 (by decide) ?_
  refine z_icmp_ne (tgt := 12) X.1 X.2.1 d_M_out_2 (by decide) ⟨by omega, by omega⟩ ⟨by omega, by omega⟩ (fun h101 => ?_) (fun h101 => ?_)
  · refine lv_iload_n X.1 X.2.1 d_M_out_12 rfl (lv_at hl 1 rfl) ?_
    refine z_if_lt (tgt := 37) X.1 X.2.1 d_M_out_13 (by decide) ⟨by omega, by omega⟩ (fun h102 => ?_) (fun h102 => ?_)
    · refine lv_iconst (v := iI (-1)) X.1 X.2.1 d_M_out_37 (by decide) ?_
      exact m_reti hQQ X Y hr hlk ⟨S, (-1), rfl, ⟨by omega, by omega⟩⟩ d_M_out_38
    · refine lv_iload_n X.1 X.2.1 d_M_out_16 rfl (lv_at hl 1 rfl) ?_
      refine lv_aload_n X.1 X.2.1 d_M_out_17 rfl (lv_at hl 0 rfl) ?_
      refine r_geti (k := 3) X Y S (by decide) lk_outMany (gf_outMany _ _ _) rfl rfl d_M_out_18 (fun z103 e103 l103 u103 => ?_)
      refine z_icmp_ge (tgt := 37) X.1 X.2.1 d_M_out_21 (by decide) ⟨by omega, by omega⟩ ⟨by omega, by omega⟩ (fun h104 => ?_) (fun h104 => ?_)
      · refine lv_iconst (v := iI (-1)) X.1 X.2.1 d_M_out_37 (by decide) ?_
        exact m_reti hQQ X Y hr hlk ⟨S, (-1), rfl, ⟨by omega, by omega⟩⟩ d_M_out_38
      · refine lv_aload_n X.1 X.2.1 d_M_out_24 rfl (lv_at hl 0 rfl) ?_
        refine m_get X Y 1 (by decide) lk_outs (gf_outs _ _ _) rfl d_M_out_25 ?_
        refine lv_iload_n X.1 X.2.1 d_M_out_28 rfl (lv_at hl 1 rfl) ?_
        refine r_bald X Y S (aw_outs _ _ _ _ _ _ _) rfl (by omega) (show a1 < ((20000 : Nat) : Int) by omega) (by omega) d_M_out_29 (fun z105 q105 l105 u105 => ?_)
        refine lv_sipush (v := iI 255) X.1 X.2.1 d_M_out_30 (by decide) ?_
        refine z_iand X.1 X.2.1 (by omega) (by omega) d_M_out_33 (fun z106 l106 u106 => ?_)
        refine lv_goto (tgt := 38) X.1 X.2.1 d_M_out_34 (by decide) ?_
        exact m_reti hQQ X Y hr hlk ⟨S, z106, rfl, ⟨by omega, by omega⟩⟩ d_M_out_38
  · refine lv_aload_n X.1 X.2.1 d_M_out_5 rfl (lv_at hl 0 rfl) ?_
    refine r_geti (k := 3) X Y S (by decide) lk_outMany (gf_outMany _ _ _) rfl rfl d_M_out_6 (fun z107 e107 l107 u107 => ?_)
    refine lv_goto (tgt := 38) X.1 X.2.1 d_M_out_9 (by decide) ?_
    exact m_reti hQQ X Y hr hlk ⟨S, z107, rfl, ⟨by omega, by omega⟩⟩ d_M_out_38
set_option maxHeartbeats 4000000 in
set_option maxRecDepth 100000 in
theorem r_M_carry (l : Launch) (D : mD) (E : mE) (h : Nat) (q : Nat → Nat) (sz : Nat) (I : Nat → Int32) (J : Nat → Int64) (B : Nat → Nat → Int32) (G : Nat → Nat → Int64) (a1 : Int) (l_a1 : (-2147483648) ≤ a1) (u_a1 : a1 ≤ 2147483647) (a2 : Int) (l_a2 : (-2147483648) ≤ a2) (u_a2 : a2 ≤ 2147483647) (hT : rT I B) : Met l y_M_carry (k_M_carry :: lw_tg) (mR 1 60) (va_Pc [.ref h, .int (iI a1), .int (iI a2)] (mPre D E h q (I, J, B, G) sz)) (va_Qi (rPi [2] [0] I B (fun (z : Int) (u : mS) => (-2147483648) ≤ z ∧ z ≤ 2147483647)) (mPost D E h q (mA E h q sz)) (mA E h q sz)) 0 0 (mA E h q sz) := by
  refine m_enter (by decide) rfl (Nat.le_of_ble_eq_true rfl) (fun p e s m below meth c ls AV QQ H locs hQQ X Y hZ hA hr hlk hml hl => ?_)
  have Y : mH D E (mA E h q sz) s.heap h q I J B G H locs := Y
  have S : rS [2] [0] I B I B := rS_rf hT
  have hl : lv_has ls 5 [(0, .ref h), (1, .int (iI a1)), (2, .int (iI a2))] := hl
  refine lv_aload_n X.1 X.2.1 d_M_carry_0 rfl (lv_at hl 0 rfl) ?_
  refine r_geti (k := 3) X Y S (by decide) lk_outMany (gf_outMany _ _ _) rfl rfl d_M_carry_1 (fun z101 e101 l101 u101 => ?_)
  refine lv_sipush (v := iI 4000) X.1 X.2.1 d_M_carry_4 (by decide) ?_
  have J103 : ∀ (z102 : Int) (H : Heap) (locs : List Loc) (ls : Array Slot), (0 ≤ z102) → (z102 ≤ 4000) → mH D E (mA E h q sz) s.heap h q I J B G H locs → rS [2] [0] I B I B → lv_has ls 5 [(0, .ref h), (1, .int (iI a1)), (2, .int (iI a2))] → W p l e (mR 1 60) s m AV below meth c H locs 0 0 QQ (F0 m 20 ls [.int (iI z102)]) := by
    intro z102 H locs ls l102 u102 Y S hl
    refine lv_istore_n (lv' := [(3, .int (iI z102)), (0, .ref h), (1, .int (iI a1)), (2, .int (iI a2))]) X.1 X.2.1 d_M_carry_20 rfl hl (by decide) rfl (fun ls hl => ?_)
    refine lv_iconst (v := iI 0) X.1 X.2.1 d_M_carry_21 (by decide) ?_
    have J109 : ∀ (n111 : Nat) (z108 : Int) (I107 : Nat → Int32) (J107 : Nat → Int64) (B107 : Nat → Nat → Int32) (G107 : Nat → Nat → Int64) (H : Heap) (locs : List Loc) (ls : Array Slot), (4000 - z108).toNat = n111 → (0 ≤ z108) → (z108 ≤ 4000) → mH D E (mA E h q sz) s.heap h q I107 J107 B107 G107 H locs → rS [2] [0] I B I107 B107 → lv_has ls 5 [(0, .ref h), (1, .int (iI a1)), (2, .int (iI a2)), (3, .int (iI z102)), (4, .int (iI z108))] → W p l e (mR 1 60) s m AV below meth c H locs 0 0 QQ (F0 m 24 ls []) := by
      intro n111
      induction n111 using Nat.strongRecOn with
      | ind n111 ih110 =>
        intro z108 I107 J107 B107 G107 H locs ls hm112 l108 u108 Y S hl
        refine lv_iload X.1 X.2.1 d_M_carry_24 (lv_at hl 4 rfl) ?_
        refine lv_iload_n X.1 X.2.1 d_M_carry_26 rfl (lv_at hl 3 rfl) ?_
        refine z_icmp_ge (tgt := 69) X.1 X.2.1 d_M_carry_27 (by decide) ⟨by omega, by omega⟩ ⟨by omega, by omega⟩ (fun h113 => ?_) (fun h113 => ?_)
        · refine lv_aload_n X.1 X.2.1 d_M_carry_69 rfl (lv_at hl 0 rfl) ?_
          refine lv_iload_n X.1 X.2.1 d_M_carry_70 rfl (lv_at hl 3 rfl) ?_
          refine r_puti (k := 2) X Y S (by decide) lk_length rfl rfl (t_M_ok 2 (by decide)) rfl rfl (sf_length _ _ _ _) (Nat.le_of_ble_eq_true rfl) rfl (show (0 : Int) ≤ z102 by omega) (show z102 ≤ (4000 : Int) by omega) ⟨by omega, by omega⟩ (by decide) d_M_carry_71 (fun I114 H locs Y S w114 => ?_)
          refine lv_iload_n X.1 X.2.1 d_M_carry_74 rfl (lv_at hl 3 rfl) ?_
          exact m_reti hQQ X Y hr hlk ⟨S, z102, rfl, ⟨by omega, by omega⟩⟩ d_M_carry_75
        · refine lv_aload_n X.1 X.2.1 d_M_carry_30 rfl (lv_at hl 0 rfl) ?_
          refine m_get X Y 0 (by decide) lk_mem (gf_mem _ _ _) rfl d_M_carry_31 ?_
          refine lv_iload X.1 X.2.1 d_M_carry_34 (lv_at hl 4 rfl) ?_
          refine lv_iload X.1 X.2.1 d_M_carry_36 (lv_at hl 4 rfl) ?_
          refine lv_iload_n X.1 X.2.1 d_M_carry_38 rfl (lv_at hl 1 rfl) ?_
          have J116 : ∀ (z115 : Int) (H : Heap) (locs : List Loc) (ls : Array Slot), ((-2147483648) ≤ z115) → (z115 ≤ 2147483647) → mH D E (mA E h q sz) s.heap h q I107 J107 B107 G107 H locs → rS [2] [0] I B I107 B107 → lv_has ls 5 [(0, .ref h), (1, .int (iI a1)), (2, .int (iI a2)), (3, .int (iI z102)), (4, .int (iI z108))] → W p l e (mR 1 60) s m AV below meth c H locs 0 0 QQ (F0 m 62 ls [.int (iI z115), .int (iI z108), .ref ((q 0))]) := by
            intro z115 H locs ls l115 u115 Y S hl
            refine r_bast X Y S (aw_mem _ _ _ _ _ _ _) (sw_mem _ _ _ _ _ _ _) rfl (by omega) (show z108 < ((60000 : Nat) : Int) by omega) (by omega) (by decide) d_M_carry_62 (fun B120 H locs Y S w120 => ?_)
            refine lv_iinc (v := iI (z108 + 1)) (lv' := [(4, .int (iI (z108 + 1))), (0, .ref h), (1, .int (iI a1)), (2, .int (iI a2)), (3, .int (iI z102))]) X.1 X.2.1 d_M_carry_63 hl (k := 4) rfl ((iI_add _ _).trans (congrArg iI (by omega))) (by decide) rfl (fun ls hl => ?_)
            refine lv_goto (tgt := 24) X.1 X.2.1 d_M_carry_66 (by decide) ?_
            exact ih110 ((4000 - (z108 + 1)).toNat) (by omega) (z108 + 1) I107 J107 B120 G107 _ _ _ rfl (by omega) (by omega) Y S (lv_sub hl [1, 2, 3, 4, 0] rfl)
          refine z_icmp_ne (tgt := 55) X.1 X.2.1 d_M_carry_39 (by decide) ⟨by omega, by omega⟩ ⟨by omega, by omega⟩ (fun h121 => ?_) (fun h121 => ?_)
          · refine lv_aload_n X.1 X.2.1 d_M_carry_55 rfl (lv_at hl 0 rfl) ?_
            refine m_get X Y 1 (by decide) lk_outs (gf_outs _ _ _) rfl d_M_carry_56 ?_
            refine lv_iload X.1 X.2.1 d_M_carry_59 (lv_at hl 4 rfl) ?_
            refine r_bald X Y S (aw_outs _ _ _ _ _ _ _) rfl (by omega) (show z108 < ((20000 : Nat) : Int) by omega) (by omega) d_M_carry_61 (fun z122 q122 l122 u122 => ?_)
            exact J116 z122 _ _ _ (by omega) (by omega) Y S (lv_sub hl [0, 1, 2, 3, 4] rfl)
          · refine lv_aload_n X.1 X.2.1 d_M_carry_42 rfl (lv_at hl 0 rfl) ?_
            refine m_get X Y 1 (by decide) lk_outs (gf_outs _ _ _) rfl d_M_carry_43 ?_
            refine lv_iload X.1 X.2.1 d_M_carry_46 (lv_at hl 4 rfl) ?_
            refine r_bald X Y S (aw_outs _ _ _ _ _ _ _) rfl (by omega) (show z108 < ((20000 : Nat) : Int) by omega) (by omega) d_M_carry_48 (fun z123 q123 l123 u123 => ?_)
            refine lv_iload_n X.1 X.2.1 d_M_carry_49 rfl (lv_at hl 2 rfl) ?_
            refine lv_ixor X.1 X.2.1 d_M_carry_50 ?_
            refine t_u (fun z124 l124 u124 => ?_)
            refine lv_i2b X.1 X.2.1 d_M_carry_51 rfl ?_
            refine t_u (fun z125 l125 u125 => ?_)
            refine lv_goto (tgt := 62) X.1 X.2.1 d_M_carry_52 (by decide) ?_
            exact J116 z125 _ _ _ (by omega) (by omega) Y S (lv_sub hl [0, 1, 2, 3, 4] rfl)
    refine lv_istore (lv' := [(4, .int (iI 0)), (3, .int (iI z102)), (0, .ref h), (1, .int (iI a1)), (2, .int (iI a2))]) X.1 X.2.1 d_M_carry_22 hl (by decide) rfl (fun ls hl => ?_)
    exact J109 _ 0 I J B G _ _ _ rfl (by omega) (by omega) Y S (lv_sub hl [2, 3, 4, 1, 0] rfl)
  refine z_icmp_ge (tgt := 17) X.1 X.2.1 d_M_carry_7 (by decide) ⟨by omega, by omega⟩ ⟨by omega, by omega⟩ (fun h126 => ?_) (fun h126 => ?_)
  · refine lv_sipush (v := iI 4000) X.1 X.2.1 d_M_carry_17 (by decide) ?_
    exact J103 4000 _ _ _ (by omega) (by omega) Y S (lv_sub hl [0, 1, 2] rfl)
  · refine lv_aload_n X.1 X.2.1 d_M_carry_10 rfl (lv_at hl 0 rfl) ?_
    refine r_get0 X Y (by decide) lk_outMany (gf_outMany _ _ _) rfl e101 d_M_carry_11 ?_
    refine lv_goto (tgt := 20) X.1 X.2.1 d_M_carry_14 (by decide) ?_
    exact J103 z101 _ _ _ (by omega) (by omega) Y S (lv_sub hl [0, 1, 2] rfl)
set_option maxHeartbeats 4000000 in
set_option maxRecDepth 100000 in
theorem r_M_clock (l : Launch) (D : mD) (E : mE) (h : Nat) (q : Nat → Nat) (sz : Nat) (I : Nat → Int32) (J : Nat → Int64) (B : Nat → Nat → Int32) (G : Nat → Nat → Int64) (a1 : Int) (l_a1 : (-2147483648) ≤ a1) (u_a1 : a1 ≤ 2147483647) (hT : rT I B) : Met l y_M_clock (k_M_clock :: lw_tg) (mR 1 60) (va_Pc [.ref h, .int (iI a1)] (mPre D E h q (I, J, B, G) sz)) (va_Qi (rPi [4] [] I B (fun (z : Int) (u : mS) => 0 ≤ z ∧ z ≤ 1)) (mPost D E h q (mA E h q sz)) (mA E h q sz)) 0 0 (mA E h q sz) := by
  refine m_enter (by decide) rfl (Nat.le_of_ble_eq_true rfl) (fun p e s m below meth c ls AV QQ H locs hQQ X Y hZ hA hr hlk hml hl => ?_)
  have Y : mH D E (mA E h q sz) s.heap h q I J B G H locs := Y
  have S : rS [4] [] I B I B := rS_rf hT
  have hl : lv_has ls 2 [(0, .ref h), (1, .int (iI a1))] := hl
  refine lv_iload_n X.1 X.2.1 d_M_clock_0 rfl (lv_at hl 1 rfl) ?_
  refine z_if_lt (tgt := 11) X.1 X.2.1 d_M_clock_1 (by decide) ⟨by omega, by omega⟩ (fun h101 => ?_) (fun h101 => ?_)
  · refine lv_iconst (v := iI 0) X.1 X.2.1 d_M_clock_11 (by decide) ?_
    exact m_retz hQQ X Y hr hlk (iI_bool (by omega) (by omega)).1 ⟨S, 0, rfl, ⟨by omega, by omega⟩⟩ d_M_clock_12
  · refine lv_iload_n X.1 X.2.1 d_M_clock_4 rfl (lv_at hl 1 rfl) ?_
    refine lv_ldcw (v := (2000000000)) X.1 X.2.1 X.2.2.2.1 (X.2.2.1 _ cn_M_351) d_M_clock_5 ?_
    refine t_eq (y := iI 2000000000) (by decide) ?_
    refine z_icmp_le (tgt := 13) X.1 X.2.1 d_M_clock_8 (by decide) ⟨by omega, by omega⟩ ⟨by omega, by omega⟩ (fun h102 => ?_) (fun h102 => ?_)
    · refine lv_aload_n X.1 X.2.1 d_M_clock_13 rfl (lv_at hl 0 rfl) ?_
      refine lv_iload_n X.1 X.2.1 d_M_clock_14 rfl (lv_at hl 1 rfl) ?_
      refine r_puti (k := 4) X Y S (by decide) lk_now rfl rfl (t_M_ok 4 (by decide)) rfl rfl (sf_now _ _ _ _) (Nat.le_of_ble_eq_true rfl) rfl (show ((-2147483648) : Int) ≤ a1 by omega) (show a1 ≤ (2147483647 : Int) by omega) ⟨by omega, by omega⟩ (by decide) d_M_clock_15 (fun I103 H locs Y S w103 => ?_)
      refine lv_iconst (v := iI 1) X.1 X.2.1 d_M_clock_18 (by decide) ?_
      exact m_retz hQQ X Y hr hlk (iI_bool (by omega) (by omega)).1 ⟨S, 1, rfl, ⟨by omega, by omega⟩⟩ d_M_clock_19
    · refine lv_iconst (v := iI 0) X.1 X.2.1 d_M_clock_11 (by decide) ?_
      exact m_retz hQQ X Y hr hlk (iI_bool (by omega) (by omega)).1 ⟨S, 0, rfl, ⟨by omega, by omega⟩⟩ d_M_clock_12
set_option maxHeartbeats 4000000 in
set_option maxRecDepth 100000 in
theorem r_M_room (l : Launch) (D : mD) (E : mE) (h : Nat) (q : Nat → Nat) (sz : Nat) (I : Nat → Int32) (J : Nat → Int64) (B : Nat → Nat → Int32) (G : Nat → Nat → Int64) (a1 : Int) (l_a1 : (-2147483648) ≤ a1) (u_a1 : a1 ≤ 2147483647) (hT : rT I B) : Met l y_M_room (k_M_room :: lw_tg) (mR 1 60) (va_Pc [.ref h, .int (iI a1)] (mPre D E h q (I, J, B, G) sz)) (va_Qi (rPi [57] [] I B (fun (z : Int) (u : mS) => 0 ≤ z ∧ z ≤ 1)) (mPost D E h q (mA E h q sz)) (mA E h q sz)) 0 0 (mA E h q sz) := by
  refine m_enter (by decide) rfl (Nat.le_of_ble_eq_true rfl) (fun p e s m below meth c ls AV QQ H locs hQQ X Y hZ hA hr hlk hml hl => ?_)
  have Y : mH D E (mA E h q sz) s.heap h q I J B G H locs := Y
  have S : rS [57] [] I B I B := rS_rf hT
  have hl : lv_has ls 2 [(0, .ref h), (1, .int (iI a1))] := hl
  refine lv_iload_n X.1 X.2.1 d_M_room_0 rfl (lv_at hl 1 rfl) ?_
  refine lv_iconst (v := iI 1) X.1 X.2.1 d_M_room_1 (by decide) ?_
  refine z_icmp_lt (tgt := 11) X.1 X.2.1 d_M_room_2 (by decide) ⟨by omega, by omega⟩ ⟨by omega, by omega⟩ (fun h101 => ?_) (fun h101 => ?_)
  · refine lv_iconst (v := iI 0) X.1 X.2.1 d_M_room_11 (by decide) ?_
    exact m_retz hQQ X Y hr hlk (iI_bool (by omega) (by omega)).1 ⟨S, 0, rfl, ⟨by omega, by omega⟩⟩ d_M_room_12
  · refine lv_iload_n X.1 X.2.1 d_M_room_5 rfl (lv_at hl 1 rfl) ?_
    refine lv_bipush (v := iI 32) X.1 X.2.1 d_M_room_6 (by decide) ?_
    refine z_icmp_le (tgt := 13) X.1 X.2.1 d_M_room_8 (by decide) ⟨by omega, by omega⟩ ⟨by omega, by omega⟩ (fun h102 => ?_) (fun h102 => ?_)
    · refine lv_aload_n X.1 X.2.1 d_M_room_13 rfl (lv_at hl 0 rfl) ?_
      refine lv_iload_n X.1 X.2.1 d_M_room_14 rfl (lv_at hl 1 rfl) ?_
      refine r_puti (k := 57) X Y S (by decide) lk_most rfl rfl (t_M_ok 57 (by decide)) rfl rfl (sf_most _ _ _ _) (Nat.le_of_ble_eq_true rfl) rfl (show (1 : Int) ≤ a1 by omega) (show a1 ≤ (32 : Int) by omega) ⟨by omega, by omega⟩ (by decide) d_M_room_15 (fun I103 H locs Y S w103 => ?_)
      refine lv_iconst (v := iI 1) X.1 X.2.1 d_M_room_18 (by decide) ?_
      exact m_retz hQQ X Y hr hlk (iI_bool (by omega) (by omega)).1 ⟨S, 1, rfl, ⟨by omega, by omega⟩⟩ d_M_room_19
    · refine lv_iconst (v := iI 0) X.1 X.2.1 d_M_room_11 (by decide) ?_
      exact m_retz hQQ X Y hr hlk (iI_bool (by omega) (by omega)).1 ⟨S, 0, rfl, ⟨by omega, by omega⟩⟩ d_M_room_12
set_option maxHeartbeats 4000000 in
set_option maxRecDepth 100000 in
theorem r_M_begin (l : Launch) (D : mD) (E : mE) (h : Nat) (q : Nat → Nat) (sz : Nat) (I : Nat → Int32) (J : Nat → Int64) (B : Nat → Nat → Int32) (G : Nat → Nat → Int64) (hT : rT I B) : Met l y_M_begin (k_M_begin :: lw_tg) (mR 1 60) (va_Pc [.ref h] (mPre D E h q (I, J, B, G) sz)) (va_Qv (rPv [8] [5] I B (fun (u : mS) => True)) (mPost D E h q (mA E h q sz)) (mA E h q sz)) 0 0 (mA E h q sz) := by
  refine m_enter (by decide) rfl (Nat.le_of_ble_eq_true rfl) (fun p e s m below meth c ls AV QQ H locs hQQ X Y hZ hA hr hlk hml hl => ?_)
  have Y : mH D E (mA E h q sz) s.heap h q I J B G H locs := Y
  have S : rS [8] [5] I B I B := rS_rf hT
  have hl : lv_has ls 1 [(0, .ref h)] := hl
  refine lv_aload_n X.1 X.2.1 d_M_begin_0 rfl (lv_at hl 0 rfl) ?_
  refine m_get X Y 5 (by decide) lk_h (gf_h _ _ _) rfl d_M_begin_1 ?_
  refine lv_iconst (v := iI 0) X.1 X.2.1 d_M_begin_4 (by decide) ?_
  refine lv_ldcw (v := (1732584193)) X.1 X.2.1 X.2.2.2.1 (X.2.2.1 _ cn_M_352) d_M_begin_5 ?_
  refine t_eq (y := iI 1732584193) (by decide) ?_
  refine r_iast X Y S (aw_h _ _ _ _ _ _ _) (sw_h _ _ _ _ _ _ _) rfl ⟨(show ((-2147483648) : Int) ≤ 1732584193 by omega), (show 1732584193 ≤ (2147483647 : Int) by omega)⟩ ⟨by omega, by omega⟩ (by omega) (show 0 < ((5 : Nat) : Int) by omega) (by omega) (by decide) d_M_begin_8 (fun B101 H locs Y S w101 => ?_)
  refine lv_aload_n X.1 X.2.1 d_M_begin_9 rfl (lv_at hl 0 rfl) ?_
  refine m_get X Y 5 (by decide) lk_h (gf_h _ _ _) rfl d_M_begin_10 ?_
  refine lv_iconst (v := iI 1) X.1 X.2.1 d_M_begin_13 (by decide) ?_
  refine lv_ldcw (v := (-271733879)) X.1 X.2.1 X.2.2.2.1 (X.2.2.1 _ cn_M_353) d_M_begin_14 ?_
  refine t_eq (y := iI (-271733879)) (by decide) ?_
  refine r_iast X Y S (aw_h _ _ _ _ _ _ _) (sw_h _ _ _ _ _ _ _) rfl ⟨(show ((-2147483648) : Int) ≤ (-271733879) by omega), (show (-271733879) ≤ (2147483647 : Int) by omega)⟩ ⟨by omega, by omega⟩ (by omega) (show 1 < ((5 : Nat) : Int) by omega) (by omega) (by decide) d_M_begin_17 (fun B102 H locs Y S w102 => ?_)
  refine lv_aload_n X.1 X.2.1 d_M_begin_18 rfl (lv_at hl 0 rfl) ?_
  refine m_get X Y 5 (by decide) lk_h (gf_h _ _ _) rfl d_M_begin_19 ?_
  refine lv_iconst (v := iI 2) X.1 X.2.1 d_M_begin_22 (by decide) ?_
  refine lv_ldcw (v := (-1732584194)) X.1 X.2.1 X.2.2.2.1 (X.2.2.1 _ cn_M_354) d_M_begin_23 ?_
  refine t_eq (y := iI (-1732584194)) (by decide) ?_
  refine r_iast X Y S (aw_h _ _ _ _ _ _ _) (sw_h _ _ _ _ _ _ _) rfl ⟨(show ((-2147483648) : Int) ≤ (-1732584194) by omega), (show (-1732584194) ≤ (2147483647 : Int) by omega)⟩ ⟨by omega, by omega⟩ (by omega) (show 2 < ((5 : Nat) : Int) by omega) (by omega) (by decide) d_M_begin_26 (fun B103 H locs Y S w103 => ?_)
  refine lv_aload_n X.1 X.2.1 d_M_begin_27 rfl (lv_at hl 0 rfl) ?_
  refine m_get X Y 5 (by decide) lk_h (gf_h _ _ _) rfl d_M_begin_28 ?_
  refine lv_iconst (v := iI 3) X.1 X.2.1 d_M_begin_31 (by decide) ?_
  refine lv_ldcw (v := (271733878)) X.1 X.2.1 X.2.2.2.1 (X.2.2.1 _ cn_M_355) d_M_begin_32 ?_
  refine t_eq (y := iI 271733878) (by decide) ?_
  refine r_iast X Y S (aw_h _ _ _ _ _ _ _) (sw_h _ _ _ _ _ _ _) rfl ⟨(show ((-2147483648) : Int) ≤ 271733878 by omega), (show 271733878 ≤ (2147483647 : Int) by omega)⟩ ⟨by omega, by omega⟩ (by omega) (show 3 < ((5 : Nat) : Int) by omega) (by omega) (by decide) d_M_begin_35 (fun B104 H locs Y S w104 => ?_)
  refine lv_aload_n X.1 X.2.1 d_M_begin_36 rfl (lv_at hl 0 rfl) ?_
  refine m_get X Y 5 (by decide) lk_h (gf_h _ _ _) rfl d_M_begin_37 ?_
  refine lv_iconst (v := iI 4) X.1 X.2.1 d_M_begin_40 (by decide) ?_
  refine lv_ldcw (v := (-1009589776)) X.1 X.2.1 X.2.2.2.1 (X.2.2.1 _ cn_M_356) d_M_begin_41 ?_
  refine t_eq (y := iI (-1009589776)) (by decide) ?_
  refine r_iast X Y S (aw_h _ _ _ _ _ _ _) (sw_h _ _ _ _ _ _ _) rfl ⟨(show ((-2147483648) : Int) ≤ (-1009589776) by omega), (show (-1009589776) ≤ (2147483647 : Int) by omega)⟩ ⟨by omega, by omega⟩ (by omega) (show 4 < ((5 : Nat) : Int) by omega) (by omega) (by decide) d_M_begin_44 (fun B105 H locs Y S w105 => ?_)
  refine lv_aload_n X.1 X.2.1 d_M_begin_45 rfl (lv_at hl 0 rfl) ?_
  refine lv_iconst (v := iI 0) X.1 X.2.1 d_M_begin_46 (by decide) ?_
  refine r_puti (k := 8) X Y S (by decide) lk_hashed rfl rfl (t_M_ok 8 (by decide)) rfl rfl (sf_hashed _ _ _ _) (Nat.le_of_ble_eq_true rfl) rfl (show ((-2147483648) : Int) ≤ 0 by omega) (show 0 ≤ (2147483647 : Int) by omega) ⟨by omega, by omega⟩ (by decide) d_M_begin_47 (fun I106 H locs Y S w106 => ?_)
  exact m_retv hQQ X Y hr hlk ⟨S, trivial⟩ d_M_begin_50
set_option maxHeartbeats 4000000 in
set_option maxRecDepth 100000 in
theorem r_M_start (l : Launch) (D : mD) (E : mE) (h : Nat) (q : Nat → Nat) (sz : Nat) (I : Nat → Int32) (J : Nat → Int64) (B : Nat → Nat → Int32) (G : Nat → Nat → Int64) (hT : rT I B) : Met l y_M_start (k_M_start :: lw_tg) (mR 1 60) (va_Pc [.ref h] (mPre D E h q (I, J, B, G) sz)) (va_Qv (rPv [42] [] I B (fun (u : mS) => True)) (mPost D E h q (mA E h q sz)) (mA E h q sz)) 0 0 (mA E h q sz) := by
  refine m_enter (by decide) rfl (Nat.le_of_ble_eq_true rfl) (fun p e s m below meth c ls AV QQ H locs hQQ X Y hZ hA hr hlk hml hl => ?_)
  have Y : mH D E (mA E h q sz) s.heap h q I J B G H locs := Y
  have S : rS [42] [] I B I B := rS_rf hT
  have hl : lv_has ls 1 [(0, .ref h)] := hl
  refine lv_aload_n X.1 X.2.1 d_M_start_0 rfl (lv_at hl 0 rfl) ?_
  refine lv_ldc (v := (60000)) X.1 X.2.1 X.2.2.2.1 (X.2.2.1 _ cn_M_9) d_M_start_1 ?_
  refine t_eq (y := iI 60000) (by decide) ?_
  refine r_puti (k := 42) X Y S (by decide) lk_w0 rfl rfl (t_M_ok 42 (by decide)) rfl rfl (sf_w0 _ _ _ _) (Nat.le_of_ble_eq_true rfl) rfl (show (0 : Int) ≤ 60000 by omega) (show 60000 ≤ (60000 : Int) by omega) ⟨by omega, by omega⟩ (by decide) d_M_start_3 (fun I101 H locs Y S w101 => ?_)
  exact m_retv hQQ X Y hr hlk ⟨S, trivial⟩ d_M_start_6
