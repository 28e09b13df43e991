theorem r_rng {M N : List Nat} {I0 I : Nat → Int32} {B0 B : Nat → Nat → Int32} {k : Nat} {lo hi : Int} (S : rS M N I0 B0 I B) (hr : rI k = (lo, hi)) : ∃ z : Int, I k = iI z ∧ lo ≤ z ∧ z ≤ hi := by
  have h := S.1.1 k
  rw [hr] at h
  exact ⟨_, iI_of _, h.1, h.2⟩
set_option maxHeartbeats 4000000 in
set_option maxRecDepth 100000 in
theorem r_M_left (l : Launch) (a1 : Int) (l_a1 : (-2147483648) ≤ a1) (u_a1 : a1 ≤ 2147483647) (a2 : Int) (l_a2 : (-2147483648) ≤ a2) (u_a2 : a2 ≤ 2147483647) : Met l y_M_left (k_M_left :: lw_tg) (mR 1 60) (va_Pc [.int (iI a1), .int (iI a2)] pPre) (va_Qi (fun (r : Int32) (_ : Unit) => ∃ z : Int, r = iI z ∧ (-2147483648) ≤ z ∧ z ≤ 2147483647) (fun _ _ => True) (fun _ => False)) 0 0 (fun _ => False) := by
  refine p_enter (by decide) rfl (Nat.le_of_ble_eq_true rfl) (fun p e s m below meth c ls AV QQ H locs hQQ hS X hr hlk hml hl => ?_)
  have hl : lv_has ls 2 [(0, .int (iI a1)), (1, .int (iI a2))] := hl
  refine lv_iload_n X.1 X.2.1 d_M_left_0 rfl (lv_at hl 0 rfl) ?_
  refine lv_iload_n X.1 X.2.1 d_M_left_1 rfl (lv_at hl 1 rfl) ?_
  refine lv_ishl X.1 X.2.1 d_M_left_2 ?_
  refine t_u (fun z101 l101 u101 => ?_)
  refine lv_iload_n X.1 X.2.1 d_M_left_3 rfl (lv_at hl 0 rfl) ?_
  refine lv_bipush (v := iI 32) X.1 X.2.1 d_M_left_4 (by decide) ?_
  refine lv_iload_n X.1 X.2.1 d_M_left_6 rfl (lv_at hl 1 rfl) ?_
  refine lv_isub X.1 X.2.1 d_M_left_7 ?_
  refine t_u (fun z102 l102 u102 => ?_)
  refine lv_iushr X.1 X.2.1 d_M_left_8 rfl ?_
  refine t_u (fun z103 l103 u103 => ?_)
  refine lv_ior X.1 X.2.1 d_M_left_9 ?_
  refine t_u (fun z104 l104 u104 => ?_)
  exact p_reti hQQ hS X hr hlk ⟨z104, rfl, ⟨by omega, by omega⟩⟩ d_M_left_10
set_option maxHeartbeats 4000000 in
set_option maxRecDepth 100000 in
theorem r_M_twice (l : Launch) (a1 : Int) (l_a1 : 0 ≤ a1) (u_a1 : a1 ≤ 255) : Met l y_M_twice (k_M_twice :: lw_tg) (mR 1 60) (va_Pc [.int (iI a1)] pPre) (va_Qi (fun (r : Int32) (_ : Unit) => ∃ z : Int, r = iI z ∧ 0 ≤ z ∧ z ≤ 255) (fun _ _ => True) (fun _ => False)) 0 0 (fun _ => False) := by
  refine p_enter (by decide) rfl (Nat.le_of_ble_eq_true rfl) (fun p e s m below meth c ls AV QQ H locs hQQ hS X hr hlk hml hl => ?_)
  have hl : lv_has ls 1 [(0, .int (iI a1))] := hl
  refine lv_iload_n X.1 X.2.1 d_M_twice_0 rfl (lv_at hl 0 rfl) ?_
  refine lv_iconst (v := iI 1) X.1 X.2.1 d_M_twice_1 (by decide) ?_
  refine lv_ishl X.1 X.2.1 d_M_twice_2 ?_
  refine t_u (fun z101 l101 u101 => ?_)
  refine lv_iload_n X.1 X.2.1 d_M_twice_3 rfl (lv_at hl 0 rfl) ?_
  refine lv_bipush (v := iI 127) X.1 X.2.1 d_M_twice_4 (by decide) ?_
  refine z_icmp_le (tgt := 14) X.1 X.2.1 d_M_twice_6 (by decide) ⟨by omega, by omega⟩ ⟨by omega, by omega⟩ (fun h102 => ?_) (fun h102 => ?_)
  · refine lv_iconst (v := iI 0) X.1 X.2.1 d_M_twice_14 (by decide) ?_
    refine lv_ixor X.1 X.2.1 d_M_twice_15 ?_
    refine t_u (fun z103 l103 u103 => ?_)
    refine lv_sipush (v := iI 255) X.1 X.2.1 d_M_twice_16 (by decide) ?_
    refine z_iand X.1 X.2.1 (by omega) (by omega) d_M_twice_19 (fun z104 l104 u104 => ?_)
    exact p_reti hQQ hS X hr hlk ⟨z104, rfl, ⟨by omega, by omega⟩⟩ d_M_twice_20
  · refine lv_bipush (v := iI 27) X.1 X.2.1 d_M_twice_9 (by decide) ?_
    refine lv_goto (tgt := 15) X.1 X.2.1 d_M_twice_11 (by decide) ?_
    refine lv_ixor X.1 X.2.1 d_M_twice_15 ?_
    refine t_u (fun z105 l105 u105 => ?_)
    refine lv_sipush (v := iI 255) X.1 X.2.1 d_M_twice_16 (by decide) ?_
    refine z_iand X.1 X.2.1 (by omega) (by omega) d_M_twice_19 (fun z106 l106 u106 => ?_)
    exact p_reti hQQ hS X hr hlk ⟨z106, rfl, ⟨by omega, by omega⟩⟩ d_M_twice_20
set_option maxHeartbeats 4000000 in
set_option maxRecDepth 100000 in
theorem r_M_size (l : Launch) (a1 : Int) (l_a1 : (-2147483648) ≤ a1) (u_a1 : a1 ≤ 2147483647) : Met l y_M_size (k_M_size :: lw_tg) (mR 1 60) (va_Pc [.int (iI a1)] pPre) (va_Qi (fun (r : Int32) (_ : Unit) => ∃ z : Int, r = iI z ∧ 16 ≤ z ∧ z ≤ 32 ∧ (z = 16 ∨ z = 32)) (fun _ _ => True) (fun _ => False)) 0 0 (fun _ => False) := by
  refine p_enter (by decide) rfl (Nat.le_of_ble_eq_true rfl) (fun p e s m below meth c ls AV QQ H locs hQQ hS X hr hlk hml hl => ?_)
  have hl : lv_has ls 1 [(0, .int (iI a1))] := hl
  refine lv_iload_n X.1 X.2.1 d_M_size_0 rfl (lv_at hl 0 rfl) ?_
  refine lv_bipush (v := iI 17) X.1 X.2.1 d_M_size_1 (by decide) ?_
  refine z_icmp_ne (tgt := 11) X.1 X.2.1 d_M_size_3 (by decide) ⟨by omega, by omega⟩ ⟨by omega, by omega⟩ (fun h101 => ?_) (fun h101 => ?_)
  · refine lv_bipush (v := iI 32) X.1 X.2.1 d_M_size_11 (by decide) ?_
    exact p_reti hQQ hS X hr hlk ⟨32, rfl, ⟨by omega, by omega, by omega⟩⟩ d_M_size_13
  · refine lv_bipush (v := iI 16) X.1 X.2.1 d_M_size_6 (by decide) ?_
    refine lv_goto (tgt := 13) X.1 X.2.1 d_M_size_8 (by decide) ?_
    exact p_reti hQQ hS X hr hlk ⟨16, rfl, ⟨by omega, by omega, by omega⟩⟩ d_M_size_13
set_option maxHeartbeats 4000000 in
set_option maxRecDepth 100000 in
theorem r_M_daysOf (l : Launch) (a1 : Int) (l_a1 : (-2147483648) ≤ a1) (u_a1 : a1 ≤ 2147483647) (a2 : Int) (l_a2 : (-2147483648) ≤ a2) (u_a2 : a2 ≤ 2147483647) : Met l y_M_daysOf (k_M_daysOf :: lw_tg) (mR 1 60) (va_Pc [.int (iI a1), .int (iI a2)] pPre) (va_Qi (fun (r : Int32) (_ : Unit) => ∃ z : Int, r = iI z ∧ 28 ≤ z ∧ z ≤ 31) (fun _ _ => True) (fun _ => False)) 0 0 (fun _ => False) := by
  refine p_enter (by decide) rfl (Nat.le_of_ble_eq_true rfl) (fun p e s m below meth c ls AV QQ H locs hQQ hS X hr hlk hml hl => ?_)
  have hl : lv_has ls 2 [(0, .int (iI a1)), (1, .int (iI a2))] := hl
  refine lv_iload_n X.1 X.2.1 d_M_daysOf_0 rfl (lv_at hl 1 rfl) ?_
  refine lv_iconst (v := iI 2) X.1 X.2.1 d_M_daysOf_1 (by decide) ?_
  refine z_icmp_ne (tgt := 21) X.1 X.2.1 d_M_daysOf_2 (by decide) ⟨by omega, by omega⟩ ⟨by omega, by omega⟩ (fun h101 => ?_) (fun h101 => ?_)
  · refine lv_iload_n X.1 X.2.1 d_M_daysOf_21 rfl (lv_at hl 1 rfl) ?_
    refine lv_iconst (v := iI 4) X.1 X.2.1 d_M_daysOf_22 (by decide) ?_
    refine z_icmp_eq (tgt := 44) X.1 X.2.1 d_M_daysOf_23 (by decide) ⟨by omega, by omega⟩ ⟨by omega, by omega⟩ (fun h102 => ?_) (fun h102 => ?_)
    · refine lv_bipush (v := iI 30) X.1 X.2.1 d_M_daysOf_44 (by decide) ?_
      refine lv_goto (tgt := 51) X.1 X.2.1 d_M_daysOf_46 (by decide) ?_
      exact p_reti hQQ hS X hr hlk ⟨30, rfl, ⟨by omega, by omega⟩⟩ d_M_daysOf_51
    · refine lv_iload_n X.1 X.2.1 d_M_daysOf_26 rfl (lv_at hl 1 rfl) ?_
      refine lv_bipush (v := iI 6) X.1 X.2.1 d_M_daysOf_27 (by decide) ?_
      refine z_icmp_eq (tgt := 44) X.1 X.2.1 d_M_daysOf_29 (by decide) ⟨by omega, by omega⟩ ⟨by omega, by omega⟩ (fun h103 => ?_) (fun h103 => ?_)
      · refine lv_bipush (v := iI 30) X.1 X.2.1 d_M_daysOf_44 (by decide) ?_
        refine lv_goto (tgt := 51) X.1 X.2.1 d_M_daysOf_46 (by decide) ?_
        exact p_reti hQQ hS X hr hlk ⟨30, rfl, ⟨by omega, by omega⟩⟩ d_M_daysOf_51
      · refine lv_iload_n X.1 X.2.1 d_M_daysOf_32 rfl (lv_at hl 1 rfl) ?_
        refine lv_bipush (v := iI 9) X.1 X.2.1 d_M_daysOf_33 (by decide) ?_
        refine z_icmp_eq (tgt := 44) X.1 X.2.1 d_M_daysOf_35 (by decide) ⟨by omega, by omega⟩ ⟨by omega, by omega⟩ (fun h104 => ?_) (fun h104 => ?_)
        · refine lv_bipush (v := iI 30) X.1 X.2.1 d_M_daysOf_44 (by decide) ?_
          refine lv_goto (tgt := 51) X.1 X.2.1 d_M_daysOf_46 (by decide) ?_
          exact p_reti hQQ hS X hr hlk ⟨30, rfl, ⟨by omega, by omega⟩⟩ d_M_daysOf_51
        · refine lv_iload_n X.1 X.2.1 d_M_daysOf_38 rfl (lv_at hl 1 rfl) ?_
          refine lv_bipush (v := iI 11) X.1 X.2.1 d_M_daysOf_39 (by decide) ?_
          refine z_icmp_ne (tgt := 49) X.1 X.2.1 d_M_daysOf_41 (by decide) ⟨by omega, by omega⟩ ⟨by omega, by omega⟩ (fun h105 => ?_) (fun h105 => ?_)
          · refine lv_bipush (v := iI 31) X.1 X.2.1 d_M_daysOf_49 (by decide) ?_
            exact p_reti hQQ hS X hr hlk ⟨31, rfl, ⟨by omega, by omega⟩⟩ d_M_daysOf_51
          · refine lv_bipush (v := iI 30) X.1 X.2.1 d_M_daysOf_44 (by decide) ?_
            refine lv_goto (tgt := 51) X.1 X.2.1 d_M_daysOf_46 (by decide) ?_
            exact p_reti hQQ hS X hr hlk ⟨30, rfl, ⟨by omega, by omega⟩⟩ d_M_daysOf_51
  · refine lv_iload_n X.1 X.2.1 d_M_daysOf_5 rfl (lv_at hl 0 rfl) ?_
    refine lv_iconst (v := iI 4) X.1 X.2.1 d_M_daysOf_6 (by decide) ?_
    refine z_iremg X.1 X.2.1 ⟨by omega, by omega⟩ ⟨by decide, by decide⟩ d_M_daysOf_7 (fun z106 l106 u106 x106 => ?_)
    refine z_if_ne (tgt := 16) X.1 X.2.1 d_M_daysOf_8 (by decide) ⟨by omega, by omega⟩ (fun h107 => ?_) (fun h107 => ?_)
    · refine lv_bipush (v := iI 28) X.1 X.2.1 d_M_daysOf_16 (by decide) ?_
      refine lv_goto (tgt := 51) X.1 X.2.1 d_M_daysOf_18 (by decide) ?_
      exact p_reti hQQ hS X hr hlk ⟨28, rfl, ⟨by omega, by omega⟩⟩ d_M_daysOf_51
    · refine lv_bipush (v := iI 29) X.1 X.2.1 d_M_daysOf_11 (by decide) ?_
      refine lv_goto (tgt := 51) X.1 X.2.1 d_M_daysOf_13 (by decide) ?_
      exact p_reti hQQ hS X hr hlk ⟨29, rfl, ⟨by omega, by omega⟩⟩ d_M_daysOf_51
set_option maxHeartbeats 4000000 in
set_option maxRecDepth 100000 in
theorem r_M_bitOf (l : Launch) (a1 : Int) (l_a1 : (-2147483648) ≤ a1) (u_a1 : a1 ≤ 2147483647) : Met l y_M_bitOf (k_M_bitOf :: lw_tg) (mR 1 60) (va_Pc [.int (iI a1)] pPre) (va_Qi (fun (r : Int32) (_ : Unit) => ∃ z : Int, r = iI z ∧ (-2147483648) ≤ z ∧ z ≤ 2147483647) (fun _ _ => True) (fun _ => False)) 0 0 (fun _ => False) := by
  refine p_enter (by decide) rfl (Nat.le_of_ble_eq_true rfl) (fun p e s m below meth c ls AV QQ H locs hQQ hS X hr hlk hml hl => ?_)
  have hl : lv_has ls 1 [(0, .int (iI a1))] := hl
  refine lv_iconst (v := iI 1) X.1 X.2.1 d_M_bitOf_0 (by decide) ?_
  refine lv_bipush (v := iI 31) X.1 X.2.1 d_M_bitOf_1 (by decide) ?_
  refine lv_iload_n X.1 X.2.1 d_M_bitOf_3 rfl (lv_at hl 0 rfl) ?_
  refine lv_isub X.1 X.2.1 d_M_bitOf_4 ?_
  refine t_u (fun z101 l101 u101 => ?_)
  refine lv_ishl X.1 X.2.1 d_M_bitOf_5 ?_
  refine t_u (fun z102 l102 u102 => ?_)
  exact p_reti hQQ hS X hr hlk ⟨z102, rfl, ⟨by omega, by omega⟩⟩ d_M_bitOf_6
set_option maxHeartbeats 4000000 in
set_option maxRecDepth 100000 in
theorem r_M_firstType (l : Launch) (a1 : Int) (l_a1 : (-2147483648) ≤ a1) (u_a1 : a1 ≤ 2147483647) : Met l y_M_firstType (k_M_firstType :: lw_tg) (mR 1 60) (va_Pc [.int (iI a1)] pPre) (va_Qi (fun (r : Int32) (_ : Unit) => ∃ z : Int, r = iI z ∧ (-2147483648) ≤ z ∧ z ≤ 2147483647) (fun _ _ => True) (fun _ => False)) 0 0 (fun _ => False) := by
  refine p_enter (by decide) rfl (Nat.le_of_ble_eq_true rfl) (fun p e s m below meth c ls AV QQ H locs hQQ hS X hr hlk hml hl => ?_)
  have hl : lv_has ls 1 [(0, .int (iI a1))] := hl
  refine lv_iload_n X.1 X.2.1 d_M_firstType_0 rfl (lv_at hl 0 rfl) ?_
  refine lv_iconst (v := iI 1) X.1 X.2.1 d_M_firstType_1 (by decide) ?_
  refine z_icmp_eq (tgt := 10) X.1 X.2.1 d_M_firstType_2 (by decide) ⟨by omega, by omega⟩ ⟨by omega, by omega⟩ (fun h101 => ?_) (fun h101 => ?_)
  · refine lv_bipush (v := iI 17) X.1 X.2.1 d_M_firstType_10 (by decide) ?_
    refine lv_goto (tgt := 17) X.1 X.2.1 d_M_firstType_12 (by decide) ?_
    exact p_reti hQQ hS X hr hlk ⟨17, rfl, ⟨by omega, by omega⟩⟩ d_M_firstType_17
  · refine lv_iload_n X.1 X.2.1 d_M_firstType_5 rfl (lv_at hl 0 rfl) ?_
    refine lv_iconst (v := iI 3) X.1 X.2.1 d_M_firstType_6 (by decide) ?_
    refine z_icmp_ne (tgt := 15) X.1 X.2.1 d_M_firstType_7 (by decide) ⟨by omega, by omega⟩ ⟨by omega, by omega⟩ (fun h102 => ?_) (fun h102 => ?_)
    · refine lv_bipush (v := iI 18) X.1 X.2.1 d_M_firstType_15 (by decide) ?_
      exact p_reti hQQ hS X hr hlk ⟨18, rfl, ⟨by omega, by omega⟩⟩ d_M_firstType_17
    · refine lv_bipush (v := iI 17) X.1 X.2.1 d_M_firstType_10 (by decide) ?_
      refine lv_goto (tgt := 17) X.1 X.2.1 d_M_firstType_12 (by decide) ?_
      exact p_reti hQQ hS X hr hlk ⟨17, rfl, ⟨by omega, by omega⟩⟩ d_M_firstType_17
set_option maxHeartbeats 4000000 in
set_option maxRecDepth 100000 in
theorem r_M_lesser (l : Launch) (a1 : Int64) (a2 : Int64) : Met l y_M_lesser (k_M_lesser :: lw_tg) (mR 1 60) (va_Pc [.long a1, .long a2] pPre) (va_Ql (fun (z : Int64) (_ : Unit) => True) (fun _ _ => True) (fun _ => False)) 0 0 (fun _ => False) := by
  refine p_enter (by decide) rfl (Nat.le_of_ble_eq_true rfl) (fun p e s m below meth c ls AV QQ H locs hQQ hS X hr hlk hml hl => ?_)
  have hl : lv_has ls 4 [(0, .long a1), (2, .long a2)] := hl
  refine lv_lload_n X.1 X.2.1 d_M_lesser_0 rfl (lv_at hl 0 rfl) ?_
  refine lv_lload_n X.1 X.2.1 d_M_lesser_1 rfl (lv_at hl 1 rfl) ?_
  refine W.lcmp X.1 X.2.1 d_M_lesser_2 ?_
  refine t_u (fun z101 l101 u101 => ?_)
  refine z_if_ge (tgt := 10) X.1 X.2.1 d_M_lesser_3 (by decide) ⟨by omega, by omega⟩ (fun h102 => ?_) (fun h102 => ?_)
  · refine lv_lload_n X.1 X.2.1 d_M_lesser_10 rfl (lv_at hl 1 rfl) ?_
    exact p_retl hQQ hS X hr hlk trivial d_M_lesser_11
  · refine lv_lload_n X.1 X.2.1 d_M_lesser_6 rfl (lv_at hl 0 rfl) ?_
    refine lv_goto (tgt := 11) X.1 X.2.1 d_M_lesser_7 (by decide) ?_
    exact p_retl hQQ hS X hr hlk trivial d_M_lesser_11
set_option maxHeartbeats 4000000 in
set_option maxRecDepth 100000 in
theorem r_M_feed (l : Launch) (D : mD) (E : mE) (h : Nat) (q : Nat → Nat) (sz : Nat) (I : Nat → Int32) (J : Nat → Int64) (B : Nat → Nat → Int32) (G : Nat → Nat → Int64) (a1 : Int) (l_a1 : (-2147483648) ≤ a1) (u_a1 : a1 ≤ 2147483647) (a2 : Int) (l_a2 : (-2147483648) ≤ a2) (u_a2 : a2 ≤ 2147483647) (a3 : Int) (l_a3 : (-2147483648) ≤ a3) (u_a3 : a3 ≤ 2147483647) (a4 : Int) (l_a4 : (-2147483648) ≤ a4) (u_a4 : a4 ≤ 2147483647) (a5 : Int) (l_a5 : (-2147483648) ≤ a5) (u_a5 : a5 ≤ 2147483647) (hT : rT I B) : Met l y_M_feed (k_M_feed :: lw_tg) (mR 1 60) (va_Pc [.ref h, .int (iI a1), .int (iI a2), .int (iI a3), .int (iI a4), .int (iI a5)] (mPre D E h q (I, J, B, G) sz)) (va_Qi (rPi [2] [0] I B (fun (z : Int) (u : mS) => 0 ≤ z ∧ z ≤ 1)) (mPost D E h q (mA E h q sz)) (mA E h q sz)) 0 0 (mA E h q sz) := by
  refine m_enter (by decide) rfl (Nat.le_of_ble_eq_true rfl) (fun p e s m below meth c ls AV QQ H locs hQQ X Y hZ hA hr hlk hml hl => ?_)
  have Y : mH D E (mA E h q sz) s.heap h q I J B G H locs := Y
  have S : rS [2] [0] I B I B := rS_rf hT
  have hl : lv_has ls 8 [(0, .ref h), (1, .int (iI a1)), (2, .int (iI a2)), (3, .int (iI a3)), (4, .int (iI a4)), (5, .int (iI a5))] := hl
  refine lv_aload_n X.1 X.2.1 d_M_feed_0 rfl (lv_at hl 0 rfl) ?_
  refine r_geti (k := 2) X Y S (by decide) lk_length (gf_length _ _ _) rfl rfl d_M_feed_1 (fun z101 e101 l101 u101 => ?_)
  refine lv_bipush (v := iI 20) X.1 X.2.1 d_M_feed_4 (by decide) ?_
  refine z_iadd X.1 X.2.1 d_M_feed_6 ?_
  refine lv_sipush (v := iI 4000) X.1 X.2.1 d_M_feed_7 (by decide) ?_
  refine z_icmp_le (tgt := 15) X.1 X.2.1 d_M_feed_10 (by decide) ⟨by omega, by omega⟩ ⟨by omega, by omega⟩ (fun h102 => ?_) (fun h102 => ?_)
  · refine lv_iconst (v := iI 0) X.1 X.2.1 d_M_feed_15 (by decide) ?_
    have J107 : ∀ (n109 : Nat) (z104 : Int) (z105 : Int) (I103 : Nat → Int32) (J103 : Nat → Int64) (B103 : Nat → Nat → Int32) (G103 : Nat → Nat → Int64) (H : Heap) (locs : List Loc) (ls : Array Slot), (20 - z104).toNat = n109 → (0 ≤ z104) → (z104 ≤ 20) → (I103 2 = iI z105) → (0 ≤ z105) → (z105 ≤ 4000) → (z105 = z101 + z104) → mH D E (mA E h q sz) s.heap h q I103 J103 B103 G103 H locs → rS [2] [0] I B I103 B103 → lv_has ls 8 [(0, .ref h), (1, .int (iI a1)), (2, .int (iI a2)), (3, .int (iI a3)), (4, .int (iI a4)), (5, .int (iI a5)), (6, .int (iI z104))] → W p l e (mR 1 60) s m AV below meth c H locs 0 0 QQ (F0 m 18 ls []) := by
      intro n109
      induction n109 using Nat.strongRecOn with
      | ind n109 ih108 =>
        intro z104 z105 I103 J103 B103 G103 H locs ls hm110 l104 u104 e105 l105 u105 i106 Y S hl
        refine lv_iload X.1 X.2.1 d_M_feed_18 (lv_at hl 6 rfl) ?_
        refine lv_bipush (v := iI 20) X.1 X.2.1 d_M_feed_20 (by decide) ?_
        refine z_icmp_ge (tgt := 112) X.1 X.2.1 d_M_feed_22 (by decide) ⟨by omega, by omega⟩ ⟨by omega, by omega⟩ (fun h111 => ?_) (fun h111 => ?_)
        · refine lv_iconst (v := iI 1) X.1 X.2.1 d_M_feed_112 (by decide) ?_
          exact m_retz hQQ X Y hr hlk (iI_bool (by omega) (by omega)).1 ⟨S, 1, rfl, ⟨by omega, by omega⟩⟩ d_M_feed_113
        · refine lv_iload X.1 X.2.1 d_M_feed_25 (lv_at hl 6 rfl) ?_
          refine lv_iconst (v := iI 4) X.1 X.2.1 d_M_feed_27 (by decide) ?_
          have J113 : ∀ (z112 : Int) (H : Heap) (locs : List Loc) (ls : Array Slot), ((-2147483648) ≤ z112) → (z112 ≤ 2147483647) → mH D E (mA E h q sz) s.heap h q I103 J103 B103 G103 H locs → rS [2] [0] I B I103 B103 → lv_has ls 8 [(0, .ref h), (1, .int (iI a1)), (2, .int (iI a2)), (3, .int (iI a3)), (4, .int (iI a4)), (5, .int (iI a5)), (6, .int (iI z104))] → W p l e (mR 1 60) s m AV below meth c H locs 0 0 QQ (F0 m 71 ls [.int (iI z112)]) := by
            intro z112 H locs ls l112 u112 Y S hl
            refine lv_istore (lv' := [(7, .int (iI z112)), (0, .ref h), (1, .int (iI a1)), (2, .int (iI a2)), (3, .int (iI a3)), (4, .int (iI a4)), (5, .int (iI a5)), (6, .int (iI z104))]) X.1 X.2.1 d_M_feed_71 hl (by decide) rfl (fun ls hl => ?_)
            refine lv_aload_n X.1 X.2.1 d_M_feed_73 rfl (lv_at hl 1 rfl) ?_
            refine m_get X Y 0 (by decide) lk_mem (gf_mem _ _ _) rfl d_M_feed_74 ?_
            refine lv_aload_n X.1 X.2.1 d_M_feed_77 rfl (lv_at hl 1 rfl) ?_
            refine r_get0 X Y (by decide) lk_length (gf_length _ _ _) rfl e105 d_M_feed_78 ?_
            refine lv_iload X.1 X.2.1 d_M_feed_81 (lv_at hl 0 rfl) ?_
            refine lv_bipush (v := iI 24) X.1 X.2.1 d_M_feed_83 (by decide) ?_
            refine lv_bipush (v := iI 8) X.1 X.2.1 d_M_feed_85 (by decide) ?_
            refine lv_iload X.1 X.2.1 d_M_feed_87 (lv_at hl 7 rfl) ?_
            refine lv_iconst (v := iI 4) X.1 X.2.1 d_M_feed_89 (by decide) ?_
            refine z_irem X.1 X.2.1 (by omega) (by omega) ⟨by decide, by decide⟩ d_M_feed_90 ?_
            refine z_imul X.1 X.2.1 d_M_feed_91 ?_
            refine z_isub X.1 X.2.1 d_M_feed_92 ?_
            refine lv_ishr X.1 X.2.1 d_M_feed_93 ?_
            refine t_u (fun z117 l117 u117 => ?_)
            refine lv_i2b X.1 X.2.1 d_M_feed_94 rfl ?_
            refine t_u (fun z118 l118 u118 => ?_)
            refine r_bast X Y S (aw_mem _ _ _ _ _ _ _) (sw_mem _ _ _ _ _ _ _) rfl (by omega) (show z105 < ((60000 : Nat) : Int) by omega) (by omega) (by decide) d_M_feed_95 (fun B119 H locs Y S w119 => ?_)
            refine lv_aload_n X.1 X.2.1 d_M_feed_96 rfl (lv_at hl 1 rfl) ?_
            refine lv_dup X.1 X.2.1 d_M_feed_97 rfl ?_
            refine r_get0 X Y (by decide) lk_length (gf_length _ _ _) rfl e105 d_M_feed_98 ?_
            refine lv_iconst (v := iI 1) X.1 X.2.1 d_M_feed_101 (by decide) ?_
            refine z_iadd X.1 X.2.1 d_M_feed_102 ?_
            refine r_puti (k := 2) X Y S (by decide) lk_length rfl rfl (t_M_ok 2 (by decide)) rfl rfl (sf_length _ _ _ _) (Nat.le_of_ble_eq_true rfl) rfl (show (0 : Int) ≤ z105 + 1 by omega) (show z105 + 1 ≤ (4000 : Int) by omega) ⟨by omega, by omega⟩ (by decide) d_M_feed_103 (fun I120 H locs Y S w120 => ?_)
            refine lv_iinc (v := iI (z104 + 1)) (lv' := [(6, .int (iI (z104 + 1))), (7, .int (iI z112)), (0, .ref h), (1, .int (iI a1)), (2, .int (iI a2)), (3, .int (iI a3)), (4, .int (iI a4)), (5, .int (iI a5))]) X.1 X.2.1 d_M_feed_106 hl (k := 7) rfl ((iI_add _ _).trans (congrArg iI (by omega))) (by decide) rfl (fun ls hl => ?_)
            refine lv_goto (tgt := 18) X.1 X.2.1 d_M_feed_109 (by decide) ?_
            exact ih108 ((20 - (z104 + 1)).toNat) (by omega) (z104 + 1) (z105 + 1) I120 J103 B119 G103 _ _ _ rfl (by omega) (by omega) w120.1 (by omega) (by omega) (by omega) Y S (lv_sub hl [2, 3, 4, 5, 6, 7, 0] rfl)
          refine z_icmp_ge (tgt := 35) X.1 X.2.1 d_M_feed_28 (by decide) ⟨by omega, by omega⟩ ⟨by omega, by omega⟩ (fun h121 => ?_) (fun h121 => ?_)
          · refine lv_iload X.1 X.2.1 d_M_feed_35 (lv_at hl 6 rfl) ?_
            refine lv_bipush (v := iI 8) X.1 X.2.1 d_M_feed_37 (by decide) ?_
            refine z_icmp_ge (tgt := 46) X.1 X.2.1 d_M_feed_39 (by decide) ⟨by omega, by omega⟩ ⟨by omega, by omega⟩ (fun h122 => ?_) (fun h122 => ?_)
            · refine lv_iload X.1 X.2.1 d_M_feed_46 (lv_at hl 6 rfl) ?_
              refine lv_bipush (v := iI 12) X.1 X.2.1 d_M_feed_48 (by decide) ?_
              refine z_icmp_ge (tgt := 57) X.1 X.2.1 d_M_feed_50 (by decide) ⟨by omega, by omega⟩ ⟨by omega, by omega⟩ (fun h123 => ?_) (fun h123 => ?_)
              · refine lv_iload X.1 X.2.1 d_M_feed_57 (lv_at hl 6 rfl) ?_
                refine lv_bipush (v := iI 16) X.1 X.2.1 d_M_feed_59 (by decide) ?_
                refine z_icmp_ge (tgt := 69) X.1 X.2.1 d_M_feed_61 (by decide) ⟨by omega, by omega⟩ ⟨by omega, by omega⟩ (fun h124 => ?_) (fun h124 => ?_)
                · refine lv_iload X.1 X.2.1 d_M_feed_69 (lv_at hl 5 rfl) ?_
                  exact J113 a5 _ _ _ (by omega) (by omega) Y S (lv_sub hl [0, 1, 2, 3, 4, 5, 6] rfl)
                · refine lv_iload X.1 X.2.1 d_M_feed_64 (lv_at hl 4 rfl) ?_
                  refine lv_goto (tgt := 71) X.1 X.2.1 d_M_feed_66 (by decide) ?_
                  exact J113 a4 _ _ _ (by omega) (by omega) Y S (lv_sub hl [0, 1, 2, 3, 4, 5, 6] rfl)
              · refine lv_iload_n X.1 X.2.1 d_M_feed_53 rfl (lv_at hl 3 rfl) ?_
                refine lv_goto (tgt := 71) X.1 X.2.1 d_M_feed_54 (by decide) ?_
                exact J113 a3 _ _ _ (by omega) (by omega) Y S (lv_sub hl [0, 1, 2, 3, 4, 5, 6] rfl)
            · refine lv_iload_n X.1 X.2.1 d_M_feed_42 rfl (lv_at hl 2 rfl) ?_
              refine lv_goto (tgt := 71) X.1 X.2.1 d_M_feed_43 (by decide) ?_
              exact J113 a2 _ _ _ (by omega) (by omega) Y S (lv_sub hl [0, 1, 2, 3, 4, 5, 6] rfl)
          · refine lv_iload_n X.1 X.2.1 d_M_feed_31 rfl (lv_at hl 1 rfl) ?_
            refine lv_goto (tgt := 71) X.1 X.2.1 d_M_feed_32 (by decide) ?_
            exact J113 a1 _ _ _ (by omega) (by omega) Y S (lv_sub hl [0, 1, 2, 3, 4, 5, 6] rfl)
    refine lv_istore (lv' := [(6, .int (iI 0)), (0, .ref h), (1, .int (iI a1)), (2, .int (iI a2)), (3, .int (iI a3)), (4, .int (iI a4)), (5, .int (iI a5))]) X.1 X.2.1 d_M_feed_16 hl (by decide) rfl (fun ls hl => ?_)
    exact J107 _ 0 z101 I J B G _ _ _ rfl (by omega) (by omega) e101 (by omega) (by omega) (by omega) Y S (lv_sub hl [1, 2, 3, 4, 5, 6, 0] rfl)
  · refine lv_iconst (v := iI 0) X.1 X.2.1 d_M_feed_13 (by decide) ?_
    exact m_retz hQQ X Y hr hlk (iI_bool (by omega) (by omega)).1 ⟨S, 0, rfl, ⟨by omega, by omega⟩⟩ d_M_feed_14
set_option maxHeartbeats 4000000 in
set_option maxRecDepth 100000 in
theorem r_M_end (l : Launch) (D : mD) (E : mE) (h : Nat) (q : Nat → Nat) (sz : Nat) (I : Nat → Int32) (J : Nat → Int64) (B : Nat → Nat → Int32) (G : Nat → Nat → Int64) (a1 : Int) (l_a1 : (-2147483648) ≤ a1) (u_a1 : a1 ≤ 2147483647) (hT : rT I B) : Met l y_M_end (k_M_end :: lw_tg) (mR 1 60) (va_Pc [.ref h, .int (iI a1)] (mPre D E h q (I, J, B, G) sz)) (va_Qi (rPi [2] [] I B (fun (z : Int) (u : mS) => 0 ≤ z ∧ z ≤ 1)) (mPost D E h q (mA E h q sz)) (mA E h q sz)) 0 0 (mA E h q sz) := by
  refine m_enter (by decide) rfl (Nat.le_of_ble_eq_true rfl) (fun p e s m below meth c ls AV QQ H locs hQQ X Y hZ hA hr hlk hml hl => ?_)
  have Y : mH D E (mA E h q sz) s.heap h q I J B G H locs := Y
  have S : rS [2] [] I B I B := rS_rf hT
  have hl : lv_has ls 2 [(0, .ref h), (1, .int (iI a1))] := hl
  refine lv_iload_n X.1 X.2.1 d_M_end_0 rfl (lv_at hl 1 rfl) ?_
  refine z_if_lt (tgt := 12) X.1 X.2.1 d_M_end_1 (by decide) ⟨by omega, by omega⟩ (fun h101 => ?_) (fun h101 => ?_)
  · refine lv_iconst (v := iI 0) X.1 X.2.1 d_M_end_12 (by decide) ?_
    exact m_retz hQQ X Y hr hlk (iI_bool (by omega) (by omega)).1 ⟨S, 0, rfl, ⟨by omega, by omega⟩⟩ d_M_end_13
  · refine lv_iload_n X.1 X.2.1 d_M_end_4 rfl (lv_at hl 1 rfl) ?_
    refine lv_aload_n X.1 X.2.1 d_M_end_5 rfl (lv_at hl 0 rfl) ?_
    refine r_geti (k := 2) X Y S (by decide) lk_length (gf_length _ _ _) rfl rfl d_M_end_6 (fun z102 e102 l102 u102 => ?_)
    refine z_icmp_le (tgt := 14) X.1 X.2.1 d_M_end_9 (by decide) ⟨by omega, by omega⟩ ⟨by omega, by omega⟩ (fun h103 => ?_) (fun h103 => ?_)
    · refine lv_aload_n X.1 X.2.1 d_M_end_14 rfl (lv_at hl 0 rfl) ?_
      refine lv_iload_n X.1 X.2.1 d_M_end_15 rfl (lv_at hl 1 rfl) ?_
      refine r_puti (k := 2) X Y S (by decide) lk_length rfl rfl (t_M_ok 2 (by decide)) rfl rfl (sf_length _ _ _ _) (Nat.le_of_ble_eq_true rfl) rfl (show (0 : Int) ≤ a1 by omega) (show a1 ≤ (4000 : Int) by omega) ⟨by omega, by omega⟩ (by decide) d_M_end_16 (fun I104 H locs Y S w104 => ?_)
      refine lv_iconst (v := iI 1) X.1 X.2.1 d_M_end_19 (by decide) ?_
      exact m_retz hQQ X Y hr hlk (iI_bool (by omega) (by omega)).1 ⟨S, 1, rfl, ⟨by omega, by omega⟩⟩ d_M_end_20
    · refine lv_iconst (v := iI 0) X.1 X.2.1 d_M_end_12 (by decide) ?_
      exact m_retz hQQ X Y hr hlk (iI_bool (by omega) (by omega)).1 ⟨S, 0, rfl, ⟨by omega, by omega⟩⟩ d_M_end_13
set_option maxHeartbeats 4000000 in
set_option maxRecDepth 100000 in
theorem r_M_out (l : Launch) (D : mD) (E : mE) (h : Nat) (q : Nat → Nat) (sz : Nat) (I : Nat → Int32) (J : Nat → Int64) (B : Nat → Nat → Int32) (G : Nat → Nat → Int64) (a1 : Int) (l_a1 : (-2147483648) ≤ a1) (u_a1 : a1 ≤ 2147483647) (hT : rT I B) : Met l y_M_out (k_M_out :: lw_tg) (mR 1 60) (va_Pc [.ref h, .int (iI a1)] (mPre D E h q (I, J, B, G) sz)) (va_Qi (rPi [] [] I B (fun (z : Int) (u : mS) => (-2147483648) ≤ z ∧ z ≤ 2147483647)) (mPost D E h q (mA E h q sz)) (mA E h q sz)) 0 0 (mA E h q sz) := by
  refine m_enter (by decide) rfl (Nat.le_of_ble_eq_true rfl) (fun p e s m below meth c ls AV QQ H locs hQQ X Y hZ hA hr hlk hml hl => ?_)
  have Y : mH D E (mA E h q sz) s.heap h q I J B G H locs := Y
  have S : rS [] [] I B I B := rS_rf hT
  have hl : lv_has ls 2 [(0, .ref h), (1, .int (iI a1))] := hl
  refine lv_iload_n X.1 X.2.1 d_M_out_0 rfl (lv_at hl 1 rfl) ?_
  refine lv_iconst (v := iI (-1)) X.1 X.2.1 d_M_out_1 (by decide) ?_
  refine z_icmp_ne (tgt := 12) X.1 X.2.1 d_M_out_2 (by decide) ⟨by omega, by omega⟩ ⟨by omega, by omega⟩ (fun h101 => ?_) (fun h101 => ?_)
  · refine lv_iload_n X.1 X.2.1 d_M_out_12 rfl (lv_at hl 1 rfl) ?_
    refine z_if_lt (tgt := 37) X.1 X.2.1 d_M_out_13 (by decide) ⟨by omega, by omega⟩ (fun h102 => ?_) (fun h102 => ?_)
    · refine lv_iconst (v := iI (-1)) X.1 X.2.1 d_M_out_37 (by decide) ?_
      exact m_reti hQQ X Y hr hlk ⟨S, (-1), rfl, ⟨by omega, by omega⟩⟩ d_M_out_38
    · refine lv_iload_n X.1 X.2.1 d_M_out_16 rfl (lv_at hl 1 rfl) ?_
      refine lv_aload_n X.1 X.2.1 d_M_out_17 rfl (lv_at hl 0 rfl) ?_
      refine r_geti (k := 3) X Y S (by decide) lk_outMany (gf_outMany _ _ _) rfl rfl d_M_out_18 (fun z103 e103 l103 u103 => ?_)
      refine z_icmp_ge (tgt := 37) X.1 X.2.1 d_M_out_21 (by decide) ⟨by omega, by omega⟩ ⟨by omega, by omega⟩ (fun h104 => ?_) (fun h104 => ?_)
      · refine lv_iconst (v := iI (-1)) X.1 X.2.1 d_M_out_37 (by decide) ?_
        exact m_reti hQQ X Y hr hlk ⟨S, (-1), rfl, ⟨by omega, by omega⟩⟩ d_M_out_38
      · refine lv_aload_n X.1 X.2.1 d_M_out_24 rfl (lv_at hl 0 rfl) ?_
        refine m_get X Y 1 (by decide) lk_outs (gf_outs _ _ _) rfl d_M_out_25 ?_
        refine lv_iload_n X.1 X.2.1 d_M_out_28 rfl (lv_at hl 1 rfl) ?_
        refine r_bald X Y S (aw_outs _ _ _ _ _ _ _) rfl (by omega) (show a1 < ((20000 : Nat) : Int) by omega) (by omega) d_M_out_29 (fun z105 q105 l105 u105 => ?_)
        refine lv_sipush (v := iI 255) X.1 X.2.1 d_M_out_30 (by decide) ?_
        refine z_iand X.1 X.2.1 (by omega) (by omega) d_M_out_33 (fun z106 l106 u106 => ?_)
        refine lv_goto (tgt := 38) X.1 X.2.1 d_M_out_34 (by decide) ?_
        exact m_reti hQQ X Y hr hlk ⟨S, z106, rfl, ⟨by omega, by omega⟩⟩ d_M_out_38
  · refine lv_aload_n X.1 X.2.1 d_M_out_5 rfl (lv_at hl 0 rfl) ?_
    refine r_geti (k := 3) X Y S (by decide) lk_outMany (gf_outMany _ _ _) rfl rfl d_M_out_6 (fun z107 e107 l107 u107 => ?_)
    refine lv_goto (tgt := 38) X.1 X.2.1 d_M_out_9 (by decide) ?_
    exact m_reti hQQ X Y hr hlk ⟨S, z107, rfl, ⟨by omega, by omega⟩⟩ d_M_out_38
set_option maxHeartbeats 4000000 in
set_option maxRecDepth 100000 in
theorem r_M_carry (l : Launch) (D : mD) (E : mE) (h : Nat) (q : Nat → Nat) (sz : Nat) (I : Nat → Int32) (J : Nat → Int64) (B : Nat → Nat → Int32) (G : Nat → Nat → Int64) (a1 : Int) (l_a1 : (-2147483648) ≤ a1) (u_a1 : a1 ≤ 2147483647) (a2 : Int) (l_a2 : (-2147483648) ≤ a2) (u_a2 : a2 ≤ 2147483647) (hT : rT I B) : Met l y_M_carry (k_M_carry :: lw_tg) (mR 1 60) (va_Pc [.ref h, .int (iI a1), .int (iI a2)] (mPre D E h q (I, J, B, G) sz)) (va_Qi (rPi [2] [0] I B (fun (z : Int) (u : mS) => (-2147483648) ≤ z ∧ z ≤ 2147483647)) (mPost D E h q (mA E h q sz)) (mA E h q sz)) 0 0 (mA E h q sz) := by
  refine m_enter (by decide) rfl (Nat.le_of_ble_eq_true rfl) (fun p e s m below meth c ls AV QQ H locs hQQ X Y hZ hA hr hlk hml hl => ?_)
  have Y : mH D E (mA E h q sz) s.heap h q I J B G H locs := Y
  have S : rS [2] [0] I B I B := rS_rf hT
  have hl : lv_has ls 5 [(0, .ref h), (1, .int (iI a1)), (2, .int (iI a2))] := hl
  refine lv_aload_n X.1 X.2.1 d_M_carry_0 rfl (lv_at hl 0 rfl) ?_
  refine r_geti (k := 3) X Y S (by decide) lk_outMany (gf_outMany _ _ _) rfl rfl d_M_carry_1 (fun z101 e101 l101 u101 => ?_)
  refine lv_sipush (v := iI 4000) X.1 X.2.1 d_M_carry_4 (by decide) ?_
  have J103 : ∀ (z102 : Int) (H : Heap) (locs : List Loc) (ls : Array Slot), (0 ≤ z102) → (z102 ≤ 4000) → mH D E (mA E h q sz) s.heap h q I J B G H locs → rS [2] [0] I B I B → lv_has ls 5 [(0, .ref h), (1, .int (iI a1)), (2, .int (iI a2))] → W p l e (mR 1 60) s m AV below meth c H locs 0 0 QQ (F0 m 20 ls [.int (iI z102)]) := by
    intro z102 H locs ls l102 u102 Y S hl
    refine lv_istore_n (lv' := [(3, .int (iI z102)), (0, .ref h), (1, .int (iI a1)), (2, .int (iI a2))]) X.1 X.2.1 d_M_carry_20 rfl hl (by decide) rfl (fun ls hl => ?_)
    refine lv_iconst (v := iI 0) X.1 X.2.1 d_M_carry_21 (by decide) ?_
    have J109 : ∀ (n111 : Nat) (z108 : Int) (I107 : Nat → Int32) (J107 : Nat → Int64) (B107 : Nat → Nat → Int32) (G107 : Nat → Nat → Int64) (H : Heap) (locs : List Loc) (ls : Array Slot), (4000 - z108).toNat = n111 → (0 ≤ z108) → (z108 ≤ 4000) → mH D E (mA E h q sz) s.heap h q I107 J107 B107 G107 H locs → rS [2] [0] I B I107 B107 → lv_has ls 5 [(0, .ref h), (1, .int (iI a1)), (2, .int (iI a2)), (3, .int (iI z102)), (4, .int (iI z108))] → W p l e (mR 1 60) s m AV below meth c H locs 0 0 QQ (F0 m 24 ls []) := by
      intro n111
      induction n111 using Nat.strongRecOn with
      | ind n111 ih110 =>
        intro z108 I107 J107 B107 G107 H locs ls hm112 l108 u108 Y S hl
        refine lv_iload X.1 X.2.1 d_M_carry_24 (lv_at hl 4 rfl) ?_
        refine lv_iload_n X.1 X.2.1 d_M_carry_26 rfl (lv_at hl 3 rfl) ?_
        refine z_icmp_ge (tgt := 69) X.1 X.2.1 d_M_carry_27 (by decide) ⟨by omega, by omega⟩ ⟨by omega, by omega⟩ (fun h113 => ?_) (fun h113 => ?_)
        · refine lv_aload_n X.1 X.2.1 d_M_carry_69 rfl (lv_at hl 0 rfl) ?_
          refine lv_iload_n X.1 X.2.1 d_M_carry_70 rfl (lv_at hl 3 rfl) ?_
          refine r_puti (k := 2) X Y S (by decide) lk_length rfl rfl (t_M_ok 2 (by decide)) rfl rfl (sf_length _ _ _ _) (Nat.le_of_ble_eq_true rfl) rfl (show (0 : Int) ≤ z102 by omega) (show z102 ≤ (4000 : Int) by omega) ⟨by omega, by omega⟩ (by decide) d_M_carry_71 (fun I114 H locs Y S w114 => ?_)
          refine lv_iload_n X.1 X.2.1 d_M_carry_74 rfl (lv_at hl 3 rfl) ?_
          exact m_reti hQQ X Y hr hlk ⟨S, z102, rfl, ⟨by omega, by omega⟩⟩ d_M_carry_75
        · refine lv_aload_n X.1 X.2.1 d_M_carry_30 rfl (lv_at hl 0 rfl) ?_
          refine m_get X Y 0 (by decide) lk_mem (gf_mem _ _ _) rfl d_M_carry_31 ?_
          refine lv_iload X.1 X.2.1 d_M_carry_34 (lv_at hl 4 rfl) ?_
          refine lv_iload X.1 X.2.1 d_M_carry_36 (lv_at hl 4 rfl) ?_
          refine lv_iload_n X.1 X.2.1 d_M_carry_38 rfl (lv_at hl 1 rfl) ?_
          have J116 : ∀ (z115 : Int) (H : Heap) (locs : List Loc) (ls : Array Slot), ((-2147483648) ≤ z115) → (z115 ≤ 2147483647) → mH D E (mA E h q sz) s.heap h q I107 J107 B107 G107 H locs → rS [2] [0] I B I107 B107 → lv_has ls 5 [(0, .ref h), (1, .int (iI a1)), (2, .int (iI a2)), (3, .int (iI z102)), (4, .int (iI z108))] → W p l e (mR 1 60) s m AV below meth c H locs 0 0 QQ (F0 m 62 ls [.int (iI z115), .int (iI z108), .ref ((q 0))]) := by
            intro z115 H locs ls l115 u115 Y S hl
            refine r_bast X Y S (aw_mem _ _ _ _ _ _ _) (sw_mem _ _ _ _ _ _ _) rfl (by omega) (show z108 < ((60000 : Nat) : Int) by omega) (by omega) (by decide) d_M_carry_62 (fun B120 H locs Y S w120 => ?_)
            refine lv_iinc (v := iI (z108 + 1)) (lv' := [(4, .int (iI (z108 + 1))), (0, .ref h), (1, .int (iI a1)), (2, .int (iI a2)), (3, .int (iI z102))]) X.1 X.2.1 d_M_carry_63 hl (k := 4) rfl ((iI_add _ _).trans (congrArg iI (by omega))) (by decide) rfl (fun ls hl => ?_)
            refine lv_goto (tgt := 24) X.1 X.2.1 d_M_carry_66 (by decide) ?_
            exact ih110 ((4000 - (z108 + 1)).toNat) (by omega) (z108 + 1) I107 J107 B120 G107 _ _ _ rfl (by omega) (by omega) Y S (lv_sub hl [1, 2, 3, 4, 0] rfl)
          refine z_icmp_ne (tgt := 55) X.1 X.2.1 d_M_carry_39 (by decide) ⟨by omega, by omega⟩ ⟨by omega, by omega⟩ (fun h121 => ?_) (fun h121 => ?_)
          · refine lv_aload_n X.1 X.2.1 d_M_carry_55 rfl (lv_at hl 0 rfl) ?_
            refine m_get X Y 1 (by decide) lk_outs (gf_outs _ _ _) rfl d_M_carry_56 ?_
            refine lv_iload X.1 X.2.1 d_M_carry_59 (lv_at hl 4 rfl) ?_
            refine r_bald X Y S (aw_outs _ _ _ _ _ _ _) rfl (by omega) (show z108 < ((20000 : Nat) : Int) by omega) (by omega) d_M_carry_61 (fun z122 q122 l122 u122 => ?_)
            exact J116 z122 _ _ _ (by omega) (by omega) Y S (lv_sub hl [0, 1, 2, 3, 4] rfl)
          · refine lv_aload_n X.1 X.2.1 d_M_carry_42 rfl (lv_at hl 0 rfl) ?_
            refine m_get X Y 1 (by decide) lk_outs (gf_outs _ _ _) rfl d_M_carry_43 ?_
            refine lv_iload X.1 X.2.1 d_M_carry_46 (lv_at hl 4 rfl) ?_
            refine r_bald X Y S (aw_outs _ _ _ _ _ _ _) rfl (by omega) (show z108 < ((20000 : Nat) : Int) by omega) (by omega) d_M_carry_48 (fun z123 q123 l123 u123 => ?_)
            refine lv_iload_n X.1 X.2.1 d_M_carry_49 rfl (lv_at hl 2 rfl) ?_
            refine lv_ixor X.1 X.2.1 d_M_carry_50 ?_
            refine t_u (fun z124 l124 u124 => ?_)
            refine lv_i2b X.1 X.2.1 d_M_carry_51 rfl ?_
            refine t_u (fun z125 l125 u125 => ?_)
            refine lv_goto (tgt := 62) X.1 X.2.1 d_M_carry_52 (by decide) ?_
            exact J116 z125 _ _ _ (by omega) (by omega) Y S (lv_sub hl [0, 1, 2, 3, 4] rfl)
    refine lv_istore (lv' := [(4, .int (iI 0)), (3, .int (iI z102)), (0, .ref h), (1, .int (iI a1)), (2, .int (iI a2))]) X.1 X.2.1 d_M_carry_22 hl (by decide) rfl (fun ls hl => ?_)
    exact J109 _ 0 I J B G _ _ _ rfl (by omega) (by omega) Y S (lv_sub hl [2, 3, 4, 1, 0] rfl)
  refine z_icmp_ge (tgt := 17) X.1 X.2.1 d_M_carry_7 (by decide) ⟨by omega, by omega⟩ ⟨by omega, by omega⟩ (fun h126 => ?_) (fun h126 => ?_)
  · refine lv_sipush (v := iI 4000) X.1 X.2.1 d_M_carry_17 (by decide) ?_
    exact J103 4000 _ _ _ (by omega) (by omega) Y S (lv_sub hl [0, 1, 2] rfl)
  · refine lv_aload_n X.1 X.2.1 d_M_carry_10 rfl (lv_at hl 0 rfl) ?_
    refine r_get0 X Y (by decide) lk_outMany (gf_outMany _ _ _) rfl e101 d_M_carry_11 ?_
    refine lv_goto (tgt := 20) X.1 X.2.1 d_M_carry_14 (by decide) ?_
    exact J103 z101 _ _ _ (by omega) (by omega) Y S (lv_sub hl [0, 1, 2] rfl)
set_option maxHeartbeats 4000000 in
set_option maxRecDepth 100000 in
theorem r_M_clock (l : Launch) (D : mD) (E : mE) (h : Nat) (q : Nat → Nat) (sz : Nat) (I : Nat → Int32) (J : Nat → Int64) (B : Nat → Nat → Int32) (G : Nat → Nat → Int64) (a1 : Int) (l_a1 : (-2147483648) ≤ a1) (u_a1 : a1 ≤ 2147483647) (hT : rT I B) : Met l y_M_clock (k_M_clock :: lw_tg) (mR 1 60) (va_Pc [.ref h, .int (iI a1)] (mPre D E h q (I, J, B, G) sz)) (va_Qi (rPi [4] [] I B (fun (z : Int) (u : mS) => 0 ≤ z ∧ z ≤ 1)) (mPost D E h q (mA E h q sz)) (mA E h q sz)) 0 0 (mA E h q sz) := by
  refine m_enter (by decide) rfl (Nat.le_of_ble_eq_true rfl) (fun p e s m below meth c ls AV QQ H locs hQQ X Y hZ hA hr hlk hml hl => ?_)
  have Y : mH D E (mA E h q sz) s.heap h q I J B G H locs := Y
  have S : rS [4] [] I B I B := rS_rf hT
  have hl : lv_has ls 2 [(0, .ref h), (1, .int (iI a1))] := hl
  refine lv_iload_n X.1 X.2.1 d_M_clock_0 rfl (lv_at hl 1 rfl) ?_
  refine z_if_lt (tgt := 11) X.1 X.2.1 d_M_clock_1 (by decide) ⟨by omega, by omega⟩ (fun h101 => ?_) (fun h101 => ?_)
  · refine lv_iconst (v := iI 0) X.1 X.2.1 d_M_clock_11 (by decide) ?_
    exact m_retz hQQ X Y hr hlk (iI_bool (by omega) (by omega)).1 ⟨S, 0, rfl, ⟨by omega, by omega⟩⟩ d_M_clock_12
  · refine lv_iload_n X.1 X.2.1 d_M_clock_4 rfl (lv_at hl 1 rfl) ?_
    refine lv_ldcw (v := (2000000000)) X.1 X.2.1 X.2.2.2.1 (X.2.2.1 _ cn_M_351) d_M_clock_5 ?_
    refine t_eq (y := iI 2000000000) (by decide) ?_
    refine z_icmp_le (tgt := 13) X.1 X.2.1 d_M_clock_8 (by decide) ⟨by omega, by omega⟩ ⟨by omega, by omega⟩ (fun h102 => ?_) (fun h102 => ?_)
    · refine lv_aload_n X.1 X.2.1 d_M_clock_13 rfl (lv_at hl 0 rfl) ?_
      refine lv_iload_n X.1 X.2.1 d_M_clock_14 rfl (lv_at hl 1 rfl) ?_
      refine r_puti (k := 4) X Y S (by decide) lk_now rfl rfl (t_M_ok 4 (by decide)) rfl rfl (sf_now _ _ _ _) (Nat.le_of_ble_eq_true rfl) rfl (show ((-2147483648) : Int) ≤ a1 by omega) (show a1 ≤ (2147483647 : Int) by omega) ⟨by omega, by omega⟩ (by decide) d_M_clock_15 (fun I103 H locs Y S w103 => ?_)
      refine lv_iconst (v := iI 1) X.1 X.2.1 d_M_clock_18 (by decide) ?_
      exact m_retz hQQ X Y hr hlk (iI_bool (by omega) (by omega)).1 ⟨S, 1, rfl, ⟨by omega, by omega⟩⟩ d_M_clock_19
    · refine lv_iconst (v := iI 0) X.1 X.2.1 d_M_clock_11 (by decide) ?_
      exact m_retz hQQ X Y hr hlk (iI_bool (by omega) (by omega)).1 ⟨S, 0, rfl, ⟨by omega, by omega⟩⟩ d_M_clock_12
set_option maxHeartbeats 4000000 in
set_option maxRecDepth 100000 in
theorem r_M_room (l : Launch) (D : mD) (E : mE) (h : Nat) (q : Nat → Nat) (sz : Nat) (I : Nat → Int32) (J : Nat → Int64) (B : Nat → Nat → Int32) (G : Nat → Nat → Int64) (a1 : Int) (l_a1 : (-2147483648) ≤ a1) (u_a1 : a1 ≤ 2147483647) (hT : rT I B) : Met l y_M_room (k_M_room :: lw_tg) (mR 1 60) (va_Pc [.ref h, .int (iI a1)] (mPre D E h q (I, J, B, G) sz)) (va_Qi (rPi [57] [] I B (fun (z : Int) (u : mS) => 0 ≤ z ∧ z ≤ 1)) (mPost D E h q (mA E h q sz)) (mA E h q sz)) 0 0 (mA E h q sz) := by
  refine m_enter (by decide) rfl (Nat.le_of_ble_eq_true rfl) (fun p e s m below meth c ls AV QQ H locs hQQ X Y hZ hA hr hlk hml hl => ?_)
  have Y : mH D E (mA E h q sz) s.heap h q I J B G H locs := Y
  have S : rS [57] [] I B I B := rS_rf hT
  have hl : lv_has ls 2 [(0, .ref h), (1, .int (iI a1))] := hl
  refine lv_iload_n X.1 X.2.1 d_M_room_0 rfl (lv_at hl 1 rfl) ?_
  refine lv_iconst (v := iI 1) X.1 X.2.1 d_M_room_1 (by decide) ?_
  refine z_icmp_lt (tgt := 11) X.1 X.2.1 d_M_room_2 (by decide) ⟨by omega, by omega⟩ ⟨by omega, by omega⟩ (fun h101 => ?_) (fun h101 => ?_)
  · refine lv_iconst (v := iI 0) X.1 X.2.1 d_M_room_11 (by decide) ?_
    exact m_retz hQQ X Y hr hlk (iI_bool (by omega) (by omega)).1 ⟨S, 0, rfl, ⟨by omega, by omega⟩⟩ d_M_room_12
  · refine lv_iload_n X.1 X.2.1 d_M_room_5 rfl (lv_at hl 1 rfl) ?_
    refine lv_bipush (v := iI 32) X.1 X.2.1 d_M_room_6 (by decide) ?_
    refine z_icmp_le (tgt := 13) X.1 X.2.1 d_M_room_8 (by decide) ⟨by omega, by omega⟩ ⟨by omega, by omega⟩ (fun h102 => ?_) (fun h102 => ?_)
    · refine lv_aload_n X.1 X.2.1 d_M_room_13 rfl (lv_at hl 0 rfl) ?_
      refine lv_iload_n X.1 X.2.1 d_M_room_14 rfl (lv_at hl 1 rfl) ?_
      refine r_puti (k := 57) X Y S (by decide) lk_most rfl rfl (t_M_ok 57 (by decide)) rfl rfl (sf_most _ _ _ _) (Nat.le_of_ble_eq_true rfl) rfl (show (1 : Int) ≤ a1 by omega) (show a1 ≤ (32 : Int) by omega) ⟨by omega, by omega⟩ (by decide) d_M_room_15 (fun I103 H locs Y S w103 => ?_)
      refine lv_iconst (v := iI 1) X.1 X.2.1 d_M_room_18 (by decide) ?_
      exact m_retz hQQ X Y hr hlk (iI_bool (by omega) (by omega)).1 ⟨S, 1, rfl, ⟨by omega, by omega⟩⟩ d_M_room_19
    · refine lv_iconst (v := iI 0) X.1 X.2.1 d_M_room_11 (by decide) ?_
      exact m_retz hQQ X Y hr hlk (iI_bool (by omega) (by omega)).1 ⟨S, 0, rfl, ⟨by omega, by omega⟩⟩ d_M_room_12
set_option maxHeartbeats 4000000 in
set_option maxRecDepth 100000 in
theorem r_M_begin (l : Launch) (D : mD) (E : mE) (h : Nat) (q : Nat → Nat) (sz : Nat) (I : Nat → Int32) (J : Nat → Int64) (B : Nat → Nat → Int32) (G : Nat → Nat → Int64) (hT : rT I B) : Met l y_M_begin (k_M_begin :: lw_tg) (mR 1 60) (va_Pc [.ref h] (mPre D E h q (I, J, B, G) sz)) (va_Qv (rPv [8] [5] I B (fun (u : mS) => u.1 8 = iI 0)) (mPost D E h q (mA E h q sz)) (mA E h q sz)) 0 0 (mA E h q sz) := by
  refine m_enter (by decide) rfl (Nat.le_of_ble_eq_true rfl) (fun p e s m below meth c ls AV QQ H locs hQQ X Y hZ hA hr hlk hml hl => ?_)
  have Y : mH D E (mA E h q sz) s.heap h q I J B G H locs := Y
  have S : rS [8] [5] I B I B := rS_rf hT
  have hl : lv_has ls 1 [(0, .ref h)] := hl
  refine lv_aload_n X.1 X.2.1 d_M_begin_0 rfl (lv_at hl 0 rfl) ?_
  refine m_get X Y 5 (by decide) lk_h (gf_h _ _ _) rfl d_M_begin_1 ?_
  refine lv_iconst (v := iI 0) X.1 X.2.1 d_M_begin_4 (by decide) ?_
  refine lv_ldcw (v := (1732584193)) X.1 X.2.1 X.2.2.2.1 (X.2.2.1 _ cn_M_352) d_M_begin_5 ?_
  refine t_eq (y := iI 1732584193) (by decide) ?_
  refine r_iast X Y S (aw_h _ _ _ _ _ _ _) (sw_h _ _ _ _ _ _ _) rfl ⟨(show ((-2147483648) : Int) ≤ 1732584193 by omega), (show 1732584193 ≤ (2147483647 : Int) by omega)⟩ ⟨by omega, by omega⟩ (by omega) (show 0 < ((5 : Nat) : Int) by omega) (by omega) (by decide) d_M_begin_8 (fun B101 H locs Y S w101 => ?_)
  refine lv_aload_n X.1 X.2.1 d_M_begin_9 rfl (lv_at hl 0 rfl) ?_
  refine m_get X Y 5 (by decide) lk_h (gf_h _ _ _) rfl d_M_begin_10 ?_
  refine lv_iconst (v := iI 1) X.1 X.2.1 d_M_begin_13 (by decide) ?_
  refine lv_ldcw (v := (-271733879)) X.1 X.2.1 X.2.2.2.1 (X.2.2.1 _ cn_M_353) d_M_begin_14 ?_
  refine t_eq (y := iI (-271733879)) (by decide) ?_
  refine r_iast X Y S (aw_h _ _ _ _ _ _ _) (sw_h _ _ _ _ _ _ _) rfl ⟨(show ((-2147483648) : Int) ≤ (-271733879) by omega), (show (-271733879) ≤ (2147483647 : Int) by omega)⟩ ⟨by omega, by omega⟩ (by omega) (show 1 < ((5 : Nat) : Int) by omega) (by omega) (by decide) d_M_begin_17 (fun B102 H locs Y S w102 => ?_)
  refine lv_aload_n X.1 X.2.1 d_M_begin_18 rfl (lv_at hl 0 rfl) ?_
  refine m_get X Y 5 (by decide) lk_h (gf_h _ _ _) rfl d_M_begin_19 ?_
  refine lv_iconst (v := iI 2) X.1 X.2.1 d_M_begin_22 (by decide) ?_
  refine lv_ldcw (v := (-1732584194)) X.1 X.2.1 X.2.2.2.1 (X.2.2.1 _ cn_M_354) d_M_begin_23 ?_
  refine t_eq (y := iI (-1732584194)) (by decide) ?_
  refine r_iast X Y S (aw_h _ _ _ _ _ _ _) (sw_h _ _ _ _ _ _ _) rfl ⟨(show ((-2147483648) : Int) ≤ (-1732584194) by omega), (show (-1732584194) ≤ (2147483647 : Int) by omega)⟩ ⟨by omega, by omega⟩ (by omega) (show 2 < ((5 : Nat) : Int) by omega) (by omega) (by decide) d_M_begin_26 (fun B103 H locs Y S w103 => ?_)
  refine lv_aload_n X.1 X.2.1 d_M_begin_27 rfl (lv_at hl 0 rfl) ?_
  refine m_get X Y 5 (by decide) lk_h (gf_h _ _ _) rfl d_M_begin_28 ?_
  refine lv_iconst (v := iI 3) X.1 X.2.1 d_M_begin_31 (by decide) ?_
  refine lv_ldcw (v := (271733878)) X.1 X.2.1 X.2.2.2.1 (X.2.2.1 _ cn_M_355) d_M_begin_32 ?_
  refine t_eq (y := iI 271733878) (by decide) ?_
  refine r_iast X Y S (aw_h _ _ _ _ _ _ _) (sw_h _ _ _ _ _ _ _) rfl ⟨(show ((-2147483648) : Int) ≤ 271733878 by omega), (show 271733878 ≤ (2147483647 : Int) by omega)⟩ ⟨by omega, by omega⟩ (by omega) (show 3 < ((5 : Nat) : Int) by omega) (by omega) (by decide) d_M_begin_35 (fun B104 H locs Y S w104 => ?_)
  refine lv_aload_n X.1 X.2.1 d_M_begin_36 rfl (lv_at hl 0 rfl) ?_
  refine m_get X Y 5 (by decide) lk_h (gf_h _ _ _) rfl d_M_begin_37 ?_
  refine lv_iconst (v := iI 4) X.1 X.2.1 d_M_begin_40 (by decide) ?_
  refine lv_ldcw (v := (-1009589776)) X.1 X.2.1 X.2.2.2.1 (X.2.2.1 _ cn_M_356) d_M_begin_41 ?_
  refine t_eq (y := iI (-1009589776)) (by decide) ?_
  refine r_iast X Y S (aw_h _ _ _ _ _ _ _) (sw_h _ _ _ _ _ _ _) rfl ⟨(show ((-2147483648) : Int) ≤ (-1009589776) by omega), (show (-1009589776) ≤ (2147483647 : Int) by omega)⟩ ⟨by omega, by omega⟩ (by omega) (show 4 < ((5 : Nat) : Int) by omega) (by omega) (by decide) d_M_begin_44 (fun B105 H locs Y S w105 => ?_)
  refine lv_aload_n X.1 X.2.1 d_M_begin_45 rfl (lv_at hl 0 rfl) ?_
  refine lv_iconst (v := iI 0) X.1 X.2.1 d_M_begin_46 (by decide) ?_
  refine r_puti (k := 8) X Y S (by decide) lk_hashed rfl rfl (t_M_ok 8 (by decide)) rfl rfl (sf_hashed _ _ _ _) (Nat.le_of_ble_eq_true rfl) rfl (show ((-2147483648) : Int) ≤ 0 by omega) (show 0 ≤ (2147483647 : Int) by omega) ⟨by omega, by omega⟩ (by decide) d_M_begin_47 (fun I106 H locs Y S w106 => ?_)
  exact m_retv hQQ X Y hr hlk ⟨S, w106.1⟩ d_M_begin_50
set_option maxHeartbeats 4000000 in
set_option maxRecDepth 100000 in
theorem r_M_start (l : Launch) (D : mD) (E : mE) (h : Nat) (q : Nat → Nat) (sz : Nat) (I : Nat → Int32) (J : Nat → Int64) (B : Nat → Nat → Int32) (G : Nat → Nat → Int64) (hT : rT I B) : Met l y_M_start (k_M_start :: lw_tg) (mR 1 60) (va_Pc [.ref h] (mPre D E h q (I, J, B, G) sz)) (va_Qv (rPv [42] [] I B (fun (u : mS) => u.1 42 = iI (60000))) (mPost D E h q (mA E h q sz)) (mA E h q sz)) 0 0 (mA E h q sz) := by
  refine m_enter (by decide) rfl (Nat.le_of_ble_eq_true rfl) (fun p e s m below meth c ls AV QQ H locs hQQ X Y hZ hA hr hlk hml hl => ?_)
  have Y : mH D E (mA E h q sz) s.heap h q I J B G H locs := Y
  have S : rS [42] [] I B I B := rS_rf hT
  have hl : lv_has ls 1 [(0, .ref h)] := hl
  refine lv_aload_n X.1 X.2.1 d_M_start_0 rfl (lv_at hl 0 rfl) ?_
  refine lv_ldc (v := (60000)) X.1 X.2.1 X.2.2.2.1 (X.2.2.1 _ cn_M_9) d_M_start_1 ?_
  refine t_eq (y := iI 60000) (by decide) ?_
  refine r_puti (k := 42) X Y S (by decide) lk_w0 rfl rfl (t_M_ok 42 (by decide)) rfl rfl (sf_w0 _ _ _ _) (Nat.le_of_ble_eq_true rfl) rfl (show (0 : Int) ≤ 60000 by omega) (show 60000 ≤ (60000 : Int) by omega) ⟨by omega, by omega⟩ (by decide) d_M_start_3 (fun I101 H locs Y S w101 => ?_)
  exact m_retv hQQ X Y hr hlk ⟨S, ((w101.1).trans (congrArg iI (show (60000 : Int) = 60000 by omega)))⟩ d_M_start_6
set_option maxHeartbeats 4000000 in
set_option maxRecDepth 100000 in
theorem r_M_hash (l : Launch) (D : mD) (E : mE) (h : Nat) (q : Nat → Nat) (sz : Nat) (I : Nat → Int32) (J : Nat → Int64) (B : Nat → Nat → Int32) (G : Nat → Nat → Int64) (a1 : Int) (l_a1 : (-2147483648) ≤ a1) (u_a1 : a1 ≤ 2147483647) (hT : rT I B) (hn : Int) (ghn : I 8 = iI hn) (lhn : 0 ≤ hn) (uhn : hn ≤ 1000000) : Met l y_M_hash (k_M_hash :: lw_tg) (mR 2 81) (va_Pc [.ref h, .int (iI a1)] (mPre D E h q (I, J, B, G) sz)) (va_Qv (rPv [8] [5, 6, 7] I B (fun (u : mS) => u.1 8 = iI (hn + 1))) (mPost D E h q (mA E h q sz)) (mA E h q sz)) 0 0 (mA E h q sz) := by
  refine m_enter (by decide) rfl (Nat.le_of_ble_eq_true rfl) (fun p e s m below meth c ls AV QQ H locs hQQ X Y hZ hA hr hlk hml hl => ?_)
  have Y : mH D E (mA E h q sz) s.heap h q I J B G H locs := Y
  have S : rS [8] [5, 6, 7] I B I B := rS_rf hT
  have hl : lv_has ls 11 [(0, .ref h), (1, .int (iI a1))] := hl
  refine lv_aload_n X.1 X.2.1 d_M_hash_0 rfl (lv_at hl 0 rfl) ?_
  refine m_get X Y 7 (by decide) lk_block (gf_block _ _ _) rfl d_M_hash_1 ?_
  refine lv_aload_n X.1 X.2.1 d_M_hash_4 rfl (lv_at hl 0 rfl) ?_
  refine r_get0 X Y (by decide) lk_hashed (gf_hashed _ _ _) rfl ghn d_M_hash_5 ?_
  refine lv_bipush (v := iI 64) X.1 X.2.1 d_M_hash_8 (by decide) ?_
  refine z_irem X.1 X.2.1 (by omega) (by omega) ⟨by decide, by decide⟩ d_M_hash_10 ?_
  refine lv_iload_n X.1 X.2.1 d_M_hash_11 rfl (lv_at hl 1 rfl) ?_
  refine lv_i2b X.1 X.2.1 d_M_hash_12 rfl ?_
  refine t_u (fun z101 l101 u101 => ?_)
  refine r_bast X Y S (aw_block _ _ _ _ _ _ _) (sw_block _ _ _ _ _ _ _) rfl (by omega) (show hn % 64 < ((64 : Nat) : Int) by omega) (by omega) (by decide) d_M_hash_13 (fun B102 H locs Y S w102 => ?_)
  refine lv_aload_n X.1 X.2.1 d_M_hash_14 rfl (lv_at hl 0 rfl) ?_
  refine lv_dup X.1 X.2.1 d_M_hash_15 rfl ?_
  refine r_get0 X Y (by decide) lk_hashed (gf_hashed _ _ _) rfl ghn d_M_hash_16 ?_
  refine lv_iconst (v := iI 1) X.1 X.2.1 d_M_hash_19 (by decide) ?_
  refine z_iadd X.1 X.2.1 d_M_hash_20 ?_
  refine r_puti (k := 8) X Y S (by decide) lk_hashed rfl rfl (t_M_ok 8 (by decide)) rfl rfl (sf_hashed _ _ _ _) (Nat.le_of_ble_eq_true rfl) rfl (show ((-2147483648) : Int) ≤ hn + 1 by omega) (show hn + 1 ≤ (2147483647 : Int) by omega) ⟨by omega, by omega⟩ (by decide) d_M_hash_21 (fun I103 H locs Y S w103 => ?_)
  refine lv_aload_n X.1 X.2.1 d_M_hash_24 rfl (lv_at hl 0 rfl) ?_
  refine r_get0 X Y (by decide) lk_hashed (gf_hashed _ _ _) rfl w103.1 d_M_hash_25 ?_
  refine lv_bipush (v := iI 64) X.1 X.2.1 d_M_hash_28 (by decide) ?_
  refine z_irem X.1 X.2.1 (by omega) (by omega) ⟨by decide, by decide⟩ d_M_hash_30 ?_
  refine z_if_eq (tgt := 35) X.1 X.2.1 d_M_hash_31 (by decide) ⟨by omega, by omega⟩ (fun h104 => ?_) (fun h104 => ?_)
  · refine lv_iconst (v := iI 0) X.1 X.2.1 d_M_hash_35 (by decide) ?_
    have J108 : ∀ (n110 : Nat) (z106 : Int) (I105 : Nat → Int32) (J105 : Nat → Int64) (B105 : Nat → Nat → Int32) (G105 : Nat → Nat → Int64) (H : Heap) (locs : List Loc) (ls : Array Slot), (16 - z106).toNat = n110 → (0 ≤ z106) → (z106 ≤ 16) → (I105 8 = iI (hn + 1)) → mH D E (mA E h q sz) s.heap h q I105 J105 B105 G105 H locs → rS [8] [5, 6, 7] I B I105 B105 → lv_has ls 11 [(0, .ref h), (2, .int (iI z106))] → W p l e (mR 2 81) s m AV below meth c H locs 0 0 QQ (F0 m 37 ls []) := by
      intro n110
      induction n110 using Nat.strongRecOn with
      | ind n110 ih109 =>
        intro z106 I105 J105 B105 G105 H locs ls hm111 l106 u106 e107 Y S hl
        refine lv_iload_n X.1 X.2.1 d_M_hash_37 rfl (lv_at hl 1 rfl) ?_
        refine lv_bipush (v := iI 16) X.1 X.2.1 d_M_hash_38 (by decide) ?_
        refine z_icmp_ge (tgt := 117) X.1 X.2.1 d_M_hash_40 (by decide) ⟨by omega, by omega⟩ ⟨by omega, by omega⟩ (fun h112 => ?_) (fun h112 => ?_)
        · refine lv_bipush (v := iI 16) X.1 X.2.1 d_M_hash_117 (by decide) ?_
          have J116 : ∀ (n118 : Nat) (z114 : Int) (I113 : Nat → Int32) (J113 : Nat → Int64) (B113 : Nat → Nat → Int32) (G113 : Nat → Nat → Int64) (H : Heap) (locs : List Loc) (ls : Array Slot), (80 - z114).toNat = n118 → (16 ≤ z114) → (z114 ≤ 80) → (I113 8 = iI (hn + 1)) → mH D E (mA E h q sz) s.heap h q I113 J113 B113 G113 H locs → rS [8] [5, 6, 7] I B I113 B113 → lv_has ls 11 [(0, .ref h), (2, .int (iI z114))] → W p l e (mR 2 81) s m AV below meth c H locs 0 0 QQ (F0 m 120 ls []) := by
            intro n118
            induction n118 using Nat.strongRecOn with
            | ind n118 ih117 =>
              intro z114 I113 J113 B113 G113 H locs ls hm119 l114 u114 e115 Y S hl
              refine lv_iload_n X.1 X.2.1 d_M_hash_120 rfl (lv_at hl 1 rfl) ?_
              refine lv_bipush (v := iI 80) X.1 X.2.1 d_M_hash_121 (by decide) ?_
              refine z_icmp_ge (tgt := 180) X.1 X.2.1 d_M_hash_123 (by decide) ⟨by omega, by omega⟩ ⟨by omega, by omega⟩ (fun h120 => ?_) (fun h120 => ?_)
              · refine lv_aload_n X.1 X.2.1 d_M_hash_180 rfl (lv_at hl 0 rfl) ?_
                refine m_get X Y 5 (by decide) lk_h (gf_h _ _ _) rfl d_M_hash_181 ?_
                refine lv_iconst (v := iI 0) X.1 X.2.1 d_M_hash_184 (by decide) ?_
                refine r_iald X Y S (aw_h _ _ _ _ _ _ _) rfl (by omega) (show 0 < ((5 : Nat) : Int) by omega) (by omega) d_M_hash_185 (fun z121 q121 l121 u121 => ?_)
                refine lv_istore_n (lv' := [(2, .int (iI z121)), (0, .ref h)]) X.1 X.2.1 d_M_hash_186 rfl hl (by decide) rfl (fun ls hl => ?_)
                refine lv_aload_n X.1 X.2.1 d_M_hash_187 rfl (lv_at hl 1 rfl) ?_
                refine m_get X Y 5 (by decide) lk_h (gf_h _ _ _) rfl d_M_hash_188 ?_
                refine lv_iconst (v := iI 1) X.1 X.2.1 d_M_hash_191 (by decide) ?_
                refine r_iald X Y S (aw_h _ _ _ _ _ _ _) rfl (by omega) (show 1 < ((5 : Nat) : Int) by omega) (by omega) d_M_hash_192 (fun z122 q122 l122 u122 => ?_)
                refine lv_istore_n (lv' := [(3, .int (iI z122)), (2, .int (iI z121)), (0, .ref h)]) X.1 X.2.1 d_M_hash_193 rfl hl (by decide) rfl (fun ls hl => ?_)
                refine lv_aload_n X.1 X.2.1 d_M_hash_194 rfl (lv_at hl 2 rfl) ?_
                refine m_get X Y 5 (by decide) lk_h (gf_h _ _ _) rfl d_M_hash_195 ?_
                refine lv_iconst (v := iI 2) X.1 X.2.1 d_M_hash_198 (by decide) ?_
                refine r_iald X Y S (aw_h _ _ _ _ _ _ _) rfl (by omega) (show 2 < ((5 : Nat) : Int) by omega) (by omega) d_M_hash_199 (fun z123 q123 l123 u123 => ?_)
                refine lv_istore (lv' := [(4, .int (iI z123)), (3, .int (iI z122)), (2, .int (iI z121)), (0, .ref h)]) X.1 X.2.1 d_M_hash_200 hl (by decide) rfl (fun ls hl => ?_)
                refine lv_aload_n X.1 X.2.1 d_M_hash_202 rfl (lv_at hl 3 rfl) ?_
                refine m_get X Y 5 (by decide) lk_h (gf_h _ _ _) rfl d_M_hash_203 ?_
                refine lv_iconst (v := iI 3) X.1 X.2.1 d_M_hash_206 (by decide) ?_
                refine r_iald X Y S (aw_h _ _ _ _ _ _ _) rfl (by omega) (show 3 < ((5 : Nat) : Int) by omega) (by omega) d_M_hash_207 (fun z124 q124 l124 u124 => ?_)
                refine lv_istore (lv' := [(5, .int (iI z124)), (4, .int (iI z123)), (3, .int (iI z122)), (2, .int (iI z121)), (0, .ref h)]) X.1 X.2.1 d_M_hash_208 hl (by decide) rfl (fun ls hl => ?_)
                refine lv_aload_n X.1 X.2.1 d_M_hash_210 rfl (lv_at hl 4 rfl) ?_
                refine m_get X Y 5 (by decide) lk_h (gf_h _ _ _) rfl d_M_hash_211 ?_
                refine lv_iconst (v := iI 4) X.1 X.2.1 d_M_hash_214 (by decide) ?_
                refine r_iald X Y S (aw_h _ _ _ _ _ _ _) rfl (by omega) (show 4 < ((5 : Nat) : Int) by omega) (by omega) d_M_hash_215 (fun z125 q125 l125 u125 => ?_)
                refine lv_istore (lv' := [(6, .int (iI z125)), (5, .int (iI z124)), (4, .int (iI z123)), (3, .int (iI z122)), (2, .int (iI z121)), (0, .ref h)]) X.1 X.2.1 d_M_hash_216 hl (by decide) rfl (fun ls hl => ?_)
                refine lv_iconst (v := iI 0) X.1 X.2.1 d_M_hash_218 (by decide) ?_
                have J132 : ∀ (n134 : Nat) (z126 : Int) (z127 : Int) (z128 : Int) (z129 : Int) (z130 : Int) (z131 : Int) (H : Heap) (locs : List Loc) (ls : Array Slot), (80 - z131).toNat = n134 → ((-2147483648) ≤ z126) → (z126 ≤ 2147483647) → ((-2147483648) ≤ z127) → (z127 ≤ 2147483647) → ((-2147483648) ≤ z128) → (z128 ≤ 2147483647) → ((-2147483648) ≤ z129) → (z129 ≤ 2147483647) → ((-2147483648) ≤ z130) → (z130 ≤ 2147483647) → (0 ≤ z131) → (z131 ≤ 80) → mH D E (mA E h q sz) s.heap h q I113 J113 B113 G113 H locs → rS [8] [5, 6, 7] I B I113 B113 → lv_has ls 11 [(0, .ref h), (2, .int (iI z126)), (3, .int (iI z127)), (4, .int (iI z128)), (5, .int (iI z129)), (6, .int (iI z130)), (7, .int (iI z131))] → W p l e (mR 2 81) s m AV below meth c H locs 0 0 QQ (F0 m 221 ls []) := by
                  intro n134
                  induction n134 using Nat.strongRecOn with
                  | ind n134 ih133 =>
                    intro z126 z127 z128 z129 z130 z131 H locs ls hm135 l126 u126 l127 u127 l128 u128 l129 u129 l130 u130 l131 u131 Y S hl
                    refine lv_iload X.1 X.2.1 d_M_hash_221 (lv_at hl 6 rfl) ?_
                    refine lv_bipush (v := iI 80) X.1 X.2.1 d_M_hash_223 (by decide) ?_
                    refine z_icmp_ge (tgt := 385) X.1 X.2.1 d_M_hash_225 (by decide) ⟨by omega, by omega⟩ ⟨by omega, by omega⟩ (fun h136 => ?_) (fun h136 => ?_)
                    · refine lv_aload_n X.1 X.2.1 d_M_hash_385 rfl (lv_at hl 0 rfl) ?_
                      refine m_get X Y 5 (by decide) lk_h (gf_h _ _ _) rfl d_M_hash_386 ?_
                      refine lv_iconst (v := iI 0) X.1 X.2.1 d_M_hash_389 (by decide) ?_
                      refine lv_dup2_11 X.1 X.2.1 d_M_hash_390 rfl rfl ?_
                      refine r_iald X Y S (aw_h _ _ _ _ _ _ _) rfl (by omega) (show 0 < ((5 : Nat) : Int) by omega) (by omega) d_M_hash_391 (fun z137 q137 l137 u137 => ?_)
                      refine lv_iload_n X.1 X.2.1 d_M_hash_392 rfl (lv_at hl 1 rfl) ?_
                      refine lv_iadd X.1 X.2.1 d_M_hash_393 ?_
                      refine t_u (fun z138 l138 u138 => ?_)
                      refine r_iast X Y S (aw_h _ _ _ _ _ _ _) (sw_h _ _ _ _ _ _ _) rfl ⟨(show ((-2147483648) : Int) ≤ z138 by omega), (show z138 ≤ (2147483647 : Int) by omega)⟩ ⟨by omega, by omega⟩ (by omega) (show 0 < ((5 : Nat) : Int) by omega) (by omega) (by decide) d_M_hash_394 (fun B139 H locs Y S w139 => ?_)
                      refine lv_aload_n X.1 X.2.1 d_M_hash_395 rfl (lv_at hl 0 rfl) ?_
                      refine m_get X Y 5 (by decide) lk_h (gf_h _ _ _) rfl d_M_hash_396 ?_
                      refine lv_iconst (v := iI 1) X.1 X.2.1 d_M_hash_399 (by decide) ?_
                      refine lv_dup2_11 X.1 X.2.1 d_M_hash_400 rfl rfl ?_
                      refine r_iald X Y S (aw_h _ _ _ _ _ _ _) rfl (by omega) (show 1 < ((5 : Nat) : Int) by omega) (by omega) d_M_hash_401 (fun z140 q140 l140 u140 => ?_)
                      refine lv_iload_n X.1 X.2.1 d_M_hash_402 rfl (lv_at hl 2 rfl) ?_
                      refine lv_iadd X.1 X.2.1 d_M_hash_403 ?_
                      refine t_u (fun z141 l141 u141 => ?_)
                      refine r_iast X Y S (aw_h _ _ _ _ _ _ _) (sw_h _ _ _ _ _ _ _) rfl ⟨(show ((-2147483648) : Int) ≤ z141 by omega), (show z141 ≤ (2147483647 : Int) by omega)⟩ ⟨by omega, by omega⟩ (by omega) (show 1 < ((5 : Nat) : Int) by omega) (by omega) (by decide) d_M_hash_404 (fun B142 H locs Y S w142 => ?_)
                      refine lv_aload_n X.1 X.2.1 d_M_hash_405 rfl (lv_at hl 0 rfl) ?_
                      refine m_get X Y 5 (by decide) lk_h (gf_h _ _ _) rfl d_M_hash_406 ?_
                      refine lv_iconst (v := iI 2) X.1 X.2.1 d_M_hash_409 (by decide) ?_
                      refine lv_dup2_11 X.1 X.2.1 d_M_hash_410 rfl rfl ?_
                      refine r_iald X Y S (aw_h _ _ _ _ _ _ _) rfl (by omega) (show 2 < ((5 : Nat) : Int) by omega) (by omega) d_M_hash_411 (fun z143 q143 l143 u143 => ?_)
                      refine lv_iload X.1 X.2.1 d_M_hash_412 (lv_at hl 3 rfl) ?_
                      refine lv_iadd X.1 X.2.1 d_M_hash_414 ?_
                      refine t_u (fun z144 l144 u144 => ?_)
                      refine r_iast X Y S (aw_h _ _ _ _ _ _ _) (sw_h _ _ _ _ _ _ _) rfl ⟨(show ((-2147483648) : Int) ≤ z144 by omega), (show z144 ≤ (2147483647 : Int) by omega)⟩ ⟨by omega, by omega⟩ (by omega) (show 2 < ((5 : Nat) : Int) by omega) (by omega) (by decide) d_M_hash_415 (fun B145 H locs Y S w145 => ?_)
                      refine lv_aload_n X.1 X.2.1 d_M_hash_416 rfl (lv_at hl 0 rfl) ?_
                      refine m_get X Y 5 (by decide) lk_h (gf_h _ _ _) rfl d_M_hash_417 ?_
                      refine lv_iconst (v := iI 3) X.1 X.2.1 d_M_hash_420 (by decide) ?_
                      refine lv_dup2_11 X.1 X.2.1 d_M_hash_421 rfl rfl ?_
                      refine r_iald X Y S (aw_h _ _ _ _ _ _ _) rfl (by omega) (show 3 < ((5 : Nat) : Int) by omega) (by omega) d_M_hash_422 (fun z146 q146 l146 u146 => ?_)
                      refine lv_iload X.1 X.2.1 d_M_hash_423 (lv_at hl 4 rfl) ?_
                      refine lv_iadd X.1 X.2.1 d_M_hash_425 ?_
                      refine t_u (fun z147 l147 u147 => ?_)
                      refine r_iast X Y S (aw_h _ _ _ _ _ _ _) (sw_h _ _ _ _ _ _ _) rfl ⟨(show ((-2147483648) : Int) ≤ z147 by omega), (show z147 ≤ (2147483647 : Int) by omega)⟩ ⟨by omega, by omega⟩ (by omega) (show 3 < ((5 : Nat) : Int) by omega) (by omega) (by decide) d_M_hash_426 (fun B148 H locs Y S w148 => ?_)
                      refine lv_aload_n X.1 X.2.1 d_M_hash_427 rfl (lv_at hl 0 rfl) ?_
                      refine m_get X Y 5 (by decide) lk_h (gf_h _ _ _) rfl d_M_hash_428 ?_
                      refine lv_iconst (v := iI 4) X.1 X.2.1 d_M_hash_431 (by decide) ?_
                      refine lv_dup2_11 X.1 X.2.1 d_M_hash_432 rfl rfl ?_
                      refine r_iald X Y S (aw_h _ _ _ _ _ _ _) rfl (by omega) (show 4 < ((5 : Nat) : Int) by omega) (by omega) d_M_hash_433 (fun z149 q149 l149 u149 => ?_)
                      refine lv_iload X.1 X.2.1 d_M_hash_434 (lv_at hl 5 rfl) ?_
                      refine lv_iadd X.1 X.2.1 d_M_hash_436 ?_
                      refine t_u (fun z150 l150 u150 => ?_)
                      refine r_iast X Y S (aw_h _ _ _ _ _ _ _) (sw_h _ _ _ _ _ _ _) rfl ⟨(show ((-2147483648) : Int) ≤ z150 by omega), (show z150 ≤ (2147483647 : Int) by omega)⟩ ⟨by omega, by omega⟩ (by omega) (show 4 < ((5 : Nat) : Int) by omega) (by omega) (by decide) d_M_hash_437 (fun B151 H locs Y S w151 => ?_)
                      exact m_retv hQQ X Y hr hlk ⟨S, ((e115).trans (congrArg iI (show (hn + 1 : Int) = hn + 1 by omega)))⟩ d_M_hash_438
                    · refine lv_iload X.1 X.2.1 d_M_hash_228 (lv_at hl 6 rfl) ?_
                      refine lv_bipush (v := iI 20) X.1 X.2.1 d_M_hash_230 (by decide) ?_
                      have J153 : ∀ (z152 : Int) (H : Heap) (locs : List Loc) (ls : Array Slot), ((-2147483648) ≤ z152) → (z152 ≤ 2147483647) → mH D E (mA E h q sz) s.heap h q I113 J113 B113 G113 H locs → rS [8] [5, 6, 7] I B I113 B113 → lv_has ls 11 [(0, .ref h), (2, .int (iI z126)), (3, .int (iI z127)), (4, .int (iI z128)), (5, .int (iI z129)), (6, .int (iI z130)), (7, .int (iI z131))] → W p l e (mR 2 81) s m AV below meth c H locs 0 0 QQ (F0 m 288 ls [.int (iI z152)]) := by
                        intro z152 H locs ls l152 u152 Y S hl
                        refine lv_istore (lv' := [(8, .int (iI z152)), (0, .ref h), (2, .int (iI z126)), (3, .int (iI z127)), (4, .int (iI z128)), (5, .int (iI z129)), (6, .int (iI z130)), (7, .int (iI z131))]) X.1 X.2.1 d_M_hash_288 hl (by decide) rfl (fun ls hl => ?_)
                        refine lv_iload X.1 X.2.1 d_M_hash_290 (lv_at hl 7 rfl) ?_
                        refine lv_bipush (v := iI 20) X.1 X.2.1 d_M_hash_292 (by decide) ?_
                        have J158 : ∀ (z157 : Int) (H : Heap) (locs : List Loc) (ls : Array Slot), ((-1894007588) ≤ z157) → (z157 ≤ 1859775393) → mH D E (mA E h q sz) s.heap h q I113 J113 B113 G113 H locs → rS [8] [5, 6, 7] I B I113 B113 → lv_has ls 11 [(0, .ref h), (2, .int (iI z126)), (3, .int (iI z127)), (4, .int (iI z128)), (5, .int (iI z129)), (6, .int (iI z130)), (7, .int (iI z131)), (8, .int (iI z152))] → W p l e (mR 2 81) s m AV below meth c H locs 0 0 QQ (F0 m 332 ls [.int (iI z157)]) := by
                          intro z157 H locs ls l157 u157 Y S hl
                          refine lv_istore (lv' := [(9, .int (iI z157)), (0, .ref h), (2, .int (iI z126)), (3, .int (iI z127)), (4, .int (iI z128)), (5, .int (iI z129)), (6, .int (iI z130)), (7, .int (iI z131)), (8, .int (iI z152))]) X.1 X.2.1 d_M_hash_332 hl (by decide) rfl (fun ls hl => ?_)
                          refine lv_iload_n X.1 X.2.1 d_M_hash_334 rfl (lv_at hl 2 rfl) ?_
                          refine lv_iconst (v := iI 5) X.1 X.2.1 d_M_hash_335 (by decide) ?_
                          refine p_calli (As := [.int (iI z126), .int (iI 5)]) (rest := []) (n := 2) X Y hml hl.1 (r_M_left l z126 (by omega) (by omega) 5 (by omega) (by omega)) kl_M_left ks_M_left ki_M_left ini_M hd_M_left ⟨Nat.le_of_ble_eq_true rfl, Nat.le_of_ble_eq_true rfl⟩ rfl (Nat.le_of_ble_eq_true rfl) d_M_hash_336 ⟨Nat.le_refl _, Nat.le_refl _⟩ (fun r162 H locs p162 Y => ?_)
                          obtain ⟨z162, e162, p162⟩ := p162
                          subst e162
                          obtain ⟨l162, u162⟩ := p162
                          refine lv_iload X.1 X.2.1 d_M_hash_339 (lv_at hl 8 rfl) ?_
                          refine lv_iadd X.1 X.2.1 d_M_hash_341 ?_
                          refine t_u (fun z163 l163 u163 => ?_)
                          refine lv_iload X.1 X.2.1 d_M_hash_342 (lv_at hl 6 rfl) ?_
                          refine lv_iadd X.1 X.2.1 d_M_hash_344 ?_
                          refine t_u (fun z164 l164 u164 => ?_)
                          refine lv_iload X.1 X.2.1 d_M_hash_345 (lv_at hl 0 rfl) ?_
                          refine lv_iadd X.1 X.2.1 d_M_hash_347 ?_
                          refine t_u (fun z165 l165 u165 => ?_)
                          refine lv_aload_n X.1 X.2.1 d_M_hash_348 rfl (lv_at hl 1 rfl) ?_
                          refine m_get X Y 6 (by decide) lk_w (gf_w _ _ _) rfl d_M_hash_349 ?_
                          refine lv_iload X.1 X.2.1 d_M_hash_352 (lv_at hl 7 rfl) ?_
                          refine r_iald X Y S (aw_w _ _ _ _ _ _ _) rfl (by omega) (show z131 < ((80 : Nat) : Int) by omega) (by omega) d_M_hash_354 (fun z166 q166 l166 u166 => ?_)
                          refine lv_iadd X.1 X.2.1 d_M_hash_355 ?_
                          refine t_u (fun z167 l167 u167 => ?_)
                          refine lv_istore (lv' := [(10, .int (iI z167)), (9, .int (iI z157)), (0, .ref h), (2, .int (iI z126)), (3, .int (iI z127)), (4, .int (iI z128)), (5, .int (iI z129)), (6, .int (iI z130)), (7, .int (iI z131)), (8, .int (iI z152))]) X.1 X.2.1 d_M_hash_356 hl (by decide) rfl (fun ls hl => ?_)
                          refine lv_iload X.1 X.2.1 d_M_hash_358 (lv_at hl 6 rfl) ?_
                          refine lv_istore (lv' := [(6, .int (iI z129)), (10, .int (iI z167)), (9, .int (iI z157)), (0, .ref h), (2, .int (iI z126)), (3, .int (iI z127)), (4, .int (iI z128)), (5, .int (iI z129)), (7, .int (iI z131)), (8, .int (iI z152))]) X.1 X.2.1 d_M_hash_360 hl (by decide) rfl (fun ls hl => ?_)
                          refine lv_iload X.1 X.2.1 d_M_hash_362 (lv_at hl 6 rfl) ?_
                          refine lv_istore (lv' := [(5, .int (iI z128)), (6, .int (iI z129)), (10, .int (iI z167)), (9, .int (iI z157)), (0, .ref h), (2, .int (iI z126)), (3, .int (iI z127)), (4, .int (iI z128)), (7, .int (iI z131)), (8, .int (iI z152))]) X.1 X.2.1 d_M_hash_364 hl (by decide) rfl (fun ls hl => ?_)
                          refine lv_iload_n X.1 X.2.1 d_M_hash_366 rfl (lv_at hl 6 rfl) ?_
                          refine lv_bipush (v := iI 30) X.1 X.2.1 d_M_hash_367 (by decide) ?_
                          refine p_calli (As := [.int (iI z127), .int (iI 30)]) (rest := []) (n := 2) X Y hml hl.1 (r_M_left l z127 (by omega) (by omega) 30 (by omega) (by omega)) kl_M_left ks_M_left ki_M_left ini_M hd_M_left ⟨Nat.le_of_ble_eq_true rfl, Nat.le_of_ble_eq_true rfl⟩ rfl (Nat.le_of_ble_eq_true rfl) d_M_hash_369 ⟨Nat.le_refl _, Nat.le_refl _⟩ (fun r168 H locs p168 Y => ?_)
                          obtain ⟨z168, e168, p168⟩ := p168
                          subst e168
                          obtain ⟨l168, u168⟩ := p168
                          refine lv_istore (lv' := [(4, .int (iI z168)), (5, .int (iI z128)), (6, .int (iI z129)), (10, .int (iI z167)), (9, .int (iI z157)), (0, .ref h), (2, .int (iI z126)), (3, .int (iI z127)), (7, .int (iI z131)), (8, .int (iI z152))]) X.1 X.2.1 d_M_hash_372 hl (by decide) rfl (fun ls hl => ?_)
                          refine lv_iload_n X.1 X.2.1 d_M_hash_374 rfl (lv_at hl 6 rfl) ?_
                          refine lv_istore_n (lv' := [(3, .int (iI z126)), (4, .int (iI z168)), (5, .int (iI z128)), (6, .int (iI z129)), (10, .int (iI z167)), (9, .int (iI z157)), (0, .ref h), (2, .int (iI z126)), (7, .int (iI z131)), (8, .int (iI z152))]) X.1 X.2.1 d_M_hash_375 rfl hl (by decide) rfl (fun ls hl => ?_)
                          refine lv_iload X.1 X.2.1 d_M_hash_376 (lv_at hl 4 rfl) ?_
                          refine lv_istore_n (lv' := [(2, .int (iI z167)), (3, .int (iI z126)), (4, .int (iI z168)), (5, .int (iI z128)), (6, .int (iI z129)), (10, .int (iI z167)), (9, .int (iI z157)), (0, .ref h), (7, .int (iI z131)), (8, .int (iI z152))]) X.1 X.2.1 d_M_hash_378 rfl hl (by decide) rfl (fun ls hl => ?_)
                          refine lv_iinc (v := iI (z131 + 1)) (lv' := [(7, .int (iI (z131 + 1))), (2, .int (iI z167)), (3, .int (iI z126)), (4, .int (iI z168)), (5, .int (iI z128)), (6, .int (iI z129)), (10, .int (iI z167)), (9, .int (iI z157)), (0, .ref h), (8, .int (iI z152))]) X.1 X.2.1 d_M_hash_379 hl (k := 8) rfl ((iI_add _ _).trans (congrArg iI (by omega))) (by decide) rfl (fun ls hl => ?_)
                          refine lv_goto (tgt := 221) X.1 X.2.1 d_M_hash_382 (by decide) ?_
                          exact ih133 ((80 - (z131 + 1)).toNat) (by omega) z167 z126 z168 z128 z129 (z131 + 1) _ _ _ rfl (by omega) (by omega) (by omega) (by omega) (by omega) (by omega) (by omega) (by omega) (by omega) (by omega) (by omega) (by omega) Y S (lv_sub hl [8, 1, 2, 3, 4, 5, 0] rfl)
                        refine z_icmp_ge (tgt := 303) X.1 X.2.1 d_M_hash_294 (by decide) ⟨by omega, by omega⟩ ⟨by omega, by omega⟩ (fun h169 => ?_) (fun h169 => ?_)
                        · refine lv_iload X.1 X.2.1 d_M_hash_303 (lv_at hl 7 rfl) ?_
                          refine lv_bipush (v := iI 40) X.1 X.2.1 d_M_hash_305 (by decide) ?_
                          refine z_icmp_ge (tgt := 316) X.1 X.2.1 d_M_hash_307 (by decide) ⟨by omega, by omega⟩ ⟨by omega, by omega⟩ (fun h170 => ?_) (fun h170 => ?_)
                          · refine lv_iload X.1 X.2.1 d_M_hash_316 (lv_at hl 7 rfl) ?_
                            refine lv_bipush (v := iI 60) X.1 X.2.1 d_M_hash_318 (by decide) ?_
                            refine z_icmp_ge (tgt := 329) X.1 X.2.1 d_M_hash_320 (by decide) ⟨by omega, by omega⟩ ⟨by omega, by omega⟩ (fun h171 => ?_) (fun h171 => ?_)
                            · refine lv_ldcw (v := (-899497514)) X.1 X.2.1 X.2.2.2.1 (X.2.2.1 _ cn_M_367) d_M_hash_329 ?_
                              refine t_eq (y := iI (-899497514)) (by decide) ?_
                              exact J158 ((-899497514)) _ _ _ (by omega) (by omega) Y S (lv_sub hl [1, 2, 3, 4, 5, 6, 7, 0] rfl)
                            · refine lv_ldcw (v := (-1894007588)) X.1 X.2.1 X.2.2.2.1 (X.2.2.1 _ cn_M_366) d_M_hash_323 ?_
                              refine t_eq (y := iI (-1894007588)) (by decide) ?_
                              refine lv_goto (tgt := 332) X.1 X.2.1 d_M_hash_326 (by decide) ?_
                              exact J158 ((-1894007588)) _ _ _ (by omega) (by omega) Y S (lv_sub hl [1, 2, 3, 4, 5, 6, 7, 0] rfl)
                          · refine lv_ldcw (v := (1859775393)) X.1 X.2.1 X.2.2.2.1 (X.2.2.1 _ cn_M_365) d_M_hash_310 ?_
                            refine t_eq (y := iI 1859775393) (by decide) ?_
                            refine lv_goto (tgt := 332) X.1 X.2.1 d_M_hash_313 (by decide) ?_
                            exact J158 1859775393 _ _ _ (by omega) (by omega) Y S (lv_sub hl [1, 2, 3, 4, 5, 6, 7, 0] rfl)
                        · refine lv_ldcw (v := (1518500249)) X.1 X.2.1 X.2.2.2.1 (X.2.2.1 _ cn_M_364) d_M_hash_297 ?_
                          refine t_eq (y := iI 1518500249) (by decide) ?_
                          refine lv_goto (tgt := 332) X.1 X.2.1 d_M_hash_300 (by decide) ?_
                          exact J158 1518500249 _ _ _ (by omega) (by omega) Y S (lv_sub hl [1, 2, 3, 4, 5, 6, 7, 0] rfl)
                      refine z_icmp_ge (tgt := 249) X.1 X.2.1 d_M_hash_232 (by decide) ⟨by omega, by omega⟩ ⟨by omega, by omega⟩ (fun h172 => ?_) (fun h172 => ?_)
                      · refine lv_iload X.1 X.2.1 d_M_hash_249 (lv_at hl 6 rfl) ?_
                        refine lv_bipush (v := iI 40) X.1 X.2.1 d_M_hash_251 (by decide) ?_
                        have J173 : ∀  (H : Heap) (locs : List Loc) (ls : Array Slot), mH D E (mA E h q sz) s.heap h q I113 J113 B113 G113 H locs → rS [8] [5, 6, 7] I B I113 B113 → lv_has ls 11 [(0, .ref h), (2, .int (iI z126)), (3, .int (iI z127)), (4, .int (iI z128)), (5, .int (iI z129)), (6, .int (iI z130)), (7, .int (iI z131))] → W p l e (mR 2 81) s m AV below meth c H locs 0 0 QQ (F0 m 263 ls []) := by
                          intro  H locs ls  Y S hl
                          refine lv_iload_n X.1 X.2.1 d_M_hash_263 rfl (lv_at hl 2 rfl) ?_
                          refine lv_iload X.1 X.2.1 d_M_hash_264 (lv_at hl 3 rfl) ?_
                          refine lv_ixor X.1 X.2.1 d_M_hash_266 ?_
                          refine t_u (fun z177 l177 u177 => ?_)
                          refine lv_iload X.1 X.2.1 d_M_hash_267 (lv_at hl 4 rfl) ?_
                          refine lv_ixor X.1 X.2.1 d_M_hash_269 ?_
                          refine t_u (fun z178 l178 u178 => ?_)
                          refine lv_goto (tgt := 288) X.1 X.2.1 d_M_hash_270 (by decide) ?_
                          exact J153 z178 _ _ _ (by omega) (by omega) Y S (lv_sub hl [0, 1, 2, 3, 4, 5, 6] rfl)
                        refine z_icmp_lt (tgt := 263) X.1 X.2.1 d_M_hash_253 (by decide) ⟨by omega, by omega⟩ ⟨by omega, by omega⟩ (fun h179 => ?_) (fun h179 => ?_)
                        · exact J173  _ _ _  Y S (lv_sub hl [0, 1, 2, 3, 4, 5, 6] rfl)
                        · refine lv_iload X.1 X.2.1 d_M_hash_256 (lv_at hl 6 rfl) ?_
                          refine lv_bipush (v := iI 59) X.1 X.2.1 d_M_hash_258 (by decide) ?_
                          refine z_icmp_le (tgt := 273) X.1 X.2.1 d_M_hash_260 (by decide) ⟨by omega, by omega⟩ ⟨by omega, by omega⟩ (fun h180 => ?_) (fun h180 => ?_)
                          · refine lv_iload_n X.1 X.2.1 d_M_hash_273 rfl (lv_at hl 2 rfl) ?_
                            refine lv_iload X.1 X.2.1 d_M_hash_274 (lv_at hl 3 rfl) ?_
                            refine lv_iand X.1 X.2.1 d_M_hash_276 ?_
                            refine t_u (fun z182 l182 u182 => ?_)
                            refine lv_iload_n X.1 X.2.1 d_M_hash_277 rfl (lv_at hl 2 rfl) ?_
                            refine lv_iload X.1 X.2.1 d_M_hash_278 (lv_at hl 4 rfl) ?_
                            refine lv_iand X.1 X.2.1 d_M_hash_280 ?_
                            refine t_u (fun z184 l184 u184 => ?_)
                            refine lv_ior X.1 X.2.1 d_M_hash_281 ?_
                            refine t_u (fun z185 l185 u185 => ?_)
                            refine lv_iload X.1 X.2.1 d_M_hash_282 (lv_at hl 3 rfl) ?_
                            refine lv_iload X.1 X.2.1 d_M_hash_284 (lv_at hl 4 rfl) ?_
                            refine lv_iand X.1 X.2.1 d_M_hash_286 ?_
                            refine t_u (fun z187 l187 u187 => ?_)
                            refine lv_ior X.1 X.2.1 d_M_hash_287 ?_
                            refine t_u (fun z188 l188 u188 => ?_)
                            exact J153 z188 _ _ _ (by omega) (by omega) Y S (lv_sub hl [0, 1, 2, 3, 4, 5, 6] rfl)
                          · exact J173  _ _ _  Y S (lv_sub hl [0, 1, 2, 3, 4, 5, 6] rfl)
                      · refine lv_iload_n X.1 X.2.1 d_M_hash_235 rfl (lv_at hl 2 rfl) ?_
                        refine lv_iload X.1 X.2.1 d_M_hash_236 (lv_at hl 3 rfl) ?_
                        refine lv_iand X.1 X.2.1 d_M_hash_238 ?_
                        refine t_u (fun z190 l190 u190 => ?_)
                        refine lv_iload_n X.1 X.2.1 d_M_hash_239 rfl (lv_at hl 2 rfl) ?_
                        refine lv_iconst (v := iI (-1)) X.1 X.2.1 d_M_hash_240 (by decide) ?_
                        refine lv_ixor X.1 X.2.1 d_M_hash_241 ?_
                        refine t_u (fun z191 l191 u191 => ?_)
                        refine lv_iload X.1 X.2.1 d_M_hash_242 (lv_at hl 4 rfl) ?_
                        refine lv_iand X.1 X.2.1 d_M_hash_244 ?_
                        refine t_u (fun z193 l193 u193 => ?_)
                        refine lv_ior X.1 X.2.1 d_M_hash_245 ?_
                        refine t_u (fun z194 l194 u194 => ?_)
                        refine lv_goto (tgt := 288) X.1 X.2.1 d_M_hash_246 (by decide) ?_
                        exact J153 z194 _ _ _ (by omega) (by omega) Y S (lv_sub hl [0, 1, 2, 3, 4, 5, 6] rfl)
                refine lv_istore (lv' := [(7, .int (iI 0)), (6, .int (iI z125)), (5, .int (iI z124)), (4, .int (iI z123)), (3, .int (iI z122)), (2, .int (iI z121)), (0, .ref h)]) X.1 X.2.1 d_M_hash_219 hl (by decide) rfl (fun ls hl => ?_)
                exact J132 _ z121 z122 z123 z124 z125 0 _ _ _ rfl (by omega) (by omega) (by omega) (by omega) (by omega) (by omega) (by omega) (by omega) (by omega) (by omega) (by omega) (by omega) Y S (lv_sub hl [6, 5, 4, 3, 2, 1, 0] rfl)
              · refine lv_aload_n X.1 X.2.1 d_M_hash_126 rfl (lv_at hl 0 rfl) ?_
                refine m_get X Y 6 (by decide) lk_w (gf_w _ _ _) rfl d_M_hash_127 ?_
                refine lv_iload_n X.1 X.2.1 d_M_hash_130 rfl (lv_at hl 1 rfl) ?_
                refine lv_aload_n X.1 X.2.1 d_M_hash_131 rfl (lv_at hl 0 rfl) ?_
                refine m_get X Y 6 (by decide) lk_w (gf_w _ _ _) rfl d_M_hash_132 ?_
                refine lv_iload_n X.1 X.2.1 d_M_hash_135 rfl (lv_at hl 1 rfl) ?_
                refine lv_iconst (v := iI 3) X.1 X.2.1 d_M_hash_136 (by decide) ?_
                refine z_isub X.1 X.2.1 d_M_hash_137 ?_
                refine r_iald X Y S (aw_w _ _ _ _ _ _ _) rfl (by omega) (show z114 - 3 < ((80 : Nat) : Int) by omega) (by omega) d_M_hash_138 (fun z195 q195 l195 u195 => ?_)
                refine lv_aload_n X.1 X.2.1 d_M_hash_139 rfl (lv_at hl 0 rfl) ?_
                refine m_get X Y 6 (by decide) lk_w (gf_w _ _ _) rfl d_M_hash_140 ?_
                refine lv_iload_n X.1 X.2.1 d_M_hash_143 rfl (lv_at hl 1 rfl) ?_
                refine lv_bipush (v := iI 8) X.1 X.2.1 d_M_hash_144 (by decide) ?_
                refine z_isub X.1 X.2.1 d_M_hash_146 ?_
                refine r_iald X Y S (aw_w _ _ _ _ _ _ _) rfl (by omega) (show z114 - 8 < ((80 : Nat) : Int) by omega) (by omega) d_M_hash_147 (fun z196 q196 l196 u196 => ?_)
                refine lv_ixor X.1 X.2.1 d_M_hash_148 ?_
                refine t_u (fun z197 l197 u197 => ?_)
                refine lv_aload_n X.1 X.2.1 d_M_hash_149 rfl (lv_at hl 0 rfl) ?_
                refine m_get X Y 6 (by decide) lk_w (gf_w _ _ _) rfl d_M_hash_150 ?_
                refine lv_iload_n X.1 X.2.1 d_M_hash_153 rfl (lv_at hl 1 rfl) ?_
                refine lv_bipush (v := iI 14) X.1 X.2.1 d_M_hash_154 (by decide) ?_
                refine z_isub X.1 X.2.1 d_M_hash_156 ?_
                refine r_iald X Y S (aw_w _ _ _ _ _ _ _) rfl (by omega) (show z114 - 14 < ((80 : Nat) : Int) by omega) (by omega) d_M_hash_157 (fun z198 q198 l198 u198 => ?_)
                refine lv_ixor X.1 X.2.1 d_M_hash_158 ?_
                refine t_u (fun z199 l199 u199 => ?_)
                refine lv_aload_n X.1 X.2.1 d_M_hash_159 rfl (lv_at hl 0 rfl) ?_
                refine m_get X Y 6 (by decide) lk_w (gf_w _ _ _) rfl d_M_hash_160 ?_
                refine lv_iload_n X.1 X.2.1 d_M_hash_163 rfl (lv_at hl 1 rfl) ?_
                refine lv_bipush (v := iI 16) X.1 X.2.1 d_M_hash_164 (by decide) ?_
                refine z_isub X.1 X.2.1 d_M_hash_166 ?_
                refine r_iald X Y S (aw_w _ _ _ _ _ _ _) rfl (by omega) (show z114 - 16 < ((80 : Nat) : Int) by omega) (by omega) d_M_hash_167 (fun z200 q200 l200 u200 => ?_)
                refine lv_ixor X.1 X.2.1 d_M_hash_168 ?_
                refine t_u (fun z201 l201 u201 => ?_)
                refine lv_iconst (v := iI 1) X.1 X.2.1 d_M_hash_169 (by decide) ?_
                refine p_calli (As := [.int (iI z201), .int (iI 1)]) (rest := [.int (iI z114), .ref ((q 6))]) (n := 2) X Y hml hl.1 (r_M_left l z201 (by omega) (by omega) 1 (by omega) (by omega)) kl_M_left ks_M_left ki_M_left ini_M hd_M_left ⟨Nat.le_of_ble_eq_true rfl, Nat.le_of_ble_eq_true rfl⟩ rfl (Nat.le_of_ble_eq_true rfl) d_M_hash_170 ⟨Nat.le_refl _, Nat.le_refl _⟩ (fun r202 H locs p202 Y => ?_)
                obtain ⟨z202, e202, p202⟩ := p202
                subst e202
                obtain ⟨l202, u202⟩ := p202
                refine r_iast X Y S (aw_w _ _ _ _ _ _ _) (sw_w _ _ _ _ _ _ _) rfl ⟨(show ((-2147483648) : Int) ≤ z202 by omega), (show z202 ≤ (2147483647 : Int) by omega)⟩ ⟨by omega, by omega⟩ (by omega) (show z114 < ((80 : Nat) : Int) by omega) (by omega) (by decide) d_M_hash_173 (fun B203 H locs Y S w203 => ?_)
                refine lv_iinc (v := iI (z114 + 1)) (lv' := [(2, .int (iI (z114 + 1))), (0, .ref h)]) X.1 X.2.1 d_M_hash_174 hl (k := 1) rfl ((iI_add _ _).trans (congrArg iI (by omega))) (by decide) rfl (fun ls hl => ?_)
                refine lv_goto (tgt := 120) X.1 X.2.1 d_M_hash_177 (by decide) ?_
                exact ih117 ((80 - (z114 + 1)).toNat) (by omega) (z114 + 1) I113 J113 B203 G113 _ _ _ rfl (by omega) (by omega) e115 Y S (lv_sub hl [1, 0] rfl)
          refine lv_istore_n (lv' := [(2, .int (iI 16)), (0, .ref h)]) X.1 X.2.1 d_M_hash_119 rfl hl (by decide) rfl (fun ls hl => ?_)
          exact J116 _ 16 I105 J105 B105 G105 _ _ _ rfl (by omega) (by omega) e107 Y S (lv_sub hl [1, 0] rfl)
        · refine lv_aload_n X.1 X.2.1 d_M_hash_43 rfl (lv_at hl 0 rfl) ?_
          refine m_get X Y 6 (by decide) lk_w (gf_w _ _ _) rfl d_M_hash_44 ?_
          refine lv_iload_n X.1 X.2.1 d_M_hash_47 rfl (lv_at hl 1 rfl) ?_
          refine lv_aload_n X.1 X.2.1 d_M_hash_48 rfl (lv_at hl 0 rfl) ?_
          refine m_get X Y 7 (by decide) lk_block (gf_block _ _ _) rfl d_M_hash_49 ?_
          refine lv_iconst (v := iI 4) X.1 X.2.1 d_M_hash_52 (by decide) ?_
          refine lv_iload_n X.1 X.2.1 d_M_hash_53 rfl (lv_at hl 1 rfl) ?_
          refine z_imul X.1 X.2.1 d_M_hash_54 ?_
          refine r_bald X Y S (aw_block _ _ _ _ _ _ _) rfl (by omega) (show 4 * z106 < ((64 : Nat) : Int) by omega) (by omega) d_M_hash_55 (fun z204 q204 l204 u204 => ?_)
          refine lv_bipush (v := iI 24) X.1 X.2.1 d_M_hash_56 (by decide) ?_
          refine lv_ishl X.1 X.2.1 d_M_hash_58 ?_
          refine t_u (fun z205 l205 u205 => ?_)
          refine lv_aload_n X.1 X.2.1 d_M_hash_59 rfl (lv_at hl 0 rfl) ?_
          refine m_get X Y 7 (by decide) lk_block (gf_block _ _ _) rfl d_M_hash_60 ?_
          refine lv_iconst (v := iI 4) X.1 X.2.1 d_M_hash_63 (by decide) ?_
          refine lv_iload_n X.1 X.2.1 d_M_hash_64 rfl (lv_at hl 1 rfl) ?_
          refine z_imul X.1 X.2.1 d_M_hash_65 ?_
          refine lv_iconst (v := iI 1) X.1 X.2.1 d_M_hash_66 (by decide) ?_
          refine z_iadd X.1 X.2.1 d_M_hash_67 ?_
          refine r_bald X Y S (aw_block _ _ _ _ _ _ _) rfl (by omega) (show (4 * z106) + 1 < ((64 : Nat) : Int) by omega) (by omega) d_M_hash_68 (fun z206 q206 l206 u206 => ?_)
          refine lv_sipush (v := iI 255) X.1 X.2.1 d_M_hash_69 (by decide) ?_
          refine z_iand X.1 X.2.1 (by omega) (by omega) d_M_hash_72 (fun z207 l207 u207 => ?_)
          refine lv_bipush (v := iI 16) X.1 X.2.1 d_M_hash_73 (by decide) ?_
          refine lv_ishl X.1 X.2.1 d_M_hash_75 ?_
          refine t_u (fun z208 l208 u208 => ?_)
          refine lv_ior X.1 X.2.1 d_M_hash_76 ?_
          refine t_u (fun z209 l209 u209 => ?_)
          refine lv_aload_n X.1 X.2.1 d_M_hash_77 rfl (lv_at hl 0 rfl) ?_
          refine m_get X Y 7 (by decide) lk_block (gf_block _ _ _) rfl d_M_hash_78 ?_
          refine lv_iconst (v := iI 4) X.1 X.2.1 d_M_hash_81 (by decide) ?_
          refine lv_iload_n X.1 X.2.1 d_M_hash_82 rfl (lv_at hl 1 rfl) ?_
          refine z_imul X.1 X.2.1 d_M_hash_83 ?_
          refine lv_iconst (v := iI 2) X.1 X.2.1 d_M_hash_84 (by decide) ?_
          refine z_iadd X.1 X.2.1 d_M_hash_85 ?_
          refine r_bald X Y S (aw_block _ _ _ _ _ _ _) rfl (by omega) (show (4 * z106) + 2 < ((64 : Nat) : Int) by omega) (by omega) d_M_hash_86 (fun z210 q210 l210 u210 => ?_)
          refine lv_sipush (v := iI 255) X.1 X.2.1 d_M_hash_87 (by decide) ?_
          refine z_iand X.1 X.2.1 (by omega) (by omega) d_M_hash_90 (fun z211 l211 u211 => ?_)
          refine lv_bipush (v := iI 8) X.1 X.2.1 d_M_hash_91 (by decide) ?_
          refine lv_ishl X.1 X.2.1 d_M_hash_93 ?_
          refine t_u (fun z212 l212 u212 => ?_)
          refine lv_ior X.1 X.2.1 d_M_hash_94 ?_
          refine t_u (fun z213 l213 u213 => ?_)
          refine lv_aload_n X.1 X.2.1 d_M_hash_95 rfl (lv_at hl 0 rfl) ?_
          refine m_get X Y 7 (by decide) lk_block (gf_block _ _ _) rfl d_M_hash_96 ?_
          refine lv_iconst (v := iI 4) X.1 X.2.1 d_M_hash_99 (by decide) ?_
          refine lv_iload_n X.1 X.2.1 d_M_hash_100 rfl (lv_at hl 1 rfl) ?_
          refine z_imul X.1 X.2.1 d_M_hash_101 ?_
          refine lv_iconst (v := iI 3) X.1 X.2.1 d_M_hash_102 (by decide) ?_
          refine z_iadd X.1 X.2.1 d_M_hash_103 ?_
          refine r_bald X Y S (aw_block _ _ _ _ _ _ _) rfl (by omega) (show (4 * z106) + 3 < ((64 : Nat) : Int) by omega) (by omega) d_M_hash_104 (fun z214 q214 l214 u214 => ?_)
          refine lv_sipush (v := iI 255) X.1 X.2.1 d_M_hash_105 (by decide) ?_
          refine z_iand X.1 X.2.1 (by omega) (by omega) d_M_hash_108 (fun z215 l215 u215 => ?_)
          refine lv_ior X.1 X.2.1 d_M_hash_109 ?_
          refine t_u (fun z216 l216 u216 => ?_)
          refine r_iast X Y S (aw_w _ _ _ _ _ _ _) (sw_w _ _ _ _ _ _ _) rfl ⟨(show ((-2147483648) : Int) ≤ z216 by omega), (show z216 ≤ (2147483647 : Int) by omega)⟩ ⟨by omega, by omega⟩ (by omega) (show z106 < ((80 : Nat) : Int) by omega) (by omega) (by decide) d_M_hash_110 (fun B217 H locs Y S w217 => ?_)
          refine lv_iinc (v := iI (z106 + 1)) (lv' := [(2, .int (iI (z106 + 1))), (0, .ref h)]) X.1 X.2.1 d_M_hash_111 hl (k := 1) rfl ((iI_add _ _).trans (congrArg iI (by omega))) (by decide) rfl (fun ls hl => ?_)
          refine lv_goto (tgt := 37) X.1 X.2.1 d_M_hash_114 (by decide) ?_
          exact ih109 ((16 - (z106 + 1)).toNat) (by omega) (z106 + 1) I105 J105 B217 G105 _ _ _ rfl (by omega) (by omega) e107 Y S (lv_sub hl [1, 0] rfl)
    refine lv_istore_n (lv' := [(2, .int (iI 0)), (0, .ref h), (1, .int (iI a1))]) X.1 X.2.1 d_M_hash_36 rfl hl (by decide) rfl (fun ls hl => ?_)
    exact J108 _ 0 I103 J B102 G _ _ _ rfl (by omega) (by omega) w103.1 Y S (lv_sub hl [1, 0] rfl)
  · exact m_retv hQQ X Y hr hlk ⟨S, ((w103.1).trans (congrArg iI (show (hn + 1 : Int) = hn + 1 by omega)))⟩ d_M_hash_34
set_option maxHeartbeats 4000000 in
set_option maxRecDepth 100000 in
theorem r_M_macBegin (l : Launch) (D : mD) (E : mE) (h : Nat) (q : Nat → Nat) (sz : Nat) (I : Nat → Int32) (J : Nat → Int64) (B : Nat → Nat → Int32) (G : Nat → Nat → Int64) (hT : rT I B) : Met l y_M_macBegin (k_M_macBegin :: lw_tg) (mR 3 111) (va_Pc [.ref h] (mPre D E h q (I, J, B, G) sz)) (va_Qv (rPv [8] [5, 6, 7] I B (fun (u : mS) => u.1 8 = iI (64))) (mPost D E h q (mA E h q sz)) (mA E h q sz)) 0 0 (mA E h q sz) := by
  refine m_enter (by decide) rfl (Nat.le_of_ble_eq_true rfl) (fun p e s m below meth c ls AV QQ H locs hQQ X Y hZ hA hr hlk hml hl => ?_)
  have Y : mH D E (mA E h q sz) s.heap h q I J B G H locs := Y
  have S : rS [8] [5, 6, 7] I B I B := rS_rf hT
  have hl : lv_has ls 2 [(0, .ref h)] := hl
  refine lv_aload_n X.1 X.2.1 d_M_macBegin_0 rfl (lv_at hl 0 rfl) ?_
  refine r_nv (m_run (As := []) (rest := []) (n := 0) X Y hZ hA hml hl.1 (r_M_begin l D E h q H.size I J B G S.1) kl_M_begin ks_M_begin kx_M_begin ki_M_begin ini_M hd_M_begin ⟨Nat.le_of_ble_eq_true rfl, Nat.le_of_ble_eq_true rfl⟩ rfl (Nat.le_of_ble_eq_true rfl) d_M_macBegin_1 ⟨Nat.le_refl _, Nat.le_refl _⟩) X Y hA S (by decide) (by decide) (fun u H locs Y S s101 p101 => ?_)
  obtain ⟨I101, J101, B101, G101⟩ := u
  dsimp only at Y S s101 p101
  have x101 := p101
  refine lv_iconst (v := iI 0) X.1 X.2.1 d_M_macBegin_4 (by decide) ?_
  have J106 : ∀ (n108 : Nat) (z103 : Int) (z104 : Int) (I102 : Nat → Int32) (J102 : Nat → Int64) (B102 : Nat → Nat → Int32) (G102 : Nat → Nat → Int64) (H : Heap) (locs : List Loc) (ls : Array Slot), (64 - z103).toNat = n108 → (0 ≤ z103) → (z103 ≤ 64) → (I102 8 = iI z104) → (0 ≤ z104) → (z104 ≤ 1000000) → (z104 = 0 + (z103 - 0)) → mH D E (mA E h q sz) s.heap h q I102 J102 B102 G102 H locs → rS [8] [5, 6, 7] I B I102 B102 → lv_has ls 2 [(0, .ref h), (1, .int (iI z103))] → W p l e (mR 3 111) s m AV below meth c H locs 0 0 QQ (F0 m 6 ls []) := by
    intro n108
    induction n108 using Nat.strongRecOn with
    | ind n108 ih107 =>
      intro z103 z104 I102 J102 B102 G102 H locs ls hm109 l103 u103 e104 l104 u104 i105 Y S hl
      refine lv_iload_n X.1 X.2.1 d_M_macBegin_6 rfl (lv_at hl 1 rfl) ?_
      refine lv_bipush (v := iI 64) X.1 X.2.1 d_M_macBegin_7 (by decide) ?_
      refine z_icmp_ge (tgt := 31) X.1 X.2.1 d_M_macBegin_9 (by decide) ⟨by omega, by omega⟩ ⟨by omega, by omega⟩ (fun h110 => ?_) (fun h110 => ?_)
      · exact m_retv hQQ X Y hr hlk ⟨S, ((e104).trans (congrArg iI (show (z104 : Int) = 64 by omega)))⟩ d_M_macBegin_31
      · refine lv_aload_n X.1 X.2.1 d_M_macBegin_12 rfl (lv_at hl 0 rfl) ?_
        refine lv_aload_n X.1 X.2.1 d_M_macBegin_13 rfl (lv_at hl 0 rfl) ?_
        refine m_get X Y 11 (by decide) lk_macKey (gf_macKey _ _ _) rfl d_M_macBegin_14 ?_
        refine lv_iload_n X.1 X.2.1 d_M_macBegin_17 rfl (lv_at hl 1 rfl) ?_
        refine r_bald X Y S (aw_macKey _ _ _ _ _ _ _) rfl (by omega) (show z103 < ((64 : Nat) : Int) by omega) (by omega) d_M_macBegin_18 (fun z111 q111 l111 u111 => ?_)
        refine lv_bipush (v := iI 54) X.1 X.2.1 d_M_macBegin_19 (by decide) ?_
        refine lv_ixor X.1 X.2.1 d_M_macBegin_21 ?_
        refine t_u (fun z112 l112 u112 => ?_)
        refine r_nv (m_run (As := [.int (iI z112)]) (rest := []) (n := 1) X Y hZ hA hml hl.1 (r_M_hash l D E h q H.size I102 J102 B102 G102 z112 (by omega) (by omega) S.1 z104 e104 (by omega) (by omega)) kl_M_hash ks_M_hash kx_M_hash ki_M_hash ini_M hd_M_hash ⟨Nat.le_of_ble_eq_true rfl, Nat.le_of_ble_eq_true rfl⟩ rfl (Nat.le_of_ble_eq_true rfl) d_M_macBegin_22 ⟨Nat.le_refl _, Nat.le_refl _⟩) X Y hA S (by decide) (by decide) (fun u H locs Y S s113 p113 => ?_)
        obtain ⟨I113, J113, B113, G113⟩ := u
        dsimp only at Y S s113 p113
        have x113 := p113
        refine lv_iinc (v := iI (z103 + 1)) (lv' := [(1, .int (iI (z103 + 1))), (0, .ref h)]) X.1 X.2.1 d_M_macBegin_25 hl (k := 1) rfl ((iI_add _ _).trans (congrArg iI (by omega))) (by decide) rfl (fun ls hl => ?_)
        refine lv_goto (tgt := 6) X.1 X.2.1 d_M_macBegin_28 (by decide) ?_
        exact ih107 ((64 - (z103 + 1)).toNat) (by omega) (z103 + 1) (z104 + 1) I113 J113 B113 G113 _ _ _ rfl (by omega) (by omega) (x113.trans (congrArg iI (show (z104 + 1 : Int) = z104 + 1 by omega))) (by omega) (by omega) (by omega) Y S (lv_sub hl [1, 0] rfl)
  refine lv_istore_n (lv' := [(1, .int (iI 0)), (0, .ref h)]) X.1 X.2.1 d_M_macBegin_5 rfl hl (by decide) rfl (fun ls hl => ?_)
  exact J106 _ 0 0 I101 J101 B101 G101 _ _ _ rfl (by omega) (by omega) x101 (by omega) (by omega) (by omega) Y S (lv_sub hl [1, 0] rfl)
set_option maxHeartbeats 4000000 in
set_option maxRecDepth 100000 in
theorem r_M_finish_inner (l : Launch) (D : mD) (E : mE) (h : Nat) (q : Nat → Nat) (sz : Nat) (I : Nat → Int32) (J : Nat → Int64) (B : Nat → Nat → Int32) (G : Nat → Nat → Int64) (hT : rT I B) (hn : Int) (ghn : I 8 = iI hn) (lhn : 0 ≤ hn) (uhn : hn ≤ 900000) : Met l y_M_finish (k_M_finish :: lw_tg) (mR 3 111) (va_Pc [.ref h, .ref (q 9)] (mPre D E h q (I, J, B, G) sz)) (va_Qv (rPv [8] [5, 6, 7, 9] I B (fun (u : mS) => True)) (mPost D E h q (mA E h q sz)) (mA E h q sz)) 0 0 (mA E h q sz) := by
  refine m_enter (by decide) rfl (Nat.le_of_ble_eq_true rfl) (fun p e s m below meth c ls AV QQ H locs hQQ X Y hZ hA hr hlk hml hl => ?_)
  have Y : mH D E (mA E h q sz) s.heap h q I J B G H locs := Y
  have S : rS [8] [5, 6, 7, 9] I B I B := rS_rf hT
  have hl : lv_has ls 5 [(0, .ref h), (1, .ref ((q 9)))] := hl
  refine lv_ldc2 (v := (8)) X.1 X.2.1 X.2.2.2.1 (X.2.2.1 _ cl_M_368) d_M_finish_0 ?_
  refine lv_aload_n X.1 X.2.1 d_M_finish_3 rfl (lv_at hl 0 rfl) ?_
  refine r_get0 X Y (by decide) lk_hashed (gf_hashed _ _ _) rfl ghn d_M_finish_4 ?_
  refine lv_i2l X.1 X.2.1 d_M_finish_7 rfl ?_
  refine t_anyl (fun v101 => ?_)
  refine lv_lmul X.1 X.2.1 d_M_finish_8 ?_
  refine t_anyl (fun v102 => ?_)
  refine lv_lstore_n (lv' := [(2, .long v102), (0, .ref h), (1, .ref ((q 9)))]) X.1 X.2.1 d_M_finish_9 rfl hl (by decide) rfl (fun ls hl => ?_)
  refine lv_aload_n X.1 X.2.1 d_M_finish_10 rfl (lv_at hl 1 rfl) ?_
  refine lv_sipush (v := iI 128) X.1 X.2.1 d_M_finish_11 (by decide) ?_
  have J107 : ∀ (n109 : Nat) (z104 : Int) (I103 : Nat → Int32) (J103 : Nat → Int64) (B103 : Nat → Nat → Int32) (G103 : Nat → Nat → Int64) (H : Heap) (locs : List Loc) (ls : Array Slot), ((56 - z104) % 64).toNat = n109 → (I103 8 = iI z104) → (0 ≤ z104) → (z104 ≤ 1000000) → (z104 + (56 - z104) % 64 ≤ hn + 64) → (hn + 1 ≤ z104) → mH D E (mA E h q sz) s.heap h q I103 J103 B103 G103 H locs → rS [8] [5, 6, 7, 9] I B I103 B103 → lv_has ls 5 [(0, .ref h), (1, .ref ((q 9))), (2, .long v102)] → W p l e (mR 3 111) s m AV below meth c H locs 0 0 QQ (F0 m 17 ls []) := by
    intro n109
    induction n109 using Nat.strongRecOn with
    | ind n109 ih108 =>
      intro z104 I103 J103 B103 G103 H locs ls hm110 e104 l104 u104 i105 i106 Y S hl
      refine lv_aload_n X.1 X.2.1 d_M_finish_17 rfl (lv_at hl 0 rfl) ?_
      refine r_get0 X Y (by decide) lk_hashed (gf_hashed _ _ _) rfl e104 d_M_finish_18 ?_
      refine lv_bipush (v := iI 64) X.1 X.2.1 d_M_finish_21 (by decide) ?_
      refine z_irem X.1 X.2.1 (by omega) (by omega) ⟨by decide, by decide⟩ d_M_finish_23 ?_
      refine lv_bipush (v := iI 56) X.1 X.2.1 d_M_finish_24 (by decide) ?_
      refine z_icmp_eq (tgt := 37) X.1 X.2.1 d_M_finish_26 (by decide) ⟨by omega, by omega⟩ ⟨by omega, by omega⟩ (fun h111 => ?_) (fun h111 => ?_)
      · refine lv_bipush (v := iI 7) X.1 X.2.1 d_M_finish_37 (by decide) ?_
        have J116 : ∀ (n118 : Nat) (z113 : Int) (z114 : Int) (I112 : Nat → Int32) (J112 : Nat → Int64) (B112 : Nat → Nat → Int32) (G112 : Nat → Nat → Int64) (H : Heap) (locs : List Loc) (ls : Array Slot), (z113 - (-1)).toNat = n118 → ((-1) ≤ z113) → (z113 ≤ 7) → (I112 8 = iI z114) → (0 ≤ z114) → (z114 ≤ 1000000) → (z114 = z104 + (7 - z113)) → mH D E (mA E h q sz) s.heap h q I112 J112 B112 G112 H locs → rS [8] [5, 6, 7, 9] I B I112 B112 → lv_has ls 5 [(0, .ref h), (1, .ref ((q 9))), (2, .long v102), (4, .int (iI z113))] → W p l e (mR 3 111) s m AV below meth c H locs 0 0 QQ (F0 m 41 ls []) := by
          intro n118
          induction n118 using Nat.strongRecOn with
          | ind n118 ih117 =>
            intro z113 z114 I112 J112 B112 G112 H locs ls hm119 l113 u113 e114 l114 u114 i115 Y S hl
            refine lv_iload X.1 X.2.1 d_M_finish_41 (lv_at hl 3 rfl) ?_
            refine z_if_lt (tgt := 64) X.1 X.2.1 d_M_finish_43 (by decide) ⟨by omega, by omega⟩ (fun h120 => ?_) (fun h120 => ?_)
            · refine lv_iconst (v := iI 0) X.1 X.2.1 d_M_finish_64 (by decide) ?_
              have J124 : ∀ (n126 : Nat) (z122 : Int) (z123 : Int) (I121 : Nat → Int32) (J121 : Nat → Int64) (B121 : Nat → Nat → Int32) (G121 : Nat → Nat → Int64) (H : Heap) (locs : List Loc) (ls : Array Slot), (20 - z122).toNat = n126 → (0 ≤ z122) → (z122 ≤ 20) → (I121 8 = iI z123) → (0 ≤ z123) → (z123 ≤ 1000000) → mH D E (mA E h q sz) s.heap h q I121 J121 B121 G121 H locs → rS [8] [5, 6, 7, 9] I B I121 B121 → lv_has ls 5 [(0, .ref h), (1, .ref ((q 9))), (4, .int (iI z122))] → W p l e (mR 3 111) s m AV below meth c H locs 0 0 QQ (F0 m 67 ls []) := by
                intro n126
                induction n126 using Nat.strongRecOn with
                | ind n126 ih125 =>
                  intro z122 z123 I121 J121 B121 G121 H locs ls hm127 l122 u122 e123 l123 u123 Y S hl
                  refine lv_iload X.1 X.2.1 d_M_finish_67 (lv_at hl 2 rfl) ?_
                  refine lv_bipush (v := iI 20) X.1 X.2.1 d_M_finish_69 (by decide) ?_
                  refine z_icmp_ge (tgt := 105) X.1 X.2.1 d_M_finish_71 (by decide) ⟨by omega, by omega⟩ ⟨by omega, by omega⟩ (fun h128 => ?_) (fun h128 => ?_)
                  · exact m_retv hQQ X Y hr hlk ⟨S, trivial⟩ d_M_finish_105
                  · refine lv_aload_n X.1 X.2.1 d_M_finish_74 rfl (lv_at hl 1 rfl) ?_
                    refine lv_iload X.1 X.2.1 d_M_finish_75 (lv_at hl 2 rfl) ?_
                    refine lv_aload_n X.1 X.2.1 d_M_finish_77 rfl (lv_at hl 0 rfl) ?_
                    refine m_get X Y 5 (by decide) lk_h (gf_h _ _ _) rfl d_M_finish_78 ?_
                    refine lv_iload X.1 X.2.1 d_M_finish_81 (lv_at hl 2 rfl) ?_
                    refine lv_iconst (v := iI 4) X.1 X.2.1 d_M_finish_83 (by decide) ?_
                    refine z_idiv X.1 X.2.1 (by omega) (by omega) ⟨by decide, by decide⟩ d_M_finish_84 ?_
                    refine r_iald X Y S (aw_h _ _ _ _ _ _ _) rfl (by omega) (show z122 / 4 < ((5 : Nat) : Int) by omega) (by omega) d_M_finish_85 (fun z129 q129 l129 u129 => ?_)
                    refine lv_bipush (v := iI 24) X.1 X.2.1 d_M_finish_86 (by decide) ?_
                    refine lv_bipush (v := iI 8) X.1 X.2.1 d_M_finish_88 (by decide) ?_
                    refine lv_iload X.1 X.2.1 d_M_finish_90 (lv_at hl 2 rfl) ?_
                    refine lv_iconst (v := iI 4) X.1 X.2.1 d_M_finish_92 (by decide) ?_
                    refine z_irem X.1 X.2.1 (by omega) (by omega) ⟨by decide, by decide⟩ d_M_finish_93 ?_
                    refine z_imul X.1 X.2.1 d_M_finish_94 ?_
                    refine z_isub X.1 X.2.1 d_M_finish_95 ?_
                    refine lv_iushr X.1 X.2.1 d_M_finish_96 rfl ?_
                    refine t_u (fun z130 l130 u130 => ?_)
                    refine lv_i2b X.1 X.2.1 d_M_finish_97 rfl ?_
                    refine t_u (fun z131 l131 u131 => ?_)
                    refine r_bast X Y S (aw_inner _ _ _ _ _ _ _) (sw_inner _ _ _ _ _ _ _) rfl (by omega) (show z122 < ((20 : Nat) : Int) by omega) (by omega) (by decide) d_M_finish_98 (fun B132 H locs Y S w132 => ?_)
                    refine lv_iinc (v := iI (z122 + 1)) (lv' := [(4, .int (iI (z122 + 1))), (0, .ref h), (1, .ref ((q 9)))]) X.1 X.2.1 d_M_finish_99 hl (k := 2) rfl ((iI_add _ _).trans (congrArg iI (by omega))) (by decide) rfl (fun ls hl => ?_)
                    refine lv_goto (tgt := 67) X.1 X.2.1 d_M_finish_102 (by decide) ?_
                    exact ih125 ((20 - (z122 + 1)).toNat) (by omega) (z122 + 1) z123 I121 J121 B132 G121 _ _ _ rfl (by omega) (by omega) e123 (by omega) (by omega) Y S (lv_sub hl [1, 2, 0] rfl)
              refine lv_istore (lv' := [(4, .int (iI 0)), (0, .ref h), (1, .ref ((q 9))), (2, .long v102)]) X.1 X.2.1 d_M_finish_65 hl (by decide) rfl (fun ls hl => ?_)
              exact J124 _ 0 z114 I112 J112 B112 G112 _ _ _ rfl (by omega) (by omega) e114 (by omega) (by omega) Y S (lv_sub hl [1, 2, 0] rfl)
            · refine lv_aload_n X.1 X.2.1 d_M_finish_46 rfl (lv_at hl 0 rfl) ?_
              refine lv_lload_n X.1 X.2.1 d_M_finish_47 rfl (lv_at hl 2 rfl) ?_
              refine lv_bipush (v := iI 8) X.1 X.2.1 d_M_finish_48 (by decide) ?_
              refine lv_iload X.1 X.2.1 d_M_finish_50 (lv_at hl 3 rfl) ?_
              refine z_imul X.1 X.2.1 d_M_finish_52 ?_
              refine lv_lushr X.1 X.2.1 d_M_finish_53 rfl ?_
              refine t_anyl (fun v133 => ?_)
              refine lv_l2i X.1 X.2.1 d_M_finish_54 rfl ?_
              refine t_u (fun z134 l134 u134 => ?_)
              refine r_nv (m_run (As := [.int (iI z134)]) (rest := []) (n := 1) X Y hZ hA hml hl.1 (r_M_hash l D E h q H.size I112 J112 B112 G112 z134 (by omega) (by omega) S.1 z114 e114 (by omega) (by omega)) kl_M_hash ks_M_hash kx_M_hash ki_M_hash ini_M hd_M_hash ⟨Nat.le_of_ble_eq_true rfl, Nat.le_of_ble_eq_true rfl⟩ rfl (Nat.le_of_ble_eq_true rfl) d_M_finish_55 ⟨Nat.le_refl _, Nat.le_refl _⟩) X Y hA S (by decide) (by decide) (fun u H locs Y S s135 p135 => ?_)
              obtain ⟨I135, J135, B135, G135⟩ := u
              dsimp only at Y S s135 p135
              have x135 := p135
              refine lv_iinc (v := iI (z113 - 1)) (lv' := [(4, .int (iI (z113 - 1))), (0, .ref h), (1, .ref ((q 9))), (2, .long v102)]) X.1 X.2.1 d_M_finish_58 hl (k := 3) rfl ((iI_add _ _).trans (congrArg iI (by omega))) (by decide) rfl (fun ls hl => ?_)
              refine lv_goto (tgt := 41) X.1 X.2.1 d_M_finish_61 (by decide) ?_
              exact ih117 (((z113 - 1) - (-1)).toNat) (by omega) (z113 - 1) (z114 + 1) I135 J135 B135 G135 _ _ _ rfl (by omega) (by omega) (x135.trans (congrArg iI (show (z114 + 1 : Int) = z114 + 1 by omega))) (by omega) (by omega) (by omega) Y S (lv_sub hl [1, 2, 3, 0] rfl)
        refine lv_istore (lv' := [(4, .int (iI 7)), (0, .ref h), (1, .ref ((q 9))), (2, .long v102)]) X.1 X.2.1 d_M_finish_39 hl (by decide) rfl (fun ls hl => ?_)
        exact J116 _ 7 z104 I103 J103 B103 G103 _ _ _ rfl (by omega) (by omega) e104 (by omega) (by omega) (by omega) Y S (lv_sub hl [1, 2, 3, 0] rfl)
      · refine lv_aload_n X.1 X.2.1 d_M_finish_29 rfl (lv_at hl 0 rfl) ?_
        refine lv_iconst (v := iI 0) X.1 X.2.1 d_M_finish_30 (by decide) ?_
        refine r_nv (m_run (As := [.int (iI 0)]) (rest := []) (n := 1) X Y hZ hA hml hl.1 (r_M_hash l D E h q H.size I103 J103 B103 G103 0 (by omega) (by omega) S.1 z104 e104 (by omega) (by omega)) kl_M_hash ks_M_hash kx_M_hash ki_M_hash ini_M hd_M_hash ⟨Nat.le_of_ble_eq_true rfl, Nat.le_of_ble_eq_true rfl⟩ rfl (Nat.le_of_ble_eq_true rfl) d_M_finish_31 ⟨Nat.le_refl _, Nat.le_refl _⟩) X Y hA S (by decide) (by decide) (fun u H locs Y S s136 p136 => ?_)
        obtain ⟨I136, J136, B136, G136⟩ := u
        dsimp only at Y S s136 p136
        have x136 := p136
        refine lv_goto (tgt := 17) X.1 X.2.1 d_M_finish_34 (by decide) ?_
        exact ih108 (((56 - (z104 + 1)) % 64).toNat) (by omega) (z104 + 1) I136 J136 B136 G136 _ _ _ rfl (x136.trans (congrArg iI (show (z104 + 1 : Int) = z104 + 1 by omega))) (by omega) (by omega) (by omega) (by omega) Y S (lv_sub hl [0, 1, 2] rfl)
  refine r_nv (m_run (As := [.int (iI 128)]) (rest := []) (n := 1) X Y hZ hA hml hl.1 (r_M_hash l D E h q H.size I J B G 128 (by omega) (by omega) S.1 hn ghn (by omega) (by omega)) kl_M_hash ks_M_hash kx_M_hash ki_M_hash ini_M hd_M_hash ⟨Nat.le_of_ble_eq_true rfl, Nat.le_of_ble_eq_true rfl⟩ rfl (Nat.le_of_ble_eq_true rfl) d_M_finish_14 ⟨Nat.le_refl _, Nat.le_refl _⟩) X Y hA S (by decide) (by decide) (fun u H locs Y S s137 p137 => ?_)
  obtain ⟨I137, J137, B137, G137⟩ := u
  dsimp only at Y S s137 p137
  have x137 := p137
  exact J107 _ (hn + 1) I137 J137 B137 G137 _ _ _ rfl (x137.trans (congrArg iI (show (hn + 1 : Int) = hn + 1 by omega))) (by omega) (by omega) (by omega) (by omega) Y S (lv_sub hl [1, 2, 0] rfl)
set_option maxHeartbeats 4000000 in
set_option maxRecDepth 100000 in
theorem r_M_finish_mac (l : Launch) (D : mD) (E : mE) (h : Nat) (q : Nat → Nat) (sz : Nat) (I : Nat → Int32) (J : Nat → Int64) (B : Nat → Nat → Int32) (G : Nat → Nat → Int64) (hT : rT I B) (hn : Int) (ghn : I 8 = iI hn) (lhn : 0 ≤ hn) (uhn : hn ≤ 900000) : Met l y_M_finish (k_M_finish :: lw_tg) (mR 3 111) (va_Pc [.ref h, .ref (q 10)] (mPre D E h q (I, J, B, G) sz)) (va_Qv (rPv [8] [5, 6, 7, 10] I B (fun (u : mS) => True)) (mPost D E h q (mA E h q sz)) (mA E h q sz)) 0 0 (mA E h q sz) := by
  refine m_enter (by decide) rfl (Nat.le_of_ble_eq_true rfl) (fun p e s m below meth c ls AV QQ H locs hQQ X Y hZ hA hr hlk hml hl => ?_)
  have Y : mH D E (mA E h q sz) s.heap h q I J B G H locs := Y
  have S : rS [8] [5, 6, 7, 10] I B I B := rS_rf hT
  have hl : lv_has ls 5 [(0, .ref h), (1, .ref ((q 10)))] := hl
  refine lv_ldc2 (v := (8)) X.1 X.2.1 X.2.2.2.1 (X.2.2.1 _ cl_M_368) d_M_finish_0 ?_
  refine lv_aload_n X.1 X.2.1 d_M_finish_3 rfl (lv_at hl 0 rfl) ?_
  refine r_get0 X Y (by decide) lk_hashed (gf_hashed _ _ _) rfl ghn d_M_finish_4 ?_
  refine lv_i2l X.1 X.2.1 d_M_finish_7 rfl ?_
  refine t_anyl (fun v101 => ?_)
  refine lv_lmul X.1 X.2.1 d_M_finish_8 ?_
  refine t_anyl (fun v102 => ?_)
  refine lv_lstore_n (lv' := [(2, .long v102), (0, .ref h), (1, .ref ((q 10)))]) X.1 X.2.1 d_M_finish_9 rfl hl (by decide) rfl (fun ls hl => ?_)
  refine lv_aload_n X.1 X.2.1 d_M_finish_10 rfl (lv_at hl 1 rfl) ?_
  refine lv_sipush (v := iI 128) X.1 X.2.1 d_M_finish_11 (by decide) ?_
  have J107 : ∀ (n109 : Nat) (z104 : Int) (I103 : Nat → Int32) (J103 : Nat → Int64) (B103 : Nat → Nat → Int32) (G103 : Nat → Nat → Int64) (H : Heap) (locs : List Loc) (ls : Array Slot), ((56 - z104) % 64).toNat = n109 → (I103 8 = iI z104) → (0 ≤ z104) → (z104 ≤ 1000000) → (z104 + (56 - z104) % 64 ≤ hn + 64) → (hn + 1 ≤ z104) → mH D E (mA E h q sz) s.heap h q I103 J103 B103 G103 H locs → rS [8] [5, 6, 7, 10] I B I103 B103 → lv_has ls 5 [(0, .ref h), (1, .ref ((q 10))), (2, .long v102)] → W p l e (mR 3 111) s m AV below meth c H locs 0 0 QQ (F0 m 17 ls []) := by
    intro n109
    induction n109 using Nat.strongRecOn with
    | ind n109 ih108 =>
      intro z104 I103 J103 B103 G103 H locs ls hm110 e104 l104 u104 i105 i106 Y S hl
      refine lv_aload_n X.1 X.2.1 d_M_finish_17 rfl (lv_at hl 0 rfl) ?_
      refine r_get0 X Y (by decide) lk_hashed (gf_hashed _ _ _) rfl e104 d_M_finish_18 ?_
      refine lv_bipush (v := iI 64) X.1 X.2.1 d_M_finish_21 (by decide) ?_
      refine z_irem X.1 X.2.1 (by omega) (by omega) ⟨by decide, by decide⟩ d_M_finish_23 ?_
      refine lv_bipush (v := iI 56) X.1 X.2.1 d_M_finish_24 (by decide) ?_
      refine z_icmp_eq (tgt := 37) X.1 X.2.1 d_M_finish_26 (by decide) ⟨by omega, by omega⟩ ⟨by omega, by omega⟩ (fun h111 => ?_) (fun h111 => ?_)
      · refine lv_bipush (v := iI 7) X.1 X.2.1 d_M_finish_37 (by decide) ?_
        have J116 : ∀ (n118 : Nat) (z113 : Int) (z114 : Int) (I112 : Nat → Int32) (J112 : Nat → Int64) (B112 : Nat → Nat → Int32) (G112 : Nat → Nat → Int64) (H : Heap) (locs : List Loc) (ls : Array Slot), (z113 - (-1)).toNat = n118 → ((-1) ≤ z113) → (z113 ≤ 7) → (I112 8 = iI z114) → (0 ≤ z114) → (z114 ≤ 1000000) → (z114 = z104 + (7 - z113)) → mH D E (mA E h q sz) s.heap h q I112 J112 B112 G112 H locs → rS [8] [5, 6, 7, 10] I B I112 B112 → lv_has ls 5 [(0, .ref h), (1, .ref ((q 10))), (2, .long v102), (4, .int (iI z113))] → W p l e (mR 3 111) s m AV below meth c H locs 0 0 QQ (F0 m 41 ls []) := by
          intro n118
          induction n118 using Nat.strongRecOn with
          | ind n118 ih117 =>
            intro z113 z114 I112 J112 B112 G112 H locs ls hm119 l113 u113 e114 l114 u114 i115 Y S hl
            refine lv_iload X.1 X.2.1 d_M_finish_41 (lv_at hl 3 rfl) ?_
            refine z_if_lt (tgt := 64) X.1 X.2.1 d_M_finish_43 (by decide) ⟨by omega, by omega⟩ (fun h120 => ?_) (fun h120 => ?_)
            · refine lv_iconst (v := iI 0) X.1 X.2.1 d_M_finish_64 (by decide) ?_
              have J124 : ∀ (n126 : Nat) (z122 : Int) (z123 : Int) (I121 : Nat → Int32) (J121 : Nat → Int64) (B121 : Nat → Nat → Int32) (G121 : Nat → Nat → Int64) (H : Heap) (locs : List Loc) (ls : Array Slot), (20 - z122).toNat = n126 → (0 ≤ z122) → (z122 ≤ 20) → (I121 8 = iI z123) → (0 ≤ z123) → (z123 ≤ 1000000) → mH D E (mA E h q sz) s.heap h q I121 J121 B121 G121 H locs → rS [8] [5, 6, 7, 10] I B I121 B121 → lv_has ls 5 [(0, .ref h), (1, .ref ((q 10))), (4, .int (iI z122))] → W p l e (mR 3 111) s m AV below meth c H locs 0 0 QQ (F0 m 67 ls []) := by
                intro n126
                induction n126 using Nat.strongRecOn with
                | ind n126 ih125 =>
                  intro z122 z123 I121 J121 B121 G121 H locs ls hm127 l122 u122 e123 l123 u123 Y S hl
                  refine lv_iload X.1 X.2.1 d_M_finish_67 (lv_at hl 2 rfl) ?_
                  refine lv_bipush (v := iI 20) X.1 X.2.1 d_M_finish_69 (by decide) ?_
                  refine z_icmp_ge (tgt := 105) X.1 X.2.1 d_M_finish_71 (by decide) ⟨by omega, by omega⟩ ⟨by omega, by omega⟩ (fun h128 => ?_) (fun h128 => ?_)
                  · exact m_retv hQQ X Y hr hlk ⟨S, trivial⟩ d_M_finish_105
                  · refine lv_aload_n X.1 X.2.1 d_M_finish_74 rfl (lv_at hl 1 rfl) ?_
                    refine lv_iload X.1 X.2.1 d_M_finish_75 (lv_at hl 2 rfl) ?_
                    refine lv_aload_n X.1 X.2.1 d_M_finish_77 rfl (lv_at hl 0 rfl) ?_
                    refine m_get X Y 5 (by decide) lk_h (gf_h _ _ _) rfl d_M_finish_78 ?_
                    refine lv_iload X.1 X.2.1 d_M_finish_81 (lv_at hl 2 rfl) ?_
                    refine lv_iconst (v := iI 4) X.1 X.2.1 d_M_finish_83 (by decide) ?_
                    refine z_idiv X.1 X.2.1 (by omega) (by omega) ⟨by decide, by decide⟩ d_M_finish_84 ?_
                    refine r_iald X Y S (aw_h _ _ _ _ _ _ _) rfl (by omega) (show z122 / 4 < ((5 : Nat) : Int) by omega) (by omega) d_M_finish_85 (fun z129 q129 l129 u129 => ?_)
                    refine lv_bipush (v := iI 24) X.1 X.2.1 d_M_finish_86 (by decide) ?_
                    refine lv_bipush (v := iI 8) X.1 X.2.1 d_M_finish_88 (by decide) ?_
                    refine lv_iload X.1 X.2.1 d_M_finish_90 (lv_at hl 2 rfl) ?_
                    refine lv_iconst (v := iI 4) X.1 X.2.1 d_M_finish_92 (by decide) ?_
                    refine z_irem X.1 X.2.1 (by omega) (by omega) ⟨by decide, by decide⟩ d_M_finish_93 ?_
                    refine z_imul X.1 X.2.1 d_M_finish_94 ?_
                    refine z_isub X.1 X.2.1 d_M_finish_95 ?_
                    refine lv_iushr X.1 X.2.1 d_M_finish_96 rfl ?_
                    refine t_u (fun z130 l130 u130 => ?_)
                    refine lv_i2b X.1 X.2.1 d_M_finish_97 rfl ?_
                    refine t_u (fun z131 l131 u131 => ?_)
                    refine r_bast X Y S (aw_mac _ _ _ _ _ _ _) (sw_mac _ _ _ _ _ _ _) rfl (by omega) (show z122 < ((20 : Nat) : Int) by omega) (by omega) (by decide) d_M_finish_98 (fun B132 H locs Y S w132 => ?_)
                    refine lv_iinc (v := iI (z122 + 1)) (lv' := [(4, .int (iI (z122 + 1))), (0, .ref h), (1, .ref ((q 10)))]) X.1 X.2.1 d_M_finish_99 hl (k := 2) rfl ((iI_add _ _).trans (congrArg iI (by omega))) (by decide) rfl (fun ls hl => ?_)
                    refine lv_goto (tgt := 67) X.1 X.2.1 d_M_finish_102 (by decide) ?_
                    exact ih125 ((20 - (z122 + 1)).toNat) (by omega) (z122 + 1) z123 I121 J121 B132 G121 _ _ _ rfl (by omega) (by omega) e123 (by omega) (by omega) Y S (lv_sub hl [1, 2, 0] rfl)
              refine lv_istore (lv' := [(4, .int (iI 0)), (0, .ref h), (1, .ref ((q 10))), (2, .long v102)]) X.1 X.2.1 d_M_finish_65 hl (by decide) rfl (fun ls hl => ?_)
              exact J124 _ 0 z114 I112 J112 B112 G112 _ _ _ rfl (by omega) (by omega) e114 (by omega) (by omega) Y S (lv_sub hl [1, 2, 0] rfl)
            · refine lv_aload_n X.1 X.2.1 d_M_finish_46 rfl (lv_at hl 0 rfl) ?_
              refine lv_lload_n X.1 X.2.1 d_M_finish_47 rfl (lv_at hl 2 rfl) ?_
              refine lv_bipush (v := iI 8) X.1 X.2.1 d_M_finish_48 (by decide) ?_
              refine lv_iload X.1 X.2.1 d_M_finish_50 (lv_at hl 3 rfl) ?_
              refine z_imul X.1 X.2.1 d_M_finish_52 ?_
              refine lv_lushr X.1 X.2.1 d_M_finish_53 rfl ?_
              refine t_anyl (fun v133 => ?_)
              refine lv_l2i X.1 X.2.1 d_M_finish_54 rfl ?_
              refine t_u (fun z134 l134 u134 => ?_)
              refine r_nv (m_run (As := [.int (iI z134)]) (rest := []) (n := 1) X Y hZ hA hml hl.1 (r_M_hash l D E h q H.size I112 J112 B112 G112 z134 (by omega) (by omega) S.1 z114 e114 (by omega) (by omega)) kl_M_hash ks_M_hash kx_M_hash ki_M_hash ini_M hd_M_hash ⟨Nat.le_of_ble_eq_true rfl, Nat.le_of_ble_eq_true rfl⟩ rfl (Nat.le_of_ble_eq_true rfl) d_M_finish_55 ⟨Nat.le_refl _, Nat.le_refl _⟩) X Y hA S (by decide) (by decide) (fun u H locs Y S s135 p135 => ?_)
              obtain ⟨I135, J135, B135, G135⟩ := u
              dsimp only at Y S s135 p135
              have x135 := p135
              refine lv_iinc (v := iI (z113 - 1)) (lv' := [(4, .int (iI (z113 - 1))), (0, .ref h), (1, .ref ((q 10))), (2, .long v102)]) X.1 X.2.1 d_M_finish_58 hl (k := 3) rfl ((iI_add _ _).trans (congrArg iI (by omega))) (by decide) rfl (fun ls hl => ?_)
              refine lv_goto (tgt := 41) X.1 X.2.1 d_M_finish_61 (by decide) ?_
              exact ih117 (((z113 - 1) - (-1)).toNat) (by omega) (z113 - 1) (z114 + 1) I135 J135 B135 G135 _ _ _ rfl (by omega) (by omega) (x135.trans (congrArg iI (show (z114 + 1 : Int) = z114 + 1 by omega))) (by omega) (by omega) (by omega) Y S (lv_sub hl [1, 2, 3, 0] rfl)
        refine lv_istore (lv' := [(4, .int (iI 7)), (0, .ref h), (1, .ref ((q 10))), (2, .long v102)]) X.1 X.2.1 d_M_finish_39 hl (by decide) rfl (fun ls hl => ?_)
        exact J116 _ 7 z104 I103 J103 B103 G103 _ _ _ rfl (by omega) (by omega) e104 (by omega) (by omega) (by omega) Y S (lv_sub hl [1, 2, 3, 0] rfl)
      · refine lv_aload_n X.1 X.2.1 d_M_finish_29 rfl (lv_at hl 0 rfl) ?_
        refine lv_iconst (v := iI 0) X.1 X.2.1 d_M_finish_30 (by decide) ?_
        refine r_nv (m_run (As := [.int (iI 0)]) (rest := []) (n := 1) X Y hZ hA hml hl.1 (r_M_hash l D E h q H.size I103 J103 B103 G103 0 (by omega) (by omega) S.1 z104 e104 (by omega) (by omega)) kl_M_hash ks_M_hash kx_M_hash ki_M_hash ini_M hd_M_hash ⟨Nat.le_of_ble_eq_true rfl, Nat.le_of_ble_eq_true rfl⟩ rfl (Nat.le_of_ble_eq_true rfl) d_M_finish_31 ⟨Nat.le_refl _, Nat.le_refl _⟩) X Y hA S (by decide) (by decide) (fun u H locs Y S s136 p136 => ?_)
        obtain ⟨I136, J136, B136, G136⟩ := u
        dsimp only at Y S s136 p136
        have x136 := p136
        refine lv_goto (tgt := 17) X.1 X.2.1 d_M_finish_34 (by decide) ?_
        exact ih108 (((56 - (z104 + 1)) % 64).toNat) (by omega) (z104 + 1) I136 J136 B136 G136 _ _ _ rfl (x136.trans (congrArg iI (show (z104 + 1 : Int) = z104 + 1 by omega))) (by omega) (by omega) (by omega) (by omega) Y S (lv_sub hl [0, 1, 2] rfl)
  refine r_nv (m_run (As := [.int (iI 128)]) (rest := []) (n := 1) X Y hZ hA hml hl.1 (r_M_hash l D E h q H.size I J B G 128 (by omega) (by omega) S.1 hn ghn (by omega) (by omega)) kl_M_hash ks_M_hash kx_M_hash ki_M_hash ini_M hd_M_hash ⟨Nat.le_of_ble_eq_true rfl, Nat.le_of_ble_eq_true rfl⟩ rfl (Nat.le_of_ble_eq_true rfl) d_M_finish_14 ⟨Nat.le_refl _, Nat.le_refl _⟩) X Y hA S (by decide) (by decide) (fun u H locs Y S s137 p137 => ?_)
  obtain ⟨I137, J137, B137, G137⟩ := u
  dsimp only at Y S s137 p137
  have x137 := p137
  exact J107 _ (hn + 1) I137 J137 B137 G137 _ _ _ rfl (x137.trans (congrArg iI (show (hn + 1 : Int) = hn + 1 by omega))) (by omega) (by omega) (by omega) (by omega) Y S (lv_sub hl [1, 2, 0] rfl)
set_option maxHeartbeats 4000000 in
set_option maxRecDepth 100000 in
theorem r_M_macKey_use (l : Launch) (D : mD) (E : mE) (h : Nat) (q : Nat → Nat) (sz : Nat) (I : Nat → Int32) (J : Nat → Int64) (B : Nat → Nat → Int32) (G : Nat → Nat → Int64) (a2 : Int) (l_a2 : 0 ≤ a2) (u_a2 : a2 ≤ 32) (hT : rT I B) : Met l y_M_macKey (k_M_macKey :: lw_tg) (mR 1 60) (va_Pc [.ref h, .ref (q 23), .int (iI a2)] (mPre D E h q (I, J, B, G) sz)) (va_Qv (rPv [] [11] I B (fun (u : mS) => True)) (mPost D E h q (mA E h q sz)) (mA E h q sz)) 0 0 (mA E h q sz) := by
  refine m_enter (by decide) rfl (Nat.le_of_ble_eq_true rfl) (fun p e s m below meth c ls AV QQ H locs hQQ X Y hZ hA hr hlk hml hl => ?_)
  have Y : mH D E (mA E h q sz) s.heap h q I J B G H locs := Y
  have S : rS [] [11] I B I B := rS_rf hT
  have hl : lv_has ls 4 [(0, .ref h), (1, .ref ((q 23))), (2, .int (iI a2))] := hl
  refine lv_iconst (v := iI 0) X.1 X.2.1 d_M_macKey_0 (by decide) ?_
  have J103 : ∀ (n105 : Nat) (z102 : Int) (I101 : Nat → Int32) (J101 : Nat → Int64) (B101 : Nat → Nat → Int32) (G101 : Nat → Nat → Int64) (H : Heap) (locs : List Loc) (ls : Array Slot), (64 - z102).toNat = n105 → (0 ≤ z102) → (z102 ≤ 64) → mH D E (mA E h q sz) s.heap h q I101 J101 B101 G101 H locs → rS [] [11] I B I101 B101 → lv_has ls 4 [(0, .ref h), (1, .ref ((q 23))), (2, .int (iI a2)), (3, .int (iI z102))] → W p l e (mR 1 60) s m AV below meth c H locs 0 0 QQ (F0 m 2 ls []) := by
    intro n105
    induction n105 using Nat.strongRecOn with
    | ind n105 ih104 =>
      intro z102 I101 J101 B101 G101 H locs ls hm106 l102 u102 Y S hl
      refine lv_iload_n X.1 X.2.1 d_M_macKey_2 rfl (lv_at hl 3 rfl) ?_
      refine lv_bipush (v := iI 64) X.1 X.2.1 d_M_macKey_3 (by decide) ?_
      refine z_icmp_ge (tgt := 38) X.1 X.2.1 d_M_macKey_5 (by decide) ⟨by omega, by omega⟩ ⟨by omega, by omega⟩ (fun h107 => ?_) (fun h107 => ?_)
      · refine lv_iload_n X.1 X.2.1 d_M_macKey_38 rfl (lv_at hl 2 rfl) ?_
        refine lv_bipush (v := iI 64) X.1 X.2.1 d_M_macKey_39 (by decide) ?_
        refine z_icmp_gt (tgt := 45) X.1 X.2.1 d_M_macKey_41 (by decide) ⟨by omega, by omega⟩ ⟨by omega, by omega⟩ (fun h108 => False.elim (by omega)) (fun h108 => ?_)
        · exact m_retv hQQ X Y hr hlk ⟨S, trivial⟩ d_M_macKey_44
      · refine lv_aload_n X.1 X.2.1 d_M_macKey_8 rfl (lv_at hl 0 rfl) ?_
        refine m_get X Y 11 (by decide) lk_macKey (gf_macKey _ _ _) rfl d_M_macKey_9 ?_
        refine lv_iload_n X.1 X.2.1 d_M_macKey_12 rfl (lv_at hl 3 rfl) ?_
        refine lv_iload_n X.1 X.2.1 d_M_macKey_13 rfl (lv_at hl 2 rfl) ?_
        refine lv_bipush (v := iI 64) X.1 X.2.1 d_M_macKey_14 (by decide) ?_
        have J110 : ∀ (z109 : Int) (H : Heap) (locs : List Loc) (ls : Array Slot), ((-128) ≤ z109) → (z109 ≤ 127) → mH D E (mA E h q sz) s.heap h q I101 J101 B101 G101 H locs → rS [] [11] I B I101 B101 → lv_has ls 4 [(0, .ref h), (1, .ref ((q 23))), (2, .int (iI a2)), (3, .int (iI z102))] → W p l e (mR 1 60) s m AV below meth c H locs 0 0 QQ (F0 m 31 ls [.int (iI z109), .int (iI z102), .ref ((q 11))]) := by
          intro z109 H locs ls l109 u109 Y S hl
          refine r_bast X Y S (aw_macKey _ _ _ _ _ _ _) (sw_macKey _ _ _ _ _ _ _) rfl (by omega) (show z102 < ((64 : Nat) : Int) by omega) (by omega) (by decide) d_M_macKey_31 (fun B114 H locs Y S w114 => ?_)
          refine lv_iinc (v := iI (z102 + 1)) (lv' := [(3, .int (iI (z102 + 1))), (0, .ref h), (1, .ref ((q 23))), (2, .int (iI a2))]) X.1 X.2.1 d_M_macKey_32 hl (k := 3) rfl ((iI_add _ _).trans (congrArg iI (by omega))) (by decide) rfl (fun ls hl => ?_)
          refine lv_goto (tgt := 2) X.1 X.2.1 d_M_macKey_35 (by decide) ?_
          exact ih104 ((64 - (z102 + 1)).toNat) (by omega) (z102 + 1) I101 J101 B114 G101 _ _ _ rfl (by omega) (by omega) Y S (lv_sub hl [1, 2, 3, 0] rfl)
        have J115 : ∀  (H : Heap) (locs : List Loc) (ls : Array Slot), mH D E (mA E h q sz) s.heap h q I101 J101 B101 G101 H locs → rS [] [11] I B I101 B101 → lv_has ls 4 [(0, .ref h), (1, .ref ((q 23))), (2, .int (iI a2)), (3, .int (iI z102))] → W p l e (mR 1 60) s m AV below meth c H locs 0 0 QQ (F0 m 30 ls [.int (iI z102), .ref ((q 11))]) := by
          intro  H locs ls  Y S hl
          refine lv_iconst (v := iI 0) X.1 X.2.1 d_M_macKey_30 (by decide) ?_
          exact J110 0 _ _ _ (by omega) (by omega) Y S (lv_sub hl [0, 1, 2, 3] rfl)
        refine z_icmp_gt (tgt := 30) X.1 X.2.1 d_M_macKey_16 (by decide) ⟨by omega, by omega⟩ ⟨by omega, by omega⟩ (fun h119 => False.elim (by omega)) (fun h119 => ?_)
        · refine lv_iload_n X.1 X.2.1 d_M_macKey_19 rfl (lv_at hl 3 rfl) ?_
          refine lv_iload_n X.1 X.2.1 d_M_macKey_20 rfl (lv_at hl 2 rfl) ?_
          refine z_icmp_ge (tgt := 30) X.1 X.2.1 d_M_macKey_21 (by decide) ⟨by omega, by omega⟩ ⟨by omega, by omega⟩ (fun h120 => ?_) (fun h120 => ?_)
          · exact J115  _ _ _  Y S (lv_sub hl [0, 1, 2, 3] rfl)
          · refine lv_aload_n X.1 X.2.1 d_M_macKey_24 rfl (lv_at hl 1 rfl) ?_
            refine lv_iload_n X.1 X.2.1 d_M_macKey_25 rfl (lv_at hl 3 rfl) ?_
            refine r_bald X Y S (aw_use _ _ _ _ _ _ _) rfl (by omega) (show z102 < ((32 : Nat) : Int) by omega) (by omega) d_M_macKey_26 (fun z121 q121 l121 u121 => ?_)
            refine lv_goto (tgt := 31) X.1 X.2.1 d_M_macKey_27 (by decide) ?_
            exact J110 z121 _ _ _ (by omega) (by omega) Y S (lv_sub hl [0, 1, 2, 3] rfl)
  refine lv_istore_n (lv' := [(3, .int (iI 0)), (0, .ref h), (1, .ref ((q 23))), (2, .int (iI a2))]) X.1 X.2.1 d_M_macKey_1 rfl hl (by decide) rfl (fun ls hl => ?_)
  exact J103 _ 0 I J B G _ _ _ rfl (by omega) (by omega) Y S (lv_sub hl [1, 2, 3, 0] rfl)
set_option maxHeartbeats 4000000 in
set_option maxRecDepth 100000 in
theorem r_M_macKey_seed (l : Launch) (D : mD) (E : mE) (h : Nat) (q : Nat → Nat) (sz : Nat) (I : Nat → Int32) (J : Nat → Int64) (B : Nat → Nat → Int32) (G : Nat → Nat → Int64) (a2 : Int) (l_a2 : 0 ≤ a2) (u_a2 : a2 ≤ 64) (hT : rT I B) : Met l y_M_macKey (k_M_macKey :: lw_tg) (mR 1 60) (va_Pc [.ref h, .ref (q 31), .int (iI a2)] (mPre D E h q (I, J, B, G) sz)) (va_Qv (rPv [] [11] I B (fun (u : mS) => True)) (mPost D E h q (mA E h q sz)) (mA E h q sz)) 0 0 (mA E h q sz) := by
  refine m_enter (by decide) rfl (Nat.le_of_ble_eq_true rfl) (fun p e s m below meth c ls AV QQ H locs hQQ X Y hZ hA hr hlk hml hl => ?_)
  have Y : mH D E (mA E h q sz) s.heap h q I J B G H locs := Y
  have S : rS [] [11] I B I B := rS_rf hT
  have hl : lv_has ls 4 [(0, .ref h), (1, .ref ((q 31))), (2, .int (iI a2))] := hl
  refine lv_iconst (v := iI 0) X.1 X.2.1 d_M_macKey_0 (by decide) ?_
  have J103 : ∀ (n105 : Nat) (z102 : Int) (I101 : Nat → Int32) (J101 : Nat → Int64) (B101 : Nat → Nat → Int32) (G101 : Nat → Nat → Int64) (H : Heap) (locs : List Loc) (ls : Array Slot), (64 - z102).toNat = n105 → (0 ≤ z102) → (z102 ≤ 64) → mH D E (mA E h q sz) s.heap h q I101 J101 B101 G101 H locs → rS [] [11] I B I101 B101 → lv_has ls 4 [(0, .ref h), (1, .ref ((q 31))), (2, .int (iI a2)), (3, .int (iI z102))] → W p l e (mR 1 60) s m AV below meth c H locs 0 0 QQ (F0 m 2 ls []) := by
    intro n105
    induction n105 using Nat.strongRecOn with
    | ind n105 ih104 =>
      intro z102 I101 J101 B101 G101 H locs ls hm106 l102 u102 Y S hl
      refine lv_iload_n X.1 X.2.1 d_M_macKey_2 rfl (lv_at hl 3 rfl) ?_
      refine lv_bipush (v := iI 64) X.1 X.2.1 d_M_macKey_3 (by decide) ?_
      refine z_icmp_ge (tgt := 38) X.1 X.2.1 d_M_macKey_5 (by decide) ⟨by omega, by omega⟩ ⟨by omega, by omega⟩ (fun h107 => ?_) (fun h107 => ?_)
      · refine lv_iload_n X.1 X.2.1 d_M_macKey_38 rfl (lv_at hl 2 rfl) ?_
        refine lv_bipush (v := iI 64) X.1 X.2.1 d_M_macKey_39 (by decide) ?_
        refine z_icmp_gt (tgt := 45) X.1 X.2.1 d_M_macKey_41 (by decide) ⟨by omega, by omega⟩ ⟨by omega, by omega⟩ (fun h108 => False.elim (by omega)) (fun h108 => ?_)
        · exact m_retv hQQ X Y hr hlk ⟨S, trivial⟩ d_M_macKey_44
      · refine lv_aload_n X.1 X.2.1 d_M_macKey_8 rfl (lv_at hl 0 rfl) ?_
        refine m_get X Y 11 (by decide) lk_macKey (gf_macKey _ _ _) rfl d_M_macKey_9 ?_
        refine lv_iload_n X.1 X.2.1 d_M_macKey_12 rfl (lv_at hl 3 rfl) ?_
        refine lv_iload_n X.1 X.2.1 d_M_macKey_13 rfl (lv_at hl 2 rfl) ?_
        refine lv_bipush (v := iI 64) X.1 X.2.1 d_M_macKey_14 (by decide) ?_
        have J110 : ∀ (z109 : Int) (H : Heap) (locs : List Loc) (ls : Array Slot), ((-128) ≤ z109) → (z109 ≤ 127) → mH D E (mA E h q sz) s.heap h q I101 J101 B101 G101 H locs → rS [] [11] I B I101 B101 → lv_has ls 4 [(0, .ref h), (1, .ref ((q 31))), (2, .int (iI a2)), (3, .int (iI z102))] → W p l e (mR 1 60) s m AV below meth c H locs 0 0 QQ (F0 m 31 ls [.int (iI z109), .int (iI z102), .ref ((q 11))]) := by
          intro z109 H locs ls l109 u109 Y S hl
          refine r_bast X Y S (aw_macKey _ _ _ _ _ _ _) (sw_macKey _ _ _ _ _ _ _) rfl (by omega) (show z102 < ((64 : Nat) : Int) by omega) (by omega) (by decide) d_M_macKey_31 (fun B114 H locs Y S w114 => ?_)
          refine lv_iinc (v := iI (z102 + 1)) (lv' := [(3, .int (iI (z102 + 1))), (0, .ref h), (1, .ref ((q 31))), (2, .int (iI a2))]) X.1 X.2.1 d_M_macKey_32 hl (k := 3) rfl ((iI_add _ _).trans (congrArg iI (by omega))) (by decide) rfl (fun ls hl => ?_)
          refine lv_goto (tgt := 2) X.1 X.2.1 d_M_macKey_35 (by decide) ?_
          exact ih104 ((64 - (z102 + 1)).toNat) (by omega) (z102 + 1) I101 J101 B114 G101 _ _ _ rfl (by omega) (by omega) Y S (lv_sub hl [1, 2, 3, 0] rfl)
        have J115 : ∀  (H : Heap) (locs : List Loc) (ls : Array Slot), mH D E (mA E h q sz) s.heap h q I101 J101 B101 G101 H locs → rS [] [11] I B I101 B101 → lv_has ls 4 [(0, .ref h), (1, .ref ((q 31))), (2, .int (iI a2)), (3, .int (iI z102))] → W p l e (mR 1 60) s m AV below meth c H locs 0 0 QQ (F0 m 30 ls [.int (iI z102), .ref ((q 11))]) := by
          intro  H locs ls  Y S hl
          refine lv_iconst (v := iI 0) X.1 X.2.1 d_M_macKey_30 (by decide) ?_
          exact J110 0 _ _ _ (by omega) (by omega) Y S (lv_sub hl [0, 1, 2, 3] rfl)
        refine z_icmp_gt (tgt := 30) X.1 X.2.1 d_M_macKey_16 (by decide) ⟨by omega, by omega⟩ ⟨by omega, by omega⟩ (fun h119 => False.elim (by omega)) (fun h119 => ?_)
        · refine lv_iload_n X.1 X.2.1 d_M_macKey_19 rfl (lv_at hl 3 rfl) ?_
          refine lv_iload_n X.1 X.2.1 d_M_macKey_20 rfl (lv_at hl 2 rfl) ?_
          refine z_icmp_ge (tgt := 30) X.1 X.2.1 d_M_macKey_21 (by decide) ⟨by omega, by omega⟩ ⟨by omega, by omega⟩ (fun h120 => ?_) (fun h120 => ?_)
          · exact J115  _ _ _  Y S (lv_sub hl [0, 1, 2, 3] rfl)
          · refine lv_aload_n X.1 X.2.1 d_M_macKey_24 rfl (lv_at hl 1 rfl) ?_
            refine lv_iload_n X.1 X.2.1 d_M_macKey_25 rfl (lv_at hl 3 rfl) ?_
            refine r_bald X Y S (aw_seed _ _ _ _ _ _ _) rfl (by omega) (show z102 < ((64 : Nat) : Int) by omega) (by omega) d_M_macKey_26 (fun z121 q121 l121 u121 => ?_)
            refine lv_goto (tgt := 31) X.1 X.2.1 d_M_macKey_27 (by decide) ?_
            exact J110 z121 _ _ _ (by omega) (by omega) Y S (lv_sub hl [0, 1, 2, 3] rfl)
  refine lv_istore_n (lv' := [(3, .int (iI 0)), (0, .ref h), (1, .ref ((q 31))), (2, .int (iI a2))]) X.1 X.2.1 d_M_macKey_1 rfl hl (by decide) rfl (fun ls hl => ?_)
  exact J103 _ 0 I J B G _ _ _ rfl (by omega) (by omega) Y S (lv_sub hl [1, 2, 3, 0] rfl)
set_option maxHeartbeats 4000000 in
set_option maxRecDepth 100000 in
theorem r_M_macKey_password (l : Launch) (D : mD) (E : mE) (h : Nat) (q : Nat → Nat) (sz : Nat) (I : Nat → Int32) (J : Nat → Int64) (B : Nat → Nat → Int32) (G : Nat → Nat → Int64) (a2 : Int) (l_a2 : 0 ≤ a2) (u_a2 : a2 ≤ 30) (hT : rT I B) : Met l y_M_macKey (k_M_macKey :: lw_tg) (mR 1 60) (va_Pc [.ref h, .ref (q 25), .int (iI a2)] (mPre D E h q (I, J, B, G) sz)) (va_Qv (rPv [] [11] I B (fun (u : mS) => True)) (mPost D E h q (mA E h q sz)) (mA E h q sz)) 0 0 (mA E h q sz) := by
  refine m_enter (by decide) rfl (Nat.le_of_ble_eq_true rfl) (fun p e s m below meth c ls AV QQ H locs hQQ X Y hZ hA hr hlk hml hl => ?_)
  have Y : mH D E (mA E h q sz) s.heap h q I J B G H locs := Y
  have S : rS [] [11] I B I B := rS_rf hT
  have hl : lv_has ls 4 [(0, .ref h), (1, .ref ((q 25))), (2, .int (iI a2))] := hl
  refine lv_iconst (v := iI 0) X.1 X.2.1 d_M_macKey_0 (by decide) ?_
  have J103 : ∀ (n105 : Nat) (z102 : Int) (I101 : Nat → Int32) (J101 : Nat → Int64) (B101 : Nat → Nat → Int32) (G101 : Nat → Nat → Int64) (H : Heap) (locs : List Loc) (ls : Array Slot), (64 - z102).toNat = n105 → (0 ≤ z102) → (z102 ≤ 64) → mH D E (mA E h q sz) s.heap h q I101 J101 B101 G101 H locs → rS [] [11] I B I101 B101 → lv_has ls 4 [(0, .ref h), (1, .ref ((q 25))), (2, .int (iI a2)), (3, .int (iI z102))] → W p l e (mR 1 60) s m AV below meth c H locs 0 0 QQ (F0 m 2 ls []) := by
    intro n105
    induction n105 using Nat.strongRecOn with
    | ind n105 ih104 =>
      intro z102 I101 J101 B101 G101 H locs ls hm106 l102 u102 Y S hl
      refine lv_iload_n X.1 X.2.1 d_M_macKey_2 rfl (lv_at hl 3 rfl) ?_
      refine lv_bipush (v := iI 64) X.1 X.2.1 d_M_macKey_3 (by decide) ?_
      refine z_icmp_ge (tgt := 38) X.1 X.2.1 d_M_macKey_5 (by decide) ⟨by omega, by omega⟩ ⟨by omega, by omega⟩ (fun h107 => ?_) (fun h107 => ?_)
      · refine lv_iload_n X.1 X.2.1 d_M_macKey_38 rfl (lv_at hl 2 rfl) ?_
        refine lv_bipush (v := iI 64) X.1 X.2.1 d_M_macKey_39 (by decide) ?_
        refine z_icmp_gt (tgt := 45) X.1 X.2.1 d_M_macKey_41 (by decide) ⟨by omega, by omega⟩ ⟨by omega, by omega⟩ (fun h108 => False.elim (by omega)) (fun h108 => ?_)
        · exact m_retv hQQ X Y hr hlk ⟨S, trivial⟩ d_M_macKey_44
      · refine lv_aload_n X.1 X.2.1 d_M_macKey_8 rfl (lv_at hl 0 rfl) ?_
        refine m_get X Y 11 (by decide) lk_macKey (gf_macKey _ _ _) rfl d_M_macKey_9 ?_
        refine lv_iload_n X.1 X.2.1 d_M_macKey_12 rfl (lv_at hl 3 rfl) ?_
        refine lv_iload_n X.1 X.2.1 d_M_macKey_13 rfl (lv_at hl 2 rfl) ?_
        refine lv_bipush (v := iI 64) X.1 X.2.1 d_M_macKey_14 (by decide) ?_
        have J110 : ∀ (z109 : Int) (H : Heap) (locs : List Loc) (ls : Array Slot), ((-128) ≤ z109) → (z109 ≤ 127) → mH D E (mA E h q sz) s.heap h q I101 J101 B101 G101 H locs → rS [] [11] I B I101 B101 → lv_has ls 4 [(0, .ref h), (1, .ref ((q 25))), (2, .int (iI a2)), (3, .int (iI z102))] → W p l e (mR 1 60) s m AV below meth c H locs 0 0 QQ (F0 m 31 ls [.int (iI z109), .int (iI z102), .ref ((q 11))]) := by
          intro z109 H locs ls l109 u109 Y S hl
          refine r_bast X Y S (aw_macKey _ _ _ _ _ _ _) (sw_macKey _ _ _ _ _ _ _) rfl (by omega) (show z102 < ((64 : Nat) : Int) by omega) (by omega) (by decide) d_M_macKey_31 (fun B114 H locs Y S w114 => ?_)
          refine lv_iinc (v := iI (z102 + 1)) (lv' := [(3, .int (iI (z102 + 1))), (0, .ref h), (1, .ref ((q 25))), (2, .int (iI a2))]) X.1 X.2.1 d_M_macKey_32 hl (k := 3) rfl ((iI_add _ _).trans (congrArg iI (by omega))) (by decide) rfl (fun ls hl => ?_)
          refine lv_goto (tgt := 2) X.1 X.2.1 d_M_macKey_35 (by decide) ?_
          exact ih104 ((64 - (z102 + 1)).toNat) (by omega) (z102 + 1) I101 J101 B114 G101 _ _ _ rfl (by omega) (by omega) Y S (lv_sub hl [1, 2, 3, 0] rfl)
        have J115 : ∀  (H : Heap) (locs : List Loc) (ls : Array Slot), mH D E (mA E h q sz) s.heap h q I101 J101 B101 G101 H locs → rS [] [11] I B I101 B101 → lv_has ls 4 [(0, .ref h), (1, .ref ((q 25))), (2, .int (iI a2)), (3, .int (iI z102))] → W p l e (mR 1 60) s m AV below meth c H locs 0 0 QQ (F0 m 30 ls [.int (iI z102), .ref ((q 11))]) := by
          intro  H locs ls  Y S hl
          refine lv_iconst (v := iI 0) X.1 X.2.1 d_M_macKey_30 (by decide) ?_
          exact J110 0 _ _ _ (by omega) (by omega) Y S (lv_sub hl [0, 1, 2, 3] rfl)
        refine z_icmp_gt (tgt := 30) X.1 X.2.1 d_M_macKey_16 (by decide) ⟨by omega, by omega⟩ ⟨by omega, by omega⟩ (fun h119 => False.elim (by omega)) (fun h119 => ?_)
        · refine lv_iload_n X.1 X.2.1 d_M_macKey_19 rfl (lv_at hl 3 rfl) ?_
          refine lv_iload_n X.1 X.2.1 d_M_macKey_20 rfl (lv_at hl 2 rfl) ?_
          refine z_icmp_ge (tgt := 30) X.1 X.2.1 d_M_macKey_21 (by decide) ⟨by omega, by omega⟩ ⟨by omega, by omega⟩ (fun h120 => ?_) (fun h120 => ?_)
          · exact J115  _ _ _  Y S (lv_sub hl [0, 1, 2, 3] rfl)
          · refine lv_aload_n X.1 X.2.1 d_M_macKey_24 rfl (lv_at hl 1 rfl) ?_
            refine lv_iload_n X.1 X.2.1 d_M_macKey_25 rfl (lv_at hl 3 rfl) ?_
            refine r_bald X Y S (aw_password _ _ _ _ _ _ _) rfl (by omega) (show z102 < ((30 : Nat) : Int) by omega) (by omega) d_M_macKey_26 (fun z121 q121 l121 u121 => ?_)
            refine lv_goto (tgt := 31) X.1 X.2.1 d_M_macKey_27 (by decide) ?_
            exact J110 z121 _ _ _ (by omega) (by omega) Y S (lv_sub hl [0, 1, 2, 3] rfl)
  refine lv_istore_n (lv' := [(3, .int (iI 0)), (0, .ref h), (1, .ref ((q 25))), (2, .int (iI a2))]) X.1 X.2.1 d_M_macKey_1 rfl hl (by decide) rfl (fun ls hl => ?_)
  exact J103 _ 0 I J B G _ _ _ rfl (by omega) (by omega) Y S (lv_sub hl [1, 2, 3, 0] rfl)
