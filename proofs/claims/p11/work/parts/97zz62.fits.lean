def C_fits (d : Nat) : Prop := ∀ (l : Launch) (D : va_G) (E : cE) (T : cT) (κ : tK) (L : List Nat) (f : pF) (sz : Nat) (h n0 : Nat) (k0 : κ h = (13, n0)) (x0 : n0 ≤ 12288) (a1 : Int) (l_a1 : (-2147483648) ≤ a1) (u_a1 : a1 ≤ 2147483647) (a2 : Int) (l_a2 : (-1) ≤ a2) (u_a2 : a2 ≤ 20200) (a3 : Int) (l_a3 : 0 ≤ a3) (u_a3 : a3 ≤ 20200) (a4 : Int) (l_a4 : 0 ≤ a4) (u_a4 : a4 ≤ 21) (hw : tW E T κ L f) (hd : 21 ≤ a4 + d), Met l y_By_fits (k_By_fits :: lw_tg) (kRm (6 + 3 * d) (110 + 100 * d) 0 0) (va_Pc [.ref h, .int (iI a1), .int (iI a2), .int (iI a3), .int (iI a4)] (kPre D E T L f sz)) (va_Qi (uPi L f (fun (z : Int) => 0 ≤ z ∧ z ≤ 1)) (cPost D E (pA L sz)) (pA L sz)) 0 0 (pA L sz)
set_option maxHeartbeats 4000000 in
set_option maxRecDepth 100000 in
theorem c_By_fitsRow (d : Nat) (IH : C_fits d) (l : Launch) (D : va_G) (E : cE) (T : cT) (κ : tK) (L : List Nat) (f : pF) (sz : Nat) (h n0 : Nat) (k0 : κ h = (13, n0)) (x0 : n0 ≤ 12288) (a1 : Int) (l_a1 : (-2147483648) ≤ a1) (u_a1 : a1 ≤ 2147483647) (a2 : Int) (l_a2 : (-1) ≤ a2) (u_a2 : a2 ≤ 20200) (a3 : Int) (l_a3 : 0 ≤ a3) (u_a3 : a3 ≤ 20200) (a4 : Int) (l_a4 : 0 ≤ a4) (u_a4 : a4 ≤ 20) (hw : tW E T κ L f) (hd : 21 ≤ a4 + (d + 1)) : Met l y_By_fitsRow (k_By_fitsRow :: lw_tg) (kRm (7 + 3 * d) (150 + 100 * d) 0 0) (va_Pc [.ref h, .int (iI a1), .int (iI a2), .int (iI a3), .int (iI a4)] (kPre D E T L f sz)) (va_Qi (uPi L f (fun (z : Int) => 0 ≤ z ∧ z ≤ 1)) (cPost D E (pA L sz)) (pA L sz)) 0 0 (pA L sz) := by
  refine k_enter (own := R_By) (by decide) rfl (Nat.le_of_ble_eq_true rfl) (fun p e s m below meth c ls AV QQ H locs hQQ X Y hA hin hr hlk hml hl KS KR => ?_)
  have hl : lv_has ls 8 [(0, .ref h), (1, .int (iI a1)), (2, .int (iI a2)), (3, .int (iI a3)), (4, .int (iI a4))] := hl
  have S : tS E T (tFr κ L [] []) κ L f κ L f := tS_rf hw
  refine lv_iload_n X.1 X.2.1 d_By_fitsRow_0 rfl (lv_at hl 2 rfl) ?_
  refine lv_istore (lv' := [(5, .int (iI a2)), (0, .ref h), (1, .int (iI a1)), (2, .int (iI a2)), (3, .int (iI a3)), (4, .int (iI a4))]) X.1 X.2.1 d_By_fitsRow_1 hl (by decide) rfl (fun ls hl => ?_)
  refine lv_iconst (v := iI 0) X.1 X.2.1 d_By_fitsRow_3 (by decide) ?_
  have J103 : ∀ (n105 : Nat) (z101 : Int) (z102 : Int) (H : Heap) (locs : List Loc) (ls : Array Slot), (16 - z102).toNat = n105 → ((-1) ≤ z101) → (z101 ≤ 20200) → (0 ≤ z102) → (z102 ≤ 16) → pH D cCl (pA L sz) s.heap L f H locs → tS E T (tFr κ L [] []) κ L f κ L f → lv_has ls 8 [(0, .ref h), (1, .int (iI a1)), (3, .int (iI a3)), (4, .int (iI a4)), (5, .int (iI z101)), (6, .int (iI z102))] → W p l e (kRm (7 + 3 * d) (150 + 100 * d) 0 0) s m AV below meth c H locs 0 0 QQ (F0 m 6 ls []) := by
    intro n105
    induction n105 using Nat.strongRecOn with
    | ind n105 ih104 =>
      intro z101 z102 H locs ls hm106 l101 u101 l102 u102 Y S hl
      refine lv_iload X.1 X.2.1 d_By_fitsRow_6 (lv_at hl 5 rfl) ?_
      refine lv_bipush (v := iI 16) X.1 X.2.1 d_By_fitsRow_8 (by decide) ?_
      have J107 : ∀  (H : Heap) (locs : List Loc) (ls : Array Slot), pH D cCl (pA L sz) s.heap L f H locs → tS E T (tFr κ L [] []) κ L f κ L f → lv_has ls 8 [(3, .int (iI a3)), (5, .int (iI z101))] → W p l e (kRm (7 + 3 * d) (150 + 100 * d) 0 0) s m AV below meth c H locs 0 0 QQ (F0 m 61 ls []) := by
        intro  H locs ls  Y S hl
        refine lv_iload X.1 X.2.1 d_By_fitsRow_61 (lv_at hl 1 rfl) ?_
        refine lv_iload_n X.1 X.2.1 d_By_fitsRow_63 rfl (lv_at hl 0 rfl) ?_
        refine z_icmp_ne (tgt := 71) X.1 X.2.1 d_By_fitsRow_64 (by decide) ⟨by omega, by omega⟩ ⟨by omega, by omega⟩ (fun h111 => ?_) (fun h111 => ?_)
        · refine lv_iconst (v := iI 0) X.1 X.2.1 d_By_fitsRow_71 (by decide) ?_
          exact c_retz hQQ X Y hr hlk (iI_bool (by omega) (by omega)).1 ⟨rfl, rfl, 0, rfl, ⟨by omega, by omega⟩⟩ d_By_fitsRow_72
        · refine lv_iconst (v := iI 1) X.1 X.2.1 d_By_fitsRow_67 (by decide) ?_
          refine lv_goto (tgt := 72) X.1 X.2.1 d_By_fitsRow_68 (by decide) ?_
          exact c_retz hQQ X Y hr hlk (iI_bool (by omega) (by omega)).1 ⟨rfl, rfl, 1, rfl, ⟨by omega, by omega⟩⟩ d_By_fitsRow_72
      refine z_icmp_ge (tgt := 61) X.1 X.2.1 d_By_fitsRow_10 (by decide) ⟨by omega, by omega⟩ ⟨by omega, by omega⟩ (fun h112 => ?_) (fun h112 => ?_)
      · exact J107  _ _ _  Y S (lv_sub hl [2, 4] rfl)
      · refine lv_iload X.1 X.2.1 d_By_fitsRow_13 (lv_at hl 4 rfl) ?_
        refine lv_iload_n X.1 X.2.1 d_By_fitsRow_15 rfl (lv_at hl 2 rfl) ?_
        refine z_icmp_ge (tgt := 61) X.1 X.2.1 d_By_fitsRow_16 (by decide) ⟨by omega, by omega⟩ ⟨by omega, by omega⟩ (fun h113 => ?_) (fun h113 => ?_)
        · exact J107  _ _ _  Y S (lv_sub hl [2, 4] rfl)
        · refine lv_aload_n X.1 X.2.1 d_By_fitsRow_19 rfl (lv_at hl 0 rfl) ?_
          refine lv_iload X.1 X.2.1 d_By_fitsRow_20 (lv_at hl 4 rfl) ?_
          refine lv_iload_n X.1 X.2.1 d_By_fitsRow_22 rfl (lv_at hl 2 rfl) ?_
          obtain ⟨z114, e114, l114, u114⟩ := t_size S k0
          refine t_ui (t_runV (As := [.int (iI z101), .int (iI a3)]) (rest := []) (n := 2) X Y S k0 hml hl.1 (c_By_stop l D E T κ L f H.size h n0 k0 (by omega) z101 (by omega) (by omega) a3 (by omega) (by omega) S.1 z114 e114 (by omega) (by omega)) (ok_k X Y hA KS KR) rfl kl_By_By_stop ks_By_stop kx_By_stop ki_By_stop ini_By ⟨rfl, rfl⟩ hd_By_stop ⟨by simp only [kRm]; omega, by simp only [kRm]; omega⟩ rfl (Nat.le_of_ble_eq_true rfl) d_By_fitsRow_23 ⟨Nat.le_of_ble_eq_true rfl, Nat.le_of_ble_eq_true rfl⟩) X Y hA (fun z115 H locs Y p115 => ?_)
          obtain ⟨l115, u115, x115⟩ := p115
          refine lv_istore (lv' := [(7, .int (iI z115)), (0, .ref h), (1, .int (iI a1)), (3, .int (iI a3)), (4, .int (iI a4)), (5, .int (iI z101)), (6, .int (iI z102))]) X.1 X.2.1 d_By_fitsRow_26 hl (by decide) rfl (fun ls hl => ?_)
          refine lv_iload X.1 X.2.1 d_By_fitsRow_28 (lv_at hl 0 rfl) ?_
          refine z_if_lt (tgt := 49) X.1 X.2.1 d_By_fitsRow_30 (by decide) ⟨by omega, by omega⟩ (fun h116 => ?_) (fun h116 => ?_)
          · refine lv_iconst (v := iI 0) X.1 X.2.1 d_By_fitsRow_49 (by decide) ?_
            exact c_retz hQQ X Y hr hlk (iI_bool (by omega) (by omega)).1 ⟨rfl, rfl, 0, rfl, ⟨by omega, by omega⟩⟩ d_By_fitsRow_50
          · refine lv_aload_n X.1 X.2.1 d_By_fitsRow_33 rfl (lv_at hl 1 rfl) ?_
            refine lv_iload_n X.1 X.2.1 d_By_fitsRow_34 rfl (lv_at hl 2 rfl) ?_
            refine lv_iload X.1 X.2.1 d_By_fitsRow_35 (lv_at hl 5 rfl) ?_
            refine lv_iload X.1 X.2.1 d_By_fitsRow_37 (lv_at hl 0 rfl) ?_
            refine lv_iload X.1 X.2.1 d_By_fitsRow_39 (lv_at hl 4 rfl) ?_
            refine lv_iconst (v := iI 1) X.1 X.2.1 d_By_fitsRow_41 (by decide) ?_
            refine z_iadd X.1 X.2.1 d_By_fitsRow_42 ?_
            refine t_ui (t_runV (As := [.int (iI a1), .int (iI z101), .int (iI z115), .int (iI (a4 + 1))]) (rest := []) (n := 4) X Y S k0 hml hl.1 (IH l D E T κ L f H.size h n0 k0 (by omega) a1 (by omega) (by omega) z101 (by omega) (by omega) z115 (by omega) (by omega) (a4 + 1) (by omega) (by omega) S.1 (by omega)) (ok_k X Y hA KS KR) rfl kl_By_By_fits ks_By_fits kx_By_fits ki_By_fits ini_By ⟨rfl, rfl⟩ hd_By_fits ⟨by simp only [kRm]; omega, by simp only [kRm]; omega⟩ rfl (Nat.le_of_ble_eq_true rfl) d_By_fitsRow_43 ⟨Nat.le_of_ble_eq_true rfl, Nat.le_of_ble_eq_true rfl⟩) X Y hA (fun z117 H locs Y p117 => ?_)
            obtain ⟨l117, u117⟩ := p117
            refine z_if_ne (tgt := 51) X.1 X.2.1 d_By_fitsRow_46 (by decide) ⟨by omega, by omega⟩ (fun h118 => ?_) (fun h118 => ?_)
            · refine lv_iload X.1 X.2.1 d_By_fitsRow_51 (lv_at hl 0 rfl) ?_
              refine lv_istore (lv' := [(5, .int (iI z115)), (7, .int (iI z115)), (0, .ref h), (1, .int (iI a1)), (3, .int (iI a3)), (4, .int (iI a4)), (6, .int (iI z102))]) X.1 X.2.1 d_By_fitsRow_53 hl (by decide) rfl (fun ls hl => ?_)
              refine lv_iinc (v := iI (z102 + 1)) (lv' := [(6, .int (iI (z102 + 1))), (5, .int (iI z115)), (7, .int (iI z115)), (0, .ref h), (1, .int (iI a1)), (3, .int (iI a3)), (4, .int (iI a4))]) X.1 X.2.1 d_By_fitsRow_55 hl (k := 6) rfl ((iI_add _ _).trans (congrArg iI (by omega))) (by decide) rfl (fun ls hl => ?_)
              refine lv_goto (tgt := 6) X.1 X.2.1 d_By_fitsRow_58 (by decide) ?_
              exact ih104 ((16 - (z102 + 1)).toNat) (by omega) z115 (z102 + 1) _ _ _ rfl (by omega) (by omega) (by omega) (by omega) Y S (lv_sub hl [3, 4, 5, 6, 1, 0] rfl)
            · refine lv_iconst (v := iI 0) X.1 X.2.1 d_By_fitsRow_49 (by decide) ?_
              exact c_retz hQQ X Y hr hlk (iI_bool (by omega) (by omega)).1 ⟨rfl, rfl, 0, rfl, ⟨by omega, by omega⟩⟩ d_By_fitsRow_50
  refine lv_istore (lv' := [(6, .int (iI 0)), (5, .int (iI a2)), (0, .ref h), (1, .int (iI a1)), (2, .int (iI a2)), (3, .int (iI a3)), (4, .int (iI a4))]) X.1 X.2.1 d_By_fitsRow_4 hl (by decide) rfl (fun ls hl => ?_)
  exact J103 _ a2 0 _ _ _ rfl (by omega) (by omega) (by omega) (by omega) Y S (lv_sub hl [2, 3, 5, 6, 1, 0] rfl)
set_option maxHeartbeats 4000000 in
set_option maxRecDepth 100000 in
theorem c_By_fitsFields (d : Nat) (IH : C_fits d) (l : Launch) (D : va_G) (E : cE) (T : cT) (κ : tK) (L : List Nat) (f : pF) (sz : Nat) (h n0 : Nat) (k0 : κ h = (13, n0)) (x0 : n0 ≤ 12288) (a1 : Nat) (k1 : a1 < nY) (a2 : Int) (l_a2 : (-1) ≤ a2) (u_a2 : a2 ≤ 20200) (a3 : Int) (l_a3 : 0 ≤ a3) (u_a3 : a3 ≤ 20200) (a4 : Int) (l_a4 : 0 ≤ a4) (u_a4 : a4 ≤ 20) (hw : tW E T κ L f) (hd : 21 ≤ a4 + (d + 1)) : Met l y_By_fitsFields (k_By_fitsFields :: lw_tg) (kRm (7 + 3 * d) (150 + 100 * d) 0 0) (va_Pc [.ref h, .ref (T.2.1 a1), .int (iI a2), .int (iI a3), .int (iI a4)] (kPre D E T L f sz)) (va_Qi (uPi L f (fun (z : Int) => 0 ≤ z ∧ z ≤ 1)) (cPost D E (pA L sz)) (pA L sz)) 0 0 (pA L sz) := by
  refine k_enter (own := R_By) (by decide) rfl (Nat.le_of_ble_eq_true rfl) (fun p e s m below meth c ls AV QQ H locs hQQ X Y hA hin hr hlk hml hl KS KR => ?_)
  have hl : lv_has ls 10 [(0, .ref h), (1, .ref ((T.2.1 a1))), (2, .int (iI a2)), (3, .int (iI a3)), (4, .int (iI a4))] := hl
  have S : tS E T (tFr κ L [] []) κ L f κ L f := tS_rf hw
  refine lv_iload_n X.1 X.2.1 d_By_fitsFields_0 rfl (lv_at hl 2 rfl) ?_
  refine lv_istore (lv' := [(5, .int (iI a2)), (0, .ref h), (1, .ref ((T.2.1 a1))), (2, .int (iI a2)), (3, .int (iI a3)), (4, .int (iI a4))]) X.1 X.2.1 d_By_fitsFields_1 hl (by decide) rfl (fun ls hl => ?_)
  refine lv_iconst (v := iI 0) X.1 X.2.1 d_By_fitsFields_3 (by decide) ?_
  have J103 : ∀ (n105 : Nat) (z101 : Int) (z102 : Int) (H : Heap) (locs : List Loc) (ls : Array Slot), (64 - z102).toNat = n105 → ((-1) ≤ z101) → (z101 ≤ 20200) → (0 ≤ z102) → (z102 ≤ 64) → pH D cCl (pA L sz) s.heap L f H locs → tS E T (tFr κ L [] []) κ L f κ L f → lv_has ls 10 [(0, .ref h), (1, .ref ((T.2.1 a1))), (3, .int (iI a3)), (4, .int (iI a4)), (5, .int (iI z101)), (6, .int (iI z102))] → W p l e (kRm (7 + 3 * d) (150 + 100 * d) 0 0) s m AV below meth c H locs 0 0 QQ (F0 m 6 ls []) := by
    intro n105
    induction n105 using Nat.strongRecOn with
    | ind n105 ih104 =>
      intro z101 z102 H locs ls hm106 l101 u101 l102 u102 Y S hl
      refine lv_iload X.1 X.2.1 d_By_fitsFields_6 (lv_at hl 5 rfl) ?_
      refine lv_iconst (v := iI 2) X.1 X.2.1 d_By_fitsFields_8 (by decide) ?_
      refine z_iadd X.1 X.2.1 d_By_fitsFields_9 ?_
      refine lv_aload_n X.1 X.2.1 d_By_fitsFields_10 rfl (lv_at hl 1 rfl) ?_
      refine t_length (i := a1) X Y KS k1 hml hl.1 kl_By_length ⟨by simp only [kRm]; omega, by simp only [kRm]; omega⟩ (Nat.le_of_ble_eq_true rfl) d_By_fitsFields_11 ⟨Nat.le_of_ble_eq_true rfl, Nat.le_of_ble_eq_true rfl⟩ (fun H locs Y => ?_)
      have y107 := yn_40 a1 k1
      refine z_icmp_ge (tgt := 142) X.1 X.2.1 d_By_fitsFields_14 (by decide) ⟨by omega, by omega⟩ ⟨by omega, by omega⟩ (fun h108 => ?_) (fun h108 => ?_)
      · refine lv_iload X.1 X.2.1 d_By_fitsFields_142 (lv_at hl 4 rfl) ?_
        refine lv_iload_n X.1 X.2.1 d_By_fitsFields_144 rfl (lv_at hl 2 rfl) ?_
        refine z_icmp_ne (tgt := 152) X.1 X.2.1 d_By_fitsFields_145 (by decide) ⟨by omega, by omega⟩ ⟨by omega, by omega⟩ (fun h109 => ?_) (fun h109 => ?_)
        · refine lv_iconst (v := iI 0) X.1 X.2.1 d_By_fitsFields_152 (by decide) ?_
          exact c_retz hQQ X Y hr hlk (iI_bool (by omega) (by omega)).1 ⟨rfl, rfl, 0, rfl, ⟨by omega, by omega⟩⟩ d_By_fitsFields_153
        · refine lv_iconst (v := iI 1) X.1 X.2.1 d_By_fitsFields_148 (by decide) ?_
          refine lv_goto (tgt := 153) X.1 X.2.1 d_By_fitsFields_149 (by decide) ?_
          exact c_retz hQQ X Y hr hlk (iI_bool (by omega) (by omega)).1 ⟨rfl, rfl, 1, rfl, ⟨by omega, by omega⟩⟩ d_By_fitsFields_153
      · refine lv_aload_n X.1 X.2.1 d_By_fitsFields_17 rfl (lv_at hl 1 rfl) ?_
        refine lv_iload X.1 X.2.1 d_By_fitsFields_18 (lv_at hl 5 rfl) ?_
        refine t_charAt (i := a1) X Y KS k1 (by omega) (by omega) hml hl.1 kl_By_charAt ⟨by simp only [kRm]; omega, by simp only [kRm]; omega⟩ (Nat.le_of_ble_eq_true rfl) d_By_fitsFields_20 ⟨Nat.le_of_ble_eq_true rfl, Nat.le_of_ble_eq_true rfl⟩ (fun H locs z110 Y e110 l110 u110 => ?_)
        refine lv_istore (lv' := [(7, .int (iI z110)), (0, .ref h), (1, .ref ((T.2.1 a1))), (3, .int (iI a3)), (4, .int (iI a4)), (5, .int (iI z101)), (6, .int (iI z102))]) X.1 X.2.1 d_By_fitsFields_23 hl (by decide) rfl (fun ls hl => ?_)
        refine lv_iload X.1 X.2.1 d_By_fitsFields_25 (lv_at hl 0 rfl) ?_
        refine lv_bipush (v := iI 57) X.1 X.2.1 d_By_fitsFields_27 (by decide) ?_
        have J112 : ∀ (z111 : Int) (H : Heap) (locs : List Loc) (ls : Array Slot), ((-48) ≤ z111) → (z111 ≤ 168) → pH D cCl (pA L sz) s.heap L f H locs → tS E T (tFr κ L [] []) κ L f κ L f → lv_has ls 10 [(0, .ref h), (1, .ref ((T.2.1 a1))), (3, .int (iI a3)), (4, .int (iI a4)), (5, .int (iI z101)), (6, .int (iI z102))] → W p l e (kRm (7 + 3 * d) (150 + 100 * d) 0 0) s m AV below meth c H locs 0 0 QQ (F0 m 48 ls [.int (iI z111)]) := by
          intro z111 H locs ls l111 u111 Y S hl
          refine lv_istore (lv' := [(8, .int (iI z111)), (0, .ref h), (1, .ref ((T.2.1 a1))), (3, .int (iI a3)), (4, .int (iI a4)), (5, .int (iI z101)), (6, .int (iI z102))]) X.1 X.2.1 d_By_fitsFields_48 hl (by decide) rfl (fun ls hl => ?_)
          refine lv_iload X.1 X.2.1 d_By_fitsFields_50 (lv_at hl 5 rfl) ?_
          refine lv_iload_n X.1 X.2.1 d_By_fitsFields_52 rfl (lv_at hl 3 rfl) ?_
          have J117 : ∀ (z116 : Int) (H : Heap) (locs : List Loc) (ls : Array Slot), ((-1) ≤ z116) → (z116 ≤ 20200) → pH D cCl (pA L sz) s.heap L f H locs → tS E T (tFr κ L [] []) κ L f κ L f → lv_has ls 10 [(0, .ref h), (1, .ref ((T.2.1 a1))), (3, .int (iI a3)), (4, .int (iI a4)), (5, .int (iI z116)), (6, .int (iI z102))] → W p l e (kRm (7 + 3 * d) (150 + 100 * d) 0 0) s m AV below meth c H locs 0 0 QQ (F0 m 136 ls []) := by
            intro z116 H locs ls l116 u116 Y S hl
            refine lv_iinc (v := iI (z102 + 3)) (lv' := [(6, .int (iI (z102 + 3))), (0, .ref h), (1, .ref ((T.2.1 a1))), (3, .int (iI a3)), (4, .int (iI a4)), (5, .int (iI z116))]) X.1 X.2.1 d_By_fitsFields_136 hl (k := 5) rfl ((iI_add _ _).trans (congrArg iI (by omega))) (by decide) rfl (fun ls hl => ?_)
            refine lv_goto (tgt := 6) X.1 X.2.1 d_By_fitsFields_139 (by decide) ?_
            exact ih104 ((64 - (z102 + 3)).toNat) (by omega) z116 (z102 + 3) _ _ _ rfl (by omega) (by omega) (by omega) (by omega) Y S (lv_sub hl [1, 2, 3, 4, 5, 0] rfl)
          have J121 : ∀  (H : Heap) (locs : List Loc) (ls : Array Slot), pH D cCl (pA L sz) s.heap L f H locs → tS E T (tFr κ L [] []) κ L f κ L f → lv_has ls 10 [(0, .ref h), (1, .ref ((T.2.1 a1))), (3, .int (iI a3)), (4, .int (iI a4)), (5, .int (iI z101)), (6, .int (iI z102))] → W p l e (kRm (7 + 3 * d) (150 + 100 * d) 0 0) s m AV below meth c H locs 0 0 QQ (F0 m 121 ls []) := by
            intro  H locs ls  Y S hl
            refine lv_aload_n X.1 X.2.1 d_By_fitsFields_121 rfl (lv_at hl 1 rfl) ?_
            refine lv_iload X.1 X.2.1 d_By_fitsFields_122 (lv_at hl 5 rfl) ?_
            refine lv_iconst (v := iI 1) X.1 X.2.1 d_By_fitsFields_124 (by decide) ?_
            refine z_iadd X.1 X.2.1 d_By_fitsFields_125 ?_
            refine t_charAt (i := a1) X Y KS k1 (by omega) (by omega) hml hl.1 kl_By_charAt ⟨by simp only [kRm]; omega, by simp only [kRm]; omega⟩ (Nat.le_of_ble_eq_true rfl) d_By_fitsFields_126 ⟨Nat.le_of_ble_eq_true rfl, Nat.le_of_ble_eq_true rfl⟩ (fun H locs z125 Y e125 l125 u125 => ?_)
            refine lv_bipush (v := iI 33) X.1 X.2.1 d_By_fitsFields_129 (by decide) ?_
            refine z_icmp_ne (tgt := 136) X.1 X.2.1 d_By_fitsFields_131 (by decide) ⟨by omega, by omega⟩ ⟨by omega, by omega⟩ (fun h126 => ?_) (fun h126 => ?_)
            · exact J117 z101 _ _ _ (by omega) (by omega) Y S (lv_sub hl [0, 1, 2, 3, 4, 5] rfl)
            · refine lv_iconst (v := iI 0) X.1 X.2.1 d_By_fitsFields_134 (by decide) ?_
              exact c_retz hQQ X Y hr hlk (iI_bool (by omega) (by omega)).1 ⟨rfl, rfl, 0, rfl, ⟨by omega, by omega⟩⟩ d_By_fitsFields_135
          refine z_icmp_ge (tgt := 121) X.1 X.2.1 d_By_fitsFields_53 (by decide) ⟨by omega, by omega⟩ ⟨by omega, by omega⟩ (fun h127 => ?_) (fun h127 => ?_)
          · exact J121  _ _ _  Y S (lv_sub hl [1, 2, 3, 4, 5, 6] rfl)
          · refine lv_aload_n X.1 X.2.1 d_By_fitsFields_56 rfl (lv_at hl 1 rfl) ?_
            refine lv_iload X.1 X.2.1 d_By_fitsFields_57 (lv_at hl 5 rfl) ?_
            refine t_ui (t_runV (As := [.int (iI z101)]) (rest := []) (n := 1) X Y S k0 hml hl.1 (c_By_at l D E T κ L f H.size h n0 k0 (by omega) z101 (by omega) (by omega) S.1) (ok_k X Y hA KS KR) rfl kl_By_By_at ks_By_at kx_By_at ki_By_at ini_By ⟨rfl, rfl⟩ hd_By_at ⟨by simp only [kRm]; omega, by simp only [kRm]; omega⟩ rfl (Nat.le_of_ble_eq_true rfl) d_By_fitsFields_59 ⟨Nat.le_of_ble_eq_true rfl, Nat.le_of_ble_eq_true rfl⟩) X Y hA (fun z128 H locs Y p128 => ?_)
            obtain ⟨l128, u128⟩ := p128
            refine lv_sipush (v := iI 160) X.1 X.2.1 d_By_fitsFields_62 (by decide) ?_
            refine lv_iload X.1 X.2.1 d_By_fitsFields_65 (lv_at hl 0 rfl) ?_
            refine z_iadd X.1 X.2.1 d_By_fitsFields_67 ?_
            refine z_icmp_ne (tgt := 121) X.1 X.2.1 d_By_fitsFields_68 (by decide) ⟨by omega, by omega⟩ ⟨by omega, by omega⟩ (fun h129 => ?_) (fun h129 => ?_)
            · exact J121  _ _ _  Y S (lv_sub hl [1, 2, 3, 4, 5, 6] rfl)
            · refine lv_aload_n X.1 X.2.1 d_By_fitsFields_71 rfl (lv_at hl 1 rfl) ?_
              refine lv_iload X.1 X.2.1 d_By_fitsFields_72 (lv_at hl 5 rfl) ?_
              refine lv_iload_n X.1 X.2.1 d_By_fitsFields_74 rfl (lv_at hl 3 rfl) ?_
              obtain ⟨z130, e130, l130, u130⟩ := t_size S k0
              refine t_ui (t_runV (As := [.int (iI z101), .int (iI a3)]) (rest := []) (n := 2) X Y S k0 hml hl.1 (c_By_stop l D E T κ L f H.size h n0 k0 (by omega) z101 (by omega) (by omega) a3 (by omega) (by omega) S.1 z130 e130 (by omega) (by omega)) (ok_k X Y hA KS KR) rfl kl_By_By_stop ks_By_stop kx_By_stop ki_By_stop ini_By ⟨rfl, rfl⟩ hd_By_stop ⟨by simp only [kRm]; omega, by simp only [kRm]; omega⟩ rfl (Nat.le_of_ble_eq_true rfl) d_By_fitsFields_75 ⟨Nat.le_of_ble_eq_true rfl, Nat.le_of_ble_eq_true rfl⟩) X Y hA (fun z131 H locs Y p131 => ?_)
              obtain ⟨l131, u131, x131⟩ := p131
              refine lv_istore (lv' := [(9, .int (iI z131)), (8, .int (iI z111)), (0, .ref h), (1, .ref ((T.2.1 a1))), (3, .int (iI a3)), (4, .int (iI a4)), (5, .int (iI z101)), (6, .int (iI z102))]) X.1 X.2.1 d_By_fitsFields_78 hl (by decide) rfl (fun ls hl => ?_)
              refine lv_iload X.1 X.2.1 d_By_fitsFields_80 (lv_at hl 0 rfl) ?_
              refine z_if_lt (tgt := 112) X.1 X.2.1 d_By_fitsFields_82 (by decide) ⟨by omega, by omega⟩ (fun h132 => ?_) (fun h132 => ?_)
              · refine lv_iconst (v := iI 0) X.1 X.2.1 d_By_fitsFields_112 (by decide) ?_
                exact c_retz hQQ X Y hr hlk (iI_bool (by omega) (by omega)).1 ⟨rfl, rfl, 0, rfl, ⟨by omega, by omega⟩⟩ d_By_fitsFields_113
              · refine lv_aload_n X.1 X.2.1 d_By_fitsFields_85 rfl (lv_at hl 2 rfl) ?_
                refine lv_aload_n X.1 X.2.1 d_By_fitsFields_86 rfl (lv_at hl 3 rfl) ?_
                refine lv_iload X.1 X.2.1 d_By_fitsFields_87 (lv_at hl 7 rfl) ?_
                refine lv_iconst (v := iI 2) X.1 X.2.1 d_By_fitsFields_89 (by decide) ?_
                refine z_iadd X.1 X.2.1 d_By_fitsFields_90 ?_
                refine t_charAt (i := a1) X Y KS k1 (by omega) (by omega) hml hl.1 kl_By_charAt ⟨by simp only [kRm]; omega, by simp only [kRm]; omega⟩ (Nat.le_of_ble_eq_true rfl) d_By_fitsFields_91 ⟨Nat.le_of_ble_eq_true rfl, Nat.le_of_ble_eq_true rfl⟩ (fun H locs z133 Y e133 l133 u133 => ?_)
                refine lv_aload_n X.1 X.2.1 d_By_fitsFields_94 rfl (lv_at hl 2 rfl) ?_
                refine lv_iload X.1 X.2.1 d_By_fitsFields_95 (lv_at hl 6 rfl) ?_
                refine t_ui (t_runV (As := [.int (iI z101)]) (rest := [.int (iI z133), .ref h]) (n := 1) X Y S k0 hml hl.1 (c_By_body l D E T κ L f H.size h n0 k0 (by omega) z101 (by omega) (by omega) S.1 z130 e130 (by omega) (by omega)) (ok_k X Y hA KS KR) rfl kl_By_By_body ks_By_body kx_By_body ki_By_body ini_By ⟨rfl, rfl⟩ hd_By_body ⟨by simp only [kRm]; omega, by simp only [kRm]; omega⟩ rfl (Nat.le_of_ble_eq_true rfl) d_By_fitsFields_97 ⟨Nat.le_of_ble_eq_true rfl, Nat.le_of_ble_eq_true rfl⟩) X Y hA (fun z134 H locs Y p134 => ?_)
                obtain ⟨l134, u134, x134⟩ := p134
                refine lv_iload X.1 X.2.1 d_By_fitsFields_100 (lv_at hl 0 rfl) ?_
                refine lv_iload X.1 X.2.1 d_By_fitsFields_102 (lv_at hl 5 rfl) ?_
                refine lv_iconst (v := iI 1) X.1 X.2.1 d_By_fitsFields_104 (by decide) ?_
                refine z_iadd X.1 X.2.1 d_By_fitsFields_105 ?_
                refine t_ui (t_runV (As := [.int (iI z133), .int (iI z134), .int (iI z131), .int (iI (a4 + 1))]) (rest := []) (n := 4) X Y S k0 hml hl.1 (IH l D E T κ L f H.size h n0 k0 (by omega) z133 (by omega) (by omega) z134 (by omega) (by omega) z131 (by omega) (by omega) (a4 + 1) (by omega) (by omega) S.1 (by omega)) (ok_k X Y hA KS KR) rfl kl_By_By_fits ks_By_fits kx_By_fits ki_By_fits ini_By ⟨rfl, rfl⟩ hd_By_fits ⟨by simp only [kRm]; omega, by simp only [kRm]; omega⟩ rfl (Nat.le_of_ble_eq_true rfl) d_By_fitsFields_106 ⟨Nat.le_of_ble_eq_true rfl, Nat.le_of_ble_eq_true rfl⟩) X Y hA (fun z135 H locs Y p135 => ?_)
                obtain ⟨l135, u135⟩ := p135
                refine z_if_ne (tgt := 114) X.1 X.2.1 d_By_fitsFields_109 (by decide) ⟨by omega, by omega⟩ (fun h136 => ?_) (fun h136 => ?_)
                · refine lv_iload X.1 X.2.1 d_By_fitsFields_114 (lv_at hl 0 rfl) ?_
                  refine lv_istore (lv' := [(5, .int (iI z131)), (9, .int (iI z131)), (8, .int (iI z111)), (0, .ref h), (1, .ref ((T.2.1 a1))), (3, .int (iI a3)), (4, .int (iI a4)), (6, .int (iI z102))]) X.1 X.2.1 d_By_fitsFields_116 hl (by decide) rfl (fun ls hl => ?_)
                  refine lv_goto (tgt := 136) X.1 X.2.1 d_By_fitsFields_118 (by decide) ?_
                  exact J117 z131 _ _ _ (by omega) (by omega) Y S (lv_sub hl [3, 4, 5, 6, 0, 7] rfl)
                · refine lv_iconst (v := iI 0) X.1 X.2.1 d_By_fitsFields_112 (by decide) ?_
                  exact c_retz hQQ X Y hr hlk (iI_bool (by omega) (by omega)).1 ⟨rfl, rfl, 0, rfl, ⟨by omega, by omega⟩⟩ d_By_fitsFields_113
        refine z_icmp_gt (tgt := 40) X.1 X.2.1 d_By_fitsFields_29 (by decide) ⟨by omega, by omega⟩ ⟨by omega, by omega⟩ (fun h137 => ?_) (fun h137 => ?_)
        · refine lv_iload X.1 X.2.1 d_By_fitsFields_40 (lv_at hl 0 rfl) ?_
          refine lv_bipush (v := iI 97) X.1 X.2.1 d_By_fitsFields_42 (by decide) ?_
          refine z_isub X.1 X.2.1 d_By_fitsFields_44 ?_
          refine lv_bipush (v := iI 10) X.1 X.2.1 d_By_fitsFields_45 (by decide) ?_
          refine z_iadd X.1 X.2.1 d_By_fitsFields_47 ?_
          exact J112 ((z110 - 97) + 10) _ _ _ (by omega) (by omega) Y S (lv_sub hl [1, 2, 3, 4, 5, 6] rfl)
        · refine lv_iload X.1 X.2.1 d_By_fitsFields_32 (lv_at hl 0 rfl) ?_
          refine lv_bipush (v := iI 48) X.1 X.2.1 d_By_fitsFields_34 (by decide) ?_
          refine z_isub X.1 X.2.1 d_By_fitsFields_36 ?_
          refine lv_goto (tgt := 48) X.1 X.2.1 d_By_fitsFields_37 (by decide) ?_
          exact J112 (z110 - 48) _ _ _ (by omega) (by omega) Y S (lv_sub hl [1, 2, 3, 4, 5, 6] rfl)
  refine lv_istore (lv' := [(6, .int (iI 0)), (5, .int (iI a2)), (0, .ref h), (1, .ref ((T.2.1 a1))), (2, .int (iI a2)), (3, .int (iI a3)), (4, .int (iI a4))]) X.1 X.2.1 d_By_fitsFields_4 hl (by decide) rfl (fun ls hl => ?_)
  exact J103 _ a2 0 _ _ _ rfl (by omega) (by omega) (by omega) (by omega) Y S (lv_sub hl [2, 3, 5, 6, 1, 0] rfl)
set_option maxHeartbeats 4000000 in
set_option maxRecDepth 100000 in
theorem c_By_fitsInside (d : Nat) (IH : C_fits d) (l : Launch) (D : va_G) (E : cE) (T : cT) (κ : tK) (L : List Nat) (f : pF) (sz : Nat) (h n0 : Nat) (k0 : κ h = (13, n0)) (x0 : n0 ≤ 12288) (a1 : Int) (l_a1 : (-2147483648) ≤ a1) (u_a1 : a1 ≤ 2147483647) (a2 : Int) (l_a2 : (-1) ≤ a2) (u_a2 : a2 ≤ 20200) (a3 : Int) (l_a3 : 0 ≤ a3) (u_a3 : a3 ≤ 20200) (a4 : Int) (l_a4 : 0 ≤ a4) (u_a4 : a4 ≤ 20) (hw : tW E T κ L f) (hd : 21 ≤ a4 + (d + 1)) : Met l y_By_fitsInside (k_By_fitsInside :: lw_tg) (kRm (8 + 3 * d) (180 + 100 * d) 0 0) (va_Pc [.ref h, .int (iI a1), .int (iI a2), .int (iI a3), .int (iI a4)] (kPre D E T L f sz)) (va_Qi (uPi L f (fun (z : Int) => 0 ≤ z ∧ z ≤ 1)) (cPost D E (pA L sz)) (pA L sz)) 0 0 (pA L sz) := by
  refine k_enter (own := R_By) (by decide) rfl (Nat.le_of_ble_eq_true rfl) (fun p e s m below meth c ls AV QQ H locs hQQ X Y hA hin hr hlk hml hl KS KR => ?_)
  have hl : lv_has ls 5 [(0, .ref h), (1, .int (iI a1)), (2, .int (iI a2)), (3, .int (iI a3)), (4, .int (iI a4))] := hl
  have S : tS E T (tFr κ L [] []) κ L f κ L f := tS_rf hw
  refine lv_iload_n X.1 X.2.1 d_By_fitsInside_0 rfl (lv_at hl 1 rfl) ?_
  refine lv_bipush (v := iI 65) X.1 X.2.1 d_By_fitsInside_1 (by decide) ?_
  have J101 : ∀  (H : Heap) (locs : List Loc) (ls : Array Slot), pH D cCl (pA L sz) s.heap L f H locs → tS E T (tFr κ L [] []) κ L f κ L f → lv_has ls 5 [(0, .ref h), (1, .int (iI a1)), (2, .int (iI a2)), (3, .int (iI a3)), (4, .int (iI a4))] → W p l e (kRm (8 + 3 * d) (180 + 100 * d) 0 0) s m AV below meth c H locs 0 0 QQ (F0 m 28 ls []) := by
    intro  H locs ls  Y S hl
    refine lv_iload_n X.1 X.2.1 d_By_fitsInside_28 rfl (lv_at hl 1 rfl) ?_
    refine t_ui (x_runS (As := [.int (iI a1)]) (rest := []) (n := 1) X hml hl.1 (c_By_tagOf l D E T κ L f H.size a1 (by omega) (by omega) S.1) (ok_k X Y hA KS KR) kl_By_By_tagOf ks_By_tagOf ki_By_tagOf ini_By ⟨rfl, rfl⟩ hd_By_tagOf.2 ⟨by simp only [kRm]; omega, by simp only [kRm]; omega⟩ rfl (Nat.le_of_ble_eq_true rfl) d_By_fitsInside_29 ⟨Nat.le_of_ble_eq_true rfl, Nat.le_of_ble_eq_true rfl⟩) X Y hA (fun z105 H locs Y p105 => ?_)
    obtain ⟨l105, u105⟩ := p105
    refine lv_bipush (v := iI 48) X.1 X.2.1 d_By_fitsInside_32 (by decide) ?_
    refine z_icmp_ne (tgt := 50) X.1 X.2.1 d_By_fitsInside_34 (by decide) ⟨by omega, by omega⟩ ⟨by omega, by omega⟩ (fun h106 => ?_) (fun h106 => ?_)
    · refine lv_aload_n X.1 X.2.1 d_By_fitsInside_50 rfl (lv_at hl 0 rfl) ?_
      refine lv_iload_n X.1 X.2.1 d_By_fitsInside_51 rfl (lv_at hl 2 rfl) ?_
      refine t_ui (t_runV (As := [.int (iI a2)]) (rest := []) (n := 1) X Y S k0 hml hl.1 (c_By_at l D E T κ L f H.size h n0 k0 (by omega) a2 (by omega) (by omega) S.1) (ok_k X Y hA KS KR) rfl kl_By_By_at ks_By_at kx_By_at ki_By_at ini_By ⟨rfl, rfl⟩ hd_By_at ⟨by simp only [kRm]; omega, by simp only [kRm]; omega⟩ rfl (Nat.le_of_ble_eq_true rfl) d_By_fitsInside_52 ⟨Nat.le_of_ble_eq_true rfl, Nat.le_of_ble_eq_true rfl⟩) X Y hA (fun z107 H locs Y p107 => ?_)
      obtain ⟨l107, u107⟩ := p107
      refine lv_bipush (v := iI 48) X.1 X.2.1 d_By_fitsInside_55 (by decide) ?_
      refine z_icmp_ne (tgt := 93) X.1 X.2.1 d_By_fitsInside_57 (by decide) ⟨by omega, by omega⟩ ⟨by omega, by omega⟩ (fun h108 => ?_) (fun h108 => ?_)
      · refine lv_iconst (v := iI 0) X.1 X.2.1 d_By_fitsInside_93 (by decide) ?_
        exact c_retz hQQ X Y hr hlk (iI_bool (by omega) (by omega)).1 ⟨rfl, rfl, 0, rfl, ⟨by omega, by omega⟩⟩ d_By_fitsInside_94
      · refine lv_aload_n X.1 X.2.1 d_By_fitsInside_60 rfl (lv_at hl 0 rfl) ?_
        refine lv_iload_n X.1 X.2.1 d_By_fitsInside_61 rfl (lv_at hl 2 rfl) ?_
        refine lv_iload_n X.1 X.2.1 d_By_fitsInside_62 rfl (lv_at hl 3 rfl) ?_
        obtain ⟨z109, e109, l109, u109⟩ := t_size S k0
        refine t_ui (t_runV (As := [.int (iI a2), .int (iI a3)]) (rest := []) (n := 2) X Y S k0 hml hl.1 (c_By_stop l D E T κ L f H.size h n0 k0 (by omega) a2 (by omega) (by omega) a3 (by omega) (by omega) S.1 z109 e109 (by omega) (by omega)) (ok_k X Y hA KS KR) rfl kl_By_By_stop ks_By_stop kx_By_stop ki_By_stop ini_By ⟨rfl, rfl⟩ hd_By_stop ⟨by simp only [kRm]; omega, by simp only [kRm]; omega⟩ rfl (Nat.le_of_ble_eq_true rfl) d_By_fitsInside_63 ⟨Nat.le_of_ble_eq_true rfl, Nat.le_of_ble_eq_true rfl⟩) X Y hA (fun z110 H locs Y p110 => ?_)
        obtain ⟨l110, u110, x110⟩ := p110
        refine lv_iload_n X.1 X.2.1 d_By_fitsInside_66 rfl (lv_at hl 3 rfl) ?_
        refine z_icmp_ne (tgt := 93) X.1 X.2.1 d_By_fitsInside_67 (by decide) ⟨by omega, by omega⟩ ⟨by omega, by omega⟩ (fun h111 => ?_) (fun h111 => ?_)
        · refine lv_iconst (v := iI 0) X.1 X.2.1 d_By_fitsInside_93 (by decide) ?_
          exact c_retz hQQ X Y hr hlk (iI_bool (by omega) (by omega)).1 ⟨rfl, rfl, 0, rfl, ⟨by omega, by omega⟩⟩ d_By_fitsInside_94
        · refine lv_aload_n X.1 X.2.1 d_By_fitsInside_70 rfl (lv_at hl 0 rfl) ?_
          refine lv_iload_n X.1 X.2.1 d_By_fitsInside_71 rfl (lv_at hl 1 rfl) ?_
          refine t_ur (x_runS (As := [.int (iI a1)]) (rest := [.ref h]) (n := 1) X hml hl.1 (c_By_shapeOf l D E T κ L f H.size a1 (by omega) (by omega) S.1) (ok_k X Y hA KS KR) kl_By_By_shapeOf ks_By_shapeOf ki_By_shapeOf ini_By ⟨rfl, rfl⟩ hd_By_shapeOf.2 ⟨by simp only [kRm]; omega, by simp only [kRm]; omega⟩ rfl (Nat.le_of_ble_eq_true rfl) d_By_fitsInside_72 ⟨Nat.le_of_ble_eq_true rfl, Nat.le_of_ble_eq_true rfl⟩) X Y hA (fun b112 H locs Y p112 => ?_)
          obtain ⟨y112, k112, q112⟩ := p112
          subst q112
          refine lv_aload_n X.1 X.2.1 d_By_fitsInside_75 rfl (lv_at hl 0 rfl) ?_
          refine lv_iload_n X.1 X.2.1 d_By_fitsInside_76 rfl (lv_at hl 2 rfl) ?_
          refine t_ui (t_runV (As := [.int (iI a2)]) (rest := [.ref ((T.2.1 y112)), .ref h]) (n := 1) X Y S k0 hml hl.1 (c_By_body l D E T κ L f H.size h n0 k0 (by omega) a2 (by omega) (by omega) S.1 z109 e109 (by omega) (by omega)) (ok_k X Y hA KS KR) rfl kl_By_By_body ks_By_body kx_By_body ki_By_body ini_By ⟨rfl, rfl⟩ hd_By_body ⟨by simp only [kRm]; omega, by simp only [kRm]; omega⟩ rfl (Nat.le_of_ble_eq_true rfl) d_By_fitsInside_77 ⟨Nat.le_of_ble_eq_true rfl, Nat.le_of_ble_eq_true rfl⟩) X Y hA (fun z113 H locs Y p113 => ?_)
          obtain ⟨l113, u113, x113⟩ := p113
          refine lv_iload_n X.1 X.2.1 d_By_fitsInside_80 rfl (lv_at hl 3 rfl) ?_
          refine lv_iload X.1 X.2.1 d_By_fitsInside_81 (lv_at hl 4 rfl) ?_
          refine t_ui (t_runV (As := [.ref ((T.2.1 y112)), .int (iI z113), .int (iI a3), .int (iI a4)]) (rest := []) (n := 4) X Y S k0 hml hl.1 (c_By_fitsFields d IH l D E T κ L f H.size h n0 k0 (by omega) y112 k112 z113 (by omega) (by omega) a3 (by omega) (by omega) a4 (by omega) (by omega) S.1 hd) (ok_k X Y hA KS KR) rfl kl_By_By_fitsFields ks_By_fitsFields kx_By_fitsFields ki_By_fitsFields ini_By ⟨rfl, rfl⟩ hd_By_fitsFields ⟨by simp only [kRm]; omega, by simp only [kRm]; omega⟩ rfl (Nat.le_of_ble_eq_true rfl) d_By_fitsInside_83 ⟨Nat.le_of_ble_eq_true rfl, Nat.le_of_ble_eq_true rfl⟩) X Y hA (fun z114 H locs Y p114 => ?_)
          obtain ⟨l114, u114⟩ := p114
          refine z_if_eq (tgt := 93) X.1 X.2.1 d_By_fitsInside_86 (by decide) ⟨by omega, by omega⟩ (fun h115 => ?_) (fun h115 => ?_)
          · refine lv_iconst (v := iI 0) X.1 X.2.1 d_By_fitsInside_93 (by decide) ?_
            exact c_retz hQQ X Y hr hlk (iI_bool (by omega) (by omega)).1 ⟨rfl, rfl, 0, rfl, ⟨by omega, by omega⟩⟩ d_By_fitsInside_94
          · refine lv_iconst (v := iI 1) X.1 X.2.1 d_By_fitsInside_89 (by decide) ?_
            refine lv_goto (tgt := 94) X.1 X.2.1 d_By_fitsInside_90 (by decide) ?_
            exact c_retz hQQ X Y hr hlk (iI_bool (by omega) (by omega)).1 ⟨rfl, rfl, 1, rfl, ⟨by omega, by omega⟩⟩ d_By_fitsInside_94
    · refine lv_aload_n X.1 X.2.1 d_By_fitsInside_37 rfl (lv_at hl 0 rfl) ?_
      refine lv_iload_n X.1 X.2.1 d_By_fitsInside_38 rfl (lv_at hl 1 rfl) ?_
      refine t_ur (x_runS (As := [.int (iI a1)]) (rest := [.ref h]) (n := 1) X hml hl.1 (c_By_shapeOf l D E T κ L f H.size a1 (by omega) (by omega) S.1) (ok_k X Y hA KS KR) kl_By_By_shapeOf ks_By_shapeOf ki_By_shapeOf ini_By ⟨rfl, rfl⟩ hd_By_shapeOf.2 ⟨by simp only [kRm]; omega, by simp only [kRm]; omega⟩ rfl (Nat.le_of_ble_eq_true rfl) d_By_fitsInside_39 ⟨Nat.le_of_ble_eq_true rfl, Nat.le_of_ble_eq_true rfl⟩) X Y hA (fun b116 H locs Y p116 => ?_)
      obtain ⟨y116, k116, q116⟩ := p116
      subst q116
      refine lv_iload_n X.1 X.2.1 d_By_fitsInside_42 rfl (lv_at hl 2 rfl) ?_
      refine lv_iload_n X.1 X.2.1 d_By_fitsInside_43 rfl (lv_at hl 3 rfl) ?_
      refine lv_iload X.1 X.2.1 d_By_fitsInside_44 (lv_at hl 4 rfl) ?_
      refine t_ui (t_runV (As := [.ref ((T.2.1 y116)), .int (iI a2), .int (iI a3), .int (iI a4)]) (rest := []) (n := 4) X Y S k0 hml hl.1 (c_By_fitsFields d IH l D E T κ L f H.size h n0 k0 (by omega) y116 k116 a2 (by omega) (by omega) a3 (by omega) (by omega) a4 (by omega) (by omega) S.1 hd) (ok_k X Y hA KS KR) rfl kl_By_By_fitsFields ks_By_fitsFields kx_By_fitsFields ki_By_fitsFields ini_By ⟨rfl, rfl⟩ hd_By_fitsFields ⟨by simp only [kRm]; omega, by simp only [kRm]; omega⟩ rfl (Nat.le_of_ble_eq_true rfl) d_By_fitsInside_46 ⟨Nat.le_of_ble_eq_true rfl, Nat.le_of_ble_eq_true rfl⟩) X Y hA (fun z117 H locs Y p117 => ?_)
      obtain ⟨l117, u117⟩ := p117
      exact c_retz hQQ X Y hr hlk (iI_bool (by omega) (by omega)).1 ⟨rfl, rfl, z117, rfl, ⟨by omega, by omega⟩⟩ d_By_fitsInside_49
  refine z_icmp_lt (tgt := 28) X.1 X.2.1 d_By_fitsInside_3 (by decide) ⟨by omega, by omega⟩ ⟨by omega, by omega⟩ (fun h118 => ?_) (fun h118 => ?_)
  · exact J101  _ _ _  Y S (lv_sub hl [0, 1, 2, 3, 4] rfl)
  · refine lv_iload_n X.1 X.2.1 d_By_fitsInside_6 rfl (lv_at hl 1 rfl) ?_
    refine lv_bipush (v := iI 90) X.1 X.2.1 d_By_fitsInside_7 (by decide) ?_
    refine z_icmp_gt (tgt := 28) X.1 X.2.1 d_By_fitsInside_9 (by decide) ⟨by omega, by omega⟩ ⟨by omega, by omega⟩ (fun h119 => ?_) (fun h119 => ?_)
    · exact J101  _ _ _  Y S (lv_sub hl [0, 1, 2, 3, 4] rfl)
    · refine lv_aload_n X.1 X.2.1 d_By_fitsInside_12 rfl (lv_at hl 0 rfl) ?_
      refine lv_iload_n X.1 X.2.1 d_By_fitsInside_13 rfl (lv_at hl 1 rfl) ?_
      refine lv_bipush (v := iI 65) X.1 X.2.1 d_By_fitsInside_14 (by decide) ?_
      refine z_isub X.1 X.2.1 d_By_fitsInside_16 ?_
      refine lv_bipush (v := iI 97) X.1 X.2.1 d_By_fitsInside_17 (by decide) ?_
      refine z_iadd X.1 X.2.1 d_By_fitsInside_19 ?_
      refine lv_iload_n X.1 X.2.1 d_By_fitsInside_20 rfl (lv_at hl 2 rfl) ?_
      refine lv_iload_n X.1 X.2.1 d_By_fitsInside_21 rfl (lv_at hl 3 rfl) ?_
      refine lv_iload X.1 X.2.1 d_By_fitsInside_22 (lv_at hl 4 rfl) ?_
      refine t_ui (t_runV (As := [.int (iI ((a1 - 65) + 97)), .int (iI a2), .int (iI a3), .int (iI a4)]) (rest := []) (n := 4) X Y S k0 hml hl.1 (c_By_fitsRow d IH l D E T κ L f H.size h n0 k0 (by omega) ((a1 - 65) + 97) (by omega) (by omega) a2 (by omega) (by omega) a3 (by omega) (by omega) a4 (by omega) (by omega) S.1 hd) (ok_k X Y hA KS KR) rfl kl_By_By_fitsRow ks_By_fitsRow kx_By_fitsRow ki_By_fitsRow ini_By ⟨rfl, rfl⟩ hd_By_fitsRow ⟨by simp only [kRm]; omega, by simp only [kRm]; omega⟩ rfl (Nat.le_of_ble_eq_true rfl) d_By_fitsInside_24 ⟨Nat.le_of_ble_eq_true rfl, Nat.le_of_ble_eq_true rfl⟩) X Y hA (fun z120 H locs Y p120 => ?_)
      obtain ⟨l120, u120⟩ := p120
      exact c_retz hQQ X Y hr hlk (iI_bool (by omega) (by omega)).1 ⟨rfl, rfl, z120, rfl, ⟨by omega, by omega⟩⟩ d_By_fitsInside_27
set_option maxHeartbeats 4000000 in
set_option maxRecDepth 100000 in
theorem c_By_fits0 (l : Launch) (D : va_G) (E : cE) (T : cT) (κ : tK) (L : List Nat) (f : pF) (sz : Nat) (h n0 : Nat) (k0 : κ h = (13, n0)) (x0 : n0 ≤ 12288) (a1 : Int) (l_a1 : (-2147483648) ≤ a1) (u_a1 : a1 ≤ 2147483647) (a2 : Int) (l_a2 : (-1) ≤ a2) (u_a2 : a2 ≤ 20200) (a3 : Int) (l_a3 : 0 ≤ a3) (u_a3 : a3 ≤ 20200) (a4 : Int) (l_a4 : 21 ≤ a4) (u_a4 : a4 ≤ 21) (hw : tW E T κ L f) : Met l y_By_fits (k_By_fits :: lw_tg) (kRm 6 110 0 0) (va_Pc [.ref h, .int (iI a1), .int (iI a2), .int (iI a3), .int (iI a4)] (kPre D E T L f sz)) (va_Qi (uPi L f (fun (z : Int) => 0 ≤ z ∧ z ≤ 1)) (cPost D E (pA L sz)) (pA L sz)) 0 0 (pA L sz) := by
  refine k_enter (own := R_By) (by decide) rfl (Nat.le_of_ble_eq_true rfl) (fun p e s m below meth c ls AV QQ H locs hQQ X Y hA hin hr hlk hml hl KS KR => ?_)
  have hl : lv_has ls 7 [(0, .ref h), (1, .int (iI a1)), (2, .int (iI a2)), (3, .int (iI a3)), (4, .int (iI a4))] := hl
  have S : tS E T (tFr κ L [] []) κ L f κ L f := tS_rf hw
  refine lv_iload X.1 X.2.1 d_By_fits_0 (lv_at hl 4 rfl) ?_
  refine lv_bipush (v := iI 20) X.1 X.2.1 d_By_fits_2 (by decide) ?_
  refine z_icmp_gt (tgt := 21) X.1 X.2.1 d_By_fits_4 (by decide) ⟨by omega, by omega⟩ ⟨by omega, by omega⟩ (fun h101 => ?_) (fun h101 => False.elim (by omega))
  · refine lv_iconst (v := iI 0) X.1 X.2.1 d_By_fits_21 (by decide) ?_
    exact c_retz hQQ X Y hr hlk (iI_bool (by omega) (by omega)).1 ⟨rfl, rfl, 0, rfl, ⟨by omega, by omega⟩⟩ d_By_fits_22
set_option maxHeartbeats 4000000 in
set_option maxRecDepth 100000 in
theorem c_By_fits (d : Nat) (IH : C_fits d) (l : Launch) (D : va_G) (E : cE) (T : cT) (κ : tK) (L : List Nat) (f : pF) (sz : Nat) (h n0 : Nat) (k0 : κ h = (13, n0)) (x0 : n0 ≤ 12288) (a1 : Int) (l_a1 : (-2147483648) ≤ a1) (u_a1 : a1 ≤ 2147483647) (a2 : Int) (l_a2 : (-1) ≤ a2) (u_a2 : a2 ≤ 20200) (a3 : Int) (l_a3 : 0 ≤ a3) (u_a3 : a3 ≤ 20200) (a4 : Int) (l_a4 : 0 ≤ a4) (u_a4 : a4 ≤ 21) (hw : tW E T κ L f) (hd : 21 ≤ a4 + (d + 1)) : Met l y_By_fits (k_By_fits :: lw_tg) (kRm (6 + 3 * d + 3) (110 + 100 * d + 100) 0 0) (va_Pc [.ref h, .int (iI a1), .int (iI a2), .int (iI a3), .int (iI a4)] (kPre D E T L f sz)) (va_Qi (uPi L f (fun (z : Int) => 0 ≤ z ∧ z ≤ 1)) (cPost D E (pA L sz)) (pA L sz)) 0 0 (pA L sz) := by
  refine k_enter (own := R_By) (by decide) rfl (Nat.le_of_ble_eq_true rfl) (fun p e s m below meth c ls AV QQ H locs hQQ X Y hA hin hr hlk hml hl KS KR => ?_)
  have hl : lv_has ls 7 [(0, .ref h), (1, .int (iI a1)), (2, .int (iI a2)), (3, .int (iI a3)), (4, .int (iI a4))] := hl
  have S : tS E T (tFr κ L [] []) κ L f κ L f := tS_rf hw
  refine lv_iload X.1 X.2.1 d_By_fits_0 (lv_at hl 4 rfl) ?_
  refine lv_bipush (v := iI 20) X.1 X.2.1 d_By_fits_2 (by decide) ?_
  refine z_icmp_gt (tgt := 21) X.1 X.2.1 d_By_fits_4 (by decide) ⟨by omega, by omega⟩ ⟨by omega, by omega⟩ (fun h101 => ?_) (fun h101 => ?_)
  · refine lv_iconst (v := iI 0) X.1 X.2.1 d_By_fits_21 (by decide) ?_
    exact c_retz hQQ X Y hr hlk (iI_bool (by omega) (by omega)).1 ⟨rfl, rfl, 0, rfl, ⟨by omega, by omega⟩⟩ d_By_fits_22
  · refine lv_iload_n X.1 X.2.1 d_By_fits_7 rfl (lv_at hl 2 rfl) ?_
    refine z_if_lt (tgt := 21) X.1 X.2.1 d_By_fits_8 (by decide) ⟨by omega, by omega⟩ (fun h102 => ?_) (fun h102 => ?_)
    · refine lv_iconst (v := iI 0) X.1 X.2.1 d_By_fits_21 (by decide) ?_
      exact c_retz hQQ X Y hr hlk (iI_bool (by omega) (by omega)).1 ⟨rfl, rfl, 0, rfl, ⟨by omega, by omega⟩⟩ d_By_fits_22
    · refine lv_aload_n X.1 X.2.1 d_By_fits_11 rfl (lv_at hl 0 rfl) ?_
      refine lv_iload_n X.1 X.2.1 d_By_fits_12 rfl (lv_at hl 2 rfl) ?_
      refine lv_iload_n X.1 X.2.1 d_By_fits_13 rfl (lv_at hl 3 rfl) ?_
      obtain ⟨z103, e103, l103, u103⟩ := t_size S k0
      refine t_ui (t_runV (As := [.int (iI a2), .int (iI a3)]) (rest := []) (n := 2) X Y S k0 hml hl.1 (c_By_stop l D E T κ L f H.size h n0 k0 (by omega) a2 (by omega) (by omega) a3 (by omega) (by omega) S.1 z103 e103 (by omega) (by omega)) (ok_k X Y hA KS KR) rfl kl_By_By_stop ks_By_stop kx_By_stop ki_By_stop ini_By ⟨rfl, rfl⟩ hd_By_stop ⟨by simp only [kRm]; omega, by simp only [kRm]; omega⟩ rfl (Nat.le_of_ble_eq_true rfl) d_By_fits_14 ⟨Nat.le_of_ble_eq_true rfl, Nat.le_of_ble_eq_true rfl⟩) X Y hA (fun z104 H locs Y p104 => ?_)
      obtain ⟨l104, u104, x104⟩ := p104
      refine lv_iload_n X.1 X.2.1 d_By_fits_17 rfl (lv_at hl 3 rfl) ?_
      refine z_icmp_eq (tgt := 23) X.1 X.2.1 d_By_fits_18 (by decide) ⟨by omega, by omega⟩ ⟨by omega, by omega⟩ (fun h105 => ?_) (fun h105 => ?_)
      · refine lv_aload_n X.1 X.2.1 d_By_fits_23 rfl (lv_at hl 0 rfl) ?_
        refine t_getrow (ci := 3) X Y S k0 rfl i_By 0 (by decide) rfl lk_By_15 (fun _ h9 => h9) d_By_fits_24 (fun b106 e106 k106 => ?_)
        refine lv_iload_n X.1 X.2.1 d_By_fits_27 rfl (lv_at hl 2 rfl) ?_
        refine t_bald X Y S (Or.inl k106) (by omega) (by omega) (by omega) d_By_fits_28 (fun z107 l107 u107 => ?_)
        refine lv_sipush (v := iI 255) X.1 X.2.1 d_By_fits_29 (by decide) ?_
        refine z_iand X.1 X.2.1 (by omega) (by omega) d_By_fits_32 (fun z108 l108 u108 => ?_)
        refine lv_istore (lv' := [(5, .int (iI z108)), (0, .ref h), (1, .int (iI a1)), (2, .int (iI a2)), (3, .int (iI a3)), (4, .int (iI a4))]) X.1 X.2.1 d_By_fits_33 hl (by decide) rfl (fun ls hl => ?_)
        refine lv_aload_n X.1 X.2.1 d_By_fits_35 rfl (lv_at hl 1 rfl) ?_
        refine lv_iload_n X.1 X.2.1 d_By_fits_36 rfl (lv_at hl 3 rfl) ?_
        refine t_ui (t_runV (As := [.int (iI a2)]) (rest := []) (n := 1) X Y S k0 hml hl.1 (c_By_body l D E T κ L f H.size h n0 k0 (by omega) a2 (by omega) (by omega) S.1 z103 e103 (by omega) (by omega)) (ok_k X Y hA KS KR) rfl kl_By_By_body ks_By_body kx_By_body ki_By_body ini_By ⟨rfl, rfl⟩ hd_By_body ⟨by simp only [kRm]; omega, by simp only [kRm]; omega⟩ rfl (Nat.le_of_ble_eq_true rfl) d_By_fits_37 ⟨Nat.le_of_ble_eq_true rfl, Nat.le_of_ble_eq_true rfl⟩) X Y hA (fun z109 H locs Y p109 => ?_)
        obtain ⟨l109, u109, x109⟩ := p109
        refine lv_istore (lv' := [(6, .int (iI z109)), (5, .int (iI z108)), (0, .ref h), (1, .int (iI a1)), (2, .int (iI a2)), (3, .int (iI a3)), (4, .int (iI a4))]) X.1 X.2.1 d_By_fits_40 hl (by decide) rfl (fun ls hl => ?_)
        refine lv_iload_n X.1 X.2.1 d_By_fits_42 rfl (lv_at hl 3 rfl) ?_
        by_cases h110 : a1 = 98
        · rw [h110]
          refine lv_tableIn (off := 219) (tgt := 262) X.1 X.2.1 d_By_fits_43 (by decide) (by decide) (by decide) (by decide) ?_
          refine lv_iload X.1 X.2.1 d_By_fits_262 (lv_at hl 1 rfl) ?_
          refine lv_iconst (v := iI 3) X.1 X.2.1 d_By_fits_264 (by decide) ?_
          refine z_icmp_ne (tgt := 290) X.1 X.2.1 d_By_fits_265 (by decide) ⟨by omega, by omega⟩ ⟨by omega, by omega⟩ (fun h111 => ?_) (fun h111 => ?_)
          · refine lv_iconst (v := iI 0) X.1 X.2.1 d_By_fits_290 (by decide) ?_
            exact c_retz hQQ X Y hr hlk (iI_bool (by omega) (by omega)).1 ⟨rfl, rfl, 0, rfl, ⟨by omega, by omega⟩⟩ d_By_fits_291
          · refine lv_iload_n X.1 X.2.1 d_By_fits_268 rfl (lv_at hl 5 rfl) ?_
            refine lv_iload X.1 X.2.1 d_By_fits_269 (lv_at hl 0 rfl) ?_
            refine z_isub X.1 X.2.1 d_By_fits_271 ?_
            refine lv_iconst (v := iI 5) X.1 X.2.1 d_By_fits_272 (by decide) ?_
            refine z_icmp_lt (tgt := 290) X.1 X.2.1 d_By_fits_273 (by decide) ⟨by omega, by omega⟩ ⟨by omega, by omega⟩ (fun h112 => ?_) (fun h112 => ?_)
            · refine lv_iconst (v := iI 0) X.1 X.2.1 d_By_fits_290 (by decide) ?_
              exact c_retz hQQ X Y hr hlk (iI_bool (by omega) (by omega)).1 ⟨rfl, rfl, 0, rfl, ⟨by omega, by omega⟩⟩ d_By_fits_291
            · refine lv_aload_n X.1 X.2.1 d_By_fits_276 rfl (lv_at hl 2 rfl) ?_
              refine t_get0 (ci := 3) X Y S k0 rfl i_By 0 (by decide) rfl lk_By_15 (fun _ h9 => h9) d_By_fits_277 e106 ?_
              refine lv_iload X.1 X.2.1 d_By_fits_280 (lv_at hl 0 rfl) ?_
              refine t_bald X Y S (Or.inl k106) (by omega) (by omega) (by omega) d_By_fits_282 (fun z113 l113 u113 => ?_)
              refine z_if_ne (tgt := 290) X.1 X.2.1 d_By_fits_283 (by decide) ⟨by omega, by omega⟩ (fun h114 => ?_) (fun h114 => ?_)
              · refine lv_iconst (v := iI 0) X.1 X.2.1 d_By_fits_290 (by decide) ?_
                exact c_retz hQQ X Y hr hlk (iI_bool (by omega) (by omega)).1 ⟨rfl, rfl, 0, rfl, ⟨by omega, by omega⟩⟩ d_By_fits_291
              · refine lv_iconst (v := iI 1) X.1 X.2.1 d_By_fits_286 (by decide) ?_
                refine lv_goto (tgt := 291) X.1 X.2.1 d_By_fits_287 (by decide) ?_
                exact c_retz hQQ X Y hr hlk (iI_bool (by omega) (by omega)).1 ⟨rfl, rfl, 1, rfl, ⟨by omega, by omega⟩⟩ d_By_fits_291
        by_cases h115 : a1 = 99
        · rw [h115]
          refine lv_tableIn (off := 261) (tgt := 304) X.1 X.2.1 d_By_fits_43 (by decide) (by decide) (by decide) (by decide) ?_
          refine lv_iload X.1 X.2.1 d_By_fits_304 (lv_at hl 1 rfl) ?_
          refine lv_iload_n X.1 X.2.1 d_By_fits_306 rfl (lv_at hl 3 rfl) ?_
          refine t_ui (x_runS (As := [.int (iI a1)]) (rest := [.int (iI z108)]) (n := 1) X hml hl.1 (c_By_tagOf l D E T κ L f H.size a1 (by omega) (by omega) S.1) (ok_k X Y hA KS KR) kl_By_By_tagOf ks_By_tagOf ki_By_tagOf ini_By ⟨rfl, rfl⟩ hd_By_tagOf.2 ⟨by simp only [kRm]; omega, by simp only [kRm]; omega⟩ rfl (Nat.le_of_ble_eq_true rfl) d_By_fits_307 ⟨Nat.le_of_ble_eq_true rfl, Nat.le_of_ble_eq_true rfl⟩) X Y hA (fun z116 H locs Y p116 => ?_)
          obtain ⟨l116, u116⟩ := p116
          refine z_icmp_ne (tgt := 330) X.1 X.2.1 d_By_fits_310 (by decide) ⟨by omega, by omega⟩ ⟨by omega, by omega⟩ (fun h117 => ?_) (fun h117 => ?_)
          · refine lv_iconst (v := iI 0) X.1 X.2.1 d_By_fits_330 (by decide) ?_
            exact c_retz hQQ X Y hr hlk (iI_bool (by omega) (by omega)).1 ⟨rfl, rfl, 0, rfl, ⟨by omega, by omega⟩⟩ d_By_fits_331
          · refine lv_aload_n X.1 X.2.1 d_By_fits_313 rfl (lv_at hl 2 rfl) ?_
            refine lv_iload_n X.1 X.2.1 d_By_fits_314 rfl (lv_at hl 3 rfl) ?_
            refine lv_iload X.1 X.2.1 d_By_fits_315 (lv_at hl 0 rfl) ?_
            refine lv_iload_n X.1 X.2.1 d_By_fits_317 rfl (lv_at hl 5 rfl) ?_
            refine lv_iload X.1 X.2.1 d_By_fits_318 (lv_at hl 6 rfl) ?_
            refine t_ui (t_runV (As := [.int (iI a1), .int (iI z109), .int (iI a3), .int (iI a4)]) (rest := []) (n := 4) X Y S k0 hml hl.1 (c_By_fitsInside d IH l D E T κ L f H.size h n0 k0 (by omega) a1 (by omega) (by omega) z109 (by omega) (by omega) a3 (by omega) (by omega) a4 (by omega) (by omega) S.1 hd) (ok_k X Y hA KS KR) rfl kl_By_By_fitsInside ks_By_fitsInside kx_By_fitsInside ki_By_fitsInside ini_By ⟨rfl, rfl⟩ hd_By_fitsInside ⟨by simp only [kRm]; omega, by simp only [kRm]; omega⟩ rfl (Nat.le_of_ble_eq_true rfl) d_By_fits_320 ⟨Nat.le_of_ble_eq_true rfl, Nat.le_of_ble_eq_true rfl⟩) X Y hA (fun z118 H locs Y p118 => ?_)
            obtain ⟨l118, u118⟩ := p118
            refine z_if_eq (tgt := 330) X.1 X.2.1 d_By_fits_323 (by decide) ⟨by omega, by omega⟩ (fun h119 => ?_) (fun h119 => ?_)
            · refine lv_iconst (v := iI 0) X.1 X.2.1 d_By_fits_330 (by decide) ?_
              exact c_retz hQQ X Y hr hlk (iI_bool (by omega) (by omega)).1 ⟨rfl, rfl, 0, rfl, ⟨by omega, by omega⟩⟩ d_By_fits_331
            · refine lv_iconst (v := iI 1) X.1 X.2.1 d_By_fits_326 (by decide) ?_
              refine lv_goto (tgt := 331) X.1 X.2.1 d_By_fits_327 (by decide) ?_
              exact c_retz hQQ X Y hr hlk (iI_bool (by omega) (by omega)).1 ⟨rfl, rfl, 1, rfl, ⟨by omega, by omega⟩⟩ d_By_fits_331
        by_cases h120 : a1 = 100
        · rw [h120]
          refine lv_tableIn (off := 261) (tgt := 304) X.1 X.2.1 d_By_fits_43 (by decide) (by decide) (by decide) (by decide) ?_
          refine lv_iload X.1 X.2.1 d_By_fits_304 (lv_at hl 1 rfl) ?_
          refine lv_iload_n X.1 X.2.1 d_By_fits_306 rfl (lv_at hl 3 rfl) ?_
          refine t_ui (x_runS (As := [.int (iI a1)]) (rest := [.int (iI z108)]) (n := 1) X hml hl.1 (c_By_tagOf l D E T κ L f H.size a1 (by omega) (by omega) S.1) (ok_k X Y hA KS KR) kl_By_By_tagOf ks_By_tagOf ki_By_tagOf ini_By ⟨rfl, rfl⟩ hd_By_tagOf.2 ⟨by simp only [kRm]; omega, by simp only [kRm]; omega⟩ rfl (Nat.le_of_ble_eq_true rfl) d_By_fits_307 ⟨Nat.le_of_ble_eq_true rfl, Nat.le_of_ble_eq_true rfl⟩) X Y hA (fun z121 H locs Y p121 => ?_)
          obtain ⟨l121, u121⟩ := p121
          refine z_icmp_ne (tgt := 330) X.1 X.2.1 d_By_fits_310 (by decide) ⟨by omega, by omega⟩ ⟨by omega, by omega⟩ (fun h122 => ?_) (fun h122 => ?_)
          · refine lv_iconst (v := iI 0) X.1 X.2.1 d_By_fits_330 (by decide) ?_
            exact c_retz hQQ X Y hr hlk (iI_bool (by omega) (by omega)).1 ⟨rfl, rfl, 0, rfl, ⟨by omega, by omega⟩⟩ d_By_fits_331
          · refine lv_aload_n X.1 X.2.1 d_By_fits_313 rfl (lv_at hl 2 rfl) ?_
            refine lv_iload_n X.1 X.2.1 d_By_fits_314 rfl (lv_at hl 3 rfl) ?_
            refine lv_iload X.1 X.2.1 d_By_fits_315 (lv_at hl 0 rfl) ?_
            refine lv_iload_n X.1 X.2.1 d_By_fits_317 rfl (lv_at hl 5 rfl) ?_
            refine lv_iload X.1 X.2.1 d_By_fits_318 (lv_at hl 6 rfl) ?_
            refine t_ui (t_runV (As := [.int (iI a1), .int (iI z109), .int (iI a3), .int (iI a4)]) (rest := []) (n := 4) X Y S k0 hml hl.1 (c_By_fitsInside d IH l D E T κ L f H.size h n0 k0 (by omega) a1 (by omega) (by omega) z109 (by omega) (by omega) a3 (by omega) (by omega) a4 (by omega) (by omega) S.1 hd) (ok_k X Y hA KS KR) rfl kl_By_By_fitsInside ks_By_fitsInside kx_By_fitsInside ki_By_fitsInside ini_By ⟨rfl, rfl⟩ hd_By_fitsInside ⟨by simp only [kRm]; omega, by simp only [kRm]; omega⟩ rfl (Nat.le_of_ble_eq_true rfl) d_By_fits_320 ⟨Nat.le_of_ble_eq_true rfl, Nat.le_of_ble_eq_true rfl⟩) X Y hA (fun z123 H locs Y p123 => ?_)
            obtain ⟨l123, u123⟩ := p123
            refine z_if_eq (tgt := 330) X.1 X.2.1 d_By_fits_323 (by decide) ⟨by omega, by omega⟩ (fun h124 => ?_) (fun h124 => ?_)
            · refine lv_iconst (v := iI 0) X.1 X.2.1 d_By_fits_330 (by decide) ?_
              exact c_retz hQQ X Y hr hlk (iI_bool (by omega) (by omega)).1 ⟨rfl, rfl, 0, rfl, ⟨by omega, by omega⟩⟩ d_By_fits_331
            · refine lv_iconst (v := iI 1) X.1 X.2.1 d_By_fits_326 (by decide) ?_
              refine lv_goto (tgt := 331) X.1 X.2.1 d_By_fits_327 (by decide) ?_
              exact c_retz hQQ X Y hr hlk (iI_bool (by omega) (by omega)).1 ⟨rfl, rfl, 1, rfl, ⟨by omega, by omega⟩⟩ d_By_fits_331
        by_cases h125 : a1 = 101
        · rw [h125]
          refine lv_tableIn (off := 261) (tgt := 304) X.1 X.2.1 d_By_fits_43 (by decide) (by decide) (by decide) (by decide) ?_
          refine lv_iload X.1 X.2.1 d_By_fits_304 (lv_at hl 1 rfl) ?_
          refine lv_iload_n X.1 X.2.1 d_By_fits_306 rfl (lv_at hl 3 rfl) ?_
          refine t_ui (x_runS (As := [.int (iI a1)]) (rest := [.int (iI z108)]) (n := 1) X hml hl.1 (c_By_tagOf l D E T κ L f H.size a1 (by omega) (by omega) S.1) (ok_k X Y hA KS KR) kl_By_By_tagOf ks_By_tagOf ki_By_tagOf ini_By ⟨rfl, rfl⟩ hd_By_tagOf.2 ⟨by simp only [kRm]; omega, by simp only [kRm]; omega⟩ rfl (Nat.le_of_ble_eq_true rfl) d_By_fits_307 ⟨Nat.le_of_ble_eq_true rfl, Nat.le_of_ble_eq_true rfl⟩) X Y hA (fun z126 H locs Y p126 => ?_)
          obtain ⟨l126, u126⟩ := p126
          refine z_icmp_ne (tgt := 330) X.1 X.2.1 d_By_fits_310 (by decide) ⟨by omega, by omega⟩ ⟨by omega, by omega⟩ (fun h127 => ?_) (fun h127 => ?_)
          · refine lv_iconst (v := iI 0) X.1 X.2.1 d_By_fits_330 (by decide) ?_
            exact c_retz hQQ X Y hr hlk (iI_bool (by omega) (by omega)).1 ⟨rfl, rfl, 0, rfl, ⟨by omega, by omega⟩⟩ d_By_fits_331
          · refine lv_aload_n X.1 X.2.1 d_By_fits_313 rfl (lv_at hl 2 rfl) ?_
            refine lv_iload_n X.1 X.2.1 d_By_fits_314 rfl (lv_at hl 3 rfl) ?_
            refine lv_iload X.1 X.2.1 d_By_fits_315 (lv_at hl 0 rfl) ?_
            refine lv_iload_n X.1 X.2.1 d_By_fits_317 rfl (lv_at hl 5 rfl) ?_
            refine lv_iload X.1 X.2.1 d_By_fits_318 (lv_at hl 6 rfl) ?_
            refine t_ui (t_runV (As := [.int (iI a1), .int (iI z109), .int (iI a3), .int (iI a4)]) (rest := []) (n := 4) X Y S k0 hml hl.1 (c_By_fitsInside d IH l D E T κ L f H.size h n0 k0 (by omega) a1 (by omega) (by omega) z109 (by omega) (by omega) a3 (by omega) (by omega) a4 (by omega) (by omega) S.1 hd) (ok_k X Y hA KS KR) rfl kl_By_By_fitsInside ks_By_fitsInside kx_By_fitsInside ki_By_fitsInside ini_By ⟨rfl, rfl⟩ hd_By_fitsInside ⟨by simp only [kRm]; omega, by simp only [kRm]; omega⟩ rfl (Nat.le_of_ble_eq_true rfl) d_By_fits_320 ⟨Nat.le_of_ble_eq_true rfl, Nat.le_of_ble_eq_true rfl⟩) X Y hA (fun z128 H locs Y p128 => ?_)
            obtain ⟨l128, u128⟩ := p128
            refine z_if_eq (tgt := 330) X.1 X.2.1 d_By_fits_323 (by decide) ⟨by omega, by omega⟩ (fun h129 => ?_) (fun h129 => ?_)
            · refine lv_iconst (v := iI 0) X.1 X.2.1 d_By_fits_330 (by decide) ?_
              exact c_retz hQQ X Y hr hlk (iI_bool (by omega) (by omega)).1 ⟨rfl, rfl, 0, rfl, ⟨by omega, by omega⟩⟩ d_By_fits_331
            · refine lv_iconst (v := iI 1) X.1 X.2.1 d_By_fits_326 (by decide) ?_
              refine lv_goto (tgt := 331) X.1 X.2.1 d_By_fits_327 (by decide) ?_
              exact c_retz hQQ X Y hr hlk (iI_bool (by omega) (by omega)).1 ⟨rfl, rfl, 1, rfl, ⟨by omega, by omega⟩⟩ d_By_fits_331
        by_cases h130 : a1 = 102
        · rw [h130]
          refine lv_tableIn (off := 261) (tgt := 304) X.1 X.2.1 d_By_fits_43 (by decide) (by decide) (by decide) (by decide) ?_
          refine lv_iload X.1 X.2.1 d_By_fits_304 (lv_at hl 1 rfl) ?_
          refine lv_iload_n X.1 X.2.1 d_By_fits_306 rfl (lv_at hl 3 rfl) ?_
          refine t_ui (x_runS (As := [.int (iI a1)]) (rest := [.int (iI z108)]) (n := 1) X hml hl.1 (c_By_tagOf l D E T κ L f H.size a1 (by omega) (by omega) S.1) (ok_k X Y hA KS KR) kl_By_By_tagOf ks_By_tagOf ki_By_tagOf ini_By ⟨rfl, rfl⟩ hd_By_tagOf.2 ⟨by simp only [kRm]; omega, by simp only [kRm]; omega⟩ rfl (Nat.le_of_ble_eq_true rfl) d_By_fits_307 ⟨Nat.le_of_ble_eq_true rfl, Nat.le_of_ble_eq_true rfl⟩) X Y hA (fun z131 H locs Y p131 => ?_)
          obtain ⟨l131, u131⟩ := p131
          refine z_icmp_ne (tgt := 330) X.1 X.2.1 d_By_fits_310 (by decide) ⟨by omega, by omega⟩ ⟨by omega, by omega⟩ (fun h132 => ?_) (fun h132 => ?_)
          · refine lv_iconst (v := iI 0) X.1 X.2.1 d_By_fits_330 (by decide) ?_
            exact c_retz hQQ X Y hr hlk (iI_bool (by omega) (by omega)).1 ⟨rfl, rfl, 0, rfl, ⟨by omega, by omega⟩⟩ d_By_fits_331
          · refine lv_aload_n X.1 X.2.1 d_By_fits_313 rfl (lv_at hl 2 rfl) ?_
            refine lv_iload_n X.1 X.2.1 d_By_fits_314 rfl (lv_at hl 3 rfl) ?_
            refine lv_iload X.1 X.2.1 d_By_fits_315 (lv_at hl 0 rfl) ?_
            refine lv_iload_n X.1 X.2.1 d_By_fits_317 rfl (lv_at hl 5 rfl) ?_
            refine lv_iload X.1 X.2.1 d_By_fits_318 (lv_at hl 6 rfl) ?_
            refine t_ui (t_runV (As := [.int (iI a1), .int (iI z109), .int (iI a3), .int (iI a4)]) (rest := []) (n := 4) X Y S k0 hml hl.1 (c_By_fitsInside d IH l D E T κ L f H.size h n0 k0 (by omega) a1 (by omega) (by omega) z109 (by omega) (by omega) a3 (by omega) (by omega) a4 (by omega) (by omega) S.1 hd) (ok_k X Y hA KS KR) rfl kl_By_By_fitsInside ks_By_fitsInside kx_By_fitsInside ki_By_fitsInside ini_By ⟨rfl, rfl⟩ hd_By_fitsInside ⟨by simp only [kRm]; omega, by simp only [kRm]; omega⟩ rfl (Nat.le_of_ble_eq_true rfl) d_By_fits_320 ⟨Nat.le_of_ble_eq_true rfl, Nat.le_of_ble_eq_true rfl⟩) X Y hA (fun z133 H locs Y p133 => ?_)
            obtain ⟨l133, u133⟩ := p133
            refine z_if_eq (tgt := 330) X.1 X.2.1 d_By_fits_323 (by decide) ⟨by omega, by omega⟩ (fun h134 => ?_) (fun h134 => ?_)
            · refine lv_iconst (v := iI 0) X.1 X.2.1 d_By_fits_330 (by decide) ?_
              exact c_retz hQQ X Y hr hlk (iI_bool (by omega) (by omega)).1 ⟨rfl, rfl, 0, rfl, ⟨by omega, by omega⟩⟩ d_By_fits_331
            · refine lv_iconst (v := iI 1) X.1 X.2.1 d_By_fits_326 (by decide) ?_
              refine lv_goto (tgt := 331) X.1 X.2.1 d_By_fits_327 (by decide) ?_
              exact c_retz hQQ X Y hr hlk (iI_bool (by omega) (by omega)).1 ⟨rfl, rfl, 1, rfl, ⟨by omega, by omega⟩⟩ d_By_fits_331
        by_cases h135 : a1 = 103
        · rw [h135]
          refine lv_tableIn (off := 261) (tgt := 304) X.1 X.2.1 d_By_fits_43 (by decide) (by decide) (by decide) (by decide) ?_
          refine lv_iload X.1 X.2.1 d_By_fits_304 (lv_at hl 1 rfl) ?_
          refine lv_iload_n X.1 X.2.1 d_By_fits_306 rfl (lv_at hl 3 rfl) ?_
          refine t_ui (x_runS (As := [.int (iI a1)]) (rest := [.int (iI z108)]) (n := 1) X hml hl.1 (c_By_tagOf l D E T κ L f H.size a1 (by omega) (by omega) S.1) (ok_k X Y hA KS KR) kl_By_By_tagOf ks_By_tagOf ki_By_tagOf ini_By ⟨rfl, rfl⟩ hd_By_tagOf.2 ⟨by simp only [kRm]; omega, by simp only [kRm]; omega⟩ rfl (Nat.le_of_ble_eq_true rfl) d_By_fits_307 ⟨Nat.le_of_ble_eq_true rfl, Nat.le_of_ble_eq_true rfl⟩) X Y hA (fun z136 H locs Y p136 => ?_)
          obtain ⟨l136, u136⟩ := p136
          refine z_icmp_ne (tgt := 330) X.1 X.2.1 d_By_fits_310 (by decide) ⟨by omega, by omega⟩ ⟨by omega, by omega⟩ (fun h137 => ?_) (fun h137 => ?_)
          · refine lv_iconst (v := iI 0) X.1 X.2.1 d_By_fits_330 (by decide) ?_
            exact c_retz hQQ X Y hr hlk (iI_bool (by omega) (by omega)).1 ⟨rfl, rfl, 0, rfl, ⟨by omega, by omega⟩⟩ d_By_fits_331
          · refine lv_aload_n X.1 X.2.1 d_By_fits_313 rfl (lv_at hl 2 rfl) ?_
            refine lv_iload_n X.1 X.2.1 d_By_fits_314 rfl (lv_at hl 3 rfl) ?_
            refine lv_iload X.1 X.2.1 d_By_fits_315 (lv_at hl 0 rfl) ?_
            refine lv_iload_n X.1 X.2.1 d_By_fits_317 rfl (lv_at hl 5 rfl) ?_
            refine lv_iload X.1 X.2.1 d_By_fits_318 (lv_at hl 6 rfl) ?_
            refine t_ui (t_runV (As := [.int (iI a1), .int (iI z109), .int (iI a3), .int (iI a4)]) (rest := []) (n := 4) X Y S k0 hml hl.1 (c_By_fitsInside d IH l D E T κ L f H.size h n0 k0 (by omega) a1 (by omega) (by omega) z109 (by omega) (by omega) a3 (by omega) (by omega) a4 (by omega) (by omega) S.1 hd) (ok_k X Y hA KS KR) rfl kl_By_By_fitsInside ks_By_fitsInside kx_By_fitsInside ki_By_fitsInside ini_By ⟨rfl, rfl⟩ hd_By_fitsInside ⟨by simp only [kRm]; omega, by simp only [kRm]; omega⟩ rfl (Nat.le_of_ble_eq_true rfl) d_By_fits_320 ⟨Nat.le_of_ble_eq_true rfl, Nat.le_of_ble_eq_true rfl⟩) X Y hA (fun z138 H locs Y p138 => ?_)
            obtain ⟨l138, u138⟩ := p138
            refine z_if_eq (tgt := 330) X.1 X.2.1 d_By_fits_323 (by decide) ⟨by omega, by omega⟩ (fun h139 => ?_) (fun h139 => ?_)
            · refine lv_iconst (v := iI 0) X.1 X.2.1 d_By_fits_330 (by decide) ?_
              exact c_retz hQQ X Y hr hlk (iI_bool (by omega) (by omega)).1 ⟨rfl, rfl, 0, rfl, ⟨by omega, by omega⟩⟩ d_By_fits_331
            · refine lv_iconst (v := iI 1) X.1 X.2.1 d_By_fits_326 (by decide) ?_
              refine lv_goto (tgt := 331) X.1 X.2.1 d_By_fits_327 (by decide) ?_
              exact c_retz hQQ X Y hr hlk (iI_bool (by omega) (by omega)).1 ⟨rfl, rfl, 1, rfl, ⟨by omega, by omega⟩⟩ d_By_fits_331
        by_cases h140 : a1 = 104
        · rw [h140]
          refine lv_tableIn (off := 261) (tgt := 304) X.1 X.2.1 d_By_fits_43 (by decide) (by decide) (by decide) (by decide) ?_
          refine lv_iload X.1 X.2.1 d_By_fits_304 (lv_at hl 1 rfl) ?_
          refine lv_iload_n X.1 X.2.1 d_By_fits_306 rfl (lv_at hl 3 rfl) ?_
          refine t_ui (x_runS (As := [.int (iI a1)]) (rest := [.int (iI z108)]) (n := 1) X hml hl.1 (c_By_tagOf l D E T κ L f H.size a1 (by omega) (by omega) S.1) (ok_k X Y hA KS KR) kl_By_By_tagOf ks_By_tagOf ki_By_tagOf ini_By ⟨rfl, rfl⟩ hd_By_tagOf.2 ⟨by simp only [kRm]; omega, by simp only [kRm]; omega⟩ rfl (Nat.le_of_ble_eq_true rfl) d_By_fits_307 ⟨Nat.le_of_ble_eq_true rfl, Nat.le_of_ble_eq_true rfl⟩) X Y hA (fun z141 H locs Y p141 => ?_)
          obtain ⟨l141, u141⟩ := p141
          refine z_icmp_ne (tgt := 330) X.1 X.2.1 d_By_fits_310 (by decide) ⟨by omega, by omega⟩ ⟨by omega, by omega⟩ (fun h142 => ?_) (fun h142 => ?_)
          · refine lv_iconst (v := iI 0) X.1 X.2.1 d_By_fits_330 (by decide) ?_
            exact c_retz hQQ X Y hr hlk (iI_bool (by omega) (by omega)).1 ⟨rfl, rfl, 0, rfl, ⟨by omega, by omega⟩⟩ d_By_fits_331
          · refine lv_aload_n X.1 X.2.1 d_By_fits_313 rfl (lv_at hl 2 rfl) ?_
            refine lv_iload_n X.1 X.2.1 d_By_fits_314 rfl (lv_at hl 3 rfl) ?_
            refine lv_iload X.1 X.2.1 d_By_fits_315 (lv_at hl 0 rfl) ?_
            refine lv_iload_n X.1 X.2.1 d_By_fits_317 rfl (lv_at hl 5 rfl) ?_
            refine lv_iload X.1 X.2.1 d_By_fits_318 (lv_at hl 6 rfl) ?_
            refine t_ui (t_runV (As := [.int (iI a1), .int (iI z109), .int (iI a3), .int (iI a4)]) (rest := []) (n := 4) X Y S k0 hml hl.1 (c_By_fitsInside d IH l D E T κ L f H.size h n0 k0 (by omega) a1 (by omega) (by omega) z109 (by omega) (by omega) a3 (by omega) (by omega) a4 (by omega) (by omega) S.1 hd) (ok_k X Y hA KS KR) rfl kl_By_By_fitsInside ks_By_fitsInside kx_By_fitsInside ki_By_fitsInside ini_By ⟨rfl, rfl⟩ hd_By_fitsInside ⟨by simp only [kRm]; omega, by simp only [kRm]; omega⟩ rfl (Nat.le_of_ble_eq_true rfl) d_By_fits_320 ⟨Nat.le_of_ble_eq_true rfl, Nat.le_of_ble_eq_true rfl⟩) X Y hA (fun z143 H locs Y p143 => ?_)
            obtain ⟨l143, u143⟩ := p143
            refine z_if_eq (tgt := 330) X.1 X.2.1 d_By_fits_323 (by decide) ⟨by omega, by omega⟩ (fun h144 => ?_) (fun h144 => ?_)
            · refine lv_iconst (v := iI 0) X.1 X.2.1 d_By_fits_330 (by decide) ?_
              exact c_retz hQQ X Y hr hlk (iI_bool (by omega) (by omega)).1 ⟨rfl, rfl, 0, rfl, ⟨by omega, by omega⟩⟩ d_By_fits_331
            · refine lv_iconst (v := iI 1) X.1 X.2.1 d_By_fits_326 (by decide) ?_
              refine lv_goto (tgt := 331) X.1 X.2.1 d_By_fits_327 (by decide) ?_
              exact c_retz hQQ X Y hr hlk (iI_bool (by omega) (by omega)).1 ⟨rfl, rfl, 1, rfl, ⟨by omega, by omega⟩⟩ d_By_fits_331
        by_cases h145 : a1 = 105
        · rw [h145]
          refine lv_tableIn (off := 93) (tgt := 136) X.1 X.2.1 d_By_fits_43 (by decide) (by decide) (by decide) (by decide) ?_
          refine lv_iload X.1 X.2.1 d_By_fits_136 (lv_at hl 1 rfl) ?_
          refine lv_iconst (v := iI 2) X.1 X.2.1 d_By_fits_138 (by decide) ?_
          refine z_icmp_ne (tgt := 162) X.1 X.2.1 d_By_fits_139 (by decide) ⟨by omega, by omega⟩ ⟨by omega, by omega⟩ (fun h146 => ?_) (fun h146 => ?_)
          · refine lv_iconst (v := iI 0) X.1 X.2.1 d_By_fits_162 (by decide) ?_
            exact c_retz hQQ X Y hr hlk (iI_bool (by omega) (by omega)).1 ⟨rfl, rfl, 0, rfl, ⟨by omega, by omega⟩⟩ d_By_fits_163
          · refine lv_aload_n X.1 X.2.1 d_By_fits_142 rfl (lv_at hl 2 rfl) ?_
            refine lv_iload X.1 X.2.1 d_By_fits_143 (lv_at hl 0 rfl) ?_
            refine lv_iload_n X.1 X.2.1 d_By_fits_145 rfl (lv_at hl 5 rfl) ?_
            refine lv_ldc2 (v := (-2147483648)) X.1 X.2.1 X.2.2.2.1 (X.2.2.1 _ cl_By_151) d_By_fits_146 ?_
            refine lv_ldc2 (v := (2147483647)) X.1 X.2.1 X.2.2.2.1 (X.2.2.1 _ cl_By_153) d_By_fits_149 ?_
            refine t_ui (t_runV (As := [.int (iI z109), .int (iI a3), .long ((-2147483648)), .long ((2147483647))]) (rest := []) (n := 4) X Y S k0 hml hl.1 (c_By_isNumber l D E T κ L f H.size h n0 k0 (by omega) z109 (by omega) (by omega) a3 (by omega) (by omega) ((-2147483648)) ((2147483647)) S.1) (ok_k X Y hA KS KR) rfl kl_By_By_isNumber ks_By_isNumber kx_By_isNumber ki_By_isNumber ini_By ⟨rfl, rfl⟩ hd_By_isNumber ⟨by simp only [kRm]; omega, by simp only [kRm]; omega⟩ rfl (Nat.le_of_ble_eq_true rfl) d_By_fits_152 ⟨Nat.le_of_ble_eq_true rfl, Nat.le_of_ble_eq_true rfl⟩) X Y hA (fun z147 H locs Y p147 => ?_)
            obtain ⟨l147, u147⟩ := p147
            refine z_if_eq (tgt := 162) X.1 X.2.1 d_By_fits_155 (by decide) ⟨by omega, by omega⟩ (fun h148 => ?_) (fun h148 => ?_)
            · refine lv_iconst (v := iI 0) X.1 X.2.1 d_By_fits_162 (by decide) ?_
              exact c_retz hQQ X Y hr hlk (iI_bool (by omega) (by omega)).1 ⟨rfl, rfl, 0, rfl, ⟨by omega, by omega⟩⟩ d_By_fits_163
            · refine lv_iconst (v := iI 1) X.1 X.2.1 d_By_fits_158 (by decide) ?_
              refine lv_goto (tgt := 163) X.1 X.2.1 d_By_fits_159 (by decide) ?_
              exact c_retz hQQ X Y hr hlk (iI_bool (by omega) (by omega)).1 ⟨rfl, rfl, 1, rfl, ⟨by omega, by omega⟩⟩ d_By_fits_163
        by_cases h149 : a1 = 106
        · rw [h149]
          refine lv_tableIn (off := 261) (tgt := 304) X.1 X.2.1 d_By_fits_43 (by decide) (by decide) (by decide) (by decide) ?_
          refine lv_iload X.1 X.2.1 d_By_fits_304 (lv_at hl 1 rfl) ?_
          refine lv_iload_n X.1 X.2.1 d_By_fits_306 rfl (lv_at hl 3 rfl) ?_
          refine t_ui (x_runS (As := [.int (iI a1)]) (rest := [.int (iI z108)]) (n := 1) X hml hl.1 (c_By_tagOf l D E T κ L f H.size a1 (by omega) (by omega) S.1) (ok_k X Y hA KS KR) kl_By_By_tagOf ks_By_tagOf ki_By_tagOf ini_By ⟨rfl, rfl⟩ hd_By_tagOf.2 ⟨by simp only [kRm]; omega, by simp only [kRm]; omega⟩ rfl (Nat.le_of_ble_eq_true rfl) d_By_fits_307 ⟨Nat.le_of_ble_eq_true rfl, Nat.le_of_ble_eq_true rfl⟩) X Y hA (fun z150 H locs Y p150 => ?_)
          obtain ⟨l150, u150⟩ := p150
          refine z_icmp_ne (tgt := 330) X.1 X.2.1 d_By_fits_310 (by decide) ⟨by omega, by omega⟩ ⟨by omega, by omega⟩ (fun h151 => ?_) (fun h151 => ?_)
          · refine lv_iconst (v := iI 0) X.1 X.2.1 d_By_fits_330 (by decide) ?_
            exact c_retz hQQ X Y hr hlk (iI_bool (by omega) (by omega)).1 ⟨rfl, rfl, 0, rfl, ⟨by omega, by omega⟩⟩ d_By_fits_331
          · refine lv_aload_n X.1 X.2.1 d_By_fits_313 rfl (lv_at hl 2 rfl) ?_
            refine lv_iload_n X.1 X.2.1 d_By_fits_314 rfl (lv_at hl 3 rfl) ?_
            refine lv_iload X.1 X.2.1 d_By_fits_315 (lv_at hl 0 rfl) ?_
            refine lv_iload_n X.1 X.2.1 d_By_fits_317 rfl (lv_at hl 5 rfl) ?_
            refine lv_iload X.1 X.2.1 d_By_fits_318 (lv_at hl 6 rfl) ?_
            refine t_ui (t_runV (As := [.int (iI a1), .int (iI z109), .int (iI a3), .int (iI a4)]) (rest := []) (n := 4) X Y S k0 hml hl.1 (c_By_fitsInside d IH l D E T κ L f H.size h n0 k0 (by omega) a1 (by omega) (by omega) z109 (by omega) (by omega) a3 (by omega) (by omega) a4 (by omega) (by omega) S.1 hd) (ok_k X Y hA KS KR) rfl kl_By_By_fitsInside ks_By_fitsInside kx_By_fitsInside ki_By_fitsInside ini_By ⟨rfl, rfl⟩ hd_By_fitsInside ⟨by simp only [kRm]; omega, by simp only [kRm]; omega⟩ rfl (Nat.le_of_ble_eq_true rfl) d_By_fits_320 ⟨Nat.le_of_ble_eq_true rfl, Nat.le_of_ble_eq_true rfl⟩) X Y hA (fun z152 H locs Y p152 => ?_)
            obtain ⟨l152, u152⟩ := p152
            refine z_if_eq (tgt := 330) X.1 X.2.1 d_By_fits_323 (by decide) ⟨by omega, by omega⟩ (fun h153 => ?_) (fun h153 => ?_)
            · refine lv_iconst (v := iI 0) X.1 X.2.1 d_By_fits_330 (by decide) ?_
              exact c_retz hQQ X Y hr hlk (iI_bool (by omega) (by omega)).1 ⟨rfl, rfl, 0, rfl, ⟨by omega, by omega⟩⟩ d_By_fits_331
            · refine lv_iconst (v := iI 1) X.1 X.2.1 d_By_fits_326 (by decide) ?_
              refine lv_goto (tgt := 331) X.1 X.2.1 d_By_fits_327 (by decide) ?_
              exact c_retz hQQ X Y hr hlk (iI_bool (by omega) (by omega)).1 ⟨rfl, rfl, 1, rfl, ⟨by omega, by omega⟩⟩ d_By_fits_331
        by_cases h154 : a1 = 107
        · rw [h154]
          refine lv_tableIn (off := 261) (tgt := 304) X.1 X.2.1 d_By_fits_43 (by decide) (by decide) (by decide) (by decide) ?_
          refine lv_iload X.1 X.2.1 d_By_fits_304 (lv_at hl 1 rfl) ?_
          refine lv_iload_n X.1 X.2.1 d_By_fits_306 rfl (lv_at hl 3 rfl) ?_
          refine t_ui (x_runS (As := [.int (iI a1)]) (rest := [.int (iI z108)]) (n := 1) X hml hl.1 (c_By_tagOf l D E T κ L f H.size a1 (by omega) (by omega) S.1) (ok_k X Y hA KS KR) kl_By_By_tagOf ks_By_tagOf ki_By_tagOf ini_By ⟨rfl, rfl⟩ hd_By_tagOf.2 ⟨by simp only [kRm]; omega, by simp only [kRm]; omega⟩ rfl (Nat.le_of_ble_eq_true rfl) d_By_fits_307 ⟨Nat.le_of_ble_eq_true rfl, Nat.le_of_ble_eq_true rfl⟩) X Y hA (fun z155 H locs Y p155 => ?_)
          obtain ⟨l155, u155⟩ := p155
          refine z_icmp_ne (tgt := 330) X.1 X.2.1 d_By_fits_310 (by decide) ⟨by omega, by omega⟩ ⟨by omega, by omega⟩ (fun h156 => ?_) (fun h156 => ?_)
          · refine lv_iconst (v := iI 0) X.1 X.2.1 d_By_fits_330 (by decide) ?_
            exact c_retz hQQ X Y hr hlk (iI_bool (by omega) (by omega)).1 ⟨rfl, rfl, 0, rfl, ⟨by omega, by omega⟩⟩ d_By_fits_331
          · refine lv_aload_n X.1 X.2.1 d_By_fits_313 rfl (lv_at hl 2 rfl) ?_
            refine lv_iload_n X.1 X.2.1 d_By_fits_314 rfl (lv_at hl 3 rfl) ?_
            refine lv_iload X.1 X.2.1 d_By_fits_315 (lv_at hl 0 rfl) ?_
            refine lv_iload_n X.1 X.2.1 d_By_fits_317 rfl (lv_at hl 5 rfl) ?_
            refine lv_iload X.1 X.2.1 d_By_fits_318 (lv_at hl 6 rfl) ?_
            refine t_ui (t_runV (As := [.int (iI a1), .int (iI z109), .int (iI a3), .int (iI a4)]) (rest := []) (n := 4) X Y S k0 hml hl.1 (c_By_fitsInside d IH l D E T κ L f H.size h n0 k0 (by omega) a1 (by omega) (by omega) z109 (by omega) (by omega) a3 (by omega) (by omega) a4 (by omega) (by omega) S.1 hd) (ok_k X Y hA KS KR) rfl kl_By_By_fitsInside ks_By_fitsInside kx_By_fitsInside ki_By_fitsInside ini_By ⟨rfl, rfl⟩ hd_By_fitsInside ⟨by simp only [kRm]; omega, by simp only [kRm]; omega⟩ rfl (Nat.le_of_ble_eq_true rfl) d_By_fits_320 ⟨Nat.le_of_ble_eq_true rfl, Nat.le_of_ble_eq_true rfl⟩) X Y hA (fun z157 H locs Y p157 => ?_)
            obtain ⟨l157, u157⟩ := p157
            refine z_if_eq (tgt := 330) X.1 X.2.1 d_By_fits_323 (by decide) ⟨by omega, by omega⟩ (fun h158 => ?_) (fun h158 => ?_)
            · refine lv_iconst (v := iI 0) X.1 X.2.1 d_By_fits_330 (by decide) ?_
              exact c_retz hQQ X Y hr hlk (iI_bool (by omega) (by omega)).1 ⟨rfl, rfl, 0, rfl, ⟨by omega, by omega⟩⟩ d_By_fits_331
            · refine lv_iconst (v := iI 1) X.1 X.2.1 d_By_fits_326 (by decide) ?_
              refine lv_goto (tgt := 331) X.1 X.2.1 d_By_fits_327 (by decide) ?_
              exact c_retz hQQ X Y hr hlk (iI_bool (by omega) (by omega)).1 ⟨rfl, rfl, 1, rfl, ⟨by omega, by omega⟩⟩ d_By_fits_331
        by_cases h159 : a1 = 108
        · rw [h159]
          refine lv_tableIn (off := 261) (tgt := 304) X.1 X.2.1 d_By_fits_43 (by decide) (by decide) (by decide) (by decide) ?_
          refine lv_iload X.1 X.2.1 d_By_fits_304 (lv_at hl 1 rfl) ?_
          refine lv_iload_n X.1 X.2.1 d_By_fits_306 rfl (lv_at hl 3 rfl) ?_
          refine t_ui (x_runS (As := [.int (iI a1)]) (rest := [.int (iI z108)]) (n := 1) X hml hl.1 (c_By_tagOf l D E T κ L f H.size a1 (by omega) (by omega) S.1) (ok_k X Y hA KS KR) kl_By_By_tagOf ks_By_tagOf ki_By_tagOf ini_By ⟨rfl, rfl⟩ hd_By_tagOf.2 ⟨by simp only [kRm]; omega, by simp only [kRm]; omega⟩ rfl (Nat.le_of_ble_eq_true rfl) d_By_fits_307 ⟨Nat.le_of_ble_eq_true rfl, Nat.le_of_ble_eq_true rfl⟩) X Y hA (fun z160 H locs Y p160 => ?_)
          obtain ⟨l160, u160⟩ := p160
          refine z_icmp_ne (tgt := 330) X.1 X.2.1 d_By_fits_310 (by decide) ⟨by omega, by omega⟩ ⟨by omega, by omega⟩ (fun h161 => ?_) (fun h161 => ?_)
          · refine lv_iconst (v := iI 0) X.1 X.2.1 d_By_fits_330 (by decide) ?_
            exact c_retz hQQ X Y hr hlk (iI_bool (by omega) (by omega)).1 ⟨rfl, rfl, 0, rfl, ⟨by omega, by omega⟩⟩ d_By_fits_331
          · refine lv_aload_n X.1 X.2.1 d_By_fits_313 rfl (lv_at hl 2 rfl) ?_
            refine lv_iload_n X.1 X.2.1 d_By_fits_314 rfl (lv_at hl 3 rfl) ?_
            refine lv_iload X.1 X.2.1 d_By_fits_315 (lv_at hl 0 rfl) ?_
            refine lv_iload_n X.1 X.2.1 d_By_fits_317 rfl (lv_at hl 5 rfl) ?_
            refine lv_iload X.1 X.2.1 d_By_fits_318 (lv_at hl 6 rfl) ?_
            refine t_ui (t_runV (As := [.int (iI a1), .int (iI z109), .int (iI a3), .int (iI a4)]) (rest := []) (n := 4) X Y S k0 hml hl.1 (c_By_fitsInside d IH l D E T κ L f H.size h n0 k0 (by omega) a1 (by omega) (by omega) z109 (by omega) (by omega) a3 (by omega) (by omega) a4 (by omega) (by omega) S.1 hd) (ok_k X Y hA KS KR) rfl kl_By_By_fitsInside ks_By_fitsInside kx_By_fitsInside ki_By_fitsInside ini_By ⟨rfl, rfl⟩ hd_By_fitsInside ⟨by simp only [kRm]; omega, by simp only [kRm]; omega⟩ rfl (Nat.le_of_ble_eq_true rfl) d_By_fits_320 ⟨Nat.le_of_ble_eq_true rfl, Nat.le_of_ble_eq_true rfl⟩) X Y hA (fun z162 H locs Y p162 => ?_)
            obtain ⟨l162, u162⟩ := p162
            refine z_if_eq (tgt := 330) X.1 X.2.1 d_By_fits_323 (by decide) ⟨by omega, by omega⟩ (fun h163 => ?_) (fun h163 => ?_)
            · refine lv_iconst (v := iI 0) X.1 X.2.1 d_By_fits_330 (by decide) ?_
              exact c_retz hQQ X Y hr hlk (iI_bool (by omega) (by omega)).1 ⟨rfl, rfl, 0, rfl, ⟨by omega, by omega⟩⟩ d_By_fits_331
            · refine lv_iconst (v := iI 1) X.1 X.2.1 d_By_fits_326 (by decide) ?_
              refine lv_goto (tgt := 331) X.1 X.2.1 d_By_fits_327 (by decide) ?_
              exact c_retz hQQ X Y hr hlk (iI_bool (by omega) (by omega)).1 ⟨rfl, rfl, 1, rfl, ⟨by omega, by omega⟩⟩ d_By_fits_331
        by_cases h164 : a1 = 109
        · rw [h164]
          refine lv_tableIn (off := 147) (tgt := 190) X.1 X.2.1 d_By_fits_43 (by decide) (by decide) (by decide) (by decide) ?_
          refine lv_iload X.1 X.2.1 d_By_fits_190 (lv_at hl 1 rfl) ?_
          refine lv_iconst (v := iI 2) X.1 X.2.1 d_By_fits_192 (by decide) ?_
          refine z_icmp_ne (tgt := 214) X.1 X.2.1 d_By_fits_193 (by decide) ⟨by omega, by omega⟩ ⟨by omega, by omega⟩ (fun h165 => ?_) (fun h165 => ?_)
          · refine lv_iconst (v := iI 0) X.1 X.2.1 d_By_fits_214 (by decide) ?_
            exact c_retz hQQ X Y hr hlk (iI_bool (by omega) (by omega)).1 ⟨rfl, rfl, 0, rfl, ⟨by omega, by omega⟩⟩ d_By_fits_215
          · refine lv_aload_n X.1 X.2.1 d_By_fits_196 rfl (lv_at hl 2 rfl) ?_
            refine lv_iload X.1 X.2.1 d_By_fits_197 (lv_at hl 0 rfl) ?_
            refine lv_iload_n X.1 X.2.1 d_By_fits_199 rfl (lv_at hl 5 rfl) ?_
            refine lv_lconst (v := 0) X.1 X.2.1 d_By_fits_200 rfl ?_
            refine lv_ldc2 (v := (999999)) X.1 X.2.1 X.2.2.2.1 (X.2.2.1 _ cl_By_161) d_By_fits_201 ?_
            refine t_ui (t_runV (As := [.int (iI z109), .int (iI a3), .long 0, .long ((999999))]) (rest := []) (n := 4) X Y S k0 hml hl.1 (c_By_isNumber l D E T κ L f H.size h n0 k0 (by omega) z109 (by omega) (by omega) a3 (by omega) (by omega) 0 ((999999)) S.1) (ok_k X Y hA KS KR) rfl kl_By_By_isNumber ks_By_isNumber kx_By_isNumber ki_By_isNumber ini_By ⟨rfl, rfl⟩ hd_By_isNumber ⟨by simp only [kRm]; omega, by simp only [kRm]; omega⟩ rfl (Nat.le_of_ble_eq_true rfl) d_By_fits_204 ⟨Nat.le_of_ble_eq_true rfl, Nat.le_of_ble_eq_true rfl⟩) X Y hA (fun z166 H locs Y p166 => ?_)
            obtain ⟨l166, u166⟩ := p166
            refine z_if_eq (tgt := 214) X.1 X.2.1 d_By_fits_207 (by decide) ⟨by omega, by omega⟩ (fun h167 => ?_) (fun h167 => ?_)
            · refine lv_iconst (v := iI 0) X.1 X.2.1 d_By_fits_214 (by decide) ?_
              exact c_retz hQQ X Y hr hlk (iI_bool (by omega) (by omega)).1 ⟨rfl, rfl, 0, rfl, ⟨by omega, by omega⟩⟩ d_By_fits_215
            · refine lv_iconst (v := iI 1) X.1 X.2.1 d_By_fits_210 (by decide) ?_
              refine lv_goto (tgt := 215) X.1 X.2.1 d_By_fits_211 (by decide) ?_
              exact c_retz hQQ X Y hr hlk (iI_bool (by omega) (by omega)).1 ⟨rfl, rfl, 1, rfl, ⟨by omega, by omega⟩⟩ d_By_fits_215
        by_cases h168 : a1 = 110
        · rw [h168]
          refine lv_tableIn (off := 261) (tgt := 304) X.1 X.2.1 d_By_fits_43 (by decide) (by decide) (by decide) (by decide) ?_
          refine lv_iload X.1 X.2.1 d_By_fits_304 (lv_at hl 1 rfl) ?_
          refine lv_iload_n X.1 X.2.1 d_By_fits_306 rfl (lv_at hl 3 rfl) ?_
          refine t_ui (x_runS (As := [.int (iI a1)]) (rest := [.int (iI z108)]) (n := 1) X hml hl.1 (c_By_tagOf l D E T κ L f H.size a1 (by omega) (by omega) S.1) (ok_k X Y hA KS KR) kl_By_By_tagOf ks_By_tagOf ki_By_tagOf ini_By ⟨rfl, rfl⟩ hd_By_tagOf.2 ⟨by simp only [kRm]; omega, by simp only [kRm]; omega⟩ rfl (Nat.le_of_ble_eq_true rfl) d_By_fits_307 ⟨Nat.le_of_ble_eq_true rfl, Nat.le_of_ble_eq_true rfl⟩) X Y hA (fun z169 H locs Y p169 => ?_)
          obtain ⟨l169, u169⟩ := p169
          refine z_icmp_ne (tgt := 330) X.1 X.2.1 d_By_fits_310 (by decide) ⟨by omega, by omega⟩ ⟨by omega, by omega⟩ (fun h170 => ?_) (fun h170 => ?_)
          · refine lv_iconst (v := iI 0) X.1 X.2.1 d_By_fits_330 (by decide) ?_
            exact c_retz hQQ X Y hr hlk (iI_bool (by omega) (by omega)).1 ⟨rfl, rfl, 0, rfl, ⟨by omega, by omega⟩⟩ d_By_fits_331
          · refine lv_aload_n X.1 X.2.1 d_By_fits_313 rfl (lv_at hl 2 rfl) ?_
            refine lv_iload_n X.1 X.2.1 d_By_fits_314 rfl (lv_at hl 3 rfl) ?_
            refine lv_iload X.1 X.2.1 d_By_fits_315 (lv_at hl 0 rfl) ?_
            refine lv_iload_n X.1 X.2.1 d_By_fits_317 rfl (lv_at hl 5 rfl) ?_
            refine lv_iload X.1 X.2.1 d_By_fits_318 (lv_at hl 6 rfl) ?_
            refine t_ui (t_runV (As := [.int (iI a1), .int (iI z109), .int (iI a3), .int (iI a4)]) (rest := []) (n := 4) X Y S k0 hml hl.1 (c_By_fitsInside d IH l D E T κ L f H.size h n0 k0 (by omega) a1 (by omega) (by omega) z109 (by omega) (by omega) a3 (by omega) (by omega) a4 (by omega) (by omega) S.1 hd) (ok_k X Y hA KS KR) rfl kl_By_By_fitsInside ks_By_fitsInside kx_By_fitsInside ki_By_fitsInside ini_By ⟨rfl, rfl⟩ hd_By_fitsInside ⟨by simp only [kRm]; omega, by simp only [kRm]; omega⟩ rfl (Nat.le_of_ble_eq_true rfl) d_By_fits_320 ⟨Nat.le_of_ble_eq_true rfl, Nat.le_of_ble_eq_true rfl⟩) X Y hA (fun z171 H locs Y p171 => ?_)
            obtain ⟨l171, u171⟩ := p171
            refine z_if_eq (tgt := 330) X.1 X.2.1 d_By_fits_323 (by decide) ⟨by omega, by omega⟩ (fun h172 => ?_) (fun h172 => ?_)
            · refine lv_iconst (v := iI 0) X.1 X.2.1 d_By_fits_330 (by decide) ?_
              exact c_retz hQQ X Y hr hlk (iI_bool (by omega) (by omega)).1 ⟨rfl, rfl, 0, rfl, ⟨by omega, by omega⟩⟩ d_By_fits_331
            · refine lv_iconst (v := iI 1) X.1 X.2.1 d_By_fits_326 (by decide) ?_
              refine lv_goto (tgt := 331) X.1 X.2.1 d_By_fits_327 (by decide) ?_
              exact c_retz hQQ X Y hr hlk (iI_bool (by omega) (by omega)).1 ⟨rfl, rfl, 1, rfl, ⟨by omega, by omega⟩⟩ d_By_fits_331
        by_cases h173 : a1 = 111
        · rw [h173]
          refine lv_tableIn (off := 249) (tgt := 292) X.1 X.2.1 d_By_fits_43 (by decide) (by decide) (by decide) (by decide) ?_
          refine lv_iload X.1 X.2.1 d_By_fits_292 (lv_at hl 1 rfl) ?_
          refine lv_iconst (v := iI 4) X.1 X.2.1 d_By_fits_294 (by decide) ?_
          refine z_icmp_ne (tgt := 302) X.1 X.2.1 d_By_fits_295 (by decide) ⟨by omega, by omega⟩ ⟨by omega, by omega⟩ (fun h174 => ?_) (fun h174 => ?_)
          · refine lv_iconst (v := iI 0) X.1 X.2.1 d_By_fits_302 (by decide) ?_
            exact c_retz hQQ X Y hr hlk (iI_bool (by omega) (by omega)).1 ⟨rfl, rfl, 0, rfl, ⟨by omega, by omega⟩⟩ d_By_fits_303
          · refine lv_iconst (v := iI 1) X.1 X.2.1 d_By_fits_298 (by decide) ?_
            refine lv_goto (tgt := 303) X.1 X.2.1 d_By_fits_299 (by decide) ?_
            exact c_retz hQQ X Y hr hlk (iI_bool (by omega) (by omega)).1 ⟨rfl, rfl, 1, rfl, ⟨by omega, by omega⟩⟩ d_By_fits_303
        by_cases h175 : a1 = 112
        · rw [h175]
          refine lv_tableIn (off := 261) (tgt := 304) X.1 X.2.1 d_By_fits_43 (by decide) (by decide) (by decide) (by decide) ?_
          refine lv_iload X.1 X.2.1 d_By_fits_304 (lv_at hl 1 rfl) ?_
          refine lv_iload_n X.1 X.2.1 d_By_fits_306 rfl (lv_at hl 3 rfl) ?_
          refine t_ui (x_runS (As := [.int (iI a1)]) (rest := [.int (iI z108)]) (n := 1) X hml hl.1 (c_By_tagOf l D E T κ L f H.size a1 (by omega) (by omega) S.1) (ok_k X Y hA KS KR) kl_By_By_tagOf ks_By_tagOf ki_By_tagOf ini_By ⟨rfl, rfl⟩ hd_By_tagOf.2 ⟨by simp only [kRm]; omega, by simp only [kRm]; omega⟩ rfl (Nat.le_of_ble_eq_true rfl) d_By_fits_307 ⟨Nat.le_of_ble_eq_true rfl, Nat.le_of_ble_eq_true rfl⟩) X Y hA (fun z176 H locs Y p176 => ?_)
          obtain ⟨l176, u176⟩ := p176
          refine z_icmp_ne (tgt := 330) X.1 X.2.1 d_By_fits_310 (by decide) ⟨by omega, by omega⟩ ⟨by omega, by omega⟩ (fun h177 => ?_) (fun h177 => ?_)
          · refine lv_iconst (v := iI 0) X.1 X.2.1 d_By_fits_330 (by decide) ?_
            exact c_retz hQQ X Y hr hlk (iI_bool (by omega) (by omega)).1 ⟨rfl, rfl, 0, rfl, ⟨by omega, by omega⟩⟩ d_By_fits_331
          · refine lv_aload_n X.1 X.2.1 d_By_fits_313 rfl (lv_at hl 2 rfl) ?_
            refine lv_iload_n X.1 X.2.1 d_By_fits_314 rfl (lv_at hl 3 rfl) ?_
            refine lv_iload X.1 X.2.1 d_By_fits_315 (lv_at hl 0 rfl) ?_
            refine lv_iload_n X.1 X.2.1 d_By_fits_317 rfl (lv_at hl 5 rfl) ?_
            refine lv_iload X.1 X.2.1 d_By_fits_318 (lv_at hl 6 rfl) ?_
            refine t_ui (t_runV (As := [.int (iI a1), .int (iI z109), .int (iI a3), .int (iI a4)]) (rest := []) (n := 4) X Y S k0 hml hl.1 (c_By_fitsInside d IH l D E T κ L f H.size h n0 k0 (by omega) a1 (by omega) (by omega) z109 (by omega) (by omega) a3 (by omega) (by omega) a4 (by omega) (by omega) S.1 hd) (ok_k X Y hA KS KR) rfl kl_By_By_fitsInside ks_By_fitsInside kx_By_fitsInside ki_By_fitsInside ini_By ⟨rfl, rfl⟩ hd_By_fitsInside ⟨by simp only [kRm]; omega, by simp only [kRm]; omega⟩ rfl (Nat.le_of_ble_eq_true rfl) d_By_fits_320 ⟨Nat.le_of_ble_eq_true rfl, Nat.le_of_ble_eq_true rfl⟩) X Y hA (fun z178 H locs Y p178 => ?_)
            obtain ⟨l178, u178⟩ := p178
            refine z_if_eq (tgt := 330) X.1 X.2.1 d_By_fits_323 (by decide) ⟨by omega, by omega⟩ (fun h179 => ?_) (fun h179 => ?_)
            · refine lv_iconst (v := iI 0) X.1 X.2.1 d_By_fits_330 (by decide) ?_
              exact c_retz hQQ X Y hr hlk (iI_bool (by omega) (by omega)).1 ⟨rfl, rfl, 0, rfl, ⟨by omega, by omega⟩⟩ d_By_fits_331
            · refine lv_iconst (v := iI 1) X.1 X.2.1 d_By_fits_326 (by decide) ?_
              refine lv_goto (tgt := 331) X.1 X.2.1 d_By_fits_327 (by decide) ?_
              exact c_retz hQQ X Y hr hlk (iI_bool (by omega) (by omega)).1 ⟨rfl, rfl, 1, rfl, ⟨by omega, by omega⟩⟩ d_By_fits_331
        by_cases h180 : a1 = 113
        · rw [h180]
          refine lv_tableIn (off := 261) (tgt := 304) X.1 X.2.1 d_By_fits_43 (by decide) (by decide) (by decide) (by decide) ?_
          refine lv_iload X.1 X.2.1 d_By_fits_304 (lv_at hl 1 rfl) ?_
          refine lv_iload_n X.1 X.2.1 d_By_fits_306 rfl (lv_at hl 3 rfl) ?_
          refine t_ui (x_runS (As := [.int (iI a1)]) (rest := [.int (iI z108)]) (n := 1) X hml hl.1 (c_By_tagOf l D E T κ L f H.size a1 (by omega) (by omega) S.1) (ok_k X Y hA KS KR) kl_By_By_tagOf ks_By_tagOf ki_By_tagOf ini_By ⟨rfl, rfl⟩ hd_By_tagOf.2 ⟨by simp only [kRm]; omega, by simp only [kRm]; omega⟩ rfl (Nat.le_of_ble_eq_true rfl) d_By_fits_307 ⟨Nat.le_of_ble_eq_true rfl, Nat.le_of_ble_eq_true rfl⟩) X Y hA (fun z181 H locs Y p181 => ?_)
          obtain ⟨l181, u181⟩ := p181
          refine z_icmp_ne (tgt := 330) X.1 X.2.1 d_By_fits_310 (by decide) ⟨by omega, by omega⟩ ⟨by omega, by omega⟩ (fun h182 => ?_) (fun h182 => ?_)
          · refine lv_iconst (v := iI 0) X.1 X.2.1 d_By_fits_330 (by decide) ?_
            exact c_retz hQQ X Y hr hlk (iI_bool (by omega) (by omega)).1 ⟨rfl, rfl, 0, rfl, ⟨by omega, by omega⟩⟩ d_By_fits_331
          · refine lv_aload_n X.1 X.2.1 d_By_fits_313 rfl (lv_at hl 2 rfl) ?_
            refine lv_iload_n X.1 X.2.1 d_By_fits_314 rfl (lv_at hl 3 rfl) ?_
            refine lv_iload X.1 X.2.1 d_By_fits_315 (lv_at hl 0 rfl) ?_
            refine lv_iload_n X.1 X.2.1 d_By_fits_317 rfl (lv_at hl 5 rfl) ?_
            refine lv_iload X.1 X.2.1 d_By_fits_318 (lv_at hl 6 rfl) ?_
            refine t_ui (t_runV (As := [.int (iI a1), .int (iI z109), .int (iI a3), .int (iI a4)]) (rest := []) (n := 4) X Y S k0 hml hl.1 (c_By_fitsInside d IH l D E T κ L f H.size h n0 k0 (by omega) a1 (by omega) (by omega) z109 (by omega) (by omega) a3 (by omega) (by omega) a4 (by omega) (by omega) S.1 hd) (ok_k X Y hA KS KR) rfl kl_By_By_fitsInside ks_By_fitsInside kx_By_fitsInside ki_By_fitsInside ini_By ⟨rfl, rfl⟩ hd_By_fitsInside ⟨by simp only [kRm]; omega, by simp only [kRm]; omega⟩ rfl (Nat.le_of_ble_eq_true rfl) d_By_fits_320 ⟨Nat.le_of_ble_eq_true rfl, Nat.le_of_ble_eq_true rfl⟩) X Y hA (fun z183 H locs Y p183 => ?_)
            obtain ⟨l183, u183⟩ := p183
            refine z_if_eq (tgt := 330) X.1 X.2.1 d_By_fits_323 (by decide) ⟨by omega, by omega⟩ (fun h184 => ?_) (fun h184 => ?_)
            · refine lv_iconst (v := iI 0) X.1 X.2.1 d_By_fits_330 (by decide) ?_
              exact c_retz hQQ X Y hr hlk (iI_bool (by omega) (by omega)).1 ⟨rfl, rfl, 0, rfl, ⟨by omega, by omega⟩⟩ d_By_fits_331
            · refine lv_iconst (v := iI 1) X.1 X.2.1 d_By_fits_326 (by decide) ?_
              refine lv_goto (tgt := 331) X.1 X.2.1 d_By_fits_327 (by decide) ?_
              exact c_retz hQQ X Y hr hlk (iI_bool (by omega) (by omega)).1 ⟨rfl, rfl, 1, rfl, ⟨by omega, by omega⟩⟩ d_By_fits_331
        by_cases h185 : a1 = 114
        · rw [h185]
          refine lv_tableIn (off := 261) (tgt := 304) X.1 X.2.1 d_By_fits_43 (by decide) (by decide) (by decide) (by decide) ?_
          refine lv_iload X.1 X.2.1 d_By_fits_304 (lv_at hl 1 rfl) ?_
          refine lv_iload_n X.1 X.2.1 d_By_fits_306 rfl (lv_at hl 3 rfl) ?_
          refine t_ui (x_runS (As := [.int (iI a1)]) (rest := [.int (iI z108)]) (n := 1) X hml hl.1 (c_By_tagOf l D E T κ L f H.size a1 (by omega) (by omega) S.1) (ok_k X Y hA KS KR) kl_By_By_tagOf ks_By_tagOf ki_By_tagOf ini_By ⟨rfl, rfl⟩ hd_By_tagOf.2 ⟨by simp only [kRm]; omega, by simp only [kRm]; omega⟩ rfl (Nat.le_of_ble_eq_true rfl) d_By_fits_307 ⟨Nat.le_of_ble_eq_true rfl, Nat.le_of_ble_eq_true rfl⟩) X Y hA (fun z186 H locs Y p186 => ?_)
          obtain ⟨l186, u186⟩ := p186
          refine z_icmp_ne (tgt := 330) X.1 X.2.1 d_By_fits_310 (by decide) ⟨by omega, by omega⟩ ⟨by omega, by omega⟩ (fun h187 => ?_) (fun h187 => ?_)
          · refine lv_iconst (v := iI 0) X.1 X.2.1 d_By_fits_330 (by decide) ?_
            exact c_retz hQQ X Y hr hlk (iI_bool (by omega) (by omega)).1 ⟨rfl, rfl, 0, rfl, ⟨by omega, by omega⟩⟩ d_By_fits_331
          · refine lv_aload_n X.1 X.2.1 d_By_fits_313 rfl (lv_at hl 2 rfl) ?_
            refine lv_iload_n X.1 X.2.1 d_By_fits_314 rfl (lv_at hl 3 rfl) ?_
            refine lv_iload X.1 X.2.1 d_By_fits_315 (lv_at hl 0 rfl) ?_
            refine lv_iload_n X.1 X.2.1 d_By_fits_317 rfl (lv_at hl 5 rfl) ?_
            refine lv_iload X.1 X.2.1 d_By_fits_318 (lv_at hl 6 rfl) ?_
            refine t_ui (t_runV (As := [.int (iI a1), .int (iI z109), .int (iI a3), .int (iI a4)]) (rest := []) (n := 4) X Y S k0 hml hl.1 (c_By_fitsInside d IH l D E T κ L f H.size h n0 k0 (by omega) a1 (by omega) (by omega) z109 (by omega) (by omega) a3 (by omega) (by omega) a4 (by omega) (by omega) S.1 hd) (ok_k X Y hA KS KR) rfl kl_By_By_fitsInside ks_By_fitsInside kx_By_fitsInside ki_By_fitsInside ini_By ⟨rfl, rfl⟩ hd_By_fitsInside ⟨by simp only [kRm]; omega, by simp only [kRm]; omega⟩ rfl (Nat.le_of_ble_eq_true rfl) d_By_fits_320 ⟨Nat.le_of_ble_eq_true rfl, Nat.le_of_ble_eq_true rfl⟩) X Y hA (fun z188 H locs Y p188 => ?_)
            obtain ⟨l188, u188⟩ := p188
            refine z_if_eq (tgt := 330) X.1 X.2.1 d_By_fits_323 (by decide) ⟨by omega, by omega⟩ (fun h189 => ?_) (fun h189 => ?_)
            · refine lv_iconst (v := iI 0) X.1 X.2.1 d_By_fits_330 (by decide) ?_
              exact c_retz hQQ X Y hr hlk (iI_bool (by omega) (by omega)).1 ⟨rfl, rfl, 0, rfl, ⟨by omega, by omega⟩⟩ d_By_fits_331
            · refine lv_iconst (v := iI 1) X.1 X.2.1 d_By_fits_326 (by decide) ?_
              refine lv_goto (tgt := 331) X.1 X.2.1 d_By_fits_327 (by decide) ?_
              exact c_retz hQQ X Y hr hlk (iI_bool (by omega) (by omega)).1 ⟨rfl, rfl, 1, rfl, ⟨by omega, by omega⟩⟩ d_By_fits_331
        by_cases h190 : a1 = 115
        · rw [h190]
          refine lv_tableIn (off := 173) (tgt := 216) X.1 X.2.1 d_By_fits_43 (by decide) (by decide) (by decide) (by decide) ?_
          refine lv_iload X.1 X.2.1 d_By_fits_216 (lv_at hl 1 rfl) ?_
          refine lv_bipush (v := iI 27) X.1 X.2.1 d_By_fits_218 (by decide) ?_
          refine z_icmp_ne (tgt := 237) X.1 X.2.1 d_By_fits_220 (by decide) ⟨by omega, by omega⟩ ⟨by omega, by omega⟩ (fun h191 => ?_) (fun h191 => ?_)
          · refine lv_iconst (v := iI 0) X.1 X.2.1 d_By_fits_237 (by decide) ?_
            exact c_retz hQQ X Y hr hlk (iI_bool (by omega) (by omega)).1 ⟨rfl, rfl, 0, rfl, ⟨by omega, by omega⟩⟩ d_By_fits_238
          · refine lv_aload_n X.1 X.2.1 d_By_fits_223 rfl (lv_at hl 2 rfl) ?_
            refine lv_iload X.1 X.2.1 d_By_fits_224 (lv_at hl 0 rfl) ?_
            refine lv_iload_n X.1 X.2.1 d_By_fits_226 rfl (lv_at hl 5 rfl) ?_
            refine t_ui (t_runV (As := [.int (iI z109), .int (iI a3)]) (rest := []) (n := 2) X Y S k0 hml hl.1 (c_By_isPrintable l D E T κ L f H.size h n0 k0 (by omega) z109 (by omega) (by omega) a3 (by omega) (by omega) S.1) (ok_k X Y hA KS KR) rfl kl_By_By_isPrintable ks_By_isPrintable kx_By_isPrintable ki_By_isPrintable ini_By ⟨rfl, rfl⟩ hd_By_isPrintable ⟨by simp only [kRm]; omega, by simp only [kRm]; omega⟩ rfl (Nat.le_of_ble_eq_true rfl) d_By_fits_227 ⟨Nat.le_of_ble_eq_true rfl, Nat.le_of_ble_eq_true rfl⟩) X Y hA (fun z192 H locs Y p192 => ?_)
            obtain ⟨l192, u192⟩ := p192
            refine z_if_eq (tgt := 237) X.1 X.2.1 d_By_fits_230 (by decide) ⟨by omega, by omega⟩ (fun h193 => ?_) (fun h193 => ?_)
            · refine lv_iconst (v := iI 0) X.1 X.2.1 d_By_fits_237 (by decide) ?_
              exact c_retz hQQ X Y hr hlk (iI_bool (by omega) (by omega)).1 ⟨rfl, rfl, 0, rfl, ⟨by omega, by omega⟩⟩ d_By_fits_238
            · refine lv_iconst (v := iI 1) X.1 X.2.1 d_By_fits_233 (by decide) ?_
              refine lv_goto (tgt := 238) X.1 X.2.1 d_By_fits_234 (by decide) ?_
              exact c_retz hQQ X Y hr hlk (iI_bool (by omega) (by omega)).1 ⟨rfl, rfl, 1, rfl, ⟨by omega, by omega⟩⟩ d_By_fits_238
        by_cases h194 : a1 = 116
        · rw [h194]
          refine lv_tableIn (off := 196) (tgt := 239) X.1 X.2.1 d_By_fits_43 (by decide) (by decide) (by decide) (by decide) ?_
          refine lv_iload X.1 X.2.1 d_By_fits_239 (lv_at hl 1 rfl) ?_
          refine lv_bipush (v := iI 24) X.1 X.2.1 d_By_fits_241 (by decide) ?_
          refine z_icmp_ne (tgt := 260) X.1 X.2.1 d_By_fits_243 (by decide) ⟨by omega, by omega⟩ ⟨by omega, by omega⟩ (fun h195 => ?_) (fun h195 => ?_)
          · refine lv_iconst (v := iI 0) X.1 X.2.1 d_By_fits_260 (by decide) ?_
            exact c_retz hQQ X Y hr hlk (iI_bool (by omega) (by omega)).1 ⟨rfl, rfl, 0, rfl, ⟨by omega, by omega⟩⟩ d_By_fits_261
          · refine lv_aload_n X.1 X.2.1 d_By_fits_246 rfl (lv_at hl 2 rfl) ?_
            refine lv_iload X.1 X.2.1 d_By_fits_247 (lv_at hl 0 rfl) ?_
            refine lv_iload_n X.1 X.2.1 d_By_fits_249 rfl (lv_at hl 5 rfl) ?_
            refine t_ui (t_runV (As := [.int (iI z109), .int (iI a3)]) (rest := []) (n := 2) X Y S k0 hml hl.1 (c_By_isTime l D E T κ L f H.size h n0 k0 (by omega) z109 (by omega) (by omega) a3 (by omega) (by omega) S.1) (ok_k X Y hA KS KR) rfl kl_By_By_isTime ks_By_isTime kx_By_isTime ki_By_isTime ini_By ⟨rfl, rfl⟩ hd_By_isTime ⟨by simp only [kRm]; omega, by simp only [kRm]; omega⟩ rfl (Nat.le_of_ble_eq_true rfl) d_By_fits_250 ⟨Nat.le_of_ble_eq_true rfl, Nat.le_of_ble_eq_true rfl⟩) X Y hA (fun z196 H locs Y p196 => ?_)
            obtain ⟨l196, u196⟩ := p196
            refine z_if_eq (tgt := 260) X.1 X.2.1 d_By_fits_253 (by decide) ⟨by omega, by omega⟩ (fun h197 => ?_) (fun h197 => ?_)
            · refine lv_iconst (v := iI 0) X.1 X.2.1 d_By_fits_260 (by decide) ?_
              exact c_retz hQQ X Y hr hlk (iI_bool (by omega) (by omega)).1 ⟨rfl, rfl, 0, rfl, ⟨by omega, by omega⟩⟩ d_By_fits_261
            · refine lv_iconst (v := iI 1) X.1 X.2.1 d_By_fits_256 (by decide) ?_
              refine lv_goto (tgt := 261) X.1 X.2.1 d_By_fits_257 (by decide) ?_
              exact c_retz hQQ X Y hr hlk (iI_bool (by omega) (by omega)).1 ⟨rfl, rfl, 1, rfl, ⟨by omega, by omega⟩⟩ d_By_fits_261
        by_cases h198 : a1 = 117
        · rw [h198]
          refine lv_tableIn (off := 121) (tgt := 164) X.1 X.2.1 d_By_fits_43 (by decide) (by decide) (by decide) (by decide) ?_
          refine lv_iload X.1 X.2.1 d_By_fits_164 (lv_at hl 1 rfl) ?_
          refine lv_iconst (v := iI 2) X.1 X.2.1 d_By_fits_166 (by decide) ?_
          refine z_icmp_ne (tgt := 188) X.1 X.2.1 d_By_fits_167 (by decide) ⟨by omega, by omega⟩ ⟨by omega, by omega⟩ (fun h199 => ?_) (fun h199 => ?_)
          · refine lv_iconst (v := iI 0) X.1 X.2.1 d_By_fits_188 (by decide) ?_
            exact c_retz hQQ X Y hr hlk (iI_bool (by omega) (by omega)).1 ⟨rfl, rfl, 0, rfl, ⟨by omega, by omega⟩⟩ d_By_fits_189
          · refine lv_aload_n X.1 X.2.1 d_By_fits_170 rfl (lv_at hl 2 rfl) ?_
            refine lv_iload X.1 X.2.1 d_By_fits_171 (lv_at hl 0 rfl) ?_
            refine lv_iload_n X.1 X.2.1 d_By_fits_173 rfl (lv_at hl 5 rfl) ?_
            refine lv_lconst (v := 0) X.1 X.2.1 d_By_fits_174 rfl ?_
            refine lv_ldc2 (v := (4294967295)) X.1 X.2.1 X.2.2.2.1 (X.2.2.1 _ cl_By_159) d_By_fits_175 ?_
            refine t_ui (t_runV (As := [.int (iI z109), .int (iI a3), .long 0, .long ((4294967295))]) (rest := []) (n := 4) X Y S k0 hml hl.1 (c_By_isNumber l D E T κ L f H.size h n0 k0 (by omega) z109 (by omega) (by omega) a3 (by omega) (by omega) 0 ((4294967295)) S.1) (ok_k X Y hA KS KR) rfl kl_By_By_isNumber ks_By_isNumber kx_By_isNumber ki_By_isNumber ini_By ⟨rfl, rfl⟩ hd_By_isNumber ⟨by simp only [kRm]; omega, by simp only [kRm]; omega⟩ rfl (Nat.le_of_ble_eq_true rfl) d_By_fits_178 ⟨Nat.le_of_ble_eq_true rfl, Nat.le_of_ble_eq_true rfl⟩) X Y hA (fun z200 H locs Y p200 => ?_)
            obtain ⟨l200, u200⟩ := p200
            refine z_if_eq (tgt := 188) X.1 X.2.1 d_By_fits_181 (by decide) ⟨by omega, by omega⟩ (fun h201 => ?_) (fun h201 => ?_)
            · refine lv_iconst (v := iI 0) X.1 X.2.1 d_By_fits_188 (by decide) ?_
              exact c_retz hQQ X Y hr hlk (iI_bool (by omega) (by omega)).1 ⟨rfl, rfl, 0, rfl, ⟨by omega, by omega⟩⟩ d_By_fits_189
            · refine lv_iconst (v := iI 1) X.1 X.2.1 d_By_fits_184 (by decide) ?_
              refine lv_goto (tgt := 189) X.1 X.2.1 d_By_fits_185 (by decide) ?_
              exact c_retz hQQ X Y hr hlk (iI_bool (by omega) (by omega)).1 ⟨rfl, rfl, 1, rfl, ⟨by omega, by omega⟩⟩ d_By_fits_189
        refine lv_tableOut (tgt := 304) X.1 X.2.1 d_By_fits_43 (by rw [iI_toInt ⟨by omega, by omega⟩]; omega) (by decide) ?_
        refine lv_iload X.1 X.2.1 d_By_fits_304 (lv_at hl 1 rfl) ?_
        refine lv_iload_n X.1 X.2.1 d_By_fits_306 rfl (lv_at hl 3 rfl) ?_
        refine t_ui (x_runS (As := [.int (iI a1)]) (rest := [.int (iI z108)]) (n := 1) X hml hl.1 (c_By_tagOf l D E T κ L f H.size a1 (by omega) (by omega) S.1) (ok_k X Y hA KS KR) kl_By_By_tagOf ks_By_tagOf ki_By_tagOf ini_By ⟨rfl, rfl⟩ hd_By_tagOf.2 ⟨by simp only [kRm]; omega, by simp only [kRm]; omega⟩ rfl (Nat.le_of_ble_eq_true rfl) d_By_fits_307 ⟨Nat.le_of_ble_eq_true rfl, Nat.le_of_ble_eq_true rfl⟩) X Y hA (fun z202 H locs Y p202 => ?_)
        obtain ⟨l202, u202⟩ := p202
        refine z_icmp_ne (tgt := 330) X.1 X.2.1 d_By_fits_310 (by decide) ⟨by omega, by omega⟩ ⟨by omega, by omega⟩ (fun h203 => ?_) (fun h203 => ?_)
        · refine lv_iconst (v := iI 0) X.1 X.2.1 d_By_fits_330 (by decide) ?_
          exact c_retz hQQ X Y hr hlk (iI_bool (by omega) (by omega)).1 ⟨rfl, rfl, 0, rfl, ⟨by omega, by omega⟩⟩ d_By_fits_331
        · refine lv_aload_n X.1 X.2.1 d_By_fits_313 rfl (lv_at hl 2 rfl) ?_
          refine lv_iload_n X.1 X.2.1 d_By_fits_314 rfl (lv_at hl 3 rfl) ?_
          refine lv_iload X.1 X.2.1 d_By_fits_315 (lv_at hl 0 rfl) ?_
          refine lv_iload_n X.1 X.2.1 d_By_fits_317 rfl (lv_at hl 5 rfl) ?_
          refine lv_iload X.1 X.2.1 d_By_fits_318 (lv_at hl 6 rfl) ?_
          refine t_ui (t_runV (As := [.int (iI a1), .int (iI z109), .int (iI a3), .int (iI a4)]) (rest := []) (n := 4) X Y S k0 hml hl.1 (c_By_fitsInside d IH l D E T κ L f H.size h n0 k0 (by omega) a1 (by omega) (by omega) z109 (by omega) (by omega) a3 (by omega) (by omega) a4 (by omega) (by omega) S.1 hd) (ok_k X Y hA KS KR) rfl kl_By_By_fitsInside ks_By_fitsInside kx_By_fitsInside ki_By_fitsInside ini_By ⟨rfl, rfl⟩ hd_By_fitsInside ⟨by simp only [kRm]; omega, by simp only [kRm]; omega⟩ rfl (Nat.le_of_ble_eq_true rfl) d_By_fits_320 ⟨Nat.le_of_ble_eq_true rfl, Nat.le_of_ble_eq_true rfl⟩) X Y hA (fun z204 H locs Y p204 => ?_)
          obtain ⟨l204, u204⟩ := p204
          refine z_if_eq (tgt := 330) X.1 X.2.1 d_By_fits_323 (by decide) ⟨by omega, by omega⟩ (fun h205 => ?_) (fun h205 => ?_)
          · refine lv_iconst (v := iI 0) X.1 X.2.1 d_By_fits_330 (by decide) ?_
            exact c_retz hQQ X Y hr hlk (iI_bool (by omega) (by omega)).1 ⟨rfl, rfl, 0, rfl, ⟨by omega, by omega⟩⟩ d_By_fits_331
          · refine lv_iconst (v := iI 1) X.1 X.2.1 d_By_fits_326 (by decide) ?_
            refine lv_goto (tgt := 331) X.1 X.2.1 d_By_fits_327 (by decide) ?_
            exact c_retz hQQ X Y hr hlk (iI_bool (by omega) (by omega)).1 ⟨rfl, rfl, 1, rfl, ⟨by omega, by omega⟩⟩ d_By_fits_331
      · refine lv_iconst (v := iI 0) X.1 X.2.1 d_By_fits_21 (by decide) ?_
        exact c_retz hQQ X Y hr hlk (iI_bool (by omega) (by omega)).1 ⟨rfl, rfl, 0, rfl, ⟨by omega, by omega⟩⟩ d_By_fits_22
theorem fits_all : ∀ d, C_fits d := by
  intro d
  induction d with
  | zero => intro l D E T κ L f sz h n0 k0 x0 a1 l_a1 u_a1 a2 l_a2 u_a2 a3 l_a3 u_a3 a4 l_a4 u_a4 hw hd; exact c_By_fits0 l D E T κ L f sz h n0 k0 x0 a1 l_a1 u_a1 a2 l_a2 u_a2 a3 l_a3 u_a3 a4 (by omega) u_a4 hw
  | succ d ih => intro l D E T κ L f sz h n0 k0 x0 a1 l_a1 u_a1 a2 l_a2 u_a2 a3 l_a3 u_a3 a4 l_a4 u_a4 hw hd; exact c_By_fits d ih l D E T κ L f sz h n0 k0 x0 a1 l_a1 u_a1 a2 l_a2 u_a2 a3 l_a3 u_a3 a4 l_a4 u_a4 hw (by omega)
set_option maxHeartbeats 4000000 in
set_option maxRecDepth 100000 in
theorem c_By_isA (l : Launch) (D : va_G) (E : cE) (T : cT) (κ : tK) (L : List Nat) (f : pF) (sz : Nat) (h n0 : Nat) (k0 : κ h = (13, n0)) (x0 : n0 ≤ 12288) (a1 : Int) (l_a1 : (-2147483648) ≤ a1) (u_a1 : a1 ≤ 2147483647) (a2 : Int) (l_a2 : (-1) ≤ a2) (u_a2 : a2 ≤ 20200) (a3 : Int) (l_a3 : 0 ≤ a3) (u_a3 : a3 ≤ 20200) (hw : tW E T κ L f) : Met l y_By_isA (k_By_isA :: lw_tg) (kRm 70 2340 0 0) (va_Pc [.ref h, .int (iI a1), .int (iI a2), .int (iI a3)] (kPre D E T L f sz)) (va_Qi (uPi L f (fun (z : Int) => 0 ≤ z ∧ z ≤ 1)) (cPost D E (pA L sz)) (pA L sz)) 0 0 (pA L sz) := by
  refine k_enter (own := R_By) (by decide) rfl (Nat.le_of_ble_eq_true rfl) (fun p e s m below meth c ls AV QQ H locs hQQ X Y hA hin hr hlk hml hl KS KR => ?_)
  have hl : lv_has ls 4 [(0, .ref h), (1, .int (iI a1)), (2, .int (iI a2)), (3, .int (iI a3))] := hl
  have S : tS E T (tFr κ L [] []) κ L f κ L f := tS_rf hw
  refine lv_aload_n X.1 X.2.1 d_By_isA_0 rfl (lv_at hl 0 rfl) ?_
  refine lv_iload_n X.1 X.2.1 d_By_isA_1 rfl (lv_at hl 1 rfl) ?_
  refine lv_iload_n X.1 X.2.1 d_By_isA_2 rfl (lv_at hl 2 rfl) ?_
  refine lv_iload_n X.1 X.2.1 d_By_isA_3 rfl (lv_at hl 3 rfl) ?_
  refine lv_iconst (v := iI 0) X.1 X.2.1 d_By_isA_4 (by decide) ?_
  refine t_ui (t_runV (As := [.int (iI a1), .int (iI a2), .int (iI a3), .int (iI 0)]) (rest := []) (n := 4) X Y S k0 hml hl.1 (fits_all 21 l D E T κ L f H.size h n0 k0 (by omega) a1 (by omega) (by omega) a2 (by omega) (by omega) a3 (by omega) (by omega) 0 (by omega) (by omega) S.1 (by omega)) (ok_k X Y hA KS KR) rfl kl_By_By_fits ks_By_fits kx_By_fits ki_By_fits ini_By ⟨rfl, rfl⟩ hd_By_fits ⟨Nat.le_of_ble_eq_true rfl, Nat.le_of_ble_eq_true rfl⟩ rfl (Nat.le_of_ble_eq_true rfl) d_By_isA_5 ⟨Nat.le_of_ble_eq_true rfl, Nat.le_of_ble_eq_true rfl⟩) X Y hA (fun z101 H locs Y p101 => ?_)
  obtain ⟨l101, u101⟩ := p101
  exact c_retz hQQ X Y hr hlk (iI_bool (by omega) (by omega)).1 ⟨rfl, rfl, z101, rfl, ⟨by omega, by omega⟩⟩ d_By_isA_8
