def C_fits (d : Nat) : Prop := ∀ (l : Launch) (D : va_G) (E : cE) (T : cT) (κ : tK) (L : List Nat) (f : pF) (sz : Nat) (h n0 : Nat) (k0 : κ h = (13, n0)) (x0 : n0 ≤ 12288) (a1 : Int) (l_a1 : (-2147483648) ≤ a1) (u_a1 : a1 ≤ 2147483647) (a2 : Int) (l_a2 : (-1) ≤ a2) (u_a2 : a2 ≤ 20200) (a3 : Int) (l_a3 : 0 ≤ a3) (u_a3 : a3 ≤ 20200) (a4 : Int) (l_a4 : 0 ≤ a4) (u_a4 : a4 ≤ 21) (hw : tW E T κ L f) (hd : 21 ≤ a4 + d), Met l y_By_fits (k_By_fits :: lw_tg) (kRm (6 + 3 * d) (110 + 100 * d) 0 0) (va_Pc [.ref h, .int (iI a1), .int (iI a2), .int (iI a3), .int (iI a4)] (kPre D E T L f sz)) (va_Qi (uPi L f (fun (z : Int) => 0 ≤ z ∧ z ≤ 1)) (cPost D E (pA L sz)) (pA L sz)) 0 0 (pA L sz)
set_option maxHeartbeats 4000000 in
set_option maxRecDepth 100000 in
theorem c_By_fitsRow (d : Nat) (IH : C_fits d) (l : Launch) (D : va_G) (E : cE) (T : cT) (κ : tK) (L : List Nat) (f : pF) (sz : Nat) (h n0 : Nat) (k0 : κ h = (13, n0)) (x0 : n0 ≤ 12288) (a1 : Int) (l_a1 : (-2147483648) ≤ a1) (u_a1 : a1 ≤ 2147483647) (a2 : Int) (l_a2 : (-1) ≤ a2) (u_a2 : a2 ≤ 20200) (a3 : Int) (l_a3 : 0 ≤ a3) (u_a3 : a3 ≤ 20200) (a4 : Int) (l_a4 : 0 ≤ a4) (u_a4 : a4 ≤ 20) (hw : tW E T κ L f) (hd : 21 ≤ a4 + (d + 1)) : Met l y_By_fitsRow (k_By_fitsRow :: lw_tg) (kRm (7 + 3 * d) (150 + 100 * d) 0 0) (va_Pc [.ref h, .int (iI a1), .int (iI a2), .int (iI a3), .int (iI a4)] (kPre D E T L f sz)) (va_Qi (uPi L f (fun (z : Int) => 0 ≤ z ∧ z ≤ 1)) (cPost D E (pA L sz)) (pA L sz)) 0 0 (pA L sz) := by
  refine k_enter (own := R_By) (by decide) rfl (Nat.le_of_ble_eq_true rfl) (fun p e s m below meth c ls AV QQ H locs hQQ X Y hA hin hr hlk hml hl KS KR => ?_)
  have hl : lv_has ls 8 [(0, .ref h), (1, .int (iI a1)), (2, .int (iI a2)), (3, .int (iI a3)), (4, .int (iI a4))] := hl
  have S : tS E T (tFr κ L [] []) κ L f κ L f := tS_rf hw
  refine lv_iload_n X.1 X.2.1 d_By_fitsRow_0 rfl (lv_at hl 2 rfl) ?_
  refine lv_istore (lv' := [(5, .int (iI a2)), (0, .ref h), (1, .int (iI a1)), (2, .int (iI a2)), (3, .int (iI a3)), (4, .int (iI a4))]) X.1 X.2.1 d_By_fitsRow_1 hl (by decide) rfl (fun ls hl => ?_)
  refine lv_iconst (v := iI 0) X.1 X.2.1 d_By_fitsRow_3 (by decide) ?_
  have J3 : ∀ (n5 : Nat) (z1 : Int) (z2 : Int) (H : Heap) (locs : List Loc) (ls : Array Slot), (16 - z2).toNat = n5 → ((-1) ≤ z1) → (z1 ≤ 20200) → (0 ≤ z2) → (z2 ≤ 16) → pH D cCl (pA L sz) s.heap L f H locs → tS E T (tFr κ L [] []) κ L f κ L f → lv_has ls 8 [(0, .ref h), (1, .int (iI a1)), (3, .int (iI a3)), (4, .int (iI a4)), (5, .int (iI z1)), (6, .int (iI z2))] → W p l e (kRm (7 + 3 * d) (150 + 100 * d) 0 0) s m AV below meth c H locs 0 0 QQ (F0 m 6 ls []) := by
    intro n5
    induction n5 using Nat.strongRecOn with
    | ind n5 ih4 =>
      intro z1 z2 H locs ls hm6 l1 u1 l2 u2 Y S hl
      refine lv_iload X.1 X.2.1 d_By_fitsRow_6 (lv_at hl 5 rfl) ?_
      refine lv_bipush (v := iI 16) X.1 X.2.1 d_By_fitsRow_8 (by decide) ?_
      have J7 : ∀  (H : Heap) (locs : List Loc) (ls : Array Slot), pH D cCl (pA L sz) s.heap L f H locs → tS E T (tFr κ L [] []) κ L f κ L f → lv_has ls 8 [(3, .int (iI a3)), (5, .int (iI z1))] → W p l e (kRm (7 + 3 * d) (150 + 100 * d) 0 0) s m AV below meth c H locs 0 0 QQ (F0 m 61 ls []) := by
        intro  H locs ls  Y S hl
        refine lv_iload X.1 X.2.1 d_By_fitsRow_61 (lv_at hl 1 rfl) ?_
        refine lv_iload_n X.1 X.2.1 d_By_fitsRow_63 rfl (lv_at hl 0 rfl) ?_
        refine z_icmp_ne (tgt := 71) X.1 X.2.1 d_By_fitsRow_64 (by decide) ⟨by omega, by omega⟩ ⟨by omega, by omega⟩ (fun h11 => ?_) (fun h11 => ?_)
        · refine lv_iconst (v := iI 0) X.1 X.2.1 d_By_fitsRow_71 (by decide) ?_
          exact c_retz hQQ X Y hr hlk (iI_bool (by omega) (by omega)).1 ⟨rfl, rfl, 0, rfl, ⟨by omega, by omega⟩⟩ d_By_fitsRow_72
        · refine lv_iconst (v := iI 1) X.1 X.2.1 d_By_fitsRow_67 (by decide) ?_
          refine lv_goto (tgt := 72) X.1 X.2.1 d_By_fitsRow_68 (by decide) ?_
          exact c_retz hQQ X Y hr hlk (iI_bool (by omega) (by omega)).1 ⟨rfl, rfl, 1, rfl, ⟨by omega, by omega⟩⟩ d_By_fitsRow_72
      refine z_icmp_ge (tgt := 61) X.1 X.2.1 d_By_fitsRow_10 (by decide) ⟨by omega, by omega⟩ ⟨by omega, by omega⟩ (fun h12 => ?_) (fun h12 => ?_)
      · exact J7  _ _ _  Y S (lv_sub hl [2, 4] rfl)
      · refine lv_iload X.1 X.2.1 d_By_fitsRow_13 (lv_at hl 4 rfl) ?_
        refine lv_iload_n X.1 X.2.1 d_By_fitsRow_15 rfl (lv_at hl 2 rfl) ?_
        refine z_icmp_ge (tgt := 61) X.1 X.2.1 d_By_fitsRow_16 (by decide) ⟨by omega, by omega⟩ ⟨by omega, by omega⟩ (fun h13 => ?_) (fun h13 => ?_)
        · exact J7  _ _ _  Y S (lv_sub hl [2, 4] rfl)
        · refine lv_aload_n X.1 X.2.1 d_By_fitsRow_19 rfl (lv_at hl 0 rfl) ?_
          refine lv_iload X.1 X.2.1 d_By_fitsRow_20 (lv_at hl 4 rfl) ?_
          refine lv_iload_n X.1 X.2.1 d_By_fitsRow_22 rfl (lv_at hl 2 rfl) ?_
          obtain ⟨z14, e14, l14, u14⟩ := t_size S k0
          refine t_ui (t_runV (As := [.int (iI z1), .int (iI a3)]) (rest := []) (n := 2) X Y S k0 hml hl.1 (c_By_stop l D E T κ L f H.size h n0 k0 (by omega) z1 (by omega) (by omega) a3 (by omega) (by omega) S.1 z14 e14 (by omega) (by omega)) (ok_k X Y hA KS KR) rfl kl_By_By_stop ks_By_stop kx_By_stop ki_By_stop ini_By ⟨rfl, rfl⟩ hd_By_stop ⟨by simp only [kRm]; omega, by simp only [kRm]; omega⟩ rfl (Nat.le_of_ble_eq_true rfl) d_By_fitsRow_23 ⟨Nat.le_of_ble_eq_true rfl, Nat.le_of_ble_eq_true rfl⟩) X Y hA (fun z15 H locs Y p15 => ?_)
          obtain ⟨l15, u15, x15⟩ := p15
          refine lv_istore (lv' := [(7, .int (iI z15)), (0, .ref h), (1, .int (iI a1)), (3, .int (iI a3)), (4, .int (iI a4)), (5, .int (iI z1)), (6, .int (iI z2))]) X.1 X.2.1 d_By_fitsRow_26 hl (by decide) rfl (fun ls hl => ?_)
          refine lv_iload X.1 X.2.1 d_By_fitsRow_28 (lv_at hl 0 rfl) ?_
          refine z_if_lt (tgt := 49) X.1 X.2.1 d_By_fitsRow_30 (by decide) ⟨by omega, by omega⟩ (fun h16 => ?_) (fun h16 => ?_)
          · refine lv_iconst (v := iI 0) X.1 X.2.1 d_By_fitsRow_49 (by decide) ?_
            exact c_retz hQQ X Y hr hlk (iI_bool (by omega) (by omega)).1 ⟨rfl, rfl, 0, rfl, ⟨by omega, by omega⟩⟩ d_By_fitsRow_50
          · refine lv_aload_n X.1 X.2.1 d_By_fitsRow_33 rfl (lv_at hl 1 rfl) ?_
            refine lv_iload_n X.1 X.2.1 d_By_fitsRow_34 rfl (lv_at hl 2 rfl) ?_
            refine lv_iload X.1 X.2.1 d_By_fitsRow_35 (lv_at hl 5 rfl) ?_
            refine lv_iload X.1 X.2.1 d_By_fitsRow_37 (lv_at hl 0 rfl) ?_
            refine lv_iload X.1 X.2.1 d_By_fitsRow_39 (lv_at hl 4 rfl) ?_
            refine lv_iconst (v := iI 1) X.1 X.2.1 d_By_fitsRow_41 (by decide) ?_
            refine z_iadd X.1 X.2.1 d_By_fitsRow_42 ?_
            refine t_ui (t_runV (As := [.int (iI a1), .int (iI z1), .int (iI z15), .int (iI (a4 + 1))]) (rest := []) (n := 4) X Y S k0 hml hl.1 (IH l D E T κ L f H.size h n0 k0 (by omega) a1 (by omega) (by omega) z1 (by omega) (by omega) z15 (by omega) (by omega) (a4 + 1) (by omega) (by omega) S.1 (by omega)) (ok_k X Y hA KS KR) rfl kl_By_By_fits ks_By_fits kx_By_fits ki_By_fits ini_By ⟨rfl, rfl⟩ hd_By_fits ⟨by simp only [kRm]; omega, by simp only [kRm]; omega⟩ rfl (Nat.le_of_ble_eq_true rfl) d_By_fitsRow_43 ⟨Nat.le_of_ble_eq_true rfl, Nat.le_of_ble_eq_true rfl⟩) X Y hA (fun z17 H locs Y p17 => ?_)
            obtain ⟨l17, u17⟩ := p17
            refine z_if_ne (tgt := 51) X.1 X.2.1 d_By_fitsRow_46 (by decide) ⟨by omega, by omega⟩ (fun h18 => ?_) (fun h18 => ?_)
            · refine lv_iload X.1 X.2.1 d_By_fitsRow_51 (lv_at hl 0 rfl) ?_
              refine lv_istore (lv' := [(5, .int (iI z15)), (7, .int (iI z15)), (0, .ref h), (1, .int (iI a1)), (3, .int (iI a3)), (4, .int (iI a4)), (6, .int (iI z2))]) X.1 X.2.1 d_By_fitsRow_53 hl (by decide) rfl (fun ls hl => ?_)
              refine lv_iinc (v := iI (z2 + 1)) (lv' := [(6, .int (iI (z2 + 1))), (5, .int (iI z15)), (7, .int (iI z15)), (0, .ref h), (1, .int (iI a1)), (3, .int (iI a3)), (4, .int (iI a4))]) X.1 X.2.1 d_By_fitsRow_55 hl (k := 6) rfl ((iI_add _ _).trans (congrArg iI (by omega))) (by decide) rfl (fun ls hl => ?_)
              refine lv_goto (tgt := 6) X.1 X.2.1 d_By_fitsRow_58 (by decide) ?_
              exact ih4 ((16 - (z2 + 1)).toNat) (by omega) z15 (z2 + 1) _ _ _ rfl (by omega) (by omega) (by omega) (by omega) Y S (lv_sub hl [3, 4, 5, 6, 1, 0] rfl)
            · refine lv_iconst (v := iI 0) X.1 X.2.1 d_By_fitsRow_49 (by decide) ?_
              exact c_retz hQQ X Y hr hlk (iI_bool (by omega) (by omega)).1 ⟨rfl, rfl, 0, rfl, ⟨by omega, by omega⟩⟩ d_By_fitsRow_50
  refine lv_istore (lv' := [(6, .int (iI 0)), (5, .int (iI a2)), (0, .ref h), (1, .int (iI a1)), (2, .int (iI a2)), (3, .int (iI a3)), (4, .int (iI a4))]) X.1 X.2.1 d_By_fitsRow_4 hl (by decide) rfl (fun ls hl => ?_)
  exact J3 _ a2 0 _ _ _ rfl (by omega) (by omega) (by omega) (by omega) Y S (lv_sub hl [2, 3, 5, 6, 1, 0] rfl)
set_option maxHeartbeats 4000000 in
set_option maxRecDepth 100000 in
theorem c_By_fitsFields (d : Nat) (IH : C_fits d) (l : Launch) (D : va_G) (E : cE) (T : cT) (κ : tK) (L : List Nat) (f : pF) (sz : Nat) (h n0 : Nat) (k0 : κ h = (13, n0)) (x0 : n0 ≤ 12288) (a1 : Nat) (k1 : a1 < nY) (a2 : Int) (l_a2 : (-1) ≤ a2) (u_a2 : a2 ≤ 20200) (a3 : Int) (l_a3 : 0 ≤ a3) (u_a3 : a3 ≤ 20200) (a4 : Int) (l_a4 : 0 ≤ a4) (u_a4 : a4 ≤ 20) (hw : tW E T κ L f) (hd : 21 ≤ a4 + (d + 1)) : Met l y_By_fitsFields (k_By_fitsFields :: lw_tg) (kRm (7 + 3 * d) (150 + 100 * d) 0 0) (va_Pc [.ref h, .ref (T.2.1 a1), .int (iI a2), .int (iI a3), .int (iI a4)] (kPre D E T L f sz)) (va_Qi (uPi L f (fun (z : Int) => 0 ≤ z ∧ z ≤ 1)) (cPost D E (pA L sz)) (pA L sz)) 0 0 (pA L sz) := by
  refine k_enter (own := R_By) (by decide) rfl (Nat.le_of_ble_eq_true rfl) (fun p e s m below meth c ls AV QQ H locs hQQ X Y hA hin hr hlk hml hl KS KR => ?_)
  have hl : lv_has ls 10 [(0, .ref h), (1, .ref ((T.2.1 a1))), (2, .int (iI a2)), (3, .int (iI a3)), (4, .int (iI a4))] := hl
  have S : tS E T (tFr κ L [] []) κ L f κ L f := tS_rf hw
  refine lv_iload_n X.1 X.2.1 d_By_fitsFields_0 rfl (lv_at hl 2 rfl) ?_
  refine lv_istore (lv' := [(5, .int (iI a2)), (0, .ref h), (1, .ref ((T.2.1 a1))), (2, .int (iI a2)), (3, .int (iI a3)), (4, .int (iI a4))]) X.1 X.2.1 d_By_fitsFields_1 hl (by decide) rfl (fun ls hl => ?_)
  refine lv_iconst (v := iI 0) X.1 X.2.1 d_By_fitsFields_3 (by decide) ?_
  have J3 : ∀ (n5 : Nat) (z1 : Int) (z2 : Int) (H : Heap) (locs : List Loc) (ls : Array Slot), (64 - z2).toNat = n5 → ((-1) ≤ z1) → (z1 ≤ 20200) → (0 ≤ z2) → (z2 ≤ 64) → pH D cCl (pA L sz) s.heap L f H locs → tS E T (tFr κ L [] []) κ L f κ L f → lv_has ls 10 [(0, .ref h), (1, .ref ((T.2.1 a1))), (3, .int (iI a3)), (4, .int (iI a4)), (5, .int (iI z1)), (6, .int (iI z2))] → W p l e (kRm (7 + 3 * d) (150 + 100 * d) 0 0) s m AV below meth c H locs 0 0 QQ (F0 m 6 ls []) := by
    intro n5
    induction n5 using Nat.strongRecOn with
    | ind n5 ih4 =>
      intro z1 z2 H locs ls hm6 l1 u1 l2 u2 Y S hl
      refine lv_iload X.1 X.2.1 d_By_fitsFields_6 (lv_at hl 5 rfl) ?_
      refine lv_iconst (v := iI 2) X.1 X.2.1 d_By_fitsFields_8 (by decide) ?_
      refine z_iadd X.1 X.2.1 d_By_fitsFields_9 ?_
      refine lv_aload_n X.1 X.2.1 d_By_fitsFields_10 rfl (lv_at hl 1 rfl) ?_
      refine t_length (i := a1) X Y KS k1 hml hl.1 kl_By_length ⟨by simp only [kRm]; omega, by simp only [kRm]; omega⟩ (Nat.le_of_ble_eq_true rfl) d_By_fitsFields_11 ⟨Nat.le_of_ble_eq_true rfl, Nat.le_of_ble_eq_true rfl⟩ (fun H locs Y => ?_)
      have y7 := yn_40 a1 k1
      refine z_icmp_ge (tgt := 142) X.1 X.2.1 d_By_fitsFields_14 (by decide) ⟨by omega, by omega⟩ ⟨by omega, by omega⟩ (fun h8 => ?_) (fun h8 => ?_)
      · refine lv_iload X.1 X.2.1 d_By_fitsFields_142 (lv_at hl 4 rfl) ?_
        refine lv_iload_n X.1 X.2.1 d_By_fitsFields_144 rfl (lv_at hl 2 rfl) ?_
        refine z_icmp_ne (tgt := 152) X.1 X.2.1 d_By_fitsFields_145 (by decide) ⟨by omega, by omega⟩ ⟨by omega, by omega⟩ (fun h9 => ?_) (fun h9 => ?_)
        · refine lv_iconst (v := iI 0) X.1 X.2.1 d_By_fitsFields_152 (by decide) ?_
          exact c_retz hQQ X Y hr hlk (iI_bool (by omega) (by omega)).1 ⟨rfl, rfl, 0, rfl, ⟨by omega, by omega⟩⟩ d_By_fitsFields_153
        · refine lv_iconst (v := iI 1) X.1 X.2.1 d_By_fitsFields_148 (by decide) ?_
          refine lv_goto (tgt := 153) X.1 X.2.1 d_By_fitsFields_149 (by decide) ?_
          exact c_retz hQQ X Y hr hlk (iI_bool (by omega) (by omega)).1 ⟨rfl, rfl, 1, rfl, ⟨by omega, by omega⟩⟩ d_By_fitsFields_153
      · refine lv_aload_n X.1 X.2.1 d_By_fitsFields_17 rfl (lv_at hl 1 rfl) ?_
        refine lv_iload X.1 X.2.1 d_By_fitsFields_18 (lv_at hl 5 rfl) ?_
        refine t_charAt (i := a1) X Y KS k1 (by omega) (by omega) hml hl.1 kl_By_charAt ⟨by simp only [kRm]; omega, by simp only [kRm]; omega⟩ (Nat.le_of_ble_eq_true rfl) d_By_fitsFields_20 ⟨Nat.le_of_ble_eq_true rfl, Nat.le_of_ble_eq_true rfl⟩ (fun H locs z10 Y e10 l10 u10 => ?_)
        refine lv_istore (lv' := [(7, .int (iI z10)), (0, .ref h), (1, .ref ((T.2.1 a1))), (3, .int (iI a3)), (4, .int (iI a4)), (5, .int (iI z1)), (6, .int (iI z2))]) X.1 X.2.1 d_By_fitsFields_23 hl (by decide) rfl (fun ls hl => ?_)
        refine lv_iload X.1 X.2.1 d_By_fitsFields_25 (lv_at hl 0 rfl) ?_
        refine lv_bipush (v := iI 57) X.1 X.2.1 d_By_fitsFields_27 (by decide) ?_
        have J12 : ∀ (z11 : Int) (H : Heap) (locs : List Loc) (ls : Array Slot), ((-48) ≤ z11) → (z11 ≤ 168) → pH D cCl (pA L sz) s.heap L f H locs → tS E T (tFr κ L [] []) κ L f κ L f → lv_has ls 10 [(0, .ref h), (1, .ref ((T.2.1 a1))), (3, .int (iI a3)), (4, .int (iI a4)), (5, .int (iI z1)), (6, .int (iI z2))] → W p l e (kRm (7 + 3 * d) (150 + 100 * d) 0 0) s m AV below meth c H locs 0 0 QQ (F0 m 48 ls [.int (iI z11)]) := by
          intro z11 H locs ls l11 u11 Y S hl
          refine lv_istore (lv' := [(8, .int (iI z11)), (0, .ref h), (1, .ref ((T.2.1 a1))), (3, .int (iI a3)), (4, .int (iI a4)), (5, .int (iI z1)), (6, .int (iI z2))]) X.1 X.2.1 d_By_fitsFields_48 hl (by decide) rfl (fun ls hl => ?_)
          refine lv_iload X.1 X.2.1 d_By_fitsFields_50 (lv_at hl 5 rfl) ?_
          refine lv_iload_n X.1 X.2.1 d_By_fitsFields_52 rfl (lv_at hl 3 rfl) ?_
          have J17 : ∀ (z16 : Int) (H : Heap) (locs : List Loc) (ls : Array Slot), ((-1) ≤ z16) → (z16 ≤ 20200) → pH D cCl (pA L sz) s.heap L f H locs → tS E T (tFr κ L [] []) κ L f κ L f → lv_has ls 10 [(0, .ref h), (1, .ref ((T.2.1 a1))), (3, .int (iI a3)), (4, .int (iI a4)), (5, .int (iI z16)), (6, .int (iI z2))] → W p l e (kRm (7 + 3 * d) (150 + 100 * d) 0 0) s m AV below meth c H locs 0 0 QQ (F0 m 136 ls []) := by
            intro z16 H locs ls l16 u16 Y S hl
            refine lv_iinc (v := iI (z2 + 3)) (lv' := [(6, .int (iI (z2 + 3))), (0, .ref h), (1, .ref ((T.2.1 a1))), (3, .int (iI a3)), (4, .int (iI a4)), (5, .int (iI z16))]) X.1 X.2.1 d_By_fitsFields_136 hl (k := 5) rfl ((iI_add _ _).trans (congrArg iI (by omega))) (by decide) rfl (fun ls hl => ?_)
            refine lv_goto (tgt := 6) X.1 X.2.1 d_By_fitsFields_139 (by decide) ?_
            exact ih4 ((64 - (z2 + 3)).toNat) (by omega) z16 (z2 + 3) _ _ _ rfl (by omega) (by omega) (by omega) (by omega) Y S (lv_sub hl [1, 2, 3, 4, 5, 0] rfl)
          have J21 : ∀  (H : Heap) (locs : List Loc) (ls : Array Slot), pH D cCl (pA L sz) s.heap L f H locs → tS E T (tFr κ L [] []) κ L f κ L f → lv_has ls 10 [(0, .ref h), (1, .ref ((T.2.1 a1))), (3, .int (iI a3)), (4, .int (iI a4)), (5, .int (iI z1)), (6, .int (iI z2))] → W p l e (kRm (7 + 3 * d) (150 + 100 * d) 0 0) s m AV below meth c H locs 0 0 QQ (F0 m 121 ls []) := by
            intro  H locs ls  Y S hl
            refine lv_aload_n X.1 X.2.1 d_By_fitsFields_121 rfl (lv_at hl 1 rfl) ?_
            refine lv_iload X.1 X.2.1 d_By_fitsFields_122 (lv_at hl 5 rfl) ?_
            refine lv_iconst (v := iI 1) X.1 X.2.1 d_By_fitsFields_124 (by decide) ?_
            refine z_iadd X.1 X.2.1 d_By_fitsFields_125 ?_
            refine t_charAt (i := a1) X Y KS k1 (by omega) (by omega) hml hl.1 kl_By_charAt ⟨by simp only [kRm]; omega, by simp only [kRm]; omega⟩ (Nat.le_of_ble_eq_true rfl) d_By_fitsFields_126 ⟨Nat.le_of_ble_eq_true rfl, Nat.le_of_ble_eq_true rfl⟩ (fun H locs z25 Y e25 l25 u25 => ?_)
            refine lv_bipush (v := iI 33) X.1 X.2.1 d_By_fitsFields_129 (by decide) ?_
            refine z_icmp_ne (tgt := 136) X.1 X.2.1 d_By_fitsFields_131 (by decide) ⟨by omega, by omega⟩ ⟨by omega, by omega⟩ (fun h26 => ?_) (fun h26 => ?_)
            · exact J17 z1 _ _ _ (by omega) (by omega) Y S (lv_sub hl [0, 1, 2, 3, 4, 5] rfl)
            · refine lv_iconst (v := iI 0) X.1 X.2.1 d_By_fitsFields_134 (by decide) ?_
              exact c_retz hQQ X Y hr hlk (iI_bool (by omega) (by omega)).1 ⟨rfl, rfl, 0, rfl, ⟨by omega, by omega⟩⟩ d_By_fitsFields_135
          refine z_icmp_ge (tgt := 121) X.1 X.2.1 d_By_fitsFields_53 (by decide) ⟨by omega, by omega⟩ ⟨by omega, by omega⟩ (fun h27 => ?_) (fun h27 => ?_)
          · exact J21  _ _ _  Y S (lv_sub hl [1, 2, 3, 4, 5, 6] rfl)
          · refine lv_aload_n X.1 X.2.1 d_By_fitsFields_56 rfl (lv_at hl 1 rfl) ?_
            refine lv_iload X.1 X.2.1 d_By_fitsFields_57 (lv_at hl 5 rfl) ?_
            refine t_ui (t_runV (As := [.int (iI z1)]) (rest := []) (n := 1) X Y S k0 hml hl.1 (c_By_at l D E T κ L f H.size h n0 k0 (by omega) z1 (by omega) (by omega) S.1) (ok_k X Y hA KS KR) rfl kl_By_By_at ks_By_at kx_By_at ki_By_at ini_By ⟨rfl, rfl⟩ hd_By_at ⟨by simp only [kRm]; omega, by simp only [kRm]; omega⟩ rfl (Nat.le_of_ble_eq_true rfl) d_By_fitsFields_59 ⟨Nat.le_of_ble_eq_true rfl, Nat.le_of_ble_eq_true rfl⟩) X Y hA (fun z28 H locs Y p28 => ?_)
            obtain ⟨l28, u28⟩ := p28
            refine lv_sipush (v := iI 160) X.1 X.2.1 d_By_fitsFields_62 (by decide) ?_
            refine lv_iload X.1 X.2.1 d_By_fitsFields_65 (lv_at hl 0 rfl) ?_
            refine z_iadd X.1 X.2.1 d_By_fitsFields_67 ?_
            refine z_icmp_ne (tgt := 121) X.1 X.2.1 d_By_fitsFields_68 (by decide) ⟨by omega, by omega⟩ ⟨by omega, by omega⟩ (fun h29 => ?_) (fun h29 => ?_)
            · exact J21  _ _ _  Y S (lv_sub hl [1, 2, 3, 4, 5, 6] rfl)
            · refine lv_aload_n X.1 X.2.1 d_By_fitsFields_71 rfl (lv_at hl 1 rfl) ?_
              refine lv_iload X.1 X.2.1 d_By_fitsFields_72 (lv_at hl 5 rfl) ?_
              refine lv_iload_n X.1 X.2.1 d_By_fitsFields_74 rfl (lv_at hl 3 rfl) ?_
              obtain ⟨z30, e30, l30, u30⟩ := t_size S k0
              refine t_ui (t_runV (As := [.int (iI z1), .int (iI a3)]) (rest := []) (n := 2) X Y S k0 hml hl.1 (c_By_stop l D E T κ L f H.size h n0 k0 (by omega) z1 (by omega) (by omega) a3 (by omega) (by omega) S.1 z30 e30 (by omega) (by omega)) (ok_k X Y hA KS KR) rfl kl_By_By_stop ks_By_stop kx_By_stop ki_By_stop ini_By ⟨rfl, rfl⟩ hd_By_stop ⟨by simp only [kRm]; omega, by simp only [kRm]; omega⟩ rfl (Nat.le_of_ble_eq_true rfl) d_By_fitsFields_75 ⟨Nat.le_of_ble_eq_true rfl, Nat.le_of_ble_eq_true rfl⟩) X Y hA (fun z31 H locs Y p31 => ?_)
              obtain ⟨l31, u31, x31⟩ := p31
              refine lv_istore (lv' := [(9, .int (iI z31)), (8, .int (iI z11)), (0, .ref h), (1, .ref ((T.2.1 a1))), (3, .int (iI a3)), (4, .int (iI a4)), (5, .int (iI z1)), (6, .int (iI z2))]) X.1 X.2.1 d_By_fitsFields_78 hl (by decide) rfl (fun ls hl => ?_)
              refine lv_iload X.1 X.2.1 d_By_fitsFields_80 (lv_at hl 0 rfl) ?_
              refine z_if_lt (tgt := 112) X.1 X.2.1 d_By_fitsFields_82 (by decide) ⟨by omega, by omega⟩ (fun h32 => ?_) (fun h32 => ?_)
              · refine lv_iconst (v := iI 0) X.1 X.2.1 d_By_fitsFields_112 (by decide) ?_
                exact c_retz hQQ X Y hr hlk (iI_bool (by omega) (by omega)).1 ⟨rfl, rfl, 0, rfl, ⟨by omega, by omega⟩⟩ d_By_fitsFields_113
              · refine lv_aload_n X.1 X.2.1 d_By_fitsFields_85 rfl (lv_at hl 2 rfl) ?_
                refine lv_aload_n X.1 X.2.1 d_By_fitsFields_86 rfl (lv_at hl 3 rfl) ?_
                refine lv_iload X.1 X.2.1 d_By_fitsFields_87 (lv_at hl 7 rfl) ?_
                refine lv_iconst (v := iI 2) X.1 X.2.1 d_By_fitsFields_89 (by decide) ?_
                refine z_iadd X.1 X.2.1 d_By_fitsFields_90 ?_
                refine t_charAt (i := a1) X Y KS k1 (by omega) (by omega) hml hl.1 kl_By_charAt ⟨by simp only [kRm]; omega, by simp only [kRm]; omega⟩ (Nat.le_of_ble_eq_true rfl) d_By_fitsFields_91 ⟨Nat.le_of_ble_eq_true rfl, Nat.le_of_ble_eq_true rfl⟩ (fun H locs z33 Y e33 l33 u33 => ?_)
                refine lv_aload_n X.1 X.2.1 d_By_fitsFields_94 rfl (lv_at hl 2 rfl) ?_
                refine lv_iload X.1 X.2.1 d_By_fitsFields_95 (lv_at hl 6 rfl) ?_
                refine t_ui (t_runV (As := [.int (iI z1)]) (rest := [.int (iI z33), .ref h]) (n := 1) X Y S k0 hml hl.1 (c_By_body l D E T κ L f H.size h n0 k0 (by omega) z1 (by omega) (by omega) S.1 z30 e30 (by omega) (by omega)) (ok_k X Y hA KS KR) rfl kl_By_By_body ks_By_body kx_By_body ki_By_body ini_By ⟨rfl, rfl⟩ hd_By_body ⟨by simp only [kRm]; omega, by simp only [kRm]; omega⟩ rfl (Nat.le_of_ble_eq_true rfl) d_By_fitsFields_97 ⟨Nat.le_of_ble_eq_true rfl, Nat.le_of_ble_eq_true rfl⟩) X Y hA (fun z34 H locs Y p34 => ?_)
                obtain ⟨l34, u34, x34⟩ := p34
                refine lv_iload X.1 X.2.1 d_By_fitsFields_100 (lv_at hl 0 rfl) ?_
                refine lv_iload X.1 X.2.1 d_By_fitsFields_102 (lv_at hl 5 rfl) ?_
                refine lv_iconst (v := iI 1) X.1 X.2.1 d_By_fitsFields_104 (by decide) ?_
                refine z_iadd X.1 X.2.1 d_By_fitsFields_105 ?_
                refine t_ui (t_runV (As := [.int (iI z33), .int (iI z34), .int (iI z31), .int (iI (a4 + 1))]) (rest := []) (n := 4) X Y S k0 hml hl.1 (IH l D E T κ L f H.size h n0 k0 (by omega) z33 (by omega) (by omega) z34 (by omega) (by omega) z31 (by omega) (by omega) (a4 + 1) (by omega) (by omega) S.1 (by omega)) (ok_k X Y hA KS KR) rfl kl_By_By_fits ks_By_fits kx_By_fits ki_By_fits ini_By ⟨rfl, rfl⟩ hd_By_fits ⟨by simp only [kRm]; omega, by simp only [kRm]; omega⟩ rfl (Nat.le_of_ble_eq_true rfl) d_By_fitsFields_106 ⟨Nat.le_of_ble_eq_true rfl, Nat.le_of_ble_eq_true rfl⟩) X Y hA (fun z35 H locs Y p35 => ?_)
                obtain ⟨l35, u35⟩ := p35
                refine z_if_ne (tgt := 114) X.1 X.2.1 d_By_fitsFields_109 (by decide) ⟨by omega, by omega⟩ (fun h36 => ?_) (fun h36 => ?_)
                · refine lv_iload X.1 X.2.1 d_By_fitsFields_114 (lv_at hl 0 rfl) ?_
                  refine lv_istore (lv' := [(5, .int (iI z31)), (9, .int (iI z31)), (8, .int (iI z11)), (0, .ref h), (1, .ref ((T.2.1 a1))), (3, .int (iI a3)), (4, .int (iI a4)), (6, .int (iI z2))]) X.1 X.2.1 d_By_fitsFields_116 hl (by decide) rfl (fun ls hl => ?_)
                  refine lv_goto (tgt := 136) X.1 X.2.1 d_By_fitsFields_118 (by decide) ?_
                  exact J17 z31 _ _ _ (by omega) (by omega) Y S (lv_sub hl [3, 4, 5, 6, 0, 7] rfl)
                · refine lv_iconst (v := iI 0) X.1 X.2.1 d_By_fitsFields_112 (by decide) ?_
                  exact c_retz hQQ X Y hr hlk (iI_bool (by omega) (by omega)).1 ⟨rfl, rfl, 0, rfl, ⟨by omega, by omega⟩⟩ d_By_fitsFields_113
        refine z_icmp_gt (tgt := 40) X.1 X.2.1 d_By_fitsFields_29 (by decide) ⟨by omega, by omega⟩ ⟨by omega, by omega⟩ (fun h37 => ?_) (fun h37 => ?_)
        · refine lv_iload X.1 X.2.1 d_By_fitsFields_40 (lv_at hl 0 rfl) ?_
          refine lv_bipush (v := iI 97) X.1 X.2.1 d_By_fitsFields_42 (by decide) ?_
          refine z_isub X.1 X.2.1 d_By_fitsFields_44 ?_
          refine lv_bipush (v := iI 10) X.1 X.2.1 d_By_fitsFields_45 (by decide) ?_
          refine z_iadd X.1 X.2.1 d_By_fitsFields_47 ?_
          exact J12 ((z10 - 97) + 10) _ _ _ (by omega) (by omega) Y S (lv_sub hl [1, 2, 3, 4, 5, 6] rfl)
        · refine lv_iload X.1 X.2.1 d_By_fitsFields_32 (lv_at hl 0 rfl) ?_
          refine lv_bipush (v := iI 48) X.1 X.2.1 d_By_fitsFields_34 (by decide) ?_
          refine z_isub X.1 X.2.1 d_By_fitsFields_36 ?_
          refine lv_goto (tgt := 48) X.1 X.2.1 d_By_fitsFields_37 (by decide) ?_
          exact J12 (z10 - 48) _ _ _ (by omega) (by omega) Y S (lv_sub hl [1, 2, 3, 4, 5, 6] rfl)
  refine lv_istore (lv' := [(6, .int (iI 0)), (5, .int (iI a2)), (0, .ref h), (1, .ref ((T.2.1 a1))), (2, .int (iI a2)), (3, .int (iI a3)), (4, .int (iI a4))]) X.1 X.2.1 d_By_fitsFields_4 hl (by decide) rfl (fun ls hl => ?_)
  exact J3 _ a2 0 _ _ _ rfl (by omega) (by omega) (by omega) (by omega) Y S (lv_sub hl [2, 3, 5, 6, 1, 0] rfl)
set_option maxHeartbeats 4000000 in
set_option maxRecDepth 100000 in
theorem c_By_fitsInside (d : Nat) (IH : C_fits d) (l : Launch) (D : va_G) (E : cE) (T : cT) (κ : tK) (L : List Nat) (f : pF) (sz : Nat) (h n0 : Nat) (k0 : κ h = (13, n0)) (x0 : n0 ≤ 12288) (a1 : Int) (l_a1 : (-2147483648) ≤ a1) (u_a1 : a1 ≤ 2147483647) (a2 : Int) (l_a2 : (-1) ≤ a2) (u_a2 : a2 ≤ 20200) (a3 : Int) (l_a3 : 0 ≤ a3) (u_a3 : a3 ≤ 20200) (a4 : Int) (l_a4 : 0 ≤ a4) (u_a4 : a4 ≤ 20) (hw : tW E T κ L f) (hd : 21 ≤ a4 + (d + 1)) : Met l y_By_fitsInside (k_By_fitsInside :: lw_tg) (kRm (8 + 3 * d) (180 + 100 * d) 0 0) (va_Pc [.ref h, .int (iI a1), .int (iI a2), .int (iI a3), .int (iI a4)] (kPre D E T L f sz)) (va_Qi (uPi L f (fun (z : Int) => 0 ≤ z ∧ z ≤ 1)) (cPost D E (pA L sz)) (pA L sz)) 0 0 (pA L sz) := by
  refine k_enter (own := R_By) (by decide) rfl (Nat.le_of_ble_eq_true rfl) (fun p e s m below meth c ls AV QQ H locs hQQ X Y hA hin hr hlk hml hl KS KR => ?_)
  have hl : lv_has ls 5 [(0, .ref h), (1, .int (iI a1)), (2, .int (iI a2)), (3, .int (iI a3)), (4, .int (iI a4))] := hl
  have S : tS E T (tFr κ L [] []) κ L f κ L f := tS_rf hw
  refine lv_iload_n X.1 X.2.1 d_By_fitsInside_0 rfl (lv_at hl 1 rfl) ?_
  refine lv_bipush (v := iI 65) X.1 X.2.1 d_By_fitsInside_1 (by decide) ?_
  have J1 : ∀  (H : Heap) (locs : List Loc) (ls : Array Slot), pH D cCl (pA L sz) s.heap L f H locs → tS E T (tFr κ L [] []) κ L f κ L f → lv_has ls 5 [(0, .ref h), (1, .int (iI a1)), (2, .int (iI a2)), (3, .int (iI a3)), (4, .int (iI a4))] → W p l e (kRm (8 + 3 * d) (180 + 100 * d) 0 0) s m AV below meth c H locs 0 0 QQ (F0 m 28 ls []) := by
    intro  H locs ls  Y S hl
    refine lv_iload_n X.1 X.2.1 d_By_fitsInside_28 rfl (lv_at hl 1 rfl) ?_
    refine t_ui (x_runS (As := [.int (iI a1)]) (rest := []) (n := 1) X hml hl.1 (c_By_tagOf l D E T κ L f H.size a1 (by omega) (by omega) S.1) (ok_k X Y hA KS KR) kl_By_By_tagOf ks_By_tagOf ki_By_tagOf ini_By ⟨rfl, rfl⟩ hd_By_tagOf.2 ⟨by simp only [kRm]; omega, by simp only [kRm]; omega⟩ rfl (Nat.le_of_ble_eq_true rfl) d_By_fitsInside_29 ⟨Nat.le_of_ble_eq_true rfl, Nat.le_of_ble_eq_true rfl⟩) X Y hA (fun z5 H locs Y p5 => ?_)
    obtain ⟨l5, u5⟩ := p5
    refine lv_bipush (v := iI 48) X.1 X.2.1 d_By_fitsInside_32 (by decide) ?_
    refine z_icmp_ne (tgt := 50) X.1 X.2.1 d_By_fitsInside_34 (by decide) ⟨by omega, by omega⟩ ⟨by omega, by omega⟩ (fun h6 => ?_) (fun h6 => ?_)
    · refine lv_aload_n X.1 X.2.1 d_By_fitsInside_50 rfl (lv_at hl 0 rfl) ?_
      refine lv_iload_n X.1 X.2.1 d_By_fitsInside_51 rfl (lv_at hl 2 rfl) ?_
      refine t_ui (t_runV (As := [.int (iI a2)]) (rest := []) (n := 1) X Y S k0 hml hl.1 (c_By_at l D E T κ L f H.size h n0 k0 (by omega) a2 (by omega) (by omega) S.1) (ok_k X Y hA KS KR) rfl kl_By_By_at ks_By_at kx_By_at ki_By_at ini_By ⟨rfl, rfl⟩ hd_By_at ⟨by simp only [kRm]; omega, by simp only [kRm]; omega⟩ rfl (Nat.le_of_ble_eq_true rfl) d_By_fitsInside_52 ⟨Nat.le_of_ble_eq_true rfl, Nat.le_of_ble_eq_true rfl⟩) X Y hA (fun z7 H locs Y p7 => ?_)
      obtain ⟨l7, u7⟩ := p7
      refine lv_bipush (v := iI 48) X.1 X.2.1 d_By_fitsInside_55 (by decide) ?_
      refine z_icmp_ne (tgt := 93) X.1 X.2.1 d_By_fitsInside_57 (by decide) ⟨by omega, by omega⟩ ⟨by omega, by omega⟩ (fun h8 => ?_) (fun h8 => ?_)
      · refine lv_iconst (v := iI 0) X.1 X.2.1 d_By_fitsInside_93 (by decide) ?_
        exact c_retz hQQ X Y hr hlk (iI_bool (by omega) (by omega)).1 ⟨rfl, rfl, 0, rfl, ⟨by omega, by omega⟩⟩ d_By_fitsInside_94
      · refine lv_aload_n X.1 X.2.1 d_By_fitsInside_60 rfl (lv_at hl 0 rfl) ?_
        refine lv_iload_n X.1 X.2.1 d_By_fitsInside_61 rfl (lv_at hl 2 rfl) ?_
        refine lv_iload_n X.1 X.2.1 d_By_fitsInside_62 rfl (lv_at hl 3 rfl) ?_
        obtain ⟨z9, e9, l9, u9⟩ := t_size S k0
        refine t_ui (t_runV (As := [.int (iI a2), .int (iI a3)]) (rest := []) (n := 2) X Y S k0 hml hl.1 (c_By_stop l D E T κ L f H.size h n0 k0 (by omega) a2 (by omega) (by omega) a3 (by omega) (by omega) S.1 z9 e9 (by omega) (by omega)) (ok_k X Y hA KS KR) rfl kl_By_By_stop ks_By_stop kx_By_stop ki_By_stop ini_By ⟨rfl, rfl⟩ hd_By_stop ⟨by simp only [kRm]; omega, by simp only [kRm]; omega⟩ rfl (Nat.le_of_ble_eq_true rfl) d_By_fitsInside_63 ⟨Nat.le_of_ble_eq_true rfl, Nat.le_of_ble_eq_true rfl⟩) X Y hA (fun z10 H locs Y p10 => ?_)
        obtain ⟨l10, u10, x10⟩ := p10
        refine lv_iload_n X.1 X.2.1 d_By_fitsInside_66 rfl (lv_at hl 3 rfl) ?_
        refine z_icmp_ne (tgt := 93) X.1 X.2.1 d_By_fitsInside_67 (by decide) ⟨by omega, by omega⟩ ⟨by omega, by omega⟩ (fun h11 => ?_) (fun h11 => ?_)
        · refine lv_iconst (v := iI 0) X.1 X.2.1 d_By_fitsInside_93 (by decide) ?_
          exact c_retz hQQ X Y hr hlk (iI_bool (by omega) (by omega)).1 ⟨rfl, rfl, 0, rfl, ⟨by omega, by omega⟩⟩ d_By_fitsInside_94
        · refine lv_aload_n X.1 X.2.1 d_By_fitsInside_70 rfl (lv_at hl 0 rfl) ?_
          refine lv_iload_n X.1 X.2.1 d_By_fitsInside_71 rfl (lv_at hl 1 rfl) ?_
          refine t_ur (x_runS (As := [.int (iI a1)]) (rest := [.ref h]) (n := 1) X hml hl.1 (c_By_shapeOf l D E T κ L f H.size a1 (by omega) (by omega) S.1) (ok_k X Y hA KS KR) kl_By_By_shapeOf ks_By_shapeOf ki_By_shapeOf ini_By ⟨rfl, rfl⟩ hd_By_shapeOf.2 ⟨by simp only [kRm]; omega, by simp only [kRm]; omega⟩ rfl (Nat.le_of_ble_eq_true rfl) d_By_fitsInside_72 ⟨Nat.le_of_ble_eq_true rfl, Nat.le_of_ble_eq_true rfl⟩) X Y hA (fun b12 H locs Y p12 => ?_)
          obtain ⟨y12, k12, q12⟩ := p12
          subst q12
          refine lv_aload_n X.1 X.2.1 d_By_fitsInside_75 rfl (lv_at hl 0 rfl) ?_
          refine lv_iload_n X.1 X.2.1 d_By_fitsInside_76 rfl (lv_at hl 2 rfl) ?_
          refine t_ui (t_runV (As := [.int (iI a2)]) (rest := [.ref ((T.2.1 y12)), .ref h]) (n := 1) X Y S k0 hml hl.1 (c_By_body l D E T κ L f H.size h n0 k0 (by omega) a2 (by omega) (by omega) S.1 z9 e9 (by omega) (by omega)) (ok_k X Y hA KS KR) rfl kl_By_By_body ks_By_body kx_By_body ki_By_body ini_By ⟨rfl, rfl⟩ hd_By_body ⟨by simp only [kRm]; omega, by simp only [kRm]; omega⟩ rfl (Nat.le_of_ble_eq_true rfl) d_By_fitsInside_77 ⟨Nat.le_of_ble_eq_true rfl, Nat.le_of_ble_eq_true rfl⟩) X Y hA (fun z13 H locs Y p13 => ?_)
          obtain ⟨l13, u13, x13⟩ := p13
          refine lv_iload_n X.1 X.2.1 d_By_fitsInside_80 rfl (lv_at hl 3 rfl) ?_
          refine lv_iload X.1 X.2.1 d_By_fitsInside_81 (lv_at hl 4 rfl) ?_
          refine t_ui (t_runV (As := [.ref ((T.2.1 y12)), .int (iI z13), .int (iI a3), .int (iI a4)]) (rest := []) (n := 4) X Y S k0 hml hl.1 (c_By_fitsFields d IH l D E T κ L f H.size h n0 k0 (by omega) y12 k12 z13 (by omega) (by omega) a3 (by omega) (by omega) a4 (by omega) (by omega) S.1 hd) (ok_k X Y hA KS KR) rfl kl_By_By_fitsFields ks_By_fitsFields kx_By_fitsFields ki_By_fitsFields ini_By ⟨rfl, rfl⟩ hd_By_fitsFields ⟨by simp only [kRm]; omega, by simp only [kRm]; omega⟩ rfl (Nat.le_of_ble_eq_true rfl) d_By_fitsInside_83 ⟨Nat.le_of_ble_eq_true rfl, Nat.le_of_ble_eq_true rfl⟩) X Y hA (fun z14 H locs Y p14 => ?_)
          obtain ⟨l14, u14⟩ := p14
          refine z_if_eq (tgt := 93) X.1 X.2.1 d_By_fitsInside_86 (by decide) ⟨by omega, by omega⟩ (fun h15 => ?_) (fun h15 => ?_)
          · refine lv_iconst (v := iI 0) X.1 X.2.1 d_By_fitsInside_93 (by decide) ?_
            exact c_retz hQQ X Y hr hlk (iI_bool (by omega) (by omega)).1 ⟨rfl, rfl, 0, rfl, ⟨by omega, by omega⟩⟩ d_By_fitsInside_94
          · refine lv_iconst (v := iI 1) X.1 X.2.1 d_By_fitsInside_89 (by decide) ?_
            refine lv_goto (tgt := 94) X.1 X.2.1 d_By_fitsInside_90 (by decide) ?_
            exact c_retz hQQ X Y hr hlk (iI_bool (by omega) (by omega)).1 ⟨rfl, rfl, 1, rfl, ⟨by omega, by omega⟩⟩ d_By_fitsInside_94
    · refine lv_aload_n X.1 X.2.1 d_By_fitsInside_37 rfl (lv_at hl 0 rfl) ?_
      refine lv_iload_n X.1 X.2.1 d_By_fitsInside_38 rfl (lv_at hl 1 rfl) ?_
      refine t_ur (x_runS (As := [.int (iI a1)]) (rest := [.ref h]) (n := 1) X hml hl.1 (c_By_shapeOf l D E T κ L f H.size a1 (by omega) (by omega) S.1) (ok_k X Y hA KS KR) kl_By_By_shapeOf ks_By_shapeOf ki_By_shapeOf ini_By ⟨rfl, rfl⟩ hd_By_shapeOf.2 ⟨by simp only [kRm]; omega, by simp only [kRm]; omega⟩ rfl (Nat.le_of_ble_eq_true rfl) d_By_fitsInside_39 ⟨Nat.le_of_ble_eq_true rfl, Nat.le_of_ble_eq_true rfl⟩) X Y hA (fun b16 H locs Y p16 => ?_)
      obtain ⟨y16, k16, q16⟩ := p16
      subst q16
      refine lv_iload_n X.1 X.2.1 d_By_fitsInside_42 rfl (lv_at hl 2 rfl) ?_
      refine lv_iload_n X.1 X.2.1 d_By_fitsInside_43 rfl (lv_at hl 3 rfl) ?_
      refine lv_iload X.1 X.2.1 d_By_fitsInside_44 (lv_at hl 4 rfl) ?_
      refine t_ui (t_runV (As := [.ref ((T.2.1 y16)), .int (iI a2), .int (iI a3), .int (iI a4)]) (rest := []) (n := 4) X Y S k0 hml hl.1 (c_By_fitsFields d IH l D E T κ L f H.size h n0 k0 (by omega) y16 k16 a2 (by omega) (by omega) a3 (by omega) (by omega) a4 (by omega) (by omega) S.1 hd) (ok_k X Y hA KS KR) rfl kl_By_By_fitsFields ks_By_fitsFields kx_By_fitsFields ki_By_fitsFields ini_By ⟨rfl, rfl⟩ hd_By_fitsFields ⟨by simp only [kRm]; omega, by simp only [kRm]; omega⟩ rfl (Nat.le_of_ble_eq_true rfl) d_By_fitsInside_46 ⟨Nat.le_of_ble_eq_true rfl, Nat.le_of_ble_eq_true rfl⟩) X Y hA (fun z17 H locs Y p17 => ?_)
      obtain ⟨l17, u17⟩ := p17
      exact c_retz hQQ X Y hr hlk (iI_bool (by omega) (by omega)).1 ⟨rfl, rfl, z17, rfl, ⟨by omega, by omega⟩⟩ d_By_fitsInside_49
  refine z_icmp_lt (tgt := 28) X.1 X.2.1 d_By_fitsInside_3 (by decide) ⟨by omega, by omega⟩ ⟨by omega, by omega⟩ (fun h18 => ?_) (fun h18 => ?_)
  · exact J1  _ _ _  Y S (lv_sub hl [0, 1, 2, 3, 4] rfl)
  · refine lv_iload_n X.1 X.2.1 d_By_fitsInside_6 rfl (lv_at hl 1 rfl) ?_
    refine lv_bipush (v := iI 90) X.1 X.2.1 d_By_fitsInside_7 (by decide) ?_
    refine z_icmp_gt (tgt := 28) X.1 X.2.1 d_By_fitsInside_9 (by decide) ⟨by omega, by omega⟩ ⟨by omega, by omega⟩ (fun h19 => ?_) (fun h19 => ?_)
    · exact J1  _ _ _  Y S (lv_sub hl [0, 1, 2, 3, 4] rfl)
    · refine lv_aload_n X.1 X.2.1 d_By_fitsInside_12 rfl (lv_at hl 0 rfl) ?_
      refine lv_iload_n X.1 X.2.1 d_By_fitsInside_13 rfl (lv_at hl 1 rfl) ?_
      refine lv_bipush (v := iI 65) X.1 X.2.1 d_By_fitsInside_14 (by decide) ?_
      refine z_isub X.1 X.2.1 d_By_fitsInside_16 ?_
      refine lv_bipush (v := iI 97) X.1 X.2.1 d_By_fitsInside_17 (by decide) ?_
      refine z_iadd X.1 X.2.1 d_By_fitsInside_19 ?_
      refine lv_iload_n X.1 X.2.1 d_By_fitsInside_20 rfl (lv_at hl 2 rfl) ?_
      refine lv_iload_n X.1 X.2.1 d_By_fitsInside_21 rfl (lv_at hl 3 rfl) ?_
      refine lv_iload X.1 X.2.1 d_By_fitsInside_22 (lv_at hl 4 rfl) ?_
      refine t_ui (t_runV (As := [.int (iI ((a1 - 65) + 97)), .int (iI a2), .int (iI a3), .int (iI a4)]) (rest := []) (n := 4) X Y S k0 hml hl.1 (c_By_fitsRow d IH l D E T κ L f H.size h n0 k0 (by omega) ((a1 - 65) + 97) (by omega) (by omega) a2 (by omega) (by omega) a3 (by omega) (by omega) a4 (by omega) (by omega) S.1 hd) (ok_k X Y hA KS KR) rfl kl_By_By_fitsRow ks_By_fitsRow kx_By_fitsRow ki_By_fitsRow ini_By ⟨rfl, rfl⟩ hd_By_fitsRow ⟨by simp only [kRm]; omega, by simp only [kRm]; omega⟩ rfl (Nat.le_of_ble_eq_true rfl) d_By_fitsInside_24 ⟨Nat.le_of_ble_eq_true rfl, Nat.le_of_ble_eq_true rfl⟩) X Y hA (fun z20 H locs Y p20 => ?_)
      obtain ⟨l20, u20⟩ := p20
      exact c_retz hQQ X Y hr hlk (iI_bool (by omega) (by omega)).1 ⟨rfl, rfl, z20, rfl, ⟨by omega, by omega⟩⟩ d_By_fitsInside_27
set_option maxHeartbeats 4000000 in
set_option maxRecDepth 100000 in
theorem c_By_fits0 (l : Launch) (D : va_G) (E : cE) (T : cT) (κ : tK) (L : List Nat) (f : pF) (sz : Nat) (h n0 : Nat) (k0 : κ h = (13, n0)) (x0 : n0 ≤ 12288) (a1 : Int) (l_a1 : (-2147483648) ≤ a1) (u_a1 : a1 ≤ 2147483647) (a2 : Int) (l_a2 : (-1) ≤ a2) (u_a2 : a2 ≤ 20200) (a3 : Int) (l_a3 : 0 ≤ a3) (u_a3 : a3 ≤ 20200) (a4 : Int) (l_a4 : 21 ≤ a4) (u_a4 : a4 ≤ 21) (hw : tW E T κ L f) : Met l y_By_fits (k_By_fits :: lw_tg) (kRm 6 110 0 0) (va_Pc [.ref h, .int (iI a1), .int (iI a2), .int (iI a3), .int (iI a4)] (kPre D E T L f sz)) (va_Qi (uPi L f (fun (z : Int) => 0 ≤ z ∧ z ≤ 1)) (cPost D E (pA L sz)) (pA L sz)) 0 0 (pA L sz) := by
  refine k_enter (own := R_By) (by decide) rfl (Nat.le_of_ble_eq_true rfl) (fun p e s m below meth c ls AV QQ H locs hQQ X Y hA hin hr hlk hml hl KS KR => ?_)
  have hl : lv_has ls 7 [(0, .ref h), (1, .int (iI a1)), (2, .int (iI a2)), (3, .int (iI a3)), (4, .int (iI a4))] := hl
  have S : tS E T (tFr κ L [] []) κ L f κ L f := tS_rf hw
  refine lv_iload X.1 X.2.1 d_By_fits_0 (lv_at hl 4 rfl) ?_
  refine lv_bipush (v := iI 20) X.1 X.2.1 d_By_fits_2 (by decide) ?_
  refine z_icmp_gt (tgt := 21) X.1 X.2.1 d_By_fits_4 (by decide) ⟨by omega, by omega⟩ ⟨by omega, by omega⟩ (fun h1 => ?_) (fun h1 => False.elim (by omega))
  · refine lv_iconst (v := iI 0) X.1 X.2.1 d_By_fits_21 (by decide) ?_
    exact c_retz hQQ X Y hr hlk (iI_bool (by omega) (by omega)).1 ⟨rfl, rfl, 0, rfl, ⟨by omega, by omega⟩⟩ d_By_fits_22
set_option maxHeartbeats 4000000 in
set_option maxRecDepth 100000 in
theorem c_By_fits (d : Nat) (IH : C_fits d) (l : Launch) (D : va_G) (E : cE) (T : cT) (κ : tK) (L : List Nat) (f : pF) (sz : Nat) (h n0 : Nat) (k0 : κ h = (13, n0)) (x0 : n0 ≤ 12288) (a1 : Int) (l_a1 : (-2147483648) ≤ a1) (u_a1 : a1 ≤ 2147483647) (a2 : Int) (l_a2 : (-1) ≤ a2) (u_a2 : a2 ≤ 20200) (a3 : Int) (l_a3 : 0 ≤ a3) (u_a3 : a3 ≤ 20200) (a4 : Int) (l_a4 : 0 ≤ a4) (u_a4 : a4 ≤ 21) (hw : tW E T κ L f) (hd : 21 ≤ a4 + (d + 1)) : Met l y_By_fits (k_By_fits :: lw_tg) (kRm (6 + 3 * d + 3) (110 + 100 * d + 100) 0 0) (va_Pc [.ref h, .int (iI a1), .int (iI a2), .int (iI a3), .int (iI a4)] (kPre D E T L f sz)) (va_Qi (uPi L f (fun (z : Int) => 0 ≤ z ∧ z ≤ 1)) (cPost D E (pA L sz)) (pA L sz)) 0 0 (pA L sz) := by
  refine k_enter (own := R_By) (by decide) rfl (Nat.le_of_ble_eq_true rfl) (fun p e s m below meth c ls AV QQ H locs hQQ X Y hA hin hr hlk hml hl KS KR => ?_)
  have hl : lv_has ls 7 [(0, .ref h), (1, .int (iI a1)), (2, .int (iI a2)), (3, .int (iI a3)), (4, .int (iI a4))] := hl
  have S : tS E T (tFr κ L [] []) κ L f κ L f := tS_rf hw
  refine lv_iload X.1 X.2.1 d_By_fits_0 (lv_at hl 4 rfl) ?_
  refine lv_bipush (v := iI 20) X.1 X.2.1 d_By_fits_2 (by decide) ?_
  refine z_icmp_gt (tgt := 21) X.1 X.2.1 d_By_fits_4 (by decide) ⟨by omega, by omega⟩ ⟨by omega, by omega⟩ (fun h1 => ?_) (fun h1 => ?_)
  · refine lv_iconst (v := iI 0) X.1 X.2.1 d_By_fits_21 (by decide) ?_
    exact c_retz hQQ X Y hr hlk (iI_bool (by omega) (by omega)).1 ⟨rfl, rfl, 0, rfl, ⟨by omega, by omega⟩⟩ d_By_fits_22
  · refine lv_iload_n X.1 X.2.1 d_By_fits_7 rfl (lv_at hl 2 rfl) ?_
    refine z_if_lt (tgt := 21) X.1 X.2.1 d_By_fits_8 (by decide) ⟨by omega, by omega⟩ (fun h2 => ?_) (fun h2 => ?_)
    · refine lv_iconst (v := iI 0) X.1 X.2.1 d_By_fits_21 (by decide) ?_
      exact c_retz hQQ X Y hr hlk (iI_bool (by omega) (by omega)).1 ⟨rfl, rfl, 0, rfl, ⟨by omega, by omega⟩⟩ d_By_fits_22
    · refine lv_aload_n X.1 X.2.1 d_By_fits_11 rfl (lv_at hl 0 rfl) ?_
      refine lv_iload_n X.1 X.2.1 d_By_fits_12 rfl (lv_at hl 2 rfl) ?_
      refine lv_iload_n X.1 X.2.1 d_By_fits_13 rfl (lv_at hl 3 rfl) ?_
      obtain ⟨z3, e3, l3, u3⟩ := t_size S k0
      refine t_ui (t_runV (As := [.int (iI a2), .int (iI a3)]) (rest := []) (n := 2) X Y S k0 hml hl.1 (c_By_stop l D E T κ L f H.size h n0 k0 (by omega) a2 (by omega) (by omega) a3 (by omega) (by omega) S.1 z3 e3 (by omega) (by omega)) (ok_k X Y hA KS KR) rfl kl_By_By_stop ks_By_stop kx_By_stop ki_By_stop ini_By ⟨rfl, rfl⟩ hd_By_stop ⟨by simp only [kRm]; omega, by simp only [kRm]; omega⟩ rfl (Nat.le_of_ble_eq_true rfl) d_By_fits_14 ⟨Nat.le_of_ble_eq_true rfl, Nat.le_of_ble_eq_true rfl⟩) X Y hA (fun z4 H locs Y p4 => ?_)
      obtain ⟨l4, u4, x4⟩ := p4
      refine lv_iload_n X.1 X.2.1 d_By_fits_17 rfl (lv_at hl 3 rfl) ?_
      refine z_icmp_eq (tgt := 23) X.1 X.2.1 d_By_fits_18 (by decide) ⟨by omega, by omega⟩ ⟨by omega, by omega⟩ (fun h5 => ?_) (fun h5 => ?_)
      · refine lv_aload_n X.1 X.2.1 d_By_fits_23 rfl (lv_at hl 0 rfl) ?_
        refine t_getrow (ci := 3) X Y S k0 rfl i_By 0 (by decide) rfl lk_By_15 (fun _ h9 => h9) d_By_fits_24 (fun b6 e6 k6 => ?_)
        refine lv_iload_n X.1 X.2.1 d_By_fits_27 rfl (lv_at hl 2 rfl) ?_
        refine t_bald X Y S (Or.inl k6) (by omega) (by omega) (by omega) d_By_fits_28 (fun z7 l7 u7 => ?_)
        refine lv_sipush (v := iI 255) X.1 X.2.1 d_By_fits_29 (by decide) ?_
        refine z_iand X.1 X.2.1 (by omega) (by omega) d_By_fits_32 (fun z8 l8 u8 => ?_)
        refine lv_istore (lv' := [(5, .int (iI z8)), (0, .ref h), (1, .int (iI a1)), (2, .int (iI a2)), (3, .int (iI a3)), (4, .int (iI a4))]) X.1 X.2.1 d_By_fits_33 hl (by decide) rfl (fun ls hl => ?_)
        refine lv_aload_n X.1 X.2.1 d_By_fits_35 rfl (lv_at hl 1 rfl) ?_
        refine lv_iload_n X.1 X.2.1 d_By_fits_36 rfl (lv_at hl 3 rfl) ?_
        refine t_ui (t_runV (As := [.int (iI a2)]) (rest := []) (n := 1) X Y S k0 hml hl.1 (c_By_body l D E T κ L f H.size h n0 k0 (by omega) a2 (by omega) (by omega) S.1 z3 e3 (by omega) (by omega)) (ok_k X Y hA KS KR) rfl kl_By_By_body ks_By_body kx_By_body ki_By_body ini_By ⟨rfl, rfl⟩ hd_By_body ⟨by simp only [kRm]; omega, by simp only [kRm]; omega⟩ rfl (Nat.le_of_ble_eq_true rfl) d_By_fits_37 ⟨Nat.le_of_ble_eq_true rfl, Nat.le_of_ble_eq_true rfl⟩) X Y hA (fun z9 H locs Y p9 => ?_)
        obtain ⟨l9, u9, x9⟩ := p9
        refine lv_istore (lv' := [(6, .int (iI z9)), (5, .int (iI z8)), (0, .ref h), (1, .int (iI a1)), (2, .int (iI a2)), (3, .int (iI a3)), (4, .int (iI a4))]) X.1 X.2.1 d_By_fits_40 hl (by decide) rfl (fun ls hl => ?_)
        refine lv_iload_n X.1 X.2.1 d_By_fits_42 rfl (lv_at hl 3 rfl) ?_
        by_cases h10 : a1 = 98
        · rw [h10]
          refine lv_tableIn (off := 219) (tgt := 262) X.1 X.2.1 d_By_fits_43 (by decide) (by decide) (by decide) (by decide) ?_
          refine lv_iload X.1 X.2.1 d_By_fits_262 (lv_at hl 1 rfl) ?_
          refine lv_iconst (v := iI 3) X.1 X.2.1 d_By_fits_264 (by decide) ?_
          refine z_icmp_ne (tgt := 290) X.1 X.2.1 d_By_fits_265 (by decide) ⟨by omega, by omega⟩ ⟨by omega, by omega⟩ (fun h11 => ?_) (fun h11 => ?_)
          · refine lv_iconst (v := iI 0) X.1 X.2.1 d_By_fits_290 (by decide) ?_
            exact c_retz hQQ X Y hr hlk (iI_bool (by omega) (by omega)).1 ⟨rfl, rfl, 0, rfl, ⟨by omega, by omega⟩⟩ d_By_fits_291
          · refine lv_iload_n X.1 X.2.1 d_By_fits_268 rfl (lv_at hl 5 rfl) ?_
            refine lv_iload X.1 X.2.1 d_By_fits_269 (lv_at hl 0 rfl) ?_
            refine z_isub X.1 X.2.1 d_By_fits_271 ?_
            refine lv_iconst (v := iI 5) X.1 X.2.1 d_By_fits_272 (by decide) ?_
            refine z_icmp_lt (tgt := 290) X.1 X.2.1 d_By_fits_273 (by decide) ⟨by omega, by omega⟩ ⟨by omega, by omega⟩ (fun h12 => ?_) (fun h12 => ?_)
            · refine lv_iconst (v := iI 0) X.1 X.2.1 d_By_fits_290 (by decide) ?_
              exact c_retz hQQ X Y hr hlk (iI_bool (by omega) (by omega)).1 ⟨rfl, rfl, 0, rfl, ⟨by omega, by omega⟩⟩ d_By_fits_291
            · refine lv_aload_n X.1 X.2.1 d_By_fits_276 rfl (lv_at hl 2 rfl) ?_
              refine t_get0 (ci := 3) X Y S k0 rfl i_By 0 (by decide) rfl lk_By_15 (fun _ h9 => h9) d_By_fits_277 e6 ?_
              refine lv_iload X.1 X.2.1 d_By_fits_280 (lv_at hl 0 rfl) ?_
              refine t_bald X Y S (Or.inl k6) (by omega) (by omega) (by omega) d_By_fits_282 (fun z13 l13 u13 => ?_)
              refine z_if_ne (tgt := 290) X.1 X.2.1 d_By_fits_283 (by decide) ⟨by omega, by omega⟩ (fun h14 => ?_) (fun h14 => ?_)
              · refine lv_iconst (v := iI 0) X.1 X.2.1 d_By_fits_290 (by decide) ?_
                exact c_retz hQQ X Y hr hlk (iI_bool (by omega) (by omega)).1 ⟨rfl, rfl, 0, rfl, ⟨by omega, by omega⟩⟩ d_By_fits_291
              · refine lv_iconst (v := iI 1) X.1 X.2.1 d_By_fits_286 (by decide) ?_
                refine lv_goto (tgt := 291) X.1 X.2.1 d_By_fits_287 (by decide) ?_
                exact c_retz hQQ X Y hr hlk (iI_bool (by omega) (by omega)).1 ⟨rfl, rfl, 1, rfl, ⟨by omega, by omega⟩⟩ d_By_fits_291
        by_cases h15 : a1 = 99
        · rw [h15]
          refine lv_tableIn (off := 261) (tgt := 304) X.1 X.2.1 d_By_fits_43 (by decide) (by decide) (by decide) (by decide) ?_
          refine lv_iload X.1 X.2.1 d_By_fits_304 (lv_at hl 1 rfl) ?_
          refine lv_iload_n X.1 X.2.1 d_By_fits_306 rfl (lv_at hl 3 rfl) ?_
          refine t_ui (x_runS (As := [.int (iI a1)]) (rest := [.int (iI z8)]) (n := 1) X hml hl.1 (c_By_tagOf l D E T κ L f H.size a1 (by omega) (by omega) S.1) (ok_k X Y hA KS KR) kl_By_By_tagOf ks_By_tagOf ki_By_tagOf ini_By ⟨rfl, rfl⟩ hd_By_tagOf.2 ⟨by simp only [kRm]; omega, by simp only [kRm]; omega⟩ rfl (Nat.le_of_ble_eq_true rfl) d_By_fits_307 ⟨Nat.le_of_ble_eq_true rfl, Nat.le_of_ble_eq_true rfl⟩) X Y hA (fun z16 H locs Y p16 => ?_)
          obtain ⟨l16, u16⟩ := p16
          refine z_icmp_ne (tgt := 330) X.1 X.2.1 d_By_fits_310 (by decide) ⟨by omega, by omega⟩ ⟨by omega, by omega⟩ (fun h17 => ?_) (fun h17 => ?_)
          · refine lv_iconst (v := iI 0) X.1 X.2.1 d_By_fits_330 (by decide) ?_
            exact c_retz hQQ X Y hr hlk (iI_bool (by omega) (by omega)).1 ⟨rfl, rfl, 0, rfl, ⟨by omega, by omega⟩⟩ d_By_fits_331
          · refine lv_aload_n X.1 X.2.1 d_By_fits_313 rfl (lv_at hl 2 rfl) ?_
            refine lv_iload_n X.1 X.2.1 d_By_fits_314 rfl (lv_at hl 3 rfl) ?_
            refine lv_iload X.1 X.2.1 d_By_fits_315 (lv_at hl 0 rfl) ?_
            refine lv_iload_n X.1 X.2.1 d_By_fits_317 rfl (lv_at hl 5 rfl) ?_
            refine lv_iload X.1 X.2.1 d_By_fits_318 (lv_at hl 6 rfl) ?_
            refine t_ui (t_runV (As := [.int (iI a1), .int (iI z9), .int (iI a3), .int (iI a4)]) (rest := []) (n := 4) X Y S k0 hml hl.1 (c_By_fitsInside d IH l D E T κ L f H.size h n0 k0 (by omega) a1 (by omega) (by omega) z9 (by omega) (by omega) a3 (by omega) (by omega) a4 (by omega) (by omega) S.1 hd) (ok_k X Y hA KS KR) rfl kl_By_By_fitsInside ks_By_fitsInside kx_By_fitsInside ki_By_fitsInside ini_By ⟨rfl, rfl⟩ hd_By_fitsInside ⟨by simp only [kRm]; omega, by simp only [kRm]; omega⟩ rfl (Nat.le_of_ble_eq_true rfl) d_By_fits_320 ⟨Nat.le_of_ble_eq_true rfl, Nat.le_of_ble_eq_true rfl⟩) X Y hA (fun z18 H locs Y p18 => ?_)
            obtain ⟨l18, u18⟩ := p18
            refine z_if_eq (tgt := 330) X.1 X.2.1 d_By_fits_323 (by decide) ⟨by omega, by omega⟩ (fun h19 => ?_) (fun h19 => ?_)
            · refine lv_iconst (v := iI 0) X.1 X.2.1 d_By_fits_330 (by decide) ?_
              exact c_retz hQQ X Y hr hlk (iI_bool (by omega) (by omega)).1 ⟨rfl, rfl, 0, rfl, ⟨by omega, by omega⟩⟩ d_By_fits_331
            · refine lv_iconst (v := iI 1) X.1 X.2.1 d_By_fits_326 (by decide) ?_
              refine lv_goto (tgt := 331) X.1 X.2.1 d_By_fits_327 (by decide) ?_
              exact c_retz hQQ X Y hr hlk (iI_bool (by omega) (by omega)).1 ⟨rfl, rfl, 1, rfl, ⟨by omega, by omega⟩⟩ d_By_fits_331
        by_cases h20 : a1 = 100
        · rw [h20]
          refine lv_tableIn (off := 261) (tgt := 304) X.1 X.2.1 d_By_fits_43 (by decide) (by decide) (by decide) (by decide) ?_
          refine lv_iload X.1 X.2.1 d_By_fits_304 (lv_at hl 1 rfl) ?_
          refine lv_iload_n X.1 X.2.1 d_By_fits_306 rfl (lv_at hl 3 rfl) ?_
          refine t_ui (x_runS (As := [.int (iI a1)]) (rest := [.int (iI z8)]) (n := 1) X hml hl.1 (c_By_tagOf l D E T κ L f H.size a1 (by omega) (by omega) S.1) (ok_k X Y hA KS KR) kl_By_By_tagOf ks_By_tagOf ki_By_tagOf ini_By ⟨rfl, rfl⟩ hd_By_tagOf.2 ⟨by simp only [kRm]; omega, by simp only [kRm]; omega⟩ rfl (Nat.le_of_ble_eq_true rfl) d_By_fits_307 ⟨Nat.le_of_ble_eq_true rfl, Nat.le_of_ble_eq_true rfl⟩) X Y hA (fun z21 H locs Y p21 => ?_)
          obtain ⟨l21, u21⟩ := p21
          refine z_icmp_ne (tgt := 330) X.1 X.2.1 d_By_fits_310 (by decide) ⟨by omega, by omega⟩ ⟨by omega, by omega⟩ (fun h22 => ?_) (fun h22 => ?_)
          · refine lv_iconst (v := iI 0) X.1 X.2.1 d_By_fits_330 (by decide) ?_
            exact c_retz hQQ X Y hr hlk (iI_bool (by omega) (by omega)).1 ⟨rfl, rfl, 0, rfl, ⟨by omega, by omega⟩⟩ d_By_fits_331
          · refine lv_aload_n X.1 X.2.1 d_By_fits_313 rfl (lv_at hl 2 rfl) ?_
            refine lv_iload_n X.1 X.2.1 d_By_fits_314 rfl (lv_at hl 3 rfl) ?_
            refine lv_iload X.1 X.2.1 d_By_fits_315 (lv_at hl 0 rfl) ?_
            refine lv_iload_n X.1 X.2.1 d_By_fits_317 rfl (lv_at hl 5 rfl) ?_
            refine lv_iload X.1 X.2.1 d_By_fits_318 (lv_at hl 6 rfl) ?_
            refine t_ui (t_runV (As := [.int (iI a1), .int (iI z9), .int (iI a3), .int (iI a4)]) (rest := []) (n := 4) X Y S k0 hml hl.1 (c_By_fitsInside d IH l D E T κ L f H.size h n0 k0 (by omega) a1 (by omega) (by omega) z9 (by omega) (by omega) a3 (by omega) (by omega) a4 (by omega) (by omega) S.1 hd) (ok_k X Y hA KS KR) rfl kl_By_By_fitsInside ks_By_fitsInside kx_By_fitsInside ki_By_fitsInside ini_By ⟨rfl, rfl⟩ hd_By_fitsInside ⟨by simp only [kRm]; omega, by simp only [kRm]; omega⟩ rfl (Nat.le_of_ble_eq_true rfl) d_By_fits_320 ⟨Nat.le_of_ble_eq_true rfl, Nat.le_of_ble_eq_true rfl⟩) X Y hA (fun z23 H locs Y p23 => ?_)
            obtain ⟨l23, u23⟩ := p23
            refine z_if_eq (tgt := 330) X.1 X.2.1 d_By_fits_323 (by decide) ⟨by omega, by omega⟩ (fun h24 => ?_) (fun h24 => ?_)
            · refine lv_iconst (v := iI 0) X.1 X.2.1 d_By_fits_330 (by decide) ?_
              exact c_retz hQQ X Y hr hlk (iI_bool (by omega) (by omega)).1 ⟨rfl, rfl, 0, rfl, ⟨by omega, by omega⟩⟩ d_By_fits_331
            · refine lv_iconst (v := iI 1) X.1 X.2.1 d_By_fits_326 (by decide) ?_
              refine lv_goto (tgt := 331) X.1 X.2.1 d_By_fits_327 (by decide) ?_
              exact c_retz hQQ X Y hr hlk (iI_bool (by omega) (by omega)).1 ⟨rfl, rfl, 1, rfl, ⟨by omega, by omega⟩⟩ d_By_fits_331
        by_cases h25 : a1 = 101
        · rw [h25]
          refine lv_tableIn (off := 261) (tgt := 304) X.1 X.2.1 d_By_fits_43 (by decide) (by decide) (by decide) (by decide) ?_
          refine lv_iload X.1 X.2.1 d_By_fits_304 (lv_at hl 1 rfl) ?_
          refine lv_iload_n X.1 X.2.1 d_By_fits_306 rfl (lv_at hl 3 rfl) ?_
          refine t_ui (x_runS (As := [.int (iI a1)]) (rest := [.int (iI z8)]) (n := 1) X hml hl.1 (c_By_tagOf l D E T κ L f H.size a1 (by omega) (by omega) S.1) (ok_k X Y hA KS KR) kl_By_By_tagOf ks_By_tagOf ki_By_tagOf ini_By ⟨rfl, rfl⟩ hd_By_tagOf.2 ⟨by simp only [kRm]; omega, by simp only [kRm]; omega⟩ rfl (Nat.le_of_ble_eq_true rfl) d_By_fits_307 ⟨Nat.le_of_ble_eq_true rfl, Nat.le_of_ble_eq_true rfl⟩) X Y hA (fun z26 H locs Y p26 => ?_)
          obtain ⟨l26, u26⟩ := p26
          refine z_icmp_ne (tgt := 330) X.1 X.2.1 d_By_fits_310 (by decide) ⟨by omega, by omega⟩ ⟨by omega, by omega⟩ (fun h27 => ?_) (fun h27 => ?_)
          · refine lv_iconst (v := iI 0) X.1 X.2.1 d_By_fits_330 (by decide) ?_
            exact c_retz hQQ X Y hr hlk (iI_bool (by omega) (by omega)).1 ⟨rfl, rfl, 0, rfl, ⟨by omega, by omega⟩⟩ d_By_fits_331
          · refine lv_aload_n X.1 X.2.1 d_By_fits_313 rfl (lv_at hl 2 rfl) ?_
            refine lv_iload_n X.1 X.2.1 d_By_fits_314 rfl (lv_at hl 3 rfl) ?_
            refine lv_iload X.1 X.2.1 d_By_fits_315 (lv_at hl 0 rfl) ?_
            refine lv_iload_n X.1 X.2.1 d_By_fits_317 rfl (lv_at hl 5 rfl) ?_
            refine lv_iload X.1 X.2.1 d_By_fits_318 (lv_at hl 6 rfl) ?_
            refine t_ui (t_runV (As := [.int (iI a1), .int (iI z9), .int (iI a3), .int (iI a4)]) (rest := []) (n := 4) X Y S k0 hml hl.1 (c_By_fitsInside d IH l D E T κ L f H.size h n0 k0 (by omega) a1 (by omega) (by omega) z9 (by omega) (by omega) a3 (by omega) (by omega) a4 (by omega) (by omega) S.1 hd) (ok_k X Y hA KS KR) rfl kl_By_By_fitsInside ks_By_fitsInside kx_By_fitsInside ki_By_fitsInside ini_By ⟨rfl, rfl⟩ hd_By_fitsInside ⟨by simp only [kRm]; omega, by simp only [kRm]; omega⟩ rfl (Nat.le_of_ble_eq_true rfl) d_By_fits_320 ⟨Nat.le_of_ble_eq_true rfl, Nat.le_of_ble_eq_true rfl⟩) X Y hA (fun z28 H locs Y p28 => ?_)
            obtain ⟨l28, u28⟩ := p28
            refine z_if_eq (tgt := 330) X.1 X.2.1 d_By_fits_323 (by decide) ⟨by omega, by omega⟩ (fun h29 => ?_) (fun h29 => ?_)
            · refine lv_iconst (v := iI 0) X.1 X.2.1 d_By_fits_330 (by decide) ?_
              exact c_retz hQQ X Y hr hlk (iI_bool (by omega) (by omega)).1 ⟨rfl, rfl, 0, rfl, ⟨by omega, by omega⟩⟩ d_By_fits_331
            · refine lv_iconst (v := iI 1) X.1 X.2.1 d_By_fits_326 (by decide) ?_
              refine lv_goto (tgt := 331) X.1 X.2.1 d_By_fits_327 (by decide) ?_
              exact c_retz hQQ X Y hr hlk (iI_bool (by omega) (by omega)).1 ⟨rfl, rfl, 1, rfl, ⟨by omega, by omega⟩⟩ d_By_fits_331
        by_cases h30 : a1 = 102
        · rw [h30]
          refine lv_tableIn (off := 261) (tgt := 304) X.1 X.2.1 d_By_fits_43 (by decide) (by decide) (by decide) (by decide) ?_
          refine lv_iload X.1 X.2.1 d_By_fits_304 (lv_at hl 1 rfl) ?_
          refine lv_iload_n X.1 X.2.1 d_By_fits_306 rfl (lv_at hl 3 rfl) ?_
          refine t_ui (x_runS (As := [.int (iI a1)]) (rest := [.int (iI z8)]) (n := 1) X hml hl.1 (c_By_tagOf l D E T κ L f H.size a1 (by omega) (by omega) S.1) (ok_k X Y hA KS KR) kl_By_By_tagOf ks_By_tagOf ki_By_tagOf ini_By ⟨rfl, rfl⟩ hd_By_tagOf.2 ⟨by simp only [kRm]; omega, by simp only [kRm]; omega⟩ rfl (Nat.le_of_ble_eq_true rfl) d_By_fits_307 ⟨Nat.le_of_ble_eq_true rfl, Nat.le_of_ble_eq_true rfl⟩) X Y hA (fun z31 H locs Y p31 => ?_)
          obtain ⟨l31, u31⟩ := p31
          refine z_icmp_ne (tgt := 330) X.1 X.2.1 d_By_fits_310 (by decide) ⟨by omega, by omega⟩ ⟨by omega, by omega⟩ (fun h32 => ?_) (fun h32 => ?_)
          · refine lv_iconst (v := iI 0) X.1 X.2.1 d_By_fits_330 (by decide) ?_
            exact c_retz hQQ X Y hr hlk (iI_bool (by omega) (by omega)).1 ⟨rfl, rfl, 0, rfl, ⟨by omega, by omega⟩⟩ d_By_fits_331
          · refine lv_aload_n X.1 X.2.1 d_By_fits_313 rfl (lv_at hl 2 rfl) ?_
            refine lv_iload_n X.1 X.2.1 d_By_fits_314 rfl (lv_at hl 3 rfl) ?_
            refine lv_iload X.1 X.2.1 d_By_fits_315 (lv_at hl 0 rfl) ?_
            refine lv_iload_n X.1 X.2.1 d_By_fits_317 rfl (lv_at hl 5 rfl) ?_
            refine lv_iload X.1 X.2.1 d_By_fits_318 (lv_at hl 6 rfl) ?_
            refine t_ui (t_runV (As := [.int (iI a1), .int (iI z9), .int (iI a3), .int (iI a4)]) (rest := []) (n := 4) X Y S k0 hml hl.1 (c_By_fitsInside d IH l D E T κ L f H.size h n0 k0 (by omega) a1 (by omega) (by omega) z9 (by omega) (by omega) a3 (by omega) (by omega) a4 (by omega) (by omega) S.1 hd) (ok_k X Y hA KS KR) rfl kl_By_By_fitsInside ks_By_fitsInside kx_By_fitsInside ki_By_fitsInside ini_By ⟨rfl, rfl⟩ hd_By_fitsInside ⟨by simp only [kRm]; omega, by simp only [kRm]; omega⟩ rfl (Nat.le_of_ble_eq_true rfl) d_By_fits_320 ⟨Nat.le_of_ble_eq_true rfl, Nat.le_of_ble_eq_true rfl⟩) X Y hA (fun z33 H locs Y p33 => ?_)
            obtain ⟨l33, u33⟩ := p33
            refine z_if_eq (tgt := 330) X.1 X.2.1 d_By_fits_323 (by decide) ⟨by omega, by omega⟩ (fun h34 => ?_) (fun h34 => ?_)
            · refine lv_iconst (v := iI 0) X.1 X.2.1 d_By_fits_330 (by decide) ?_
              exact c_retz hQQ X Y hr hlk (iI_bool (by omega) (by omega)).1 ⟨rfl, rfl, 0, rfl, ⟨by omega, by omega⟩⟩ d_By_fits_331
            · refine lv_iconst (v := iI 1) X.1 X.2.1 d_By_fits_326 (by decide) ?_
              refine lv_goto (tgt := 331) X.1 X.2.1 d_By_fits_327 (by decide) ?_
              exact c_retz hQQ X Y hr hlk (iI_bool (by omega) (by omega)).1 ⟨rfl, rfl, 1, rfl, ⟨by omega, by omega⟩⟩ d_By_fits_331
        by_cases h35 : a1 = 103
        · rw [h35]
          refine lv_tableIn (off := 261) (tgt := 304) X.1 X.2.1 d_By_fits_43 (by decide) (by decide) (by decide) (by decide) ?_
          refine lv_iload X.1 X.2.1 d_By_fits_304 (lv_at hl 1 rfl) ?_
          refine lv_iload_n X.1 X.2.1 d_By_fits_306 rfl (lv_at hl 3 rfl) ?_
          refine t_ui (x_runS (As := [.int (iI a1)]) (rest := [.int (iI z8)]) (n := 1) X hml hl.1 (c_By_tagOf l D E T κ L f H.size a1 (by omega) (by omega) S.1) (ok_k X Y hA KS KR) kl_By_By_tagOf ks_By_tagOf ki_By_tagOf ini_By ⟨rfl, rfl⟩ hd_By_tagOf.2 ⟨by simp only [kRm]; omega, by simp only [kRm]; omega⟩ rfl (Nat.le_of_ble_eq_true rfl) d_By_fits_307 ⟨Nat.le_of_ble_eq_true rfl, Nat.le_of_ble_eq_true rfl⟩) X Y hA (fun z36 H locs Y p36 => ?_)
          obtain ⟨l36, u36⟩ := p36
          refine z_icmp_ne (tgt := 330) X.1 X.2.1 d_By_fits_310 (by decide) ⟨by omega, by omega⟩ ⟨by omega, by omega⟩ (fun h37 => ?_) (fun h37 => ?_)
          · refine lv_iconst (v := iI 0) X.1 X.2.1 d_By_fits_330 (by decide) ?_
            exact c_retz hQQ X Y hr hlk (iI_bool (by omega) (by omega)).1 ⟨rfl, rfl, 0, rfl, ⟨by omega, by omega⟩⟩ d_By_fits_331
          · refine lv_aload_n X.1 X.2.1 d_By_fits_313 rfl (lv_at hl 2 rfl) ?_
            refine lv_iload_n X.1 X.2.1 d_By_fits_314 rfl (lv_at hl 3 rfl) ?_
            refine lv_iload X.1 X.2.1 d_By_fits_315 (lv_at hl 0 rfl) ?_
            refine lv_iload_n X.1 X.2.1 d_By_fits_317 rfl (lv_at hl 5 rfl) ?_
            refine lv_iload X.1 X.2.1 d_By_fits_318 (lv_at hl 6 rfl) ?_
            refine t_ui (t_runV (As := [.int (iI a1), .int (iI z9), .int (iI a3), .int (iI a4)]) (rest := []) (n := 4) X Y S k0 hml hl.1 (c_By_fitsInside d IH l D E T κ L f H.size h n0 k0 (by omega) a1 (by omega) (by omega) z9 (by omega) (by omega) a3 (by omega) (by omega) a4 (by omega) (by omega) S.1 hd) (ok_k X Y hA KS KR) rfl kl_By_By_fitsInside ks_By_fitsInside kx_By_fitsInside ki_By_fitsInside ini_By ⟨rfl, rfl⟩ hd_By_fitsInside ⟨by simp only [kRm]; omega, by simp only [kRm]; omega⟩ rfl (Nat.le_of_ble_eq_true rfl) d_By_fits_320 ⟨Nat.le_of_ble_eq_true rfl, Nat.le_of_ble_eq_true rfl⟩) X Y hA (fun z38 H locs Y p38 => ?_)
            obtain ⟨l38, u38⟩ := p38
            refine z_if_eq (tgt := 330) X.1 X.2.1 d_By_fits_323 (by decide) ⟨by omega, by omega⟩ (fun h39 => ?_) (fun h39 => ?_)
            · refine lv_iconst (v := iI 0) X.1 X.2.1 d_By_fits_330 (by decide) ?_
              exact c_retz hQQ X Y hr hlk (iI_bool (by omega) (by omega)).1 ⟨rfl, rfl, 0, rfl, ⟨by omega, by omega⟩⟩ d_By_fits_331
            · refine lv_iconst (v := iI 1) X.1 X.2.1 d_By_fits_326 (by decide) ?_
              refine lv_goto (tgt := 331) X.1 X.2.1 d_By_fits_327 (by decide) ?_
              exact c_retz hQQ X Y hr hlk (iI_bool (by omega) (by omega)).1 ⟨rfl, rfl, 1, rfl, ⟨by omega, by omega⟩⟩ d_By_fits_331
        by_cases h40 : a1 = 104
        · rw [h40]
          refine lv_tableIn (off := 261) (tgt := 304) X.1 X.2.1 d_By_fits_43 (by decide) (by decide) (by decide) (by decide) ?_
          refine lv_iload X.1 X.2.1 d_By_fits_304 (lv_at hl 1 rfl) ?_
          refine lv_iload_n X.1 X.2.1 d_By_fits_306 rfl (lv_at hl 3 rfl) ?_
          refine t_ui (x_runS (As := [.int (iI a1)]) (rest := [.int (iI z8)]) (n := 1) X hml hl.1 (c_By_tagOf l D E T κ L f H.size a1 (by omega) (by omega) S.1) (ok_k X Y hA KS KR) kl_By_By_tagOf ks_By_tagOf ki_By_tagOf ini_By ⟨rfl, rfl⟩ hd_By_tagOf.2 ⟨by simp only [kRm]; omega, by simp only [kRm]; omega⟩ rfl (Nat.le_of_ble_eq_true rfl) d_By_fits_307 ⟨Nat.le_of_ble_eq_true rfl, Nat.le_of_ble_eq_true rfl⟩) X Y hA (fun z41 H locs Y p41 => ?_)
          obtain ⟨l41, u41⟩ := p41
          refine z_icmp_ne (tgt := 330) X.1 X.2.1 d_By_fits_310 (by decide) ⟨by omega, by omega⟩ ⟨by omega, by omega⟩ (fun h42 => ?_) (fun h42 => ?_)
          · refine lv_iconst (v := iI 0) X.1 X.2.1 d_By_fits_330 (by decide) ?_
            exact c_retz hQQ X Y hr hlk (iI_bool (by omega) (by omega)).1 ⟨rfl, rfl, 0, rfl, ⟨by omega, by omega⟩⟩ d_By_fits_331
          · refine lv_aload_n X.1 X.2.1 d_By_fits_313 rfl (lv_at hl 2 rfl) ?_
            refine lv_iload_n X.1 X.2.1 d_By_fits_314 rfl (lv_at hl 3 rfl) ?_
            refine lv_iload X.1 X.2.1 d_By_fits_315 (lv_at hl 0 rfl) ?_
            refine lv_iload_n X.1 X.2.1 d_By_fits_317 rfl (lv_at hl 5 rfl) ?_
            refine lv_iload X.1 X.2.1 d_By_fits_318 (lv_at hl 6 rfl) ?_
            refine t_ui (t_runV (As := [.int (iI a1), .int (iI z9), .int (iI a3), .int (iI a4)]) (rest := []) (n := 4) X Y S k0 hml hl.1 (c_By_fitsInside d IH l D E T κ L f H.size h n0 k0 (by omega) a1 (by omega) (by omega) z9 (by omega) (by omega) a3 (by omega) (by omega) a4 (by omega) (by omega) S.1 hd) (ok_k X Y hA KS KR) rfl kl_By_By_fitsInside ks_By_fitsInside kx_By_fitsInside ki_By_fitsInside ini_By ⟨rfl, rfl⟩ hd_By_fitsInside ⟨by simp only [kRm]; omega, by simp only [kRm]; omega⟩ rfl (Nat.le_of_ble_eq_true rfl) d_By_fits_320 ⟨Nat.le_of_ble_eq_true rfl, Nat.le_of_ble_eq_true rfl⟩) X Y hA (fun z43 H locs Y p43 => ?_)
            obtain ⟨l43, u43⟩ := p43
            refine z_if_eq (tgt := 330) X.1 X.2.1 d_By_fits_323 (by decide) ⟨by omega, by omega⟩ (fun h44 => ?_) (fun h44 => ?_)
            · refine lv_iconst (v := iI 0) X.1 X.2.1 d_By_fits_330 (by decide) ?_
              exact c_retz hQQ X Y hr hlk (iI_bool (by omega) (by omega)).1 ⟨rfl, rfl, 0, rfl, ⟨by omega, by omega⟩⟩ d_By_fits_331
            · refine lv_iconst (v := iI 1) X.1 X.2.1 d_By_fits_326 (by decide) ?_
              refine lv_goto (tgt := 331) X.1 X.2.1 d_By_fits_327 (by decide) ?_
              exact c_retz hQQ X Y hr hlk (iI_bool (by omega) (by omega)).1 ⟨rfl, rfl, 1, rfl, ⟨by omega, by omega⟩⟩ d_By_fits_331
        by_cases h45 : a1 = 105
        · rw [h45]
          refine lv_tableIn (off := 93) (tgt := 136) X.1 X.2.1 d_By_fits_43 (by decide) (by decide) (by decide) (by decide) ?_
          refine lv_iload X.1 X.2.1 d_By_fits_136 (lv_at hl 1 rfl) ?_
          refine lv_iconst (v := iI 2) X.1 X.2.1 d_By_fits_138 (by decide) ?_
          refine z_icmp_ne (tgt := 162) X.1 X.2.1 d_By_fits_139 (by decide) ⟨by omega, by omega⟩ ⟨by omega, by omega⟩ (fun h46 => ?_) (fun h46 => ?_)
          · refine lv_iconst (v := iI 0) X.1 X.2.1 d_By_fits_162 (by decide) ?_
            exact c_retz hQQ X Y hr hlk (iI_bool (by omega) (by omega)).1 ⟨rfl, rfl, 0, rfl, ⟨by omega, by omega⟩⟩ d_By_fits_163
          · refine lv_aload_n X.1 X.2.1 d_By_fits_142 rfl (lv_at hl 2 rfl) ?_
            refine lv_iload X.1 X.2.1 d_By_fits_143 (lv_at hl 0 rfl) ?_
            refine lv_iload_n X.1 X.2.1 d_By_fits_145 rfl (lv_at hl 5 rfl) ?_
            refine lv_ldc2 (v := (-2147483648)) X.1 X.2.1 X.2.2.2.1 (X.2.2.1 _ cl_By_151) d_By_fits_146 ?_
            refine lv_ldc2 (v := (2147483647)) X.1 X.2.1 X.2.2.2.1 (X.2.2.1 _ cl_By_153) d_By_fits_149 ?_
            refine t_ui (t_runV (As := [.int (iI z9), .int (iI a3), .long ((-2147483648)), .long ((2147483647))]) (rest := []) (n := 4) X Y S k0 hml hl.1 (c_By_isNumber l D E T κ L f H.size h n0 k0 (by omega) z9 (by omega) (by omega) a3 (by omega) (by omega) ((-2147483648)) ((2147483647)) S.1) (ok_k X Y hA KS KR) rfl kl_By_By_isNumber ks_By_isNumber kx_By_isNumber ki_By_isNumber ini_By ⟨rfl, rfl⟩ hd_By_isNumber ⟨by simp only [kRm]; omega, by simp only [kRm]; omega⟩ rfl (Nat.le_of_ble_eq_true rfl) d_By_fits_152 ⟨Nat.le_of_ble_eq_true rfl, Nat.le_of_ble_eq_true rfl⟩) X Y hA (fun z47 H locs Y p47 => ?_)
            obtain ⟨l47, u47⟩ := p47
            refine z_if_eq (tgt := 162) X.1 X.2.1 d_By_fits_155 (by decide) ⟨by omega, by omega⟩ (fun h48 => ?_) (fun h48 => ?_)
            · refine lv_iconst (v := iI 0) X.1 X.2.1 d_By_fits_162 (by decide) ?_
              exact c_retz hQQ X Y hr hlk (iI_bool (by omega) (by omega)).1 ⟨rfl, rfl, 0, rfl, ⟨by omega, by omega⟩⟩ d_By_fits_163
            · refine lv_iconst (v := iI 1) X.1 X.2.1 d_By_fits_158 (by decide) ?_
              refine lv_goto (tgt := 163) X.1 X.2.1 d_By_fits_159 (by decide) ?_
              exact c_retz hQQ X Y hr hlk (iI_bool (by omega) (by omega)).1 ⟨rfl, rfl, 1, rfl, ⟨by omega, by omega⟩⟩ d_By_fits_163
        by_cases h49 : a1 = 106
        · rw [h49]
          refine lv_tableIn (off := 261) (tgt := 304) X.1 X.2.1 d_By_fits_43 (by decide) (by decide) (by decide) (by decide) ?_
          refine lv_iload X.1 X.2.1 d_By_fits_304 (lv_at hl 1 rfl) ?_
          refine lv_iload_n X.1 X.2.1 d_By_fits_306 rfl (lv_at hl 3 rfl) ?_
          refine t_ui (x_runS (As := [.int (iI a1)]) (rest := [.int (iI z8)]) (n := 1) X hml hl.1 (c_By_tagOf l D E T κ L f H.size a1 (by omega) (by omega) S.1) (ok_k X Y hA KS KR) kl_By_By_tagOf ks_By_tagOf ki_By_tagOf ini_By ⟨rfl, rfl⟩ hd_By_tagOf.2 ⟨by simp only [kRm]; omega, by simp only [kRm]; omega⟩ rfl (Nat.le_of_ble_eq_true rfl) d_By_fits_307 ⟨Nat.le_of_ble_eq_true rfl, Nat.le_of_ble_eq_true rfl⟩) X Y hA (fun z50 H locs Y p50 => ?_)
          obtain ⟨l50, u50⟩ := p50
          refine z_icmp_ne (tgt := 330) X.1 X.2.1 d_By_fits_310 (by decide) ⟨by omega, by omega⟩ ⟨by omega, by omega⟩ (fun h51 => ?_) (fun h51 => ?_)
          · refine lv_iconst (v := iI 0) X.1 X.2.1 d_By_fits_330 (by decide) ?_
            exact c_retz hQQ X Y hr hlk (iI_bool (by omega) (by omega)).1 ⟨rfl, rfl, 0, rfl, ⟨by omega, by omega⟩⟩ d_By_fits_331
          · refine lv_aload_n X.1 X.2.1 d_By_fits_313 rfl (lv_at hl 2 rfl) ?_
            refine lv_iload_n X.1 X.2.1 d_By_fits_314 rfl (lv_at hl 3 rfl) ?_
            refine lv_iload X.1 X.2.1 d_By_fits_315 (lv_at hl 0 rfl) ?_
            refine lv_iload_n X.1 X.2.1 d_By_fits_317 rfl (lv_at hl 5 rfl) ?_
            refine lv_iload X.1 X.2.1 d_By_fits_318 (lv_at hl 6 rfl) ?_
            refine t_ui (t_runV (As := [.int (iI a1), .int (iI z9), .int (iI a3), .int (iI a4)]) (rest := []) (n := 4) X Y S k0 hml hl.1 (c_By_fitsInside d IH l D E T κ L f H.size h n0 k0 (by omega) a1 (by omega) (by omega) z9 (by omega) (by omega) a3 (by omega) (by omega) a4 (by omega) (by omega) S.1 hd) (ok_k X Y hA KS KR) rfl kl_By_By_fitsInside ks_By_fitsInside kx_By_fitsInside ki_By_fitsInside ini_By ⟨rfl, rfl⟩ hd_By_fitsInside ⟨by simp only [kRm]; omega, by simp only [kRm]; omega⟩ rfl (Nat.le_of_ble_eq_true rfl) d_By_fits_320 ⟨Nat.le_of_ble_eq_true rfl, Nat.le_of_ble_eq_true rfl⟩) X Y hA (fun z52 H locs Y p52 => ?_)
            obtain ⟨l52, u52⟩ := p52
            refine z_if_eq (tgt := 330) X.1 X.2.1 d_By_fits_323 (by decide) ⟨by omega, by omega⟩ (fun h53 => ?_) (fun h53 => ?_)
            · refine lv_iconst (v := iI 0) X.1 X.2.1 d_By_fits_330 (by decide) ?_
              exact c_retz hQQ X Y hr hlk (iI_bool (by omega) (by omega)).1 ⟨rfl, rfl, 0, rfl, ⟨by omega, by omega⟩⟩ d_By_fits_331
            · refine lv_iconst (v := iI 1) X.1 X.2.1 d_By_fits_326 (by decide) ?_
              refine lv_goto (tgt := 331) X.1 X.2.1 d_By_fits_327 (by decide) ?_
              exact c_retz hQQ X Y hr hlk (iI_bool (by omega) (by omega)).1 ⟨rfl, rfl, 1, rfl, ⟨by omega, by omega⟩⟩ d_By_fits_331
        by_cases h54 : a1 = 107
        · rw [h54]
          refine lv_tableIn (off := 261) (tgt := 304) X.1 X.2.1 d_By_fits_43 (by decide) (by decide) (by decide) (by decide) ?_
          refine lv_iload X.1 X.2.1 d_By_fits_304 (lv_at hl 1 rfl) ?_
          refine lv_iload_n X.1 X.2.1 d_By_fits_306 rfl (lv_at hl 3 rfl) ?_
          refine t_ui (x_runS (As := [.int (iI a1)]) (rest := [.int (iI z8)]) (n := 1) X hml hl.1 (c_By_tagOf l D E T κ L f H.size a1 (by omega) (by omega) S.1) (ok_k X Y hA KS KR) kl_By_By_tagOf ks_By_tagOf ki_By_tagOf ini_By ⟨rfl, rfl⟩ hd_By_tagOf.2 ⟨by simp only [kRm]; omega, by simp only [kRm]; omega⟩ rfl (Nat.le_of_ble_eq_true rfl) d_By_fits_307 ⟨Nat.le_of_ble_eq_true rfl, Nat.le_of_ble_eq_true rfl⟩) X Y hA (fun z55 H locs Y p55 => ?_)
          obtain ⟨l55, u55⟩ := p55
          refine z_icmp_ne (tgt := 330) X.1 X.2.1 d_By_fits_310 (by decide) ⟨by omega, by omega⟩ ⟨by omega, by omega⟩ (fun h56 => ?_) (fun h56 => ?_)
          · refine lv_iconst (v := iI 0) X.1 X.2.1 d_By_fits_330 (by decide) ?_
            exact c_retz hQQ X Y hr hlk (iI_bool (by omega) (by omega)).1 ⟨rfl, rfl, 0, rfl, ⟨by omega, by omega⟩⟩ d_By_fits_331
          · refine lv_aload_n X.1 X.2.1 d_By_fits_313 rfl (lv_at hl 2 rfl) ?_
            refine lv_iload_n X.1 X.2.1 d_By_fits_314 rfl (lv_at hl 3 rfl) ?_
            refine lv_iload X.1 X.2.1 d_By_fits_315 (lv_at hl 0 rfl) ?_
            refine lv_iload_n X.1 X.2.1 d_By_fits_317 rfl (lv_at hl 5 rfl) ?_
            refine lv_iload X.1 X.2.1 d_By_fits_318 (lv_at hl 6 rfl) ?_
            refine t_ui (t_runV (As := [.int (iI a1), .int (iI z9), .int (iI a3), .int (iI a4)]) (rest := []) (n := 4) X Y S k0 hml hl.1 (c_By_fitsInside d IH l D E T κ L f H.size h n0 k0 (by omega) a1 (by omega) (by omega) z9 (by omega) (by omega) a3 (by omega) (by omega) a4 (by omega) (by omega) S.1 hd) (ok_k X Y hA KS KR) rfl kl_By_By_fitsInside ks_By_fitsInside kx_By_fitsInside ki_By_fitsInside ini_By ⟨rfl, rfl⟩ hd_By_fitsInside ⟨by simp only [kRm]; omega, by simp only [kRm]; omega⟩ rfl (Nat.le_of_ble_eq_true rfl) d_By_fits_320 ⟨Nat.le_of_ble_eq_true rfl, Nat.le_of_ble_eq_true rfl⟩) X Y hA (fun z57 H locs Y p57 => ?_)
            obtain ⟨l57, u57⟩ := p57
            refine z_if_eq (tgt := 330) X.1 X.2.1 d_By_fits_323 (by decide) ⟨by omega, by omega⟩ (fun h58 => ?_) (fun h58 => ?_)
            · refine lv_iconst (v := iI 0) X.1 X.2.1 d_By_fits_330 (by decide) ?_
              exact c_retz hQQ X Y hr hlk (iI_bool (by omega) (by omega)).1 ⟨rfl, rfl, 0, rfl, ⟨by omega, by omega⟩⟩ d_By_fits_331
            · refine lv_iconst (v := iI 1) X.1 X.2.1 d_By_fits_326 (by decide) ?_
              refine lv_goto (tgt := 331) X.1 X.2.1 d_By_fits_327 (by decide) ?_
              exact c_retz hQQ X Y hr hlk (iI_bool (by omega) (by omega)).1 ⟨rfl, rfl, 1, rfl, ⟨by omega, by omega⟩⟩ d_By_fits_331
        by_cases h59 : a1 = 108
        · rw [h59]
          refine lv_tableIn (off := 261) (tgt := 304) X.1 X.2.1 d_By_fits_43 (by decide) (by decide) (by decide) (by decide) ?_
          refine lv_iload X.1 X.2.1 d_By_fits_304 (lv_at hl 1 rfl) ?_
          refine lv_iload_n X.1 X.2.1 d_By_fits_306 rfl (lv_at hl 3 rfl) ?_
          refine t_ui (x_runS (As := [.int (iI a1)]) (rest := [.int (iI z8)]) (n := 1) X hml hl.1 (c_By_tagOf l D E T κ L f H.size a1 (by omega) (by omega) S.1) (ok_k X Y hA KS KR) kl_By_By_tagOf ks_By_tagOf ki_By_tagOf ini_By ⟨rfl, rfl⟩ hd_By_tagOf.2 ⟨by simp only [kRm]; omega, by simp only [kRm]; omega⟩ rfl (Nat.le_of_ble_eq_true rfl) d_By_fits_307 ⟨Nat.le_of_ble_eq_true rfl, Nat.le_of_ble_eq_true rfl⟩) X Y hA (fun z60 H locs Y p60 => ?_)
          obtain ⟨l60, u60⟩ := p60
          refine z_icmp_ne (tgt := 330) X.1 X.2.1 d_By_fits_310 (by decide) ⟨by omega, by omega⟩ ⟨by omega, by omega⟩ (fun h61 => ?_) (fun h61 => ?_)
          · refine lv_iconst (v := iI 0) X.1 X.2.1 d_By_fits_330 (by decide) ?_
            exact c_retz hQQ X Y hr hlk (iI_bool (by omega) (by omega)).1 ⟨rfl, rfl, 0, rfl, ⟨by omega, by omega⟩⟩ d_By_fits_331
          · refine lv_aload_n X.1 X.2.1 d_By_fits_313 rfl (lv_at hl 2 rfl) ?_
            refine lv_iload_n X.1 X.2.1 d_By_fits_314 rfl (lv_at hl 3 rfl) ?_
            refine lv_iload X.1 X.2.1 d_By_fits_315 (lv_at hl 0 rfl) ?_
            refine lv_iload_n X.1 X.2.1 d_By_fits_317 rfl (lv_at hl 5 rfl) ?_
            refine lv_iload X.1 X.2.1 d_By_fits_318 (lv_at hl 6 rfl) ?_
            refine t_ui (t_runV (As := [.int (iI a1), .int (iI z9), .int (iI a3), .int (iI a4)]) (rest := []) (n := 4) X Y S k0 hml hl.1 (c_By_fitsInside d IH l D E T κ L f H.size h n0 k0 (by omega) a1 (by omega) (by omega) z9 (by omega) (by omega) a3 (by omega) (by omega) a4 (by omega) (by omega) S.1 hd) (ok_k X Y hA KS KR) rfl kl_By_By_fitsInside ks_By_fitsInside kx_By_fitsInside ki_By_fitsInside ini_By ⟨rfl, rfl⟩ hd_By_fitsInside ⟨by simp only [kRm]; omega, by simp only [kRm]; omega⟩ rfl (Nat.le_of_ble_eq_true rfl) d_By_fits_320 ⟨Nat.le_of_ble_eq_true rfl, Nat.le_of_ble_eq_true rfl⟩) X Y hA (fun z62 H locs Y p62 => ?_)
            obtain ⟨l62, u62⟩ := p62
            refine z_if_eq (tgt := 330) X.1 X.2.1 d_By_fits_323 (by decide) ⟨by omega, by omega⟩ (fun h63 => ?_) (fun h63 => ?_)
            · refine lv_iconst (v := iI 0) X.1 X.2.1 d_By_fits_330 (by decide) ?_
              exact c_retz hQQ X Y hr hlk (iI_bool (by omega) (by omega)).1 ⟨rfl, rfl, 0, rfl, ⟨by omega, by omega⟩⟩ d_By_fits_331
            · refine lv_iconst (v := iI 1) X.1 X.2.1 d_By_fits_326 (by decide) ?_
              refine lv_goto (tgt := 331) X.1 X.2.1 d_By_fits_327 (by decide) ?_
              exact c_retz hQQ X Y hr hlk (iI_bool (by omega) (by omega)).1 ⟨rfl, rfl, 1, rfl, ⟨by omega, by omega⟩⟩ d_By_fits_331
        by_cases h64 : a1 = 109
        · rw [h64]
          refine lv_tableIn (off := 147) (tgt := 190) X.1 X.2.1 d_By_fits_43 (by decide) (by decide) (by decide) (by decide) ?_
          refine lv_iload X.1 X.2.1 d_By_fits_190 (lv_at hl 1 rfl) ?_
          refine lv_iconst (v := iI 2) X.1 X.2.1 d_By_fits_192 (by decide) ?_
          refine z_icmp_ne (tgt := 214) X.1 X.2.1 d_By_fits_193 (by decide) ⟨by omega, by omega⟩ ⟨by omega, by omega⟩ (fun h65 => ?_) (fun h65 => ?_)
          · refine lv_iconst (v := iI 0) X.1 X.2.1 d_By_fits_214 (by decide) ?_
            exact c_retz hQQ X Y hr hlk (iI_bool (by omega) (by omega)).1 ⟨rfl, rfl, 0, rfl, ⟨by omega, by omega⟩⟩ d_By_fits_215
          · refine lv_aload_n X.1 X.2.1 d_By_fits_196 rfl (lv_at hl 2 rfl) ?_
            refine lv_iload X.1 X.2.1 d_By_fits_197 (lv_at hl 0 rfl) ?_
            refine lv_iload_n X.1 X.2.1 d_By_fits_199 rfl (lv_at hl 5 rfl) ?_
            refine lv_lconst (v := 0) X.1 X.2.1 d_By_fits_200 rfl ?_
            refine lv_ldc2 (v := (999999)) X.1 X.2.1 X.2.2.2.1 (X.2.2.1 _ cl_By_161) d_By_fits_201 ?_
            refine t_ui (t_runV (As := [.int (iI z9), .int (iI a3), .long 0, .long ((999999))]) (rest := []) (n := 4) X Y S k0 hml hl.1 (c_By_isNumber l D E T κ L f H.size h n0 k0 (by omega) z9 (by omega) (by omega) a3 (by omega) (by omega) 0 ((999999)) S.1) (ok_k X Y hA KS KR) rfl kl_By_By_isNumber ks_By_isNumber kx_By_isNumber ki_By_isNumber ini_By ⟨rfl, rfl⟩ hd_By_isNumber ⟨by simp only [kRm]; omega, by simp only [kRm]; omega⟩ rfl (Nat.le_of_ble_eq_true rfl) d_By_fits_204 ⟨Nat.le_of_ble_eq_true rfl, Nat.le_of_ble_eq_true rfl⟩) X Y hA (fun z66 H locs Y p66 => ?_)
            obtain ⟨l66, u66⟩ := p66
            refine z_if_eq (tgt := 214) X.1 X.2.1 d_By_fits_207 (by decide) ⟨by omega, by omega⟩ (fun h67 => ?_) (fun h67 => ?_)
            · refine lv_iconst (v := iI 0) X.1 X.2.1 d_By_fits_214 (by decide) ?_
              exact c_retz hQQ X Y hr hlk (iI_bool (by omega) (by omega)).1 ⟨rfl, rfl, 0, rfl, ⟨by omega, by omega⟩⟩ d_By_fits_215
            · refine lv_iconst (v := iI 1) X.1 X.2.1 d_By_fits_210 (by decide) ?_
              refine lv_goto (tgt := 215) X.1 X.2.1 d_By_fits_211 (by decide) ?_
              exact c_retz hQQ X Y hr hlk (iI_bool (by omega) (by omega)).1 ⟨rfl, rfl, 1, rfl, ⟨by omega, by omega⟩⟩ d_By_fits_215
        by_cases h68 : a1 = 110
        · rw [h68]
          refine lv_tableIn (off := 261) (tgt := 304) X.1 X.2.1 d_By_fits_43 (by decide) (by decide) (by decide) (by decide) ?_
          refine lv_iload X.1 X.2.1 d_By_fits_304 (lv_at hl 1 rfl) ?_
          refine lv_iload_n X.1 X.2.1 d_By_fits_306 rfl (lv_at hl 3 rfl) ?_
          refine t_ui (x_runS (As := [.int (iI a1)]) (rest := [.int (iI z8)]) (n := 1) X hml hl.1 (c_By_tagOf l D E T κ L f H.size a1 (by omega) (by omega) S.1) (ok_k X Y hA KS KR) kl_By_By_tagOf ks_By_tagOf ki_By_tagOf ini_By ⟨rfl, rfl⟩ hd_By_tagOf.2 ⟨by simp only [kRm]; omega, by simp only [kRm]; omega⟩ rfl (Nat.le_of_ble_eq_true rfl) d_By_fits_307 ⟨Nat.le_of_ble_eq_true rfl, Nat.le_of_ble_eq_true rfl⟩) X Y hA (fun z69 H locs Y p69 => ?_)
          obtain ⟨l69, u69⟩ := p69
          refine z_icmp_ne (tgt := 330) X.1 X.2.1 d_By_fits_310 (by decide) ⟨by omega, by omega⟩ ⟨by omega, by omega⟩ (fun h70 => ?_) (fun h70 => ?_)
          · refine lv_iconst (v := iI 0) X.1 X.2.1 d_By_fits_330 (by decide) ?_
            exact c_retz hQQ X Y hr hlk (iI_bool (by omega) (by omega)).1 ⟨rfl, rfl, 0, rfl, ⟨by omega, by omega⟩⟩ d_By_fits_331
          · refine lv_aload_n X.1 X.2.1 d_By_fits_313 rfl (lv_at hl 2 rfl) ?_
            refine lv_iload_n X.1 X.2.1 d_By_fits_314 rfl (lv_at hl 3 rfl) ?_
            refine lv_iload X.1 X.2.1 d_By_fits_315 (lv_at hl 0 rfl) ?_
            refine lv_iload_n X.1 X.2.1 d_By_fits_317 rfl (lv_at hl 5 rfl) ?_
            refine lv_iload X.1 X.2.1 d_By_fits_318 (lv_at hl 6 rfl) ?_
            refine t_ui (t_runV (As := [.int (iI a1), .int (iI z9), .int (iI a3), .int (iI a4)]) (rest := []) (n := 4) X Y S k0 hml hl.1 (c_By_fitsInside d IH l D E T κ L f H.size h n0 k0 (by omega) a1 (by omega) (by omega) z9 (by omega) (by omega) a3 (by omega) (by omega) a4 (by omega) (by omega) S.1 hd) (ok_k X Y hA KS KR) rfl kl_By_By_fitsInside ks_By_fitsInside kx_By_fitsInside ki_By_fitsInside ini_By ⟨rfl, rfl⟩ hd_By_fitsInside ⟨by simp only [kRm]; omega, by simp only [kRm]; omega⟩ rfl (Nat.le_of_ble_eq_true rfl) d_By_fits_320 ⟨Nat.le_of_ble_eq_true rfl, Nat.le_of_ble_eq_true rfl⟩) X Y hA (fun z71 H locs Y p71 => ?_)
            obtain ⟨l71, u71⟩ := p71
            refine z_if_eq (tgt := 330) X.1 X.2.1 d_By_fits_323 (by decide) ⟨by omega, by omega⟩ (fun h72 => ?_) (fun h72 => ?_)
            · refine lv_iconst (v := iI 0) X.1 X.2.1 d_By_fits_330 (by decide) ?_
              exact c_retz hQQ X Y hr hlk (iI_bool (by omega) (by omega)).1 ⟨rfl, rfl, 0, rfl, ⟨by omega, by omega⟩⟩ d_By_fits_331
            · refine lv_iconst (v := iI 1) X.1 X.2.1 d_By_fits_326 (by decide) ?_
              refine lv_goto (tgt := 331) X.1 X.2.1 d_By_fits_327 (by decide) ?_
              exact c_retz hQQ X Y hr hlk (iI_bool (by omega) (by omega)).1 ⟨rfl, rfl, 1, rfl, ⟨by omega, by omega⟩⟩ d_By_fits_331
        by_cases h73 : a1 = 111
        · rw [h73]
          refine lv_tableIn (off := 249) (tgt := 292) X.1 X.2.1 d_By_fits_43 (by decide) (by decide) (by decide) (by decide) ?_
          refine lv_iload X.1 X.2.1 d_By_fits_292 (lv_at hl 1 rfl) ?_
          refine lv_iconst (v := iI 4) X.1 X.2.1 d_By_fits_294 (by decide) ?_
          refine z_icmp_ne (tgt := 302) X.1 X.2.1 d_By_fits_295 (by decide) ⟨by omega, by omega⟩ ⟨by omega, by omega⟩ (fun h74 => ?_) (fun h74 => ?_)
          · refine lv_iconst (v := iI 0) X.1 X.2.1 d_By_fits_302 (by decide) ?_
            exact c_retz hQQ X Y hr hlk (iI_bool (by omega) (by omega)).1 ⟨rfl, rfl, 0, rfl, ⟨by omega, by omega⟩⟩ d_By_fits_303
          · refine lv_iconst (v := iI 1) X.1 X.2.1 d_By_fits_298 (by decide) ?_
            refine lv_goto (tgt := 303) X.1 X.2.1 d_By_fits_299 (by decide) ?_
            exact c_retz hQQ X Y hr hlk (iI_bool (by omega) (by omega)).1 ⟨rfl, rfl, 1, rfl, ⟨by omega, by omega⟩⟩ d_By_fits_303
        by_cases h75 : a1 = 112
        · rw [h75]
          refine lv_tableIn (off := 261) (tgt := 304) X.1 X.2.1 d_By_fits_43 (by decide) (by decide) (by decide) (by decide) ?_
          refine lv_iload X.1 X.2.1 d_By_fits_304 (lv_at hl 1 rfl) ?_
          refine lv_iload_n X.1 X.2.1 d_By_fits_306 rfl (lv_at hl 3 rfl) ?_
          refine t_ui (x_runS (As := [.int (iI a1)]) (rest := [.int (iI z8)]) (n := 1) X hml hl.1 (c_By_tagOf l D E T κ L f H.size a1 (by omega) (by omega) S.1) (ok_k X Y hA KS KR) kl_By_By_tagOf ks_By_tagOf ki_By_tagOf ini_By ⟨rfl, rfl⟩ hd_By_tagOf.2 ⟨by simp only [kRm]; omega, by simp only [kRm]; omega⟩ rfl (Nat.le_of_ble_eq_true rfl) d_By_fits_307 ⟨Nat.le_of_ble_eq_true rfl, Nat.le_of_ble_eq_true rfl⟩) X Y hA (fun z76 H locs Y p76 => ?_)
          obtain ⟨l76, u76⟩ := p76
          refine z_icmp_ne (tgt := 330) X.1 X.2.1 d_By_fits_310 (by decide) ⟨by omega, by omega⟩ ⟨by omega, by omega⟩ (fun h77 => ?_) (fun h77 => ?_)
          · refine lv_iconst (v := iI 0) X.1 X.2.1 d_By_fits_330 (by decide) ?_
            exact c_retz hQQ X Y hr hlk (iI_bool (by omega) (by omega)).1 ⟨rfl, rfl, 0, rfl, ⟨by omega, by omega⟩⟩ d_By_fits_331
          · refine lv_aload_n X.1 X.2.1 d_By_fits_313 rfl (lv_at hl 2 rfl) ?_
            refine lv_iload_n X.1 X.2.1 d_By_fits_314 rfl (lv_at hl 3 rfl) ?_
            refine lv_iload X.1 X.2.1 d_By_fits_315 (lv_at hl 0 rfl) ?_
            refine lv_iload_n X.1 X.2.1 d_By_fits_317 rfl (lv_at hl 5 rfl) ?_
            refine lv_iload X.1 X.2.1 d_By_fits_318 (lv_at hl 6 rfl) ?_
            refine t_ui (t_runV (As := [.int (iI a1), .int (iI z9), .int (iI a3), .int (iI a4)]) (rest := []) (n := 4) X Y S k0 hml hl.1 (c_By_fitsInside d IH l D E T κ L f H.size h n0 k0 (by omega) a1 (by omega) (by omega) z9 (by omega) (by omega) a3 (by omega) (by omega) a4 (by omega) (by omega) S.1 hd) (ok_k X Y hA KS KR) rfl kl_By_By_fitsInside ks_By_fitsInside kx_By_fitsInside ki_By_fitsInside ini_By ⟨rfl, rfl⟩ hd_By_fitsInside ⟨by simp only [kRm]; omega, by simp only [kRm]; omega⟩ rfl (Nat.le_of_ble_eq_true rfl) d_By_fits_320 ⟨Nat.le_of_ble_eq_true rfl, Nat.le_of_ble_eq_true rfl⟩) X Y hA (fun z78 H locs Y p78 => ?_)
            obtain ⟨l78, u78⟩ := p78
            refine z_if_eq (tgt := 330) X.1 X.2.1 d_By_fits_323 (by decide) ⟨by omega, by omega⟩ (fun h79 => ?_) (fun h79 => ?_)
            · refine lv_iconst (v := iI 0) X.1 X.2.1 d_By_fits_330 (by decide) ?_
              exact c_retz hQQ X Y hr hlk (iI_bool (by omega) (by omega)).1 ⟨rfl, rfl, 0, rfl, ⟨by omega, by omega⟩⟩ d_By_fits_331
            · refine lv_iconst (v := iI 1) X.1 X.2.1 d_By_fits_326 (by decide) ?_
              refine lv_goto (tgt := 331) X.1 X.2.1 d_By_fits_327 (by decide) ?_
              exact c_retz hQQ X Y hr hlk (iI_bool (by omega) (by omega)).1 ⟨rfl, rfl, 1, rfl, ⟨by omega, by omega⟩⟩ d_By_fits_331
        by_cases h80 : a1 = 113
        · rw [h80]
          refine lv_tableIn (off := 261) (tgt := 304) X.1 X.2.1 d_By_fits_43 (by decide) (by decide) (by decide) (by decide) ?_
          refine lv_iload X.1 X.2.1 d_By_fits_304 (lv_at hl 1 rfl) ?_
          refine lv_iload_n X.1 X.2.1 d_By_fits_306 rfl (lv_at hl 3 rfl) ?_
          refine t_ui (x_runS (As := [.int (iI a1)]) (rest := [.int (iI z8)]) (n := 1) X hml hl.1 (c_By_tagOf l D E T κ L f H.size a1 (by omega) (by omega) S.1) (ok_k X Y hA KS KR) kl_By_By_tagOf ks_By_tagOf ki_By_tagOf ini_By ⟨rfl, rfl⟩ hd_By_tagOf.2 ⟨by simp only [kRm]; omega, by simp only [kRm]; omega⟩ rfl (Nat.le_of_ble_eq_true rfl) d_By_fits_307 ⟨Nat.le_of_ble_eq_true rfl, Nat.le_of_ble_eq_true rfl⟩) X Y hA (fun z81 H locs Y p81 => ?_)
          obtain ⟨l81, u81⟩ := p81
          refine z_icmp_ne (tgt := 330) X.1 X.2.1 d_By_fits_310 (by decide) ⟨by omega, by omega⟩ ⟨by omega, by omega⟩ (fun h82 => ?_) (fun h82 => ?_)
          · refine lv_iconst (v := iI 0) X.1 X.2.1 d_By_fits_330 (by decide) ?_
            exact c_retz hQQ X Y hr hlk (iI_bool (by omega) (by omega)).1 ⟨rfl, rfl, 0, rfl, ⟨by omega, by omega⟩⟩ d_By_fits_331
          · refine lv_aload_n X.1 X.2.1 d_By_fits_313 rfl (lv_at hl 2 rfl) ?_
            refine lv_iload_n X.1 X.2.1 d_By_fits_314 rfl (lv_at hl 3 rfl) ?_
            refine lv_iload X.1 X.2.1 d_By_fits_315 (lv_at hl 0 rfl) ?_
            refine lv_iload_n X.1 X.2.1 d_By_fits_317 rfl (lv_at hl 5 rfl) ?_
            refine lv_iload X.1 X.2.1 d_By_fits_318 (lv_at hl 6 rfl) ?_
            refine t_ui (t_runV (As := [.int (iI a1), .int (iI z9), .int (iI a3), .int (iI a4)]) (rest := []) (n := 4) X Y S k0 hml hl.1 (c_By_fitsInside d IH l D E T κ L f H.size h n0 k0 (by omega) a1 (by omega) (by omega) z9 (by omega) (by omega) a3 (by omega) (by omega) a4 (by omega) (by omega) S.1 hd) (ok_k X Y hA KS KR) rfl kl_By_By_fitsInside ks_By_fitsInside kx_By_fitsInside ki_By_fitsInside ini_By ⟨rfl, rfl⟩ hd_By_fitsInside ⟨by simp only [kRm]; omega, by simp only [kRm]; omega⟩ rfl (Nat.le_of_ble_eq_true rfl) d_By_fits_320 ⟨Nat.le_of_ble_eq_true rfl, Nat.le_of_ble_eq_true rfl⟩) X Y hA (fun z83 H locs Y p83 => ?_)
            obtain ⟨l83, u83⟩ := p83
            refine z_if_eq (tgt := 330) X.1 X.2.1 d_By_fits_323 (by decide) ⟨by omega, by omega⟩ (fun h84 => ?_) (fun h84 => ?_)
            · refine lv_iconst (v := iI 0) X.1 X.2.1 d_By_fits_330 (by decide) ?_
              exact c_retz hQQ X Y hr hlk (iI_bool (by omega) (by omega)).1 ⟨rfl, rfl, 0, rfl, ⟨by omega, by omega⟩⟩ d_By_fits_331
            · refine lv_iconst (v := iI 1) X.1 X.2.1 d_By_fits_326 (by decide) ?_
              refine lv_goto (tgt := 331) X.1 X.2.1 d_By_fits_327 (by decide) ?_
              exact c_retz hQQ X Y hr hlk (iI_bool (by omega) (by omega)).1 ⟨rfl, rfl, 1, rfl, ⟨by omega, by omega⟩⟩ d_By_fits_331
        by_cases h85 : a1 = 114
        · rw [h85]
          refine lv_tableIn (off := 261) (tgt := 304) X.1 X.2.1 d_By_fits_43 (by decide) (by decide) (by decide) (by decide) ?_
          refine lv_iload X.1 X.2.1 d_By_fits_304 (lv_at hl 1 rfl) ?_
          refine lv_iload_n X.1 X.2.1 d_By_fits_306 rfl (lv_at hl 3 rfl) ?_
          refine t_ui (x_runS (As := [.int (iI a1)]) (rest := [.int (iI z8)]) (n := 1) X hml hl.1 (c_By_tagOf l D E T κ L f H.size a1 (by omega) (by omega) S.1) (ok_k X Y hA KS KR) kl_By_By_tagOf ks_By_tagOf ki_By_tagOf ini_By ⟨rfl, rfl⟩ hd_By_tagOf.2 ⟨by simp only [kRm]; omega, by simp only [kRm]; omega⟩ rfl (Nat.le_of_ble_eq_true rfl) d_By_fits_307 ⟨Nat.le_of_ble_eq_true rfl, Nat.le_of_ble_eq_true rfl⟩) X Y hA (fun z86 H locs Y p86 => ?_)
          obtain ⟨l86, u86⟩ := p86
          refine z_icmp_ne (tgt := 330) X.1 X.2.1 d_By_fits_310 (by decide) ⟨by omega, by omega⟩ ⟨by omega, by omega⟩ (fun h87 => ?_) (fun h87 => ?_)
          · refine lv_iconst (v := iI 0) X.1 X.2.1 d_By_fits_330 (by decide) ?_
            exact c_retz hQQ X Y hr hlk (iI_bool (by omega) (by omega)).1 ⟨rfl, rfl, 0, rfl, ⟨by omega, by omega⟩⟩ d_By_fits_331
          · refine lv_aload_n X.1 X.2.1 d_By_fits_313 rfl (lv_at hl 2 rfl) ?_
            refine lv_iload_n X.1 X.2.1 d_By_fits_314 rfl (lv_at hl 3 rfl) ?_
            refine lv_iload X.1 X.2.1 d_By_fits_315 (lv_at hl 0 rfl) ?_
            refine lv_iload_n X.1 X.2.1 d_By_fits_317 rfl (lv_at hl 5 rfl) ?_
            refine lv_iload X.1 X.2.1 d_By_fits_318 (lv_at hl 6 rfl) ?_
            refine t_ui (t_runV (As := [.int (iI a1), .int (iI z9), .int (iI a3), .int (iI a4)]) (rest := []) (n := 4) X Y S k0 hml hl.1 (c_By_fitsInside d IH l D E T κ L f H.size h n0 k0 (by omega) a1 (by omega) (by omega) z9 (by omega) (by omega) a3 (by omega) (by omega) a4 (by omega) (by omega) S.1 hd) (ok_k X Y hA KS KR) rfl kl_By_By_fitsInside ks_By_fitsInside kx_By_fitsInside ki_By_fitsInside ini_By ⟨rfl, rfl⟩ hd_By_fitsInside ⟨by simp only [kRm]; omega, by simp only [kRm]; omega⟩ rfl (Nat.le_of_ble_eq_true rfl) d_By_fits_320 ⟨Nat.le_of_ble_eq_true rfl, Nat.le_of_ble_eq_true rfl⟩) X Y hA (fun z88 H locs Y p88 => ?_)
            obtain ⟨l88, u88⟩ := p88
            refine z_if_eq (tgt := 330) X.1 X.2.1 d_By_fits_323 (by decide) ⟨by omega, by omega⟩ (fun h89 => ?_) (fun h89 => ?_)
            · refine lv_iconst (v := iI 0) X.1 X.2.1 d_By_fits_330 (by decide) ?_
              exact c_retz hQQ X Y hr hlk (iI_bool (by omega) (by omega)).1 ⟨rfl, rfl, 0, rfl, ⟨by omega, by omega⟩⟩ d_By_fits_331
            · refine lv_iconst (v := iI 1) X.1 X.2.1 d_By_fits_326 (by decide) ?_
              refine lv_goto (tgt := 331) X.1 X.2.1 d_By_fits_327 (by decide) ?_
              exact c_retz hQQ X Y hr hlk (iI_bool (by omega) (by omega)).1 ⟨rfl, rfl, 1, rfl, ⟨by omega, by omega⟩⟩ d_By_fits_331
        by_cases h90 : a1 = 115
        · rw [h90]
          refine lv_tableIn (off := 173) (tgt := 216) X.1 X.2.1 d_By_fits_43 (by decide) (by decide) (by decide) (by decide) ?_
          refine lv_iload X.1 X.2.1 d_By_fits_216 (lv_at hl 1 rfl) ?_
          refine lv_bipush (v := iI 27) X.1 X.2.1 d_By_fits_218 (by decide) ?_
          refine z_icmp_ne (tgt := 237) X.1 X.2.1 d_By_fits_220 (by decide) ⟨by omega, by omega⟩ ⟨by omega, by omega⟩ (fun h91 => ?_) (fun h91 => ?_)
          · refine lv_iconst (v := iI 0) X.1 X.2.1 d_By_fits_237 (by decide) ?_
            exact c_retz hQQ X Y hr hlk (iI_bool (by omega) (by omega)).1 ⟨rfl, rfl, 0, rfl, ⟨by omega, by omega⟩⟩ d_By_fits_238
          · refine lv_aload_n X.1 X.2.1 d_By_fits_223 rfl (lv_at hl 2 rfl) ?_
            refine lv_iload X.1 X.2.1 d_By_fits_224 (lv_at hl 0 rfl) ?_
            refine lv_iload_n X.1 X.2.1 d_By_fits_226 rfl (lv_at hl 5 rfl) ?_
            refine t_ui (t_runV (As := [.int (iI z9), .int (iI a3)]) (rest := []) (n := 2) X Y S k0 hml hl.1 (c_By_isPrintable l D E T κ L f H.size h n0 k0 (by omega) z9 (by omega) (by omega) a3 (by omega) (by omega) S.1) (ok_k X Y hA KS KR) rfl kl_By_By_isPrintable ks_By_isPrintable kx_By_isPrintable ki_By_isPrintable ini_By ⟨rfl, rfl⟩ hd_By_isPrintable ⟨by simp only [kRm]; omega, by simp only [kRm]; omega⟩ rfl (Nat.le_of_ble_eq_true rfl) d_By_fits_227 ⟨Nat.le_of_ble_eq_true rfl, Nat.le_of_ble_eq_true rfl⟩) X Y hA (fun z92 H locs Y p92 => ?_)
            obtain ⟨l92, u92⟩ := p92
            refine z_if_eq (tgt := 237) X.1 X.2.1 d_By_fits_230 (by decide) ⟨by omega, by omega⟩ (fun h93 => ?_) (fun h93 => ?_)
            · refine lv_iconst (v := iI 0) X.1 X.2.1 d_By_fits_237 (by decide) ?_
              exact c_retz hQQ X Y hr hlk (iI_bool (by omega) (by omega)).1 ⟨rfl, rfl, 0, rfl, ⟨by omega, by omega⟩⟩ d_By_fits_238
            · refine lv_iconst (v := iI 1) X.1 X.2.1 d_By_fits_233 (by decide) ?_
              refine lv_goto (tgt := 238) X.1 X.2.1 d_By_fits_234 (by decide) ?_
              exact c_retz hQQ X Y hr hlk (iI_bool (by omega) (by omega)).1 ⟨rfl, rfl, 1, rfl, ⟨by omega, by omega⟩⟩ d_By_fits_238
        by_cases h94 : a1 = 116
        · rw [h94]
          refine lv_tableIn (off := 196) (tgt := 239) X.1 X.2.1 d_By_fits_43 (by decide) (by decide) (by decide) (by decide) ?_
          refine lv_iload X.1 X.2.1 d_By_fits_239 (lv_at hl 1 rfl) ?_
          refine lv_bipush (v := iI 24) X.1 X.2.1 d_By_fits_241 (by decide) ?_
          refine z_icmp_ne (tgt := 260) X.1 X.2.1 d_By_fits_243 (by decide) ⟨by omega, by omega⟩ ⟨by omega, by omega⟩ (fun h95 => ?_) (fun h95 => ?_)
          · refine lv_iconst (v := iI 0) X.1 X.2.1 d_By_fits_260 (by decide) ?_
            exact c_retz hQQ X Y hr hlk (iI_bool (by omega) (by omega)).1 ⟨rfl, rfl, 0, rfl, ⟨by omega, by omega⟩⟩ d_By_fits_261
          · refine lv_aload_n X.1 X.2.1 d_By_fits_246 rfl (lv_at hl 2 rfl) ?_
            refine lv_iload X.1 X.2.1 d_By_fits_247 (lv_at hl 0 rfl) ?_
            refine lv_iload_n X.1 X.2.1 d_By_fits_249 rfl (lv_at hl 5 rfl) ?_
            refine t_ui (t_runV (As := [.int (iI z9), .int (iI a3)]) (rest := []) (n := 2) X Y S k0 hml hl.1 (c_By_isTime l D E T κ L f H.size h n0 k0 (by omega) z9 (by omega) (by omega) a3 (by omega) (by omega) S.1) (ok_k X Y hA KS KR) rfl kl_By_By_isTime ks_By_isTime kx_By_isTime ki_By_isTime ini_By ⟨rfl, rfl⟩ hd_By_isTime ⟨by simp only [kRm]; omega, by simp only [kRm]; omega⟩ rfl (Nat.le_of_ble_eq_true rfl) d_By_fits_250 ⟨Nat.le_of_ble_eq_true rfl, Nat.le_of_ble_eq_true rfl⟩) X Y hA (fun z96 H locs Y p96 => ?_)
            obtain ⟨l96, u96⟩ := p96
            refine z_if_eq (tgt := 260) X.1 X.2.1 d_By_fits_253 (by decide) ⟨by omega, by omega⟩ (fun h97 => ?_) (fun h97 => ?_)
            · refine lv_iconst (v := iI 0) X.1 X.2.1 d_By_fits_260 (by decide) ?_
              exact c_retz hQQ X Y hr hlk (iI_bool (by omega) (by omega)).1 ⟨rfl, rfl, 0, rfl, ⟨by omega, by omega⟩⟩ d_By_fits_261
            · refine lv_iconst (v := iI 1) X.1 X.2.1 d_By_fits_256 (by decide) ?_
              refine lv_goto (tgt := 261) X.1 X.2.1 d_By_fits_257 (by decide) ?_
              exact c_retz hQQ X Y hr hlk (iI_bool (by omega) (by omega)).1 ⟨rfl, rfl, 1, rfl, ⟨by omega, by omega⟩⟩ d_By_fits_261
        by_cases h98 : a1 = 117
        · rw [h98]
          refine lv_tableIn (off := 121) (tgt := 164) X.1 X.2.1 d_By_fits_43 (by decide) (by decide) (by decide) (by decide) ?_
          refine lv_iload X.1 X.2.1 d_By_fits_164 (lv_at hl 1 rfl) ?_
          refine lv_iconst (v := iI 2) X.1 X.2.1 d_By_fits_166 (by decide) ?_
          refine z_icmp_ne (tgt := 188) X.1 X.2.1 d_By_fits_167 (by decide) ⟨by omega, by omega⟩ ⟨by omega, by omega⟩ (fun h99 => ?_) (fun h99 => ?_)
          · refine lv_iconst (v := iI 0) X.1 X.2.1 d_By_fits_188 (by decide) ?_
            exact c_retz hQQ X Y hr hlk (iI_bool (by omega) (by omega)).1 ⟨rfl, rfl, 0, rfl, ⟨by omega, by omega⟩⟩ d_By_fits_189
          · refine lv_aload_n X.1 X.2.1 d_By_fits_170 rfl (lv_at hl 2 rfl) ?_
            refine lv_iload X.1 X.2.1 d_By_fits_171 (lv_at hl 0 rfl) ?_
            refine lv_iload_n X.1 X.2.1 d_By_fits_173 rfl (lv_at hl 5 rfl) ?_
            refine lv_lconst (v := 0) X.1 X.2.1 d_By_fits_174 rfl ?_
            refine lv_ldc2 (v := (4294967295)) X.1 X.2.1 X.2.2.2.1 (X.2.2.1 _ cl_By_159) d_By_fits_175 ?_
            refine t_ui (t_runV (As := [.int (iI z9), .int (iI a3), .long 0, .long ((4294967295))]) (rest := []) (n := 4) X Y S k0 hml hl.1 (c_By_isNumber l D E T κ L f H.size h n0 k0 (by omega) z9 (by omega) (by omega) a3 (by omega) (by omega) 0 ((4294967295)) S.1) (ok_k X Y hA KS KR) rfl kl_By_By_isNumber ks_By_isNumber kx_By_isNumber ki_By_isNumber ini_By ⟨rfl, rfl⟩ hd_By_isNumber ⟨by simp only [kRm]; omega, by simp only [kRm]; omega⟩ rfl (Nat.le_of_ble_eq_true rfl) d_By_fits_178 ⟨Nat.le_of_ble_eq_true rfl, Nat.le_of_ble_eq_true rfl⟩) X Y hA (fun z100 H locs Y p100 => ?_)
            obtain ⟨l100, u100⟩ := p100
            refine z_if_eq (tgt := 188) X.1 X.2.1 d_By_fits_181 (by decide) ⟨by omega, by omega⟩ (fun h101 => ?_) (fun h101 => ?_)
            · refine lv_iconst (v := iI 0) X.1 X.2.1 d_By_fits_188 (by decide) ?_
              exact c_retz hQQ X Y hr hlk (iI_bool (by omega) (by omega)).1 ⟨rfl, rfl, 0, rfl, ⟨by omega, by omega⟩⟩ d_By_fits_189
            · refine lv_iconst (v := iI 1) X.1 X.2.1 d_By_fits_184 (by decide) ?_
              refine lv_goto (tgt := 189) X.1 X.2.1 d_By_fits_185 (by decide) ?_
              exact c_retz hQQ X Y hr hlk (iI_bool (by omega) (by omega)).1 ⟨rfl, rfl, 1, rfl, ⟨by omega, by omega⟩⟩ d_By_fits_189
        refine lv_tableOut (tgt := 304) X.1 X.2.1 d_By_fits_43 (by rw [iI_toInt ⟨by omega, by omega⟩]; omega) (by decide) ?_
        refine lv_iload X.1 X.2.1 d_By_fits_304 (lv_at hl 1 rfl) ?_
        refine lv_iload_n X.1 X.2.1 d_By_fits_306 rfl (lv_at hl 3 rfl) ?_
        refine t_ui (x_runS (As := [.int (iI a1)]) (rest := [.int (iI z8)]) (n := 1) X hml hl.1 (c_By_tagOf l D E T κ L f H.size a1 (by omega) (by omega) S.1) (ok_k X Y hA KS KR) kl_By_By_tagOf ks_By_tagOf ki_By_tagOf ini_By ⟨rfl, rfl⟩ hd_By_tagOf.2 ⟨by simp only [kRm]; omega, by simp only [kRm]; omega⟩ rfl (Nat.le_of_ble_eq_true rfl) d_By_fits_307 ⟨Nat.le_of_ble_eq_true rfl, Nat.le_of_ble_eq_true rfl⟩) X Y hA (fun z102 H locs Y p102 => ?_)
        obtain ⟨l102, u102⟩ := p102
        refine z_icmp_ne (tgt := 330) X.1 X.2.1 d_By_fits_310 (by decide) ⟨by omega, by omega⟩ ⟨by omega, by omega⟩ (fun h103 => ?_) (fun h103 => ?_)
        · refine lv_iconst (v := iI 0) X.1 X.2.1 d_By_fits_330 (by decide) ?_
          exact c_retz hQQ X Y hr hlk (iI_bool (by omega) (by omega)).1 ⟨rfl, rfl, 0, rfl, ⟨by omega, by omega⟩⟩ d_By_fits_331
        · refine lv_aload_n X.1 X.2.1 d_By_fits_313 rfl (lv_at hl 2 rfl) ?_
          refine lv_iload_n X.1 X.2.1 d_By_fits_314 rfl (lv_at hl 3 rfl) ?_
          refine lv_iload X.1 X.2.1 d_By_fits_315 (lv_at hl 0 rfl) ?_
          refine lv_iload_n X.1 X.2.1 d_By_fits_317 rfl (lv_at hl 5 rfl) ?_
          refine lv_iload X.1 X.2.1 d_By_fits_318 (lv_at hl 6 rfl) ?_
          refine t_ui (t_runV (As := [.int (iI a1), .int (iI z9), .int (iI a3), .int (iI a4)]) (rest := []) (n := 4) X Y S k0 hml hl.1 (c_By_fitsInside d IH l D E T κ L f H.size h n0 k0 (by omega) a1 (by omega) (by omega) z9 (by omega) (by omega) a3 (by omega) (by omega) a4 (by omega) (by omega) S.1 hd) (ok_k X Y hA KS KR) rfl kl_By_By_fitsInside ks_By_fitsInside kx_By_fitsInside ki_By_fitsInside ini_By ⟨rfl, rfl⟩ hd_By_fitsInside ⟨by simp only [kRm]; omega, by simp only [kRm]; omega⟩ rfl (Nat.le_of_ble_eq_true rfl) d_By_fits_320 ⟨Nat.le_of_ble_eq_true rfl, Nat.le_of_ble_eq_true rfl⟩) X Y hA (fun z104 H locs Y p104 => ?_)
          obtain ⟨l104, u104⟩ := p104
          refine z_if_eq (tgt := 330) X.1 X.2.1 d_By_fits_323 (by decide) ⟨by omega, by omega⟩ (fun h105 => ?_) (fun h105 => ?_)
          · refine lv_iconst (v := iI 0) X.1 X.2.1 d_By_fits_330 (by decide) ?_
            exact c_retz hQQ X Y hr hlk (iI_bool (by omega) (by omega)).1 ⟨rfl, rfl, 0, rfl, ⟨by omega, by omega⟩⟩ d_By_fits_331
          · refine lv_iconst (v := iI 1) X.1 X.2.1 d_By_fits_326 (by decide) ?_
            refine lv_goto (tgt := 331) X.1 X.2.1 d_By_fits_327 (by decide) ?_
            exact c_retz hQQ X Y hr hlk (iI_bool (by omega) (by omega)).1 ⟨rfl, rfl, 1, rfl, ⟨by omega, by omega⟩⟩ d_By_fits_331
      · refine lv_iconst (v := iI 0) X.1 X.2.1 d_By_fits_21 (by decide) ?_
        exact c_retz hQQ X Y hr hlk (iI_bool (by omega) (by omega)).1 ⟨rfl, rfl, 0, rfl, ⟨by omega, by omega⟩⟩ d_By_fits_22
theorem fits_all : ∀ d, C_fits d := by
  intro d
  induction d with
  | zero => intro l D E T κ L f sz h n0 k0 x0 a1 l_a1 u_a1 a2 l_a2 u_a2 a3 l_a3 u_a3 a4 l_a4 u_a4 hw hd; exact c_By_fits0 l D E T κ L f sz h n0 k0 x0 a1 l_a1 u_a1 a2 l_a2 u_a2 a3 l_a3 u_a3 a4 (by omega) u_a4 hw
  | succ d ih => intro l D E T κ L f sz h n0 k0 x0 a1 l_a1 u_a1 a2 l_a2 u_a2 a3 l_a3 u_a3 a4 l_a4 u_a4 hw hd; exact c_By_fits d ih l D E T κ L f sz h n0 k0 x0 a1 l_a1 u_a1 a2 l_a2 u_a2 a3 l_a3 u_a3 a4 l_a4 u_a4 hw (by omega)
set_option maxHeartbeats 4000000 in
set_option maxRecDepth 100000 in
theorem c_By_isA (l : Launch) (D : va_G) (E : cE) (T : cT) (κ : tK) (L : List Nat) (f : pF) (sz : Nat) (h n0 : Nat) (k0 : κ h = (13, n0)) (x0 : n0 ≤ 12288) (a1 : Int) (l_a1 : (-2147483648) ≤ a1) (u_a1 : a1 ≤ 2147483647) (a2 : Int) (l_a2 : (-1) ≤ a2) (u_a2 : a2 ≤ 20200) (a3 : Int) (l_a3 : 0 ≤ a3) (u_a3 : a3 ≤ 20200) (hw : tW E T κ L f) : Met l y_By_isA (k_By_isA :: lw_tg) (kRm 70 2340 0 0) (va_Pc [.ref h, .int (iI a1), .int (iI a2), .int (iI a3)] (kPre D E T L f sz)) (va_Qi (uPi L f (fun (z : Int) => 0 ≤ z ∧ z ≤ 1)) (cPost D E (pA L sz)) (pA L sz)) 0 0 (pA L sz) := by
  refine k_enter (own := R_By) (by decide) rfl (Nat.le_of_ble_eq_true rfl) (fun p e s m below meth c ls AV QQ H locs hQQ X Y hA hin hr hlk hml hl KS KR => ?_)
  have hl : lv_has ls 4 [(0, .ref h), (1, .int (iI a1)), (2, .int (iI a2)), (3, .int (iI a3))] := hl
  have S : tS E T (tFr κ L [] []) κ L f κ L f := tS_rf hw
  refine lv_aload_n X.1 X.2.1 d_By_isA_0 rfl (lv_at hl 0 rfl) ?_
  refine lv_iload_n X.1 X.2.1 d_By_isA_1 rfl (lv_at hl 1 rfl) ?_
  refine lv_iload_n X.1 X.2.1 d_By_isA_2 rfl (lv_at hl 2 rfl) ?_
  refine lv_iload_n X.1 X.2.1 d_By_isA_3 rfl (lv_at hl 3 rfl) ?_
  refine lv_iconst (v := iI 0) X.1 X.2.1 d_By_isA_4 (by decide) ?_
  refine t_ui (t_runV (As := [.int (iI a1), .int (iI a2), .int (iI a3), .int (iI 0)]) (rest := []) (n := 4) X Y S k0 hml hl.1 (fits_all 21 l D E T κ L f H.size h n0 k0 (by omega) a1 (by omega) (by omega) a2 (by omega) (by omega) a3 (by omega) (by omega) 0 (by omega) (by omega) S.1 (by omega)) (ok_k X Y hA KS KR) rfl kl_By_By_fits ks_By_fits kx_By_fits ki_By_fits ini_By ⟨rfl, rfl⟩ hd_By_fits ⟨Nat.le_of_ble_eq_true rfl, Nat.le_of_ble_eq_true rfl⟩ rfl (Nat.le_of_ble_eq_true rfl) d_By_isA_5 ⟨Nat.le_of_ble_eq_true rfl, Nat.le_of_ble_eq_true rfl⟩) X Y hA (fun z1 H locs Y p1 => ?_)
  obtain ⟨l1, u1⟩ := p1
  exact c_retz hQQ X Y hr hlk (iI_bool (by omega) (by omega)).1 ⟨rfl, rfl, z1, rfl, ⟨by omega, by omega⟩⟩ d_By_isA_8
