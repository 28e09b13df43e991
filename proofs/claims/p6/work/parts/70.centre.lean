set_option maxHeartbeats 4000000 in
set_option maxRecDepth 100000 in
theorem c_Ce_asks (l : Launch) (D : va_G) (E : cE) (T : cT) (κ : tK) (L : List Nat) (f : pF) (sz : Nat) (h : Nat) (k0 : κ h = (14, 0)) (a1 : Int) (l_a1 : (-2147483648) ≤ a1) (u_a1 : a1 ≤ 2147483647) (hw : tW E T κ L f) : Met l y_Ce_asks (k_Ce_asks :: lw_tg) (kRm 1 60 0 0) (va_Pc [.ref h, .int (iI a1)] (kPre D E T L f sz)) (va_Qi (uPi L f (fun (z : Int) => 0 ≤ z ∧ z ≤ 1)) (cPost D E (pA L sz)) (pA L sz)) 0 0 (pA L sz) := by
  refine k_enter (own := R_Ce) (by decide) rfl (Nat.le_of_ble_eq_true rfl) (fun p e s m below meth c ls AV QQ H locs hQQ X Y hA hin hr hlk hml hl KS KR => ?_)
  have hl : lv_has ls 2 [(0, .ref h), (1, .int (iI a1))] := hl
  have S : tS E T (tFr κ L [] []) κ L f κ L f := tS_rf hw
  refine lv_aload_n X.1 X.2.1 d_Ce_asks_0 rfl (lv_at hl 0 rfl) ?_
  refine t_geti (ci := 4) X Y S k0 rfl i_Ce 9 (by decide) rfl lk_Ce_44 (fun _ h9 => h9) d_Ce_asks_1 (fun z1 e1 l1 u1 => ?_)
  refine lv_iload_n X.1 X.2.1 d_Ce_asks_4 rfl (lv_at hl 1 rfl) ?_
  refine lv_iand X.1 X.2.1 d_Ce_asks_5 ?_
  refine t_u (fun z3 l3 u3 => ?_)
  refine z_if_eq (tgt := 13) X.1 X.2.1 d_Ce_asks_6 (by decide) ⟨by omega, by omega⟩ (fun h4 => ?_) (fun h4 => ?_)
  · refine lv_iconst (v := iI 0) X.1 X.2.1 d_Ce_asks_13 (by decide) ?_
    exact c_retz hQQ X Y hr hlk (iI_bool (by omega) (by omega)).1 ⟨rfl, rfl, 0, rfl, ⟨by omega, by omega⟩⟩ d_Ce_asks_14
  · refine lv_iconst (v := iI 1) X.1 X.2.1 d_Ce_asks_9 (by decide) ?_
    refine lv_goto (tgt := 14) X.1 X.2.1 d_Ce_asks_10 (by decide) ?_
    exact c_retz hQQ X Y hr hlk (iI_bool (by omega) (by omega)).1 ⟨rfl, rfl, 1, rfl, ⟨by omega, by omega⟩⟩ d_Ce_asks_14
set_option maxHeartbeats 4000000 in
set_option maxRecDepth 100000 in
theorem c_Ce_shown (l : Launch) (D : va_G) (E : cE) (T : cT) (κ : tK) (L : List Nat) (f : pF) (sz : Nat) (h : Nat) (k0 : κ h = (14, 0)) (a1 : Int) (l_a1 : (-2147483648) ≤ a1) (u_a1 : a1 ≤ 2147483647) (hw : tW E T κ L f) : Met l y_Ce_shown (k_Ce_shown :: lw_tg) (kRm 3 112 0 0) (va_Pc [.ref h, .int (iI a1)] (kPre D E T L f sz)) (va_Qi (uPi L f (fun (z : Int) => (-1) ≤ z ∧ z ≤ 12420)) (cPost D E (pA L sz)) (pA L sz)) 0 0 (pA L sz) := by
  refine k_enter (own := R_Ce) (by decide) rfl (Nat.le_of_ble_eq_true rfl) (fun p e s m below meth c ls AV QQ H locs hQQ X Y hA hin hr hlk hml hl KS KR => ?_)
  have hl : lv_has ls 5 [(0, .ref h), (1, .int (iI a1))] := hl
  have S : tS E T (tFr κ L [] []) κ L f κ L f := tS_rf hw
  refine lv_aload_n X.1 X.2.1 d_Ce_shown_0 rfl (lv_at hl 0 rfl) ?_
  refine t_getr (ci := 4) X Y S k0 rfl i_Ce 3 (by decide) rfl (k1 := 13) (k2 := 4000) rfl rfl lk_Ce_30 (fun _ h9 => h9) d_Ce_shown_1 (fun b1 e1 k1 => ?_)
  refine lv_iconst (v := iI 0) X.1 X.2.1 d_Ce_shown_4 (by decide) ?_
  refine lv_iconst (v := iI 3) X.1 X.2.1 d_Ce_shown_5 (by decide) ?_
  refine t_ui (t_runV (As := [.int (iI 0), .int (iI 3)]) (rest := []) (n := 2) X Y S k1 hml hl.1 (c_By_field l D E T κ L f H.size b1 4000 k1 (by omega) 0 (by omega) (by omega) 3 (by omega) (by omega) S.1) (ok_k X Y hA KS KR) rfl kl_Ce_By_field ks_By_field kx_By_field ki_By_field ini_By ⟨rfl, rfl⟩ hd_By_field ⟨Nat.le_of_ble_eq_true rfl, Nat.le_of_ble_eq_true rfl⟩ rfl (Nat.le_of_ble_eq_true rfl) d_Ce_shown_6 ⟨Nat.le_of_ble_eq_true rfl, Nat.le_of_ble_eq_true rfl⟩) X Y hA (fun z2 H locs Y p2 => ?_)
  obtain ⟨l2, u2⟩ := p2
  refine lv_istore_n (lv' := [(2, .int (iI z2)), (0, .ref h), (1, .int (iI a1))]) X.1 X.2.1 d_Ce_shown_9 rfl hl (by decide) rfl (fun ls hl => ?_)
  refine lv_iconst (v := iI 0) X.1 X.2.1 d_Ce_shown_10 (by decide) ?_
  have J4 : ∀ (n6 : Nat) (z3 : Int) (H : Heap) (locs : List Loc) (ls : Array Slot), (16 - z3).toNat = n6 → (0 ≤ z3) → (z3 ≤ 16) → pH D cCl (pA L sz) s.heap L f H locs → tS E T (tFr κ L [] []) κ L f κ L f → lv_has ls 5 [(0, .ref h), (1, .int (iI a1)), (2, .int (iI z2)), (3, .int (iI z3))] → W p l e (kRm 3 112 0 0) s m AV below meth c H locs 0 0 QQ (F0 m 12 ls []) := by
    intro n6
    induction n6 using Nat.strongRecOn with
    | ind n6 ih5 =>
      intro z3 H locs ls hm7 l3 u3 Y S hl
      refine lv_iload_n X.1 X.2.1 d_Ce_shown_12 rfl (lv_at hl 3 rfl) ?_
      refine lv_bipush (v := iI 16) X.1 X.2.1 d_Ce_shown_13 (by decide) ?_
      refine z_icmp_ge (tgt := 74) X.1 X.2.1 d_Ce_shown_15 (by decide) ⟨by omega, by omega⟩ ⟨by omega, by omega⟩ (fun h8 => ?_) (fun h8 => ?_)
      · refine lv_iconst (v := iI (-1)) X.1 X.2.1 d_Ce_shown_74 (by decide) ?_
        exact c_reti hQQ X Y hr hlk ⟨rfl, rfl, (-1), rfl, ⟨by omega, by omega⟩⟩ d_Ce_shown_75
      · refine lv_aload_n X.1 X.2.1 d_Ce_shown_18 rfl (lv_at hl 0 rfl) ?_
        refine t_get0 (ci := 4) X Y S k0 rfl i_Ce 3 (by decide) rfl lk_Ce_30 (fun _ h9 => h9) d_Ce_shown_19 e1 ?_
        refine lv_iload_n X.1 X.2.1 d_Ce_shown_22 rfl (lv_at hl 2 rfl) ?_
        refine lv_iload_n X.1 X.2.1 d_Ce_shown_23 rfl (lv_at hl 3 rfl) ?_
        refine t_ui (t_runV (As := [.int (iI z2), .int (iI z3)]) (rest := []) (n := 2) X Y S k1 hml hl.1 (c_By_element l D E T κ L f H.size b1 4000 k1 (by omega) z2 (by omega) (by omega) z3 (by omega) (by omega) S.1) (ok_k X Y hA KS KR) rfl kl_Ce_By_element ks_By_element kx_By_element ki_By_element ini_By ⟨rfl, rfl⟩ hd_By_element ⟨Nat.le_of_ble_eq_true rfl, Nat.le_of_ble_eq_true rfl⟩ rfl (Nat.le_of_ble_eq_true rfl) d_Ce_shown_24 ⟨Nat.le_of_ble_eq_true rfl, Nat.le_of_ble_eq_true rfl⟩) X Y hA (fun z9 H locs Y p9 => ?_)
        obtain ⟨l9, u9⟩ := p9
        refine lv_istore (lv' := [(4, .int (iI z9)), (0, .ref h), (1, .int (iI a1)), (2, .int (iI z2)), (3, .int (iI z3))]) X.1 X.2.1 d_Ce_shown_27 hl (by decide) rfl (fun ls hl => ?_)
        refine lv_iload X.1 X.2.1 d_Ce_shown_29 (lv_at hl 0 rfl) ?_
        have J10 : ∀  (H : Heap) (locs : List Loc) (ls : Array Slot), pH D cCl (pA L sz) s.heap L f H locs → tS E T (tFr κ L [] []) κ L f κ L f → lv_has ls 5 [(0, .ref h), (1, .int (iI a1)), (2, .int (iI z2)), (3, .int (iI z153))] → W p l e (kRm 3 112 0 0) s m AV below meth c H locs 0 0 QQ (F0 m 68 ls []) := by
          intro  H locs ls  Y S hl
          refine lv_iinc (v := iI (z153 + 1)) (lv' := [(3, .int (iI (z153 + 1))), (0, .ref h), (1, .int (iI a1)), (2, .int (iI z2))]) X.1 X.2.1 d_Ce_shown_68 hl (k := 3) rfl ((iI_add _ _).trans (congrArg iI (by omega))) (by decide) rfl (fun ls hl => ?_)
          refine lv_goto (tgt := 12) X.1 X.2.1 d_Ce_shown_71 (by decide) ?_
          exact ih5 ((16 - (z153 + 1)).toNat) (by omega) (z153 + 1) _ _ _ rfl (by omega) (by omega) Y S (lv_sub hl [1, 2, 3, 0] rfl)
        refine z_if_lt (tgt := 68) X.1 X.2.1 d_Ce_shown_31 (by decide) ⟨by omega, by omega⟩ (fun h14 => ?_) (fun h14 => ?_)
        · exact J10  _ _ _  Y S (lv_sub hl [1, 2, 3, 4] rfl)
        · refine lv_aload_n X.1 X.2.1 d_Ce_shown_34 rfl (lv_at hl 1 rfl) ?_
          refine t_get0 (ci := 4) X Y S k0 rfl i_Ce 3 (by decide) rfl lk_Ce_30 (fun _ h9 => h9) d_Ce_shown_35 e1 ?_
          refine lv_aload_n X.1 X.2.1 d_Ce_shown_38 rfl (lv_at hl 1 rfl) ?_
          refine t_get0 (ci := 4) X Y S k0 rfl i_Ce 3 (by decide) rfl lk_Ce_30 (fun _ h9 => h9) d_Ce_shown_39 e1 ?_
          refine lv_iload X.1 X.2.1 d_Ce_shown_42 (lv_at hl 0 rfl) ?_
          refine lv_iconst (v := iI 1) X.1 X.2.1 d_Ce_shown_44 (by decide) ?_
          refine t_ui (t_runV (As := [.int (iI z9), .int (iI 1)]) (rest := [.ref b1]) (n := 2) X Y S k1 hml hl.1 (c_By_field l D E T κ L f H.size b1 4000 k1 (by omega) z9 (by omega) (by omega) 1 (by omega) (by omega) S.1) (ok_k X Y hA KS KR) rfl kl_Ce_By_field ks_By_field kx_By_field ki_By_field ini_By ⟨rfl, rfl⟩ hd_By_field ⟨Nat.le_of_ble_eq_true rfl, Nat.le_of_ble_eq_true rfl⟩ rfl (Nat.le_of_ble_eq_true rfl) d_Ce_shown_45 ⟨Nat.le_of_ble_eq_true rfl, Nat.le_of_ble_eq_true rfl⟩) X Y hA (fun z15 H locs Y p15 => ?_)
          obtain ⟨l15, u15⟩ := p15
          refine t_ul (t_runV (As := [.int (iI z15)]) (rest := []) (n := 1) X Y S k1 hml hl.1 (c_By_numberAt l D E T κ L f H.size b1 4000 k1 (by omega) z15 (by omega) (by omega) S.1) (ok_k X Y hA KS KR) rfl kl_Ce_By_numberAt ks_By_numberAt kx_By_numberAt ki_By_numberAt ini_By ⟨rfl, rfl⟩ hd_By_numberAt ⟨Nat.le_of_ble_eq_true rfl, Nat.le_of_ble_eq_true rfl⟩ rfl (Nat.le_of_ble_eq_true rfl) d_Ce_shown_48 ⟨Nat.le_of_ble_eq_true rfl, Nat.le_of_ble_eq_true rfl⟩) X Y hA (fun v16 H locs Y p16 => ?_)
          refine lv_iload_n X.1 X.2.1 d_Ce_shown_51 rfl (lv_at hl 2 rfl) ?_
          refine lv_i2l X.1 X.2.1 d_Ce_shown_52 rfl ?_
          refine t_anyl (fun v17 => ?_)
          refine W.lcmp X.1 X.2.1 d_Ce_shown_53 ?_
          refine t_u (fun z18 l18 u18 => ?_)
          refine z_if_ne (tgt := 68) X.1 X.2.1 d_Ce_shown_54 (by decide) ⟨by omega, by omega⟩ (fun h19 => ?_) (fun h19 => ?_)
          · exact J10  _ _ _  Y S (lv_sub hl [1, 2, 3, 4] rfl)
          · refine lv_aload_n X.1 X.2.1 d_Ce_shown_57 rfl (lv_at hl 1 rfl) ?_
            refine t_get0 (ci := 4) X Y S k0 rfl i_Ce 3 (by decide) rfl lk_Ce_30 (fun _ h9 => h9) d_Ce_shown_58 e1 ?_
            refine lv_iload X.1 X.2.1 d_Ce_shown_61 (lv_at hl 0 rfl) ?_
            refine lv_iconst (v := iI 2) X.1 X.2.1 d_Ce_shown_63 (by decide) ?_
            refine t_ui (t_runV (As := [.int (iI z9), .int (iI 2)]) (rest := []) (n := 2) X Y S k1 hml hl.1 (c_By_field l D E T κ L f H.size b1 4000 k1 (by omega) z9 (by omega) (by omega) 2 (by omega) (by omega) S.1) (ok_k X Y hA KS KR) rfl kl_Ce_By_field ks_By_field kx_By_field ki_By_field ini_By ⟨rfl, rfl⟩ hd_By_field ⟨Nat.le_of_ble_eq_true rfl, Nat.le_of_ble_eq_true rfl⟩ rfl (Nat.le_of_ble_eq_true rfl) d_Ce_shown_64 ⟨Nat.le_of_ble_eq_true rfl, Nat.le_of_ble_eq_true rfl⟩) X Y hA (fun z20 H locs Y p20 => ?_)
            obtain ⟨l20, u20⟩ := p20
            exact c_reti hQQ X Y hr hlk ⟨rfl, rfl, z20, rfl, ⟨by omega, by omega⟩⟩ d_Ce_shown_67
  refine lv_istore_n (lv' := [(3, .int (iI 0)), (2, .int (iI z2)), (0, .ref h), (1, .int (iI a1))]) X.1 X.2.1 d_Ce_shown_11 rfl hl (by decide) rfl (fun ls hl => ?_)
  exact J4 _ 0 _ _ _ rfl (by omega) (by omega) Y S (lv_sub hl [2, 3, 1, 0] rfl)
set_option maxHeartbeats 4000000 in
set_option maxRecDepth 100000 in
theorem c_Ce_ticketFlags (l : Launch) (D : va_G) (E : cE) (T : cT) (κ : tK) (L : List Nat) (f : pF) (sz : Nat) (h : Nat) (k0 : κ h = (14, 0)) (hw : tW E T κ L f) : Met l y_Ce_ticketFlags (k_Ce_ticketFlags :: lw_tg) (kRm 3 112 0 0) (va_Pc [.ref h] (kPre D E T L f sz)) (va_Qi (uPi L f (fun (z : Int) => (-2147483648) ≤ z ∧ z ≤ 2147483647)) (cPost D E (pA L sz)) (pA L sz)) 0 0 (pA L sz) := by
  refine k_enter (own := R_Ce) (by decide) rfl (Nat.le_of_ble_eq_true rfl) (fun p e s m below meth c ls AV QQ H locs hQQ X Y hA hin hr hlk hml hl KS KR => ?_)
  have hl : lv_has ls 1 [(0, .ref h)] := hl
  have S : tS E T (tFr κ L [] []) κ L f κ L f := tS_rf hw
  refine lv_aload_n X.1 X.2.1 d_Ce_ticketFlags_0 rfl (lv_at hl 0 rfl) ?_
  refine t_getr (ci := 4) X Y S k0 rfl i_Ce 1 (by decide) rfl (k1 := 15) (k2 := 0) rfl rfl lk_Ce_22 (fun _ h9 => h9) d_Ce_ticketFlags_1 (fun b1 e1 k1 => ?_)
  refine t_getr (ci := 5) X Y S k1 rfl i_Ga 1 (by decide) rfl (k1 := 13) (k2 := 4000) rfl rfl lk_Ce_140 (fun _ h9 => h9) d_Ce_ticketFlags_4 (fun b2 e2 k2 => ?_)
  refine lv_aload_n X.1 X.2.1 d_Ce_ticketFlags_7 rfl (lv_at hl 0 rfl) ?_
  refine t_get0 (ci := 4) X Y S k0 rfl i_Ce 1 (by decide) rfl lk_Ce_22 (fun _ h9 => h9) d_Ce_ticketFlags_8 e1 ?_
  refine t_get0 (ci := 5) X Y S k1 rfl i_Ga 1 (by decide) rfl lk_Ce_140 (fun _ h9 => h9) d_Ce_ticketFlags_11 e2 ?_
  refine lv_iconst (v := iI 0) X.1 X.2.1 d_Ce_ticketFlags_14 (by decide) ?_
  refine lv_iconst (v := iI 0) X.1 X.2.1 d_Ce_ticketFlags_15 (by decide) ?_
  refine t_ui (t_runV (As := [.int (iI 0), .int (iI 0)]) (rest := [.ref b2]) (n := 2) X Y S k2 hml hl.1 (c_By_field l D E T κ L f H.size b2 4000 k2 (by omega) 0 (by omega) (by omega) 0 (by omega) (by omega) S.1) (ok_k X Y hA KS KR) rfl kl_Ce_By_field ks_By_field kx_By_field ki_By_field ini_By ⟨rfl, rfl⟩ hd_By_field ⟨Nat.le_of_ble_eq_true rfl, Nat.le_of_ble_eq_true rfl⟩ rfl (Nat.le_of_ble_eq_true rfl) d_Ce_ticketFlags_16 ⟨Nat.le_of_ble_eq_true rfl, Nat.le_of_ble_eq_true rfl⟩) X Y hA (fun z3 H locs Y p3 => ?_)
  obtain ⟨l3, u3⟩ := p3
  refine t_ui (t_runV (As := [.int (iI z3)]) (rest := []) (n := 1) X Y S k2 hml hl.1 (c_By_bitsAt l D E T κ L f H.size b2 4000 k2 (by omega) z3 (by omega) (by omega) S.1) (ok_k X Y hA KS KR) rfl kl_Ce_By_bitsAt ks_By_bitsAt kx_By_bitsAt ki_By_bitsAt ini_By ⟨rfl, rfl⟩ hd_By_bitsAt ⟨Nat.le_of_ble_eq_true rfl, Nat.le_of_ble_eq_true rfl⟩ rfl (Nat.le_of_ble_eq_true rfl) d_Ce_ticketFlags_19 ⟨Nat.le_of_ble_eq_true rfl, Nat.le_of_ble_eq_true rfl⟩) X Y hA (fun z4 H locs Y p4 => ?_)
  obtain ⟨l4, u4⟩ := p4
  exact c_reti hQQ X Y hr hlk ⟨rfl, rfl, z4, rfl, ⟨by omega, by omega⟩⟩ d_Ce_ticketFlags_22
set_option maxHeartbeats 4000000 in
set_option maxRecDepth 100000 in
theorem c_Ce_judgeClient (l : Launch) (D : va_G) (E : cE) (T : cT) (κ : tK) (L : List Nat) (f : pF) (sz : Nat) (h : Nat) (k0 : κ h = (14, 0)) (a1 n1 : Nat) (k1 : κ a1 = (13, n1)) (x1 : n1 ≤ 12288) (a2 : Int) (l_a2 : (-1) ≤ a2) (u_a2 : a2 ≤ 20200) (hw : tW E T κ L f) : Met l y_Ce_judgeClient (k_Ce_judgeClient :: lw_tg) (kRm 5 158 0 0) (va_Pc [.ref h, .ref a1, .int (iI a2)] (kPre D E T L f sz)) (va_Qi (nPi E T [14] κ L f (fun (z : Int) (g : pF) => (-2147483648) ≤ z ∧ z ≤ 2147483647)) (cPost D E (pA L sz)) (pA L sz)) 0 0 (pA L sz) := by
  refine k_enter (own := R_Ce) (by decide) rfl (Nat.le_of_ble_eq_true rfl) (fun p e s m below meth c ls AV QQ H locs hQQ X Y hA hin hr hlk hml hl KS KR => ?_)
  have hl : lv_has ls 4 [(0, .ref h), (1, .ref a1), (2, .int (iI a2))] := hl
  have S : tS E T (tFr κ L [14] []) κ L f κ L f := tS_rf hw
  refine lv_aload_n X.1 X.2.1 d_Ce_judgeClient_0 rfl (lv_at hl 0 rfl) ?_
  refine t_getr (ci := 4) X Y S k0 rfl i_Ce 2 (by decide) rfl (k1 := 5) (k2 := 12) rfl rfl lk_Ce_26 (fun _ h9 => h9) d_Ce_judgeClient_1 (fun b1 e1 k1 => ?_)
  refine lv_aload_n X.1 X.2.1 d_Ce_judgeClient_4 rfl (lv_at hl 1 rfl) ?_
  refine lv_iload_n X.1 X.2.1 d_Ce_judgeClient_5 rfl (lv_at hl 2 rfl) ?_
  refine t_ui (x_runS (As := [.ref b1, .ref a1, .int (iI a2)]) (rest := []) (n := 3) X hml hl.1 (c_Pr_findNamed l D E T κ L f H.size b1 k1 a1 n1 k1 (by omega) a2 (by omega) (by omega) S.1) (ok_k X Y hA KS KR) kl_Ce_Pr_findNamed ks_Pr_findNamed ki_Pr_findNamed ini_Pr ⟨rfl, rfl⟩ hd_Pr_findNamed.2 ⟨Nat.le_of_ble_eq_true rfl, Nat.le_of_ble_eq_true rfl⟩ rfl (Nat.le_of_ble_eq_true rfl) d_Ce_judgeClient_6 ⟨Nat.le_of_ble_eq_true rfl, Nat.le_of_ble_eq_true rfl⟩) X Y hA (fun z2 H locs Y p2 => ?_)
  obtain ⟨l2, u2⟩ := p2
  refine lv_istore_n (lv' := [(3, .int (iI z2)), (0, .ref h), (1, .ref a1), (2, .int (iI a2))]) X.1 X.2.1 d_Ce_judgeClient_9 rfl hl (by decide) rfl (fun ls hl => ?_)
  refine lv_iload_n X.1 X.2.1 d_Ce_judgeClient_10 rfl (lv_at hl 0 rfl) ?_
  refine z_if_ge (tgt := 17) X.1 X.2.1 d_Ce_judgeClient_11 (by decide) ⟨by omega, by omega⟩ (fun h3 => ?_) (fun h3 => ?_)
  · refine lv_aload_n X.1 X.2.1 d_Ce_judgeClient_17 rfl (lv_at hl 1 rfl) ?_
    refine lv_aload_n X.1 X.2.1 d_Ce_judgeClient_18 rfl (lv_at hl 1 rfl) ?_
    refine t_get0 (ci := 4) X Y S k0 rfl i_Ce 2 (by decide) rfl lk_Ce_26 (fun _ h9 => h9) d_Ce_judgeClient_19 e1 ?_
    refine lv_iload_n X.1 X.2.1 d_Ce_judgeClient_22 rfl (lv_at hl 0 rfl) ?_
    refine t_aald X Y S k1 (fun h9 => h9) (t0 := 2) rfl (by omega) (by omega) (by omega) d_Ce_judgeClient_23 (fun b4 e4 k4 => ?_)
    refine t_put (ci := 4) X Y S k0 rfl i_Ce t_Ce t_Ce_ok n_Ce 10 (by decide) rfl lk_Ce_37 (fun _ h9 => h9) rfl (t_Ce_ok 10 (by decide)) rfl rfl ⟨_, rfl, k4⟩ (fun h9 => h9.2.1 (by rw [← (S.2.2.2 _ h9).2, k0]; decide)) d_Ce_judgeClient_24 (fun f5 H locs Y S w5 => ?_)
    refine lv_aload_n X.1 X.2.1 d_Ce_judgeClient_27 rfl (lv_at hl 1 rfl) ?_
    refine t_get0 (ci := 4) X Y S k0 rfl i_Ce 10 (by decide) rfl lk_Ce_37 (fun _ h9 => h9) d_Ce_judgeClient_28 w5.2.1 ?_
    refine lv_bipush (v := iI 32) X.1 X.2.1 d_Ce_judgeClient_31 (by decide) ?_
    refine t_ui (t_runV (As := [.int (iI 32)]) (rest := []) (n := 1) X Y S k4 hml hl.1 (c_Pr_is l D E T κ L f5 H.size b4 k4 32 (by omega) (by omega) S.1) (ok_k X Y hA KS KR) rfl kl_Ce_Pr_is ks_Pr_is kx_Pr_is ki_Pr_is ini_Pr ⟨rfl, rfl⟩ hd_Pr_is ⟨Nat.le_of_ble_eq_true rfl, Nat.le_of_ble_eq_true rfl⟩ rfl (Nat.le_of_ble_eq_true rfl) d_Ce_judgeClient_33 ⟨Nat.le_of_ble_eq_true rfl, Nat.le_of_ble_eq_true rfl⟩) X Y hA (fun z6 H locs Y p6 => ?_)
    obtain ⟨l6, u6⟩ := p6
    refine z_if_eq (tgt := 42) X.1 X.2.1 d_Ce_judgeClient_36 (by decide) ⟨by omega, by omega⟩ (fun h7 => ?_) (fun h7 => ?_)
    · refine lv_aload_n X.1 X.2.1 d_Ce_judgeClient_42 rfl (lv_at hl 1 rfl) ?_
      refine t_get0 (ci := 4) X Y S k0 rfl i_Ce 10 (by decide) rfl lk_Ce_37 (fun _ h9 => h9) d_Ce_judgeClient_43 w5.2.1 ?_
      refine lv_aload_n X.1 X.2.1 d_Ce_judgeClient_46 rfl (lv_at hl 1 rfl) ?_
      refine t_getr (ci := 4) X Y S k0 rfl i_Ce 0 (by decide) rfl (k1 := 21) (k2 := 0) rfl rfl lk_Ce_18 (fun _ h9 => h9) d_Ce_judgeClient_47 (fun b8 e8 k8 => ?_)
      refine t_geti (ci := 11) X Y S k8 rfl i_Va 0 (by decide) rfl lk_Ce_112 (fun _ h9 => h9) d_Ce_judgeClient_50 (fun z9 e9 l9 u9 => ?_)
      refine t_ui (t_runV (As := [.int (iI z9)]) (rest := []) (n := 1) X Y S k4 hml hl.1 (c_Pr_isOver l D E T κ L f5 H.size b4 k4 z9 (by omega) (by omega) S.1) (ok_k X Y hA KS KR) rfl kl_Ce_Pr_isOver ks_Pr_isOver kx_Pr_isOver ki_Pr_isOver ini_Pr ⟨rfl, rfl⟩ hd_Pr_isOver ⟨Nat.le_of_ble_eq_true rfl, Nat.le_of_ble_eq_true rfl⟩ rfl (Nat.le_of_ble_eq_true rfl) d_Ce_judgeClient_53 ⟨Nat.le_of_ble_eq_true rfl, Nat.le_of_ble_eq_true rfl⟩) X Y hA (fun z10 H locs Y p10 => ?_)
      obtain ⟨l10, u10⟩ := p10
      refine z_if_eq (tgt := 63) X.1 X.2.1 d_Ce_judgeClient_56 (by decide) ⟨by omega, by omega⟩ (fun h11 => ?_) (fun h11 => ?_)
      · refine lv_iconst (v := iI 0) X.1 X.2.1 d_Ce_judgeClient_63 (by decide) ?_
        exact c_reti hQQ X Y hr hlk ⟨rfl, S, 0, rfl, ⟨by omega, by omega⟩⟩ d_Ce_judgeClient_64
      · refine lv_iconst (v := iI 1) X.1 X.2.1 d_Ce_judgeClient_59 (by decide) ?_
        refine lv_goto (tgt := 64) X.1 X.2.1 d_Ce_judgeClient_60 (by decide) ?_
        exact c_reti hQQ X Y hr hlk ⟨rfl, S, 1, rfl, ⟨by omega, by omega⟩⟩ d_Ce_judgeClient_64
    · refine lv_bipush (v := iI 18) X.1 X.2.1 d_Ce_judgeClient_39 (by decide) ?_
      exact c_reti hQQ X Y hr hlk ⟨rfl, S, 18, rfl, ⟨by omega, by omega⟩⟩ d_Ce_judgeClient_41
  · refine lv_bipush (v := iI 6) X.1 X.2.1 d_Ce_judgeClient_14 (by decide) ?_
    exact c_reti hQQ X Y hr hlk ⟨rfl, S, 6, rfl, ⟨by omega, by omega⟩⟩ d_Ce_judgeClient_16
set_option maxHeartbeats 4000000 in
set_option maxRecDepth 100000 in
theorem c_Ce_judgeService (l : Launch) (D : va_G) (E : cE) (T : cT) (κ : tK) (L : List Nat) (f : pF) (sz : Nat) (h : Nat) (k0 : κ h = (14, 0)) (hw : tW E T κ L f) : Met l y_Ce_judgeService (k_Ce_judgeService :: lw_tg) (kRm 5 158 0 0) (va_Pc [.ref h] (kPre D E T L f sz)) (va_Qi (nPi E T [14] κ L f (fun (z : Int) (g : pF) => (-2147483648) ≤ z ∧ z ≤ 2147483647)) (cPost D E (pA L sz)) (pA L sz)) 0 0 (pA L sz) := by
  refine k_enter (own := R_Ce) (by decide) rfl (Nat.le_of_ble_eq_true rfl) (fun p e s m below meth c ls AV QQ H locs hQQ X Y hA hin hr hlk hml hl KS KR => ?_)
  have hl : lv_has ls 2 [(0, .ref h)] := hl
  have S : tS E T (tFr κ L [14] []) κ L f κ L f := tS_rf hw
  refine lv_aload_n X.1 X.2.1 d_Ce_judgeService_0 rfl (lv_at hl 0 rfl) ?_
  refine t_getr (ci := 4) X Y S k0 rfl i_Ce 2 (by decide) rfl (k1 := 5) (k2 := 12) rfl rfl lk_Ce_26 (fun _ h9 => h9) d_Ce_judgeService_1 (fun b1 e1 k1 => ?_)
  refine lv_aload_n X.1 X.2.1 d_Ce_judgeService_4 rfl (lv_at hl 0 rfl) ?_
  refine t_getr (ci := 4) X Y S k0 rfl i_Ce 3 (by decide) rfl (k1 := 13) (k2 := 4000) rfl rfl lk_Ce_30 (fun _ h9 => h9) d_Ce_judgeService_5 (fun b2 e2 k2 => ?_)
  refine lv_aload_n X.1 X.2.1 d_Ce_judgeService_8 rfl (lv_at hl 0 rfl) ?_
  refine t_get0 (ci := 4) X Y S k0 rfl i_Ce 3 (by decide) rfl lk_Ce_30 (fun _ h9 => h9) d_Ce_judgeService_9 e2 ?_
  refine lv_aload_n X.1 X.2.1 d_Ce_judgeService_12 rfl (lv_at hl 0 rfl) ?_
  refine t_geti (ci := 4) X Y S k0 rfl i_Ce 8 (by decide) rfl lk_Ce_81 (fun _ h9 => h9) d_Ce_judgeService_13 (fun z3 e3 l3 u3 => ?_)
  refine lv_iconst (v := iI 3) X.1 X.2.1 d_Ce_judgeService_16 (by decide) ?_
  refine t_ui (t_runV (As := [.int (iI z3), .int (iI 3)]) (rest := [.ref b2, .ref b1]) (n := 2) X Y S k2 hml hl.1 (c_By_field l D E T κ L f H.size b2 4000 k2 (by omega) z3 (by omega) (by omega) 3 (by omega) (by omega) S.1) (ok_k X Y hA KS KR) rfl kl_Ce_By_field ks_By_field kx_By_field ki_By_field ini_By ⟨rfl, rfl⟩ hd_By_field ⟨Nat.le_of_ble_eq_true rfl, Nat.le_of_ble_eq_true rfl⟩ rfl (Nat.le_of_ble_eq_true rfl) d_Ce_judgeService_17 ⟨Nat.le_of_ble_eq_true rfl, Nat.le_of_ble_eq_true rfl⟩) X Y hA (fun z4 H locs Y p4 => ?_)
  obtain ⟨l4, u4⟩ := p4
  refine t_ui (x_runS (As := [.ref b1, .ref b2, .int (iI z4)]) (rest := []) (n := 3) X hml hl.1 (c_Pr_findNamed l D E T κ L f H.size b1 k1 b2 4000 k2 (by omega) z4 (by omega) (by omega) S.1) (ok_k X Y hA KS KR) kl_Ce_Pr_findNamed ks_Pr_findNamed ki_Pr_findNamed ini_Pr ⟨rfl, rfl⟩ hd_Pr_findNamed.2 ⟨Nat.le_of_ble_eq_true rfl, Nat.le_of_ble_eq_true rfl⟩ rfl (Nat.le_of_ble_eq_true rfl) d_Ce_judgeService_20 ⟨Nat.le_of_ble_eq_true rfl, Nat.le_of_ble_eq_true rfl⟩) X Y hA (fun z5 H locs Y p5 => ?_)
  obtain ⟨l5, u5⟩ := p5
  refine lv_istore_n (lv' := [(1, .int (iI z5)), (0, .ref h)]) X.1 X.2.1 d_Ce_judgeService_23 rfl hl (by decide) rfl (fun ls hl => ?_)
  refine lv_iload_n X.1 X.2.1 d_Ce_judgeService_24 rfl (lv_at hl 0 rfl) ?_
  refine z_if_ge (tgt := 31) X.1 X.2.1 d_Ce_judgeService_25 (by decide) ⟨by omega, by omega⟩ (fun h6 => ?_) (fun h6 => ?_)
  · refine lv_aload_n X.1 X.2.1 d_Ce_judgeService_31 rfl (lv_at hl 1 rfl) ?_
    refine lv_aload_n X.1 X.2.1 d_Ce_judgeService_32 rfl (lv_at hl 1 rfl) ?_
    refine t_get0 (ci := 4) X Y S k0 rfl i_Ce 2 (by decide) rfl lk_Ce_26 (fun _ h9 => h9) d_Ce_judgeService_33 e1 ?_
    refine lv_iload_n X.1 X.2.1 d_Ce_judgeService_36 rfl (lv_at hl 0 rfl) ?_
    refine t_aald X Y S k1 (fun h9 => h9) (t0 := 2) rfl (by omega) (by omega) (by omega) d_Ce_judgeService_37 (fun b7 e7 k7 => ?_)
    refine t_put (ci := 4) X Y S k0 rfl i_Ce t_Ce t_Ce_ok n_Ce 11 (by decide) rfl lk_Ce_41 (fun _ h9 => h9) rfl (t_Ce_ok 11 (by decide)) rfl rfl ⟨_, rfl, k7⟩ (fun h9 => h9.2.1 (by rw [← (S.2.2.2 _ h9).2, k0]; decide)) d_Ce_judgeService_38 (fun f8 H locs Y S w8 => ?_)
    refine lv_aload_n X.1 X.2.1 d_Ce_judgeService_41 rfl (lv_at hl 1 rfl) ?_
    refine t_get0 (ci := 4) X Y S k0 rfl i_Ce 11 (by decide) rfl lk_Ce_41 (fun _ h9 => h9) d_Ce_judgeService_42 w8.2.1 ?_
    refine lv_bipush (v := iI 48) X.1 X.2.1 d_Ce_judgeService_45 (by decide) ?_
    refine t_ui (t_runV (As := [.int (iI 48)]) (rest := []) (n := 1) X Y S k7 hml hl.1 (c_Pr_is l D E T κ L f8 H.size b7 k7 48 (by omega) (by omega) S.1) (ok_k X Y hA KS KR) rfl kl_Ce_Pr_is ks_Pr_is kx_Pr_is ki_Pr_is ini_Pr ⟨rfl, rfl⟩ hd_Pr_is ⟨Nat.le_of_ble_eq_true rfl, Nat.le_of_ble_eq_true rfl⟩ rfl (Nat.le_of_ble_eq_true rfl) d_Ce_judgeService_47 ⟨Nat.le_of_ble_eq_true rfl, Nat.le_of_ble_eq_true rfl⟩) X Y hA (fun z9 H locs Y p9 => ?_)
    obtain ⟨l9, u9⟩ := p9
    refine z_if_eq (tgt := 56) X.1 X.2.1 d_Ce_judgeService_50 (by decide) ⟨by omega, by omega⟩ (fun h10 => ?_) (fun h10 => ?_)
    · refine lv_aload_n X.1 X.2.1 d_Ce_judgeService_56 rfl (lv_at hl 1 rfl) ?_
      refine t_get0 (ci := 4) X Y S k0 rfl i_Ce 11 (by decide) rfl lk_Ce_41 (fun _ h9 => h9) d_Ce_judgeService_57 w8.2.1 ?_
      refine lv_aload_n X.1 X.2.1 d_Ce_judgeService_60 rfl (lv_at hl 1 rfl) ?_
      refine t_getr (ci := 4) X Y S k0 rfl i_Ce 0 (by decide) rfl (k1 := 21) (k2 := 0) rfl rfl lk_Ce_18 (fun _ h9 => h9) d_Ce_judgeService_61 (fun b11 e11 k11 => ?_)
      refine t_geti (ci := 11) X Y S k11 rfl i_Va 0 (by decide) rfl lk_Ce_112 (fun _ h9 => h9) d_Ce_judgeService_64 (fun z12 e12 l12 u12 => ?_)
      refine t_ui (t_runV (As := [.int (iI z12)]) (rest := []) (n := 1) X Y S k7 hml hl.1 (c_Pr_isOver l D E T κ L f8 H.size b7 k7 z12 (by omega) (by omega) S.1) (ok_k X Y hA KS KR) rfl kl_Ce_Pr_isOver ks_Pr_isOver kx_Pr_isOver ki_Pr_isOver ini_Pr ⟨rfl, rfl⟩ hd_Pr_isOver ⟨Nat.le_of_ble_eq_true rfl, Nat.le_of_ble_eq_true rfl⟩ rfl (Nat.le_of_ble_eq_true rfl) d_Ce_judgeService_67 ⟨Nat.le_of_ble_eq_true rfl, Nat.le_of_ble_eq_true rfl⟩) X Y hA (fun z13 H locs Y p13 => ?_)
      obtain ⟨l13, u13⟩ := p13
      refine z_if_eq (tgt := 77) X.1 X.2.1 d_Ce_judgeService_70 (by decide) ⟨by omega, by omega⟩ (fun h14 => ?_) (fun h14 => ?_)
      · refine lv_iconst (v := iI 0) X.1 X.2.1 d_Ce_judgeService_77 (by decide) ?_
        exact c_reti hQQ X Y hr hlk ⟨rfl, S, 0, rfl, ⟨by omega, by omega⟩⟩ d_Ce_judgeService_78
      · refine lv_iconst (v := iI 2) X.1 X.2.1 d_Ce_judgeService_73 (by decide) ?_
        refine lv_goto (tgt := 78) X.1 X.2.1 d_Ce_judgeService_74 (by decide) ?_
        exact c_reti hQQ X Y hr hlk ⟨rfl, S, 2, rfl, ⟨by omega, by omega⟩⟩ d_Ce_judgeService_78
    · refine lv_bipush (v := iI 12) X.1 X.2.1 d_Ce_judgeService_53 (by decide) ?_
      exact c_reti hQQ X Y hr hlk ⟨rfl, S, 12, rfl, ⟨by omega, by omega⟩⟩ d_Ce_judgeService_55
  · refine lv_bipush (v := iI 7) X.1 X.2.1 d_Ce_judgeService_28 (by decide) ?_
    exact c_reti hQQ X Y hr hlk ⟨rfl, S, 7, rfl, ⟨by omega, by omega⟩⟩ d_Ce_judgeService_30
set_option maxHeartbeats 4000000 in
set_option maxRecDepth 100000 in
theorem c_Ce_isWanted (l : Launch) (D : va_G) (E : cE) (T : cT) (κ : tK) (L : List Nat) (f : pF) (sz : Nat) (h : Nat) (k0 : κ h = (14, 0)) (a1 : Int) (l_a1 : (-2147483648) ≤ a1) (u_a1 : a1 ≤ 2147483647) (hw : tW E T κ L f) : Met l y_Ce_isWanted (k_Ce_isWanted :: lw_tg) (kRm 3 112 0 0) (va_Pc [.ref h, .int (iI a1)] (kPre D E T L f sz)) (va_Qi (uPi L f (fun (z : Int) => 0 ≤ z ∧ z ≤ 1)) (cPost D E (pA L sz)) (pA L sz)) 0 0 (pA L sz) := by
  refine k_enter (own := R_Ce) (by decide) rfl (Nat.le_of_ble_eq_true rfl) (fun p e s m below meth c ls AV QQ H locs hQQ X Y hA hin hr hlk hml hl KS KR => ?_)
  have hl : lv_has ls 5 [(0, .ref h), (1, .int (iI a1))] := hl
  have S : tS E T (tFr κ L [] []) κ L f κ L f := tS_rf hw
  refine lv_aload_n X.1 X.2.1 d_Ce_isWanted_0 rfl (lv_at hl 0 rfl) ?_
  refine t_getr (ci := 4) X Y S k0 rfl i_Ce 3 (by decide) rfl (k1 := 13) (k2 := 4000) rfl rfl lk_Ce_30 (fun _ h9 => h9) d_Ce_isWanted_1 (fun b1 e1 k1 => ?_)
  refine lv_aload_n X.1 X.2.1 d_Ce_isWanted_4 rfl (lv_at hl 0 rfl) ?_
  refine t_geti (ci := 4) X Y S k0 rfl i_Ce 8 (by decide) rfl lk_Ce_81 (fun _ h9 => h9) d_Ce_isWanted_5 (fun z2 e2 l2 u2 => ?_)
  refine lv_bipush (v := iI 8) X.1 X.2.1 d_Ce_isWanted_8 (by decide) ?_
  refine t_ui (t_runV (As := [.int (iI z2), .int (iI 8)]) (rest := []) (n := 2) X Y S k1 hml hl.1 (c_By_field l D E T κ L f H.size b1 4000 k1 (by omega) z2 (by omega) (by omega) 8 (by omega) (by omega) S.1) (ok_k X Y hA KS KR) rfl kl_Ce_By_field ks_By_field kx_By_field ki_By_field ini_By ⟨rfl, rfl⟩ hd_By_field ⟨Nat.le_of_ble_eq_true rfl, Nat.le_of_ble_eq_true rfl⟩ rfl (Nat.le_of_ble_eq_true rfl) d_Ce_isWanted_10 ⟨Nat.le_of_ble_eq_true rfl, Nat.le_of_ble_eq_true rfl⟩) X Y hA (fun z3 H locs Y p3 => ?_)
  obtain ⟨l3, u3⟩ := p3
  refine lv_istore_n (lv' := [(2, .int (iI z3)), (0, .ref h), (1, .int (iI a1))]) X.1 X.2.1 d_Ce_isWanted_13 rfl hl (by decide) rfl (fun ls hl => ?_)
  refine lv_iconst (v := iI 0) X.1 X.2.1 d_Ce_isWanted_14 (by decide) ?_
  have J5 : ∀ (n7 : Nat) (z4 : Int) (H : Heap) (locs : List Loc) (ls : Array Slot), (16 - z4).toNat = n7 → (0 ≤ z4) → (z4 ≤ 16) → pH D cCl (pA L sz) s.heap L f H locs → tS E T (tFr κ L [] []) κ L f κ L f → lv_has ls 5 [(0, .ref h), (1, .int (iI a1)), (2, .int (iI z3)), (3, .int (iI z4))] → W p l e (kRm 3 112 0 0) s m AV below meth c H locs 0 0 QQ (F0 m 16 ls []) := by
    intro n7
    induction n7 using Nat.strongRecOn with
    | ind n7 ih6 =>
      intro z4 H locs ls hm8 l4 u4 Y S hl
      refine lv_iload_n X.1 X.2.1 d_Ce_isWanted_16 rfl (lv_at hl 3 rfl) ?_
      refine lv_bipush (v := iI 16) X.1 X.2.1 d_Ce_isWanted_17 (by decide) ?_
      refine z_icmp_ge (tgt := 61) X.1 X.2.1 d_Ce_isWanted_19 (by decide) ⟨by omega, by omega⟩ ⟨by omega, by omega⟩ (fun h9 => ?_) (fun h9 => ?_)
      · refine lv_iconst (v := iI 0) X.1 X.2.1 d_Ce_isWanted_61 (by decide) ?_
        exact c_retz hQQ X Y hr hlk (iI_bool (by omega) (by omega)).1 ⟨rfl, rfl, 0, rfl, ⟨by omega, by omega⟩⟩ d_Ce_isWanted_62
      · refine lv_aload_n X.1 X.2.1 d_Ce_isWanted_22 rfl (lv_at hl 0 rfl) ?_
        refine t_get0 (ci := 4) X Y S k0 rfl i_Ce 3 (by decide) rfl lk_Ce_30 (fun _ h9 => h9) d_Ce_isWanted_23 e1 ?_
        refine lv_iload_n X.1 X.2.1 d_Ce_isWanted_26 rfl (lv_at hl 2 rfl) ?_
        refine lv_iload_n X.1 X.2.1 d_Ce_isWanted_27 rfl (lv_at hl 3 rfl) ?_
        refine t_ui (t_runV (As := [.int (iI z3), .int (iI z4)]) (rest := []) (n := 2) X Y S k1 hml hl.1 (c_By_element l D E T κ L f H.size b1 4000 k1 (by omega) z3 (by omega) (by omega) z4 (by omega) (by omega) S.1) (ok_k X Y hA KS KR) rfl kl_Ce_By_element ks_By_element kx_By_element ki_By_element ini_By ⟨rfl, rfl⟩ hd_By_element ⟨Nat.le_of_ble_eq_true rfl, Nat.le_of_ble_eq_true rfl⟩ rfl (Nat.le_of_ble_eq_true rfl) d_Ce_isWanted_28 ⟨Nat.le_of_ble_eq_true rfl, Nat.le_of_ble_eq_true rfl⟩) X Y hA (fun z10 H locs Y p10 => ?_)
        obtain ⟨l10, u10⟩ := p10
        refine lv_istore (lv' := [(4, .int (iI z10)), (0, .ref h), (1, .int (iI a1)), (2, .int (iI z3)), (3, .int (iI z4))]) X.1 X.2.1 d_Ce_isWanted_31 hl (by decide) rfl (fun ls hl => ?_)
        refine lv_iload X.1 X.2.1 d_Ce_isWanted_33 (lv_at hl 0 rfl) ?_
        have J11 : ∀  (H : Heap) (locs : List Loc) (ls : Array Slot), pH D cCl (pA L sz) s.heap L f H locs → tS E T (tFr κ L [] []) κ L f κ L f → lv_has ls 5 [(0, .ref h), (1, .int (iI a1)), (2, .int (iI z3)), (3, .int (iI z124))] → W p l e (kRm 3 112 0 0) s m AV below meth c H locs 0 0 QQ (F0 m 55 ls []) := by
          intro  H locs ls  Y S hl
          refine lv_iinc (v := iI (z124 + 1)) (lv' := [(3, .int (iI (z124 + 1))), (0, .ref h), (1, .int (iI a1)), (2, .int (iI z3))]) X.1 X.2.1 d_Ce_isWanted_55 hl (k := 3) rfl ((iI_add _ _).trans (congrArg iI (by omega))) (by decide) rfl (fun ls hl => ?_)
          refine lv_goto (tgt := 16) X.1 X.2.1 d_Ce_isWanted_58 (by decide) ?_
          exact ih6 ((16 - (z124 + 1)).toNat) (by omega) (z124 + 1) _ _ _ rfl (by omega) (by omega) Y S (lv_sub hl [1, 2, 3, 0] rfl)
        refine z_if_lt (tgt := 55) X.1 X.2.1 d_Ce_isWanted_35 (by decide) ⟨by omega, by omega⟩ (fun h15 => ?_) (fun h15 => ?_)
        · exact J11  _ _ _  Y S (lv_sub hl [1, 2, 3, 4] rfl)
        · refine lv_aload_n X.1 X.2.1 d_Ce_isWanted_38 rfl (lv_at hl 1 rfl) ?_
          refine t_get0 (ci := 4) X Y S k0 rfl i_Ce 3 (by decide) rfl lk_Ce_30 (fun _ h9 => h9) d_Ce_isWanted_39 e1 ?_
          refine lv_iload X.1 X.2.1 d_Ce_isWanted_42 (lv_at hl 0 rfl) ?_
          refine t_ul (t_runV (As := [.int (iI z10)]) (rest := []) (n := 1) X Y S k1 hml hl.1 (c_By_numberAt l D E T κ L f H.size b1 4000 k1 (by omega) z10 (by omega) (by omega) S.1) (ok_k X Y hA KS KR) rfl kl_Ce_By_numberAt ks_By_numberAt kx_By_numberAt ki_By_numberAt ini_By ⟨rfl, rfl⟩ hd_By_numberAt ⟨Nat.le_of_ble_eq_true rfl, Nat.le_of_ble_eq_true rfl⟩ rfl (Nat.le_of_ble_eq_true rfl) d_Ce_isWanted_44 ⟨Nat.le_of_ble_eq_true rfl, Nat.le_of_ble_eq_true rfl⟩) X Y hA (fun v16 H locs Y p16 => ?_)
          refine lv_iload_n X.1 X.2.1 d_Ce_isWanted_47 rfl (lv_at hl 2 rfl) ?_
          refine lv_i2l X.1 X.2.1 d_Ce_isWanted_48 rfl ?_
          refine t_anyl (fun v17 => ?_)
          refine W.lcmp X.1 X.2.1 d_Ce_isWanted_49 ?_
          refine t_u (fun z18 l18 u18 => ?_)
          refine z_if_ne (tgt := 55) X.1 X.2.1 d_Ce_isWanted_50 (by decide) ⟨by omega, by omega⟩ (fun h19 => ?_) (fun h19 => ?_)
          · exact J11  _ _ _  Y S (lv_sub hl [1, 2, 3, 4] rfl)
          · refine lv_iconst (v := iI 1) X.1 X.2.1 d_Ce_isWanted_53 (by decide) ?_
            exact c_retz hQQ X Y hr hlk (iI_bool (by omega) (by omega)).1 ⟨rfl, rfl, 1, rfl, ⟨by omega, by omega⟩⟩ d_Ce_isWanted_54
  refine lv_istore_n (lv' := [(3, .int (iI 0)), (2, .int (iI z3)), (0, .ref h), (1, .int (iI a1))]) X.1 X.2.1 d_Ce_isWanted_15 rfl hl (by decide) rfl (fun ls hl => ?_)
  exact J5 _ 0 _ _ _ rfl (by omega) (by omega) Y S (lv_sub hl [2, 3, 1, 0] rfl)
set_option maxHeartbeats 4000000 in
set_option maxRecDepth 100000 in
theorem c_Ce_findType (l : Launch) (D : va_G) (E : cE) (T : cT) (κ : tK) (L : List Nat) (f : pF) (sz : Nat) (h : Nat) (k0 : κ h = (14, 0)) (hw : tW E T κ L f) : Met l y_Ce_findType (k_Ce_findType :: lw_tg) (kRm 3 112 0 0) (va_Pc [.ref h] (kPre D E T L f sz)) (va_Qi (nPi E T [14] κ L f (fun (z : Int) (g : pF) => 0 ≤ z ∧ z ≤ 1)) (cPost D E (pA L sz)) (pA L sz)) 0 0 (pA L sz) := by
  refine k_enter (own := R_Ce) (by decide) rfl (Nat.le_of_ble_eq_true rfl) (fun p e s m below meth c ls AV QQ H locs hQQ X Y hA hin hr hlk hml hl KS KR => ?_)
  have hl : lv_has ls 6 [(0, .ref h)] := hl
  have S : tS E T (tFr κ L [14] []) κ L f κ L f := tS_rf hw
  refine lv_aload_n X.1 X.2.1 d_Ce_findType_0 rfl (lv_at hl 0 rfl) ?_
  refine t_getr (ci := 4) X Y S k0 rfl i_Ce 3 (by decide) rfl (k1 := 13) (k2 := 4000) rfl rfl lk_Ce_30 (fun _ h9 => h9) d_Ce_findType_1 (fun b1 e1 k1 => ?_)
  refine lv_aload_n X.1 X.2.1 d_Ce_findType_4 rfl (lv_at hl 0 rfl) ?_
  refine t_geti (ci := 4) X Y S k0 rfl i_Ce 8 (by decide) rfl lk_Ce_81 (fun _ h9 => h9) d_Ce_findType_5 (fun z2 e2 l2 u2 => ?_)
  refine lv_bipush (v := iI 8) X.1 X.2.1 d_Ce_findType_8 (by decide) ?_
  refine t_ui (t_runV (As := [.int (iI z2), .int (iI 8)]) (rest := []) (n := 2) X Y S k1 hml hl.1 (c_By_field l D E T κ L f H.size b1 4000 k1 (by omega) z2 (by omega) (by omega) 8 (by omega) (by omega) S.1) (ok_k X Y hA KS KR) rfl kl_Ce_By_field ks_By_field kx_By_field ki_By_field ini_By ⟨rfl, rfl⟩ hd_By_field ⟨Nat.le_of_ble_eq_true rfl, Nat.le_of_ble_eq_true rfl⟩ rfl (Nat.le_of_ble_eq_true rfl) d_Ce_findType_10 ⟨Nat.le_of_ble_eq_true rfl, Nat.le_of_ble_eq_true rfl⟩) X Y hA (fun z3 H locs Y p3 => ?_)
  obtain ⟨l3, u3⟩ := p3
  refine lv_istore_n (lv' := [(1, .int (iI z3)), (0, .ref h)]) X.1 X.2.1 d_Ce_findType_13 rfl hl (by decide) rfl (fun ls hl => ?_)
  refine lv_iconst (v := iI 0) X.1 X.2.1 d_Ce_findType_14 (by decide) ?_
  have J5 : ∀ (n7 : Nat) (z4 : Int) (H : Heap) (locs : List Loc) (ls : Array Slot), (16 - z4).toNat = n7 → (0 ≤ z4) → (z4 ≤ 16) → pH D cCl (pA L sz) s.heap L f H locs → tS E T (tFr κ L [14] []) κ L f κ L f → lv_has ls 6 [(0, .ref h), (1, .int (iI z3)), (2, .int (iI z4))] → W p l e (kRm 3 112 0 0) s m AV below meth c H locs 0 0 QQ (F0 m 16 ls []) := by
    intro n7
    induction n7 using Nat.strongRecOn with
    | ind n7 ih6 =>
      intro z4 H locs ls hm8 l4 u4 Y S hl
      refine lv_iload_n X.1 X.2.1 d_Ce_findType_16 rfl (lv_at hl 2 rfl) ?_
      refine lv_bipush (v := iI 16) X.1 X.2.1 d_Ce_findType_17 (by decide) ?_
      refine z_icmp_ge (tgt := 83) X.1 X.2.1 d_Ce_findType_19 (by decide) ⟨by omega, by omega⟩ ⟨by omega, by omega⟩ (fun h9 => ?_) (fun h9 => ?_)
      · refine lv_iconst (v := iI 0) X.1 X.2.1 d_Ce_findType_83 (by decide) ?_
        exact c_retz hQQ X Y hr hlk (iI_bool (by omega) (by omega)).1 ⟨rfl, S, 0, rfl, ⟨by omega, by omega⟩⟩ d_Ce_findType_84
      · refine lv_aload_n X.1 X.2.1 d_Ce_findType_22 rfl (lv_at hl 0 rfl) ?_
        refine t_get0 (ci := 4) X Y S k0 rfl i_Ce 3 (by decide) rfl lk_Ce_30 (fun _ h9 => h9) d_Ce_findType_23 e1 ?_
        refine lv_iload_n X.1 X.2.1 d_Ce_findType_26 rfl (lv_at hl 1 rfl) ?_
        refine lv_iload_n X.1 X.2.1 d_Ce_findType_27 rfl (lv_at hl 2 rfl) ?_
        refine t_ui (t_runV (As := [.int (iI z3), .int (iI z4)]) (rest := []) (n := 2) X Y S k1 hml hl.1 (c_By_element l D E T κ L f H.size b1 4000 k1 (by omega) z3 (by omega) (by omega) z4 (by omega) (by omega) S.1) (ok_k X Y hA KS KR) rfl kl_Ce_By_element ks_By_element kx_By_element ki_By_element ini_By ⟨rfl, rfl⟩ hd_By_element ⟨Nat.le_of_ble_eq_true rfl, Nat.le_of_ble_eq_true rfl⟩ rfl (Nat.le_of_ble_eq_true rfl) d_Ce_findType_28 ⟨Nat.le_of_ble_eq_true rfl, Nat.le_of_ble_eq_true rfl⟩) X Y hA (fun z10 H locs Y p10 => ?_)
        obtain ⟨l10, u10⟩ := p10
        refine lv_istore_n (lv' := [(3, .int (iI z10)), (0, .ref h), (1, .int (iI z3)), (2, .int (iI z4))]) X.1 X.2.1 d_Ce_findType_31 rfl hl (by decide) rfl (fun ls hl => ?_)
        refine lv_iload_n X.1 X.2.1 d_Ce_findType_32 rfl (lv_at hl 0 rfl) ?_
        have J12 : ∀ (v11 : Int64) (H : Heap) (locs : List Loc) (ls : Array Slot), pH D cCl (pA L sz) s.heap L f H locs → tS E T (tFr κ L [14] []) κ L f κ L f → lv_has ls 6 [(0, .ref h), (1, .int (iI z3)), (2, .int (iI z214))] → W p l e (kRm 3 112 0 0) s m AV below meth c H locs 0 0 QQ (F0 m 48 ls [.long v11]) := by
          intro v11 H locs ls  Y S hl
          refine lv_lstore (lv' := [(4, .long v11), (0, .ref h), (1, .int (iI z3)), (2, .int (iI z214))]) X.1 X.2.1 d_Ce_findType_48 hl (by decide) rfl (fun ls hl => ?_)
          refine lv_lload X.1 X.2.1 d_Ce_findType_50 (lv_at hl 0 rfl) ?_
          refine lv_ldc2 (v := (17)) X.1 X.2.1 X.2.2.2.1 (X.2.2.1 _ cl_Ce_153) d_Ce_findType_52 ?_
          refine W.lcmp X.1 X.2.1 d_Ce_findType_55 ?_
          refine t_u (fun z16 l16 u16 => ?_)
          refine z_if_eq (tgt := 68) X.1 X.2.1 d_Ce_findType_56 (by decide) ⟨by omega, by omega⟩ (fun h17 => ?_) (fun h17 => ?_)
          · refine lv_aload_n X.1 X.2.1 d_Ce_findType_68 rfl (lv_at hl 1 rfl) ?_
            refine lv_lload X.1 X.2.1 d_Ce_findType_69 (lv_at hl 0 rfl) ?_
            refine lv_l2i X.1 X.2.1 d_Ce_findType_71 rfl ?_
            refine t_u (fun z18 l18 u18 => ?_)
            refine t_put (ci := 4) X Y S k0 rfl i_Ce t_Ce t_Ce_ok n_Ce 12 (by decide) rfl lk_Ce_157 (fun _ h9 => h9) rfl (t_Ce_ok 12 (by decide)) rfl rfl ⟨_, rfl, by omega, by omega⟩ (fun h9 => h9.2.1 (by rw [← (S.2.2.2 _ h9).2, k0]; decide)) d_Ce_findType_72 (fun f19 H locs Y S w19 => ?_)
            refine lv_iconst (v := iI 1) X.1 X.2.1 d_Ce_findType_75 (by decide) ?_
            exact c_retz hQQ X Y hr hlk (iI_bool (by omega) (by omega)).1 ⟨rfl, S, 1, rfl, ⟨by omega, by omega⟩⟩ d_Ce_findType_76
          · refine lv_lload X.1 X.2.1 d_Ce_findType_59 (lv_at hl 0 rfl) ?_
            refine lv_ldc2 (v := (18)) X.1 X.2.1 X.2.2.2.1 (X.2.2.1 _ cl_Ce_155) d_Ce_findType_61 ?_
            refine W.lcmp X.1 X.2.1 d_Ce_findType_64 ?_
            refine t_u (fun z20 l20 u20 => ?_)
            refine z_if_ne (tgt := 77) X.1 X.2.1 d_Ce_findType_65 (by decide) ⟨by omega, by omega⟩ (fun h21 => ?_) (fun h21 => ?_)
            · refine lv_iinc (v := iI (z214 + 1)) (lv' := [(2, .int (iI (z214 + 1))), (4, .long v11), (0, .ref h), (1, .int (iI z3))]) X.1 X.2.1 d_Ce_findType_77 hl (k := 3) rfl ((iI_add _ _).trans (congrArg iI (by omega))) (by decide) rfl (fun ls hl => ?_)
              refine lv_goto (tgt := 16) X.1 X.2.1 d_Ce_findType_80 (by decide) ?_
              exact ih6 ((16 - (z214 + 1)).toNat) (by omega) (z214 + 1) _ _ _ rfl (by omega) (by omega) Y S (lv_sub hl [2, 3, 0] rfl)
            · refine lv_aload_n X.1 X.2.1 d_Ce_findType_68 rfl (lv_at hl 1 rfl) ?_
              refine lv_lload X.1 X.2.1 d_Ce_findType_69 (lv_at hl 0 rfl) ?_
              refine lv_l2i X.1 X.2.1 d_Ce_findType_71 rfl ?_
              refine t_u (fun z22 l22 u22 => ?_)
              refine t_put (ci := 4) X Y S k0 rfl i_Ce t_Ce t_Ce_ok n_Ce 12 (by decide) rfl lk_Ce_157 (fun _ h9 => h9) rfl (t_Ce_ok 12 (by decide)) rfl rfl ⟨_, rfl, by omega, by omega⟩ (fun h9 => h9.2.1 (by rw [← (S.2.2.2 _ h9).2, k0]; decide)) d_Ce_findType_72 (fun f23 H locs Y S w23 => ?_)
              refine lv_iconst (v := iI 1) X.1 X.2.1 d_Ce_findType_75 (by decide) ?_
              exact c_retz hQQ X Y hr hlk (iI_bool (by omega) (by omega)).1 ⟨rfl, S, 1, rfl, ⟨by omega, by omega⟩⟩ d_Ce_findType_76
        refine z_if_lt (tgt := 47) X.1 X.2.1 d_Ce_findType_33 (by decide) ⟨by omega, by omega⟩ (fun h24 => ?_) (fun h24 => ?_)
        · refine lv_lconst (v := 0) X.1 X.2.1 d_Ce_findType_47 rfl ?_
          exact J12 0 _ _ _  Y S (lv_sub hl [1, 2, 3] rfl)
        · refine lv_aload_n X.1 X.2.1 d_Ce_findType_36 rfl (lv_at hl 1 rfl) ?_
          refine t_get0 (ci := 4) X Y S k0 rfl i_Ce 3 (by decide) rfl lk_Ce_30 (fun _ h9 => h9) d_Ce_findType_37 e1 ?_
          refine lv_iload_n X.1 X.2.1 d_Ce_findType_40 rfl (lv_at hl 0 rfl) ?_
          refine t_ul (t_runV (As := [.int (iI z10)]) (rest := []) (n := 1) X Y S k1 hml hl.1 (c_By_numberAt l D E T κ L f H.size b1 4000 k1 (by omega) z10 (by omega) (by omega) S.1) (ok_k X Y hA KS KR) rfl kl_Ce_By_numberAt ks_By_numberAt kx_By_numberAt ki_By_numberAt ini_By ⟨rfl, rfl⟩ hd_By_numberAt ⟨Nat.le_of_ble_eq_true rfl, Nat.le_of_ble_eq_true rfl⟩ rfl (Nat.le_of_ble_eq_true rfl) d_Ce_findType_41 ⟨Nat.le_of_ble_eq_true rfl, Nat.le_of_ble_eq_true rfl⟩) X Y hA (fun v25 H locs Y p25 => ?_)
          refine lv_goto (tgt := 48) X.1 X.2.1 d_Ce_findType_44 (by decide) ?_
          exact J12 v25 _ _ _  Y S (lv_sub hl [1, 2, 3] rfl)
  refine lv_istore_n (lv' := [(2, .int (iI 0)), (1, .int (iI z3)), (0, .ref h)]) X.1 X.2.1 d_Ce_findType_15 rfl hl (by decide) rfl (fun ls hl => ?_)
  exact J5 _ 0 _ _ _ rfl (by omega) (by omega) Y S (lv_sub hl [2, 1, 0] rfl)
set_option maxHeartbeats 4000000 in
set_option maxRecDepth 100000 in
theorem c_Ce_judgeSum (l : Launch) (D : va_G) (E : cE) (T : cT) (κ : tK) (L : List Nat) (f : pF) (sz : Nat) (h : Nat) (k0 : κ h = (14, 0)) (hw : tW E T κ L f) : Met l y_Ce_judgeSum (k_Ce_judgeSum :: lw_tg) (kRm 6 180 0 0) (va_Pc [.ref h] (kPre D E T L f sz)) (va_Qi (nPi E T [1, 2, 3, 4, 11, 16] κ L f (fun (z : Int) (g : pF) => (-2147483648) ≤ z ∧ z ≤ 2147483647)) (cPost D E (pA L sz)) (pA L sz)) 0 0 (pA L sz) := by
  refine k_enter (own := R_Ce) (by decide) rfl (Nat.le_of_ble_eq_true rfl) (fun p e s m below meth c ls AV QQ H locs hQQ X Y hA hin hr hlk hml hl KS KR => ?_)
  have hl : lv_has ls 2 [(0, .ref h)] := hl
  have S : tS E T (tFr κ L [1, 2, 3, 4, 11, 16] []) κ L f κ L f := tS_rf hw
  refine lv_aload_n X.1 X.2.1 d_Ce_judgeSum_0 rfl (lv_at hl 0 rfl) ?_
  refine t_getr (ci := 4) X Y S k0 rfl i_Ce 1 (by decide) rfl (k1 := 15) (k2 := 0) rfl rfl lk_Ce_22 (fun _ h9 => h9) d_Ce_judgeSum_1 (fun b1 e1 k1 => ?_)
  refine t_getr (ci := 5) X Y S k1 rfl i_Ga 2 (by decide) rfl (k1 := 13) (k2 := 4000) rfl rfl lk_Ce_181 (fun _ h9 => h9) d_Ce_judgeSum_4 (fun b2 e2 k2 => ?_)
  refine lv_iconst (v := iI 0) X.1 X.2.1 d_Ce_judgeSum_7 (by decide) ?_
  refine lv_iconst (v := iI 3) X.1 X.2.1 d_Ce_judgeSum_8 (by decide) ?_
  refine t_ui (t_runV (As := [.int (iI 0), .int (iI 3)]) (rest := []) (n := 2) X Y S k2 hml hl.1 (c_By_field l D E T κ L f H.size b2 4000 k2 (by omega) 0 (by omega) (by omega) 3 (by omega) (by omega) S.1) (ok_k X Y hA KS KR) rfl kl_Ce_By_field ks_By_field kx_By_field ki_By_field ini_By ⟨rfl, rfl⟩ hd_By_field ⟨Nat.le_of_ble_eq_true rfl, Nat.le_of_ble_eq_true rfl⟩ rfl (Nat.le_of_ble_eq_true rfl) d_Ce_judgeSum_9 ⟨Nat.le_of_ble_eq_true rfl, Nat.le_of_ble_eq_true rfl⟩) X Y hA (fun z3 H locs Y p3 => ?_)
  obtain ⟨l3, u3⟩ := p3
  refine lv_istore_n (lv' := [(1, .int (iI z3)), (0, .ref h)]) X.1 X.2.1 d_Ce_judgeSum_12 rfl hl (by decide) rfl (fun ls hl => ?_)
  refine lv_iload_n X.1 X.2.1 d_Ce_judgeSum_13 rfl (lv_at hl 0 rfl) ?_
  refine z_if_lt (tgt := 38) X.1 X.2.1 d_Ce_judgeSum_14 (by decide) ⟨by omega, by omega⟩ (fun h4 => ?_) (fun h4 => ?_)
  · refine lv_bipush (v := iI 50) X.1 X.2.1 d_Ce_judgeSum_38 (by decide) ?_
    exact c_reti hQQ X Y hr hlk ⟨rfl, S, 50, rfl, ⟨by omega, by omega⟩⟩ d_Ce_judgeSum_40
  · refine lv_aload_n X.1 X.2.1 d_Ce_judgeSum_17 rfl (lv_at hl 1 rfl) ?_
    refine t_get0 (ci := 4) X Y S k0 rfl i_Ce 1 (by decide) rfl lk_Ce_22 (fun _ h9 => h9) d_Ce_judgeSum_18 e1 ?_
    refine t_getk (ci := 5) X Y S k1 rfl i_Ga 3 (by decide) rfl lk_Ce_184 (fun _ h9 => h9) d_Ce_judgeSum_21 (fun b5 n5 e5 k5 x5 => ?_)
    refine lv_aload_n X.1 X.2.1 d_Ce_judgeSum_24 rfl (lv_at hl 1 rfl) ?_
    refine t_get0 (ci := 4) X Y S k0 rfl i_Ce 1 (by decide) rfl lk_Ce_22 (fun _ h9 => h9) d_Ce_judgeSum_25 e1 ?_
    refine t_get0 (ci := 5) X Y S k1 rfl i_Ga 2 (by decide) rfl lk_Ce_181 (fun _ h9 => h9) d_Ce_judgeSum_28 e2 ?_
    refine lv_iload_n X.1 X.2.1 d_Ce_judgeSum_31 rfl (lv_at hl 0 rfl) ?_
    refine t_ui (x_runS (As := [.ref b5, .ref b2, .int (iI z3)]) (rest := []) (n := 3) X hml hl.1 (c_Va_isSumFor l D E T κ L f H.size b5 n5 k5 (by omega) b2 4000 k2 (by omega) z3 (by omega) (by omega) S.1) (ok_k X Y hA KS KR) kl_Ce_Va_isSumFor ks_Va_isSumFor ki_Va_isSumFor ini_Va ⟨rfl, rfl⟩ hd_Va_isSumFor.2 ⟨Nat.le_of_ble_eq_true rfl, Nat.le_of_ble_eq_true rfl⟩ rfl (Nat.le_of_ble_eq_true rfl) d_Ce_judgeSum_32 ⟨Nat.le_of_ble_eq_true rfl, Nat.le_of_ble_eq_true rfl⟩) X Y hA (fun z6 H locs Y p6 => ?_)
    obtain ⟨l6, u6⟩ := p6
    refine z_if_ne (tgt := 41) X.1 X.2.1 d_Ce_judgeSum_35 (by decide) ⟨by omega, by omega⟩ (fun h7 => ?_) (fun h7 => ?_)
    · refine lv_aload_n X.1 X.2.1 d_Ce_judgeSum_41 rfl (lv_at hl 1 rfl) ?_
      refine t_getr (ci := 4) X Y S k0 rfl i_Ce 0 (by decide) rfl (k1 := 21) (k2 := 0) rfl rfl lk_Ce_18 (fun _ h9 => h9) d_Ce_judgeSum_42 (fun b8 e8 k8 => ?_)
      refine lv_aload_n X.1 X.2.1 d_Ce_judgeSum_45 rfl (lv_at hl 1 rfl) ?_
      refine t_get0 (ci := 4) X Y S k0 rfl i_Ce 1 (by decide) rfl lk_Ce_22 (fun _ h9 => h9) d_Ce_judgeSum_46 e1 ?_
      refine t_get0 (ci := 5) X Y S k1 rfl i_Ga 3 (by decide) rfl lk_Ce_184 (fun _ h9 => h9) d_Ce_judgeSum_49 e5 ?_
      refine lv_bipush (v := iI 6) X.1 X.2.1 d_Ce_judgeSum_52 (by decide) ?_
      refine lv_aload_n X.1 X.2.1 d_Ce_judgeSum_54 rfl (lv_at hl 1 rfl) ?_
      refine t_getr (ci := 4) X Y S k0 rfl i_Ce 3 (by decide) rfl (k1 := 13) (k2 := 4000) rfl rfl lk_Ce_30 (fun _ h9 => h9) d_Ce_judgeSum_55 (fun b9 e9 k9 => ?_)
      refine lv_aload_n X.1 X.2.1 d_Ce_judgeSum_58 rfl (lv_at hl 1 rfl) ?_
      refine t_geti (ci := 4) X Y S k0 rfl i_Ce 8 (by decide) rfl lk_Ce_81 (fun _ h9 => h9) d_Ce_judgeSum_59 (fun z10 e10 l10 u10 => ?_)
      refine lv_aload_n X.1 X.2.1 d_Ce_judgeSum_62 rfl (lv_at hl 1 rfl) ?_
      refine t_get0 (ci := 4) X Y S k0 rfl i_Ce 3 (by decide) rfl lk_Ce_30 (fun _ h9 => h9) d_Ce_judgeSum_63 e9 ?_
      refine lv_aload_n X.1 X.2.1 d_Ce_judgeSum_66 rfl (lv_at hl 1 rfl) ?_
      refine t_get0 (ci := 4) X Y S k0 rfl i_Ce 8 (by decide) rfl lk_Ce_81 (fun _ h9 => h9) d_Ce_judgeSum_67 e10 ?_
      refine lv_aload_n X.1 X.2.1 d_Ce_judgeSum_70 rfl (lv_at hl 1 rfl) ?_
      refine t_get0 (ci := 4) X Y S k0 rfl i_Ce 3 (by decide) rfl lk_Ce_30 (fun _ h9 => h9) d_Ce_judgeSum_71 e9 ?_
      refine t_gets (ci := 3) X Y S k9 rfl i_By 1 (by decide) rfl lk_Ce_69 (fun _ h9 => h9) d_Ce_judgeSum_74 (fun z11 e11 l11 u11 => ?_)
      refine t_ui (t_runV (As := [.int (iI z10), .int (iI z11)]) (rest := [.int (iI z10), .ref b9, .int (iI 6), .ref b5, .ref b8]) (n := 2) X Y S k9 hml hl.1 (c_By_stop l D E T κ L f H.size b9 4000 k9 (by omega) z10 (by omega) (by omega) z11 (by omega) (by omega) S.1 z11 e11 (by omega) (by omega)) (ok_k X Y hA KS KR) rfl kl_Ce_By_stop ks_By_stop kx_By_stop ki_By_stop ini_By ⟨rfl, rfl⟩ hd_By_stop ⟨Nat.le_of_ble_eq_true rfl, Nat.le_of_ble_eq_true rfl⟩ rfl (Nat.le_of_ble_eq_true rfl) d_Ce_judgeSum_77 ⟨Nat.le_of_ble_eq_true rfl, Nat.le_of_ble_eq_true rfl⟩) X Y hA (fun z12 H locs Y p12 => ?_)
      obtain ⟨l12, u12, x12⟩ := p12
      refine t_nv (t_runV (As := [.ref b5, .int (iI 6), .ref b9, .int (iI z10), .int (iI z12)]) (rest := []) (n := 5) X Y S k8 hml hl.1 (c_Va_sum l D E T κ L f H.size b8 k8 b5 n5 k5 (by omega) 6 (by omega) (by omega) b9 4000 k9 (by omega) z10 (by omega) (by omega) z12 (by omega) (by omega) S.1) (ok_k X Y hA KS KR) rfl kl_Ce_Va_sum ks_Va_sum kx_Va_sum ki_Va_sum ini_Va ⟨rfl, rfl⟩ hd_Va_sum ⟨Nat.le_of_ble_eq_true rfl, Nat.le_of_ble_eq_true rfl⟩ rfl (Nat.le_of_ble_eq_true rfl) d_Ce_judgeSum_80 ⟨Nat.le_of_ble_eq_true rfl, Nat.le_of_ble_eq_true rfl⟩) X Y hA S (by decide) (fun f13 H locs Y S s13 p13 => ?_)
      refine lv_aload_n X.1 X.2.1 d_Ce_judgeSum_83 rfl (lv_at hl 1 rfl) ?_
      refine t_get0 (ci := 4) X Y S k0 rfl i_Ce 0 (by decide) rfl lk_Ce_18 (fun _ h9 => h9) d_Ce_judgeSum_84 ((gF_same (s13.2.2.2 _ ⟨(t_obj S.1 k0).1, by rw [k0]; decide, by simp⟩).1 0).trans e8) ?_
      refine lv_aload_n X.1 X.2.1 d_Ce_judgeSum_87 rfl (lv_at hl 1 rfl) ?_
      refine t_get0 (ci := 4) X Y S k0 rfl i_Ce 1 (by decide) rfl lk_Ce_22 (fun _ h9 => h9) d_Ce_judgeSum_88 ((gF_same (s13.2.2.2 _ ⟨(t_obj S.1 k0).1, by rw [k0]; decide, by simp⟩).1 1).trans e1) ?_
      refine t_get0 (ci := 5) X Y S k1 rfl i_Ga 2 (by decide) rfl lk_Ce_181 (fun _ h9 => h9) d_Ce_judgeSum_91 ((gF_same (s13.2.2.2 _ ⟨(t_obj S.1 k1).1, by rw [k1]; decide, by simp⟩).1 2).trans e2) ?_
      refine lv_iload_n X.1 X.2.1 d_Ce_judgeSum_94 rfl (lv_at hl 0 rfl) ?_
      refine t_ui (t_runV (As := [.ref b2, .int (iI z3)]) (rest := []) (n := 2) X Y S k8 hml hl.1 (c_Va_isSum l D E T κ L f13 H.size b8 k8 b2 4000 k2 (by omega) z3 (by omega) (by omega) S.1) (ok_k X Y hA KS KR) rfl kl_Ce_Va_isSum ks_Va_isSum kx_Va_isSum ki_Va_isSum ini_Va ⟨rfl, rfl⟩ hd_Va_isSum ⟨Nat.le_of_ble_eq_true rfl, Nat.le_of_ble_eq_true rfl⟩ rfl (Nat.le_of_ble_eq_true rfl) d_Ce_judgeSum_95 ⟨Nat.le_of_ble_eq_true rfl, Nat.le_of_ble_eq_true rfl⟩) X Y hA (fun z14 H locs Y p14 => ?_)
      obtain ⟨l14, u14⟩ := p14
      refine z_if_eq (tgt := 105) X.1 X.2.1 d_Ce_judgeSum_98 (by decide) ⟨by omega, by omega⟩ (fun h15 => ?_) (fun h15 => ?_)
      · refine lv_bipush (v := iI 41) X.1 X.2.1 d_Ce_judgeSum_105 (by decide) ?_
        exact c_reti hQQ X Y hr hlk ⟨rfl, S, 41, rfl, ⟨by omega, by omega⟩⟩ d_Ce_judgeSum_107
      · refine lv_iconst (v := iI 0) X.1 X.2.1 d_Ce_judgeSum_101 (by decide) ?_
        refine lv_goto (tgt := 107) X.1 X.2.1 d_Ce_judgeSum_102 (by decide) ?_
        exact c_reti hQQ X Y hr hlk ⟨rfl, S, 0, rfl, ⟨by omega, by omega⟩⟩ d_Ce_judgeSum_107
    · refine lv_bipush (v := iI 50) X.1 X.2.1 d_Ce_judgeSum_38 (by decide) ?_
      exact c_reti hQQ X Y hr hlk ⟨rfl, S, 50, rfl, ⟨by omega, by omega⟩⟩ d_Ce_judgeSum_40
set_option maxHeartbeats 4000000 in
set_option maxRecDepth 100000 in
theorem c_Ce_judgeWishes (l : Launch) (D : va_G) (E : cE) (T : cT) (κ : tK) (L : List Nat) (f : pF) (sz : Nat) (h : Nat) (k0 : κ h = (14, 0)) (hw : tW E T κ L f) : Met l y_Ce_judgeWishes (k_Ce_judgeWishes :: lw_tg) (kRm 4 132 0 0) (va_Pc [.ref h] (kPre D E T L f sz)) (va_Qi (uPi L f (fun (z : Int) => (-2147483648) ≤ z ∧ z ≤ 2147483647)) (cPost D E (pA L sz)) (pA L sz)) 0 0 (pA L sz) := by
  refine k_enter (own := R_Ce) (by decide) rfl (Nat.le_of_ble_eq_true rfl) (fun p e s m below meth c ls AV QQ H locs hQQ X Y hA hin hr hlk hml hl KS KR => ?_)
  have hl : lv_has ls 4 [(0, .ref h)] := hl
  have S : tS E T (tFr κ L [] []) κ L f κ L f := tS_rf hw
  refine lv_aload_n X.1 X.2.1 d_Ce_judgeWishes_0 rfl (lv_at hl 0 rfl) ?_
  refine lv_ldc (v := (-2021720115)) X.1 X.2.1 X.2.2.2.1 (X.2.2.1 _ cn_Ce_200) d_Ce_judgeWishes_1 ?_
  refine t_eq (y := iI (-2021720115)) (by decide) ?_
  refine t_ui (t_runV (As := [.int (iI ((-2021720115)))]) (rest := []) (n := 1) X Y S k0 hml hl.1 (c_Ce_asks l D E T κ L f H.size h k0 ((-2021720115)) (by omega) (by omega) S.1) (ok_k X Y hA KS KR) rfl kl_Ce_Ce_asks ks_Ce_asks kx_Ce_asks ki_Ce_asks ini_Ce ⟨rfl, rfl⟩ hd_Ce_asks ⟨Nat.le_of_ble_eq_true rfl, Nat.le_of_ble_eq_true rfl⟩ rfl (Nat.le_of_ble_eq_true rfl) d_Ce_judgeWishes_3 ⟨Nat.le_of_ble_eq_true rfl, Nat.le_of_ble_eq_true rfl⟩) X Y hA (fun z1 H locs Y p1 => ?_)
  obtain ⟨l1, u1⟩ := p1
  refine z_if_ne (tgt := 31) X.1 X.2.1 d_Ce_judgeWishes_6 (by decide) ⟨by omega, by omega⟩ (fun h2 => ?_) (fun h2 => ?_)
  · refine lv_bipush (v := iI 13) X.1 X.2.1 d_Ce_judgeWishes_31 (by decide) ?_
    exact c_reti hQQ X Y hr hlk ⟨rfl, rfl, 13, rfl, ⟨by omega, by omega⟩⟩ d_Ce_judgeWishes_33
  · refine lv_aload_n X.1 X.2.1 d_Ce_judgeWishes_9 rfl (lv_at hl 0 rfl) ?_
    refine t_getr (ci := 4) X Y S k0 rfl i_Ce 3 (by decide) rfl (k1 := 13) (k2 := 4000) rfl rfl lk_Ce_30 (fun _ h9 => h9) d_Ce_judgeWishes_10 (fun b3 e3 k3 => ?_)
    refine lv_aload_n X.1 X.2.1 d_Ce_judgeWishes_13 rfl (lv_at hl 0 rfl) ?_
    refine t_get0 (ci := 4) X Y S k0 rfl i_Ce 3 (by decide) rfl lk_Ce_30 (fun _ h9 => h9) d_Ce_judgeWishes_14 e3 ?_
    refine lv_aload_n X.1 X.2.1 d_Ce_judgeWishes_17 rfl (lv_at hl 0 rfl) ?_
    refine t_geti (ci := 4) X Y S k0 rfl i_Ce 8 (by decide) rfl lk_Ce_81 (fun _ h9 => h9) d_Ce_judgeWishes_18 (fun z4 e4 l4 u4 => ?_)
    refine lv_iconst (v := iI 0) X.1 X.2.1 d_Ce_judgeWishes_21 (by decide) ?_
    refine t_ui (t_runV (As := [.int (iI z4), .int (iI 0)]) (rest := [.ref b3]) (n := 2) X Y S k3 hml hl.1 (c_By_field l D E T κ L f H.size b3 4000 k3 (by omega) z4 (by omega) (by omega) 0 (by omega) (by omega) S.1) (ok_k X Y hA KS KR) rfl kl_Ce_By_field ks_By_field kx_By_field ki_By_field ini_By ⟨rfl, rfl⟩ hd_By_field ⟨Nat.le_of_ble_eq_true rfl, Nat.le_of_ble_eq_true rfl⟩ rfl (Nat.le_of_ble_eq_true rfl) d_Ce_judgeWishes_22 ⟨Nat.le_of_ble_eq_true rfl, Nat.le_of_ble_eq_true rfl⟩) X Y hA (fun z5 H locs Y p5 => ?_)
    obtain ⟨l5, u5⟩ := p5
    refine t_ui (t_runV (As := [.int (iI z5)]) (rest := []) (n := 1) X Y S k3 hml hl.1 (c_By_hasFarBits l D E T κ L f H.size b3 4000 k3 (by omega) z5 (by omega) (by omega) S.1) (ok_k X Y hA KS KR) rfl kl_Ce_By_hasFarBits ks_By_hasFarBits kx_By_hasFarBits ki_By_hasFarBits ini_By ⟨rfl, rfl⟩ hd_By_hasFarBits ⟨Nat.le_of_ble_eq_true rfl, Nat.le_of_ble_eq_true rfl⟩ rfl (Nat.le_of_ble_eq_true rfl) d_Ce_judgeWishes_25 ⟨Nat.le_of_ble_eq_true rfl, Nat.le_of_ble_eq_true rfl⟩) X Y hA (fun z6 H locs Y p6 => ?_)
    obtain ⟨l6, u6⟩ := p6
    refine z_if_eq (tgt := 34) X.1 X.2.1 d_Ce_judgeWishes_28 (by decide) ⟨by omega, by omega⟩ (fun h7 => ?_) (fun h7 => ?_)
    · refine lv_aload_n X.1 X.2.1 d_Ce_judgeWishes_34 rfl (lv_at hl 0 rfl) ?_
      refine t_getr (ci := 4) X Y S k0 rfl i_Ce 11 (by decide) rfl (k1 := 17) (k2 := 0) rfl rfl lk_Ce_41 (fun _ h9 => h9) d_Ce_judgeWishes_35 (fun b8 e8 k8 => ?_)
      refine lv_aload_n X.1 X.2.1 d_Ce_judgeWishes_38 rfl (lv_at hl 0 rfl) ?_
      refine t_getr (ci := 4) X Y S k0 rfl i_Ce 2 (by decide) rfl (k1 := 5) (k2 := 12) rfl rfl lk_Ce_26 (fun _ h9 => h9) d_Ce_judgeWishes_39 (fun b9 e9 k9 => ?_)
      refine lv_iconst (v := iI 0) X.1 X.2.1 d_Ce_judgeWishes_42 (by decide) ?_
      refine t_aald X Y S k9 (fun h9 => h9) (t0 := 2) rfl (by omega) (by omega) (by omega) d_Ce_judgeWishes_43 (fun b10 e10 k10 => ?_)
      have J12 : ∀ (z11 : Int) (H : Heap) (locs : List Loc) (ls : Array Slot), (0 ≤ z11) → (z11 ≤ 1) → pH D cCl (pA L sz) s.heap L f H locs → tS E T (tFr κ L [] []) κ L f κ L f → lv_has ls 4 [(0, .ref h)] → W p l e (kRm 4 132 0 0) s m AV below meth c H locs 0 0 QQ (F0 m 52 ls [.int (iI z11)]) := by
        intro z11 H locs ls l11 u11 Y S hl
        refine lv_istore_n (lv' := [(1, .int (iI z11)), (0, .ref h)]) X.1 X.2.1 d_Ce_judgeWishes_52 rfl hl (by decide) rfl (fun ls hl => ?_)
        refine lv_aload_n X.1 X.2.1 d_Ce_judgeWishes_53 rfl (lv_at hl 1 rfl) ?_
        refine t_ui (t_runV (As := []) (rest := []) (n := 0) X Y S k0 hml hl.1 (c_Ce_ticketFlags l D E T κ L f H.size h k0 S.1) (ok_k X Y hA KS KR) rfl kl_Ce_Ce_ticketFlags ks_Ce_ticketFlags kx_Ce_ticketFlags ki_Ce_ticketFlags ini_Ce ⟨rfl, rfl⟩ hd_Ce_ticketFlags ⟨Nat.le_of_ble_eq_true rfl, Nat.le_of_ble_eq_true rfl⟩ rfl (Nat.le_of_ble_eq_true rfl) d_Ce_judgeWishes_54 ⟨Nat.le_of_ble_eq_true rfl, Nat.le_of_ble_eq_true rfl⟩) X Y hA (fun z16 H locs Y p16 => ?_)
        obtain ⟨l16, u16⟩ := p16
        refine lv_istore_n (lv' := [(2, .int (iI z16)), (1, .int (iI z11)), (0, .ref h)]) X.1 X.2.1 d_Ce_judgeWishes_57 rfl hl (by decide) rfl (fun ls hl => ?_)
        refine lv_aload_n X.1 X.2.1 d_Ce_judgeWishes_58 rfl (lv_at hl 2 rfl) ?_
        refine t_getr (ci := 4) X Y S k0 rfl i_Ce 1 (by decide) rfl (k1 := 15) (k2 := 0) rfl rfl lk_Ce_22 (fun _ h9 => h9) d_Ce_judgeWishes_59 (fun b17 e17 k17 => ?_)
        refine t_getr (ci := 5) X Y S k17 rfl i_Ga 1 (by decide) rfl (k1 := 13) (k2 := 4000) rfl rfl lk_Ce_140 (fun _ h9 => h9) d_Ce_judgeWishes_62 (fun b18 e18 k18 => ?_)
        refine lv_aload_n X.1 X.2.1 d_Ce_judgeWishes_65 rfl (lv_at hl 2 rfl) ?_
        refine t_get0 (ci := 4) X Y S k0 rfl i_Ce 1 (by decide) rfl lk_Ce_22 (fun _ h9 => h9) d_Ce_judgeWishes_66 e17 ?_
        refine t_get0 (ci := 5) X Y S k17 rfl i_Ga 1 (by decide) rfl lk_Ce_140 (fun _ h9 => h9) d_Ce_judgeWishes_69 e18 ?_
        refine lv_iconst (v := iI 0) X.1 X.2.1 d_Ce_judgeWishes_72 (by decide) ?_
        refine lv_bipush (v := iI 8) X.1 X.2.1 d_Ce_judgeWishes_73 (by decide) ?_
        refine t_ui (t_runV (As := [.int (iI 0), .int (iI 8)]) (rest := [.ref b18]) (n := 2) X Y S k18 hml hl.1 (c_By_field l D E T κ L f H.size b18 4000 k18 (by omega) 0 (by omega) (by omega) 8 (by omega) (by omega) S.1) (ok_k X Y hA KS KR) rfl kl_Ce_By_field ks_By_field kx_By_field ki_By_field ini_By ⟨rfl, rfl⟩ hd_By_field ⟨Nat.le_of_ble_eq_true rfl, Nat.le_of_ble_eq_true rfl⟩ rfl (Nat.le_of_ble_eq_true rfl) d_Ce_judgeWishes_75 ⟨Nat.le_of_ble_eq_true rfl, Nat.le_of_ble_eq_true rfl⟩) X Y hA (fun z19 H locs Y p19 => ?_)
        obtain ⟨l19, u19⟩ := p19
        refine t_ui (t_runV (As := [.int (iI z19)]) (rest := []) (n := 1) X Y S k18 hml hl.1 (c_By_timeAt l D E T κ L f H.size b18 4000 k18 (by omega) z19 (by omega) (by omega) S.1) (ok_k X Y hA KS KR) rfl kl_Ce_By_timeAt ks_By_timeAt kx_By_timeAt ki_By_timeAt ini_By ⟨rfl, rfl⟩ hd_By_timeAt ⟨Nat.le_of_ble_eq_true rfl, Nat.le_of_ble_eq_true rfl⟩ rfl (Nat.le_of_ble_eq_true rfl) d_Ce_judgeWishes_78 ⟨Nat.le_of_ble_eq_true rfl, Nat.le_of_ble_eq_true rfl⟩) X Y hA (fun z20 H locs Y p20 => ?_)
        obtain ⟨l20, u20⟩ := p20
        refine lv_istore_n (lv' := [(3, .int (iI z20)), (2, .int (iI z16)), (1, .int (iI z11)), (0, .ref h)]) X.1 X.2.1 d_Ce_judgeWishes_81 rfl hl (by decide) rfl (fun ls hl => ?_)
        refine lv_aload_n X.1 X.2.1 d_Ce_judgeWishes_82 rfl (lv_at hl 3 rfl) ?_
        refine lv_ldc (v := (536870912)) X.1 X.2.1 X.2.2.2.1 (X.2.2.1 _ cn_Ce_204) d_Ce_judgeWishes_83 ?_
        refine t_eq (y := iI 536870912) (by decide) ?_
        refine t_ui (t_runV (As := [.int (iI 536870912)]) (rest := []) (n := 1) X Y S k0 hml hl.1 (c_Ce_asks l D E T κ L f H.size h k0 536870912 (by omega) (by omega) S.1) (ok_k X Y hA KS KR) rfl kl_Ce_Ce_asks ks_Ce_asks kx_Ce_asks ki_Ce_asks ini_Ce ⟨rfl, rfl⟩ hd_Ce_asks ⟨Nat.le_of_ble_eq_true rfl, Nat.le_of_ble_eq_true rfl⟩ rfl (Nat.le_of_ble_eq_true rfl) d_Ce_judgeWishes_85 ⟨Nat.le_of_ble_eq_true rfl, Nat.le_of_ble_eq_true rfl⟩) X Y hA (fun z21 H locs Y p21 => ?_)
        obtain ⟨l21, u21⟩ := p21
        have J22 : ∀  (H : Heap) (locs : List Loc) (ls : Array Slot), pH D cCl (pA L sz) s.heap L f H locs → tS E T (tFr κ L [] []) κ L f κ L f → lv_has ls 4 [(0, .ref h), (1, .int (iI z11)), (2, .int (iI z12)), (3, .int (iI z16))] → W p l e (kRm 4 132 0 0) s m AV below meth c H locs 0 0 QQ (F0 m 101 ls []) := by
          intro  H locs ls  Y S hl
          refine lv_aload_n X.1 X.2.1 d_Ce_judgeWishes_101 rfl (lv_at hl 0 rfl) ?_
          refine lv_ldc (v := (134217728)) X.1 X.2.1 X.2.2.2.1 (X.2.2.1 _ cn_Ce_206) d_Ce_judgeWishes_102 ?_
          refine t_eq (y := iI 134217728) (by decide) ?_
          refine t_ui (t_runV (As := [.int (iI 134217728)]) (rest := []) (n := 1) X Y S k0 hml hl.1 (c_Ce_asks l D E T κ L f H.size h k0 134217728 (by omega) (by omega) S.1) (ok_k X Y hA KS KR) rfl kl_Ce_Ce_asks ks_Ce_asks kx_Ce_asks ki_Ce_asks ini_Ce ⟨rfl, rfl⟩ hd_Ce_asks ⟨Nat.le_of_ble_eq_true rfl, Nat.le_of_ble_eq_true rfl⟩ rfl (Nat.le_of_ble_eq_true rfl) d_Ce_judgeWishes_104 ⟨Nat.le_of_ble_eq_true rfl, Nat.le_of_ble_eq_true rfl⟩) X Y hA (fun z26 H locs Y p26 => ?_)
          obtain ⟨l26, u26⟩ := p26
          have J27 : ∀  (H : Heap) (locs : List Loc) (ls : Array Slot), pH D cCl (pA L sz) s.heap L f H locs → tS E T (tFr κ L [] []) κ L f κ L f → lv_has ls 4 [(0, .ref h), (1, .int (iI z11)), (2, .int (iI z12)), (3, .int (iI z16))] → W p l e (kRm 4 132 0 0) s m AV below meth c H locs 0 0 QQ (F0 m 124 ls []) := by
            intro  H locs ls  Y S hl
            refine lv_aload_n X.1 X.2.1 d_Ce_judgeWishes_124 rfl (lv_at hl 0 rfl) ?_
            refine lv_iconst (v := iI 2) X.1 X.2.1 d_Ce_judgeWishes_125 (by decide) ?_
            refine t_ui (t_runV (As := [.int (iI 2)]) (rest := []) (n := 1) X Y S k0 hml hl.1 (c_Ce_asks l D E T κ L f H.size h k0 2 (by omega) (by omega) S.1) (ok_k X Y hA KS KR) rfl kl_Ce_Ce_asks ks_Ce_asks kx_Ce_asks ki_Ce_asks ini_Ce ⟨rfl, rfl⟩ hd_Ce_asks ⟨Nat.le_of_ble_eq_true rfl, Nat.le_of_ble_eq_true rfl⟩ rfl (Nat.le_of_ble_eq_true rfl) d_Ce_judgeWishes_126 ⟨Nat.le_of_ble_eq_true rfl, Nat.le_of_ble_eq_true rfl⟩) X Y hA (fun z31 H locs Y p31 => ?_)
            obtain ⟨l31, u31⟩ := p31
            have J32 : ∀  (H : Heap) (locs : List Loc) (ls : Array Slot), pH D cCl (pA L sz) s.heap L f H locs → tS E T (tFr κ L [] []) κ L f κ L f → lv_has ls 4 [(0, .ref h), (3, .int (iI z16))] → W p l e (kRm 4 132 0 0) s m AV below meth c H locs 0 0 QQ (F0 m 150 ls []) := by
              intro  H locs ls  Y S hl
              refine lv_aload_n X.1 X.2.1 d_Ce_judgeWishes_150 rfl (lv_at hl 0 rfl) ?_
              refine lv_iconst (v := iI 2) X.1 X.2.1 d_Ce_judgeWishes_151 (by decide) ?_
              refine t_ui (t_runV (As := [.int (iI 2)]) (rest := []) (n := 1) X Y S k0 hml hl.1 (c_Ce_asks l D E T κ L f H.size h k0 2 (by omega) (by omega) S.1) (ok_k X Y hA KS KR) rfl kl_Ce_Ce_asks ks_Ce_asks kx_Ce_asks ki_Ce_asks ini_Ce ⟨rfl, rfl⟩ hd_Ce_asks ⟨Nat.le_of_ble_eq_true rfl, Nat.le_of_ble_eq_true rfl⟩ rfl (Nat.le_of_ble_eq_true rfl) d_Ce_judgeWishes_152 ⟨Nat.le_of_ble_eq_true rfl, Nat.le_of_ble_eq_true rfl⟩) X Y hA (fun z36 H locs Y p36 => ?_)
              obtain ⟨l36, u36⟩ := p36
              refine z_if_eq (tgt := 174) X.1 X.2.1 d_Ce_judgeWishes_155 (by decide) ⟨by omega, by omega⟩ (fun h37 => ?_) (fun h37 => ?_)
              · refine lv_iconst (v := iI 0) X.1 X.2.1 d_Ce_judgeWishes_174 (by decide) ?_
                exact c_reti hQQ X Y hr hlk ⟨rfl, rfl, 0, rfl, ⟨by omega, by omega⟩⟩ d_Ce_judgeWishes_175
              · refine lv_iload_n X.1 X.2.1 d_Ce_judgeWishes_158 rfl (lv_at hl 1 rfl) ?_
                refine lv_aload_n X.1 X.2.1 d_Ce_judgeWishes_159 rfl (lv_at hl 0 rfl) ?_
                refine t_getr (ci := 4) X Y S k0 rfl i_Ce 0 (by decide) rfl (k1 := 21) (k2 := 0) rfl rfl lk_Ce_18 (fun _ h9 => h9) d_Ce_judgeWishes_160 (fun b38 e38 k38 => ?_)
                refine t_geti (ci := 11) X Y S k38 rfl i_Va 0 (by decide) rfl lk_Ce_112 (fun _ h9 => h9) d_Ce_judgeWishes_163 (fun z39 e39 l39 u39 => ?_)
                refine z_icmp_gt (tgt := 174) X.1 X.2.1 d_Ce_judgeWishes_166 (by decide) ⟨by omega, by omega⟩ ⟨by omega, by omega⟩ (fun h40 => ?_) (fun h40 => ?_)
                · refine lv_iconst (v := iI 0) X.1 X.2.1 d_Ce_judgeWishes_174 (by decide) ?_
                  exact c_reti hQQ X Y hr hlk ⟨rfl, rfl, 0, rfl, ⟨by omega, by omega⟩⟩ d_Ce_judgeWishes_175
                · refine lv_bipush (v := iI 32) X.1 X.2.1 d_Ce_judgeWishes_169 (by decide) ?_
                  refine lv_goto (tgt := 175) X.1 X.2.1 d_Ce_judgeWishes_171 (by decide) ?_
                  exact c_reti hQQ X Y hr hlk ⟨rfl, rfl, 32, rfl, ⟨by omega, by omega⟩⟩ d_Ce_judgeWishes_175
            refine z_if_eq (tgt := 150) X.1 X.2.1 d_Ce_judgeWishes_129 (by decide) ⟨by omega, by omega⟩ (fun h41 => ?_) (fun h41 => ?_)
            · exact J32  _ _ _  Y S (lv_sub hl [0, 3] rfl)
            · refine lv_iload_n X.1 X.2.1 d_Ce_judgeWishes_132 rfl (lv_at hl 2 rfl) ?_
              refine lv_ldc (v := (8388608)) X.1 X.2.1 X.2.2.2.1 (X.2.2.1 _ cn_Ce_208) d_Ce_judgeWishes_133 ?_
              refine t_eq (y := iI 8388608) (by decide) ?_
              refine z_iand X.1 X.2.1 (by omega) (by omega) d_Ce_judgeWishes_135 (fun z42 l42 u42 => ?_)
              refine z_if_eq (tgt := 147) X.1 X.2.1 d_Ce_judgeWishes_136 (by decide) ⟨by omega, by omega⟩ (fun h43 => ?_) (fun h43 => ?_)
              · refine lv_bipush (v := iI 13) X.1 X.2.1 d_Ce_judgeWishes_147 (by decide) ?_
                exact c_reti hQQ X Y hr hlk ⟨rfl, rfl, 13, rfl, ⟨by omega, by omega⟩⟩ d_Ce_judgeWishes_149
              · refine lv_iload_n X.1 X.2.1 d_Ce_judgeWishes_139 rfl (lv_at hl 3 rfl) ?_
                refine z_if_lt (tgt := 147) X.1 X.2.1 d_Ce_judgeWishes_140 (by decide) ⟨by omega, by omega⟩ (fun h44 => ?_) (fun h44 => ?_)
                · refine lv_bipush (v := iI 13) X.1 X.2.1 d_Ce_judgeWishes_147 (by decide) ?_
                  exact c_reti hQQ X Y hr hlk ⟨rfl, rfl, 13, rfl, ⟨by omega, by omega⟩⟩ d_Ce_judgeWishes_149
                · refine lv_iload_n X.1 X.2.1 d_Ce_judgeWishes_143 rfl (lv_at hl 1 rfl) ?_
                  refine z_if_ne (tgt := 150) X.1 X.2.1 d_Ce_judgeWishes_144 (by decide) ⟨by omega, by omega⟩ (fun h45 => ?_) (fun h45 => ?_)
                  · exact J32  _ _ _  Y S (lv_sub hl [0, 3] rfl)
                  · refine lv_bipush (v := iI 13) X.1 X.2.1 d_Ce_judgeWishes_147 (by decide) ?_
                    exact c_reti hQQ X Y hr hlk ⟨rfl, rfl, 13, rfl, ⟨by omega, by omega⟩⟩ d_Ce_judgeWishes_149
          refine z_if_eq (tgt := 124) X.1 X.2.1 d_Ce_judgeWishes_107 (by decide) ⟨by omega, by omega⟩ (fun h46 => ?_) (fun h46 => ?_)
          · exact J27  _ _ _  Y S (lv_sub hl [0, 1, 2, 3] rfl)
          · refine lv_iload_n X.1 X.2.1 d_Ce_judgeWishes_110 rfl (lv_at hl 2 rfl) ?_
            refine lv_ldc (v := (268435456)) X.1 X.2.1 X.2.2.2.1 (X.2.2.1 _ cn_Ce_207) d_Ce_judgeWishes_111 ?_
            refine t_eq (y := iI 268435456) (by decide) ?_
            refine z_iand X.1 X.2.1 (by omega) (by omega) d_Ce_judgeWishes_113 (fun z47 l47 u47 => ?_)
            refine z_if_eq (tgt := 121) X.1 X.2.1 d_Ce_judgeWishes_114 (by decide) ⟨by omega, by omega⟩ (fun h48 => ?_) (fun h48 => ?_)
            · refine lv_bipush (v := iI 13) X.1 X.2.1 d_Ce_judgeWishes_121 (by decide) ?_
              exact c_reti hQQ X Y hr hlk ⟨rfl, rfl, 13, rfl, ⟨by omega, by omega⟩⟩ d_Ce_judgeWishes_123
            · refine lv_iload_n X.1 X.2.1 d_Ce_judgeWishes_117 rfl (lv_at hl 1 rfl) ?_
              refine z_if_eq (tgt := 124) X.1 X.2.1 d_Ce_judgeWishes_118 (by decide) ⟨by omega, by omega⟩ (fun h49 => ?_) (fun h49 => ?_)
              · exact J27  _ _ _  Y S (lv_sub hl [0, 1, 2, 3] rfl)
              · refine lv_bipush (v := iI 13) X.1 X.2.1 d_Ce_judgeWishes_121 (by decide) ?_
                exact c_reti hQQ X Y hr hlk ⟨rfl, rfl, 13, rfl, ⟨by omega, by omega⟩⟩ d_Ce_judgeWishes_123
        refine z_if_eq (tgt := 101) X.1 X.2.1 d_Ce_judgeWishes_88 (by decide) ⟨by omega, by omega⟩ (fun h50 => ?_) (fun h50 => ?_)
        · exact J22  _ _ _  Y S (lv_sub hl [3, 2, 1, 0] rfl)
        · refine lv_iload_n X.1 X.2.1 d_Ce_judgeWishes_91 rfl (lv_at hl 1 rfl) ?_
          refine lv_ldc (v := (1073741824)) X.1 X.2.1 X.2.2.2.1 (X.2.2.1 _ cn_Ce_205) d_Ce_judgeWishes_92 ?_
          refine t_eq (y := iI 1073741824) (by decide) ?_
          refine z_iand X.1 X.2.1 (by omega) (by omega) d_Ce_judgeWishes_94 (fun z51 l51 u51 => ?_)
          refine z_if_ne (tgt := 101) X.1 X.2.1 d_Ce_judgeWishes_95 (by decide) ⟨by omega, by omega⟩ (fun h52 => ?_) (fun h52 => ?_)
          · exact J22  _ _ _  Y S (lv_sub hl [3, 2, 1, 0] rfl)
          · refine lv_bipush (v := iI 13) X.1 X.2.1 d_Ce_judgeWishes_98 (by decide) ?_
            exact c_reti hQQ X Y hr hlk ⟨rfl, rfl, 13, rfl, ⟨by omega, by omega⟩⟩ d_Ce_judgeWishes_100
      refine lv_acmp_ne (rx := some b8) (ry := some b10) (tgt := 51) X.1 X.2.1 d_Ce_judgeWishes_44 (by decide) (fun _ => ?_) (fun _ => ?_)
      · refine lv_iconst (v := iI 0) X.1 X.2.1 d_Ce_judgeWishes_51 (by decide) ?_
        exact J12 0 _ _ _ (by omega) (by omega) Y S (lv_sub hl [0] rfl)
      · refine lv_iconst (v := iI 1) X.1 X.2.1 d_Ce_judgeWishes_47 (by decide) ?_
        refine lv_goto (tgt := 52) X.1 X.2.1 d_Ce_judgeWishes_48 (by decide) ?_
        exact J12 1 _ _ _ (by omega) (by omega) Y S (lv_sub hl [0] rfl)
    · refine lv_bipush (v := iI 13) X.1 X.2.1 d_Ce_judgeWishes_31 (by decide) ?_
      exact c_reti hQQ X Y hr hlk ⟨rfl, rfl, 13, rfl, ⟨by omega, by omega⟩⟩ d_Ce_judgeWishes_33
set_option maxHeartbeats 4000000 in
set_option maxRecDepth 100000 in
theorem c_Ce_timeAsked (l : Launch) (D : va_G) (E : cE) (T : cT) (κ : tK) (L : List Nat) (f : pF) (sz : Nat) (h : Nat) (k0 : κ h = (14, 0)) (a1 : Int) (l_a1 : 0 ≤ a1) (u_a1 : a1 ≤ 16) (hw : tW E T κ L f) : Met l y_Ce_timeAsked (k_Ce_timeAsked :: lw_tg) (kRm 4 130 0 0) (va_Pc [.ref h, .int (iI a1)] (kPre D E T L f sz)) (va_Ql (uPl L f (fun (z : Int64) => True)) (cPost D E (pA L sz)) (pA L sz)) 0 0 (pA L sz) := by
  refine k_enter (own := R_Ce) (by decide) rfl (Nat.le_of_ble_eq_true rfl) (fun p e s m below meth c ls AV QQ H locs hQQ X Y hA hin hr hlk hml hl KS KR => ?_)
  have hl : lv_has ls 3 [(0, .ref h), (1, .int (iI a1))] := hl
  have S : tS E T (tFr κ L [] []) κ L f κ L f := tS_rf hw
  refine lv_aload_n X.1 X.2.1 d_Ce_timeAsked_0 rfl (lv_at hl 0 rfl) ?_
  refine t_getr (ci := 4) X Y S k0 rfl i_Ce 3 (by decide) rfl (k1 := 13) (k2 := 4000) rfl rfl lk_Ce_30 (fun _ h9 => h9) d_Ce_timeAsked_1 (fun b1 e1 k1 => ?_)
  refine lv_aload_n X.1 X.2.1 d_Ce_timeAsked_4 rfl (lv_at hl 0 rfl) ?_
  refine t_get0 (ci := 4) X Y S k0 rfl i_Ce 3 (by decide) rfl lk_Ce_30 (fun _ h9 => h9) d_Ce_timeAsked_5 e1 ?_
  refine lv_aload_n X.1 X.2.1 d_Ce_timeAsked_8 rfl (lv_at hl 0 rfl) ?_
  refine t_geti (ci := 4) X Y S k0 rfl i_Ce 8 (by decide) rfl lk_Ce_81 (fun _ h9 => h9) d_Ce_timeAsked_9 (fun z2 e2 l2 u2 => ?_)
  refine lv_iload_n X.1 X.2.1 d_Ce_timeAsked_12 rfl (lv_at hl 1 rfl) ?_
  refine t_ui (t_runV (As := [.int (iI z2), .int (iI a1)]) (rest := [.ref b1]) (n := 2) X Y S k1 hml hl.1 (c_By_field l D E T κ L f H.size b1 4000 k1 (by omega) z2 (by omega) (by omega) a1 (by omega) (by omega) S.1) (ok_k X Y hA KS KR) rfl kl_Ce_By_field ks_By_field kx_By_field ki_By_field ini_By ⟨rfl, rfl⟩ hd_By_field ⟨Nat.le_of_ble_eq_true rfl, Nat.le_of_ble_eq_true rfl⟩ rfl (Nat.le_of_ble_eq_true rfl) d_Ce_timeAsked_13 ⟨Nat.le_of_ble_eq_true rfl, Nat.le_of_ble_eq_true rfl⟩) X Y hA (fun z3 H locs Y p3 => ?_)
  obtain ⟨l3, u3⟩ := p3
  refine t_ui (t_runV (As := [.int (iI z3)]) (rest := []) (n := 1) X Y S k1 hml hl.1 (c_By_timeAt l D E T κ L f H.size b1 4000 k1 (by omega) z3 (by omega) (by omega) S.1) (ok_k X Y hA KS KR) rfl kl_Ce_By_timeAt ks_By_timeAt kx_By_timeAt ki_By_timeAt ini_By ⟨rfl, rfl⟩ hd_By_timeAt ⟨Nat.le_of_ble_eq_true rfl, Nat.le_of_ble_eq_true rfl⟩ rfl (Nat.le_of_ble_eq_true rfl) d_Ce_timeAsked_16 ⟨Nat.le_of_ble_eq_true rfl, Nat.le_of_ble_eq_true rfl⟩) X Y hA (fun z4 H locs Y p4 => ?_)
  obtain ⟨l4, u4⟩ := p4
  refine lv_istore_n (lv' := [(2, .int (iI z4)), (0, .ref h), (1, .int (iI a1))]) X.1 X.2.1 d_Ce_timeAsked_19 rfl hl (by decide) rfl (fun ls hl => ?_)
  refine lv_iload_n X.1 X.2.1 d_Ce_timeAsked_20 rfl (lv_at hl 0 rfl) ?_
  refine z_if_gt (tgt := 30) X.1 X.2.1 d_Ce_timeAsked_21 (by decide) ⟨by omega, by omega⟩ (fun h5 => ?_) (fun h5 => ?_)
  · refine lv_iload_n X.1 X.2.1 d_Ce_timeAsked_30 rfl (lv_at hl 0 rfl) ?_
    refine lv_i2l X.1 X.2.1 d_Ce_timeAsked_31 rfl ?_
    refine t_anyl (fun v6 => ?_)
    exact c_retl hQQ X Y hr hlk ⟨rfl, rfl, trivial⟩ d_Ce_timeAsked_32
  · refine lv_ldc2 (v := (1099511627776)) X.1 X.2.1 X.2.2.2.1 (X.2.2.1 _ cl_Ce_209) d_Ce_timeAsked_24 ?_
    refine lv_goto (tgt := 32) X.1 X.2.1 d_Ce_timeAsked_27 (by decide) ?_
    exact c_retl hQQ X Y hr hlk ⟨rfl, rfl, trivial⟩ d_Ce_timeAsked_32
set_option maxHeartbeats 4000000 in
set_option maxRecDepth 100000 in
theorem c_Ce_mayFlags (l : Launch) (D : va_G) (E : cE) (T : cT) (κ : tK) (L : List Nat) (f : pF) (sz : Nat) (a1 : Nat) (k1 : κ a1 = (17, 0)) (hw : tW E T κ L f) : Met l y_Ce_mayFlags (k_Ce_mayFlags :: lw_tg) (kRm 2 81 0 0) (va_Pc [.ref a1] (kPre D E T L f sz)) (va_Qi (uPi L f (fun (z : Int) => (-2147483648) ≤ z ∧ z ≤ 2147483647)) (cPost D E (pA L sz)) (pA L sz)) 0 0 (pA L sz) := by
  refine k_enter (own := R_Ce) (by decide) rfl (Nat.le_of_ble_eq_true rfl) (fun p e s m below meth c ls AV QQ H locs hQQ X Y hA hin hr hlk hml hl KS KR => ?_)
  have hl : lv_has ls 1 [(0, .ref a1)] := hl
  have S : tS E T (tFr κ L [] []) κ L f κ L f := tS_rf hw
  refine lv_aload_n X.1 X.2.1 d_Ce_mayFlags_0 rfl (lv_at hl 0 rfl) ?_
  refine lv_iconst (v := iI 2) X.1 X.2.1 d_Ce_mayFlags_1 (by decide) ?_
  refine t_ui (t_runV (As := [.int (iI 2)]) (rest := []) (n := 1) X Y S k1 hml hl.1 (c_Pr_is l D E T κ L f H.size a1 k1 2 (by omega) (by omega) S.1) (ok_k X Y hA KS KR) rfl kl_Ce_Pr_is ks_Pr_is kx_Pr_is ki_Pr_is ini_Pr ⟨rfl, rfl⟩ hd_Pr_is ⟨Nat.le_of_ble_eq_true rfl, Nat.le_of_ble_eq_true rfl⟩ rfl (Nat.le_of_ble_eq_true rfl) d_Ce_mayFlags_2 ⟨Nat.le_of_ble_eq_true rfl, Nat.le_of_ble_eq_true rfl⟩) X Y hA (fun z1 H locs Y p1 => ?_)
  obtain ⟨l1, u1⟩ := p1
  have J3 : ∀ (z2 : Int) (H : Heap) (locs : List Loc) (ls : Array Slot), (0 ≤ z2) → (z2 ≤ 1073741824) → pH D cCl (pA L sz) s.heap L f H locs → tS E T (tFr κ L [] []) κ L f κ L f → lv_has ls 1 [(0, .ref a1)] → W p l e (kRm 2 81 0 0) s m AV below meth c H locs 0 0 QQ (F0 m 14 ls [.int (iI z2)]) := by
    intro z2 H locs ls l2 u2 Y S hl
    refine lv_aload_n X.1 X.2.1 d_Ce_mayFlags_14 rfl (lv_at hl 0 rfl) ?_
    refine lv_iconst (v := iI 4) X.1 X.2.1 d_Ce_mayFlags_15 (by decide) ?_
    refine t_ui (t_runV (As := [.int (iI 4)]) (rest := [.int (iI z2)]) (n := 1) X Y S k1 hml hl.1 (c_Pr_is l D E T κ L f H.size a1 k1 4 (by omega) (by omega) S.1) (ok_k X Y hA KS KR) rfl kl_Ce_Pr_is ks_Pr_is kx_Pr_is ki_Pr_is ini_Pr ⟨rfl, rfl⟩ hd_Pr_is ⟨Nat.le_of_ble_eq_true rfl, Nat.le_of_ble_eq_true rfl⟩ rfl (Nat.le_of_ble_eq_true rfl) d_Ce_mayFlags_16 ⟨Nat.le_of_ble_eq_true rfl, Nat.le_of_ble_eq_true rfl⟩) X Y hA (fun z7 H locs Y p7 => ?_)
    obtain ⟨l7, u7⟩ := p7
    have J9 : ∀ (z8 : Int) (H : Heap) (locs : List Loc) (ls : Array Slot), (0 ≤ z8) → (z8 ≤ 268435456) → pH D cCl (pA L sz) s.heap L f H locs → tS E T (tFr κ L [] []) κ L f κ L f → lv_has ls 1 [(0, .ref a1)] → W p l e (kRm 2 81 0 0) s m AV below meth c H locs 0 0 QQ (F0 m 28 ls [.int (iI z8), .int (iI z3)]) := by
      intro z8 H locs ls l8 u8 Y S hl
      refine lv_ior X.1 X.2.1 d_Ce_mayFlags_28 ?_
      refine t_u (fun z13 l13 u13 => ?_)
      refine lv_aload_n X.1 X.2.1 d_Ce_mayFlags_29 rfl (lv_at hl 0 rfl) ?_
      refine lv_bipush (v := iI 8) X.1 X.2.1 d_Ce_mayFlags_30 (by decide) ?_
      refine t_ui (t_runV (As := [.int (iI 8)]) (rest := [.int (iI z13)]) (n := 1) X Y S k1 hml hl.1 (c_Pr_is l D E T κ L f H.size a1 k1 8 (by omega) (by omega) S.1) (ok_k X Y hA KS KR) rfl kl_Ce_Pr_is ks_Pr_is kx_Pr_is ki_Pr_is ini_Pr ⟨rfl, rfl⟩ hd_Pr_is ⟨Nat.le_of_ble_eq_true rfl, Nat.le_of_ble_eq_true rfl⟩ rfl (Nat.le_of_ble_eq_true rfl) d_Ce_mayFlags_32 ⟨Nat.le_of_ble_eq_true rfl, Nat.le_of_ble_eq_true rfl⟩) X Y hA (fun z14 H locs Y p14 => ?_)
      obtain ⟨l14, u14⟩ := p14
      refine z_if_eq (tgt := 43) X.1 X.2.1 d_Ce_mayFlags_35 (by decide) ⟨by omega, by omega⟩ (fun h15 => ?_) (fun h15 => ?_)
      · refine lv_iconst (v := iI 0) X.1 X.2.1 d_Ce_mayFlags_43 (by decide) ?_
        refine lv_ior X.1 X.2.1 d_Ce_mayFlags_44 ?_
        refine t_u (fun z16 l16 u16 => ?_)
        exact c_reti hQQ X Y hr hlk ⟨rfl, rfl, z16, rfl, ⟨by omega, by omega⟩⟩ d_Ce_mayFlags_45
      · refine lv_ldc (v := (8388608)) X.1 X.2.1 X.2.2.2.1 (X.2.2.1 _ cn_Ce_208) d_Ce_mayFlags_38 ?_
        refine t_eq (y := iI 8388608) (by decide) ?_
        refine lv_goto (tgt := 44) X.1 X.2.1 d_Ce_mayFlags_40 (by decide) ?_
        refine lv_ior X.1 X.2.1 d_Ce_mayFlags_44 ?_
        refine t_u (fun z17 l17 u17 => ?_)
        exact c_reti hQQ X Y hr hlk ⟨rfl, rfl, z17, rfl, ⟨by omega, by omega⟩⟩ d_Ce_mayFlags_45
    refine z_if_eq (tgt := 27) X.1 X.2.1 d_Ce_mayFlags_19 (by decide) ⟨by omega, by omega⟩ (fun h18 => ?_) (fun h18 => ?_)
    · refine lv_iconst (v := iI 0) X.1 X.2.1 d_Ce_mayFlags_27 (by decide) ?_
      exact J9 0 _ _ _ (by omega) (by omega) Y S (lv_sub hl [0] rfl)
    · refine lv_ldc (v := (268435456)) X.1 X.2.1 X.2.2.2.1 (X.2.2.1 _ cn_Ce_207) d_Ce_mayFlags_22 ?_
      refine t_eq (y := iI 268435456) (by decide) ?_
      refine lv_goto (tgt := 28) X.1 X.2.1 d_Ce_mayFlags_24 (by decide) ?_
      exact J9 268435456 _ _ _ (by omega) (by omega) Y S (lv_sub hl [0] rfl)
  refine z_if_eq (tgt := 13) X.1 X.2.1 d_Ce_mayFlags_5 (by decide) ⟨by omega, by omega⟩ (fun h19 => ?_) (fun h19 => ?_)
  · refine lv_iconst (v := iI 0) X.1 X.2.1 d_Ce_mayFlags_13 (by decide) ?_
    exact J3 0 _ _ _ (by omega) (by omega) Y S (lv_sub hl [0] rfl)
  · refine lv_ldc (v := (1073741824)) X.1 X.2.1 X.2.2.2.1 (X.2.2.1 _ cn_Ce_205) d_Ce_mayFlags_8 ?_
    refine t_eq (y := iI 1073741824) (by decide) ?_
    refine lv_goto (tgt := 14) X.1 X.2.1 d_Ce_mayFlags_10 (by decide) ?_
    exact J3 1073741824 _ _ _ (by omega) (by omega) Y S (lv_sub hl [0] rfl)
set_option maxHeartbeats 4000000 in
set_option maxRecDepth 100000 in
theorem c_Ce_setFlags (l : Launch) (D : va_G) (E : cE) (T : cT) (κ : tK) (L : List Nat) (f : pF) (sz : Nat) (h : Nat) (k0 : κ h = (14, 0)) (a1 : Int) (l_a1 : 0 ≤ a1) (u_a1 : a1 ≤ 1) (hw : tW E T κ L f) : Met l y_Ce_setFlags (k_Ce_setFlags :: lw_tg) (kRm 4 132 0 0) (va_Pc [.ref h, .int (iI a1)] (kPre D E T L f sz)) (va_Qv (nPv E T [14] κ L f (fun (g : pF) => True)) (cPost D E (pA L sz)) (pA L sz)) 0 0 (pA L sz) := by
  refine k_enter (own := R_Ce) (by decide) rfl (Nat.le_of_ble_eq_true rfl) (fun p e s m below meth c ls AV QQ H locs hQQ X Y hA hin hr hlk hml hl KS KR => ?_)
  have hl : lv_has ls 5 [(0, .ref h), (1, .int (iI a1))] := hl
  have S : tS E T (tFr κ L [14] []) κ L f κ L f := tS_rf hw
  refine lv_aload_n X.1 X.2.1 d_Ce_setFlags_0 rfl (lv_at hl 0 rfl) ?_
  refine t_geti (ci := 4) X Y S k0 rfl i_Ce 6 (by decide) rfl lk_Ce_65 (fun _ h9 => h9) d_Ce_setFlags_1 (fun z1 e1 l1 u1 => ?_)
  have J3 : ∀ (z2 : Int) (H : Heap) (locs : List Loc) (ls : Array Slot), ((-2147483648) ≤ z2) → (z2 ≤ 2147483647) → pH D cCl (pA L sz) s.heap L f H locs → tS E T (tFr κ L [14] []) κ L f κ L f → lv_has ls 5 [(0, .ref h), (1, .int (iI a1))] → W p l e (kRm 4 132 0 0) s m AV below meth c H locs 0 0 QQ (F0 m 15 ls [.int (iI z2)]) := by
    intro z2 H locs ls l2 u2 Y S hl
    refine lv_istore_n (lv' := [(2, .int (iI z2)), (0, .ref h), (1, .int (iI a1))]) X.1 X.2.1 d_Ce_setFlags_15 rfl hl (by decide) rfl (fun ls hl => ?_)
    refine lv_aload_n X.1 X.2.1 d_Ce_setFlags_16 rfl (lv_at hl 1 rfl) ?_
    refine t_geti (ci := 4) X Y S k0 rfl i_Ce 9 (by decide) rfl lk_Ce_44 (fun _ h9 => h9) d_Ce_setFlags_17 (fun z7 e7 l7 u7 => ?_)
    refine lv_ldc (v := (1342177280)) X.1 X.2.1 X.2.2.2.1 (X.2.2.1 _ cn_Ce_250) d_Ce_setFlags_20 ?_
    refine t_eq (y := iI 1342177280) (by decide) ?_
    refine z_iand X.1 X.2.1 (by omega) (by omega) d_Ce_setFlags_22 (fun z8 l8 u8 => ?_)
    refine lv_iload_n X.1 X.2.1 d_Ce_setFlags_23 rfl (lv_at hl 2 rfl) ?_
    have J10 : ∀ (z9 : Int) (H : Heap) (locs : List Loc) (ls : Array Slot), (0 ≤ z9) → (z9 ≤ 8388608) → pH D cCl (pA L sz) s.heap L f H locs → tS E T (tFr κ L [14] []) κ L f κ L f → lv_has ls 5 [(0, .ref h), (2, .int (iI z4))] → W p l e (kRm 4 132 0 0) s m AV below meth c H locs 0 0 QQ (F0 m 33 ls [.int (iI z9), .int (iI z6)]) := by
      intro z9 H locs ls l9 u9 Y S hl
      refine lv_ior X.1 X.2.1 d_Ce_setFlags_33 ?_
      refine t_u (fun z14 l14 u14 => ?_)
      refine lv_istore_n (lv' := [(3, .int (iI z14)), (0, .ref h), (2, .int (iI z4))]) X.1 X.2.1 d_Ce_setFlags_34 rfl hl (by decide) rfl (fun ls hl => ?_)
      refine lv_aload_n X.1 X.2.1 d_Ce_setFlags_35 rfl (lv_at hl 1 rfl) ?_
      refine t_getr (ci := 4) X Y S k0 rfl i_Ce 11 (by decide) rfl (k1 := 17) (k2 := 0) rfl rfl lk_Ce_41 (fun _ h9 => h9) d_Ce_setFlags_36 (fun b15 e15 k15 => ?_)
      refine t_ui (x_runS (As := [.ref b15]) (rest := []) (n := 1) X hml hl.1 (c_Ce_mayFlags l D E T κ L f H.size b15 k15 S.1) (ok_k X Y hA KS KR) kl_Ce_Ce_mayFlags ks_Ce_mayFlags ki_Ce_mayFlags ini_Ce ⟨rfl, rfl⟩ hd_Ce_mayFlags.2 ⟨Nat.le_of_ble_eq_true rfl, Nat.le_of_ble_eq_true rfl⟩ rfl (Nat.le_of_ble_eq_true rfl) d_Ce_setFlags_39 ⟨Nat.le_of_ble_eq_true rfl, Nat.le_of_ble_eq_true rfl⟩) X Y hA (fun z16 H locs Y p16 => ?_)
      obtain ⟨l16, u16⟩ := p16
      refine lv_aload_n X.1 X.2.1 d_Ce_setFlags_42 rfl (lv_at hl 1 rfl) ?_
      refine t_get0 (ci := 4) X Y S k0 rfl i_Ce 6 (by decide) rfl lk_Ce_65 (fun _ h9 => h9) d_Ce_setFlags_43 e1 ?_
      have J18 : ∀ (z17 : Int) (H : Heap) (locs : List Loc) (ls : Array Slot), ((-2147483648) ≤ z17) → (z17 ≤ 2147483647) → pH D cCl (pA L sz) s.heap L f H locs → tS E T (tFr κ L [14] []) κ L f κ L f → lv_has ls 5 [(0, .ref h), (2, .int (iI z4)), (3, .int (iI z9))] → W p l e (kRm 4 132 0 0) s m AV below meth c H locs 0 0 QQ (F0 m 60 ls [.int (iI z17), .int (iI z11)]) := by
        intro z17 H locs ls l17 u17 Y S hl
        refine lv_iand X.1 X.2.1 d_Ce_setFlags_60 ?_
        refine t_u (fun z23 l23 u23 => ?_)
        refine lv_istore (lv' := [(4, .int (iI z23)), (0, .ref h), (2, .int (iI z4)), (3, .int (iI z9))]) X.1 X.2.1 d_Ce_setFlags_61 hl (by decide) rfl (fun ls hl => ?_)
        refine lv_aload_n X.1 X.2.1 d_Ce_setFlags_63 rfl (lv_at hl 1 rfl) ?_
        refine lv_iload_n X.1 X.2.1 d_Ce_setFlags_64 rfl (lv_at hl 3 rfl) ?_
        refine lv_iload X.1 X.2.1 d_Ce_setFlags_65 (lv_at hl 0 rfl) ?_
        refine lv_iand X.1 X.2.1 d_Ce_setFlags_67 ?_
        refine t_u (fun z25 l25 u25 => ?_)
        refine t_put (ci := 4) X Y S k0 rfl i_Ce t_Ce t_Ce_ok n_Ce 13 (by decide) rfl lk_Ce_247 (fun _ h9 => h9) rfl (t_Ce_ok 13 (by decide)) rfl rfl ⟨_, rfl, by omega, by omega⟩ (fun h9 => h9.2.1 (by rw [← (S.2.2.2 _ h9).2, k0]; decide)) d_Ce_setFlags_68 (fun f26 H locs Y S w26 => ?_)
        refine lv_aload_n X.1 X.2.1 d_Ce_setFlags_71 rfl (lv_at hl 1 rfl) ?_
        refine t_get0 (ci := 4) X Y S k0 rfl i_Ce 6 (by decide) rfl lk_Ce_65 (fun _ h9 => h9) d_Ce_setFlags_72 ((gF_put w26 (Or.inr (by decide))).trans e1) ?_
        refine z_if_eq (tgt := 111) X.1 X.2.1 d_Ce_setFlags_75 (by decide) ⟨by omega, by omega⟩ (fun h27 => ?_) (fun h27 => ?_)
        · refine lv_aload_n X.1 X.2.1 d_Ce_setFlags_111 rfl (lv_at hl 1 rfl) ?_
          refine lv_dup X.1 X.2.1 d_Ce_setFlags_112 rfl ?_
          refine t_get0 (ci := 4) X Y S k0 rfl i_Ce 13 (by decide) rfl lk_Ce_247 (fun _ h9 => h9) d_Ce_setFlags_113 w26.2.1 ?_
          refine lv_iload_n X.1 X.2.1 d_Ce_setFlags_116 rfl (lv_at hl 2 rfl) ?_
          refine lv_ldcw (v := (2097152)) X.1 X.2.1 X.2.2.2.1 (X.2.2.1 _ cn_Ce_256) d_Ce_setFlags_117 ?_
          refine t_eq (y := iI 2097152) (by decide) ?_
          refine z_iand X.1 X.2.1 (by omega) (by omega) d_Ce_setFlags_120 (fun z28 l28 u28 => ?_)
          refine lv_iload_n X.1 X.2.1 d_Ce_setFlags_121 rfl (lv_at hl 2 rfl) ?_
          refine lv_aload_n X.1 X.2.1 d_Ce_setFlags_122 rfl (lv_at hl 1 rfl) ?_
          refine t_get0 (ci := 4) X Y S k0 rfl i_Ce 9 (by decide) rfl lk_Ce_44 (fun _ h9 => h9) d_Ce_setFlags_123 ((gF_put w26 (Or.inr (by decide))).trans e7) ?_
          refine lv_ior X.1 X.2.1 d_Ce_setFlags_126 ?_
          refine t_u (fun z29 l29 u29 => ?_)
          refine lv_ldcw (v := (671088640)) X.1 X.2.1 X.2.2.2.1 (X.2.2.1 _ cn_Ce_257) d_Ce_setFlags_127 ?_
          refine t_eq (y := iI 671088640) (by decide) ?_
          refine z_iand X.1 X.2.1 (by omega) (by omega) d_Ce_setFlags_130 (fun z30 l30 u30 => ?_)
          refine lv_ior X.1 X.2.1 d_Ce_setFlags_131 ?_
          refine t_u (fun z31 l31 u31 => ?_)
          refine lv_ior X.1 X.2.1 d_Ce_setFlags_132 ?_
          refine t_u (fun z32 l32 u32 => ?_)
          refine t_put (ci := 4) X Y S k0 rfl i_Ce t_Ce t_Ce_ok n_Ce 13 (by decide) rfl lk_Ce_247 (fun _ h9 => h9) rfl (t_Ce_ok 13 (by decide)) rfl rfl ⟨_, rfl, by omega, by omega⟩ (fun h9 => h9.2.1 (by rw [← (S.2.2.2 _ h9).2, k0]; decide)) d_Ce_setFlags_133 (fun f33 H locs Y S w33 => ?_)
          exact c_retv hQQ X Y hr hlk ⟨rfl, S, trivial⟩ d_Ce_setFlags_136
        · refine lv_aload_n X.1 X.2.1 d_Ce_setFlags_78 rfl (lv_at hl 1 rfl) ?_
          refine lv_dup X.1 X.2.1 d_Ce_setFlags_79 rfl ?_
          refine t_get0 (ci := 4) X Y S k0 rfl i_Ce 13 (by decide) rfl lk_Ce_247 (fun _ h9 => h9) d_Ce_setFlags_80 w26.2.1 ?_
          refine lv_ldc (v := (4194304)) X.1 X.2.1 X.2.2.2.1 (X.2.2.1 _ cn_Ce_255) d_Ce_setFlags_83 ?_
          refine t_eq (y := iI 4194304) (by decide) ?_
          refine lv_aload_n X.1 X.2.1 d_Ce_setFlags_85 rfl (lv_at hl 1 rfl) ?_
          refine t_getr (ci := 4) X Y S k0 rfl i_Ce 10 (by decide) rfl (k1 := 17) (k2 := 0) rfl rfl lk_Ce_37 (fun _ h9 => h9) d_Ce_setFlags_86 (fun b34 e34 k34 => ?_)
          refine lv_iconst (v := iI 1) X.1 X.2.1 d_Ce_setFlags_89 (by decide) ?_
          refine t_ui (t_runV (As := [.int (iI 1)]) (rest := [.int (iI 4194304), .int (iI z25), .ref h]) (n := 1) X Y S k34 hml hl.1 (c_Pr_is l D E T κ L f26 H.size b34 k34 1 (by omega) (by omega) S.1) (ok_k X Y hA KS KR) rfl kl_Ce_Pr_is ks_Pr_is kx_Pr_is ki_Pr_is ini_Pr ⟨rfl, rfl⟩ hd_Pr_is ⟨Nat.le_of_ble_eq_true rfl, Nat.le_of_ble_eq_true rfl⟩ rfl (Nat.le_of_ble_eq_true rfl) d_Ce_setFlags_90 ⟨Nat.le_of_ble_eq_true rfl, Nat.le_of_ble_eq_true rfl⟩) X Y hA (fun z35 H locs Y p35 => ?_)
          obtain ⟨l35, u35⟩ := p35
          refine z_if_eq (tgt := 102) X.1 X.2.1 d_Ce_setFlags_93 (by decide) ⟨by omega, by omega⟩ (fun h36 => ?_) (fun h36 => ?_)
          · refine lv_iconst (v := iI 0) X.1 X.2.1 d_Ce_setFlags_102 (by decide) ?_
            refine lv_ior X.1 X.2.1 d_Ce_setFlags_103 ?_
            refine t_u (fun z37 l37 u37 => ?_)
            refine lv_ior X.1 X.2.1 d_Ce_setFlags_104 ?_
            refine t_u (fun z38 l38 u38 => ?_)
            refine t_put (ci := 4) X Y S k0 rfl i_Ce t_Ce t_Ce_ok n_Ce 13 (by decide) rfl lk_Ce_247 (fun _ h9 => h9) rfl (t_Ce_ok 13 (by decide)) rfl rfl ⟨_, rfl, by omega, by omega⟩ (fun h9 => h9.2.1 (by rw [← (S.2.2.2 _ h9).2, k0]; decide)) d_Ce_setFlags_105 (fun f39 H locs Y S w39 => ?_)
            refine lv_goto (tgt := 136) X.1 X.2.1 d_Ce_setFlags_108 (by decide) ?_
            exact c_retv hQQ X Y hr hlk ⟨rfl, S, trivial⟩ d_Ce_setFlags_136
          · refine lv_ldcw (v := (2097152)) X.1 X.2.1 X.2.2.2.1 (X.2.2.1 _ cn_Ce_256) d_Ce_setFlags_96 ?_
            refine t_eq (y := iI 2097152) (by decide) ?_
            refine lv_goto (tgt := 103) X.1 X.2.1 d_Ce_setFlags_99 (by decide) ?_
            refine lv_ior X.1 X.2.1 d_Ce_setFlags_103 ?_
            refine t_u (fun z40 l40 u40 => ?_)
            refine lv_ior X.1 X.2.1 d_Ce_setFlags_104 ?_
            refine t_u (fun z41 l41 u41 => ?_)
            refine t_put (ci := 4) X Y S k0 rfl i_Ce t_Ce t_Ce_ok n_Ce 13 (by decide) rfl lk_Ce_247 (fun _ h9 => h9) rfl (t_Ce_ok 13 (by decide)) rfl rfl ⟨_, rfl, by omega, by omega⟩ (fun h9 => h9.2.1 (by rw [← (S.2.2.2 _ h9).2, k0]; decide)) d_Ce_setFlags_105 (fun f42 H locs Y S w42 => ?_)
            refine lv_goto (tgt := 136) X.1 X.2.1 d_Ce_setFlags_108 (by decide) ?_
            exact c_retv hQQ X Y hr hlk ⟨rfl, S, trivial⟩ d_Ce_setFlags_136
      refine z_if_eq (tgt := 59) X.1 X.2.1 d_Ce_setFlags_46 (by decide) ⟨by omega, by omega⟩ (fun h43 => ?_) (fun h43 => ?_)
      · refine lv_iload_n X.1 X.2.1 d_Ce_setFlags_59 rfl (lv_at hl 2 rfl) ?_
        exact J18 z4 _ _ _ (by omega) (by omega) Y S (lv_sub hl [1, 2, 0] rfl)
      · refine lv_aload_n X.1 X.2.1 d_Ce_setFlags_49 rfl (lv_at hl 1 rfl) ?_
        refine t_getr (ci := 4) X Y S k0 rfl i_Ce 10 (by decide) rfl (k1 := 17) (k2 := 0) rfl rfl lk_Ce_37 (fun _ h9 => h9) d_Ce_setFlags_50 (fun b44 e44 k44 => ?_)
        refine t_ui (x_runS (As := [.ref b44]) (rest := [.int (iI z16)]) (n := 1) X hml hl.1 (c_Ce_mayFlags l D E T κ L f H.size b44 k44 S.1) (ok_k X Y hA KS KR) kl_Ce_Ce_mayFlags ks_Ce_mayFlags ki_Ce_mayFlags ini_Ce ⟨rfl, rfl⟩ hd_Ce_mayFlags.2 ⟨Nat.le_of_ble_eq_true rfl, Nat.le_of_ble_eq_true rfl⟩ rfl (Nat.le_of_ble_eq_true rfl) d_Ce_setFlags_53 ⟨Nat.le_of_ble_eq_true rfl, Nat.le_of_ble_eq_true rfl⟩) X Y hA (fun z45 H locs Y p45 => ?_)
        obtain ⟨l45, u45⟩ := p45
        refine lv_goto (tgt := 60) X.1 X.2.1 d_Ce_setFlags_56 (by decide) ?_
        exact J18 z45 _ _ _ (by omega) (by omega) Y S (lv_sub hl [1, 2, 0] rfl)
    refine z_if_eq (tgt := 32) X.1 X.2.1 d_Ce_setFlags_24 (by decide) ⟨by omega, by omega⟩ (fun h46 => ?_) (fun h46 => ?_)
    · refine lv_iconst (v := iI 0) X.1 X.2.1 d_Ce_setFlags_32 (by decide) ?_
      exact J10 0 _ _ _ (by omega) (by omega) Y S (lv_sub hl [1, 0] rfl)
    · refine lv_ldc (v := (8388608)) X.1 X.2.1 X.2.2.2.1 (X.2.2.1 _ cn_Ce_208) d_Ce_setFlags_27 ?_
      refine t_eq (y := iI 8388608) (by decide) ?_
      refine lv_goto (tgt := 33) X.1 X.2.1 d_Ce_setFlags_29 (by decide) ?_
      exact J10 8388608 _ _ _ (by omega) (by omega) Y S (lv_sub hl [1, 0] rfl)
  refine z_if_eq (tgt := 11) X.1 X.2.1 d_Ce_setFlags_4 (by decide) ⟨by omega, by omega⟩ (fun h47 => ?_) (fun h47 => ?_)
  · refine lv_aload_n X.1 X.2.1 d_Ce_setFlags_11 rfl (lv_at hl 0 rfl) ?_
    refine t_ui (t_runV (As := []) (rest := []) (n := 0) X Y S k0 hml hl.1 (c_Ce_ticketFlags l D E T κ L f H.size h k0 S.1) (ok_k X Y hA KS KR) rfl kl_Ce_Ce_ticketFlags ks_Ce_ticketFlags kx_Ce_ticketFlags ki_Ce_ticketFlags ini_Ce ⟨rfl, rfl⟩ hd_Ce_ticketFlags ⟨Nat.le_of_ble_eq_true rfl, Nat.le_of_ble_eq_true rfl⟩ rfl (Nat.le_of_ble_eq_true rfl) d_Ce_setFlags_12 ⟨Nat.le_of_ble_eq_true rfl, Nat.le_of_ble_eq_true rfl⟩) X Y hA (fun z48 H locs Y p48 => ?_)
    obtain ⟨l48, u48⟩ := p48
    exact J3 z48 _ _ _ (by omega) (by omega) Y S (lv_sub hl [0, 1] rfl)
  · refine lv_iconst (v := iI 0) X.1 X.2.1 d_Ce_setFlags_7 (by decide) ?_
    refine lv_goto (tgt := 15) X.1 X.2.1 d_Ce_setFlags_8 (by decide) ?_
    exact J3 0 _ _ _ (by omega) (by omega) Y S (lv_sub hl [0, 1] rfl)
set_option maxHeartbeats 4000000 in
set_option maxRecDepth 100000 in
theorem c_Ce_setRenewTill (l : Launch) (D : va_G) (E : cE) (T : cT) (κ : tK) (L : List Nat) (f : pF) (sz : Nat) (h : Nat) (k0 : κ h = (14, 0)) (a1 : Int64) (hw : tW E T κ L f) : Met l y_Ce_setRenewTill (k_Ce_setRenewTill :: lw_tg) (kRm 4 130 0 0) (va_Pc [.ref h, .long a1] (kPre D E T L f sz)) (va_Qv (nPv E T [14] κ L f (fun (g : pF) => True)) (cPost D E (pA L sz)) (pA L sz)) 0 0 (pA L sz) := by
  refine k_enter (own := R_Ce) (by decide) rfl (Nat.le_of_ble_eq_true rfl) (fun p e s m below meth c ls AV QQ H locs hQQ X Y hA hin hr hlk hml hl KS KR => ?_)
  have hl : lv_has ls 6 [(0, .ref h), (1, .long a1)] := hl
  have S : tS E T (tFr κ L [14] []) κ L f κ L f := tS_rf hw
  refine lv_aload_n X.1 X.2.1 d_Ce_setRenewTill_0 rfl (lv_at hl 0 rfl) ?_
  refine t_geti (ci := 4) X Y S k0 rfl i_Ce 13 (by decide) rfl lk_Ce_247 (fun _ h9 => h9) d_Ce_setRenewTill_1 (fun z1 e1 l1 u1 => ?_)
  refine lv_ldc (v := (8388608)) X.1 X.2.1 X.2.2.2.1 (X.2.2.1 _ cn_Ce_208) d_Ce_setRenewTill_4 ?_
  refine t_eq (y := iI 8388608) (by decide) ?_
  refine z_iand X.1 X.2.1 (by omega) (by omega) d_Ce_setRenewTill_6 (fun z2 l2 u2 => ?_)
  refine z_if_ne (tgt := 16) X.1 X.2.1 d_Ce_setRenewTill_7 (by decide) ⟨by omega, by omega⟩ (fun h3 => ?_) (fun h3 => ?_)
  · refine lv_lload_n X.1 X.2.1 d_Ce_setRenewTill_16 rfl (lv_at hl 1 rfl) ?_
    refine lv_aload_n X.1 X.2.1 d_Ce_setRenewTill_17 rfl (lv_at hl 0 rfl) ?_
    refine t_getr (ci := 4) X Y S k0 rfl i_Ce 0 (by decide) rfl (k1 := 21) (k2 := 0) rfl rfl lk_Ce_18 (fun _ h9 => h9) d_Ce_setRenewTill_18 (fun b4 e4 k4 => ?_)
    refine t_geti (ci := 11) X Y S k4 rfl i_Va 0 (by decide) rfl lk_Ce_112 (fun _ h9 => h9) d_Ce_setRenewTill_21 (fun z5 e5 l5 u5 => ?_)
    refine lv_i2l X.1 X.2.1 d_Ce_setRenewTill_24 rfl ?_
    refine t_anyl (fun v6 => ?_)
    refine lv_aload_n X.1 X.2.1 d_Ce_setRenewTill_25 rfl (lv_at hl 0 rfl) ?_
    refine t_getr (ci := 4) X Y S k0 rfl i_Ce 10 (by decide) rfl (k1 := 17) (k2 := 0) rfl rfl lk_Ce_37 (fun _ h9 => h9) d_Ce_setRenewTill_26 (fun b7 e7 k7 => ?_)
    refine t_geti (ci := 7) X Y S k7 rfl i_Pr 10 (by decide) rfl lk_Ce_258 (fun _ h9 => h9) d_Ce_setRenewTill_29 (fun z8 e8 l8 u8 => ?_)
    refine lv_aload_n X.1 X.2.1 d_Ce_setRenewTill_32 rfl (lv_at hl 0 rfl) ?_
    refine t_getr (ci := 4) X Y S k0 rfl i_Ce 11 (by decide) rfl (k1 := 17) (k2 := 0) rfl rfl lk_Ce_41 (fun _ h9 => h9) d_Ce_setRenewTill_33 (fun b9 e9 k9 => ?_)
    refine t_geti (ci := 7) X Y S k9 rfl i_Pr 10 (by decide) rfl lk_Ce_258 (fun _ h9 => h9) d_Ce_setRenewTill_36 (fun z10 e10 l10 u10 => ?_)
    refine z_min X.1 X.2.1 (hml.trans hl.1.symm) X.2.2.2.1 (X.2.2.1 _ kl_Ce_mmin) (X.2.2.1 _ ks_mmin) (X.2.2.1 _ ini_Math) (X.2.2.1 _ ki_mmin) (Nat.le_of_ble_eq_true rfl) (Nat.le_of_ble_eq_true rfl) (Nat.le_of_ble_eq_true rfl) (Nat.le_of_ble_eq_true rfl) ⟨by omega, by omega⟩ ⟨by omega, by omega⟩ d_Ce_setRenewTill_39 (fun z11 l11 u11 x11 => ?_)
    refine lv_i2l X.1 X.2.1 d_Ce_setRenewTill_42 rfl ?_
    refine t_anyl (fun v12 => ?_)
    refine lv_ladd X.1 X.2.1 d_Ce_setRenewTill_43 ?_
    refine t_anyl (fun v13 => ?_)
    refine va_mmin_long X.1 X.2.1 (hml.trans hl.1.symm) X.2.2.2.1 (X.2.2.1 _ kl_Ce_mmin_long) (X.2.2.1 _ ks_mmin_long) (X.2.2.1 _ ini_Math) (X.2.2.1 _ ki_mmin_long) (Nat.le_of_ble_eq_true rfl) (Nat.le_of_ble_eq_true rfl) (Nat.le_of_ble_eq_true rfl) (Nat.le_of_ble_eq_true rfl) d_Ce_setRenewTill_44 ?_
    refine t_anyl (fun v14 => ?_)
    refine lv_lstore_n (lv' := [(3, .long v14), (0, .ref h), (1, .long a1)]) X.1 X.2.1 d_Ce_setRenewTill_47 rfl hl (by decide) rfl (fun ls hl => ?_)
    refine lv_aload_n X.1 X.2.1 d_Ce_setRenewTill_48 rfl (lv_at hl 1 rfl) ?_
    refine t_geti (ci := 4) X Y S k0 rfl i_Ce 6 (by decide) rfl lk_Ce_65 (fun _ h9 => h9) d_Ce_setRenewTill_49 (fun z15 e15 l15 u15 => ?_)
    have J17 : ∀ (z16 : Int) (H : Heap) (locs : List Loc) (ls : Array Slot), ((-2147483648) ≤ z16) → (z16 ≤ 2147483647) → pH D cCl (pA L sz) s.heap L f H locs → tS E T (tFr κ L [14] []) κ L f κ L f → lv_has ls 6 [(0, .ref h), (3, .long v14)] → W p l e (kRm 4 130 0 0) s m AV below meth c H locs 0 0 QQ (F0 m 82 ls [.int (iI z16)]) := by
      intro z16 H locs ls l16 u16 Y S hl
      refine lv_istore (lv' := [(5, .int (iI z16)), (0, .ref h), (3, .long v14)]) X.1 X.2.1 d_Ce_setRenewTill_82 hl (by decide) rfl (fun ls hl => ?_)
      refine lv_aload_n X.1 X.2.1 d_Ce_setRenewTill_84 rfl (lv_at hl 1 rfl) ?_
      refine lv_iload X.1 X.2.1 d_Ce_setRenewTill_85 (lv_at hl 0 rfl) ?_
      refine z_if_lt (tgt := 100) X.1 X.2.1 d_Ce_setRenewTill_87 (by decide) ⟨by omega, by omega⟩ (fun h21 => ?_) (fun h21 => ?_)
      · refine lv_lload_n X.1 X.2.1 d_Ce_setRenewTill_100 rfl (lv_at hl 2 rfl) ?_
        refine lv_l2i X.1 X.2.1 d_Ce_setRenewTill_101 rfl ?_
        refine t_u (fun z22 l22 u22 => ?_)
        refine t_put (ci := 4) X Y S k0 rfl i_Ce t_Ce t_Ce_ok n_Ce 15 (by decide) rfl lk_Ce_243 (fun _ h9 => h9) rfl (t_Ce_ok 15 (by decide)) rfl rfl ⟨_, rfl, by omega, by omega⟩ (fun h9 => h9.2.1 (by rw [← (S.2.2.2 _ h9).2, k0]; decide)) d_Ce_setRenewTill_102 (fun f23 H locs Y S w23 => ?_)
        exact c_retv hQQ X Y hr hlk ⟨rfl, S, trivial⟩ d_Ce_setRenewTill_105
      · refine lv_lload_n X.1 X.2.1 d_Ce_setRenewTill_90 rfl (lv_at hl 2 rfl) ?_
        refine lv_iload X.1 X.2.1 d_Ce_setRenewTill_91 (lv_at hl 0 rfl) ?_
        refine lv_i2l X.1 X.2.1 d_Ce_setRenewTill_93 rfl ?_
        refine t_anyl (fun v24 => ?_)
        refine va_mmin_long X.1 X.2.1 (hml.trans hl.1.symm) X.2.2.2.1 (X.2.2.1 _ kl_Ce_mmin_long) (X.2.2.1 _ ks_mmin_long) (X.2.2.1 _ ini_Math) (X.2.2.1 _ ki_mmin_long) (Nat.le_of_ble_eq_true rfl) (Nat.le_of_ble_eq_true rfl) (Nat.le_of_ble_eq_true rfl) (Nat.le_of_ble_eq_true rfl) d_Ce_setRenewTill_94 ?_
        refine t_anyl (fun v25 => ?_)
        refine lv_goto (tgt := 101) X.1 X.2.1 d_Ce_setRenewTill_97 (by decide) ?_
        refine lv_l2i X.1 X.2.1 d_Ce_setRenewTill_101 rfl ?_
        refine t_u (fun z26 l26 u26 => ?_)
        refine t_put (ci := 4) X Y S k0 rfl i_Ce t_Ce t_Ce_ok n_Ce 15 (by decide) rfl lk_Ce_243 (fun _ h9 => h9) rfl (t_Ce_ok 15 (by decide)) rfl rfl ⟨_, rfl, by omega, by omega⟩ (fun h9 => h9.2.1 (by rw [← (S.2.2.2 _ h9).2, k0]; decide)) d_Ce_setRenewTill_102 (fun f27 H locs Y S w27 => ?_)
        exact c_retv hQQ X Y hr hlk ⟨rfl, S, trivial⟩ d_Ce_setRenewTill_105
    refine z_if_eq (tgt := 59) X.1 X.2.1 d_Ce_setRenewTill_52 (by decide) ⟨by omega, by omega⟩ (fun h28 => ?_) (fun h28 => ?_)
    · refine lv_aload_n X.1 X.2.1 d_Ce_setRenewTill_59 rfl (lv_at hl 1 rfl) ?_
      refine t_getr (ci := 4) X Y S k0 rfl i_Ce 1 (by decide) rfl (k1 := 15) (k2 := 0) rfl rfl lk_Ce_22 (fun _ h9 => h9) d_Ce_setRenewTill_60 (fun b29 e29 k29 => ?_)
      refine t_getr (ci := 5) X Y S k29 rfl i_Ga 1 (by decide) rfl (k1 := 13) (k2 := 4000) rfl rfl lk_Ce_140 (fun _ h9 => h9) d_Ce_setRenewTill_63 (fun b30 e30 k30 => ?_)
      refine lv_aload_n X.1 X.2.1 d_Ce_setRenewTill_66 rfl (lv_at hl 1 rfl) ?_
      refine t_get0 (ci := 4) X Y S k0 rfl i_Ce 1 (by decide) rfl lk_Ce_22 (fun _ h9 => h9) d_Ce_setRenewTill_67 e29 ?_
      refine t_get0 (ci := 5) X Y S k29 rfl i_Ga 1 (by decide) rfl lk_Ce_140 (fun _ h9 => h9) d_Ce_setRenewTill_70 e30 ?_
      refine lv_iconst (v := iI 0) X.1 X.2.1 d_Ce_setRenewTill_73 (by decide) ?_
      refine lv_bipush (v := iI 8) X.1 X.2.1 d_Ce_setRenewTill_74 (by decide) ?_
      refine t_ui (t_runV (As := [.int (iI 0), .int (iI 8)]) (rest := [.ref b30]) (n := 2) X Y S k30 hml hl.1 (c_By_field l D E T κ L f H.size b30 4000 k30 (by omega) 0 (by omega) (by omega) 8 (by omega) (by omega) S.1) (ok_k X Y hA KS KR) rfl kl_Ce_By_field ks_By_field kx_By_field ki_By_field ini_By ⟨rfl, rfl⟩ hd_By_field ⟨Nat.le_of_ble_eq_true rfl, Nat.le_of_ble_eq_true rfl⟩ rfl (Nat.le_of_ble_eq_true rfl) d_Ce_setRenewTill_76 ⟨Nat.le_of_ble_eq_true rfl, Nat.le_of_ble_eq_true rfl⟩) X Y hA (fun z31 H locs Y p31 => ?_)
      obtain ⟨l31, u31⟩ := p31
      refine t_ui (t_runV (As := [.int (iI z31)]) (rest := []) (n := 1) X Y S k30 hml hl.1 (c_By_timeAt l D E T κ L f H.size b30 4000 k30 (by omega) z31 (by omega) (by omega) S.1) (ok_k X Y hA KS KR) rfl kl_Ce_By_timeAt ks_By_timeAt kx_By_timeAt ki_By_timeAt ini_By ⟨rfl, rfl⟩ hd_By_timeAt ⟨Nat.le_of_ble_eq_true rfl, Nat.le_of_ble_eq_true rfl⟩ rfl (Nat.le_of_ble_eq_true rfl) d_Ce_setRenewTill_79 ⟨Nat.le_of_ble_eq_true rfl, Nat.le_of_ble_eq_true rfl⟩) X Y hA (fun z32 H locs Y p32 => ?_)
      obtain ⟨l32, u32⟩ := p32
      exact J17 z32 _ _ _ (by omega) (by omega) Y S (lv_sub hl [1, 0] rfl)
    · refine lv_iconst (v := iI (-1)) X.1 X.2.1 d_Ce_setRenewTill_55 (by decide) ?_
      refine lv_goto (tgt := 82) X.1 X.2.1 d_Ce_setRenewTill_56 (by decide) ?_
      exact J17 ((-1)) _ _ _ (by omega) (by omega) Y S (lv_sub hl [1, 0] rfl)
  · refine lv_aload_n X.1 X.2.1 d_Ce_setRenewTill_10 rfl (lv_at hl 0 rfl) ?_
    refine lv_iconst (v := iI (-1)) X.1 X.2.1 d_Ce_setRenewTill_11 (by decide) ?_
    refine t_put (ci := 4) X Y S k0 rfl i_Ce t_Ce t_Ce_ok n_Ce 15 (by decide) rfl lk_Ce_243 (fun _ h9 => h9) rfl (t_Ce_ok 15 (by decide)) rfl rfl ⟨_, rfl, by omega, by omega⟩ (fun h9 => h9.2.1 (by rw [← (S.2.2.2 _ h9).2, k0]; decide)) d_Ce_setRenewTill_12 (fun f33 H locs Y S w33 => ?_)
    exact c_retv hQQ X Y hr hlk ⟨rfl, S, trivial⟩ d_Ce_setRenewTill_15
set_option maxHeartbeats 4000000 in
set_option maxRecDepth 100000 in
theorem c_Ce_setRenewed (l : Launch) (D : va_G) (E : cE) (T : cT) (κ : tK) (L : List Nat) (f : pF) (sz : Nat) (h : Nat) (k0 : κ h = (14, 0)) (hw : tW E T κ L f) : Met l y_Ce_setRenewed (k_Ce_setRenewed :: lw_tg) (kRm 5 151 0 0) (va_Pc [.ref h] (kPre D E T L f sz)) (va_Qi (nPi E T [14] κ L f (fun (z : Int) (g : pF) => (-2147483648) ≤ z ∧ z ≤ 2147483647)) (cPost D E (pA L sz)) (pA L sz)) 0 0 (pA L sz) := by
  refine k_enter (own := R_Ce) (by decide) rfl (Nat.le_of_ble_eq_true rfl) (fun p e s m below meth c ls AV QQ H locs hQQ X Y hA hin hr hlk hml hl KS KR => ?_)
  have hl : lv_has ls 6 [(0, .ref h)] := hl
  have S : tS E T (tFr κ L [14] []) κ L f κ L f := tS_rf hw
  refine lv_aload_n X.1 X.2.1 d_Ce_setRenewed_0 rfl (lv_at hl 0 rfl) ?_
  refine t_getr (ci := 4) X Y S k0 rfl i_Ce 1 (by decide) rfl (k1 := 15) (k2 := 0) rfl rfl lk_Ce_22 (fun _ h9 => h9) d_Ce_setRenewed_1 (fun b1 e1 k1 => ?_)
  refine t_getr (ci := 5) X Y S k1 rfl i_Ga 1 (by decide) rfl (k1 := 13) (k2 := 4000) rfl rfl lk_Ce_140 (fun _ h9 => h9) d_Ce_setRenewed_4 (fun b2 e2 k2 => ?_)
  refine lv_aload_n X.1 X.2.1 d_Ce_setRenewed_7 rfl (lv_at hl 0 rfl) ?_
  refine t_get0 (ci := 4) X Y S k0 rfl i_Ce 1 (by decide) rfl lk_Ce_22 (fun _ h9 => h9) d_Ce_setRenewed_8 e1 ?_
  refine t_get0 (ci := 5) X Y S k1 rfl i_Ga 1 (by decide) rfl lk_Ce_140 (fun _ h9 => h9) d_Ce_setRenewed_11 e2 ?_
  refine lv_iconst (v := iI 0) X.1 X.2.1 d_Ce_setRenewed_14 (by decide) ?_
  refine lv_bipush (v := iI 8) X.1 X.2.1 d_Ce_setRenewed_15 (by decide) ?_
  refine t_ui (t_runV (As := [.int (iI 0), .int (iI 8)]) (rest := [.ref b2]) (n := 2) X Y S k2 hml hl.1 (c_By_field l D E T κ L f H.size b2 4000 k2 (by omega) 0 (by omega) (by omega) 8 (by omega) (by omega) S.1) (ok_k X Y hA KS KR) rfl kl_Ce_By_field ks_By_field kx_By_field ki_By_field ini_By ⟨rfl, rfl⟩ hd_By_field ⟨Nat.le_of_ble_eq_true rfl, Nat.le_of_ble_eq_true rfl⟩ rfl (Nat.le_of_ble_eq_true rfl) d_Ce_setRenewed_17 ⟨Nat.le_of_ble_eq_true rfl, Nat.le_of_ble_eq_true rfl⟩) X Y hA (fun z3 H locs Y p3 => ?_)
  obtain ⟨l3, u3⟩ := p3
  refine t_ui (t_runV (As := [.int (iI z3)]) (rest := []) (n := 1) X Y S k2 hml hl.1 (c_By_timeAt l D E T κ L f H.size b2 4000 k2 (by omega) z3 (by omega) (by omega) S.1) (ok_k X Y hA KS KR) rfl kl_Ce_By_timeAt ks_By_timeAt kx_By_timeAt ki_By_timeAt ini_By ⟨rfl, rfl⟩ hd_By_timeAt ⟨Nat.le_of_ble_eq_true rfl, Nat.le_of_ble_eq_true rfl⟩ rfl (Nat.le_of_ble_eq_true rfl) d_Ce_setRenewed_20 ⟨Nat.le_of_ble_eq_true rfl, Nat.le_of_ble_eq_true rfl⟩) X Y hA (fun z4 H locs Y p4 => ?_)
  obtain ⟨l4, u4⟩ := p4
  refine lv_istore_n (lv' := [(1, .int (iI z4)), (0, .ref h)]) X.1 X.2.1 d_Ce_setRenewed_23 rfl hl (by decide) rfl (fun ls hl => ?_)
  refine lv_aload_n X.1 X.2.1 d_Ce_setRenewed_24 rfl (lv_at hl 1 rfl) ?_
  refine t_get0 (ci := 4) X Y S k0 rfl i_Ce 1 (by decide) rfl lk_Ce_22 (fun _ h9 => h9) d_Ce_setRenewed_25 e1 ?_
  refine t_get0 (ci := 5) X Y S k1 rfl i_Ga 1 (by decide) rfl lk_Ce_140 (fun _ h9 => h9) d_Ce_setRenewed_28 e2 ?_
  refine lv_aload_n X.1 X.2.1 d_Ce_setRenewed_31 rfl (lv_at hl 1 rfl) ?_
  refine t_get0 (ci := 4) X Y S k0 rfl i_Ce 1 (by decide) rfl lk_Ce_22 (fun _ h9 => h9) d_Ce_setRenewed_32 e1 ?_
  refine t_get0 (ci := 5) X Y S k1 rfl i_Ga 1 (by decide) rfl lk_Ce_140 (fun _ h9 => h9) d_Ce_setRenewed_35 e2 ?_
  refine lv_iconst (v := iI 0) X.1 X.2.1 d_Ce_setRenewed_38 (by decide) ?_
  refine lv_bipush (v := iI 7) X.1 X.2.1 d_Ce_setRenewed_39 (by decide) ?_
  refine t_ui (t_runV (As := [.int (iI 0), .int (iI 7)]) (rest := [.ref b2]) (n := 2) X Y S k2 hml hl.1 (c_By_field l D E T κ L f H.size b2 4000 k2 (by omega) 0 (by omega) (by omega) 7 (by omega) (by omega) S.1) (ok_k X Y hA KS KR) rfl kl_Ce_By_field ks_By_field kx_By_field ki_By_field ini_By ⟨rfl, rfl⟩ hd_By_field ⟨Nat.le_of_ble_eq_true rfl, Nat.le_of_ble_eq_true rfl⟩ rfl (Nat.le_of_ble_eq_true rfl) d_Ce_setRenewed_41 ⟨Nat.le_of_ble_eq_true rfl, Nat.le_of_ble_eq_true rfl⟩) X Y hA (fun z5 H locs Y p5 => ?_)
  obtain ⟨l5, u5⟩ := p5
  refine t_ui (t_runV (As := [.int (iI z5)]) (rest := []) (n := 1) X Y S k2 hml hl.1 (c_By_timeAt l D E T κ L f H.size b2 4000 k2 (by omega) z5 (by omega) (by omega) S.1) (ok_k X Y hA KS KR) rfl kl_Ce_By_timeAt ks_By_timeAt kx_By_timeAt ki_By_timeAt ini_By ⟨rfl, rfl⟩ hd_By_timeAt ⟨Nat.le_of_ble_eq_true rfl, Nat.le_of_ble_eq_true rfl⟩ rfl (Nat.le_of_ble_eq_true rfl) d_Ce_setRenewed_44 ⟨Nat.le_of_ble_eq_true rfl, Nat.le_of_ble_eq_true rfl⟩) X Y hA (fun z6 H locs Y p6 => ?_)
  obtain ⟨l6, u6⟩ := p6
  refine lv_i2l X.1 X.2.1 d_Ce_setRenewed_47 rfl ?_
  refine t_anyl (fun v7 => ?_)
  refine lv_aload_n X.1 X.2.1 d_Ce_setRenewed_48 rfl (lv_at hl 1 rfl) ?_
  refine t_get0 (ci := 4) X Y S k0 rfl i_Ce 1 (by decide) rfl lk_Ce_22 (fun _ h9 => h9) d_Ce_setRenewed_49 e1 ?_
  refine t_ui (t_runV (As := []) (rest := [.long v7]) (n := 0) X Y S k1 hml hl.1 (c_Ga_startTime l D E T κ L f H.size b1 k1 S.1) (ok_k X Y hA KS KR) rfl kl_Ce_Ga_startTime ks_Ga_startTime kx_Ga_startTime ki_Ga_startTime ini_Ga ⟨rfl, rfl⟩ hd_Ga_startTime ⟨Nat.le_of_ble_eq_true rfl, Nat.le_of_ble_eq_true rfl⟩ rfl (Nat.le_of_ble_eq_true rfl) d_Ce_setRenewed_52 ⟨Nat.le_of_ble_eq_true rfl, Nat.le_of_ble_eq_true rfl⟩) X Y hA (fun z8 H locs Y p8 => ?_)
  obtain ⟨l8, u8⟩ := p8
  refine lv_i2l X.1 X.2.1 d_Ce_setRenewed_55 rfl ?_
  refine t_anyl (fun v9 => ?_)
  refine lv_lsub X.1 X.2.1 d_Ce_setRenewed_56 ?_
  refine t_anyl (fun v10 => ?_)
  refine lv_lstore_n (lv' := [(2, .long v10), (1, .int (iI z4)), (0, .ref h)]) X.1 X.2.1 d_Ce_setRenewed_57 rfl hl (by decide) rfl (fun ls hl => ?_)
  refine lv_aload_n X.1 X.2.1 d_Ce_setRenewed_58 rfl (lv_at hl 2 rfl) ?_
  refine t_getr (ci := 4) X Y S k0 rfl i_Ce 0 (by decide) rfl (k1 := 21) (k2 := 0) rfl rfl lk_Ce_18 (fun _ h9 => h9) d_Ce_setRenewed_59 (fun b11 e11 k11 => ?_)
  refine t_geti (ci := 11) X Y S k11 rfl i_Va 0 (by decide) rfl lk_Ce_112 (fun _ h9 => h9) d_Ce_setRenewed_62 (fun z12 e12 l12 u12 => ?_)
  refine lv_i2l X.1 X.2.1 d_Ce_setRenewed_65 rfl ?_
  refine t_anyl (fun v13 => ?_)
  refine lv_lload_n X.1 X.2.1 d_Ce_setRenewed_66 rfl (lv_at hl 0 rfl) ?_
  refine lv_ladd X.1 X.2.1 d_Ce_setRenewed_67 ?_
  refine t_anyl (fun v14 => ?_)
  refine lv_iload_n X.1 X.2.1 d_Ce_setRenewed_68 rfl (lv_at hl 1 rfl) ?_
  refine lv_i2l X.1 X.2.1 d_Ce_setRenewed_69 rfl ?_
  refine t_anyl (fun v15 => ?_)
  refine va_mmin_long X.1 X.2.1 (hml.trans hl.1.symm) X.2.2.2.1 (X.2.2.1 _ kl_Ce_mmin_long) (X.2.2.1 _ ks_mmin_long) (X.2.2.1 _ ini_Math) (X.2.2.1 _ ki_mmin_long) (Nat.le_of_ble_eq_true rfl) (Nat.le_of_ble_eq_true rfl) (Nat.le_of_ble_eq_true rfl) (Nat.le_of_ble_eq_true rfl) d_Ce_setRenewed_70 ?_
  refine t_anyl (fun v16 => ?_)
  refine lv_lstore (lv' := [(4, .long v16), (2, .long v10), (1, .int (iI z4)), (0, .ref h)]) X.1 X.2.1 d_Ce_setRenewed_73 hl (by decide) rfl (fun ls hl => ?_)
  refine lv_aload_n X.1 X.2.1 d_Ce_setRenewed_75 rfl (lv_at hl 3 rfl) ?_
  refine lv_lconst (v := 0) X.1 X.2.1 d_Ce_setRenewed_76 rfl ?_
  refine lv_lload X.1 X.2.1 d_Ce_setRenewed_77 (lv_at hl 0 rfl) ?_
  refine va_mmax_long X.1 X.2.1 (hml.trans hl.1.symm) X.2.2.2.1 (X.2.2.1 _ kl_Ce_mmax_long) (X.2.2.1 _ ks_mmax_long) (X.2.2.1 _ ini_Math) (X.2.2.1 _ ki_mmax_long) (Nat.le_of_ble_eq_true rfl) (Nat.le_of_ble_eq_true rfl) (Nat.le_of_ble_eq_true rfl) (Nat.le_of_ble_eq_true rfl) d_Ce_setRenewed_79 ?_
  refine t_anyl (fun v17 => ?_)
  refine lv_l2i X.1 X.2.1 d_Ce_setRenewed_82 rfl ?_
  refine t_u (fun z18 l18 u18 => ?_)
  refine t_put (ci := 4) X Y S k0 rfl i_Ce t_Ce t_Ce_ok n_Ce 14 (by decide) rfl lk_Ce_226 (fun _ h9 => h9) rfl (t_Ce_ok 14 (by decide)) rfl rfl ⟨_, rfl, by omega, by omega⟩ (fun h9 => h9.2.1 (by rw [← (S.2.2.2 _ h9).2, k0]; decide)) d_Ce_setRenewed_83 (fun f19 H locs Y S w19 => ?_)
  refine lv_aload_n X.1 X.2.1 d_Ce_setRenewed_86 rfl (lv_at hl 3 rfl) ?_
  refine lv_iload_n X.1 X.2.1 d_Ce_setRenewed_87 rfl (lv_at hl 2 rfl) ?_
  refine t_put (ci := 4) X Y S k0 rfl i_Ce t_Ce t_Ce_ok n_Ce 15 (by decide) rfl lk_Ce_243 (fun _ h9 => h9) rfl (t_Ce_ok 15 (by decide)) rfl rfl ⟨_, rfl, by omega, by omega⟩ (fun h9 => h9.2.1 (by rw [← (S.2.2.2 _ h9).2, k0]; decide)) d_Ce_setRenewed_88 (fun f20 H locs Y S w20 => ?_)
  refine lv_aload_n X.1 X.2.1 d_Ce_setRenewed_91 rfl (lv_at hl 3 rfl) ?_
  refine lv_aload_n X.1 X.2.1 d_Ce_setRenewed_92 rfl (lv_at hl 3 rfl) ?_
  refine t_ui (t_runV (As := []) (rest := [.ref h]) (n := 0) X Y S k0 hml hl.1 (c_Ce_ticketFlags l D E T κ L f20 H.size h k0 S.1) (ok_k X Y hA KS KR) rfl kl_Ce_Ce_ticketFlags ks_Ce_ticketFlags kx_Ce_ticketFlags ki_Ce_ticketFlags ini_Ce ⟨rfl, rfl⟩ hd_Ce_ticketFlags ⟨Nat.le_of_ble_eq_true rfl, Nat.le_of_ble_eq_true rfl⟩ rfl (Nat.le_of_ble_eq_true rfl) d_Ce_setRenewed_93 ⟨Nat.le_of_ble_eq_true rfl, Nat.le_of_ble_eq_true rfl⟩) X Y hA (fun z21 H locs Y p21 => ?_)
  obtain ⟨l21, u21⟩ := p21
  refine lv_ldc (v := (-4194305)) X.1 X.2.1 X.2.2.2.1 (X.2.2.1 _ cn_Ce_246) d_Ce_setRenewed_96 ?_
  refine t_eq (y := iI (-4194305)) (by decide) ?_
  refine lv_iand X.1 X.2.1 d_Ce_setRenewed_98 ?_
  refine t_u (fun z23 l23 u23 => ?_)
  refine t_put (ci := 4) X Y S k0 rfl i_Ce t_Ce t_Ce_ok n_Ce 13 (by decide) rfl lk_Ce_247 (fun _ h9 => h9) rfl (t_Ce_ok 13 (by decide)) rfl rfl ⟨_, rfl, by omega, by omega⟩ (fun h9 => h9.2.1 (by rw [← (S.2.2.2 _ h9).2, k0]; decide)) d_Ce_setRenewed_99 (fun f24 H locs Y S w24 => ?_)
  refine lv_lload X.1 X.2.1 d_Ce_setRenewed_102 (lv_at hl 0 rfl) ?_
  refine lv_aload_n X.1 X.2.1 d_Ce_setRenewed_104 rfl (lv_at hl 3 rfl) ?_
  refine t_get0 (ci := 4) X Y S k0 rfl i_Ce 0 (by decide) rfl lk_Ce_18 (fun _ h9 => h9) d_Ce_setRenewed_105 ((gF_put w24 (Or.inr (by decide))).trans ((gF_put w20 (Or.inr (by decide))).trans ((gF_put w19 (Or.inr (by decide))).trans e11))) ?_
  refine t_get0 (ci := 11) X Y S k11 rfl i_Va 0 (by decide) rfl lk_Ce_112 (fun _ h9 => h9) d_Ce_setRenewed_108 ((gF_put w24 (Or.inr (by decide))).trans ((gF_put w20 (Or.inr (by decide))).trans ((gF_put w19 (Or.inr (by decide))).trans e12))) ?_
  refine lv_i2l X.1 X.2.1 d_Ce_setRenewed_111 rfl ?_
  refine t_anyl (fun v25 => ?_)
  refine W.lcmp X.1 X.2.1 d_Ce_setRenewed_112 ?_
  refine t_u (fun z26 l26 u26 => ?_)
  refine z_if_gt (tgt := 121) X.1 X.2.1 d_Ce_setRenewed_113 (by decide) ⟨by omega, by omega⟩ (fun h27 => ?_) (fun h27 => ?_)
  · refine lv_iconst (v := iI 0) X.1 X.2.1 d_Ce_setRenewed_121 (by decide) ?_
    exact c_reti hQQ X Y hr hlk ⟨rfl, S, 0, rfl, ⟨by omega, by omega⟩⟩ d_Ce_setRenewed_122
  · refine lv_bipush (v := iI 11) X.1 X.2.1 d_Ce_setRenewed_116 (by decide) ?_
    refine lv_goto (tgt := 122) X.1 X.2.1 d_Ce_setRenewed_118 (by decide) ?_
    exact c_reti hQQ X Y hr hlk ⟨rfl, S, 11, rfl, ⟨by omega, by omega⟩⟩ d_Ce_setRenewed_122
set_option maxHeartbeats 4000000 in
set_option maxRecDepth 100000 in
theorem c_Ce_setTimes (l : Launch) (D : va_G) (E : cE) (T : cT) (κ : tK) (L : List Nat) (f : pF) (sz : Nat) (h : Nat) (k0 : κ h = (14, 0)) (hw : tW E T κ L f) : Met l y_Ce_setTimes (k_Ce_setTimes :: lw_tg) (kRm 6 176 0 0) (va_Pc [.ref h] (kPre D E T L f sz)) (va_Qi (nPi E T [14] κ L f (fun (z : Int) (g : pF) => (-2147483648) ≤ z ∧ z ≤ 2147483647)) (cPost D E (pA L sz)) (pA L sz)) 0 0 (pA L sz) := by
  refine k_enter (own := R_Ce) (by decide) rfl (Nat.le_of_ble_eq_true rfl) (fun p e s m below meth c ls AV QQ H locs hQQ X Y hA hin hr hlk hml hl KS KR => ?_)
  have hl : lv_has ls 6 [(0, .ref h)] := hl
  have S : tS E T (tFr κ L [14] []) κ L f κ L f := tS_rf hw
  refine lv_aload_n X.1 X.2.1 d_Ce_setTimes_0 rfl (lv_at hl 0 rfl) ?_
  refine t_geti (ci := 4) X Y S k0 rfl i_Ce 6 (by decide) rfl lk_Ce_65 (fun _ h9 => h9) d_Ce_setTimes_1 (fun z1 e1 l1 u1 => ?_)
  have J2 : ∀  (H : Heap) (locs : List Loc) (ls : Array Slot), pH D cCl (pA L sz) s.heap L f H locs → tS E T (tFr κ L [14] []) κ L f κ L f → lv_has ls 6 [(0, .ref h)] → W p l e (kRm 6 176 0 0) s m AV below meth c H locs 0 0 QQ (F0 m 20 ls []) := by
    intro  H locs ls  Y S hl
    refine lv_aload_n X.1 X.2.1 d_Ce_setTimes_20 rfl (lv_at hl 0 rfl) ?_
    refine lv_iconst (v := iI 5) X.1 X.2.1 d_Ce_setTimes_21 (by decide) ?_
    refine t_ul (t_runV (As := [.int (iI 5)]) (rest := []) (n := 1) X Y S k0 hml hl.1 (c_Ce_timeAsked l D E T κ L f H.size h k0 5 (by omega) (by omega) S.1) (ok_k X Y hA KS KR) rfl kl_Ce_Ce_timeAsked ks_Ce_timeAsked kx_Ce_timeAsked ki_Ce_timeAsked ini_Ce ⟨rfl, rfl⟩ hd_Ce_timeAsked ⟨Nat.le_of_ble_eq_true rfl, Nat.le_of_ble_eq_true rfl⟩ rfl (Nat.le_of_ble_eq_true rfl) d_Ce_setTimes_22 ⟨Nat.le_of_ble_eq_true rfl, Nat.le_of_ble_eq_true rfl⟩) X Y hA (fun v6 H locs Y p6 => ?_)
    refine lv_lstore_n (lv' := [(1, .long v6), (0, .ref h)]) X.1 X.2.1 d_Ce_setTimes_25 rfl hl (by decide) rfl (fun ls hl => ?_)
    refine lv_lload_n X.1 X.2.1 d_Ce_setTimes_26 rfl (lv_at hl 0 rfl) ?_
    refine lv_aload_n X.1 X.2.1 d_Ce_setTimes_27 rfl (lv_at hl 1 rfl) ?_
    refine t_getr (ci := 4) X Y S k0 rfl i_Ce 0 (by decide) rfl (k1 := 21) (k2 := 0) rfl rfl lk_Ce_18 (fun _ h9 => h9) d_Ce_setTimes_28 (fun b7 e7 k7 => ?_)
    refine t_geti (ci := 11) X Y S k7 rfl i_Va 0 (by decide) rfl lk_Ce_112 (fun _ h9 => h9) d_Ce_setTimes_31 (fun z8 e8 l8 u8 => ?_)
    refine lv_i2l X.1 X.2.1 d_Ce_setTimes_34 rfl ?_
    refine t_anyl (fun v9 => ?_)
    refine lv_aload_n X.1 X.2.1 d_Ce_setTimes_35 rfl (lv_at hl 1 rfl) ?_
    refine t_getr (ci := 4) X Y S k0 rfl i_Ce 10 (by decide) rfl (k1 := 17) (k2 := 0) rfl rfl lk_Ce_37 (fun _ h9 => h9) d_Ce_setTimes_36 (fun b10 e10 k10 => ?_)
    refine t_geti (ci := 7) X Y S k10 rfl i_Pr 9 (by decide) rfl lk_Ce_217 (fun _ h9 => h9) d_Ce_setTimes_39 (fun z11 e11 l11 u11 => ?_)
    refine lv_aload_n X.1 X.2.1 d_Ce_setTimes_42 rfl (lv_at hl 1 rfl) ?_
    refine t_getr (ci := 4) X Y S k0 rfl i_Ce 11 (by decide) rfl (k1 := 17) (k2 := 0) rfl rfl lk_Ce_41 (fun _ h9 => h9) d_Ce_setTimes_43 (fun b12 e12 k12 => ?_)
    refine t_geti (ci := 7) X Y S k12 rfl i_Pr 9 (by decide) rfl lk_Ce_217 (fun _ h9 => h9) d_Ce_setTimes_46 (fun z13 e13 l13 u13 => ?_)
    refine z_min X.1 X.2.1 (hml.trans hl.1.symm) X.2.2.2.1 (X.2.2.1 _ kl_Ce_mmin) (X.2.2.1 _ ks_mmin) (X.2.2.1 _ ini_Math) (X.2.2.1 _ ki_mmin) (Nat.le_of_ble_eq_true rfl) (Nat.le_of_ble_eq_true rfl) (Nat.le_of_ble_eq_true rfl) (Nat.le_of_ble_eq_true rfl) ⟨by omega, by omega⟩ ⟨by omega, by omega⟩ d_Ce_setTimes_49 (fun z14 l14 u14 x14 => ?_)
    refine lv_i2l X.1 X.2.1 d_Ce_setTimes_52 rfl ?_
    refine t_anyl (fun v15 => ?_)
    refine lv_ladd X.1 X.2.1 d_Ce_setTimes_53 ?_
    refine t_anyl (fun v16 => ?_)
    refine va_mmin_long X.1 X.2.1 (hml.trans hl.1.symm) X.2.2.2.1 (X.2.2.1 _ kl_Ce_mmin_long) (X.2.2.1 _ ks_mmin_long) (X.2.2.1 _ ini_Math) (X.2.2.1 _ ki_mmin_long) (Nat.le_of_ble_eq_true rfl) (Nat.le_of_ble_eq_true rfl) (Nat.le_of_ble_eq_true rfl) (Nat.le_of_ble_eq_true rfl) d_Ce_setTimes_54 ?_
    refine t_anyl (fun v17 => ?_)
    refine lv_lstore_n (lv' := [(3, .long v17), (1, .long v6), (0, .ref h)]) X.1 X.2.1 d_Ce_setTimes_57 rfl hl (by decide) rfl (fun ls hl => ?_)
    refine lv_aload_n X.1 X.2.1 d_Ce_setTimes_58 rfl (lv_at hl 2 rfl) ?_
    refine t_get0 (ci := 4) X Y S k0 rfl i_Ce 6 (by decide) rfl lk_Ce_65 (fun _ h9 => h9) d_Ce_setTimes_59 e1 ?_
    have J19 : ∀ (v18 : Int64) (H : Heap) (locs : List Loc) (ls : Array Slot), pH D cCl (pA L sz) s.heap L f H locs → tS E T (tFr κ L [14] []) κ L f κ L f → lv_has ls 6 [(0, .ref h), (1, .long v6), (3, .long v18)] → W p l e (kRm 6 176 0 0) s m AV below meth c H locs 0 0 QQ (F0 m 94 ls []) := by
      intro v18 H locs ls  Y S hl
      refine lv_lload_n X.1 X.2.1 d_Ce_setTimes_94 rfl (lv_at hl 2 rfl) ?_
      refine lv_aload_n X.1 X.2.1 d_Ce_setTimes_95 rfl (lv_at hl 0 rfl) ?_
      refine t_get0 (ci := 4) X Y S k0 rfl i_Ce 0 (by decide) rfl lk_Ce_18 (fun _ h9 => h9) d_Ce_setTimes_96 e7 ?_
      refine t_get0 (ci := 11) X Y S k7 rfl i_Va 0 (by decide) rfl lk_Ce_112 (fun _ h9 => h9) d_Ce_setTimes_99 e8 ?_
      refine lv_i2l X.1 X.2.1 d_Ce_setTimes_102 rfl ?_
      refine t_anyl (fun v23 => ?_)
      refine W.lcmp X.1 X.2.1 d_Ce_setTimes_103 ?_
      refine t_u (fun z24 l24 u24 => ?_)
      refine z_if_gt (tgt := 110) X.1 X.2.1 d_Ce_setTimes_104 (by decide) ⟨by omega, by omega⟩ (fun h25 => ?_) (fun h25 => ?_)
      · refine lv_aload_n X.1 X.2.1 d_Ce_setTimes_110 rfl (lv_at hl 0 rfl) ?_
        refine lv_lload_n X.1 X.2.1 d_Ce_setTimes_111 rfl (lv_at hl 2 rfl) ?_
        refine lv_l2i X.1 X.2.1 d_Ce_setTimes_112 rfl ?_
        refine t_u (fun z26 l26 u26 => ?_)
        refine t_put (ci := 4) X Y S k0 rfl i_Ce t_Ce t_Ce_ok n_Ce 14 (by decide) rfl lk_Ce_226 (fun _ h9 => h9) rfl (t_Ce_ok 14 (by decide)) rfl rfl ⟨_, rfl, by omega, by omega⟩ (fun h9 => h9.2.1 (by rw [← (S.2.2.2 _ h9).2, k0]; decide)) d_Ce_setTimes_113 (fun f27 H locs Y S w27 => ?_)
        refine lv_aload_n X.1 X.2.1 d_Ce_setTimes_116 rfl (lv_at hl 0 rfl) ?_
        refine lv_bipush (v := iI 16) X.1 X.2.1 d_Ce_setTimes_117 (by decide) ?_
        refine t_ui (t_runV (As := [.int (iI 16)]) (rest := []) (n := 1) X Y S k0 hml hl.1 (c_Ce_asks l D E T κ L f27 H.size h k0 16 (by omega) (by omega) S.1) (ok_k X Y hA KS KR) rfl kl_Ce_Ce_asks ks_Ce_asks kx_Ce_asks ki_Ce_asks ini_Ce ⟨rfl, rfl⟩ hd_Ce_asks ⟨Nat.le_of_ble_eq_true rfl, Nat.le_of_ble_eq_true rfl⟩ rfl (Nat.le_of_ble_eq_true rfl) d_Ce_setTimes_119 ⟨Nat.le_of_ble_eq_true rfl, Nat.le_of_ble_eq_true rfl⟩) X Y hA (fun z28 H locs Y p28 => ?_)
        obtain ⟨l28, u28⟩ := p28
        have J30 : ∀ (z29 : Int) (H : Heap) (locs : List Loc) (ls : Array Slot), (0 ≤ z29) → (z29 ≤ 1) → pH D cCl (pA L sz) s.heap L f27 H locs → tS E T (tFr κ L [14] []) κ L f κ L f27 → lv_has ls 6 [(0, .ref h), (1, .long v6)] → W p l e (kRm 6 176 0 0) s m AV below meth c H locs 0 0 QQ (F0 m 136 ls [.int (iI z29)]) := by
          intro z29 H locs ls l29 u29 Y S hl
          refine lv_istore (lv' := [(5, .int (iI z29)), (0, .ref h), (1, .long v6)]) X.1 X.2.1 d_Ce_setTimes_136 hl (by decide) rfl (fun ls hl => ?_)
          refine lv_aload_n X.1 X.2.1 d_Ce_setTimes_138 rfl (lv_at hl 1 rfl) ?_
          refine lv_aload_n X.1 X.2.1 d_Ce_setTimes_139 rfl (lv_at hl 1 rfl) ?_
          refine lv_ldc (v := (8388608)) X.1 X.2.1 X.2.2.2.1 (X.2.2.1 _ cn_Ce_208) d_Ce_setTimes_140 ?_
          refine t_eq (y := iI 8388608) (by decide) ?_
          refine t_ui (t_runV (As := [.int (iI 8388608)]) (rest := [.ref h]) (n := 1) X Y S k0 hml hl.1 (c_Ce_asks l D E T κ L f27 H.size h k0 8388608 (by omega) (by omega) S.1) (ok_k X Y hA KS KR) rfl kl_Ce_Ce_asks ks_Ce_asks kx_Ce_asks ki_Ce_asks ini_Ce ⟨rfl, rfl⟩ hd_Ce_asks ⟨Nat.le_of_ble_eq_true rfl, Nat.le_of_ble_eq_true rfl⟩ rfl (Nat.le_of_ble_eq_true rfl) d_Ce_setTimes_142 ⟨Nat.le_of_ble_eq_true rfl, Nat.le_of_ble_eq_true rfl⟩) X Y hA (fun z34 H locs Y p34 => ?_)
          obtain ⟨l34, u34⟩ := p34
          have J36 : ∀ (z35 : Int) (H : Heap) (locs : List Loc) (ls : Array Slot), (0 ≤ z35) → (z35 ≤ 1) → pH D cCl (pA L sz) s.heap L f27 H locs → tS E T (tFr κ L [14] []) κ L f κ L f27 → lv_has ls 6 [(0, .ref h), (1, .long v6)] → W p l e (kRm 6 176 0 0) s m AV below meth c H locs 0 0 QQ (F0 m 158 ls [.int (iI z35), .ref h]) := by
            intro z35 H locs ls l35 u35 Y S hl
            refine t_nv (t_runV (As := [.int (iI z35)]) (rest := []) (n := 1) X Y S k0 hml hl.1 (c_Ce_setFlags l D E T κ L f27 H.size h k0 z35 (by omega) (by omega) S.1) (ok_k X Y hA KS KR) rfl kl_Ce_Ce_setFlags ks_Ce_setFlags kx_Ce_setFlags ki_Ce_setFlags ini_Ce ⟨rfl, rfl⟩ hd_Ce_setFlags ⟨Nat.le_of_ble_eq_true rfl, Nat.le_of_ble_eq_true rfl⟩ rfl (Nat.le_of_ble_eq_true rfl) d_Ce_setTimes_158 ⟨Nat.le_of_ble_eq_true rfl, Nat.le_of_ble_eq_true rfl⟩) X Y hA S (by decide) (fun f40 H locs Y S s40 p40 => ?_)
            refine lv_aload_n X.1 X.2.1 d_Ce_setTimes_161 rfl (lv_at hl 0 rfl) ?_
            refine lv_aload_n X.1 X.2.1 d_Ce_setTimes_162 rfl (lv_at hl 0 rfl) ?_
            refine lv_ldc (v := (8388608)) X.1 X.2.1 X.2.2.2.1 (X.2.2.1 _ cn_Ce_208) d_Ce_setTimes_163 ?_
            refine t_eq (y := iI 8388608) (by decide) ?_
            refine t_ui (t_runV (As := [.int (iI 8388608)]) (rest := [.ref h]) (n := 1) X Y S k0 hml hl.1 (c_Ce_asks l D E T κ L f40 H.size h k0 8388608 (by omega) (by omega) S.1) (ok_k X Y hA KS KR) rfl kl_Ce_Ce_asks ks_Ce_asks kx_Ce_asks ki_Ce_asks ini_Ce ⟨rfl, rfl⟩ hd_Ce_asks ⟨Nat.le_of_ble_eq_true rfl, Nat.le_of_ble_eq_true rfl⟩ rfl (Nat.le_of_ble_eq_true rfl) d_Ce_setTimes_165 ⟨Nat.le_of_ble_eq_true rfl, Nat.le_of_ble_eq_true rfl⟩) X Y hA (fun z41 H locs Y p41 => ?_)
            obtain ⟨l41, u41⟩ := p41
            have J43 : ∀ (v42 : Int64) (H : Heap) (locs : List Loc) (ls : Array Slot), pH D cCl (pA L sz) s.heap L f40 H locs → tS E T (tFr κ L [14] []) κ L f κ L f40 → lv_has ls 6 [] → W p l e (kRm 6 176 0 0) s m AV below meth c H locs 0 0 QQ (F0 m 181 ls [.long v42, .ref h]) := by
              intro v42 H locs ls  Y S hl
              refine t_nv (t_runV (As := [.long v42]) (rest := []) (n := 1) X Y S k0 hml hl.1 (c_Ce_setRenewTill l D E T κ L f40 H.size h k0 v42 S.1) (ok_k X Y hA KS KR) rfl kl_Ce_Ce_setRenewTill ks_Ce_setRenewTill kx_Ce_setRenewTill ki_Ce_setRenewTill ini_Ce ⟨rfl, rfl⟩ hd_Ce_setRenewTill ⟨Nat.le_of_ble_eq_true rfl, Nat.le_of_ble_eq_true rfl⟩ rfl (Nat.le_of_ble_eq_true rfl) d_Ce_setTimes_181 ⟨Nat.le_of_ble_eq_true rfl, Nat.le_of_ble_eq_true rfl⟩) X Y hA S (by decide) (fun f47 H locs Y S s47 p47 => ?_)
              refine lv_iconst (v := iI 0) X.1 X.2.1 d_Ce_setTimes_184 (by decide) ?_
              exact c_reti hQQ X Y hr hlk ⟨rfl, S, 0, rfl, ⟨by omega, by omega⟩⟩ d_Ce_setTimes_185
            refine z_if_eq (tgt := 180) X.1 X.2.1 d_Ce_setTimes_168 (by decide) ⟨by omega, by omega⟩ (fun h48 => ?_) (fun h48 => ?_)
            · refine lv_lload_n X.1 X.2.1 d_Ce_setTimes_180 rfl (lv_at hl 1 rfl) ?_
              exact J43 v6 _ _ _  Y S (lv_sub hl [] rfl)
            · refine lv_aload_n X.1 X.2.1 d_Ce_setTimes_171 rfl (lv_at hl 0 rfl) ?_
              refine lv_bipush (v := iI 6) X.1 X.2.1 d_Ce_setTimes_172 (by decide) ?_
              refine t_ul (t_runV (As := [.int (iI 6)]) (rest := [.ref h]) (n := 1) X Y S k0 hml hl.1 (c_Ce_timeAsked l D E T κ L f40 H.size h k0 6 (by omega) (by omega) S.1) (ok_k X Y hA KS KR) rfl kl_Ce_Ce_timeAsked ks_Ce_timeAsked kx_Ce_timeAsked ki_Ce_timeAsked ini_Ce ⟨rfl, rfl⟩ hd_Ce_timeAsked ⟨Nat.le_of_ble_eq_true rfl, Nat.le_of_ble_eq_true rfl⟩ rfl (Nat.le_of_ble_eq_true rfl) d_Ce_setTimes_174 ⟨Nat.le_of_ble_eq_true rfl, Nat.le_of_ble_eq_true rfl⟩) X Y hA (fun v49 H locs Y p49 => ?_)
              refine lv_goto (tgt := 181) X.1 X.2.1 d_Ce_setTimes_177 (by decide) ?_
              exact J43 v49 _ _ _  Y S (lv_sub hl [] rfl)
          have J50 : ∀  (H : Heap) (locs : List Loc) (ls : Array Slot), pH D cCl (pA L sz) s.heap L f27 H locs → tS E T (tFr κ L [14] []) κ L f κ L f27 → lv_has ls 6 [(0, .ref h), (1, .long v6)] → W p l e (kRm 6 176 0 0) s m AV below meth c H locs 0 0 QQ (F0 m 153 ls [.ref h]) := by
            intro  H locs ls  Y S hl
            refine lv_iconst (v := iI 1) X.1 X.2.1 d_Ce_setTimes_153 (by decide) ?_
            refine lv_goto (tgt := 158) X.1 X.2.1 d_Ce_setTimes_154 (by decide) ?_
            exact J36 1 _ _ _ (by omega) (by omega) Y S (lv_sub hl [0, 1] rfl)
          refine z_if_ne (tgt := 153) X.1 X.2.1 d_Ce_setTimes_145 (by decide) ⟨by omega, by omega⟩ (fun h54 => ?_) (fun h54 => ?_)
          · exact J50  _ _ _  Y S (lv_sub hl [1, 2] rfl)
          · refine lv_iload X.1 X.2.1 d_Ce_setTimes_148 (lv_at hl 0 rfl) ?_
            refine z_if_eq (tgt := 157) X.1 X.2.1 d_Ce_setTimes_150 (by decide) ⟨by omega, by omega⟩ (fun h55 => ?_) (fun h55 => ?_)
            · refine lv_iconst (v := iI 0) X.1 X.2.1 d_Ce_setTimes_157 (by decide) ?_
              exact J36 0 _ _ _ (by omega) (by omega) Y S (lv_sub hl [1, 2] rfl)
            · exact J50  _ _ _  Y S (lv_sub hl [1, 2] rfl)
        have J56 : ∀  (H : Heap) (locs : List Loc) (ls : Array Slot), pH D cCl (pA L sz) s.heap L f27 H locs → tS E T (tFr κ L [14] []) κ L f κ L f27 → lv_has ls 6 [(0, .ref h), (1, .long v6)] → W p l e (kRm 6 176 0 0) s m AV below meth c H locs 0 0 QQ (F0 m 135 ls []) := by
          intro  H locs ls  Y S hl
          refine lv_iconst (v := iI 0) X.1 X.2.1 d_Ce_setTimes_135 (by decide) ?_
          exact J30 0 _ _ _ (by omega) (by omega) Y S (lv_sub hl [0, 1] rfl)
        refine z_if_eq (tgt := 135) X.1 X.2.1 d_Ce_setTimes_122 (by decide) ⟨by omega, by omega⟩ (fun h60 => ?_) (fun h60 => ?_)
        · exact J56  _ _ _  Y S (lv_sub hl [0, 1] rfl)
        · refine lv_lload_n X.1 X.2.1 d_Ce_setTimes_125 rfl (lv_at hl 1 rfl) ?_
          refine lv_lload_n X.1 X.2.1 d_Ce_setTimes_126 rfl (lv_at hl 2 rfl) ?_
          refine W.lcmp X.1 X.2.1 d_Ce_setTimes_127 ?_
          refine t_u (fun z61 l61 u61 => ?_)
          refine z_if_le (tgt := 135) X.1 X.2.1 d_Ce_setTimes_128 (by decide) ⟨by omega, by omega⟩ (fun h62 => ?_) (fun h62 => ?_)
          · exact J56  _ _ _  Y S (lv_sub hl [0, 1] rfl)
          · refine lv_iconst (v := iI 1) X.1 X.2.1 d_Ce_setTimes_131 (by decide) ?_
            refine lv_goto (tgt := 136) X.1 X.2.1 d_Ce_setTimes_132 (by decide) ?_
            exact J30 1 _ _ _ (by omega) (by omega) Y S (lv_sub hl [0, 1] rfl)
      · refine lv_bipush (v := iI 11) X.1 X.2.1 d_Ce_setTimes_107 (by decide) ?_
        exact c_reti hQQ X Y hr hlk ⟨rfl, S, 11, rfl, ⟨by omega, by omega⟩⟩ d_Ce_setTimes_109
    refine z_if_ne (tgt := 94) X.1 X.2.1 d_Ce_setTimes_62 (by decide) ⟨by omega, by omega⟩ (fun h63 => ?_) (fun h63 => ?_)
    · exact J19 v17 _ _ _  Y S (lv_sub hl [2, 1, 0] rfl)
    · refine lv_lload_n X.1 X.2.1 d_Ce_setTimes_65 rfl (lv_at hl 0 rfl) ?_
      refine lv_aload_n X.1 X.2.1 d_Ce_setTimes_66 rfl (lv_at hl 2 rfl) ?_
      refine t_getr (ci := 4) X Y S k0 rfl i_Ce 1 (by decide) rfl (k1 := 15) (k2 := 0) rfl rfl lk_Ce_22 (fun _ h9 => h9) d_Ce_setTimes_67 (fun b64 e64 k64 => ?_)
      refine t_getr (ci := 5) X Y S k64 rfl i_Ga 1 (by decide) rfl (k1 := 13) (k2 := 4000) rfl rfl lk_Ce_140 (fun _ h9 => h9) d_Ce_setTimes_70 (fun b65 e65 k65 => ?_)
      refine lv_aload_n X.1 X.2.1 d_Ce_setTimes_73 rfl (lv_at hl 2 rfl) ?_
      refine t_get0 (ci := 4) X Y S k0 rfl i_Ce 1 (by decide) rfl lk_Ce_22 (fun _ h9 => h9) d_Ce_setTimes_74 e64 ?_
      refine t_get0 (ci := 5) X Y S k64 rfl i_Ga 1 (by decide) rfl lk_Ce_140 (fun _ h9 => h9) d_Ce_setTimes_77 e65 ?_
      refine lv_iconst (v := iI 0) X.1 X.2.1 d_Ce_setTimes_80 (by decide) ?_
      refine lv_bipush (v := iI 7) X.1 X.2.1 d_Ce_setTimes_81 (by decide) ?_
      refine t_ui (t_runV (As := [.int (iI 0), .int (iI 7)]) (rest := [.ref b65, .long v17]) (n := 2) X Y S k65 hml hl.1 (c_By_field l D E T κ L f H.size b65 4000 k65 (by omega) 0 (by omega) (by omega) 7 (by omega) (by omega) S.1) (ok_k X Y hA KS KR) rfl kl_Ce_By_field ks_By_field kx_By_field ki_By_field ini_By ⟨rfl, rfl⟩ hd_By_field ⟨Nat.le_of_ble_eq_true rfl, Nat.le_of_ble_eq_true rfl⟩ rfl (Nat.le_of_ble_eq_true rfl) d_Ce_setTimes_83 ⟨Nat.le_of_ble_eq_true rfl, Nat.le_of_ble_eq_true rfl⟩) X Y hA (fun z66 H locs Y p66 => ?_)
      obtain ⟨l66, u66⟩ := p66
      refine t_ui (t_runV (As := [.int (iI z66)]) (rest := [.long v17]) (n := 1) X Y S k65 hml hl.1 (c_By_timeAt l D E T κ L f H.size b65 4000 k65 (by omega) z66 (by omega) (by omega) S.1) (ok_k X Y hA KS KR) rfl kl_Ce_By_timeAt ks_By_timeAt kx_By_timeAt ki_By_timeAt ini_By ⟨rfl, rfl⟩ hd_By_timeAt ⟨Nat.le_of_ble_eq_true rfl, Nat.le_of_ble_eq_true rfl⟩ rfl (Nat.le_of_ble_eq_true rfl) d_Ce_setTimes_86 ⟨Nat.le_of_ble_eq_true rfl, Nat.le_of_ble_eq_true rfl⟩) X Y hA (fun z67 H locs Y p67 => ?_)
      obtain ⟨l67, u67⟩ := p67
      refine lv_i2l X.1 X.2.1 d_Ce_setTimes_89 rfl ?_
      refine t_anyl (fun v68 => ?_)
      refine va_mmin_long X.1 X.2.1 (hml.trans hl.1.symm) X.2.2.2.1 (X.2.2.1 _ kl_Ce_mmin_long) (X.2.2.1 _ ks_mmin_long) (X.2.2.1 _ ini_Math) (X.2.2.1 _ ki_mmin_long) (Nat.le_of_ble_eq_true rfl) (Nat.le_of_ble_eq_true rfl) (Nat.le_of_ble_eq_true rfl) (Nat.le_of_ble_eq_true rfl) d_Ce_setTimes_90 ?_
      refine t_anyl (fun v69 => ?_)
      refine lv_lstore_n (lv' := [(3, .long v69), (1, .long v6), (0, .ref h)]) X.1 X.2.1 d_Ce_setTimes_93 rfl hl (by decide) rfl (fun ls hl => ?_)
      exact J19 v69 _ _ _  Y S (lv_sub hl [2, 1, 0] rfl)
  refine z_if_ne (tgt := 20) X.1 X.2.1 d_Ce_setTimes_4 (by decide) ⟨by omega, by omega⟩ (fun h70 => ?_) (fun h70 => ?_)
  · exact J2  _ _ _  Y S (lv_sub hl [0] rfl)
  · refine lv_aload_n X.1 X.2.1 d_Ce_setTimes_7 rfl (lv_at hl 0 rfl) ?_
    refine lv_iconst (v := iI 2) X.1 X.2.1 d_Ce_setTimes_8 (by decide) ?_
    refine t_ui (t_runV (As := [.int (iI 2)]) (rest := []) (n := 1) X Y S k0 hml hl.1 (c_Ce_asks l D E T κ L f H.size h k0 2 (by omega) (by omega) S.1) (ok_k X Y hA KS KR) rfl kl_Ce_Ce_asks ks_Ce_asks kx_Ce_asks ki_Ce_asks ini_Ce ⟨rfl, rfl⟩ hd_Ce_asks ⟨Nat.le_of_ble_eq_true rfl, Nat.le_of_ble_eq_true rfl⟩ rfl (Nat.le_of_ble_eq_true rfl) d_Ce_setTimes_9 ⟨Nat.le_of_ble_eq_true rfl, Nat.le_of_ble_eq_true rfl⟩) X Y hA (fun z71 H locs Y p71 => ?_)
    obtain ⟨l71, u71⟩ := p71
    refine z_if_eq (tgt := 20) X.1 X.2.1 d_Ce_setTimes_12 (by decide) ⟨by omega, by omega⟩ (fun h72 => ?_) (fun h72 => ?_)
    · exact J2  _ _ _  Y S (lv_sub hl [0] rfl)
    · refine lv_aload_n X.1 X.2.1 d_Ce_setTimes_15 rfl (lv_at hl 0 rfl) ?_
      refine t_ni (t_runV (As := []) (rest := []) (n := 0) X Y S k0 hml hl.1 (c_Ce_setRenewed l D E T κ L f H.size h k0 S.1) (ok_k X Y hA KS KR) rfl kl_Ce_Ce_setRenewed ks_Ce_setRenewed kx_Ce_setRenewed ki_Ce_setRenewed ini_Ce ⟨rfl, rfl⟩ hd_Ce_setRenewed ⟨Nat.le_of_ble_eq_true rfl, Nat.le_of_ble_eq_true rfl⟩ rfl (Nat.le_of_ble_eq_true rfl) d_Ce_setTimes_16 ⟨Nat.le_of_ble_eq_true rfl, Nat.le_of_ble_eq_true rfl⟩) X Y hA S (by decide) (fun z73 f73 H locs Y S s73 p73 => ?_)
      obtain ⟨l73, u73⟩ := p73
      exact c_reti hQQ X Y hr hlk ⟨rfl, S, z73, rfl, ⟨by omega, by omega⟩⟩ d_Ce_setTimes_19
set_option maxHeartbeats 4000000 in
set_option maxRecDepth 100000 in
theorem c_Ce_judgeShown (l : Launch) (D : va_G) (E : cE) (T : cT) (κ : tK) (L : List Nat) (f : pF) (sz : Nat) (h : Nat) (k0 : κ h = (14, 0)) (hw : tW E T κ L f) : Met l y_Ce_judgeShown (k_Ce_judgeShown :: lw_tg) (kRm 71 2363 0 0) (va_Pc [.ref h] (kPre D E T L f sz)) (va_Qi (nPi E T [1, 2, 3, 4, 11, 13, 16] κ L f (fun (z : Int) (g : pF) => (-2147483648) ≤ z ∧ z ≤ 2147483647)) (cPost D E (pA L sz)) (pA L sz)) 0 0 (pA L sz) := by
  refine k_enter (own := R_Ce) (by decide) rfl (Nat.le_of_ble_eq_true rfl) (fun p e s m below meth c ls AV QQ H locs hQQ X Y hA hin hr hlk hml hl KS KR => ?_)
  have hl : lv_has ls 6 [(0, .ref h)] := hl
  have S : tS E T (tFr κ L [1, 2, 3, 4, 11, 13, 16] []) κ L f κ L f := tS_rf hw
  refine lv_aload_n X.1 X.2.1 d_Ce_judgeShown_0 rfl (lv_at hl 0 rfl) ?_
  refine lv_iconst (v := iI 2) X.1 X.2.1 d_Ce_judgeShown_1 (by decide) ?_
  refine t_ui (t_runV (As := [.int (iI 2)]) (rest := []) (n := 1) X Y S k0 hml hl.1 (c_Ce_shown l D E T κ L f H.size h k0 2 (by omega) (by omega) S.1) (ok_k X Y hA KS KR) rfl kl_Ce_Ce_shown ks_Ce_shown kx_Ce_shown ki_Ce_shown ini_Ce ⟨rfl, rfl⟩ hd_Ce_shown ⟨Nat.le_of_ble_eq_true rfl, Nat.le_of_ble_eq_true rfl⟩ rfl (Nat.le_of_ble_eq_true rfl) d_Ce_judgeShown_2 ⟨Nat.le_of_ble_eq_true rfl, Nat.le_of_ble_eq_true rfl⟩) X Y hA (fun z1 H locs Y p1 => ?_)
  obtain ⟨l1, u1⟩ := p1
  refine lv_istore_n (lv' := [(1, .int (iI z1)), (0, .ref h)]) X.1 X.2.1 d_Ce_judgeShown_5 rfl hl (by decide) rfl (fun ls hl => ?_)
  refine lv_iload_n X.1 X.2.1 d_Ce_judgeShown_6 rfl (lv_at hl 0 rfl) ?_
  refine z_if_ge (tgt := 13) X.1 X.2.1 d_Ce_judgeShown_7 (by decide) ⟨by omega, by omega⟩ (fun h2 => ?_) (fun h2 => ?_)
  · refine lv_aload_n X.1 X.2.1 d_Ce_judgeShown_13 rfl (lv_at hl 1 rfl) ?_
    refine t_getr (ci := 4) X Y S k0 rfl i_Ce 3 (by decide) rfl (k1 := 13) (k2 := 4000) rfl rfl lk_Ce_30 (fun _ h9 => h9) d_Ce_judgeShown_14 (fun b3 e3 k3 => ?_)
    refine lv_iload_n X.1 X.2.1 d_Ce_judgeShown_17 rfl (lv_at hl 0 rfl) ?_
    obtain ⟨z4, e4, l4, u4⟩ := t_size S k3
    refine t_ui (t_runV (As := [.int (iI z1)]) (rest := []) (n := 1) X Y S k3 hml hl.1 (c_By_body l D E T κ L f H.size b3 4000 k3 (by omega) z1 (by omega) (by omega) S.1 z4 e4 (by omega) (by omega)) (ok_k X Y hA KS KR) rfl kl_Ce_By_body ks_By_body kx_By_body ki_By_body ini_By ⟨rfl, rfl⟩ hd_By_body ⟨Nat.le_of_ble_eq_true rfl, Nat.le_of_ble_eq_true rfl⟩ rfl (Nat.le_of_ble_eq_true rfl) d_Ce_judgeShown_18 ⟨Nat.le_of_ble_eq_true rfl, Nat.le_of_ble_eq_true rfl⟩) X Y hA (fun z5 H locs Y p5 => ?_)
    obtain ⟨l5, u5, x5⟩ := p5
    refine lv_istore_n (lv' := [(2, .int (iI z5)), (1, .int (iI z1)), (0, .ref h)]) X.1 X.2.1 d_Ce_judgeShown_21 rfl hl (by decide) rfl (fun ls hl => ?_)
    refine lv_aload_n X.1 X.2.1 d_Ce_judgeShown_22 rfl (lv_at hl 2 rfl) ?_
    refine t_get0 (ci := 4) X Y S k0 rfl i_Ce 3 (by decide) rfl lk_Ce_30 (fun _ h9 => h9) d_Ce_judgeShown_23 e3 ?_
    refine lv_bipush (v := iI 101) X.1 X.2.1 d_Ce_judgeShown_26 (by decide) ?_
    refine lv_iload_n X.1 X.2.1 d_Ce_judgeShown_28 rfl (lv_at hl 0 rfl) ?_
    refine lv_aload_n X.1 X.2.1 d_Ce_judgeShown_29 rfl (lv_at hl 2 rfl) ?_
    refine t_get0 (ci := 4) X Y S k0 rfl i_Ce 3 (by decide) rfl lk_Ce_30 (fun _ h9 => h9) d_Ce_judgeShown_30 e3 ?_
    refine lv_iload_n X.1 X.2.1 d_Ce_judgeShown_33 rfl (lv_at hl 1 rfl) ?_
    refine lv_aload_n X.1 X.2.1 d_Ce_judgeShown_34 rfl (lv_at hl 2 rfl) ?_
    refine t_get0 (ci := 4) X Y S k0 rfl i_Ce 3 (by decide) rfl lk_Ce_30 (fun _ h9 => h9) d_Ce_judgeShown_35 e3 ?_
    refine t_get0 (ci := 3) X Y S k3 rfl i_By 1 (by decide) rfl lk_Ce_69 (fun _ h9 => h9) d_Ce_judgeShown_38 e4 ?_
    refine t_ui (t_runV (As := [.int (iI z1), .int (iI z4)]) (rest := [.int (iI z5), .int (iI 101), .ref b3]) (n := 2) X Y S k3 hml hl.1 (c_By_stop l D E T κ L f H.size b3 4000 k3 (by omega) z1 (by omega) (by omega) z4 (by omega) (by omega) S.1 z4 e4 (by omega) (by omega)) (ok_k X Y hA KS KR) rfl kl_Ce_By_stop ks_By_stop kx_By_stop ki_By_stop ini_By ⟨rfl, rfl⟩ hd_By_stop ⟨Nat.le_of_ble_eq_true rfl, Nat.le_of_ble_eq_true rfl⟩ rfl (Nat.le_of_ble_eq_true rfl) d_Ce_judgeShown_41 ⟨Nat.le_of_ble_eq_true rfl, Nat.le_of_ble_eq_true rfl⟩) X Y hA (fun z6 H locs Y p6 => ?_)
    obtain ⟨l6, u6, x6⟩ := p6
    refine t_ui (t_runV (As := [.int (iI 101), .int (iI z5), .int (iI z6)]) (rest := []) (n := 3) X Y S k3 hml hl.1 (c_By_isA l D E T κ L f H.size b3 4000 k3 (by omega) 101 (by omega) (by omega) z5 (by omega) (by omega) z6 (by omega) (by omega) S.1) (ok_k X Y hA KS KR) rfl kl_Ce_By_isA ks_By_isA kx_By_isA ki_By_isA ini_By ⟨rfl, rfl⟩ hd_By_isA ⟨Nat.le_of_ble_eq_true rfl, Nat.le_of_ble_eq_true rfl⟩ rfl (Nat.le_of_ble_eq_true rfl) d_Ce_judgeShown_44 ⟨Nat.le_of_ble_eq_true rfl, Nat.le_of_ble_eq_true rfl⟩) X Y hA (fun z7 H locs Y p7 => ?_)
    obtain ⟨l7, u7⟩ := p7
    refine z_if_ne (tgt := 53) X.1 X.2.1 d_Ce_judgeShown_47 (by decide) ⟨by omega, by omega⟩ (fun h8 => ?_) (fun h8 => ?_)
    · refine lv_aload_n X.1 X.2.1 d_Ce_judgeShown_53 rfl (lv_at hl 2 rfl) ?_
      refine t_get0 (ci := 4) X Y S k0 rfl i_Ce 3 (by decide) rfl lk_Ce_30 (fun _ h9 => h9) d_Ce_judgeShown_54 e3 ?_
      refine lv_aload_n X.1 X.2.1 d_Ce_judgeShown_57 rfl (lv_at hl 2 rfl) ?_
      refine t_get0 (ci := 4) X Y S k0 rfl i_Ce 3 (by decide) rfl lk_Ce_30 (fun _ h9 => h9) d_Ce_judgeShown_58 e3 ?_
      refine lv_iload_n X.1 X.2.1 d_Ce_judgeShown_61 rfl (lv_at hl 0 rfl) ?_
      refine lv_iconst (v := iI 0) X.1 X.2.1 d_Ce_judgeShown_62 (by decide) ?_
      refine t_ui (t_runV (As := [.int (iI z5), .int (iI 0)]) (rest := [.ref b3]) (n := 2) X Y S k3 hml hl.1 (c_By_field l D E T κ L f H.size b3 4000 k3 (by omega) z5 (by omega) (by omega) 0 (by omega) (by omega) S.1) (ok_k X Y hA KS KR) rfl kl_Ce_By_field ks_By_field kx_By_field ki_By_field ini_By ⟨rfl, rfl⟩ hd_By_field ⟨Nat.le_of_ble_eq_true rfl, Nat.le_of_ble_eq_true rfl⟩ rfl (Nat.le_of_ble_eq_true rfl) d_Ce_judgeShown_63 ⟨Nat.le_of_ble_eq_true rfl, Nat.le_of_ble_eq_true rfl⟩) X Y hA (fun z9 H locs Y p9 => ?_)
      obtain ⟨l9, u9⟩ := p9
      refine t_ul (t_runV (As := [.int (iI z9)]) (rest := []) (n := 1) X Y S k3 hml hl.1 (c_By_numberAt l D E T κ L f H.size b3 4000 k3 (by omega) z9 (by omega) (by omega) S.1) (ok_k X Y hA KS KR) rfl kl_Ce_By_numberAt ks_By_numberAt kx_By_numberAt ki_By_numberAt ini_By ⟨rfl, rfl⟩ hd_By_numberAt ⟨Nat.le_of_ble_eq_true rfl, Nat.le_of_ble_eq_true rfl⟩ rfl (Nat.le_of_ble_eq_true rfl) d_Ce_judgeShown_66 ⟨Nat.le_of_ble_eq_true rfl, Nat.le_of_ble_eq_true rfl⟩) X Y hA (fun v10 H locs Y p10 => ?_)
      refine lv_lstore_n (lv' := [(3, .long v10), (2, .int (iI z5)), (1, .int (iI z1)), (0, .ref h)]) X.1 X.2.1 d_Ce_judgeShown_69 rfl hl (by decide) rfl (fun ls hl => ?_)
      refine lv_aload_n X.1 X.2.1 d_Ce_judgeShown_70 rfl (lv_at hl 3 rfl) ?_
      refine t_getr (ci := 4) X Y S k0 rfl i_Ce 0 (by decide) rfl (k1 := 21) (k2 := 0) rfl rfl lk_Ce_18 (fun _ h9 => h9) d_Ce_judgeShown_71 (fun b11 e11 k11 => ?_)
      refine t_getr (ci := 11) X Y S k11 rfl i_Va 1 (by decide) rfl (k1 := 13) (k2 := 6144) rfl rfl lk_Ce_165 (fun _ h9 => h9) d_Ce_judgeShown_74 (fun b12 e12 k12 => ?_)
      refine lv_astore (lv' := [(5, .ref b12), (3, .long v10), (2, .int (iI z5)), (1, .int (iI z1)), (0, .ref h)]) X.1 X.2.1 d_Ce_judgeShown_77 hl (by decide) rfl (fun ls hl => ?_)
      refine lv_lload_n X.1 X.2.1 d_Ce_judgeShown_79 rfl (lv_at hl 1 rfl) ?_
      refine lv_ldc2 (v := (17)) X.1 X.2.1 X.2.2.2.1 (X.2.2.1 _ cl_Ce_153) d_Ce_judgeShown_80 ?_
      refine W.lcmp X.1 X.2.1 d_Ce_judgeShown_83 ?_
      refine t_u (fun z13 l13 u13 => ?_)
      have J14 : ∀  (H : Heap) (locs : List Loc) (ls : Array Slot), pH D cCl (pA L sz) s.heap L f H locs → tS E T (tFr κ L [1, 2, 3, 4, 11, 13, 16] []) κ L f κ L f → lv_has ls 6 [(0, .ref h), (2, .int (iI z5)), (3, .long v10), (5, .ref b12)] → W p l e (kRm 71 2363 0 0) s m AV below meth c H locs 0 0 QQ (F0 m 95 ls []) := by
        intro  H locs ls  Y S hl
        refine lv_aload_n X.1 X.2.1 d_Ce_judgeShown_95 rfl (lv_at hl 0 rfl) ?_
        refine t_get0 (ci := 4) X Y S k0 rfl i_Ce 0 (by decide) rfl lk_Ce_18 (fun _ h9 => h9) d_Ce_judgeShown_96 e11 ?_
        refine lv_aload_n X.1 X.2.1 d_Ce_judgeShown_99 rfl (lv_at hl 0 rfl) ?_
        refine t_get0 (ci := 4) X Y S k0 rfl i_Ce 3 (by decide) rfl lk_Ce_30 (fun _ h9 => h9) d_Ce_judgeShown_100 e3 ?_
        refine lv_iload_n X.1 X.2.1 d_Ce_judgeShown_103 rfl (lv_at hl 1 rfl) ?_
        refine lv_aload_n X.1 X.2.1 d_Ce_judgeShown_104 rfl (lv_at hl 0 rfl) ?_
        refine t_getr (ci := 4) X Y S k0 rfl i_Ce 10 (by decide) rfl (k1 := 17) (k2 := 0) rfl rfl lk_Ce_37 (fun _ h9 => h9) d_Ce_judgeShown_105 (fun b18 e18 k18 => ?_)
        refine lv_lload_n X.1 X.2.1 d_Ce_judgeShown_108 rfl (lv_at hl 2 rfl) ?_
        refine t_ur (t_runV (As := [.long v10]) (rest := [.int (iI z5), .ref b3, .ref b11]) (n := 1) X Y S k18 hml hl.1 (c_Pr_latestKey l D E T κ L f H.size b18 k18 v10 S.1) (ok_k X Y hA KS KR) rfl kl_Ce_Pr_latestKey ks_Pr_latestKey kx_Pr_latestKey ki_Pr_latestKey ini_Pr ⟨rfl, rfl⟩ hd_Pr_latestKey ⟨Nat.le_of_ble_eq_true rfl, Nat.le_of_ble_eq_true rfl⟩ rfl (Nat.le_of_ble_eq_true rfl) d_Ce_judgeShown_109 ⟨Nat.le_of_ble_eq_true rfl, Nat.le_of_ble_eq_true rfl⟩) X Y hA (fun b19 H locs Y p19 => ?_)
        obtain ⟨n19, k19⟩ := p19
        have x19 := tKey_n k19
        refine lv_iconst (v := iI 1) X.1 X.2.1 d_Ce_judgeShown_112 (by decide) ?_
        refine lv_aload X.1 X.2.1 d_Ce_judgeShown_113 (lv_at hl 3 rfl) ?_
        refine t_ni (t_runV (As := [.ref b3, .int (iI z5), .ref b19, .int (iI 1), .ref b12]) (rest := []) (n := 5) X Y S k11 hml hl.1 (c_Va_opens l D E T κ L f H.size b11 k11 b3 4000 k3 (by omega) z5 (by omega) (by omega) b19 n19 k19 (by omega) 1 (by omega) (by omega) b12 6144 k12 (by omega) S.1) (ok_k X Y hA KS KR) rfl kl_Ce_Va_opens ks_Va_opens kx_Va_opens ki_Va_opens ini_Va ⟨rfl, rfl⟩ hd_Va_opens ⟨Nat.le_of_ble_eq_true rfl, Nat.le_of_ble_eq_true rfl⟩ rfl (Nat.le_of_ble_eq_true rfl) d_Ce_judgeShown_115 ⟨Nat.le_of_ble_eq_true rfl, Nat.le_of_ble_eq_true rfl⟩) X Y hA S (by decide) (fun z20 f20 H locs Y S s20 p20 => ?_)
        obtain ⟨l20, u20⟩ := p20
        refine z_if_eq (tgt := 137) X.1 X.2.1 d_Ce_judgeShown_118 (by decide) ⟨by omega, by omega⟩ (fun h21 => ?_) (fun h21 => ?_)
        · refine lv_bipush (v := iI 24) X.1 X.2.1 d_Ce_judgeShown_137 (by decide) ?_
          exact c_reti hQQ X Y hr hlk ⟨rfl, S, 24, rfl, ⟨by omega, by omega⟩⟩ d_Ce_judgeShown_139
        · refine lv_aload X.1 X.2.1 d_Ce_judgeShown_121 (lv_at hl 3 rfl) ?_
          refine lv_bipush (v := iI 120) X.1 X.2.1 d_Ce_judgeShown_123 (by decide) ?_
          refine lv_iconst (v := iI 0) X.1 X.2.1 d_Ce_judgeShown_125 (by decide) ?_
          refine lv_aload X.1 X.2.1 d_Ce_judgeShown_126 (lv_at hl 3 rfl) ?_
          refine t_gets (ci := 3) X Y S k12 rfl i_By 1 (by decide) rfl lk_Ce_69 (fun _ h9 => h9) d_Ce_judgeShown_128 (fun z22 e22 l22 u22 => ?_)
          refine t_ui (t_runV (As := [.int (iI 120), .int (iI 0), .int (iI z22)]) (rest := []) (n := 3) X Y S k12 hml hl.1 (c_By_isA l D E T κ L f20 H.size b12 6144 k12 (by omega) 120 (by omega) (by omega) 0 (by omega) (by omega) z22 (by omega) (by omega) S.1) (ok_k X Y hA KS KR) rfl kl_Ce_By_isA ks_By_isA kx_By_isA ki_By_isA ini_By ⟨rfl, rfl⟩ hd_By_isA ⟨Nat.le_of_ble_eq_true rfl, Nat.le_of_ble_eq_true rfl⟩ rfl (Nat.le_of_ble_eq_true rfl) d_Ce_judgeShown_131 ⟨Nat.le_of_ble_eq_true rfl, Nat.le_of_ble_eq_true rfl⟩) X Y hA (fun z23 H locs Y p23 => ?_)
          obtain ⟨l23, u23⟩ := p23
          refine z_if_ne (tgt := 140) X.1 X.2.1 d_Ce_judgeShown_134 (by decide) ⟨by omega, by omega⟩ (fun h24 => ?_) (fun h24 => ?_)
          · refine lv_aload X.1 X.2.1 d_Ce_judgeShown_140 (lv_at hl 3 rfl) ?_
            refine lv_aload X.1 X.2.1 d_Ce_judgeShown_142 (lv_at hl 3 rfl) ?_
            refine lv_iconst (v := iI 0) X.1 X.2.1 d_Ce_judgeShown_144 (by decide) ?_
            refine lv_iconst (v := iI 0) X.1 X.2.1 d_Ce_judgeShown_145 (by decide) ?_
            refine t_ui (t_runV (As := [.int (iI 0), .int (iI 0)]) (rest := [.ref b12]) (n := 2) X Y S k12 hml hl.1 (c_By_field l D E T κ L f20 H.size b12 6144 k12 (by omega) 0 (by omega) (by omega) 0 (by omega) (by omega) S.1) (ok_k X Y hA KS KR) rfl kl_Ce_By_field ks_By_field kx_By_field ki_By_field ini_By ⟨rfl, rfl⟩ hd_By_field ⟨Nat.le_of_ble_eq_true rfl, Nat.le_of_ble_eq_true rfl⟩ rfl (Nat.le_of_ble_eq_true rfl) d_Ce_judgeShown_146 ⟨Nat.le_of_ble_eq_true rfl, Nat.le_of_ble_eq_true rfl⟩) X Y hA (fun z25 H locs Y p25 => ?_)
            obtain ⟨l25, u25⟩ := p25
            refine t_ui (t_runV (As := [.int (iI z25)]) (rest := []) (n := 1) X Y S k12 hml hl.1 (c_By_timeAt l D E T κ L f20 H.size b12 6144 k12 (by omega) z25 (by omega) (by omega) S.1) (ok_k X Y hA KS KR) rfl kl_Ce_By_timeAt ks_By_timeAt kx_By_timeAt ki_By_timeAt ini_By ⟨rfl, rfl⟩ hd_By_timeAt ⟨Nat.le_of_ble_eq_true rfl, Nat.le_of_ble_eq_true rfl⟩ rfl (Nat.le_of_ble_eq_true rfl) d_Ce_judgeShown_149 ⟨Nat.le_of_ble_eq_true rfl, Nat.le_of_ble_eq_true rfl⟩) X Y hA (fun z26 H locs Y p26 => ?_)
            obtain ⟨l26, u26⟩ := p26
            refine lv_aload_n X.1 X.2.1 d_Ce_judgeShown_152 rfl (lv_at hl 0 rfl) ?_
            refine t_get0 (ci := 4) X Y S k0 rfl i_Ce 0 (by decide) rfl lk_Ce_18 (fun _ h9 => h9) d_Ce_judgeShown_153 ((gF_same (s20.2.2.2 _ ⟨(t_obj S.1 k0).1, by rw [k0]; decide, by simp⟩).1 0).trans e11) ?_
            refine t_geti (ci := 11) X Y S k11 rfl i_Va 0 (by decide) rfl lk_Ce_112 (fun _ h9 => h9) d_Ce_judgeShown_156 (fun z27 e27 l27 u27 => ?_)
            refine lv_isub X.1 X.2.1 d_Ce_judgeShown_159 ?_
            refine t_u (fun z28 l28 u28 => ?_)
            refine va_mabs X.1 X.2.1 (hml.trans hl.1.symm) X.2.2.2.1 (X.2.2.1 _ kl_Ce_mabs) (X.2.2.1 _ ks_mabs) (X.2.2.1 _ ini_Math) (X.2.2.1 _ ki_mabs) (Nat.le_of_ble_eq_true rfl) (Nat.le_of_ble_eq_true rfl) (Nat.le_of_ble_eq_true rfl) (Nat.le_of_ble_eq_true rfl) d_Ce_judgeShown_160 ?_
            refine t_u (fun z29 l29 u29 => ?_)
            refine lv_sipush (v := iI 300) X.1 X.2.1 d_Ce_judgeShown_163 (by decide) ?_
            refine z_icmp_le (tgt := 174) X.1 X.2.1 d_Ce_judgeShown_166 (by decide) ⟨by omega, by omega⟩ ⟨by omega, by omega⟩ (fun h30 => ?_) (fun h30 => ?_)
            · refine lv_iconst (v := iI 0) X.1 X.2.1 d_Ce_judgeShown_174 (by decide) ?_
              exact c_reti hQQ X Y hr hlk ⟨rfl, S, 0, rfl, ⟨by omega, by omega⟩⟩ d_Ce_judgeShown_175
            · refine lv_bipush (v := iI 37) X.1 X.2.1 d_Ce_judgeShown_169 (by decide) ?_
              refine lv_goto (tgt := 175) X.1 X.2.1 d_Ce_judgeShown_171 (by decide) ?_
              exact c_reti hQQ X Y hr hlk ⟨rfl, S, 37, rfl, ⟨by omega, by omega⟩⟩ d_Ce_judgeShown_175
          · refine lv_bipush (v := iI 24) X.1 X.2.1 d_Ce_judgeShown_137 (by decide) ?_
            exact c_reti hQQ X Y hr hlk ⟨rfl, S, 24, rfl, ⟨by omega, by omega⟩⟩ d_Ce_judgeShown_139
      refine z_if_eq (tgt := 95) X.1 X.2.1 d_Ce_judgeShown_84 (by decide) ⟨by omega, by omega⟩ (fun h31 => ?_) (fun h31 => ?_)
      · exact J14  _ _ _  Y S (lv_sub hl [4, 2, 1, 0] rfl)
      · refine lv_lload_n X.1 X.2.1 d_Ce_judgeShown_87 rfl (lv_at hl 1 rfl) ?_
        refine lv_ldc2 (v := (18)) X.1 X.2.1 X.2.2.2.1 (X.2.2.1 _ cl_Ce_155) d_Ce_judgeShown_88 ?_
        refine W.lcmp X.1 X.2.1 d_Ce_judgeShown_91 ?_
        refine t_u (fun z32 l32 u32 => ?_)
        refine z_if_ne (tgt := 137) X.1 X.2.1 d_Ce_judgeShown_92 (by decide) ⟨by omega, by omega⟩ (fun h33 => ?_) (fun h33 => ?_)
        · refine lv_bipush (v := iI 24) X.1 X.2.1 d_Ce_judgeShown_137 (by decide) ?_
          exact c_reti hQQ X Y hr hlk ⟨rfl, S, 24, rfl, ⟨by omega, by omega⟩⟩ d_Ce_judgeShown_139
        · exact J14  _ _ _  Y S (lv_sub hl [4, 2, 1, 0] rfl)
    · refine lv_bipush (v := iI 24) X.1 X.2.1 d_Ce_judgeShown_50 (by decide) ?_
      exact c_reti hQQ X Y hr hlk ⟨rfl, S, 24, rfl, ⟨by omega, by omega⟩⟩ d_Ce_judgeShown_52
  · refine lv_bipush (v := iI 25) X.1 X.2.1 d_Ce_judgeShown_10 (by decide) ?_
    exact c_reti hQQ X Y hr hlk ⟨rfl, S, 25, rfl, ⟨by omega, by omega⟩⟩ d_Ce_judgeShown_12
set_option maxHeartbeats 4000000 in
set_option maxRecDepth 100000 in
theorem c_Ce_judge (l : Launch) (D : va_G) (E : cE) (T : cT) (κ : tK) (L : List Nat) (f : pF) (sz : Nat) (h : Nat) (k0 : κ h = (14, 0)) (hw : tW E T κ L f) : Met l y_Ce_judge (k_Ce_judge :: lw_tg) (kRm 71 2363 0 0) (va_Pc [.ref h] (kPre D E T L f sz)) (va_Qi (nPi E T [14] κ L f (fun (z : Int) (g : pF) => (-2147483648) ≤ z ∧ z ≤ 2147483647)) (cPost D E (pA L sz)) (pA L sz)) 0 0 (pA L sz) := by
  refine k_enter (own := R_Ce) (by decide) rfl (Nat.le_of_ble_eq_true rfl) (fun p e s m below meth c ls AV QQ H locs hQQ X Y hA hin hr hlk hml hl KS KR => ?_)
  have hl : lv_has ls 2 [(0, .ref h)] := hl
  have S : tS E T (tFr κ L [14] []) κ L f κ L f := tS_rf hw
  refine lv_aload_n X.1 X.2.1 d_Ce_judge_0 rfl (lv_at hl 0 rfl) ?_
  refine t_getr (ci := 4) X Y S k0 rfl i_Ce 3 (by decide) rfl (k1 := 13) (k2 := 4000) rfl rfl lk_Ce_30 (fun _ h9 => h9) d_Ce_judge_1 (fun b1 e1 k1 => ?_)
  refine lv_iconst (v := iI 0) X.1 X.2.1 d_Ce_judge_4 (by decide) ?_
  refine t_ui (t_runV (As := [.int (iI 0)]) (rest := []) (n := 1) X Y S k1 hml hl.1 (c_By_at l D E T κ L f H.size b1 4000 k1 (by omega) 0 (by omega) (by omega) S.1) (ok_k X Y hA KS KR) rfl kl_Ce_By_at ks_By_at kx_By_at ki_By_at ini_By ⟨rfl, rfl⟩ hd_By_at ⟨Nat.le_of_ble_eq_true rfl, Nat.le_of_ble_eq_true rfl⟩ rfl (Nat.le_of_ble_eq_true rfl) d_Ce_judge_5 ⟨Nat.le_of_ble_eq_true rfl, Nat.le_of_ble_eq_true rfl⟩) X Y hA (fun z2 H locs Y p2 => ?_)
  obtain ⟨l2, u2⟩ := p2
  refine lv_istore_n (lv' := [(1, .int (iI z2)), (0, .ref h)]) X.1 X.2.1 d_Ce_judge_8 rfl hl (by decide) rfl (fun ls hl => ?_)
  refine lv_aload_n X.1 X.2.1 d_Ce_judge_9 rfl (lv_at hl 1 rfl) ?_
  refine lv_iload_n X.1 X.2.1 d_Ce_judge_10 rfl (lv_at hl 0 rfl) ?_
  refine lv_bipush (v := iI 106) X.1 X.2.1 d_Ce_judge_11 (by decide) ?_
  have J4 : ∀ (z3 : Int) (H : Heap) (locs : List Loc) (ls : Array Slot), (0 ≤ z3) → (z3 ≤ 1) → pH D cCl (pA L sz) s.heap L f H locs → tS E T (tFr κ L [14] []) κ L f κ L f → lv_has ls 2 [(0, .ref h), (1, .int (iI z2))] → W p l e (kRm 71 2363 0 0) s m AV below meth c H locs 0 0 QQ (F0 m 21 ls [.int (iI z3), .ref h]) := by
    intro z3 H locs ls l3 u3 Y S hl
    refine t_put (ci := 4) X Y S k0 rfl i_Ce t_Ce t_Ce_ok n_Ce 6 (by decide) rfl lk_Ce_65 (fun _ h9 => h9) rfl (t_Ce_ok 6 (by decide)) (iI_bool (by omega) (by omega)).1 (iI_bool (by omega) (by omega)).2 ⟨_, rfl, by omega, by omega⟩ (fun h9 => h9.2.1 (by rw [← (S.2.2.2 _ h9).2, k0]; decide)) d_Ce_judge_21 (fun f8 H locs Y S w8 => ?_)
    refine lv_aload_n X.1 X.2.1 d_Ce_judge_24 rfl (lv_at hl 0 rfl) ?_
    refine lv_aload_n X.1 X.2.1 d_Ce_judge_25 rfl (lv_at hl 0 rfl) ?_
    refine t_get0 (ci := 4) X Y S k0 rfl i_Ce 6 (by decide) rfl lk_Ce_65 (fun _ h9 => h9) d_Ce_judge_26 w8.2.1 ?_
    have J10 : ∀ (z9 : Int) (H : Heap) (locs : List Loc) (ls : Array Slot), (0 ≤ z9) → (z9 ≤ 1) → pH D cCl (pA L sz) s.heap L f8 H locs → tS E T (tFr κ L [14] []) κ L f κ L f8 → lv_has ls 2 [(0, .ref h)] → W p l e (kRm 71 2363 0 0) s m AV below meth c H locs 0 0 QQ (F0 m 66 ls [.int (iI z9), .ref h]) := by
      intro z9 H locs ls l9 u9 Y S hl
      refine t_put (ci := 4) X Y S k0 rfl i_Ce t_Ce t_Ce_ok n_Ce 7 (by decide) rfl lk_Ce_76 (fun _ h9 => h9) rfl (t_Ce_ok 7 (by decide)) (iI_bool (by omega) (by omega)).1 (iI_bool (by omega) (by omega)).2 ⟨_, rfl, by omega, by omega⟩ (fun h9 => h9.2.1 (by rw [← (S.2.2.2 _ h9).2, k0]; decide)) d_Ce_judge_66 (fun f14 H locs Y S w14 => ?_)
      refine lv_aload_n X.1 X.2.1 d_Ce_judge_69 rfl (lv_at hl 0 rfl) ?_
      refine t_get0 (ci := 4) X Y S k0 rfl i_Ce 7 (by decide) rfl lk_Ce_76 (fun _ h9 => h9) d_Ce_judge_70 w14.2.1 ?_
      refine z_if_ne (tgt := 79) X.1 X.2.1 d_Ce_judge_73 (by decide) ⟨by omega, by omega⟩ (fun h15 => ?_) (fun h15 => ?_)
      · refine lv_aload_n X.1 X.2.1 d_Ce_judge_79 rfl (lv_at hl 0 rfl) ?_
        refine t_get0 (ci := 4) X Y S k0 rfl i_Ce 3 (by decide) rfl lk_Ce_30 (fun _ h9 => h9) d_Ce_judge_80 ((gF_put w14 (Or.inr (by decide))).trans ((gF_put w8 (Or.inr (by decide))).trans e1)) ?_
        refine lv_aload_n X.1 X.2.1 d_Ce_judge_83 rfl (lv_at hl 0 rfl) ?_
        refine t_get0 (ci := 4) X Y S k0 rfl i_Ce 3 (by decide) rfl lk_Ce_30 (fun _ h9 => h9) d_Ce_judge_84 ((gF_put w14 (Or.inr (by decide))).trans ((gF_put w8 (Or.inr (by decide))).trans e1)) ?_
        refine lv_iconst (v := iI 0) X.1 X.2.1 d_Ce_judge_87 (by decide) ?_
        refine lv_iconst (v := iI 1) X.1 X.2.1 d_Ce_judge_88 (by decide) ?_
        refine t_ui (t_runV (As := [.int (iI 0), .int (iI 1)]) (rest := [.ref b1]) (n := 2) X Y S k1 hml hl.1 (c_By_field l D E T κ L f14 H.size b1 4000 k1 (by omega) 0 (by omega) (by omega) 1 (by omega) (by omega) S.1) (ok_k X Y hA KS KR) rfl kl_Ce_By_field ks_By_field kx_By_field ki_By_field ini_By ⟨rfl, rfl⟩ hd_By_field ⟨Nat.le_of_ble_eq_true rfl, Nat.le_of_ble_eq_true rfl⟩ rfl (Nat.le_of_ble_eq_true rfl) d_Ce_judge_89 ⟨Nat.le_of_ble_eq_true rfl, Nat.le_of_ble_eq_true rfl⟩) X Y hA (fun z16 H locs Y p16 => ?_)
        obtain ⟨l16, u16⟩ := p16
        refine t_ul (t_runV (As := [.int (iI z16)]) (rest := []) (n := 1) X Y S k1 hml hl.1 (c_By_numberAt l D E T κ L f14 H.size b1 4000 k1 (by omega) z16 (by omega) (by omega) S.1) (ok_k X Y hA KS KR) rfl kl_Ce_By_numberAt ks_By_numberAt kx_By_numberAt ki_By_numberAt ini_By ⟨rfl, rfl⟩ hd_By_numberAt ⟨Nat.le_of_ble_eq_true rfl, Nat.le_of_ble_eq_true rfl⟩ rfl (Nat.le_of_ble_eq_true rfl) d_Ce_judge_92 ⟨Nat.le_of_ble_eq_true rfl, Nat.le_of_ble_eq_true rfl⟩) X Y hA (fun v17 H locs Y p17 => ?_)
        refine lv_ldc2 (v := (5)) X.1 X.2.1 X.2.2.2.1 (X.2.2.1 _ cl_Ce_79) d_Ce_judge_95 ?_
        refine W.lcmp X.1 X.2.1 d_Ce_judge_98 ?_
        refine t_u (fun z18 l18 u18 => ?_)
        refine z_if_eq (tgt := 104) X.1 X.2.1 d_Ce_judge_99 (by decide) ⟨by omega, by omega⟩ (fun h19 => ?_) (fun h19 => ?_)
        · refine lv_aload_n X.1 X.2.1 d_Ce_judge_104 rfl (lv_at hl 0 rfl) ?_
          refine t_get0 (ci := 4) X Y S k0 rfl i_Ce 3 (by decide) rfl lk_Ce_30 (fun _ h9 => h9) d_Ce_judge_105 ((gF_put w14 (Or.inr (by decide))).trans ((gF_put w8 (Or.inr (by decide))).trans e1)) ?_
          refine lv_aload_n X.1 X.2.1 d_Ce_judge_108 rfl (lv_at hl 0 rfl) ?_
          refine t_get0 (ci := 4) X Y S k0 rfl i_Ce 3 (by decide) rfl lk_Ce_30 (fun _ h9 => h9) d_Ce_judge_109 ((gF_put w14 (Or.inr (by decide))).trans ((gF_put w8 (Or.inr (by decide))).trans e1)) ?_
          refine lv_iconst (v := iI 0) X.1 X.2.1 d_Ce_judge_112 (by decide) ?_
          refine lv_iconst (v := iI 2) X.1 X.2.1 d_Ce_judge_113 (by decide) ?_
          refine t_ui (t_runV (As := [.int (iI 0), .int (iI 2)]) (rest := [.ref b1]) (n := 2) X Y S k1 hml hl.1 (c_By_field l D E T κ L f14 H.size b1 4000 k1 (by omega) 0 (by omega) (by omega) 2 (by omega) (by omega) S.1) (ok_k X Y hA KS KR) rfl kl_Ce_By_field ks_By_field kx_By_field ki_By_field ini_By ⟨rfl, rfl⟩ hd_By_field ⟨Nat.le_of_ble_eq_true rfl, Nat.le_of_ble_eq_true rfl⟩ rfl (Nat.le_of_ble_eq_true rfl) d_Ce_judge_114 ⟨Nat.le_of_ble_eq_true rfl, Nat.le_of_ble_eq_true rfl⟩) X Y hA (fun z20 H locs Y p20 => ?_)
          obtain ⟨l20, u20⟩ := p20
          refine t_ul (t_runV (As := [.int (iI z20)]) (rest := []) (n := 1) X Y S k1 hml hl.1 (c_By_numberAt l D E T κ L f14 H.size b1 4000 k1 (by omega) z20 (by omega) (by omega) S.1) (ok_k X Y hA KS KR) rfl kl_Ce_By_numberAt ks_By_numberAt kx_By_numberAt ki_By_numberAt ini_By ⟨rfl, rfl⟩ hd_By_numberAt ⟨Nat.le_of_ble_eq_true rfl, Nat.le_of_ble_eq_true rfl⟩ rfl (Nat.le_of_ble_eq_true rfl) d_Ce_judge_117 ⟨Nat.le_of_ble_eq_true rfl, Nat.le_of_ble_eq_true rfl⟩) X Y hA (fun v21 H locs Y p21 => ?_)
          refine lv_aload_n X.1 X.2.1 d_Ce_judge_120 rfl (lv_at hl 0 rfl) ?_
          refine t_get0 (ci := 4) X Y S k0 rfl i_Ce 6 (by decide) rfl lk_Ce_65 (fun _ h9 => h9) d_Ce_judge_121 ((gF_put w14 (Or.inr (by decide))).trans w8.2.1) ?_
          have J23 : ∀ (z22 : Int) (H : Heap) (locs : List Loc) (ls : Array Slot), (10 ≤ z22) → (z22 ≤ 12) → pH D cCl (pA L sz) s.heap L f14 H locs → tS E T (tFr κ L [14] []) κ L f κ L f14 → lv_has ls 2 [(0, .ref h)] → W p l e (kRm 71 2363 0 0) s m AV below meth c H locs 0 0 QQ (F0 m 134 ls [.int (iI z22), .long v19]) := by
            intro z22 H locs ls l22 u22 Y S hl
            refine lv_i2l X.1 X.2.1 d_Ce_judge_134 rfl ?_
            refine t_anyl (fun v27 => ?_)
            refine W.lcmp X.1 X.2.1 d_Ce_judge_135 ?_
            refine t_u (fun z28 l28 u28 => ?_)
            refine z_if_eq (tgt := 142) X.1 X.2.1 d_Ce_judge_136 (by decide) ⟨by omega, by omega⟩ (fun h29 => ?_) (fun h29 => ?_)
            · refine lv_aload_n X.1 X.2.1 d_Ce_judge_142 rfl (lv_at hl 0 rfl) ?_
              refine lv_aload_n X.1 X.2.1 d_Ce_judge_143 rfl (lv_at hl 0 rfl) ?_
              refine t_get0 (ci := 4) X Y S k0 rfl i_Ce 3 (by decide) rfl lk_Ce_30 (fun _ h9 => h9) d_Ce_judge_144 ((gF_put w14 (Or.inr (by decide))).trans ((gF_put w8 (Or.inr (by decide))).trans e1)) ?_
              refine lv_iconst (v := iI 0) X.1 X.2.1 d_Ce_judge_147 (by decide) ?_
              refine lv_iconst (v := iI 4) X.1 X.2.1 d_Ce_judge_148 (by decide) ?_
              refine t_ui (t_runV (As := [.int (iI 0), .int (iI 4)]) (rest := [.ref h]) (n := 2) X Y S k1 hml hl.1 (c_By_field l D E T κ L f14 H.size b1 4000 k1 (by omega) 0 (by omega) (by omega) 4 (by omega) (by omega) S.1) (ok_k X Y hA KS KR) rfl kl_Ce_By_field ks_By_field kx_By_field ki_By_field ini_By ⟨rfl, rfl⟩ hd_By_field ⟨Nat.le_of_ble_eq_true rfl, Nat.le_of_ble_eq_true rfl⟩ rfl (Nat.le_of_ble_eq_true rfl) d_Ce_judge_149 ⟨Nat.le_of_ble_eq_true rfl, Nat.le_of_ble_eq_true rfl⟩) X Y hA (fun z30 H locs Y p30 => ?_)
              obtain ⟨l30, u30⟩ := p30
              refine t_put (ci := 4) X Y S k0 rfl i_Ce t_Ce t_Ce_ok n_Ce 8 (by decide) rfl lk_Ce_81 (fun _ h9 => h9) rfl (t_Ce_ok 8 (by decide)) rfl rfl ⟨_, rfl, by omega, by omega⟩ (fun h9 => h9.2.1 (by rw [← (S.2.2.2 _ h9).2, k0]; decide)) d_Ce_judge_152 (fun f31 H locs Y S w31 => ?_)
              refine lv_aload_n X.1 X.2.1 d_Ce_judge_155 rfl (lv_at hl 0 rfl) ?_
              refine lv_aload_n X.1 X.2.1 d_Ce_judge_156 rfl (lv_at hl 0 rfl) ?_
              refine t_get0 (ci := 4) X Y S k0 rfl i_Ce 3 (by decide) rfl lk_Ce_30 (fun _ h9 => h9) d_Ce_judge_157 ((gF_put w31 (Or.inr (by decide))).trans ((gF_put w14 (Or.inr (by decide))).trans ((gF_put w8 (Or.inr (by decide))).trans e1))) ?_
              refine lv_aload_n X.1 X.2.1 d_Ce_judge_160 rfl (lv_at hl 0 rfl) ?_
              refine t_get0 (ci := 4) X Y S k0 rfl i_Ce 3 (by decide) rfl lk_Ce_30 (fun _ h9 => h9) d_Ce_judge_161 ((gF_put w31 (Or.inr (by decide))).trans ((gF_put w14 (Or.inr (by decide))).trans ((gF_put w8 (Or.inr (by decide))).trans e1))) ?_
              refine lv_aload_n X.1 X.2.1 d_Ce_judge_164 rfl (lv_at hl 0 rfl) ?_
              refine t_get0 (ci := 4) X Y S k0 rfl i_Ce 8 (by decide) rfl lk_Ce_81 (fun _ h9 => h9) d_Ce_judge_165 w31.2.1 ?_
              refine lv_iconst (v := iI 0) X.1 X.2.1 d_Ce_judge_168 (by decide) ?_
              refine t_ui (t_runV (As := [.int (iI z30), .int (iI 0)]) (rest := [.ref b1, .ref h]) (n := 2) X Y S k1 hml hl.1 (c_By_field l D E T κ L f31 H.size b1 4000 k1 (by omega) z30 (by omega) (by omega) 0 (by omega) (by omega) S.1) (ok_k X Y hA KS KR) rfl kl_Ce_By_field ks_By_field kx_By_field ki_By_field ini_By ⟨rfl, rfl⟩ hd_By_field ⟨Nat.le_of_ble_eq_true rfl, Nat.le_of_ble_eq_true rfl⟩ rfl (Nat.le_of_ble_eq_true rfl) d_Ce_judge_169 ⟨Nat.le_of_ble_eq_true rfl, Nat.le_of_ble_eq_true rfl⟩) X Y hA (fun z32 H locs Y p32 => ?_)
              obtain ⟨l32, u32⟩ := p32
              refine t_ui (t_runV (As := [.int (iI z32)]) (rest := [.ref h]) (n := 1) X Y S k1 hml hl.1 (c_By_bitsAt l D E T κ L f31 H.size b1 4000 k1 (by omega) z32 (by omega) (by omega) S.1) (ok_k X Y hA KS KR) rfl kl_Ce_By_bitsAt ks_By_bitsAt kx_By_bitsAt ki_By_bitsAt ini_By ⟨rfl, rfl⟩ hd_By_bitsAt ⟨Nat.le_of_ble_eq_true rfl, Nat.le_of_ble_eq_true rfl⟩ rfl (Nat.le_of_ble_eq_true rfl) d_Ce_judge_172 ⟨Nat.le_of_ble_eq_true rfl, Nat.le_of_ble_eq_true rfl⟩) X Y hA (fun z33 H locs Y p33 => ?_)
              obtain ⟨l33, u33⟩ := p33
              refine t_put (ci := 4) X Y S k0 rfl i_Ce t_Ce t_Ce_ok n_Ce 9 (by decide) rfl lk_Ce_44 (fun _ h9 => h9) rfl (t_Ce_ok 9 (by decide)) rfl rfl ⟨_, rfl, by omega, by omega⟩ (fun h9 => h9.2.1 (by rw [← (S.2.2.2 _ h9).2, k0]; decide)) d_Ce_judge_175 (fun f34 H locs Y S w34 => ?_)
              refine lv_aload_n X.1 X.2.1 d_Ce_judge_178 rfl (lv_at hl 0 rfl) ?_
              refine t_get0 (ci := 4) X Y S k0 rfl i_Ce 3 (by decide) rfl lk_Ce_30 (fun _ h9 => h9) d_Ce_judge_179 ((gF_put w34 (Or.inr (by decide))).trans ((gF_put w31 (Or.inr (by decide))).trans ((gF_put w14 (Or.inr (by decide))).trans ((gF_put w8 (Or.inr (by decide))).trans e1)))) ?_
              refine lv_aload_n X.1 X.2.1 d_Ce_judge_182 rfl (lv_at hl 0 rfl) ?_
              refine t_get0 (ci := 4) X Y S k0 rfl i_Ce 8 (by decide) rfl lk_Ce_81 (fun _ h9 => h9) d_Ce_judge_183 ((gF_put w34 (Or.inr (by decide))).trans w31.2.1) ?_
              refine lv_iconst (v := iI 3) X.1 X.2.1 d_Ce_judge_186 (by decide) ?_
              refine t_ui (t_runV (As := [.int (iI z30), .int (iI 3)]) (rest := []) (n := 2) X Y S k1 hml hl.1 (c_By_field l D E T κ L f34 H.size b1 4000 k1 (by omega) z30 (by omega) (by omega) 3 (by omega) (by omega) S.1) (ok_k X Y hA KS KR) rfl kl_Ce_By_field ks_By_field kx_By_field ki_By_field ini_By ⟨rfl, rfl⟩ hd_By_field ⟨Nat.le_of_ble_eq_true rfl, Nat.le_of_ble_eq_true rfl⟩ rfl (Nat.le_of_ble_eq_true rfl) d_Ce_judge_187 ⟨Nat.le_of_ble_eq_true rfl, Nat.le_of_ble_eq_true rfl⟩) X Y hA (fun z35 H locs Y p35 => ?_)
              obtain ⟨l35, u35⟩ := p35
              refine z_if_ge (tgt := 196) X.1 X.2.1 d_Ce_judge_190 (by decide) ⟨by omega, by omega⟩ (fun h36 => ?_) (fun h36 => ?_)
              · refine lv_aload_n X.1 X.2.1 d_Ce_judge_196 rfl (lv_at hl 0 rfl) ?_
                refine t_get0 (ci := 4) X Y S k0 rfl i_Ce 3 (by decide) rfl lk_Ce_30 (fun _ h9 => h9) d_Ce_judge_197 ((gF_put w34 (Or.inr (by decide))).trans ((gF_put w31 (Or.inr (by decide))).trans ((gF_put w14 (Or.inr (by decide))).trans ((gF_put w8 (Or.inr (by decide))).trans e1)))) ?_
                refine lv_aload_n X.1 X.2.1 d_Ce_judge_200 rfl (lv_at hl 0 rfl) ?_
                refine t_get0 (ci := 4) X Y S k0 rfl i_Ce 3 (by decide) rfl lk_Ce_30 (fun _ h9 => h9) d_Ce_judge_201 ((gF_put w34 (Or.inr (by decide))).trans ((gF_put w31 (Or.inr (by decide))).trans ((gF_put w14 (Or.inr (by decide))).trans ((gF_put w8 (Or.inr (by decide))).trans e1)))) ?_
                refine lv_aload_n X.1 X.2.1 d_Ce_judge_204 rfl (lv_at hl 0 rfl) ?_
                refine t_get0 (ci := 4) X Y S k0 rfl i_Ce 8 (by decide) rfl lk_Ce_81 (fun _ h9 => h9) d_Ce_judge_205 ((gF_put w34 (Or.inr (by decide))).trans w31.2.1) ?_
                refine lv_iconst (v := iI 2) X.1 X.2.1 d_Ce_judge_208 (by decide) ?_
                refine t_ui (t_runV (As := [.int (iI z30), .int (iI 2)]) (rest := [.ref b1]) (n := 2) X Y S k1 hml hl.1 (c_By_field l D E T κ L f34 H.size b1 4000 k1 (by omega) z30 (by omega) (by omega) 2 (by omega) (by omega) S.1) (ok_k X Y hA KS KR) rfl kl_Ce_By_field ks_By_field kx_By_field ki_By_field ini_By ⟨rfl, rfl⟩ hd_By_field ⟨Nat.le_of_ble_eq_true rfl, Nat.le_of_ble_eq_true rfl⟩ rfl (Nat.le_of_ble_eq_true rfl) d_Ce_judge_209 ⟨Nat.le_of_ble_eq_true rfl, Nat.le_of_ble_eq_true rfl⟩) X Y hA (fun z37 H locs Y p37 => ?_)
                obtain ⟨l37, u37⟩ := p37
                refine t_ui (t_runV (As := [.int (iI z37)]) (rest := []) (n := 1) X Y S k1 hml hl.1 (c_By_isRealm l D E T κ L f34 H.size b1 4000 k1 (by omega) z37 (by omega) (by omega) S.1) (ok_k X Y hA KS KR) rfl kl_Ce_By_isRealm ks_By_isRealm kx_By_isRealm ki_By_isRealm ini_By ⟨rfl, rfl⟩ hd_By_isRealm ⟨Nat.le_of_ble_eq_true rfl, Nat.le_of_ble_eq_true rfl⟩ rfl (Nat.le_of_ble_eq_true rfl) d_Ce_judge_212 ⟨Nat.le_of_ble_eq_true rfl, Nat.le_of_ble_eq_true rfl⟩) X Y hA (fun z38 H locs Y p38 => ?_)
                obtain ⟨l38, u38⟩ := p38
                refine z_if_ne (tgt := 221) X.1 X.2.1 d_Ce_judge_215 (by decide) ⟨by omega, by omega⟩ (fun h39 => ?_) (fun h39 => ?_)
                · refine lv_aload_n X.1 X.2.1 d_Ce_judge_221 rfl (lv_at hl 0 rfl) ?_
                  refine t_get0 (ci := 4) X Y S k0 rfl i_Ce 6 (by decide) rfl lk_Ce_65 (fun _ h9 => h9) d_Ce_judge_222 ((gF_put w34 (Or.inr (by decide))).trans ((gF_put w31 (Or.inr (by decide))).trans ((gF_put w14 (Or.inr (by decide))).trans w8.2.1))) ?_
                  refine z_if_ne (tgt := 241) X.1 X.2.1 d_Ce_judge_225 (by decide) ⟨by omega, by omega⟩ (fun h40 => ?_) (fun h40 => ?_)
                  · refine lv_iconst (v := iI 0) X.1 X.2.1 d_Ce_judge_241 (by decide) ?_
                    exact c_reti hQQ X Y hr hlk ⟨rfl, S, 0, rfl, ⟨by omega, by omega⟩⟩ d_Ce_judge_242
                  · refine lv_aload_n X.1 X.2.1 d_Ce_judge_228 rfl (lv_at hl 0 rfl) ?_
                    refine lv_iconst (v := iI 1) X.1 X.2.1 d_Ce_judge_229 (by decide) ?_
                    refine t_ui (t_runV (As := [.int (iI 1)]) (rest := []) (n := 1) X Y S k0 hml hl.1 (c_Ce_shown l D E T κ L f34 H.size h k0 1 (by omega) (by omega) S.1) (ok_k X Y hA KS KR) rfl kl_Ce_Ce_shown ks_Ce_shown kx_Ce_shown ki_Ce_shown ini_Ce ⟨rfl, rfl⟩ hd_Ce_shown ⟨Nat.le_of_ble_eq_true rfl, Nat.le_of_ble_eq_true rfl⟩ rfl (Nat.le_of_ble_eq_true rfl) d_Ce_judge_230 ⟨Nat.le_of_ble_eq_true rfl, Nat.le_of_ble_eq_true rfl⟩) X Y hA (fun z41 H locs Y p41 => ?_)
                    obtain ⟨l41, u41⟩ := p41
                    refine z_if_ge (tgt := 241) X.1 X.2.1 d_Ce_judge_233 (by decide) ⟨by omega, by omega⟩ (fun h42 => ?_) (fun h42 => ?_)
                    · refine lv_iconst (v := iI 0) X.1 X.2.1 d_Ce_judge_241 (by decide) ?_
                      exact c_reti hQQ X Y hr hlk ⟨rfl, S, 0, rfl, ⟨by omega, by omega⟩⟩ d_Ce_judge_242
                    · refine lv_bipush (v := iI 25) X.1 X.2.1 d_Ce_judge_236 (by decide) ?_
                      refine lv_goto (tgt := 242) X.1 X.2.1 d_Ce_judge_238 (by decide) ?_
                      exact c_reti hQQ X Y hr hlk ⟨rfl, S, 25, rfl, ⟨by omega, by omega⟩⟩ d_Ce_judge_242
                · refine lv_bipush (v := iI 68) X.1 X.2.1 d_Ce_judge_218 (by decide) ?_
                  exact c_reti hQQ X Y hr hlk ⟨rfl, S, 68, rfl, ⟨by omega, by omega⟩⟩ d_Ce_judge_220
              · refine lv_bipush (v := iI 7) X.1 X.2.1 d_Ce_judge_193 (by decide) ?_
                exact c_reti hQQ X Y hr hlk ⟨rfl, S, 7, rfl, ⟨by omega, by omega⟩⟩ d_Ce_judge_195
            · refine lv_bipush (v := iI 40) X.1 X.2.1 d_Ce_judge_139 (by decide) ?_
              exact c_reti hQQ X Y hr hlk ⟨rfl, S, 40, rfl, ⟨by omega, by omega⟩⟩ d_Ce_judge_141
          refine z_if_eq (tgt := 132) X.1 X.2.1 d_Ce_judge_124 (by decide) ⟨by omega, by omega⟩ (fun h43 => ?_) (fun h43 => ?_)
          · refine lv_bipush (v := iI 12) X.1 X.2.1 d_Ce_judge_132 (by decide) ?_
            exact J23 12 _ _ _ (by omega) (by omega) Y S (lv_sub hl [0] rfl)
          · refine lv_bipush (v := iI 10) X.1 X.2.1 d_Ce_judge_127 (by decide) ?_
            refine lv_goto (tgt := 134) X.1 X.2.1 d_Ce_judge_129 (by decide) ?_
            exact J23 10 _ _ _ (by omega) (by omega) Y S (lv_sub hl [0] rfl)
        · refine lv_iconst (v := iI 3) X.1 X.2.1 d_Ce_judge_102 (by decide) ?_
          exact c_reti hQQ X Y hr hlk ⟨rfl, S, 3, rfl, ⟨by omega, by omega⟩⟩ d_Ce_judge_103
      · refine lv_bipush (v := iI 60) X.1 X.2.1 d_Ce_judge_76 (by decide) ?_
        exact c_reti hQQ X Y hr hlk ⟨rfl, S, 60, rfl, ⟨by omega, by omega⟩⟩ d_Ce_judge_78
    have J44 : ∀  (H : Heap) (locs : List Loc) (ls : Array Slot), pH D cCl (pA L sz) s.heap L f8 H locs → tS E T (tFr κ L [14] []) κ L f κ L f8 → lv_has ls 2 [(0, .ref h)] → W p l e (kRm 71 2363 0 0) s m AV below meth c H locs 0 0 QQ (F0 m 65 ls [.ref h]) := by
      intro  H locs ls  Y S hl
      refine lv_iconst (v := iI 0) X.1 X.2.1 d_Ce_judge_65 (by decide) ?_
      exact J10 0 _ _ _ (by omega) (by omega) Y S (lv_sub hl [0] rfl)
    have J48 : ∀  (H : Heap) (locs : List Loc) (ls : Array Slot), pH D cCl (pA L sz) s.heap L f8 H locs → tS E T (tFr κ L [14] []) κ L f κ L f8 → lv_has ls 2 [(0, .ref h), (1, .int (iI z2))] → W p l e (kRm 71 2363 0 0) s m AV below meth c H locs 0 0 QQ (F0 m 38 ls [.ref h]) := by
      intro  H locs ls  Y S hl
      refine lv_aload_n X.1 X.2.1 d_Ce_judge_38 rfl (lv_at hl 0 rfl) ?_
      refine t_get0 (ci := 4) X Y S k0 rfl i_Ce 3 (by decide) rfl lk_Ce_30 (fun _ h9 => h9) d_Ce_judge_39 ((gF_put w8 (Or.inr (by decide))).trans e1) ?_
      refine lv_sipush (v := iI 256) X.1 X.2.1 d_Ce_judge_42 (by decide) ?_
      refine lv_iload_n X.1 X.2.1 d_Ce_judge_45 rfl (lv_at hl 1 rfl) ?_
      refine z_iadd X.1 X.2.1 d_Ce_judge_46 ?_
      refine lv_iconst (v := iI 0) X.1 X.2.1 d_Ce_judge_47 (by decide) ?_
      refine lv_aload_n X.1 X.2.1 d_Ce_judge_48 rfl (lv_at hl 0 rfl) ?_
      refine t_get0 (ci := 4) X Y S k0 rfl i_Ce 3 (by decide) rfl lk_Ce_30 (fun _ h9 => h9) d_Ce_judge_49 ((gF_put w8 (Or.inr (by decide))).trans e1) ?_
      refine t_gets (ci := 3) X Y S k1 rfl i_By 1 (by decide) rfl lk_Ce_69 (fun _ h9 => h9) d_Ce_judge_52 (fun z52 e52 l52 u52 => ?_)
      refine t_ui (t_runV (As := [.int (iI (256 + z2)), .int (iI 0), .int (iI z52)]) (rest := [.ref h]) (n := 3) X Y S k1 hml hl.1 (c_By_isA l D E T κ L f8 H.size b1 4000 k1 (by omega) (256 + z2) (by omega) (by omega) 0 (by omega) (by omega) z52 (by omega) (by omega) S.1) (ok_k X Y hA KS KR) rfl kl_Ce_By_isA ks_By_isA kx_By_isA ki_By_isA ini_By ⟨rfl, rfl⟩ hd_By_isA ⟨Nat.le_of_ble_eq_true rfl, Nat.le_of_ble_eq_true rfl⟩ rfl (Nat.le_of_ble_eq_true rfl) d_Ce_judge_55 ⟨Nat.le_of_ble_eq_true rfl, Nat.le_of_ble_eq_true rfl⟩) X Y hA (fun z53 H locs Y p53 => ?_)
      obtain ⟨l53, u53⟩ := p53
      refine z_if_eq (tgt := 65) X.1 X.2.1 d_Ce_judge_58 (by decide) ⟨by omega, by omega⟩ (fun h54 => ?_) (fun h54 => ?_)
      · exact J44  _ _ _  Y S (lv_sub hl [0] rfl)
      · refine lv_iconst (v := iI 1) X.1 X.2.1 d_Ce_judge_61 (by decide) ?_
        refine lv_goto (tgt := 66) X.1 X.2.1 d_Ce_judge_62 (by decide) ?_
        exact J10 1 _ _ _ (by omega) (by omega) Y S (lv_sub hl [0] rfl)
    refine z_if_ne (tgt := 38) X.1 X.2.1 d_Ce_judge_29 (by decide) ⟨by omega, by omega⟩ (fun h55 => ?_) (fun h55 => ?_)
    · exact J48  _ _ _  Y S (lv_sub hl [0, 1] rfl)
    · refine lv_iload_n X.1 X.2.1 d_Ce_judge_32 rfl (lv_at hl 1 rfl) ?_
      refine lv_bipush (v := iI 108) X.1 X.2.1 d_Ce_judge_33 (by decide) ?_
      refine z_icmp_ne (tgt := 65) X.1 X.2.1 d_Ce_judge_35 (by decide) ⟨by omega, by omega⟩ ⟨by omega, by omega⟩ (fun h56 => ?_) (fun h56 => ?_)
      · exact J44  _ _ _  Y S (lv_sub hl [0] rfl)
      · exact J48  _ _ _  Y S (lv_sub hl [0, 1] rfl)
  refine z_icmp_ne (tgt := 20) X.1 X.2.1 d_Ce_judge_13 (by decide) ⟨by omega, by omega⟩ ⟨by omega, by omega⟩ (fun h57 => ?_) (fun h57 => ?_)
  · refine lv_iconst (v := iI 0) X.1 X.2.1 d_Ce_judge_20 (by decide) ?_
    exact J4 0 _ _ _ (by omega) (by omega) Y S (lv_sub hl [1, 0] rfl)
  · refine lv_iconst (v := iI 1) X.1 X.2.1 d_Ce_judge_16 (by decide) ?_
    refine lv_goto (tgt := 21) X.1 X.2.1 d_Ce_judge_17 (by decide) ?_
    exact J4 1 _ _ _ (by omega) (by omega) Y S (lv_sub hl [1, 0] rfl)
set_option maxHeartbeats 4000000 in
set_option maxRecDepth 100000 in
theorem c_Ce_judgeAs (l : Launch) (D : va_G) (E : cE) (T : cT) (κ : tK) (L : List Nat) (f : pF) (sz : Nat) (h : Nat) (k0 : κ h = (14, 0)) (hw : tW E T κ L f) : Met l y_Ce_judgeAs (k_Ce_judgeAs :: lw_tg) (kRm 72 2388 0 0) (va_Pc [.ref h] (kPre D E T L f sz)) (va_Qi (nPi E T [1, 2, 3, 4, 11, 13, 14, 16] κ L f (fun (z : Int) (g : pF) => (-2147483648) ≤ z ∧ z ≤ 2147483647)) (cPost D E (pA L sz)) (pA L sz)) 0 0 (pA L sz) := by
  refine k_enter (own := R_Ce) (by decide) rfl (Nat.le_of_ble_eq_true rfl) (fun p e s m below meth c ls AV QQ H locs hQQ X Y hA hin hr hlk hml hl KS KR => ?_)
  have hl : lv_has ls 2 [(0, .ref h)] := hl
  have S : tS E T (tFr κ L [1, 2, 3, 4, 11, 13, 14, 16] []) κ L f κ L f := tS_rf hw
  refine lv_aload_n X.1 X.2.1 d_Ce_judgeAs_0 rfl (lv_at hl 0 rfl) ?_
  refine lv_aload_n X.1 X.2.1 d_Ce_judgeAs_1 rfl (lv_at hl 0 rfl) ?_
  refine t_getr (ci := 4) X Y S k0 rfl i_Ce 3 (by decide) rfl (k1 := 13) (k2 := 4000) rfl rfl lk_Ce_30 (fun _ h9 => h9) d_Ce_judgeAs_2 (fun b1 e1 k1 => ?_)
  refine lv_aload_n X.1 X.2.1 d_Ce_judgeAs_5 rfl (lv_at hl 0 rfl) ?_
  refine t_get0 (ci := 4) X Y S k0 rfl i_Ce 3 (by decide) rfl lk_Ce_30 (fun _ h9 => h9) d_Ce_judgeAs_6 e1 ?_
  refine lv_aload_n X.1 X.2.1 d_Ce_judgeAs_9 rfl (lv_at hl 0 rfl) ?_
  refine t_geti (ci := 4) X Y S k0 rfl i_Ce 8 (by decide) rfl lk_Ce_81 (fun _ h9 => h9) d_Ce_judgeAs_10 (fun z2 e2 l2 u2 => ?_)
  refine lv_iconst (v := iI 1) X.1 X.2.1 d_Ce_judgeAs_13 (by decide) ?_
  refine t_ui (t_runV (As := [.int (iI z2), .int (iI 1)]) (rest := [.ref b1, .ref h]) (n := 2) X Y S k1 hml hl.1 (c_By_field l D E T κ L f H.size b1 4000 k1 (by omega) z2 (by omega) (by omega) 1 (by omega) (by omega) S.1) (ok_k X Y hA KS KR) rfl kl_Ce_By_field ks_By_field kx_By_field ki_By_field ini_By ⟨rfl, rfl⟩ hd_By_field ⟨Nat.le_of_ble_eq_true rfl, Nat.le_of_ble_eq_true rfl⟩ rfl (Nat.le_of_ble_eq_true rfl) d_Ce_judgeAs_14 ⟨Nat.le_of_ble_eq_true rfl, Nat.le_of_ble_eq_true rfl⟩) X Y hA (fun z3 H locs Y p3 => ?_)
  obtain ⟨l3, u3⟩ := p3
  refine t_ni (t_runV (As := [.ref b1, .int (iI z3)]) (rest := []) (n := 2) X Y S k0 hml hl.1 (c_Ce_judgeClient l D E T κ L f H.size h k0 b1 4000 k1 (by omega) z3 (by omega) (by omega) S.1) (ok_k X Y hA KS KR) rfl kl_Ce_Ce_judgeClient ks_Ce_judgeClient kx_Ce_judgeClient ki_Ce_judgeClient ini_Ce ⟨rfl, rfl⟩ hd_Ce_judgeClient ⟨Nat.le_of_ble_eq_true rfl, Nat.le_of_ble_eq_true rfl⟩ rfl (Nat.le_of_ble_eq_true rfl) d_Ce_judgeAs_17 ⟨Nat.le_of_ble_eq_true rfl, Nat.le_of_ble_eq_true rfl⟩) X Y hA S (by decide) (fun z4 f4 H locs Y S s4 p4 => ?_)
  obtain ⟨l4, u4⟩ := p4
  refine lv_istore_n (lv' := [(1, .int (iI z4)), (0, .ref h)]) X.1 X.2.1 d_Ce_judgeAs_20 rfl hl (by decide) rfl (fun ls hl => ?_)
  refine lv_iload_n X.1 X.2.1 d_Ce_judgeAs_21 rfl (lv_at hl 0 rfl) ?_
  have J7 : ∀ (z6 : Int) (f5 : pF) (H : Heap) (locs : List Loc) (ls : Array Slot), ((-2147483648) ≤ z6) → (z6 ≤ 2147483647) → pH D cCl (pA L sz) s.heap L f5 H locs → tS E T (tFr κ L [1, 2, 3, 4, 11, 13, 14, 16] []) κ L f κ L f5 → lv_has ls 2 [(0, .ref h), (1, .int (iI z6))] → W p l e (kRm 72 2388 0 0) s m AV below meth c H locs 0 0 QQ (F0 m 30 ls []) := by
    intro z6 f5 H locs ls l6 u6 Y S hl
    refine lv_iload_n X.1 X.2.1 d_Ce_judgeAs_30 rfl (lv_at hl 1 rfl) ?_
    refine z_if_eq (tgt := 36) X.1 X.2.1 d_Ce_judgeAs_31 (by decide) ⟨by omega, by omega⟩ (fun h11 => ?_) (fun h11 => ?_)
    · refine lv_aload_n X.1 X.2.1 d_Ce_judgeAs_36 rfl (lv_at hl 0 rfl) ?_
      refine lv_ldc (v := (-1350631473)) X.1 X.2.1 X.2.2.2.1 (X.2.2.1 _ cn_Ce_102) d_Ce_judgeAs_37 ?_
      refine t_eq (y := iI (-1350631473)) (by decide) ?_
      refine t_ui (t_runV (As := [.int (iI ((-1350631473)))]) (rest := []) (n := 1) X Y S k0 hml hl.1 (c_Ce_asks l D E T κ L f5 H.size h k0 ((-1350631473)) (by omega) (by omega) S.1) (ok_k X Y hA KS KR) rfl kl_Ce_Ce_asks ks_Ce_asks kx_Ce_asks ki_Ce_asks ini_Ce ⟨rfl, rfl⟩ hd_Ce_asks ⟨Nat.le_of_ble_eq_true rfl, Nat.le_of_ble_eq_true rfl⟩ rfl (Nat.le_of_ble_eq_true rfl) d_Ce_judgeAs_39 ⟨Nat.le_of_ble_eq_true rfl, Nat.le_of_ble_eq_true rfl⟩) X Y hA (fun z12 H locs Y p12 => ?_)
      obtain ⟨l12, u12⟩ := p12
      refine z_if_ne (tgt := 67) X.1 X.2.1 d_Ce_judgeAs_42 (by decide) ⟨by omega, by omega⟩ (fun h13 => ?_) (fun h13 => ?_)
      · refine lv_bipush (v := iI 13) X.1 X.2.1 d_Ce_judgeAs_67 (by decide) ?_
        exact c_reti hQQ X Y hr hlk ⟨rfl, S, 13, rfl, ⟨by omega, by omega⟩⟩ d_Ce_judgeAs_69
      · refine lv_aload_n X.1 X.2.1 d_Ce_judgeAs_45 rfl (lv_at hl 0 rfl) ?_
        refine t_getr (ci := 4) X Y S k0 rfl i_Ce 3 (by decide) rfl (k1 := 13) (k2 := 4000) rfl rfl lk_Ce_30 (fun _ h9 => h9) d_Ce_judgeAs_46 (fun b14 e14 k14 => ?_)
        refine lv_aload_n X.1 X.2.1 d_Ce_judgeAs_49 rfl (lv_at hl 0 rfl) ?_
        refine t_get0 (ci := 4) X Y S k0 rfl i_Ce 3 (by decide) rfl lk_Ce_30 (fun _ h9 => h9) d_Ce_judgeAs_50 e14 ?_
        refine lv_aload_n X.1 X.2.1 d_Ce_judgeAs_53 rfl (lv_at hl 0 rfl) ?_
        refine t_geti (ci := 4) X Y S k0 rfl i_Ce 8 (by decide) rfl lk_Ce_81 (fun _ h9 => h9) d_Ce_judgeAs_54 (fun z15 e15 l15 u15 => ?_)
        refine lv_iconst (v := iI 0) X.1 X.2.1 d_Ce_judgeAs_57 (by decide) ?_
        refine t_ui (t_runV (As := [.int (iI z15), .int (iI 0)]) (rest := [.ref b14]) (n := 2) X Y S k14 hml hl.1 (c_By_field l D E T κ L f5 H.size b14 4000 k14 (by omega) z15 (by omega) (by omega) 0 (by omega) (by omega) S.1) (ok_k X Y hA KS KR) rfl kl_Ce_By_field ks_By_field kx_By_field ki_By_field ini_By ⟨rfl, rfl⟩ hd_By_field ⟨Nat.le_of_ble_eq_true rfl, Nat.le_of_ble_eq_true rfl⟩ rfl (Nat.le_of_ble_eq_true rfl) d_Ce_judgeAs_58 ⟨Nat.le_of_ble_eq_true rfl, Nat.le_of_ble_eq_true rfl⟩) X Y hA (fun z16 H locs Y p16 => ?_)
        obtain ⟨l16, u16⟩ := p16
        refine t_ui (t_runV (As := [.int (iI z16)]) (rest := []) (n := 1) X Y S k14 hml hl.1 (c_By_hasFarBits l D E T κ L f5 H.size b14 4000 k14 (by omega) z16 (by omega) (by omega) S.1) (ok_k X Y hA KS KR) rfl kl_Ce_By_hasFarBits ks_By_hasFarBits kx_By_hasFarBits ki_By_hasFarBits ini_By ⟨rfl, rfl⟩ hd_By_hasFarBits ⟨Nat.le_of_ble_eq_true rfl, Nat.le_of_ble_eq_true rfl⟩ rfl (Nat.le_of_ble_eq_true rfl) d_Ce_judgeAs_61 ⟨Nat.le_of_ble_eq_true rfl, Nat.le_of_ble_eq_true rfl⟩) X Y hA (fun z17 H locs Y p17 => ?_)
        obtain ⟨l17, u17⟩ := p17
        refine z_if_eq (tgt := 70) X.1 X.2.1 d_Ce_judgeAs_64 (by decide) ⟨by omega, by omega⟩ (fun h18 => ?_) (fun h18 => ?_)
        · refine lv_aload_n X.1 X.2.1 d_Ce_judgeAs_70 rfl (lv_at hl 0 rfl) ?_
          refine t_get0 (ci := 4) X Y S k0 rfl i_Ce 3 (by decide) rfl lk_Ce_30 (fun _ h9 => h9) d_Ce_judgeAs_71 e14 ?_
          refine lv_aload_n X.1 X.2.1 d_Ce_judgeAs_74 rfl (lv_at hl 0 rfl) ?_
          refine t_get0 (ci := 4) X Y S k0 rfl i_Ce 3 (by decide) rfl lk_Ce_30 (fun _ h9 => h9) d_Ce_judgeAs_75 e14 ?_
          refine lv_aload_n X.1 X.2.1 d_Ce_judgeAs_78 rfl (lv_at hl 0 rfl) ?_
          refine t_get0 (ci := 4) X Y S k0 rfl i_Ce 8 (by decide) rfl lk_Ce_81 (fun _ h9 => h9) d_Ce_judgeAs_79 e15 ?_
          refine lv_iconst (v := iI 4) X.1 X.2.1 d_Ce_judgeAs_82 (by decide) ?_
          refine t_ui (t_runV (As := [.int (iI z15), .int (iI 4)]) (rest := [.ref b14]) (n := 2) X Y S k14 hml hl.1 (c_By_field l D E T κ L f5 H.size b14 4000 k14 (by omega) z15 (by omega) (by omega) 4 (by omega) (by omega) S.1) (ok_k X Y hA KS KR) rfl kl_Ce_By_field ks_By_field kx_By_field ki_By_field ini_By ⟨rfl, rfl⟩ hd_By_field ⟨Nat.le_of_ble_eq_true rfl, Nat.le_of_ble_eq_true rfl⟩ rfl (Nat.le_of_ble_eq_true rfl) d_Ce_judgeAs_83 ⟨Nat.le_of_ble_eq_true rfl, Nat.le_of_ble_eq_true rfl⟩) X Y hA (fun z19 H locs Y p19 => ?_)
          obtain ⟨l19, u19⟩ := p19
          refine t_ui (t_runV (As := [.int (iI z19)]) (rest := []) (n := 1) X Y S k14 hml hl.1 (c_By_timeAt l D E T κ L f5 H.size b14 4000 k14 (by omega) z19 (by omega) (by omega) S.1) (ok_k X Y hA KS KR) rfl kl_Ce_By_timeAt ks_By_timeAt kx_By_timeAt ki_By_timeAt ini_By ⟨rfl, rfl⟩ hd_By_timeAt ⟨Nat.le_of_ble_eq_true rfl, Nat.le_of_ble_eq_true rfl⟩ rfl (Nat.le_of_ble_eq_true rfl) d_Ce_judgeAs_86 ⟨Nat.le_of_ble_eq_true rfl, Nat.le_of_ble_eq_true rfl⟩) X Y hA (fun z20 H locs Y p20 => ?_)
          obtain ⟨l20, u20⟩ := p20
          refine lv_aload_n X.1 X.2.1 d_Ce_judgeAs_89 rfl (lv_at hl 0 rfl) ?_
          refine t_getr (ci := 4) X Y S k0 rfl i_Ce 0 (by decide) rfl (k1 := 21) (k2 := 0) rfl rfl lk_Ce_18 (fun _ h9 => h9) d_Ce_judgeAs_90 (fun b21 e21 k21 => ?_)
          refine t_geti (ci := 11) X Y S k21 rfl i_Va 0 (by decide) rfl lk_Ce_112 (fun _ h9 => h9) d_Ce_judgeAs_93 (fun z22 e22 l22 u22 => ?_)
          refine lv_isub X.1 X.2.1 d_Ce_judgeAs_96 ?_
          refine t_u (fun z23 l23 u23 => ?_)
          refine lv_sipush (v := iI 300) X.1 X.2.1 d_Ce_judgeAs_97 (by decide) ?_
          refine z_icmp_le (tgt := 106) X.1 X.2.1 d_Ce_judgeAs_100 (by decide) ⟨by omega, by omega⟩ ⟨by omega, by omega⟩ (fun h24 => ?_) (fun h24 => ?_)
          · refine lv_aload_n X.1 X.2.1 d_Ce_judgeAs_106 rfl (lv_at hl 0 rfl) ?_
            refine t_ni (t_runV (As := []) (rest := []) (n := 0) X Y S k0 hml hl.1 (c_Ce_findType l D E T κ L f5 H.size h k0 S.1) (ok_k X Y hA KS KR) rfl kl_Ce_Ce_findType ks_Ce_findType kx_Ce_findType ki_Ce_findType ini_Ce ⟨rfl, rfl⟩ hd_Ce_findType ⟨Nat.le_of_ble_eq_true rfl, Nat.le_of_ble_eq_true rfl⟩ rfl (Nat.le_of_ble_eq_true rfl) d_Ce_judgeAs_107 ⟨Nat.le_of_ble_eq_true rfl, Nat.le_of_ble_eq_true rfl⟩) X Y hA S (by decide) (fun z25 f25 H locs Y S s25 p25 => ?_)
            obtain ⟨l25, u25⟩ := p25
            refine z_if_ne (tgt := 116) X.1 X.2.1 d_Ce_judgeAs_110 (by decide) ⟨by omega, by omega⟩ (fun h26 => ?_) (fun h26 => ?_)
            · refine lv_aload_n X.1 X.2.1 d_Ce_judgeAs_116 rfl (lv_at hl 0 rfl) ?_
              refine t_getr (ci := 4) X Y S k0 rfl i_Ce 10 (by decide) rfl (k1 := 17) (k2 := 0) rfl rfl lk_Ce_37 (fun _ h9 => h9) d_Ce_judgeAs_117 (fun b27 e27 k27 => ?_)
              refine lv_iconst (v := iI 1) X.1 X.2.1 d_Ce_judgeAs_120 (by decide) ?_
              refine t_ui (t_runV (As := [.int (iI 1)]) (rest := []) (n := 1) X Y S k27 hml hl.1 (c_Pr_is l D E T κ L f25 H.size b27 k27 1 (by omega) (by omega) S.1) (ok_k X Y hA KS KR) rfl kl_Ce_Pr_is ks_Pr_is kx_Pr_is ki_Pr_is ini_Pr ⟨rfl, rfl⟩ hd_Pr_is ⟨Nat.le_of_ble_eq_true rfl, Nat.le_of_ble_eq_true rfl⟩ rfl (Nat.le_of_ble_eq_true rfl) d_Ce_judgeAs_121 ⟨Nat.le_of_ble_eq_true rfl, Nat.le_of_ble_eq_true rfl⟩) X Y hA (fun z28 H locs Y p28 => ?_)
              obtain ⟨l28, u28⟩ := p28
              have J31 : ∀ (z30 : Int) (f29 : pF) (H : Heap) (locs : List Loc) (ls : Array Slot), ((-2147483648) ≤ z30) → (z30 ≤ 2147483647) → pH D cCl (pA L sz) s.heap L f29 H locs → tS E T (tFr κ L [1, 2, 3, 4, 11, 13, 14, 16] []) κ L f κ L f29 → lv_has ls 2 [(0, .ref h), (1, .int (iI z30))] → W p l e (kRm 72 2388 0 0) s m AV below meth c H locs 0 0 QQ (F0 m 132 ls []) := by
                intro z30 f29 H locs ls l30 u30 Y S hl
                refine lv_iload_n X.1 X.2.1 d_Ce_judgeAs_132 rfl (lv_at hl 1 rfl) ?_
                refine z_if_ne (tgt := 143) X.1 X.2.1 d_Ce_judgeAs_133 (by decide) ⟨by omega, by omega⟩ (fun h35 => ?_) (fun h35 => ?_)
                · refine lv_iload_n X.1 X.2.1 d_Ce_judgeAs_143 rfl (lv_at hl 1 rfl) ?_
                  exact c_reti hQQ X Y hr hlk ⟨rfl, S, z30, rfl, ⟨by omega, by omega⟩⟩ d_Ce_judgeAs_144
                · refine lv_aload_n X.1 X.2.1 d_Ce_judgeAs_136 rfl (lv_at hl 0 rfl) ?_
                  refine t_ni (t_runV (As := []) (rest := []) (n := 0) X Y S k0 hml hl.1 (c_Ce_setTimes l D E T κ L f29 H.size h k0 S.1) (ok_k X Y hA KS KR) rfl kl_Ce_Ce_setTimes ks_Ce_setTimes kx_Ce_setTimes ki_Ce_setTimes ini_Ce ⟨rfl, rfl⟩ hd_Ce_setTimes ⟨Nat.le_of_ble_eq_true rfl, Nat.le_of_ble_eq_true rfl⟩ rfl (Nat.le_of_ble_eq_true rfl) d_Ce_judgeAs_137 ⟨Nat.le_of_ble_eq_true rfl, Nat.le_of_ble_eq_true rfl⟩) X Y hA S (by decide) (fun z36 f36 H locs Y S s36 p36 => ?_)
                  obtain ⟨l36, u36⟩ := p36
                  refine lv_goto (tgt := 144) X.1 X.2.1 d_Ce_judgeAs_140 (by decide) ?_
                  exact c_reti hQQ X Y hr hlk ⟨rfl, S, z36, rfl, ⟨by omega, by omega⟩⟩ d_Ce_judgeAs_144
              refine z_if_eq (tgt := 132) X.1 X.2.1 d_Ce_judgeAs_124 (by decide) ⟨by omega, by omega⟩ (fun h37 => ?_) (fun h37 => ?_)
              · exact J31 z6 f25 _ _ _ (by omega) (by omega) Y S (lv_sub hl [0, 1] rfl)
              · refine lv_aload_n X.1 X.2.1 d_Ce_judgeAs_127 rfl (lv_at hl 0 rfl) ?_
                refine t_ni (t_runV (As := []) (rest := []) (n := 0) X Y S k0 hml hl.1 (c_Ce_judgeShown l D E T κ L f25 H.size h k0 S.1) (ok_k X Y hA KS KR) rfl kl_Ce_Ce_judgeShown ks_Ce_judgeShown kx_Ce_judgeShown ki_Ce_judgeShown ini_Ce ⟨rfl, rfl⟩ hd_Ce_judgeShown ⟨Nat.le_of_ble_eq_true rfl, Nat.le_of_ble_eq_true rfl⟩ rfl (Nat.le_of_ble_eq_true rfl) d_Ce_judgeAs_128 ⟨Nat.le_of_ble_eq_true rfl, Nat.le_of_ble_eq_true rfl⟩) X Y hA S (by decide) (fun z38 f38 H locs Y S s38 p38 => ?_)
                obtain ⟨l38, u38⟩ := p38
                refine lv_istore_n (lv' := [(1, .int (iI z38)), (0, .ref h)]) X.1 X.2.1 d_Ce_judgeAs_131 rfl hl (by decide) rfl (fun ls hl => ?_)
                exact J31 z38 f38 _ _ _ (by omega) (by omega) Y S (lv_sub hl [1, 0] rfl)
            · refine lv_bipush (v := iI 14) X.1 X.2.1 d_Ce_judgeAs_113 (by decide) ?_
              exact c_reti hQQ X Y hr hlk ⟨rfl, S, 14, rfl, ⟨by omega, by omega⟩⟩ d_Ce_judgeAs_115
          · refine lv_bipush (v := iI 10) X.1 X.2.1 d_Ce_judgeAs_103 (by decide) ?_
            exact c_reti hQQ X Y hr hlk ⟨rfl, S, 10, rfl, ⟨by omega, by omega⟩⟩ d_Ce_judgeAs_105
        · refine lv_bipush (v := iI 13) X.1 X.2.1 d_Ce_judgeAs_67 (by decide) ?_
          exact c_reti hQQ X Y hr hlk ⟨rfl, S, 13, rfl, ⟨by omega, by omega⟩⟩ d_Ce_judgeAs_69
    · refine lv_iload_n X.1 X.2.1 d_Ce_judgeAs_34 rfl (lv_at hl 1 rfl) ?_
      exact c_reti hQQ X Y hr hlk ⟨rfl, S, z6, rfl, ⟨by omega, by omega⟩⟩ d_Ce_judgeAs_35
  refine z_if_ne (tgt := 30) X.1 X.2.1 d_Ce_judgeAs_22 (by decide) ⟨by omega, by omega⟩ (fun h39 => ?_) (fun h39 => ?_)
  · exact J7 z4 f4 _ _ _ (by omega) (by omega) Y S (lv_sub hl [1, 0] rfl)
  · refine lv_aload_n X.1 X.2.1 d_Ce_judgeAs_25 rfl (lv_at hl 1 rfl) ?_
    refine t_ni (t_runV (As := []) (rest := []) (n := 0) X Y S k0 hml hl.1 (c_Ce_judgeService l D E T κ L f4 H.size h k0 S.1) (ok_k X Y hA KS KR) rfl kl_Ce_Ce_judgeService ks_Ce_judgeService kx_Ce_judgeService ki_Ce_judgeService ini_Ce ⟨rfl, rfl⟩ hd_Ce_judgeService ⟨Nat.le_of_ble_eq_true rfl, Nat.le_of_ble_eq_true rfl⟩ rfl (Nat.le_of_ble_eq_true rfl) d_Ce_judgeAs_26 ⟨Nat.le_of_ble_eq_true rfl, Nat.le_of_ble_eq_true rfl⟩) X Y hA S (by decide) (fun z40 f40 H locs Y S s40 p40 => ?_)
    obtain ⟨l40, u40⟩ := p40
    refine lv_istore_n (lv' := [(1, .int (iI z40)), (0, .ref h)]) X.1 X.2.1 d_Ce_judgeAs_29 rfl hl (by decide) rfl (fun ls hl => ?_)
    exact J7 z40 f40 _ _ _ (by omega) (by omega) Y S (lv_sub hl [1, 0] rfl)
set_option maxHeartbeats 4000000 in
set_option maxRecDepth 100000 in
theorem c_Ce_judgeTgs (l : Launch) (D : va_G) (E : cE) (T : cT) (κ : tK) (L : List Nat) (f : pF) (sz : Nat) (h : Nat) (k0 : κ h = (14, 0)) (hw : tW E T κ L f) : Met l y_Ce_judgeTgs (k_Ce_judgeTgs :: lw_tg) (kRm 7 201 0 0) (va_Pc [.ref h] (kPre D E T L f sz)) (va_Qi (nPi E T [1, 2, 3, 4, 11, 14, 16] κ L f (fun (z : Int) (g : pF) => (-2147483648) ≤ z ∧ z ≤ 2147483647)) (cPost D E (pA L sz)) (pA L sz)) 0 0 (pA L sz) := by
  refine k_enter (own := R_Ce) (by decide) rfl (Nat.le_of_ble_eq_true rfl) (fun p e s m below meth c ls AV QQ H locs hQQ X Y hA hin hr hlk hml hl KS KR => ?_)
  have hl : lv_has ls 2 [(0, .ref h)] := hl
  have S : tS E T (tFr κ L [1, 2, 3, 4, 11, 14, 16] []) κ L f κ L f := tS_rf hw
  refine lv_aload_n X.1 X.2.1 d_Ce_judgeTgs_0 rfl (lv_at hl 0 rfl) ?_
  refine t_ni (t_runV (As := []) (rest := []) (n := 0) X Y S k0 hml hl.1 (c_Ce_judgeSum l D E T κ L f H.size h k0 S.1) (ok_k X Y hA KS KR) rfl kl_Ce_Ce_judgeSum ks_Ce_judgeSum kx_Ce_judgeSum ki_Ce_judgeSum ini_Ce ⟨rfl, rfl⟩ hd_Ce_judgeSum ⟨Nat.le_of_ble_eq_true rfl, Nat.le_of_ble_eq_true rfl⟩ rfl (Nat.le_of_ble_eq_true rfl) d_Ce_judgeTgs_1 ⟨Nat.le_of_ble_eq_true rfl, Nat.le_of_ble_eq_true rfl⟩) X Y hA S (by decide) (fun z1 f1 H locs Y S s1 p1 => ?_)
  obtain ⟨l1, u1⟩ := p1
  refine lv_istore_n (lv' := [(1, .int (iI z1)), (0, .ref h)]) X.1 X.2.1 d_Ce_judgeTgs_4 rfl hl (by decide) rfl (fun ls hl => ?_)
  refine lv_iload_n X.1 X.2.1 d_Ce_judgeTgs_5 rfl (lv_at hl 0 rfl) ?_
  have J3 : ∀ (z2 : Int) (H : Heap) (locs : List Loc) (ls : Array Slot), ((-2147483648) ≤ z2) → (z2 ≤ 2147483647) → pH D cCl (pA L sz) s.heap L f1 H locs → tS E T (tFr κ L [1, 2, 3, 4, 11, 14, 16] []) κ L f κ L f1 → lv_has ls 2 [(0, .ref h), (1, .int (iI z2))] → W p l e (kRm 7 201 0 0) s m AV below meth c H locs 0 0 QQ (F0 m 17 ls []) := by
    intro z2 H locs ls l2 u2 Y S hl
    refine lv_iload_n X.1 X.2.1 d_Ce_judgeTgs_17 rfl (lv_at hl 1 rfl) ?_
    have J9 : ∀ (z8 : Int) (f7 : pF) (H : Heap) (locs : List Loc) (ls : Array Slot), ((-2147483648) ≤ z8) → (z8 ≤ 2147483647) → pH D cCl (pA L sz) s.heap L f7 H locs → tS E T (tFr κ L [1, 2, 3, 4, 11, 14, 16] []) κ L f κ L f7 → lv_has ls 2 [(0, .ref h), (1, .int (iI z8))] → W p l e (kRm 7 201 0 0) s m AV below meth c H locs 0 0 QQ (F0 m 45 ls []) := by
      intro z8 f7 H locs ls l8 u8 Y S hl
      refine lv_iload_n X.1 X.2.1 d_Ce_judgeTgs_45 rfl (lv_at hl 1 rfl) ?_
      have J15 : ∀ (z14 : Int) (f13 : pF) (H : Heap) (locs : List Loc) (ls : Array Slot), ((-2147483648) ≤ z14) → (z14 ≤ 2147483647) → pH D cCl (pA L sz) s.heap L f13 H locs → tS E T (tFr κ L [1, 2, 3, 4, 11, 14, 16] []) κ L f κ L f13 → lv_has ls 2 [(0, .ref h), (1, .int (iI z14))] → W p l e (kRm 7 201 0 0) s m AV below meth c H locs 0 0 QQ (F0 m 54 ls []) := by
        intro z14 f13 H locs ls l14 u14 Y S hl
        refine lv_iload_n X.1 X.2.1 d_Ce_judgeTgs_54 rfl (lv_at hl 1 rfl) ?_
        have J20 : ∀ (z19 : Int) (H : Heap) (locs : List Loc) (ls : Array Slot), ((-2147483648) ≤ z19) → (z19 ≤ 2147483647) → pH D cCl (pA L sz) s.heap L f13 H locs → tS E T (tFr κ L [1, 2, 3, 4, 11, 14, 16] []) κ L f κ L f13 → lv_has ls 2 [(0, .ref h), (1, .int (iI z19))] → W p l e (kRm 7 201 0 0) s m AV below meth c H locs 0 0 QQ (F0 m 63 ls []) := by
          intro z19 H locs ls l19 u19 Y S hl
          refine lv_iload_n X.1 X.2.1 d_Ce_judgeTgs_63 rfl (lv_at hl 1 rfl) ?_
          have J26 : ∀ (z25 : Int) (f24 : pF) (H : Heap) (locs : List Loc) (ls : Array Slot), ((-2147483648) ≤ z25) → (z25 ≤ 2147483647) → pH D cCl (pA L sz) s.heap L f24 H locs → tS E T (tFr κ L [1, 2, 3, 4, 11, 14, 16] []) κ L f κ L f24 → lv_has ls 2 [(0, .ref h), (1, .int (iI z25))] → W p l e (kRm 7 201 0 0) s m AV below meth c H locs 0 0 QQ (F0 m 77 ls []) := by
            intro z25 f24 H locs ls l25 u25 Y S hl
            refine lv_iload_n X.1 X.2.1 d_Ce_judgeTgs_77 rfl (lv_at hl 1 rfl) ?_
            refine z_if_ne (tgt := 88) X.1 X.2.1 d_Ce_judgeTgs_78 (by decide) ⟨by omega, by omega⟩ (fun h30 => ?_) (fun h30 => ?_)
            · refine lv_iload_n X.1 X.2.1 d_Ce_judgeTgs_88 rfl (lv_at hl 1 rfl) ?_
              exact c_reti hQQ X Y hr hlk ⟨rfl, S, z25, rfl, ⟨by omega, by omega⟩⟩ d_Ce_judgeTgs_89
            · refine lv_aload_n X.1 X.2.1 d_Ce_judgeTgs_81 rfl (lv_at hl 0 rfl) ?_
              refine t_ni (t_runV (As := []) (rest := []) (n := 0) X Y S k0 hml hl.1 (c_Ce_setTimes l D E T κ L f24 H.size h k0 S.1) (ok_k X Y hA KS KR) rfl kl_Ce_Ce_setTimes ks_Ce_setTimes kx_Ce_setTimes ki_Ce_setTimes ini_Ce ⟨rfl, rfl⟩ hd_Ce_setTimes ⟨Nat.le_of_ble_eq_true rfl, Nat.le_of_ble_eq_true rfl⟩ rfl (Nat.le_of_ble_eq_true rfl) d_Ce_judgeTgs_82 ⟨Nat.le_of_ble_eq_true rfl, Nat.le_of_ble_eq_true rfl⟩) X Y hA S (by decide) (fun z31 f31 H locs Y S s31 p31 => ?_)
              obtain ⟨l31, u31⟩ := p31
              refine lv_goto (tgt := 89) X.1 X.2.1 d_Ce_judgeTgs_85 (by decide) ?_
              exact c_reti hQQ X Y hr hlk ⟨rfl, S, z31, rfl, ⟨by omega, by omega⟩⟩ d_Ce_judgeTgs_89
          refine z_if_ne (tgt := 77) X.1 X.2.1 d_Ce_judgeTgs_64 (by decide) ⟨by omega, by omega⟩ (fun h32 => ?_) (fun h32 => ?_)
          · exact J26 z19 f13 _ _ _ (by omega) (by omega) Y S (lv_sub hl [0, 1] rfl)
          · refine lv_aload_n X.1 X.2.1 d_Ce_judgeTgs_67 rfl (lv_at hl 0 rfl) ?_
            refine t_ni (t_runV (As := []) (rest := []) (n := 0) X Y S k0 hml hl.1 (c_Ce_findType l D E T κ L f13 H.size h k0 S.1) (ok_k X Y hA KS KR) rfl kl_Ce_Ce_findType ks_Ce_findType kx_Ce_findType ki_Ce_findType ini_Ce ⟨rfl, rfl⟩ hd_Ce_findType ⟨Nat.le_of_ble_eq_true rfl, Nat.le_of_ble_eq_true rfl⟩ rfl (Nat.le_of_ble_eq_true rfl) d_Ce_judgeTgs_68 ⟨Nat.le_of_ble_eq_true rfl, Nat.le_of_ble_eq_true rfl⟩) X Y hA S (by decide) (fun z33 f33 H locs Y S s33 p33 => ?_)
            obtain ⟨l33, u33⟩ := p33
            refine z_if_ne (tgt := 77) X.1 X.2.1 d_Ce_judgeTgs_71 (by decide) ⟨by omega, by omega⟩ (fun h34 => ?_) (fun h34 => ?_)
            · exact J26 z19 f33 _ _ _ (by omega) (by omega) Y S (lv_sub hl [0, 1] rfl)
            · refine lv_bipush (v := iI 14) X.1 X.2.1 d_Ce_judgeTgs_74 (by decide) ?_
              refine lv_istore_n (lv' := [(1, .int (iI 14)), (0, .ref h)]) X.1 X.2.1 d_Ce_judgeTgs_76 rfl hl (by decide) rfl (fun ls hl => ?_)
              exact J26 14 f33 _ _ _ (by omega) (by omega) Y S (lv_sub hl [1, 0] rfl)
        refine z_if_ne (tgt := 63) X.1 X.2.1 d_Ce_judgeTgs_55 (by decide) ⟨by omega, by omega⟩ (fun h35 => ?_) (fun h35 => ?_)
        · exact J20 z14 _ _ _ (by omega) (by omega) Y S (lv_sub hl [0, 1] rfl)
        · refine lv_aload_n X.1 X.2.1 d_Ce_judgeTgs_58 rfl (lv_at hl 0 rfl) ?_
          refine t_ui (t_runV (As := []) (rest := []) (n := 0) X Y S k0 hml hl.1 (c_Ce_judgeWishes l D E T κ L f13 H.size h k0 S.1) (ok_k X Y hA KS KR) rfl kl_Ce_Ce_judgeWishes ks_Ce_judgeWishes kx_Ce_judgeWishes ki_Ce_judgeWishes ini_Ce ⟨rfl, rfl⟩ hd_Ce_judgeWishes ⟨Nat.le_of_ble_eq_true rfl, Nat.le_of_ble_eq_true rfl⟩ rfl (Nat.le_of_ble_eq_true rfl) d_Ce_judgeTgs_59 ⟨Nat.le_of_ble_eq_true rfl, Nat.le_of_ble_eq_true rfl⟩) X Y hA (fun z36 H locs Y p36 => ?_)
          obtain ⟨l36, u36⟩ := p36
          refine lv_istore_n (lv' := [(1, .int (iI z36)), (0, .ref h)]) X.1 X.2.1 d_Ce_judgeTgs_62 rfl hl (by decide) rfl (fun ls hl => ?_)
          exact J20 z36 _ _ _ (by omega) (by omega) Y S (lv_sub hl [1, 0] rfl)
      refine z_if_ne (tgt := 54) X.1 X.2.1 d_Ce_judgeTgs_46 (by decide) ⟨by omega, by omega⟩ (fun h37 => ?_) (fun h37 => ?_)
      · exact J15 z8 f7 _ _ _ (by omega) (by omega) Y S (lv_sub hl [0, 1] rfl)
      · refine lv_aload_n X.1 X.2.1 d_Ce_judgeTgs_49 rfl (lv_at hl 0 rfl) ?_
        refine t_ni (t_runV (As := []) (rest := []) (n := 0) X Y S k0 hml hl.1 (c_Ce_judgeService l D E T κ L f7 H.size h k0 S.1) (ok_k X Y hA KS KR) rfl kl_Ce_Ce_judgeService ks_Ce_judgeService kx_Ce_judgeService ki_Ce_judgeService ini_Ce ⟨rfl, rfl⟩ hd_Ce_judgeService ⟨Nat.le_of_ble_eq_true rfl, Nat.le_of_ble_eq_true rfl⟩ rfl (Nat.le_of_ble_eq_true rfl) d_Ce_judgeTgs_50 ⟨Nat.le_of_ble_eq_true rfl, Nat.le_of_ble_eq_true rfl⟩) X Y hA S (by decide) (fun z38 f38 H locs Y S s38 p38 => ?_)
        obtain ⟨l38, u38⟩ := p38
        refine lv_istore_n (lv' := [(1, .int (iI z38)), (0, .ref h)]) X.1 X.2.1 d_Ce_judgeTgs_53 rfl hl (by decide) rfl (fun ls hl => ?_)
        exact J15 z38 f38 _ _ _ (by omega) (by omega) Y S (lv_sub hl [1, 0] rfl)
    refine z_if_ne (tgt := 45) X.1 X.2.1 d_Ce_judgeTgs_18 (by decide) ⟨by omega, by omega⟩ (fun h39 => ?_) (fun h39 => ?_)
    · exact J9 z2 f1 _ _ _ (by omega) (by omega) Y S (lv_sub hl [0, 1] rfl)
    · refine lv_aload_n X.1 X.2.1 d_Ce_judgeTgs_21 rfl (lv_at hl 0 rfl) ?_
      refine lv_aload_n X.1 X.2.1 d_Ce_judgeTgs_22 rfl (lv_at hl 0 rfl) ?_
      refine t_getr (ci := 4) X Y S k0 rfl i_Ce 1 (by decide) rfl (k1 := 15) (k2 := 0) rfl rfl lk_Ce_22 (fun _ h9 => h9) d_Ce_judgeTgs_23 (fun b40 e40 k40 => ?_)
      refine t_getr (ci := 5) X Y S k40 rfl i_Ga 1 (by decide) rfl (k1 := 13) (k2 := 4000) rfl rfl lk_Ce_140 (fun _ h9 => h9) d_Ce_judgeTgs_26 (fun b41 e41 k41 => ?_)
      refine lv_aload_n X.1 X.2.1 d_Ce_judgeTgs_29 rfl (lv_at hl 0 rfl) ?_
      refine t_get0 (ci := 4) X Y S k0 rfl i_Ce 1 (by decide) rfl lk_Ce_22 (fun _ h9 => h9) d_Ce_judgeTgs_30 e40 ?_
      refine t_get0 (ci := 5) X Y S k40 rfl i_Ga 1 (by decide) rfl lk_Ce_140 (fun _ h9 => h9) d_Ce_judgeTgs_33 e41 ?_
      refine lv_iconst (v := iI 0) X.1 X.2.1 d_Ce_judgeTgs_36 (by decide) ?_
      refine lv_iconst (v := iI 3) X.1 X.2.1 d_Ce_judgeTgs_37 (by decide) ?_
      refine t_ui (t_runV (As := [.int (iI 0), .int (iI 3)]) (rest := [.ref b41, .ref h]) (n := 2) X Y S k41 hml hl.1 (c_By_field l D E T κ L f1 H.size b41 4000 k41 (by omega) 0 (by omega) (by omega) 3 (by omega) (by omega) S.1) (ok_k X Y hA KS KR) rfl kl_Ce_By_field ks_By_field kx_By_field ki_By_field ini_By ⟨rfl, rfl⟩ hd_By_field ⟨Nat.le_of_ble_eq_true rfl, Nat.le_of_ble_eq_true rfl⟩ rfl (Nat.le_of_ble_eq_true rfl) d_Ce_judgeTgs_38 ⟨Nat.le_of_ble_eq_true rfl, Nat.le_of_ble_eq_true rfl⟩) X Y hA (fun z42 H locs Y p42 => ?_)
      obtain ⟨l42, u42⟩ := p42
      refine t_ni (t_runV (As := [.ref b41, .int (iI z42)]) (rest := []) (n := 2) X Y S k0 hml hl.1 (c_Ce_judgeClient l D E T κ L f1 H.size h k0 b41 4000 k41 (by omega) z42 (by omega) (by omega) S.1) (ok_k X Y hA KS KR) rfl kl_Ce_Ce_judgeClient ks_Ce_judgeClient kx_Ce_judgeClient ki_Ce_judgeClient ini_Ce ⟨rfl, rfl⟩ hd_Ce_judgeClient ⟨Nat.le_of_ble_eq_true rfl, Nat.le_of_ble_eq_true rfl⟩ rfl (Nat.le_of_ble_eq_true rfl) d_Ce_judgeTgs_41 ⟨Nat.le_of_ble_eq_true rfl, Nat.le_of_ble_eq_true rfl⟩) X Y hA S (by decide) (fun z43 f43 H locs Y S s43 p43 => ?_)
      obtain ⟨l43, u43⟩ := p43
      refine lv_istore_n (lv' := [(1, .int (iI z43)), (0, .ref h)]) X.1 X.2.1 d_Ce_judgeTgs_44 rfl hl (by decide) rfl (fun ls hl => ?_)
      exact J9 z43 f43 _ _ _ (by omega) (by omega) Y S (lv_sub hl [1, 0] rfl)
  refine z_if_ne (tgt := 17) X.1 X.2.1 d_Ce_judgeTgs_6 (by decide) ⟨by omega, by omega⟩ (fun h44 => ?_) (fun h44 => ?_)
  · exact J3 z1 _ _ _ (by omega) (by omega) Y S (lv_sub hl [1, 0] rfl)
  · refine lv_aload_n X.1 X.2.1 d_Ce_judgeTgs_9 rfl (lv_at hl 1 rfl) ?_
    refine t_getr (ci := 4) X Y S k0 rfl i_Ce 1 (by decide) rfl (k1 := 15) (k2 := 0) rfl rfl lk_Ce_22 (fun _ h9 => h9) d_Ce_judgeTgs_10 (fun b45 e45 k45 => ?_)
    refine t_ui (t_runV (As := []) (rest := []) (n := 0) X Y S k45 hml hl.1 (c_Ga_judgeTimes l D E T κ L f1 H.size b45 k45 S.1) (ok_k X Y hA KS KR) rfl kl_Ce_Ga_judgeTimes ks_Ga_judgeTimes kx_Ga_judgeTimes ki_Ga_judgeTimes ini_Ga ⟨rfl, rfl⟩ hd_Ga_judgeTimes ⟨Nat.le_of_ble_eq_true rfl, Nat.le_of_ble_eq_true rfl⟩ rfl (Nat.le_of_ble_eq_true rfl) d_Ce_judgeTgs_13 ⟨Nat.le_of_ble_eq_true rfl, Nat.le_of_ble_eq_true rfl⟩) X Y hA (fun z46 H locs Y p46 => ?_)
    obtain ⟨l46, u46⟩ := p46
    refine lv_istore_n (lv' := [(1, .int (iI z46)), (0, .ref h)]) X.1 X.2.1 d_Ce_judgeTgs_16 rfl hl (by decide) rfl (fun ls hl => ?_)
    exact J3 z46 _ _ _ (by omega) (by omega) Y S (lv_sub hl [1, 0] rfl)
set_option maxHeartbeats 4000000 in
set_option maxRecDepth 100000 in
theorem c_Ce_putClient (l : Launch) (D : va_G) (E : cE) (T : cT) (κ : tK) (L : List Nat) (f : pF) (sz : Nat) (h : Nat) (k0 : κ h = (14, 0)) (a1 n1 : Nat) (k1 : κ a1 = (13, n1)) (x1 : n1 ≤ 12288) (a2 : Int) (l_a2 : 0 ≤ a2) (u_a2 : a2 ≤ 64) (hw : tW E T κ L f) : Met l y_Ce_putClient (k_Ce_putClient :: lw_tg) (kRm 4 127 0 0) (va_Pc [.ref h, .ref a1, .int (iI a2)] (kPre D E T L f sz)) (va_Qv (nPv E T [1, 13] κ L f (fun (g : pF) => True)) (cPost D E (pA L sz)) (pA L sz)) 0 0 (pA L sz) := by
  refine k_enter (own := R_Ce) (by decide) rfl (Nat.le_of_ble_eq_true rfl) (fun p e s m below meth c ls AV QQ H locs hQQ X Y hA hin hr hlk hml hl KS KR => ?_)
  have hl : lv_has ls 3 [(0, .ref h), (1, .ref a1), (2, .int (iI a2))] := hl
  have S : tS E T (tFr κ L [1, 13] []) κ L f κ L f := tS_rf hw
  refine lv_aload_n X.1 X.2.1 d_Ce_putClient_0 rfl (lv_at hl 0 rfl) ?_
  refine t_geti (ci := 4) X Y S k0 rfl i_Ce 6 (by decide) rfl lk_Ce_65 (fun _ h9 => h9) d_Ce_putClient_1 (fun z1 e1 l1 u1 => ?_)
  refine z_if_eq (tgt := 31) X.1 X.2.1 d_Ce_putClient_4 (by decide) ⟨by omega, by omega⟩ (fun h2 => ?_) (fun h2 => ?_)
  · refine lv_aload_n X.1 X.2.1 d_Ce_putClient_31 rfl (lv_at hl 1 rfl) ?_
    refine lv_iload_n X.1 X.2.1 d_Ce_putClient_32 rfl (lv_at hl 2 rfl) ?_
    refine lv_aload_n X.1 X.2.1 d_Ce_putClient_33 rfl (lv_at hl 0 rfl) ?_
    refine t_getr (ci := 4) X Y S k0 rfl i_Ce 1 (by decide) rfl (k1 := 15) (k2 := 0) rfl rfl lk_Ce_22 (fun _ h9 => h9) d_Ce_putClient_34 (fun b3 e3 k3 => ?_)
    refine t_getr (ci := 5) X Y S k3 rfl i_Ga 1 (by decide) rfl (k1 := 13) (k2 := 4000) rfl rfl lk_Ce_140 (fun _ h9 => h9) d_Ce_putClient_37 (fun b4 e4 k4 => ?_)
    refine lv_aload_n X.1 X.2.1 d_Ce_putClient_40 rfl (lv_at hl 0 rfl) ?_
    refine t_get0 (ci := 4) X Y S k0 rfl i_Ce 1 (by decide) rfl lk_Ce_22 (fun _ h9 => h9) d_Ce_putClient_41 e3 ?_
    refine t_get0 (ci := 5) X Y S k3 rfl i_Ga 1 (by decide) rfl lk_Ce_140 (fun _ h9 => h9) d_Ce_putClient_44 e4 ?_
    refine lv_iconst (v := iI 0) X.1 X.2.1 d_Ce_putClient_47 (by decide) ?_
    refine lv_iconst (v := iI 3) X.1 X.2.1 d_Ce_putClient_48 (by decide) ?_
    refine t_ui (t_runV (As := [.int (iI 0), .int (iI 3)]) (rest := [.ref b4, .int (iI a2), .ref a1]) (n := 2) X Y S k4 hml hl.1 (c_By_field l D E T κ L f H.size b4 4000 k4 (by omega) 0 (by omega) (by omega) 3 (by omega) (by omega) S.1) (ok_k X Y hA KS KR) rfl kl_Ce_By_field ks_By_field kx_By_field ki_By_field ini_By ⟨rfl, rfl⟩ hd_By_field ⟨Nat.le_of_ble_eq_true rfl, Nat.le_of_ble_eq_true rfl⟩ rfl (Nat.le_of_ble_eq_true rfl) d_Ce_putClient_49 ⟨Nat.le_of_ble_eq_true rfl, Nat.le_of_ble_eq_true rfl⟩) X Y hA (fun z5 H locs Y p5 => ?_)
    obtain ⟨l5, u5⟩ := p5
    refine t_nv (t_runV (As := [.int (iI a2), .ref b4, .int (iI z5)]) (rest := []) (n := 3) X Y S k1 hml hl.1 (c_By_putCopy l D E T κ L f H.size a1 n1 k1 (by omega) a2 (by omega) (by omega) b4 4000 k4 (by omega) z5 (by omega) (by omega) S.1) (ok_k X Y hA KS KR) rfl kl_Ce_By_putCopy ks_By_putCopy kx_By_putCopy ki_By_putCopy ini_By ⟨rfl, rfl⟩ hd_By_putCopy ⟨Nat.le_of_ble_eq_true rfl, Nat.le_of_ble_eq_true rfl⟩ rfl (Nat.le_of_ble_eq_true rfl) d_Ce_putClient_52 ⟨Nat.le_of_ble_eq_true rfl, Nat.le_of_ble_eq_true rfl⟩) X Y hA S (by decide) (fun f6 H locs Y S s6 p6 => ?_)
    exact c_retv hQQ X Y hr hlk ⟨rfl, S, trivial⟩ d_Ce_putClient_55
  · refine lv_aload_n X.1 X.2.1 d_Ce_putClient_7 rfl (lv_at hl 1 rfl) ?_
    refine lv_iload_n X.1 X.2.1 d_Ce_putClient_8 rfl (lv_at hl 2 rfl) ?_
    refine lv_aload_n X.1 X.2.1 d_Ce_putClient_9 rfl (lv_at hl 0 rfl) ?_
    refine t_getr (ci := 4) X Y S k0 rfl i_Ce 3 (by decide) rfl (k1 := 13) (k2 := 4000) rfl rfl lk_Ce_30 (fun _ h9 => h9) d_Ce_putClient_10 (fun b7 e7 k7 => ?_)
    refine lv_aload_n X.1 X.2.1 d_Ce_putClient_13 rfl (lv_at hl 0 rfl) ?_
    refine t_get0 (ci := 4) X Y S k0 rfl i_Ce 3 (by decide) rfl lk_Ce_30 (fun _ h9 => h9) d_Ce_putClient_14 e7 ?_
    refine lv_aload_n X.1 X.2.1 d_Ce_putClient_17 rfl (lv_at hl 0 rfl) ?_
    refine t_geti (ci := 4) X Y S k0 rfl i_Ce 8 (by decide) rfl lk_Ce_81 (fun _ h9 => h9) d_Ce_putClient_18 (fun z8 e8 l8 u8 => ?_)
    refine lv_iconst (v := iI 1) X.1 X.2.1 d_Ce_putClient_21 (by decide) ?_
    refine t_ui (t_runV (As := [.int (iI z8), .int (iI 1)]) (rest := [.ref b7, .int (iI a2), .ref a1]) (n := 2) X Y S k7 hml hl.1 (c_By_field l D E T κ L f H.size b7 4000 k7 (by omega) z8 (by omega) (by omega) 1 (by omega) (by omega) S.1) (ok_k X Y hA KS KR) rfl kl_Ce_By_field ks_By_field kx_By_field ki_By_field ini_By ⟨rfl, rfl⟩ hd_By_field ⟨Nat.le_of_ble_eq_true rfl, Nat.le_of_ble_eq_true rfl⟩ rfl (Nat.le_of_ble_eq_true rfl) d_Ce_putClient_22 ⟨Nat.le_of_ble_eq_true rfl, Nat.le_of_ble_eq_true rfl⟩) X Y hA (fun z9 H locs Y p9 => ?_)
    obtain ⟨l9, u9⟩ := p9
    refine t_nv (t_runV (As := [.int (iI a2), .ref b7, .int (iI z9)]) (rest := []) (n := 3) X Y S k1 hml hl.1 (c_By_putCopy l D E T κ L f H.size a1 n1 k1 (by omega) a2 (by omega) (by omega) b7 4000 k7 (by omega) z9 (by omega) (by omega) S.1) (ok_k X Y hA KS KR) rfl kl_Ce_By_putCopy ks_By_putCopy kx_By_putCopy ki_By_putCopy ini_By ⟨rfl, rfl⟩ hd_By_putCopy ⟨Nat.le_of_ble_eq_true rfl, Nat.le_of_ble_eq_true rfl⟩ rfl (Nat.le_of_ble_eq_true rfl) d_Ce_putClient_25 ⟨Nat.le_of_ble_eq_true rfl, Nat.le_of_ble_eq_true rfl⟩) X Y hA S (by decide) (fun f10 H locs Y S s10 p10 => ?_)
    refine lv_goto (tgt := 55) X.1 X.2.1 d_Ce_putClient_28 (by decide) ?_
    exact c_retv hQQ X Y hr hlk ⟨rfl, S, trivial⟩ d_Ce_putClient_55
set_option maxHeartbeats 4000000 in
set_option maxRecDepth 100000 in
theorem c_Ce_putAddresses (l : Launch) (D : va_G) (E : cE) (T : cT) (κ : tK) (L : List Nat) (f : pF) (sz : Nat) (h : Nat) (k0 : κ h = (14, 0)) (a1 n1 : Nat) (k1 : κ a1 = (13, n1)) (x1 : n1 ≤ 12288) (a2 : Int) (l_a2 : 0 ≤ a2) (u_a2 : a2 ≤ 64) (hw : tW E T κ L f) : Met l y_Ce_putAddresses (k_Ce_putAddresses :: lw_tg) (kRm 4 127 0 0) (va_Pc [.ref h, .ref a1, .int (iI a2)] (kPre D E T L f sz)) (va_Qv (nPv E T [1, 13] κ L f (fun (g : pF) => True)) (cPost D E (pA L sz)) (pA L sz)) 0 0 (pA L sz) := by
  refine k_enter (own := R_Ce) (by decide) rfl (Nat.le_of_ble_eq_true rfl) (fun p e s m below meth c ls AV QQ H locs hQQ X Y hA hin hr hlk hml hl KS KR => ?_)
  have hl : lv_has ls 3 [(0, .ref h), (1, .ref a1), (2, .int (iI a2))] := hl
  have S : tS E T (tFr κ L [1, 13] []) κ L f κ L f := tS_rf hw
  refine lv_aload_n X.1 X.2.1 d_Ce_putAddresses_0 rfl (lv_at hl 0 rfl) ?_
  refine t_geti (ci := 4) X Y S k0 rfl i_Ce 6 (by decide) rfl lk_Ce_65 (fun _ h9 => h9) d_Ce_putAddresses_1 (fun z1 e1 l1 u1 => ?_)
  have J2 : ∀  (H : Heap) (locs : List Loc) (ls : Array Slot), pH D cCl (pA L sz) s.heap L f H locs → tS E T (tFr κ L [1, 13] []) κ L f κ L f → lv_has ls 3 [(0, .ref h), (1, .ref a1), (2, .int (iI a2))] → W p l e (kRm 4 127 0 0) s m AV below meth c H locs 0 0 QQ (F0 m 17 ls []) := by
    intro  H locs ls  Y S hl
    refine lv_aload_n X.1 X.2.1 d_Ce_putAddresses_17 rfl (lv_at hl 1 rfl) ?_
    refine lv_iload_n X.1 X.2.1 d_Ce_putAddresses_18 rfl (lv_at hl 2 rfl) ?_
    refine lv_aload_n X.1 X.2.1 d_Ce_putAddresses_19 rfl (lv_at hl 0 rfl) ?_
    refine t_getr (ci := 4) X Y S k0 rfl i_Ce 3 (by decide) rfl (k1 := 13) (k2 := 4000) rfl rfl lk_Ce_30 (fun _ h9 => h9) d_Ce_putAddresses_20 (fun b6 e6 k6 => ?_)
    refine lv_aload_n X.1 X.2.1 d_Ce_putAddresses_23 rfl (lv_at hl 0 rfl) ?_
    refine t_get0 (ci := 4) X Y S k0 rfl i_Ce 3 (by decide) rfl lk_Ce_30 (fun _ h9 => h9) d_Ce_putAddresses_24 e6 ?_
    refine lv_aload_n X.1 X.2.1 d_Ce_putAddresses_27 rfl (lv_at hl 0 rfl) ?_
    refine t_geti (ci := 4) X Y S k0 rfl i_Ce 8 (by decide) rfl lk_Ce_81 (fun _ h9 => h9) d_Ce_putAddresses_28 (fun z7 e7 l7 u7 => ?_)
    refine lv_bipush (v := iI 9) X.1 X.2.1 d_Ce_putAddresses_31 (by decide) ?_
    refine t_ui (t_runV (As := [.int (iI z7), .int (iI 9)]) (rest := [.ref b6, .int (iI a2), .ref a1]) (n := 2) X Y S k6 hml hl.1 (c_By_field l D E T κ L f H.size b6 4000 k6 (by omega) z7 (by omega) (by omega) 9 (by omega) (by omega) S.1) (ok_k X Y hA KS KR) rfl kl_Ce_By_field ks_By_field kx_By_field ki_By_field ini_By ⟨rfl, rfl⟩ hd_By_field ⟨Nat.le_of_ble_eq_true rfl, Nat.le_of_ble_eq_true rfl⟩ rfl (Nat.le_of_ble_eq_true rfl) d_Ce_putAddresses_33 ⟨Nat.le_of_ble_eq_true rfl, Nat.le_of_ble_eq_true rfl⟩) X Y hA (fun z8 H locs Y p8 => ?_)
    obtain ⟨l8, u8⟩ := p8
    refine t_nv (t_runV (As := [.int (iI a2), .ref b6, .int (iI z8)]) (rest := []) (n := 3) X Y S k1 hml hl.1 (c_By_putCopy l D E T κ L f H.size a1 n1 k1 (by omega) a2 (by omega) (by omega) b6 4000 k6 (by omega) z8 (by omega) (by omega) S.1) (ok_k X Y hA KS KR) rfl kl_Ce_By_putCopy ks_By_putCopy kx_By_putCopy ki_By_putCopy ini_By ⟨rfl, rfl⟩ hd_By_putCopy ⟨Nat.le_of_ble_eq_true rfl, Nat.le_of_ble_eq_true rfl⟩ rfl (Nat.le_of_ble_eq_true rfl) d_Ce_putAddresses_36 ⟨Nat.le_of_ble_eq_true rfl, Nat.le_of_ble_eq_true rfl⟩) X Y hA S (by decide) (fun f9 H locs Y S s9 p9 => ?_)
    refine lv_goto (tgt := 67) X.1 X.2.1 d_Ce_putAddresses_39 (by decide) ?_
    exact c_retv hQQ X Y hr hlk ⟨rfl, S, trivial⟩ d_Ce_putAddresses_67
  refine z_if_ne (tgt := 17) X.1 X.2.1 d_Ce_putAddresses_4 (by decide) ⟨by omega, by omega⟩ (fun h10 => ?_) (fun h10 => ?_)
  · exact J2  _ _ _  Y S (lv_sub hl [0, 1, 2] rfl)
  · refine lv_aload_n X.1 X.2.1 d_Ce_putAddresses_7 rfl (lv_at hl 0 rfl) ?_
    refine lv_ldcw (v := (671088640)) X.1 X.2.1 X.2.2.2.1 (X.2.2.1 _ cn_Ce_257) d_Ce_putAddresses_8 ?_
    refine t_eq (y := iI 671088640) (by decide) ?_
    refine t_ui (t_runV (As := [.int (iI 671088640)]) (rest := []) (n := 1) X Y S k0 hml hl.1 (c_Ce_asks l D E T κ L f H.size h k0 671088640 (by omega) (by omega) S.1) (ok_k X Y hA KS KR) rfl kl_Ce_Ce_asks ks_Ce_asks kx_Ce_asks ki_Ce_asks ini_Ce ⟨rfl, rfl⟩ hd_Ce_asks ⟨Nat.le_of_ble_eq_true rfl, Nat.le_of_ble_eq_true rfl⟩ rfl (Nat.le_of_ble_eq_true rfl) d_Ce_putAddresses_11 ⟨Nat.le_of_ble_eq_true rfl, Nat.le_of_ble_eq_true rfl⟩) X Y hA (fun z11 H locs Y p11 => ?_)
    obtain ⟨l11, u11⟩ := p11
    refine z_if_eq (tgt := 42) X.1 X.2.1 d_Ce_putAddresses_14 (by decide) ⟨by omega, by omega⟩ (fun h12 => ?_) (fun h12 => ?_)
    · refine lv_aload_n X.1 X.2.1 d_Ce_putAddresses_42 rfl (lv_at hl 1 rfl) ?_
      refine lv_iload_n X.1 X.2.1 d_Ce_putAddresses_43 rfl (lv_at hl 2 rfl) ?_
      refine lv_aload_n X.1 X.2.1 d_Ce_putAddresses_44 rfl (lv_at hl 0 rfl) ?_
      refine t_getr (ci := 4) X Y S k0 rfl i_Ce 1 (by decide) rfl (k1 := 15) (k2 := 0) rfl rfl lk_Ce_22 (fun _ h9 => h9) d_Ce_putAddresses_45 (fun b13 e13 k13 => ?_)
      refine t_getr (ci := 5) X Y S k13 rfl i_Ga 1 (by decide) rfl (k1 := 13) (k2 := 4000) rfl rfl lk_Ce_140 (fun _ h9 => h9) d_Ce_putAddresses_48 (fun b14 e14 k14 => ?_)
      refine lv_aload_n X.1 X.2.1 d_Ce_putAddresses_51 rfl (lv_at hl 0 rfl) ?_
      refine t_get0 (ci := 4) X Y S k0 rfl i_Ce 1 (by decide) rfl lk_Ce_22 (fun _ h9 => h9) d_Ce_putAddresses_52 e13 ?_
      refine t_get0 (ci := 5) X Y S k13 rfl i_Ga 1 (by decide) rfl lk_Ce_140 (fun _ h9 => h9) d_Ce_putAddresses_55 e14 ?_
      refine lv_iconst (v := iI 0) X.1 X.2.1 d_Ce_putAddresses_58 (by decide) ?_
      refine lv_bipush (v := iI 9) X.1 X.2.1 d_Ce_putAddresses_59 (by decide) ?_
      refine t_ui (t_runV (As := [.int (iI 0), .int (iI 9)]) (rest := [.ref b14, .int (iI a2), .ref a1]) (n := 2) X Y S k14 hml hl.1 (c_By_field l D E T κ L f H.size b14 4000 k14 (by omega) 0 (by omega) (by omega) 9 (by omega) (by omega) S.1) (ok_k X Y hA KS KR) rfl kl_Ce_By_field ks_By_field kx_By_field ki_By_field ini_By ⟨rfl, rfl⟩ hd_By_field ⟨Nat.le_of_ble_eq_true rfl, Nat.le_of_ble_eq_true rfl⟩ rfl (Nat.le_of_ble_eq_true rfl) d_Ce_putAddresses_61 ⟨Nat.le_of_ble_eq_true rfl, Nat.le_of_ble_eq_true rfl⟩) X Y hA (fun z15 H locs Y p15 => ?_)
      obtain ⟨l15, u15⟩ := p15
      refine t_nv (t_runV (As := [.int (iI a2), .ref b14, .int (iI z15)]) (rest := []) (n := 3) X Y S k1 hml hl.1 (c_By_putCopy l D E T κ L f H.size a1 n1 k1 (by omega) a2 (by omega) (by omega) b14 4000 k14 (by omega) z15 (by omega) (by omega) S.1) (ok_k X Y hA KS KR) rfl kl_Ce_By_putCopy ks_By_putCopy kx_By_putCopy ki_By_putCopy ini_By ⟨rfl, rfl⟩ hd_By_putCopy ⟨Nat.le_of_ble_eq_true rfl, Nat.le_of_ble_eq_true rfl⟩ rfl (Nat.le_of_ble_eq_true rfl) d_Ce_putAddresses_64 ⟨Nat.le_of_ble_eq_true rfl, Nat.le_of_ble_eq_true rfl⟩) X Y hA S (by decide) (fun f16 H locs Y S s16 p16 => ?_)
      exact c_retv hQQ X Y hr hlk ⟨rfl, S, trivial⟩ d_Ce_putAddresses_67
    · exact J2  _ _ _  Y S (lv_sub hl [0, 1, 2] rfl)
set_option maxHeartbeats 4000000 in
set_option maxRecDepth 100000 in
theorem c_Ce_putTimes (l : Launch) (D : va_G) (E : cE) (T : cT) (κ : tK) (L : List Nat) (f : pF) (sz : Nat) (h : Nat) (k0 : κ h = (14, 0)) (a1 n1 : Nat) (k1 : κ a1 = (13, n1)) (x1 : n1 ≤ 12288) (hw : tW E T κ L f) : Met l y_Ce_putTimes (k_Ce_putTimes :: lw_tg) (kRm 4 130 0 0) (va_Pc [.ref h, .ref a1] (kPre D E T L f sz)) (va_Qv (nPv E T [1, 13] κ L f (fun (g : pF) => True)) (cPost D E (pA L sz)) (pA L sz)) 0 0 (pA L sz) := by
  refine k_enter (own := R_Ce) (by decide) rfl (Nat.le_of_ble_eq_true rfl) (fun p e s m below meth c ls AV QQ H locs hQQ X Y hA hin hr hlk hml hl KS KR => ?_)
  have hl : lv_has ls 2 [(0, .ref h), (1, .ref a1)] := hl
  have S : tS E T (tFr κ L [1, 13] []) κ L f κ L f := tS_rf hw
  refine lv_aload_n X.1 X.2.1 d_Ce_putTimes_0 rfl (lv_at hl 1 rfl) ?_
  refine lv_iconst (v := iI 5) X.1 X.2.1 d_Ce_putTimes_1 (by decide) ?_
  refine lv_aload_n X.1 X.2.1 d_Ce_putTimes_2 rfl (lv_at hl 0 rfl) ?_
  refine t_geti (ci := 4) X Y S k0 rfl i_Ce 6 (by decide) rfl lk_Ce_65 (fun _ h9 => h9) d_Ce_putTimes_3 (fun z1 e1 l1 u1 => ?_)
  have J3 : ∀ (z2 : Int) (H : Heap) (locs : List Loc) (ls : Array Slot), ((-2147483648) ≤ z2) → (z2 ≤ 2147483647) → pH D cCl (pA L sz) s.heap L f H locs → tS E T (tFr κ L [1, 13] []) κ L f κ L f → lv_has ls 2 [(0, .ref h), (1, .ref a1)] → W p l e (kRm 4 130 0 0) s m AV below meth c H locs 0 0 QQ (F0 m 41 ls [.int (iI z2), .int (iI 5), .ref a1]) := by
    intro z2 H locs ls l2 u2 Y S hl
    refine t_nv (t_runV (As := [.int (iI 5), .int (iI z2)]) (rest := []) (n := 2) X Y S k1 hml hl.1 (c_By_putTime l D E T κ L f H.size a1 n1 k1 (by omega) 5 (by omega) (by omega) z2 (by omega) (by omega) S.1) (ok_k X Y hA KS KR) rfl kl_Ce_By_putTime ks_By_putTime kx_By_putTime ki_By_putTime ini_By ⟨rfl, rfl⟩ hd_By_putTime ⟨Nat.le_of_ble_eq_true rfl, Nat.le_of_ble_eq_true rfl⟩ rfl (Nat.le_of_ble_eq_true rfl) d_Ce_putTimes_41 ⟨Nat.le_of_ble_eq_true rfl, Nat.le_of_ble_eq_true rfl⟩) X Y hA S (by decide) (fun f7 H locs Y S s7 p7 => ?_)
    refine lv_aload_n X.1 X.2.1 d_Ce_putTimes_44 rfl (lv_at hl 1 rfl) ?_
    refine lv_bipush (v := iI 6) X.1 X.2.1 d_Ce_putTimes_45 (by decide) ?_
    refine lv_aload_n X.1 X.2.1 d_Ce_putTimes_47 rfl (lv_at hl 0 rfl) ?_
    refine t_getr (ci := 4) X Y S k0 rfl i_Ce 0 (by decide) rfl (k1 := 21) (k2 := 0) rfl rfl lk_Ce_18 (fun _ h9 => h9) d_Ce_putTimes_48 (fun b8 e8 k8 => ?_)
    refine t_geti (ci := 11) X Y S k8 rfl i_Va 0 (by decide) rfl lk_Ce_112 (fun _ h9 => h9) d_Ce_putTimes_51 (fun z9 e9 l9 u9 => ?_)
    refine t_nv (t_runV (As := [.int (iI 6), .int (iI z9)]) (rest := []) (n := 2) X Y S k1 hml hl.1 (c_By_putTime l D E T κ L f7 H.size a1 n1 k1 (by omega) 6 (by omega) (by omega) z9 (by omega) (by omega) S.1) (ok_k X Y hA KS KR) rfl kl_Ce_By_putTime ks_By_putTime kx_By_putTime ki_By_putTime ini_By ⟨rfl, rfl⟩ hd_By_putTime ⟨Nat.le_of_ble_eq_true rfl, Nat.le_of_ble_eq_true rfl⟩ rfl (Nat.le_of_ble_eq_true rfl) d_Ce_putTimes_54 ⟨Nat.le_of_ble_eq_true rfl, Nat.le_of_ble_eq_true rfl⟩) X Y hA S (by decide) (fun f10 H locs Y S s10 p10 => ?_)
    refine lv_aload_n X.1 X.2.1 d_Ce_putTimes_57 rfl (lv_at hl 1 rfl) ?_
    refine lv_bipush (v := iI 7) X.1 X.2.1 d_Ce_putTimes_58 (by decide) ?_
    refine lv_aload_n X.1 X.2.1 d_Ce_putTimes_60 rfl (lv_at hl 0 rfl) ?_
    refine t_geti (ci := 4) X Y S k0 rfl i_Ce 14 (by decide) rfl lk_Ce_226 (fun _ h9 => h9) d_Ce_putTimes_61 (fun z11 e11 l11 u11 => ?_)
    refine t_nv (t_runV (As := [.int (iI 7), .int (iI z11)]) (rest := []) (n := 2) X Y S k1 hml hl.1 (c_By_putTime l D E T κ L f10 H.size a1 n1 k1 (by omega) 7 (by omega) (by omega) z11 (by omega) (by omega) S.1) (ok_k X Y hA KS KR) rfl kl_Ce_By_putTime ks_By_putTime kx_By_putTime ki_By_putTime ini_By ⟨rfl, rfl⟩ hd_By_putTime ⟨Nat.le_of_ble_eq_true rfl, Nat.le_of_ble_eq_true rfl⟩ rfl (Nat.le_of_ble_eq_true rfl) d_Ce_putTimes_64 ⟨Nat.le_of_ble_eq_true rfl, Nat.le_of_ble_eq_true rfl⟩) X Y hA S (by decide) (fun f12 H locs Y S s12 p12 => ?_)
    refine lv_aload_n X.1 X.2.1 d_Ce_putTimes_67 rfl (lv_at hl 0 rfl) ?_
    refine t_geti (ci := 4) X Y S k0 rfl i_Ce 15 (by decide) rfl lk_Ce_243 (fun _ h9 => h9) d_Ce_putTimes_68 (fun z13 e13 l13 u13 => ?_)
    refine z_if_lt (tgt := 84) X.1 X.2.1 d_Ce_putTimes_71 (by decide) ⟨by omega, by omega⟩ (fun h14 => ?_) (fun h14 => ?_)
    · exact c_retv hQQ X Y hr hlk ⟨rfl, S, trivial⟩ d_Ce_putTimes_84
    · refine lv_aload_n X.1 X.2.1 d_Ce_putTimes_74 rfl (lv_at hl 1 rfl) ?_
      refine lv_bipush (v := iI 8) X.1 X.2.1 d_Ce_putTimes_75 (by decide) ?_
      refine lv_aload_n X.1 X.2.1 d_Ce_putTimes_77 rfl (lv_at hl 0 rfl) ?_
      refine t_get0 (ci := 4) X Y S k0 rfl i_Ce 15 (by decide) rfl lk_Ce_243 (fun _ h9 => h9) d_Ce_putTimes_78 e13 ?_
      refine t_nv (t_runV (As := [.int (iI 8), .int (iI z13)]) (rest := []) (n := 2) X Y S k1 hml hl.1 (c_By_putTime l D E T κ L f12 H.size a1 n1 k1 (by omega) 8 (by omega) (by omega) z13 (by omega) (by omega) S.1) (ok_k X Y hA KS KR) rfl kl_Ce_By_putTime ks_By_putTime kx_By_putTime ki_By_putTime ini_By ⟨rfl, rfl⟩ hd_By_putTime ⟨Nat.le_of_ble_eq_true rfl, Nat.le_of_ble_eq_true rfl⟩ rfl (Nat.le_of_ble_eq_true rfl) d_Ce_putTimes_81 ⟨Nat.le_of_ble_eq_true rfl, Nat.le_of_ble_eq_true rfl⟩) X Y hA S (by decide) (fun f15 H locs Y S s15 p15 => ?_)
      exact c_retv hQQ X Y hr hlk ⟨rfl, S, trivial⟩ d_Ce_putTimes_84
  refine z_if_eq (tgt := 19) X.1 X.2.1 d_Ce_putTimes_6 (by decide) ⟨by omega, by omega⟩ (fun h16 => ?_) (fun h16 => ?_)
  · refine lv_aload_n X.1 X.2.1 d_Ce_putTimes_19 rfl (lv_at hl 0 rfl) ?_
    refine t_getr (ci := 4) X Y S k0 rfl i_Ce 1 (by decide) rfl (k1 := 15) (k2 := 0) rfl rfl lk_Ce_22 (fun _ h9 => h9) d_Ce_putTimes_20 (fun b17 e17 k17 => ?_)
    refine t_getr (ci := 5) X Y S k17 rfl i_Ga 1 (by decide) rfl (k1 := 13) (k2 := 4000) rfl rfl lk_Ce_140 (fun _ h9 => h9) d_Ce_putTimes_23 (fun b18 e18 k18 => ?_)
    refine lv_aload_n X.1 X.2.1 d_Ce_putTimes_26 rfl (lv_at hl 0 rfl) ?_
    refine t_get0 (ci := 4) X Y S k0 rfl i_Ce 1 (by decide) rfl lk_Ce_22 (fun _ h9 => h9) d_Ce_putTimes_27 e17 ?_
    refine t_get0 (ci := 5) X Y S k17 rfl i_Ga 1 (by decide) rfl lk_Ce_140 (fun _ h9 => h9) d_Ce_putTimes_30 e18 ?_
    refine lv_iconst (v := iI 0) X.1 X.2.1 d_Ce_putTimes_33 (by decide) ?_
    refine lv_iconst (v := iI 5) X.1 X.2.1 d_Ce_putTimes_34 (by decide) ?_
    refine t_ui (t_runV (As := [.int (iI 0), .int (iI 5)]) (rest := [.ref b18, .int (iI 5), .ref a1]) (n := 2) X Y S k18 hml hl.1 (c_By_field l D E T κ L f H.size b18 4000 k18 (by omega) 0 (by omega) (by omega) 5 (by omega) (by omega) S.1) (ok_k X Y hA KS KR) rfl kl_Ce_By_field ks_By_field kx_By_field ki_By_field ini_By ⟨rfl, rfl⟩ hd_By_field ⟨Nat.le_of_ble_eq_true rfl, Nat.le_of_ble_eq_true rfl⟩ rfl (Nat.le_of_ble_eq_true rfl) d_Ce_putTimes_35 ⟨Nat.le_of_ble_eq_true rfl, Nat.le_of_ble_eq_true rfl⟩) X Y hA (fun z19 H locs Y p19 => ?_)
    obtain ⟨l19, u19⟩ := p19
    refine t_ui (t_runV (As := [.int (iI z19)]) (rest := [.int (iI 5), .ref a1]) (n := 1) X Y S k18 hml hl.1 (c_By_timeAt l D E T κ L f H.size b18 4000 k18 (by omega) z19 (by omega) (by omega) S.1) (ok_k X Y hA KS KR) rfl kl_Ce_By_timeAt ks_By_timeAt kx_By_timeAt ki_By_timeAt ini_By ⟨rfl, rfl⟩ hd_By_timeAt ⟨Nat.le_of_ble_eq_true rfl, Nat.le_of_ble_eq_true rfl⟩ rfl (Nat.le_of_ble_eq_true rfl) d_Ce_putTimes_38 ⟨Nat.le_of_ble_eq_true rfl, Nat.le_of_ble_eq_true rfl⟩) X Y hA (fun z20 H locs Y p20 => ?_)
    obtain ⟨l20, u20⟩ := p20
    exact J3 z20 _ _ _ (by omega) (by omega) Y S (lv_sub hl [0, 1] rfl)
  · refine lv_aload_n X.1 X.2.1 d_Ce_putTimes_9 rfl (lv_at hl 0 rfl) ?_
    refine t_getr (ci := 4) X Y S k0 rfl i_Ce 0 (by decide) rfl (k1 := 21) (k2 := 0) rfl rfl lk_Ce_18 (fun _ h9 => h9) d_Ce_putTimes_10 (fun b21 e21 k21 => ?_)
    refine t_geti (ci := 11) X Y S k21 rfl i_Va 0 (by decide) rfl lk_Ce_112 (fun _ h9 => h9) d_Ce_putTimes_13 (fun z22 e22 l22 u22 => ?_)
    refine lv_goto (tgt := 41) X.1 X.2.1 d_Ce_putTimes_16 (by decide) ?_
    exact J3 z22 _ _ _ (by omega) (by omega) Y S (lv_sub hl [0, 1] rfl)
set_option maxHeartbeats 4000000 in
set_option maxRecDepth 100000 in
theorem c_Ce_putTicket (l : Launch) (D : va_G) (E : cE) (T : cT) (κ : tK) (L : List Nat) (f : pF) (sz : Nat) (h : Nat) (k0 : κ h = (14, 0)) (a1 n1 : Nat) (k1 : tKey T κ a1 n1) (x1 : n1 = 0 ∨ n1 = 16 ∨ n1 = 32) (hw : tW E T κ L f) : Met l y_Ce_putTicket (k_Ce_putTicket :: lw_tg) (kRm 7 187 0 0) (va_Pc [.ref h, .ref a1] (kPre D E T L f sz)) (va_Qv (nPv E T [1, 2, 3, 4, 11, 13, 16, 21] κ L f (fun (g : pF) => True)) (cPost D E (pA L sz)) (pA L sz)) 0 0 (pA L sz) := by
  refine k_enter (own := R_Ce) (by decide) rfl (Nat.le_of_ble_eq_true rfl) (fun p e s m below meth c ls AV QQ H locs hQQ X Y hA hin hr hlk hml hl KS KR => ?_)
  have hl : lv_has ls 8 [(0, .ref h), (1, .ref a1)] := hl
  have S : tS E T (tFr κ L [1, 2, 3, 4, 11, 13, 16, 21] []) κ L f κ L f := tS_rf hw
  refine lv_aload_n X.1 X.2.1 d_Ce_putTicket_0 rfl (lv_at hl 0 rfl) ?_
  refine t_getr (ci := 4) X Y S k0 rfl i_Ce 0 (by decide) rfl (k1 := 21) (k2 := 0) rfl rfl lk_Ce_18 (fun _ h9 => h9) d_Ce_putTicket_1 (fun b1 e1 k1 => ?_)
  refine t_getr (ci := 11) X Y S k1 rfl i_Va 1 (by decide) rfl (k1 := 13) (k2 := 6144) rfl rfl lk_Ce_165 (fun _ h9 => h9) d_Ce_putTicket_4 (fun b2 e2 k2 => ?_)
  refine lv_astore_n (lv' := [(2, .ref b2), (0, .ref h), (1, .ref a1)]) X.1 X.2.1 d_Ce_putTicket_7 rfl hl (by decide) rfl (fun ls hl => ?_)
  refine lv_aload_n X.1 X.2.1 d_Ce_putTicket_8 rfl (lv_at hl 0 rfl) ?_
  refine t_nv (t_runV (As := []) (rest := []) (n := 0) X Y S k2 hml hl.1 (c_By_clear l D E T κ L f H.size b2 6144 k2 (by omega) S.1) (ok_k X Y hA KS KR) rfl kl_Ce_By_clear ks_By_clear kx_By_clear ki_By_clear ini_By ⟨rfl, rfl⟩ hd_By_clear ⟨Nat.le_of_ble_eq_true rfl, Nat.le_of_ble_eq_true rfl⟩ rfl (Nat.le_of_ble_eq_true rfl) d_Ce_putTicket_9 ⟨Nat.le_of_ble_eq_true rfl, Nat.le_of_ble_eq_true rfl⟩) X Y hA S (by decide) (fun f3 H locs Y S s3 p3 => ?_)
  refine lv_aload_n X.1 X.2.1 d_Ce_putTicket_12 rfl (lv_at hl 0 rfl) ?_
  refine lv_bipush (v := iI 99) X.1 X.2.1 d_Ce_putTicket_13 (by decide) ?_
  refine t_ni (t_runV (As := [.int (iI 99)]) (rest := []) (n := 1) X Y S k2 hml hl.1 (c_By_open l D E T κ L f3 H.size b2 6144 k2 (by omega) 99 (by omega) (by omega) S.1) (ok_k X Y hA KS KR) rfl kl_Ce_By_open ks_By_open kx_By_open ki_By_open ini_By ⟨rfl, rfl⟩ hd_By_open ⟨Nat.le_of_ble_eq_true rfl, Nat.le_of_ble_eq_true rfl⟩ rfl (Nat.le_of_ble_eq_true rfl) d_Ce_putTicket_15 ⟨Nat.le_of_ble_eq_true rfl, Nat.le_of_ble_eq_true rfl⟩) X Y hA S (by decide) (fun z4 f4 H locs Y S s4 p4 => ?_)
  obtain ⟨l4, u4⟩ := p4
  refine lv_istore_n (lv' := [(3, .int (iI z4)), (2, .ref b2), (0, .ref h), (1, .ref a1)]) X.1 X.2.1 d_Ce_putTicket_18 rfl hl (by decide) rfl (fun ls hl => ?_)
  refine lv_aload_n X.1 X.2.1 d_Ce_putTicket_19 rfl (lv_at hl 1 rfl) ?_
  refine lv_bipush (v := iI 48) X.1 X.2.1 d_Ce_putTicket_20 (by decide) ?_
  refine t_ni (t_runV (As := [.int (iI 48)]) (rest := []) (n := 1) X Y S k2 hml hl.1 (c_By_open l D E T κ L f4 H.size b2 6144 k2 (by omega) 48 (by omega) (by omega) S.1) (ok_k X Y hA KS KR) rfl kl_Ce_By_open ks_By_open kx_By_open ki_By_open ini_By ⟨rfl, rfl⟩ hd_By_open ⟨Nat.le_of_ble_eq_true rfl, Nat.le_of_ble_eq_true rfl⟩ rfl (Nat.le_of_ble_eq_true rfl) d_Ce_putTicket_22 ⟨Nat.le_of_ble_eq_true rfl, Nat.le_of_ble_eq_true rfl⟩) X Y hA S (by decide) (fun z5 f5 H locs Y S s5 p5 => ?_)
  obtain ⟨l5, u5⟩ := p5
  refine lv_istore (lv' := [(4, .int (iI z5)), (3, .int (iI z4)), (2, .ref b2), (0, .ref h), (1, .ref a1)]) X.1 X.2.1 d_Ce_putTicket_25 hl (by decide) rfl (fun ls hl => ?_)
  refine lv_aload_n X.1 X.2.1 d_Ce_putTicket_27 rfl (lv_at hl 2 rfl) ?_
  refine lv_iconst (v := iI 0) X.1 X.2.1 d_Ce_putTicket_28 (by decide) ?_
  refine lv_aload_n X.1 X.2.1 d_Ce_putTicket_29 rfl (lv_at hl 3 rfl) ?_
  refine t_geti (ci := 4) X Y S k0 rfl i_Ce 13 (by decide) rfl lk_Ce_247 (fun _ h9 => h9) d_Ce_putTicket_30 (fun z6 e6 l6 u6 => ?_)
  refine t_nv (t_runV (As := [.int (iI 0), .int (iI z6)]) (rest := []) (n := 2) X Y S k2 hml hl.1 (c_By_putBits l D E T κ L f5 H.size b2 6144 k2 (by omega) 0 (by omega) (by omega) z6 (by omega) (by omega) S.1) (ok_k X Y hA KS KR) rfl kl_Ce_By_putBits ks_By_putBits kx_By_putBits ki_By_putBits ini_By ⟨rfl, rfl⟩ hd_By_putBits ⟨Nat.le_of_ble_eq_true rfl, Nat.le_of_ble_eq_true rfl⟩ rfl (Nat.le_of_ble_eq_true rfl) d_Ce_putTicket_33 ⟨Nat.le_of_ble_eq_true rfl, Nat.le_of_ble_eq_true rfl⟩) X Y hA S (by decide) (fun f7 H locs Y S s7 p7 => ?_)
  refine lv_aload_n X.1 X.2.1 d_Ce_putTicket_36 rfl (lv_at hl 2 rfl) ?_
  refine lv_iconst (v := iI 1) X.1 X.2.1 d_Ce_putTicket_37 (by decide) ?_
  refine lv_aload_n X.1 X.2.1 d_Ce_putTicket_38 rfl (lv_at hl 4 rfl) ?_
  refine t_nv (t_runV (As := [.int (iI 1), .ref a1]) (rest := []) (n := 2) X Y S k2 hml hl.1 (c_By_putKey l D E T κ L f7 H.size b2 6144 k2 (by omega) 1 (by omega) (by omega) a1 n1 k1 (by omega) S.1) (ok_k X Y hA KS KR) rfl kl_Ce_By_putKey ks_By_putKey kx_By_putKey ki_By_putKey ini_By ⟨rfl, rfl⟩ hd_By_putKey ⟨Nat.le_of_ble_eq_true rfl, Nat.le_of_ble_eq_true rfl⟩ rfl (Nat.le_of_ble_eq_true rfl) d_Ce_putTicket_39 ⟨Nat.le_of_ble_eq_true rfl, Nat.le_of_ble_eq_true rfl⟩) X Y hA S (by decide) (fun f8 H locs Y S s8 p8 => ?_)
  refine lv_aload_n X.1 X.2.1 d_Ce_putTicket_42 rfl (lv_at hl 2 rfl) ?_
  refine lv_iconst (v := iI 2) X.1 X.2.1 d_Ce_putTicket_43 (by decide) ?_
  refine t_nv (t_runV (As := [.int (iI 2)]) (rest := []) (n := 1) X Y S k2 hml hl.1 (c_By_putRealm l D E T κ L f8 H.size b2 6144 k2 (by omega) 2 (by omega) (by omega) S.1) (ok_k X Y hA KS KR) rfl kl_Ce_By_putRealm ks_By_putRealm kx_By_putRealm ki_By_putRealm ini_By ⟨rfl, rfl⟩ hd_By_putRealm ⟨Nat.le_of_ble_eq_true rfl, Nat.le_of_ble_eq_true rfl⟩ rfl (Nat.le_of_ble_eq_true rfl) d_Ce_putTicket_44 ⟨Nat.le_of_ble_eq_true rfl, Nat.le_of_ble_eq_true rfl⟩) X Y hA S (by decide) (fun f9 H locs Y S s9 p9 => ?_)
  refine lv_aload_n X.1 X.2.1 d_Ce_putTicket_47 rfl (lv_at hl 3 rfl) ?_
  refine lv_aload_n X.1 X.2.1 d_Ce_putTicket_48 rfl (lv_at hl 2 rfl) ?_
  refine lv_iconst (v := iI 3) X.1 X.2.1 d_Ce_putTicket_49 (by decide) ?_
  refine t_nv (t_runV (As := [.ref b2, .int (iI 3)]) (rest := []) (n := 2) X Y S k0 hml hl.1 (c_Ce_putClient l D E T κ L f9 H.size h k0 b2 6144 k2 (by omega) 3 (by omega) (by omega) S.1) (ok_k X Y hA KS KR) rfl kl_Ce_Ce_putClient ks_Ce_putClient kx_Ce_putClient ki_Ce_putClient ini_Ce ⟨rfl, rfl⟩ hd_Ce_putClient ⟨Nat.le_of_ble_eq_true rfl, Nat.le_of_ble_eq_true rfl⟩ rfl (Nat.le_of_ble_eq_true rfl) d_Ce_putTicket_50 ⟨Nat.le_of_ble_eq_true rfl, Nat.le_of_ble_eq_true rfl⟩) X Y hA S (by decide) (fun f10 H locs Y S s10 p10 => ?_)
  refine lv_aload_n X.1 X.2.1 d_Ce_putTicket_53 rfl (lv_at hl 2 rfl) ?_
  refine lv_iconst (v := iI 4) X.1 X.2.1 d_Ce_putTicket_54 (by decide) ?_
  refine lv_iconst (v := iI 1) X.1 X.2.1 d_Ce_putTicket_55 (by decide) ?_
  refine k_getsN X Y KS KR (by decide) d_Ce_putTicket_56 ?_
  refine lv_iconst (v := iI 0) X.1 X.2.1 d_Ce_putTicket_59 (by decide) ?_
  refine t_nv (t_runV (As := [.int (iI 4), .int (iI 1), .ref ((T.1 0)), .int (iI 0)]) (rest := []) (n := 4) X Y S k2 hml hl.1 (c_By_putPair l D E T κ L f10 H.size b2 6144 k2 (by omega) 4 (by omega) (by omega) 1 (by omega) (by omega) ((T.1 0)) 0 tSrc_no (by omega) 0 (by omega) (by omega) S.1) (ok_k X Y hA KS KR) rfl kl_Ce_By_putPair ks_By_putPair kx_By_putPair ki_By_putPair ini_By ⟨rfl, rfl⟩ hd_By_putPair ⟨Nat.le_of_ble_eq_true rfl, Nat.le_of_ble_eq_true rfl⟩ rfl (Nat.le_of_ble_eq_true rfl) d_Ce_putTicket_60 ⟨Nat.le_of_ble_eq_true rfl, Nat.le_of_ble_eq_true rfl⟩) X Y hA S (by decide) (fun f11 H locs Y S s11 p11 => ?_)
  refine lv_aload_n X.1 X.2.1 d_Ce_putTicket_63 rfl (lv_at hl 3 rfl) ?_
  refine lv_aload_n X.1 X.2.1 d_Ce_putTicket_64 rfl (lv_at hl 2 rfl) ?_
  refine t_nv (t_runV (As := [.ref b2]) (rest := []) (n := 1) X Y S k0 hml hl.1 (c_Ce_putTimes l D E T κ L f11 H.size h k0 b2 6144 k2 (by omega) S.1) (ok_k X Y hA KS KR) rfl kl_Ce_Ce_putTimes ks_Ce_putTimes kx_Ce_putTimes ki_Ce_putTimes ini_Ce ⟨rfl, rfl⟩ hd_Ce_putTimes ⟨Nat.le_of_ble_eq_true rfl, Nat.le_of_ble_eq_true rfl⟩ rfl (Nat.le_of_ble_eq_true rfl) d_Ce_putTicket_65 ⟨Nat.le_of_ble_eq_true rfl, Nat.le_of_ble_eq_true rfl⟩) X Y hA S (by decide) (fun f12 H locs Y S s12 p12 => ?_)
  refine lv_aload_n X.1 X.2.1 d_Ce_putTicket_68 rfl (lv_at hl 3 rfl) ?_
  refine lv_aload_n X.1 X.2.1 d_Ce_putTicket_69 rfl (lv_at hl 2 rfl) ?_
  refine lv_bipush (v := iI 9) X.1 X.2.1 d_Ce_putTicket_70 (by decide) ?_
  refine t_nv (t_runV (As := [.ref b2, .int (iI 9)]) (rest := []) (n := 2) X Y S k0 hml hl.1 (c_Ce_putAddresses l D E T κ L f12 H.size h k0 b2 6144 k2 (by omega) 9 (by omega) (by omega) S.1) (ok_k X Y hA KS KR) rfl kl_Ce_Ce_putAddresses ks_Ce_putAddresses kx_Ce_putAddresses ki_Ce_putAddresses ini_Ce ⟨rfl, rfl⟩ hd_Ce_putAddresses ⟨Nat.le_of_ble_eq_true rfl, Nat.le_of_ble_eq_true rfl⟩ rfl (Nat.le_of_ble_eq_true rfl) d_Ce_putTicket_72 ⟨Nat.le_of_ble_eq_true rfl, Nat.le_of_ble_eq_true rfl⟩) X Y hA S (by decide) (fun f13 H locs Y S s13 p13 => ?_)
  refine lv_aload_n X.1 X.2.1 d_Ce_putTicket_75 rfl (lv_at hl 2 rfl) ?_
  refine lv_iload X.1 X.2.1 d_Ce_putTicket_76 (lv_at hl 0 rfl) ?_
  refine t_nv (t_runV (As := [.int (iI z5)]) (rest := []) (n := 1) X Y S k2 hml hl.1 (c_By_close l D E T κ L f13 H.size b2 6144 k2 (by omega) z5 (by omega) (by omega) S.1) (ok_k X Y hA KS KR) rfl kl_Ce_By_close ks_By_close kx_By_close ki_By_close ini_By ⟨rfl, rfl⟩ hd_By_close ⟨Nat.le_of_ble_eq_true rfl, Nat.le_of_ble_eq_true rfl⟩ rfl (Nat.le_of_ble_eq_true rfl) d_Ce_putTicket_78 ⟨Nat.le_of_ble_eq_true rfl, Nat.le_of_ble_eq_true rfl⟩) X Y hA S (by decide) (fun f14 H locs Y S s14 p14 => ?_)
  refine lv_aload_n X.1 X.2.1 d_Ce_putTicket_81 rfl (lv_at hl 2 rfl) ?_
  refine lv_iload_n X.1 X.2.1 d_Ce_putTicket_82 rfl (lv_at hl 1 rfl) ?_
  refine t_nv (t_runV (As := [.int (iI z4)]) (rest := []) (n := 1) X Y S k2 hml hl.1 (c_By_close l D E T κ L f14 H.size b2 6144 k2 (by omega) z4 (by omega) (by omega) S.1) (ok_k X Y hA KS KR) rfl kl_Ce_By_close ks_By_close kx_By_close ki_By_close ini_By ⟨rfl, rfl⟩ hd_By_close ⟨Nat.le_of_ble_eq_true rfl, Nat.le_of_ble_eq_true rfl⟩ rfl (Nat.le_of_ble_eq_true rfl) d_Ce_putTicket_83 ⟨Nat.le_of_ble_eq_true rfl, Nat.le_of_ble_eq_true rfl⟩) X Y hA S (by decide) (fun f15 H locs Y S s15 p15 => ?_)
  refine lv_aload_n X.1 X.2.1 d_Ce_putTicket_86 rfl (lv_at hl 3 rfl) ?_
  refine t_getr (ci := 4) X Y S k0 rfl i_Ce 4 (by decide) rfl (k1 := 13) (k2 := 12288) rfl rfl lk_Ce_34 (fun _ h9 => h9) d_Ce_putTicket_87 (fun b16 e16 k16 => ?_)
  refine lv_bipush (v := iI 97) X.1 X.2.1 d_Ce_putTicket_90 (by decide) ?_
  refine t_ni (t_runV (As := [.int (iI 97)]) (rest := []) (n := 1) X Y S k16 hml hl.1 (c_By_open l D E T κ L f15 H.size b16 12288 k16 (by omega) 97 (by omega) (by omega) S.1) (ok_k X Y hA KS KR) rfl kl_Ce_By_open ks_By_open kx_By_open ki_By_open ini_By ⟨rfl, rfl⟩ hd_By_open ⟨Nat.le_of_ble_eq_true rfl, Nat.le_of_ble_eq_true rfl⟩ rfl (Nat.le_of_ble_eq_true rfl) d_Ce_putTicket_92 ⟨Nat.le_of_ble_eq_true rfl, Nat.le_of_ble_eq_true rfl⟩) X Y hA S (by decide) (fun z17 f17 H locs Y S s17 p17 => ?_)
  obtain ⟨l17, u17⟩ := p17
  refine lv_istore (lv' := [(5, .int (iI z17)), (4, .int (iI z5)), (3, .int (iI z4)), (2, .ref b2), (0, .ref h), (1, .ref a1)]) X.1 X.2.1 d_Ce_putTicket_95 hl (by decide) rfl (fun ls hl => ?_)
  refine lv_aload_n X.1 X.2.1 d_Ce_putTicket_97 rfl (lv_at hl 4 rfl) ?_
  refine t_get0 (ci := 4) X Y S k0 rfl i_Ce 4 (by decide) rfl lk_Ce_34 (fun _ h9 => h9) d_Ce_putTicket_98 ((gF_same (s17.2.2.2 _ ⟨(t_obj S.1 k0).1, by rw [k0]; decide, by simp⟩).1 4).trans e16) ?_
  refine lv_bipush (v := iI 48) X.1 X.2.1 d_Ce_putTicket_101 (by decide) ?_
  refine t_ni (t_runV (As := [.int (iI 48)]) (rest := []) (n := 1) X Y S k16 hml hl.1 (c_By_open l D E T κ L f17 H.size b16 12288 k16 (by omega) 48 (by omega) (by omega) S.1) (ok_k X Y hA KS KR) rfl kl_Ce_By_open ks_By_open kx_By_open ki_By_open ini_By ⟨rfl, rfl⟩ hd_By_open ⟨Nat.le_of_ble_eq_true rfl, Nat.le_of_ble_eq_true rfl⟩ rfl (Nat.le_of_ble_eq_true rfl) d_Ce_putTicket_103 ⟨Nat.le_of_ble_eq_true rfl, Nat.le_of_ble_eq_true rfl⟩) X Y hA S (by decide) (fun z18 f18 H locs Y S s18 p18 => ?_)
  obtain ⟨l18, u18⟩ := p18
  refine lv_istore (lv' := [(6, .int (iI z18)), (5, .int (iI z17)), (4, .int (iI z5)), (3, .int (iI z4)), (2, .ref b2), (0, .ref h), (1, .ref a1)]) X.1 X.2.1 d_Ce_putTicket_106 hl (by decide) rfl (fun ls hl => ?_)
  refine lv_aload_n X.1 X.2.1 d_Ce_putTicket_108 rfl (lv_at hl 5 rfl) ?_
  refine t_get0 (ci := 4) X Y S k0 rfl i_Ce 4 (by decide) rfl lk_Ce_34 (fun _ h9 => h9) d_Ce_putTicket_109 ((gF_same (s18.2.2.2 _ ⟨(t_obj S.1 k0).1, by rw [k0]; decide, by simp⟩).1 4).trans ((gF_same (s17.2.2.2 _ ⟨(t_obj S.1 k0).1, by rw [k0]; decide, by simp⟩).1 4).trans e16)) ?_
  refine lv_iconst (v := iI 0) X.1 X.2.1 d_Ce_putTicket_112 (by decide) ?_
  refine lv_ldc2 (v := (5)) X.1 X.2.1 X.2.2.2.1 (X.2.2.1 _ cl_Ce_79) d_Ce_putTicket_113 ?_
  refine t_nv (t_runV (As := [.int (iI 0), .long ((5))]) (rest := []) (n := 2) X Y S k16 hml hl.1 (c_By_putNumber l D E T κ L f18 H.size b16 12288 k16 (by omega) 0 (by omega) (by omega) ((5)) S.1) (ok_k X Y hA KS KR) rfl kl_Ce_By_putNumber ks_By_putNumber kx_By_putNumber ki_By_putNumber ini_By ⟨rfl, rfl⟩ hd_By_putNumber ⟨Nat.le_of_ble_eq_true rfl, Nat.le_of_ble_eq_true rfl⟩ rfl (Nat.le_of_ble_eq_true rfl) d_Ce_putTicket_116 ⟨Nat.le_of_ble_eq_true rfl, Nat.le_of_ble_eq_true rfl⟩) X Y hA S (by decide) (fun f19 H locs Y S s19 p19 => ?_)
  refine lv_aload_n X.1 X.2.1 d_Ce_putTicket_119 rfl (lv_at hl 5 rfl) ?_
  refine t_get0 (ci := 4) X Y S k0 rfl i_Ce 4 (by decide) rfl lk_Ce_34 (fun _ h9 => h9) d_Ce_putTicket_120 ((gF_same (s19.2.2.2 _ ⟨(t_obj S.1 k0).1, by rw [k0]; decide, by simp⟩).1 4).trans ((gF_same (s18.2.2.2 _ ⟨(t_obj S.1 k0).1, by rw [k0]; decide, by simp⟩).1 4).trans ((gF_same (s17.2.2.2 _ ⟨(t_obj S.1 k0).1, by rw [k0]; decide, by simp⟩).1 4).trans e16))) ?_
  refine lv_iconst (v := iI 1) X.1 X.2.1 d_Ce_putTicket_123 (by decide) ?_
  refine t_nv (t_runV (As := [.int (iI 1)]) (rest := []) (n := 1) X Y S k16 hml hl.1 (c_By_putRealm l D E T κ L f19 H.size b16 12288 k16 (by omega) 1 (by omega) (by omega) S.1) (ok_k X Y hA KS KR) rfl kl_Ce_By_putRealm ks_By_putRealm kx_By_putRealm ki_By_putRealm ini_By ⟨rfl, rfl⟩ hd_By_putRealm ⟨Nat.le_of_ble_eq_true rfl, Nat.le_of_ble_eq_true rfl⟩ rfl (Nat.le_of_ble_eq_true rfl) d_Ce_putTicket_124 ⟨Nat.le_of_ble_eq_true rfl, Nat.le_of_ble_eq_true rfl⟩) X Y hA S (by decide) (fun f20 H locs Y S s20 p20 => ?_)
  refine lv_aload_n X.1 X.2.1 d_Ce_putTicket_127 rfl (lv_at hl 5 rfl) ?_
  refine t_get0 (ci := 4) X Y S k0 rfl i_Ce 4 (by decide) rfl lk_Ce_34 (fun _ h9 => h9) d_Ce_putTicket_128 ((gF_same (s20.2.2.2 _ ⟨(t_obj S.1 k0).1, by rw [k0]; decide, by simp⟩).1 4).trans ((gF_same (s19.2.2.2 _ ⟨(t_obj S.1 k0).1, by rw [k0]; decide, by simp⟩).1 4).trans ((gF_same (s18.2.2.2 _ ⟨(t_obj S.1 k0).1, by rw [k0]; decide, by simp⟩).1 4).trans ((gF_same (s17.2.2.2 _ ⟨(t_obj S.1 k0).1, by rw [k0]; decide, by simp⟩).1 4).trans e16)))) ?_
  refine lv_iconst (v := iI 2) X.1 X.2.1 d_Ce_putTicket_131 (by decide) ?_
  refine lv_aload_n X.1 X.2.1 d_Ce_putTicket_132 rfl (lv_at hl 5 rfl) ?_
  refine t_getr (ci := 4) X Y S k0 rfl i_Ce 3 (by decide) rfl (k1 := 13) (k2 := 4000) rfl rfl lk_Ce_30 (fun _ h9 => h9) d_Ce_putTicket_133 (fun b21 e21 k21 => ?_)
  refine lv_aload_n X.1 X.2.1 d_Ce_putTicket_136 rfl (lv_at hl 5 rfl) ?_
  refine t_get0 (ci := 4) X Y S k0 rfl i_Ce 3 (by decide) rfl lk_Ce_30 (fun _ h9 => h9) d_Ce_putTicket_137 e21 ?_
  refine lv_aload_n X.1 X.2.1 d_Ce_putTicket_140 rfl (lv_at hl 5 rfl) ?_
  refine t_geti (ci := 4) X Y S k0 rfl i_Ce 8 (by decide) rfl lk_Ce_81 (fun _ h9 => h9) d_Ce_putTicket_141 (fun z22 e22 l22 u22 => ?_)
  refine lv_iconst (v := iI 3) X.1 X.2.1 d_Ce_putTicket_144 (by decide) ?_
  refine t_ui (t_runV (As := [.int (iI z22), .int (iI 3)]) (rest := [.ref b21, .int (iI 2), .ref b16]) (n := 2) X Y S k21 hml hl.1 (c_By_field l D E T κ L f20 H.size b21 4000 k21 (by omega) z22 (by omega) (by omega) 3 (by omega) (by omega) S.1) (ok_k X Y hA KS KR) rfl kl_Ce_By_field ks_By_field kx_By_field ki_By_field ini_By ⟨rfl, rfl⟩ hd_By_field ⟨Nat.le_of_ble_eq_true rfl, Nat.le_of_ble_eq_true rfl⟩ rfl (Nat.le_of_ble_eq_true rfl) d_Ce_putTicket_145 ⟨Nat.le_of_ble_eq_true rfl, Nat.le_of_ble_eq_true rfl⟩) X Y hA (fun z23 H locs Y p23 => ?_)
  obtain ⟨l23, u23⟩ := p23
  refine t_nv (t_runV (As := [.int (iI 2), .ref b21, .int (iI z23)]) (rest := []) (n := 3) X Y S k16 hml hl.1 (c_By_putCopy l D E T κ L f20 H.size b16 12288 k16 (by omega) 2 (by omega) (by omega) b21 4000 k21 (by omega) z23 (by omega) (by omega) S.1) (ok_k X Y hA KS KR) rfl kl_Ce_By_putCopy ks_By_putCopy kx_By_putCopy ki_By_putCopy ini_By ⟨rfl, rfl⟩ hd_By_putCopy ⟨Nat.le_of_ble_eq_true rfl, Nat.le_of_ble_eq_true rfl⟩ rfl (Nat.le_of_ble_eq_true rfl) d_Ce_putTicket_148 ⟨Nat.le_of_ble_eq_true rfl, Nat.le_of_ble_eq_true rfl⟩) X Y hA S (by decide) (fun f24 H locs Y S s24 p24 => ?_)
  refine lv_aload_n X.1 X.2.1 d_Ce_putTicket_151 rfl (lv_at hl 5 rfl) ?_
  refine t_get0 (ci := 4) X Y S k0 rfl i_Ce 4 (by decide) rfl lk_Ce_34 (fun _ h9 => h9) d_Ce_putTicket_152 ((gF_same (s24.2.2.2 _ ⟨(t_obj S.1 k0).1, by rw [k0]; decide, by simp⟩).1 4).trans ((gF_same (s20.2.2.2 _ ⟨(t_obj S.1 k0).1, by rw [k0]; decide, by simp⟩).1 4).trans ((gF_same (s19.2.2.2 _ ⟨(t_obj S.1 k0).1, by rw [k0]; decide, by simp⟩).1 4).trans ((gF_same (s18.2.2.2 _ ⟨(t_obj S.1 k0).1, by rw [k0]; decide, by simp⟩).1 4).trans ((gF_same (s17.2.2.2 _ ⟨(t_obj S.1 k0).1, by rw [k0]; decide, by simp⟩).1 4).trans e16))))) ?_
  refine lv_iconst (v := iI 3) X.1 X.2.1 d_Ce_putTicket_155 (by decide) ?_
  refine t_ni (t_runV (As := [.int (iI 3)]) (rest := []) (n := 1) X Y S k16 hml hl.1 (c_By_openField l D E T κ L f24 H.size b16 12288 k16 (by omega) 3 (by omega) (by omega) S.1) (ok_k X Y hA KS KR) rfl kl_Ce_By_openField ks_By_openField kx_By_openField ki_By_openField ini_By ⟨rfl, rfl⟩ hd_By_openField ⟨Nat.le_of_ble_eq_true rfl, Nat.le_of_ble_eq_true rfl⟩ rfl (Nat.le_of_ble_eq_true rfl) d_Ce_putTicket_156 ⟨Nat.le_of_ble_eq_true rfl, Nat.le_of_ble_eq_true rfl⟩) X Y hA S (by decide) (fun z25 f25 H locs Y S s25 p25 => ?_)
  obtain ⟨l25, u25⟩ := p25
  refine lv_istore (lv' := [(7, .int (iI z25)), (6, .int (iI z18)), (5, .int (iI z17)), (4, .int (iI z5)), (3, .int (iI z4)), (2, .ref b2), (0, .ref h), (1, .ref a1)]) X.1 X.2.1 d_Ce_putTicket_159 hl (by decide) rfl (fun ls hl => ?_)
  refine lv_aload_n X.1 X.2.1 d_Ce_putTicket_161 rfl (lv_at hl 6 rfl) ?_
  refine t_get0 (ci := 4) X Y S k0 rfl i_Ce 0 (by decide) rfl lk_Ce_18 (fun _ h9 => h9) d_Ce_putTicket_162 ((gF_same (s25.2.2.2 _ ⟨(t_obj S.1 k0).1, by rw [k0]; decide, by simp⟩).1 0).trans ((gF_same (s24.2.2.2 _ ⟨(t_obj S.1 k0).1, by rw [k0]; decide, by simp⟩).1 0).trans ((gF_same (s20.2.2.2 _ ⟨(t_obj S.1 k0).1, by rw [k0]; decide, by simp⟩).1 0).trans ((gF_same (s19.2.2.2 _ ⟨(t_obj S.1 k0).1, by rw [k0]; decide, by simp⟩).1 0).trans ((gF_same (s18.2.2.2 _ ⟨(t_obj S.1 k0).1, by rw [k0]; decide, by simp⟩).1 0).trans ((gF_same (s17.2.2.2 _ ⟨(t_obj S.1 k0).1, by rw [k0]; decide, by simp⟩).1 0).trans ((gF_same (s15.2.2.2 _ ⟨(t_obj S.1 k0).1, by rw [k0]; decide, by simp⟩).1 0).trans ((gF_same (s14.2.2.2 _ ⟨(t_obj S.1 k0).1, by rw [k0]; decide, by simp⟩).1 0).trans ((gF_same (s13.2.2.2 _ ⟨(t_obj S.1 k0).1, by rw [k0]; decide, by simp⟩).1 0).trans ((gF_same (s12.2.2.2 _ ⟨(t_obj S.1 k0).1, by rw [k0]; decide, by simp⟩).1 0).trans ((gF_same (s11.2.2.2 _ ⟨(t_obj S.1 k0).1, by rw [k0]; decide, by simp⟩).1 0).trans ((gF_same (s10.2.2.2 _ ⟨(t_obj S.1 k0).1, by rw [k0]; decide, by simp⟩).1 0).trans ((gF_same (s9.2.2.2 _ ⟨(t_obj S.1 k0).1, by rw [k0]; decide, by simp⟩).1 0).trans ((gF_same (s8.2.2.2 _ ⟨(t_obj S.1 k0).1, by rw [k0]; decide, by simp⟩).1 0).trans ((gF_same (s7.2.2.2 _ ⟨(t_obj S.1 k0).1, by rw [k0]; decide, by simp⟩).1 0).trans ((gF_same (s5.2.2.2 _ ⟨(t_obj S.1 k0).1, by rw [k0]; decide, by simp⟩).1 0).trans ((gF_same (s4.2.2.2 _ ⟨(t_obj S.1 k0).1, by rw [k0]; decide, by simp⟩).1 0).trans ((gF_same (s3.2.2.2 _ ⟨(t_obj S.1 k0).1, by rw [k0]; decide, by simp⟩).1 0).trans e1)))))))))))))))))) ?_
  refine lv_aload_n X.1 X.2.1 d_Ce_putTicket_165 rfl (lv_at hl 6 rfl) ?_
  refine t_get0 (ci := 4) X Y S k0 rfl i_Ce 4 (by decide) rfl lk_Ce_34 (fun _ h9 => h9) d_Ce_putTicket_166 ((gF_same (s25.2.2.2 _ ⟨(t_obj S.1 k0).1, by rw [k0]; decide, by simp⟩).1 4).trans ((gF_same (s24.2.2.2 _ ⟨(t_obj S.1 k0).1, by rw [k0]; decide, by simp⟩).1 4).trans ((gF_same (s20.2.2.2 _ ⟨(t_obj S.1 k0).1, by rw [k0]; decide, by simp⟩).1 4).trans ((gF_same (s19.2.2.2 _ ⟨(t_obj S.1 k0).1, by rw [k0]; decide, by simp⟩).1 4).trans ((gF_same (s18.2.2.2 _ ⟨(t_obj S.1 k0).1, by rw [k0]; decide, by simp⟩).1 4).trans ((gF_same (s17.2.2.2 _ ⟨(t_obj S.1 k0).1, by rw [k0]; decide, by simp⟩).1 4).trans e16)))))) ?_
  refine lv_aload_n X.1 X.2.1 d_Ce_putTicket_169 rfl (lv_at hl 6 rfl) ?_
  refine t_getr (ci := 4) X Y S k0 rfl i_Ce 11 (by decide) rfl (k1 := 17) (k2 := 0) rfl rfl lk_Ce_41 (fun _ h9 => h9) d_Ce_putTicket_170 (fun b26 e26 k26 => ?_)
  refine lv_ldc2 (v := (18)) X.1 X.2.1 X.2.2.2.1 (X.2.2.1 _ cl_Ce_155) d_Ce_putTicket_173 ?_
  refine t_ur (t_runV (As := [.long ((18))]) (rest := [.ref b16, .ref b1]) (n := 1) X Y S k26 hml hl.1 (c_Pr_latestKey l D E T κ L f25 H.size b26 k26 ((18)) S.1) (ok_k X Y hA KS KR) rfl kl_Ce_Pr_latestKey ks_Pr_latestKey kx_Pr_latestKey ki_Pr_latestKey ini_Pr ⟨rfl, rfl⟩ hd_Pr_latestKey ⟨Nat.le_of_ble_eq_true rfl, Nat.le_of_ble_eq_true rfl⟩ rfl (Nat.le_of_ble_eq_true rfl) d_Ce_putTicket_176 ⟨Nat.le_of_ble_eq_true rfl, Nat.le_of_ble_eq_true rfl⟩) X Y hA (fun b27 H locs Y p27 => ?_)
  obtain ⟨n27, k27⟩ := p27
  have x27 := tKey_n k27
  refine lv_iconst (v := iI 2) X.1 X.2.1 d_Ce_putTicket_179 (by decide) ?_
  refine lv_aload_n X.1 X.2.1 d_Ce_putTicket_180 rfl (lv_at hl 6 rfl) ?_
  refine t_get0 (ci := 4) X Y S k0 rfl i_Ce 11 (by decide) rfl lk_Ce_41 (fun _ h9 => h9) d_Ce_putTicket_181 e26 ?_
  refine t_geti (ci := 7) X Y S k26 rfl i_Pr 3 (by decide) rfl lk_Ce_331 (fun _ h9 => h9) d_Ce_putTicket_184 (fun z28 e28 l28 u28 => ?_)
  refine t_nv (t_runV (As := [.ref b16, .ref b27, .int (iI 2), .int (iI z28)]) (rest := []) (n := 4) X Y S k1 hml hl.1 (c_Va_putSealed l D E T κ L f25 H.size b1 k1 b16 12288 k16 (by omega) b27 n27 k27 (by omega) 2 (by omega) (by omega) z28 (by omega) (by omega) S.1) (ok_k X Y hA KS KR) rfl kl_Ce_Va_putSealed ks_Va_putSealed kx_Va_putSealed ki_Va_putSealed ini_Va ⟨rfl, rfl⟩ hd_Va_putSealed ⟨Nat.le_of_ble_eq_true rfl, Nat.le_of_ble_eq_true rfl⟩ rfl (Nat.le_of_ble_eq_true rfl) d_Ce_putTicket_187 ⟨Nat.le_of_ble_eq_true rfl, Nat.le_of_ble_eq_true rfl⟩) X Y hA S (by decide) (fun f29 H locs Y S s29 p29 => ?_)
  refine lv_aload_n X.1 X.2.1 d_Ce_putTicket_190 rfl (lv_at hl 6 rfl) ?_
  refine t_get0 (ci := 4) X Y S k0 rfl i_Ce 4 (by decide) rfl lk_Ce_34 (fun _ h9 => h9) d_Ce_putTicket_191 ((gF_same (s29.2.2.2 _ ⟨(t_obj S.1 k0).1, by rw [k0]; decide, by simp⟩).1 4).trans ((gF_same (s25.2.2.2 _ ⟨(t_obj S.1 k0).1, by rw [k0]; decide, by simp⟩).1 4).trans ((gF_same (s24.2.2.2 _ ⟨(t_obj S.1 k0).1, by rw [k0]; decide, by simp⟩).1 4).trans ((gF_same (s20.2.2.2 _ ⟨(t_obj S.1 k0).1, by rw [k0]; decide, by simp⟩).1 4).trans ((gF_same (s19.2.2.2 _ ⟨(t_obj S.1 k0).1, by rw [k0]; decide, by simp⟩).1 4).trans ((gF_same (s18.2.2.2 _ ⟨(t_obj S.1 k0).1, by rw [k0]; decide, by simp⟩).1 4).trans ((gF_same (s17.2.2.2 _ ⟨(t_obj S.1 k0).1, by rw [k0]; decide, by simp⟩).1 4).trans e16))))))) ?_
  refine lv_iload X.1 X.2.1 d_Ce_putTicket_194 (lv_at hl 0 rfl) ?_
  refine t_nv (t_runV (As := [.int (iI z25)]) (rest := []) (n := 1) X Y S k16 hml hl.1 (c_By_close l D E T κ L f29 H.size b16 12288 k16 (by omega) z25 (by omega) (by omega) S.1) (ok_k X Y hA KS KR) rfl kl_Ce_By_close ks_By_close kx_By_close ki_By_close ini_By ⟨rfl, rfl⟩ hd_By_close ⟨Nat.le_of_ble_eq_true rfl, Nat.le_of_ble_eq_true rfl⟩ rfl (Nat.le_of_ble_eq_true rfl) d_Ce_putTicket_196 ⟨Nat.le_of_ble_eq_true rfl, Nat.le_of_ble_eq_true rfl⟩) X Y hA S (by decide) (fun f30 H locs Y S s30 p30 => ?_)
  refine lv_aload_n X.1 X.2.1 d_Ce_putTicket_199 rfl (lv_at hl 6 rfl) ?_
  refine t_get0 (ci := 4) X Y S k0 rfl i_Ce 4 (by decide) rfl lk_Ce_34 (fun _ h9 => h9) d_Ce_putTicket_200 ((gF_same (s30.2.2.2 _ ⟨(t_obj S.1 k0).1, by rw [k0]; decide, by simp⟩).1 4).trans ((gF_same (s29.2.2.2 _ ⟨(t_obj S.1 k0).1, by rw [k0]; decide, by simp⟩).1 4).trans ((gF_same (s25.2.2.2 _ ⟨(t_obj S.1 k0).1, by rw [k0]; decide, by simp⟩).1 4).trans ((gF_same (s24.2.2.2 _ ⟨(t_obj S.1 k0).1, by rw [k0]; decide, by simp⟩).1 4).trans ((gF_same (s20.2.2.2 _ ⟨(t_obj S.1 k0).1, by rw [k0]; decide, by simp⟩).1 4).trans ((gF_same (s19.2.2.2 _ ⟨(t_obj S.1 k0).1, by rw [k0]; decide, by simp⟩).1 4).trans ((gF_same (s18.2.2.2 _ ⟨(t_obj S.1 k0).1, by rw [k0]; decide, by simp⟩).1 4).trans ((gF_same (s17.2.2.2 _ ⟨(t_obj S.1 k0).1, by rw [k0]; decide, by simp⟩).1 4).trans e16)))))))) ?_
  refine lv_iload X.1 X.2.1 d_Ce_putTicket_203 (lv_at hl 1 rfl) ?_
  refine t_nv (t_runV (As := [.int (iI z18)]) (rest := []) (n := 1) X Y S k16 hml hl.1 (c_By_close l D E T κ L f30 H.size b16 12288 k16 (by omega) z18 (by omega) (by omega) S.1) (ok_k X Y hA KS KR) rfl kl_Ce_By_close ks_By_close kx_By_close ki_By_close ini_By ⟨rfl, rfl⟩ hd_By_close ⟨Nat.le_of_ble_eq_true rfl, Nat.le_of_ble_eq_true rfl⟩ rfl (Nat.le_of_ble_eq_true rfl) d_Ce_putTicket_205 ⟨Nat.le_of_ble_eq_true rfl, Nat.le_of_ble_eq_true rfl⟩) X Y hA S (by decide) (fun f31 H locs Y S s31 p31 => ?_)
  refine lv_aload_n X.1 X.2.1 d_Ce_putTicket_208 rfl (lv_at hl 6 rfl) ?_
  refine t_get0 (ci := 4) X Y S k0 rfl i_Ce 4 (by decide) rfl lk_Ce_34 (fun _ h9 => h9) d_Ce_putTicket_209 ((gF_same (s31.2.2.2 _ ⟨(t_obj S.1 k0).1, by rw [k0]; decide, by simp⟩).1 4).trans ((gF_same (s30.2.2.2 _ ⟨(t_obj S.1 k0).1, by rw [k0]; decide, by simp⟩).1 4).trans ((gF_same (s29.2.2.2 _ ⟨(t_obj S.1 k0).1, by rw [k0]; decide, by simp⟩).1 4).trans ((gF_same (s25.2.2.2 _ ⟨(t_obj S.1 k0).1, by rw [k0]; decide, by simp⟩).1 4).trans ((gF_same (s24.2.2.2 _ ⟨(t_obj S.1 k0).1, by rw [k0]; decide, by simp⟩).1 4).trans ((gF_same (s20.2.2.2 _ ⟨(t_obj S.1 k0).1, by rw [k0]; decide, by simp⟩).1 4).trans ((gF_same (s19.2.2.2 _ ⟨(t_obj S.1 k0).1, by rw [k0]; decide, by simp⟩).1 4).trans ((gF_same (s18.2.2.2 _ ⟨(t_obj S.1 k0).1, by rw [k0]; decide, by simp⟩).1 4).trans ((gF_same (s17.2.2.2 _ ⟨(t_obj S.1 k0).1, by rw [k0]; decide, by simp⟩).1 4).trans e16))))))))) ?_
  refine lv_iload X.1 X.2.1 d_Ce_putTicket_212 (lv_at hl 2 rfl) ?_
  refine t_nv (t_runV (As := [.int (iI z17)]) (rest := []) (n := 1) X Y S k16 hml hl.1 (c_By_close l D E T κ L f31 H.size b16 12288 k16 (by omega) z17 (by omega) (by omega) S.1) (ok_k X Y hA KS KR) rfl kl_Ce_By_close ks_By_close kx_By_close ki_By_close ini_By ⟨rfl, rfl⟩ hd_By_close ⟨Nat.le_of_ble_eq_true rfl, Nat.le_of_ble_eq_true rfl⟩ rfl (Nat.le_of_ble_eq_true rfl) d_Ce_putTicket_214 ⟨Nat.le_of_ble_eq_true rfl, Nat.le_of_ble_eq_true rfl⟩) X Y hA S (by decide) (fun f32 H locs Y S s32 p32 => ?_)
  exact c_retv hQQ X Y hr hlk ⟨rfl, S, trivial⟩ d_Ce_putTicket_217
set_option maxHeartbeats 4000000 in
set_option maxRecDepth 100000 in
theorem c_Ce_putReplyPart (l : Launch) (D : va_G) (E : cE) (T : cT) (κ : tK) (L : List Nat) (f : pF) (sz : Nat) (h : Nat) (k0 : κ h = (14, 0)) (a1 n1 : Nat) (k1 : tKey T κ a1 n1) (x1 : n1 = 0 ∨ n1 = 16 ∨ n1 = 32) (hw : tW E T κ L f) : Met l y_Ce_putReplyPart (k_Ce_putReplyPart :: lw_tg) (kRm 7 181 0 0) (va_Pc [.ref h, .ref a1] (kPre D E T L f sz)) (va_Qv (nPv E T [1, 13] κ L f (fun (g : pF) => True)) (cPost D E (pA L sz)) (pA L sz)) 0 0 (pA L sz) := by
  refine k_enter (own := R_Ce) (by decide) rfl (Nat.le_of_ble_eq_true rfl) (fun p e s m below meth c ls AV QQ H locs hQQ X Y hA hin hr hlk hml hl KS KR => ?_)
  have hl : lv_has ls 8 [(0, .ref h), (1, .ref a1)] := hl
  have S : tS E T (tFr κ L [1, 13] []) κ L f κ L f := tS_rf hw
  refine lv_aload_n X.1 X.2.1 d_Ce_putReplyPart_0 rfl (lv_at hl 0 rfl) ?_
  refine t_getr (ci := 4) X Y S k0 rfl i_Ce 0 (by decide) rfl (k1 := 21) (k2 := 0) rfl rfl lk_Ce_18 (fun _ h9 => h9) d_Ce_putReplyPart_1 (fun b1 e1 k1 => ?_)
  refine t_getr (ci := 11) X Y S k1 rfl i_Va 1 (by decide) rfl (k1 := 13) (k2 := 6144) rfl rfl lk_Ce_165 (fun _ h9 => h9) d_Ce_putReplyPart_4 (fun b2 e2 k2 => ?_)
  refine lv_astore_n (lv' := [(2, .ref b2), (0, .ref h), (1, .ref a1)]) X.1 X.2.1 d_Ce_putReplyPart_7 rfl hl (by decide) rfl (fun ls hl => ?_)
  refine lv_aload_n X.1 X.2.1 d_Ce_putReplyPart_8 rfl (lv_at hl 0 rfl) ?_
  refine t_nv (t_runV (As := []) (rest := []) (n := 0) X Y S k2 hml hl.1 (c_By_clear l D E T κ L f H.size b2 6144 k2 (by omega) S.1) (ok_k X Y hA KS KR) rfl kl_Ce_By_clear ks_By_clear kx_By_clear ki_By_clear ini_By ⟨rfl, rfl⟩ hd_By_clear ⟨Nat.le_of_ble_eq_true rfl, Nat.le_of_ble_eq_true rfl⟩ rfl (Nat.le_of_ble_eq_true rfl) d_Ce_putReplyPart_9 ⟨Nat.le_of_ble_eq_true rfl, Nat.le_of_ble_eq_true rfl⟩) X Y hA S (by decide) (fun f3 H locs Y S s3 p3 => ?_)
  refine lv_aload_n X.1 X.2.1 d_Ce_putReplyPart_12 rfl (lv_at hl 0 rfl) ?_
  refine lv_aload_n X.1 X.2.1 d_Ce_putReplyPart_13 rfl (lv_at hl 1 rfl) ?_
  refine t_geti (ci := 4) X Y S k0 rfl i_Ce 6 (by decide) rfl lk_Ce_65 (fun _ h9 => h9) d_Ce_putReplyPart_14 (fun z4 e4 l4 u4 => ?_)
  have J6 : ∀ (z5 : Int) (H : Heap) (locs : List Loc) (ls : Array Slot), (121 ≤ z5) → (z5 ≤ 122) → pH D cCl (pA L sz) s.heap L f3 H locs → tS E T (tFr κ L [1, 13] []) κ L f κ L f3 → lv_has ls 8 [(0, .ref h), (1, .ref a1), (2, .ref b2)] → W p l e (kRm 7 181 0 0) s m AV below meth c H locs 0 0 QQ (F0 m 27 ls [.int (iI z5), .ref b2]) := by
    intro z5 H locs ls l5 u5 Y S hl
    refine t_ni (t_runV (As := [.int (iI z5)]) (rest := []) (n := 1) X Y S k2 hml hl.1 (c_By_open l D E T κ L f3 H.size b2 6144 k2 (by omega) z5 (by omega) (by omega) S.1) (ok_k X Y hA KS KR) rfl kl_Ce_By_open ks_By_open kx_By_open ki_By_open ini_By ⟨rfl, rfl⟩ hd_By_open ⟨Nat.le_of_ble_eq_true rfl, Nat.le_of_ble_eq_true rfl⟩ rfl (Nat.le_of_ble_eq_true rfl) d_Ce_putReplyPart_27 ⟨Nat.le_of_ble_eq_true rfl, Nat.le_of_ble_eq_true rfl⟩) X Y hA S (by decide) (fun z10 f10 H locs Y S s10 p10 => ?_)
    obtain ⟨l10, u10⟩ := p10
    refine lv_istore_n (lv' := [(3, .int (iI z10)), (0, .ref h), (1, .ref a1), (2, .ref b2)]) X.1 X.2.1 d_Ce_putReplyPart_30 rfl hl (by decide) rfl (fun ls hl => ?_)
    refine lv_aload_n X.1 X.2.1 d_Ce_putReplyPart_31 rfl (lv_at hl 3 rfl) ?_
    refine lv_bipush (v := iI 48) X.1 X.2.1 d_Ce_putReplyPart_32 (by decide) ?_
    refine t_ni (t_runV (As := [.int (iI 48)]) (rest := []) (n := 1) X Y S k2 hml hl.1 (c_By_open l D E T κ L f10 H.size b2 6144 k2 (by omega) 48 (by omega) (by omega) S.1) (ok_k X Y hA KS KR) rfl kl_Ce_By_open ks_By_open kx_By_open ki_By_open ini_By ⟨rfl, rfl⟩ hd_By_open ⟨Nat.le_of_ble_eq_true rfl, Nat.le_of_ble_eq_true rfl⟩ rfl (Nat.le_of_ble_eq_true rfl) d_Ce_putReplyPart_34 ⟨Nat.le_of_ble_eq_true rfl, Nat.le_of_ble_eq_true rfl⟩) X Y hA S (by decide) (fun z11 f11 H locs Y S s11 p11 => ?_)
    obtain ⟨l11, u11⟩ := p11
    refine lv_istore (lv' := [(4, .int (iI z11)), (3, .int (iI z10)), (0, .ref h), (1, .ref a1), (2, .ref b2)]) X.1 X.2.1 d_Ce_putReplyPart_37 hl (by decide) rfl (fun ls hl => ?_)
    refine lv_aload_n X.1 X.2.1 d_Ce_putReplyPart_39 rfl (lv_at hl 4 rfl) ?_
    refine lv_iconst (v := iI 0) X.1 X.2.1 d_Ce_putReplyPart_40 (by decide) ?_
    refine lv_aload_n X.1 X.2.1 d_Ce_putReplyPart_41 rfl (lv_at hl 3 rfl) ?_
    refine t_nv (t_runV (As := [.int (iI 0), .ref a1]) (rest := []) (n := 2) X Y S k2 hml hl.1 (c_By_putKey l D E T κ L f11 H.size b2 6144 k2 (by omega) 0 (by omega) (by omega) a1 n1 k1 (by omega) S.1) (ok_k X Y hA KS KR) rfl kl_Ce_By_putKey ks_By_putKey kx_By_putKey ki_By_putKey ini_By ⟨rfl, rfl⟩ hd_By_putKey ⟨Nat.le_of_ble_eq_true rfl, Nat.le_of_ble_eq_true rfl⟩ rfl (Nat.le_of_ble_eq_true rfl) d_Ce_putReplyPart_42 ⟨Nat.le_of_ble_eq_true rfl, Nat.le_of_ble_eq_true rfl⟩) X Y hA S (by decide) (fun f12 H locs Y S s12 p12 => ?_)
    refine lv_aload_n X.1 X.2.1 d_Ce_putReplyPart_45 rfl (lv_at hl 4 rfl) ?_
    refine lv_iconst (v := iI 1) X.1 X.2.1 d_Ce_putReplyPart_46 (by decide) ?_
    refine t_ni (t_runV (As := [.int (iI 1)]) (rest := []) (n := 1) X Y S k2 hml hl.1 (c_By_openField l D E T κ L f12 H.size b2 6144 k2 (by omega) 1 (by omega) (by omega) S.1) (ok_k X Y hA KS KR) rfl kl_Ce_By_openField ks_By_openField kx_By_openField ki_By_openField ini_By ⟨rfl, rfl⟩ hd_By_openField ⟨Nat.le_of_ble_eq_true rfl, Nat.le_of_ble_eq_true rfl⟩ rfl (Nat.le_of_ble_eq_true rfl) d_Ce_putReplyPart_47 ⟨Nat.le_of_ble_eq_true rfl, Nat.le_of_ble_eq_true rfl⟩) X Y hA S (by decide) (fun z13 f13 H locs Y S s13 p13 => ?_)
    obtain ⟨l13, u13⟩ := p13
    refine lv_istore (lv' := [(5, .int (iI z13)), (4, .int (iI z11)), (3, .int (iI z10)), (0, .ref h), (1, .ref a1), (2, .ref b2)]) X.1 X.2.1 d_Ce_putReplyPart_50 hl (by decide) rfl (fun ls hl => ?_)
    refine lv_aload_n X.1 X.2.1 d_Ce_putReplyPart_52 rfl (lv_at hl 5 rfl) ?_
    refine lv_bipush (v := iI 48) X.1 X.2.1 d_Ce_putReplyPart_53 (by decide) ?_
    refine t_ni (t_runV (As := [.int (iI 48)]) (rest := []) (n := 1) X Y S k2 hml hl.1 (c_By_open l D E T κ L f13 H.size b2 6144 k2 (by omega) 48 (by omega) (by omega) S.1) (ok_k X Y hA KS KR) rfl kl_Ce_By_open ks_By_open kx_By_open ki_By_open ini_By ⟨rfl, rfl⟩ hd_By_open ⟨Nat.le_of_ble_eq_true rfl, Nat.le_of_ble_eq_true rfl⟩ rfl (Nat.le_of_ble_eq_true rfl) d_Ce_putReplyPart_55 ⟨Nat.le_of_ble_eq_true rfl, Nat.le_of_ble_eq_true rfl⟩) X Y hA S (by decide) (fun z14 f14 H locs Y S s14 p14 => ?_)
    obtain ⟨l14, u14⟩ := p14
    refine lv_istore (lv' := [(6, .int (iI z14)), (5, .int (iI z13)), (4, .int (iI z11)), (3, .int (iI z10)), (0, .ref h), (1, .ref a1), (2, .ref b2)]) X.1 X.2.1 d_Ce_putReplyPart_58 hl (by decide) rfl (fun ls hl => ?_)
    refine lv_aload_n X.1 X.2.1 d_Ce_putReplyPart_60 rfl (lv_at hl 6 rfl) ?_
    refine lv_bipush (v := iI 48) X.1 X.2.1 d_Ce_putReplyPart_61 (by decide) ?_
    refine t_ni (t_runV (As := [.int (iI 48)]) (rest := []) (n := 1) X Y S k2 hml hl.1 (c_By_open l D E T κ L f14 H.size b2 6144 k2 (by omega) 48 (by omega) (by omega) S.1) (ok_k X Y hA KS KR) rfl kl_Ce_By_open ks_By_open kx_By_open ki_By_open ini_By ⟨rfl, rfl⟩ hd_By_open ⟨Nat.le_of_ble_eq_true rfl, Nat.le_of_ble_eq_true rfl⟩ rfl (Nat.le_of_ble_eq_true rfl) d_Ce_putReplyPart_63 ⟨Nat.le_of_ble_eq_true rfl, Nat.le_of_ble_eq_true rfl⟩) X Y hA S (by decide) (fun z15 f15 H locs Y S s15 p15 => ?_)
    obtain ⟨l15, u15⟩ := p15
    refine lv_istore (lv' := [(7, .int (iI z15)), (6, .int (iI z14)), (5, .int (iI z13)), (4, .int (iI z11)), (3, .int (iI z10)), (0, .ref h), (1, .ref a1), (2, .ref b2)]) X.1 X.2.1 d_Ce_putReplyPart_66 hl (by decide) rfl (fun ls hl => ?_)
    refine lv_aload_n X.1 X.2.1 d_Ce_putReplyPart_68 rfl (lv_at hl 7 rfl) ?_
    refine lv_iconst (v := iI 0) X.1 X.2.1 d_Ce_putReplyPart_69 (by decide) ?_
    refine lv_lconst (v := 0) X.1 X.2.1 d_Ce_putReplyPart_70 rfl ?_
    refine t_nv (t_runV (As := [.int (iI 0), .long 0]) (rest := []) (n := 2) X Y S k2 hml hl.1 (c_By_putNumber l D E T κ L f15 H.size b2 6144 k2 (by omega) 0 (by omega) (by omega) 0 S.1) (ok_k X Y hA KS KR) rfl kl_Ce_By_putNumber ks_By_putNumber kx_By_putNumber ki_By_putNumber ini_By ⟨rfl, rfl⟩ hd_By_putNumber ⟨Nat.le_of_ble_eq_true rfl, Nat.le_of_ble_eq_true rfl⟩ rfl (Nat.le_of_ble_eq_true rfl) d_Ce_putReplyPart_71 ⟨Nat.le_of_ble_eq_true rfl, Nat.le_of_ble_eq_true rfl⟩) X Y hA S (by decide) (fun f16 H locs Y S s16 p16 => ?_)
    refine lv_aload_n X.1 X.2.1 d_Ce_putReplyPart_74 rfl (lv_at hl 7 rfl) ?_
    refine lv_iconst (v := iI 1) X.1 X.2.1 d_Ce_putReplyPart_75 (by decide) ?_
    refine lv_aload_n X.1 X.2.1 d_Ce_putReplyPart_76 rfl (lv_at hl 5 rfl) ?_
    refine t_get0 (ci := 4) X Y S k0 rfl i_Ce 0 (by decide) rfl lk_Ce_18 (fun _ h9 => h9) d_Ce_putReplyPart_77 ((gF_same (s16.2.2.2 _ ⟨(t_obj S.1 k0).1, by rw [k0]; decide, by simp⟩).1 0).trans ((gF_same (s15.2.2.2 _ ⟨(t_obj S.1 k0).1, by rw [k0]; decide, by simp⟩).1 0).trans ((gF_same (s14.2.2.2 _ ⟨(t_obj S.1 k0).1, by rw [k0]; decide, by simp⟩).1 0).trans ((gF_same (s13.2.2.2 _ ⟨(t_obj S.1 k0).1, by rw [k0]; decide, by simp⟩).1 0).trans ((gF_same (s12.2.2.2 _ ⟨(t_obj S.1 k0).1, by rw [k0]; decide, by simp⟩).1 0).trans ((gF_same (s11.2.2.2 _ ⟨(t_obj S.1 k0).1, by rw [k0]; decide, by simp⟩).1 0).trans ((gF_same (s10.2.2.2 _ ⟨(t_obj S.1 k0).1, by rw [k0]; decide, by simp⟩).1 0).trans ((gF_same (s3.2.2.2 _ ⟨(t_obj S.1 k0).1, by rw [k0]; decide, by simp⟩).1 0).trans e1)))))))) ?_
    refine t_geti (ci := 11) X Y S k1 rfl i_Va 0 (by decide) rfl lk_Ce_112 (fun _ h9 => h9) d_Ce_putReplyPart_80 (fun z17 e17 l17 u17 => ?_)
    refine t_nv (t_runV (As := [.int (iI 1), .int (iI z17)]) (rest := []) (n := 2) X Y S k2 hml hl.1 (c_By_putTime l D E T κ L f16 H.size b2 6144 k2 (by omega) 1 (by omega) (by omega) z17 (by omega) (by omega) S.1) (ok_k X Y hA KS KR) rfl kl_Ce_By_putTime ks_By_putTime kx_By_putTime ki_By_putTime ini_By ⟨rfl, rfl⟩ hd_By_putTime ⟨Nat.le_of_ble_eq_true rfl, Nat.le_of_ble_eq_true rfl⟩ rfl (Nat.le_of_ble_eq_true rfl) d_Ce_putReplyPart_83 ⟨Nat.le_of_ble_eq_true rfl, Nat.le_of_ble_eq_true rfl⟩) X Y hA S (by decide) (fun f18 H locs Y S s18 p18 => ?_)
    refine lv_aload_n X.1 X.2.1 d_Ce_putReplyPart_86 rfl (lv_at hl 7 rfl) ?_
    refine lv_iload X.1 X.2.1 d_Ce_putReplyPart_87 (lv_at hl 0 rfl) ?_
    refine t_nv (t_runV (As := [.int (iI z15)]) (rest := []) (n := 1) X Y S k2 hml hl.1 (c_By_close l D E T κ L f18 H.size b2 6144 k2 (by omega) z15 (by omega) (by omega) S.1) (ok_k X Y hA KS KR) rfl kl_Ce_By_close ks_By_close kx_By_close ki_By_close ini_By ⟨rfl, rfl⟩ hd_By_close ⟨Nat.le_of_ble_eq_true rfl, Nat.le_of_ble_eq_true rfl⟩ rfl (Nat.le_of_ble_eq_true rfl) d_Ce_putReplyPart_89 ⟨Nat.le_of_ble_eq_true rfl, Nat.le_of_ble_eq_true rfl⟩) X Y hA S (by decide) (fun f19 H locs Y S s19 p19 => ?_)
    refine lv_aload_n X.1 X.2.1 d_Ce_putReplyPart_92 rfl (lv_at hl 7 rfl) ?_
    refine lv_iload X.1 X.2.1 d_Ce_putReplyPart_93 (lv_at hl 1 rfl) ?_
    refine t_nv (t_runV (As := [.int (iI z14)]) (rest := []) (n := 1) X Y S k2 hml hl.1 (c_By_close l D E T κ L f19 H.size b2 6144 k2 (by omega) z14 (by omega) (by omega) S.1) (ok_k X Y hA KS KR) rfl kl_Ce_By_close ks_By_close kx_By_close ki_By_close ini_By ⟨rfl, rfl⟩ hd_By_close ⟨Nat.le_of_ble_eq_true rfl, Nat.le_of_ble_eq_true rfl⟩ rfl (Nat.le_of_ble_eq_true rfl) d_Ce_putReplyPart_95 ⟨Nat.le_of_ble_eq_true rfl, Nat.le_of_ble_eq_true rfl⟩) X Y hA S (by decide) (fun f20 H locs Y S s20 p20 => ?_)
    refine lv_aload_n X.1 X.2.1 d_Ce_putReplyPart_98 rfl (lv_at hl 7 rfl) ?_
    refine lv_iload X.1 X.2.1 d_Ce_putReplyPart_99 (lv_at hl 2 rfl) ?_
    refine t_nv (t_runV (As := [.int (iI z13)]) (rest := []) (n := 1) X Y S k2 hml hl.1 (c_By_close l D E T κ L f20 H.size b2 6144 k2 (by omega) z13 (by omega) (by omega) S.1) (ok_k X Y hA KS KR) rfl kl_Ce_By_close ks_By_close kx_By_close ki_By_close ini_By ⟨rfl, rfl⟩ hd_By_close ⟨Nat.le_of_ble_eq_true rfl, Nat.le_of_ble_eq_true rfl⟩ rfl (Nat.le_of_ble_eq_true rfl) d_Ce_putReplyPart_101 ⟨Nat.le_of_ble_eq_true rfl, Nat.le_of_ble_eq_true rfl⟩) X Y hA S (by decide) (fun f21 H locs Y S s21 p21 => ?_)
    refine lv_aload_n X.1 X.2.1 d_Ce_putReplyPart_104 rfl (lv_at hl 7 rfl) ?_
    refine lv_iconst (v := iI 2) X.1 X.2.1 d_Ce_putReplyPart_105 (by decide) ?_
    refine lv_aload_n X.1 X.2.1 d_Ce_putReplyPart_106 rfl (lv_at hl 5 rfl) ?_
    refine t_getr (ci := 4) X Y S k0 rfl i_Ce 3 (by decide) rfl (k1 := 13) (k2 := 4000) rfl rfl lk_Ce_30 (fun _ h9 => h9) d_Ce_putReplyPart_107 (fun b22 e22 k22 => ?_)
    refine lv_aload_n X.1 X.2.1 d_Ce_putReplyPart_110 rfl (lv_at hl 5 rfl) ?_
    refine t_get0 (ci := 4) X Y S k0 rfl i_Ce 3 (by decide) rfl lk_Ce_30 (fun _ h9 => h9) d_Ce_putReplyPart_111 e22 ?_
    refine lv_aload_n X.1 X.2.1 d_Ce_putReplyPart_114 rfl (lv_at hl 5 rfl) ?_
    refine t_geti (ci := 4) X Y S k0 rfl i_Ce 8 (by decide) rfl lk_Ce_81 (fun _ h9 => h9) d_Ce_putReplyPart_115 (fun z23 e23 l23 u23 => ?_)
    refine lv_bipush (v := iI 7) X.1 X.2.1 d_Ce_putReplyPart_118 (by decide) ?_
    refine t_ui (t_runV (As := [.int (iI z23), .int (iI 7)]) (rest := [.ref b22, .int (iI 2), .ref b2]) (n := 2) X Y S k22 hml hl.1 (c_By_field l D E T κ L f21 H.size b22 4000 k22 (by omega) z23 (by omega) (by omega) 7 (by omega) (by omega) S.1) (ok_k X Y hA KS KR) rfl kl_Ce_By_field ks_By_field kx_By_field ki_By_field ini_By ⟨rfl, rfl⟩ hd_By_field ⟨Nat.le_of_ble_eq_true rfl, Nat.le_of_ble_eq_true rfl⟩ rfl (Nat.le_of_ble_eq_true rfl) d_Ce_putReplyPart_120 ⟨Nat.le_of_ble_eq_true rfl, Nat.le_of_ble_eq_true rfl⟩) X Y hA (fun z24 H locs Y p24 => ?_)
    obtain ⟨l24, u24⟩ := p24
    refine t_nv (t_runV (As := [.int (iI 2), .ref b22, .int (iI z24)]) (rest := []) (n := 3) X Y S k2 hml hl.1 (c_By_putCopy l D E T κ L f21 H.size b2 6144 k2 (by omega) 2 (by omega) (by omega) b22 4000 k22 (by omega) z24 (by omega) (by omega) S.1) (ok_k X Y hA KS KR) rfl kl_Ce_By_putCopy ks_By_putCopy kx_By_putCopy ki_By_putCopy ini_By ⟨rfl, rfl⟩ hd_By_putCopy ⟨Nat.le_of_ble_eq_true rfl, Nat.le_of_ble_eq_true rfl⟩ rfl (Nat.le_of_ble_eq_true rfl) d_Ce_putReplyPart_123 ⟨Nat.le_of_ble_eq_true rfl, Nat.le_of_ble_eq_true rfl⟩) X Y hA S (by decide) (fun f25 H locs Y S s25 p25 => ?_)
    refine lv_aload_n X.1 X.2.1 d_Ce_putReplyPart_126 rfl (lv_at hl 7 rfl) ?_
    refine lv_iconst (v := iI 4) X.1 X.2.1 d_Ce_putReplyPart_127 (by decide) ?_
    refine lv_aload_n X.1 X.2.1 d_Ce_putReplyPart_128 rfl (lv_at hl 5 rfl) ?_
    refine t_geti (ci := 4) X Y S k0 rfl i_Ce 13 (by decide) rfl lk_Ce_247 (fun _ h9 => h9) d_Ce_putReplyPart_129 (fun z26 e26 l26 u26 => ?_)
    refine t_nv (t_runV (As := [.int (iI 4), .int (iI z26)]) (rest := []) (n := 2) X Y S k2 hml hl.1 (c_By_putBits l D E T κ L f25 H.size b2 6144 k2 (by omega) 4 (by omega) (by omega) z26 (by omega) (by omega) S.1) (ok_k X Y hA KS KR) rfl kl_Ce_By_putBits ks_By_putBits kx_By_putBits ki_By_putBits ini_By ⟨rfl, rfl⟩ hd_By_putBits ⟨Nat.le_of_ble_eq_true rfl, Nat.le_of_ble_eq_true rfl⟩ rfl (Nat.le_of_ble_eq_true rfl) d_Ce_putReplyPart_132 ⟨Nat.le_of_ble_eq_true rfl, Nat.le_of_ble_eq_true rfl⟩) X Y hA S (by decide) (fun f27 H locs Y S s27 p27 => ?_)
    refine lv_aload_n X.1 X.2.1 d_Ce_putReplyPart_135 rfl (lv_at hl 5 rfl) ?_
    refine lv_aload_n X.1 X.2.1 d_Ce_putReplyPart_136 rfl (lv_at hl 7 rfl) ?_
    refine t_nv (t_runV (As := [.ref b2]) (rest := []) (n := 1) X Y S k0 hml hl.1 (c_Ce_putTimes l D E T κ L f27 H.size h k0 b2 6144 k2 (by omega) S.1) (ok_k X Y hA KS KR) rfl kl_Ce_Ce_putTimes ks_Ce_putTimes kx_Ce_putTimes ki_Ce_putTimes ini_Ce ⟨rfl, rfl⟩ hd_Ce_putTimes ⟨Nat.le_of_ble_eq_true rfl, Nat.le_of_ble_eq_true rfl⟩ rfl (Nat.le_of_ble_eq_true rfl) d_Ce_putReplyPart_137 ⟨Nat.le_of_ble_eq_true rfl, Nat.le_of_ble_eq_true rfl⟩) X Y hA S (by decide) (fun f28 H locs Y S s28 p28 => ?_)
    refine lv_aload_n X.1 X.2.1 d_Ce_putReplyPart_140 rfl (lv_at hl 7 rfl) ?_
    refine lv_bipush (v := iI 9) X.1 X.2.1 d_Ce_putReplyPart_141 (by decide) ?_
    refine t_nv (t_runV (As := [.int (iI 9)]) (rest := []) (n := 1) X Y S k2 hml hl.1 (c_By_putRealm l D E T κ L f28 H.size b2 6144 k2 (by omega) 9 (by omega) (by omega) S.1) (ok_k X Y hA KS KR) rfl kl_Ce_By_putRealm ks_By_putRealm kx_By_putRealm ki_By_putRealm ini_By ⟨rfl, rfl⟩ hd_By_putRealm ⟨Nat.le_of_ble_eq_true rfl, Nat.le_of_ble_eq_true rfl⟩ rfl (Nat.le_of_ble_eq_true rfl) d_Ce_putReplyPart_143 ⟨Nat.le_of_ble_eq_true rfl, Nat.le_of_ble_eq_true rfl⟩) X Y hA S (by decide) (fun f29 H locs Y S s29 p29 => ?_)
    refine lv_aload_n X.1 X.2.1 d_Ce_putReplyPart_146 rfl (lv_at hl 7 rfl) ?_
    refine lv_bipush (v := iI 10) X.1 X.2.1 d_Ce_putReplyPart_147 (by decide) ?_
    refine lv_aload_n X.1 X.2.1 d_Ce_putReplyPart_149 rfl (lv_at hl 5 rfl) ?_
    refine t_get0 (ci := 4) X Y S k0 rfl i_Ce 3 (by decide) rfl lk_Ce_30 (fun _ h9 => h9) d_Ce_putReplyPart_150 ((gF_same (s29.2.2.2 _ ⟨(t_obj S.1 k0).1, by rw [k0]; decide, by simp⟩).1 3).trans ((gF_same (s28.2.2.2 _ ⟨(t_obj S.1 k0).1, by rw [k0]; decide, by simp⟩).1 3).trans ((gF_same (s27.2.2.2 _ ⟨(t_obj S.1 k0).1, by rw [k0]; decide, by simp⟩).1 3).trans ((gF_same (s25.2.2.2 _ ⟨(t_obj S.1 k0).1, by rw [k0]; decide, by simp⟩).1 3).trans e22)))) ?_
    refine lv_aload_n X.1 X.2.1 d_Ce_putReplyPart_153 rfl (lv_at hl 5 rfl) ?_
    refine t_get0 (ci := 4) X Y S k0 rfl i_Ce 3 (by decide) rfl lk_Ce_30 (fun _ h9 => h9) d_Ce_putReplyPart_154 ((gF_same (s29.2.2.2 _ ⟨(t_obj S.1 k0).1, by rw [k0]; decide, by simp⟩).1 3).trans ((gF_same (s28.2.2.2 _ ⟨(t_obj S.1 k0).1, by rw [k0]; decide, by simp⟩).1 3).trans ((gF_same (s27.2.2.2 _ ⟨(t_obj S.1 k0).1, by rw [k0]; decide, by simp⟩).1 3).trans ((gF_same (s25.2.2.2 _ ⟨(t_obj S.1 k0).1, by rw [k0]; decide, by simp⟩).1 3).trans e22)))) ?_
    refine lv_aload_n X.1 X.2.1 d_Ce_putReplyPart_157 rfl (lv_at hl 5 rfl) ?_
    refine t_get0 (ci := 4) X Y S k0 rfl i_Ce 8 (by decide) rfl lk_Ce_81 (fun _ h9 => h9) d_Ce_putReplyPart_158 ((gF_same (s29.2.2.2 _ ⟨(t_obj S.1 k0).1, by rw [k0]; decide, by simp⟩).1 8).trans ((gF_same (s28.2.2.2 _ ⟨(t_obj S.1 k0).1, by rw [k0]; decide, by simp⟩).1 8).trans ((gF_same (s27.2.2.2 _ ⟨(t_obj S.1 k0).1, by rw [k0]; decide, by simp⟩).1 8).trans ((gF_same (s25.2.2.2 _ ⟨(t_obj S.1 k0).1, by rw [k0]; decide, by simp⟩).1 8).trans e23)))) ?_
    refine lv_iconst (v := iI 3) X.1 X.2.1 d_Ce_putReplyPart_161 (by decide) ?_
    refine t_ui (t_runV (As := [.int (iI z23), .int (iI 3)]) (rest := [.ref b22, .int (iI 10), .ref b2]) (n := 2) X Y S k22 hml hl.1 (c_By_field l D E T κ L f29 H.size b22 4000 k22 (by omega) z23 (by omega) (by omega) 3 (by omega) (by omega) S.1) (ok_k X Y hA KS KR) rfl kl_Ce_By_field ks_By_field kx_By_field ki_By_field ini_By ⟨rfl, rfl⟩ hd_By_field ⟨Nat.le_of_ble_eq_true rfl, Nat.le_of_ble_eq_true rfl⟩ rfl (Nat.le_of_ble_eq_true rfl) d_Ce_putReplyPart_162 ⟨Nat.le_of_ble_eq_true rfl, Nat.le_of_ble_eq_true rfl⟩) X Y hA (fun z30 H locs Y p30 => ?_)
    obtain ⟨l30, u30⟩ := p30
    refine t_nv (t_runV (As := [.int (iI 10), .ref b22, .int (iI z30)]) (rest := []) (n := 3) X Y S k2 hml hl.1 (c_By_putCopy l D E T κ L f29 H.size b2 6144 k2 (by omega) 10 (by omega) (by omega) b22 4000 k22 (by omega) z30 (by omega) (by omega) S.1) (ok_k X Y hA KS KR) rfl kl_Ce_By_putCopy ks_By_putCopy kx_By_putCopy ki_By_putCopy ini_By ⟨rfl, rfl⟩ hd_By_putCopy ⟨Nat.le_of_ble_eq_true rfl, Nat.le_of_ble_eq_true rfl⟩ rfl (Nat.le_of_ble_eq_true rfl) d_Ce_putReplyPart_165 ⟨Nat.le_of_ble_eq_true rfl, Nat.le_of_ble_eq_true rfl⟩) X Y hA S (by decide) (fun f31 H locs Y S s31 p31 => ?_)
    refine lv_aload_n X.1 X.2.1 d_Ce_putReplyPart_168 rfl (lv_at hl 5 rfl) ?_
    refine lv_aload_n X.1 X.2.1 d_Ce_putReplyPart_169 rfl (lv_at hl 7 rfl) ?_
    refine lv_bipush (v := iI 11) X.1 X.2.1 d_Ce_putReplyPart_170 (by decide) ?_
    refine t_nv (t_runV (As := [.ref b2, .int (iI 11)]) (rest := []) (n := 2) X Y S k0 hml hl.1 (c_Ce_putAddresses l D E T κ L f31 H.size h k0 b2 6144 k2 (by omega) 11 (by omega) (by omega) S.1) (ok_k X Y hA KS KR) rfl kl_Ce_Ce_putAddresses ks_Ce_putAddresses kx_Ce_putAddresses ki_Ce_putAddresses ini_Ce ⟨rfl, rfl⟩ hd_Ce_putAddresses ⟨Nat.le_of_ble_eq_true rfl, Nat.le_of_ble_eq_true rfl⟩ rfl (Nat.le_of_ble_eq_true rfl) d_Ce_putReplyPart_172 ⟨Nat.le_of_ble_eq_true rfl, Nat.le_of_ble_eq_true rfl⟩) X Y hA S (by decide) (fun f32 H locs Y S s32 p32 => ?_)
    refine lv_aload_n X.1 X.2.1 d_Ce_putReplyPart_175 rfl (lv_at hl 7 rfl) ?_
    refine lv_iload X.1 X.2.1 d_Ce_putReplyPart_176 (lv_at hl 3 rfl) ?_
    refine t_nv (t_runV (As := [.int (iI z11)]) (rest := []) (n := 1) X Y S k2 hml hl.1 (c_By_close l D E T κ L f32 H.size b2 6144 k2 (by omega) z11 (by omega) (by omega) S.1) (ok_k X Y hA KS KR) rfl kl_Ce_By_close ks_By_close kx_By_close ki_By_close ini_By ⟨rfl, rfl⟩ hd_By_close ⟨Nat.le_of_ble_eq_true rfl, Nat.le_of_ble_eq_true rfl⟩ rfl (Nat.le_of_ble_eq_true rfl) d_Ce_putReplyPart_178 ⟨Nat.le_of_ble_eq_true rfl, Nat.le_of_ble_eq_true rfl⟩) X Y hA S (by decide) (fun f33 H locs Y S s33 p33 => ?_)
    refine lv_aload_n X.1 X.2.1 d_Ce_putReplyPart_181 rfl (lv_at hl 7 rfl) ?_
    refine lv_iload_n X.1 X.2.1 d_Ce_putReplyPart_182 rfl (lv_at hl 4 rfl) ?_
    refine t_nv (t_runV (As := [.int (iI z10)]) (rest := []) (n := 1) X Y S k2 hml hl.1 (c_By_close l D E T κ L f33 H.size b2 6144 k2 (by omega) z10 (by omega) (by omega) S.1) (ok_k X Y hA KS KR) rfl kl_Ce_By_close ks_By_close kx_By_close ki_By_close ini_By ⟨rfl, rfl⟩ hd_By_close ⟨Nat.le_of_ble_eq_true rfl, Nat.le_of_ble_eq_true rfl⟩ rfl (Nat.le_of_ble_eq_true rfl) d_Ce_putReplyPart_183 ⟨Nat.le_of_ble_eq_true rfl, Nat.le_of_ble_eq_true rfl⟩) X Y hA S (by decide) (fun f34 H locs Y S s34 p34 => ?_)
    exact c_retv hQQ X Y hr hlk ⟨rfl, S, trivial⟩ d_Ce_putReplyPart_186
  refine z_if_eq (tgt := 25) X.1 X.2.1 d_Ce_putReplyPart_17 (by decide) ⟨by omega, by omega⟩ (fun h35 => ?_) (fun h35 => ?_)
  · refine lv_bipush (v := iI 122) X.1 X.2.1 d_Ce_putReplyPart_25 (by decide) ?_
    exact J6 122 _ _ _ (by omega) (by omega) Y S (lv_sub hl [1, 2, 0] rfl)
  · refine lv_bipush (v := iI 121) X.1 X.2.1 d_Ce_putReplyPart_20 (by decide) ?_
    refine lv_goto (tgt := 27) X.1 X.2.1 d_Ce_putReplyPart_22 (by decide) ?_
    exact J6 121 _ _ _ (by omega) (by omega) Y S (lv_sub hl [1, 2, 0] rfl)
set_option maxHeartbeats 4000000 in
set_option maxRecDepth 100000 in
theorem c_Ce_sealReply (l : Launch) (D : va_G) (E : cE) (T : cT) (κ : tK) (L : List Nat) (f : pF) (sz : Nat) (h : Nat) (k0 : κ h = (14, 0)) (hw : tW E T κ L f) : Met l y_Ce_sealReply (k_Ce_sealReply :: lw_tg) (kRm 6 187 1 32) (va_Pc [.ref h] (kPre D E T L f sz)) (va_Qv (aPv E T [1, 2, 3, 4, 5, 6, 7, 8, 9, 10, 11, 12, 13, 14, 15, 16, 17, 18, 19, 20, 21] [] κ L f (fun (k : tK) (g : pF) => True)) (cPost D E (pA L sz)) (pA L sz)) 1 32 (pA L sz) := by
  refine k_enter (own := R_Ce) (by decide) rfl (Nat.le_of_ble_eq_true rfl) (fun p e s m below meth c ls AV QQ H locs hQQ X Y hA hin hr hlk hml hl KS KR => ?_)
  have hl : lv_has ls 2 [(0, .ref h)] := hl
  have S : tS E T (tFr κ L [1, 2, 3, 4, 5, 6, 7, 8, 9, 10, 11, 12, 13, 14, 15, 16, 17, 18, 19, 20, 21] []) κ L f κ L f := tS_rf hw
  have hF0 : ∀ b, tFr κ L [1, 2, 3, 4, 5, 6, 7, 8, 9, 10, 11, 12, 13, 14, 15, 16, 17, 18, 19, 20, 21] [] b → b ∈ L := fun b h9 => h9.1
  refine lv_aload_n X.1 X.2.1 d_Ce_sealReply_0 rfl (lv_at hl 0 rfl) ?_
  refine t_geti (ci := 4) X Y S k0 rfl i_Ce 6 (by decide) rfl lk_Ce_65 (fun _ h9 => h9) d_Ce_sealReply_1 (fun z1 e1 l1 u1 => ?_)
  refine z_if_eq (tgt := 39) X.1 X.2.1 d_Ce_sealReply_4 (by decide) ⟨by omega, by omega⟩ (fun h2 => ?_) (fun h2 => ?_)
  · refine lv_aload_n X.1 X.2.1 d_Ce_sealReply_39 rfl (lv_at hl 0 rfl) ?_
    refine t_getr (ci := 4) X Y S k0 rfl i_Ce 1 (by decide) rfl (k1 := 15) (k2 := 0) rfl rfl lk_Ce_22 (fun _ h9 => h9) d_Ce_sealReply_40 (fun b3 e3 k3 => ?_)
    refine t_getr (ci := 5) X Y S k3 rfl i_Ga 2 (by decide) rfl (k1 := 13) (k2 := 4000) rfl rfl lk_Ce_181 (fun _ h9 => h9) d_Ce_sealReply_43 (fun b4 e4 k4 => ?_)
    refine lv_aload_n X.1 X.2.1 d_Ce_sealReply_46 rfl (lv_at hl 0 rfl) ?_
    refine t_get0 (ci := 4) X Y S k0 rfl i_Ce 1 (by decide) rfl lk_Ce_22 (fun _ h9 => h9) d_Ce_sealReply_47 e3 ?_
    refine t_get0 (ci := 5) X Y S k3 rfl i_Ga 2 (by decide) rfl lk_Ce_181 (fun _ h9 => h9) d_Ce_sealReply_50 e4 ?_
    refine lv_iconst (v := iI 0) X.1 X.2.1 d_Ce_sealReply_53 (by decide) ?_
    refine lv_bipush (v := iI 6) X.1 X.2.1 d_Ce_sealReply_54 (by decide) ?_
    refine t_ui (t_runV (As := [.int (iI 0), .int (iI 6)]) (rest := [.ref b4]) (n := 2) X Y S k4 hml hl.1 (c_By_field l D E T κ L f H.size b4 4000 k4 (by omega) 0 (by omega) (by omega) 6 (by omega) (by omega) S.1) (ok_k X Y hA KS KR) rfl kl_Ce_By_field ks_By_field kx_By_field ki_By_field ini_By ⟨rfl, rfl⟩ hd_By_field ⟨Nat.le_of_ble_eq_true rfl, Nat.le_of_ble_eq_true rfl⟩ rfl (Nat.le_of_ble_eq_true rfl) d_Ce_sealReply_56 ⟨Nat.le_of_ble_eq_true rfl, Nat.le_of_ble_eq_true rfl⟩) X Y hA (fun z5 H locs Y p5 => ?_)
    obtain ⟨l5, u5⟩ := p5
    refine t_ar (x_runS (As := [.ref b4, .int (iI z5)]) (rest := []) (n := 2) X hml hl.1 (c_Va_keyAt l D E T κ L f H.size b4 4000 k4 (by omega) z5 (by omega) (by omega) S.1) (ok_k X Y hA KS KR) kl_Ce_Va_keyAt ks_Va_keyAt ki_Va_keyAt ini_Va ⟨rfl, rfl⟩ hd_Va_keyAt.2 ⟨Nat.le_of_ble_eq_true rfl, Nat.le_of_ble_eq_true rfl⟩ rfl (Nat.le_of_ble_eq_true rfl) d_Ce_sealReply_59 ⟨Nat.le_of_ble_eq_true rfl, Nat.le_of_ble_eq_true rfl⟩) X Y hA S (by decide) (fun b6 κ6 L6 f6 H locs Y S s6 p6 => ?_)
    obtain ⟨n6, k6⟩ := p6
    have x6 := tKey_n k6
    have k7 : κ6 h = (14, 0) := tLe_k s6.2.2.1 k0
    refine lv_astore_n (lv' := [(1, .ref b6), (0, .ref h)]) X.1 X.2.1 d_Ce_sealReply_62 rfl hl (by decide) rfl (fun ls hl => ?_)
    refine lv_aload_n X.1 X.2.1 d_Ce_sealReply_63 rfl (lv_at hl 0 rfl) ?_
    refine t_alen X Y S KS (tKey_src k6) (by omega) d_Ce_sealReply_64 ?_
    refine z_if_le (tgt := 86) X.1 X.2.1 d_Ce_sealReply_65 (by decide) ⟨by omega, by omega⟩ (fun h8 => ?_) (fun h8 => ?_)
    · refine lv_aload_n X.1 X.2.1 d_Ce_sealReply_86 rfl (lv_at hl 1 rfl) ?_
      refine t_getr (ci := 4) X Y S k7 rfl i_Ce 0 (by decide) rfl (k1 := 21) (k2 := 0) rfl rfl lk_Ce_18 (fun _ h9 => h9) d_Ce_sealReply_87 (fun b9 e9 k9 => ?_)
      refine lv_aload_n X.1 X.2.1 d_Ce_sealReply_90 rfl (lv_at hl 1 rfl) ?_
      refine t_getr (ci := 4) X Y S k7 rfl i_Ce 4 (by decide) rfl (k1 := 13) (k2 := 12288) rfl rfl lk_Ce_34 (fun _ h9 => h9) d_Ce_sealReply_91 (fun b10 e10 k10 => ?_)
      refine lv_aload_n X.1 X.2.1 d_Ce_sealReply_94 rfl (lv_at hl 1 rfl) ?_
      refine t_getr (ci := 4) X Y S k7 rfl i_Ce 1 (by decide) rfl (k1 := 15) (k2 := 0) rfl rfl lk_Ce_22 (fun _ h9 => h9) d_Ce_sealReply_95 (fun b11 e11 k11 => ?_)
      refine t_getk (ci := 5) X Y S k11 rfl i_Ga 3 (by decide) rfl lk_Ce_184 (fun _ h9 => h9) d_Ce_sealReply_98 (fun b12 n12 e12 k12 x12 => ?_)
      refine lv_bipush (v := iI 8) X.1 X.2.1 d_Ce_sealReply_101 (by decide) ?_
      refine lv_iconst (v := iI 0) X.1 X.2.1 d_Ce_sealReply_103 (by decide) ?_
      refine t_nv (t_runV (As := [.ref b10, .ref b12, .int (iI 8), .int (iI 0)]) (rest := []) (n := 4) X Y S k9 hml hl.1 (c_Va_putSealed l D E T κ6 L6 f6 H.size b9 k9 b10 12288 k10 (by omega) b12 n12 k12 (by omega) 8 (by omega) (by omega) 0 (by omega) (by omega) S.1) (ok_k X Y hA KS KR) rfl kl_Ce_Va_putSealed ks_Va_putSealed kx_Va_putSealed ki_Va_putSealed ini_Va ⟨rfl, rfl⟩ hd_Va_putSealed ⟨Nat.le_of_ble_eq_true rfl, Nat.le_of_ble_eq_true rfl⟩ rfl (Nat.le_of_ble_eq_true rfl) d_Ce_sealReply_104 ⟨Nat.le_of_ble_eq_true rfl, Nat.le_of_ble_eq_true rfl⟩) X Y hA S (by decide) (fun f13 H locs Y S s13 p13 => ?_)
      exact c_retv hQQ X Y hr hlk ⟨κ6, S, trivial⟩ d_Ce_sealReply_107
    · refine lv_aload_n X.1 X.2.1 d_Ce_sealReply_68 rfl (lv_at hl 1 rfl) ?_
      refine t_getr (ci := 4) X Y S k7 rfl i_Ce 0 (by decide) rfl (k1 := 21) (k2 := 0) rfl rfl lk_Ce_18 (fun _ h9 => h9) d_Ce_sealReply_69 (fun b14 e14 k14 => ?_)
      refine lv_aload_n X.1 X.2.1 d_Ce_sealReply_72 rfl (lv_at hl 1 rfl) ?_
      refine t_getr (ci := 4) X Y S k7 rfl i_Ce 4 (by decide) rfl (k1 := 13) (k2 := 12288) rfl rfl lk_Ce_34 (fun _ h9 => h9) d_Ce_sealReply_73 (fun b15 e15 k15 => ?_)
      refine lv_aload_n X.1 X.2.1 d_Ce_sealReply_76 rfl (lv_at hl 0 rfl) ?_
      refine lv_bipush (v := iI 9) X.1 X.2.1 d_Ce_sealReply_77 (by decide) ?_
      refine lv_iconst (v := iI 0) X.1 X.2.1 d_Ce_sealReply_79 (by decide) ?_
      refine t_nv (t_runV (As := [.ref b15, .ref b6, .int (iI 9), .int (iI 0)]) (rest := []) (n := 4) X Y S k14 hml hl.1 (c_Va_putSealed l D E T κ6 L6 f6 H.size b14 k14 b15 12288 k15 (by omega) b6 n6 k6 (by omega) 9 (by omega) (by omega) 0 (by omega) (by omega) S.1) (ok_k X Y hA KS KR) rfl kl_Ce_Va_putSealed ks_Va_putSealed kx_Va_putSealed ki_Va_putSealed ini_Va ⟨rfl, rfl⟩ hd_Va_putSealed ⟨Nat.le_of_ble_eq_true rfl, Nat.le_of_ble_eq_true rfl⟩ rfl (Nat.le_of_ble_eq_true rfl) d_Ce_sealReply_80 ⟨Nat.le_of_ble_eq_true rfl, Nat.le_of_ble_eq_true rfl⟩) X Y hA S (by decide) (fun f16 H locs Y S s16 p16 => ?_)
      refine lv_goto (tgt := 107) X.1 X.2.1 d_Ce_sealReply_83 (by decide) ?_
      exact c_retv hQQ X Y hr hlk ⟨κ6, S, trivial⟩ d_Ce_sealReply_107
  · refine lv_aload_n X.1 X.2.1 d_Ce_sealReply_7 rfl (lv_at hl 0 rfl) ?_
    refine t_getr (ci := 4) X Y S k0 rfl i_Ce 0 (by decide) rfl (k1 := 21) (k2 := 0) rfl rfl lk_Ce_18 (fun _ h9 => h9) d_Ce_sealReply_8 (fun b17 e17 k17 => ?_)
    refine lv_aload_n X.1 X.2.1 d_Ce_sealReply_11 rfl (lv_at hl 0 rfl) ?_
    refine t_getr (ci := 4) X Y S k0 rfl i_Ce 4 (by decide) rfl (k1 := 13) (k2 := 12288) rfl rfl lk_Ce_34 (fun _ h9 => h9) d_Ce_sealReply_12 (fun b18 e18 k18 => ?_)
    refine lv_aload_n X.1 X.2.1 d_Ce_sealReply_15 rfl (lv_at hl 0 rfl) ?_
    refine t_getr (ci := 4) X Y S k0 rfl i_Ce 10 (by decide) rfl (k1 := 17) (k2 := 0) rfl rfl lk_Ce_37 (fun _ h9 => h9) d_Ce_sealReply_16 (fun b19 e19 k19 => ?_)
    refine lv_aload_n X.1 X.2.1 d_Ce_sealReply_19 rfl (lv_at hl 0 rfl) ?_
    refine t_geti (ci := 4) X Y S k0 rfl i_Ce 12 (by decide) rfl lk_Ce_157 (fun _ h9 => h9) d_Ce_sealReply_20 (fun z20 e20 l20 u20 => ?_)
    refine lv_i2l X.1 X.2.1 d_Ce_sealReply_23 rfl ?_
    refine t_anyl (fun v21 => ?_)
    refine t_ur (t_runV (As := [.long v21]) (rest := [.ref b18, .ref b17]) (n := 1) X Y S k19 hml hl.1 (c_Pr_latestKey l D E T κ L f H.size b19 k19 v21 S.1) (ok_k X Y hA KS KR) rfl kl_Ce_Pr_latestKey ks_Pr_latestKey kx_Pr_latestKey ki_Pr_latestKey ini_Pr ⟨rfl, rfl⟩ hd_Pr_latestKey ⟨Nat.le_of_ble_eq_true rfl, Nat.le_of_ble_eq_true rfl⟩ rfl (Nat.le_of_ble_eq_true rfl) d_Ce_sealReply_24 ⟨Nat.le_of_ble_eq_true rfl, Nat.le_of_ble_eq_true rfl⟩) X Y hA (fun b22 H locs Y p22 => ?_)
    obtain ⟨n22, k22⟩ := p22
    have x22 := tKey_n k22
    refine lv_iconst (v := iI 3) X.1 X.2.1 d_Ce_sealReply_27 (by decide) ?_
    refine lv_aload_n X.1 X.2.1 d_Ce_sealReply_28 rfl (lv_at hl 0 rfl) ?_
    refine t_get0 (ci := 4) X Y S k0 rfl i_Ce 10 (by decide) rfl lk_Ce_37 (fun _ h9 => h9) d_Ce_sealReply_29 e19 ?_
    refine t_geti (ci := 7) X Y S k19 rfl i_Pr 3 (by decide) rfl lk_Ce_331 (fun _ h9 => h9) d_Ce_sealReply_32 (fun z23 e23 l23 u23 => ?_)
    refine t_nv (t_runV (As := [.ref b18, .ref b22, .int (iI 3), .int (iI z23)]) (rest := []) (n := 4) X Y S k17 hml hl.1 (c_Va_putSealed l D E T κ L f H.size b17 k17 b18 12288 k18 (by omega) b22 n22 k22 (by omega) 3 (by omega) (by omega) z23 (by omega) (by omega) S.1) (ok_k X Y hA KS KR) rfl kl_Ce_Va_putSealed ks_Va_putSealed kx_Va_putSealed ki_Va_putSealed ini_Va ⟨rfl, rfl⟩ hd_Va_putSealed ⟨Nat.le_of_ble_eq_true rfl, Nat.le_of_ble_eq_true rfl⟩ rfl (Nat.le_of_ble_eq_true rfl) d_Ce_sealReply_35 ⟨Nat.le_of_ble_eq_true rfl, Nat.le_of_ble_eq_true rfl⟩) X Y hA S (by decide) (fun f24 H locs Y S s24 p24 => ?_)
    refine W.widen (k := 1) (n := 32) (Nat.le_of_ble_eq_true rfl) (Nat.le_of_ble_eq_true rfl) ?_
    exact c_retv hQQ X Y hr hlk ⟨κ, S, trivial⟩ d_Ce_sealReply_38
set_option maxHeartbeats 4000000 in
set_option maxRecDepth 100000 in
theorem c_Ce_putTypeInfo (l : Launch) (D : va_G) (E : cE) (T : cT) (κ : tK) (L : List Nat) (f : pF) (sz : Nat) (h : Nat) (k0 : κ h = (14, 0)) (a1 : Int) (l_a1 : (-2147483648) ≤ a1) (u_a1 : a1 ≤ 2147483647) (hw : tW E T κ L f) : Met l y_Ce_putTypeInfo (k_Ce_putTypeInfo :: lw_tg) (kRm 6 137 0 0) (va_Pc [.ref h, .int (iI a1)] (kPre D E T L f sz)) (va_Qv (nPv E T [1, 13] κ L f (fun (g : pF) => True)) (cPost D E (pA L sz)) (pA L sz)) 0 0 (pA L sz) := by
  refine k_enter (own := R_Ce) (by decide) rfl (Nat.le_of_ble_eq_true rfl) (fun p e s m below meth c ls AV QQ H locs hQQ X Y hA hin hr hlk hml hl KS KR => ?_)
  have hl : lv_has ls 7 [(0, .ref h), (1, .int (iI a1))] := hl
  have S : tS E T (tFr κ L [1, 13] []) κ L f κ L f := tS_rf hw
  refine lv_aload_n X.1 X.2.1 d_Ce_putTypeInfo_0 rfl (lv_at hl 0 rfl) ?_
  refine t_getr (ci := 4) X Y S k0 rfl i_Ce 4 (by decide) rfl (k1 := 13) (k2 := 12288) rfl rfl lk_Ce_34 (fun _ h9 => h9) d_Ce_putTypeInfo_1 (fun b1 e1 k1 => ?_)
  refine lv_bipush (v := iI 48) X.1 X.2.1 d_Ce_putTypeInfo_4 (by decide) ?_
  refine t_ni (t_runV (As := [.int (iI 48)]) (rest := []) (n := 1) X Y S k1 hml hl.1 (c_By_open l D E T κ L f H.size b1 12288 k1 (by omega) 48 (by omega) (by omega) S.1) (ok_k X Y hA KS KR) rfl kl_Ce_By_open ks_By_open kx_By_open ki_By_open ini_By ⟨rfl, rfl⟩ hd_By_open ⟨Nat.le_of_ble_eq_true rfl, Nat.le_of_ble_eq_true rfl⟩ rfl (Nat.le_of_ble_eq_true rfl) d_Ce_putTypeInfo_6 ⟨Nat.le_of_ble_eq_true rfl, Nat.le_of_ble_eq_true rfl⟩) X Y hA S (by decide) (fun z2 f2 H locs Y S s2 p2 => ?_)
  obtain ⟨l2, u2⟩ := p2
  refine lv_istore_n (lv' := [(2, .int (iI z2)), (0, .ref h), (1, .int (iI a1))]) X.1 X.2.1 d_Ce_putTypeInfo_9 rfl hl (by decide) rfl (fun ls hl => ?_)
  refine lv_aload_n X.1 X.2.1 d_Ce_putTypeInfo_10 rfl (lv_at hl 1 rfl) ?_
  refine t_get0 (ci := 4) X Y S k0 rfl i_Ce 4 (by decide) rfl lk_Ce_34 (fun _ h9 => h9) d_Ce_putTypeInfo_11 ((gF_same (s2.2.2.2 _ ⟨(t_obj S.1 k0).1, by rw [k0]; decide, by simp⟩).1 4).trans e1) ?_
  refine lv_iconst (v := iI 0) X.1 X.2.1 d_Ce_putTypeInfo_14 (by decide) ?_
  refine lv_iload_n X.1 X.2.1 d_Ce_putTypeInfo_15 rfl (lv_at hl 2 rfl) ?_
  refine lv_i2l X.1 X.2.1 d_Ce_putTypeInfo_16 rfl ?_
  refine t_anyl (fun v3 => ?_)
  refine t_nv (t_runV (As := [.int (iI 0), .long v3]) (rest := []) (n := 2) X Y S k1 hml hl.1 (c_By_putNumber l D E T κ L f2 H.size b1 12288 k1 (by omega) 0 (by omega) (by omega) v3 S.1) (ok_k X Y hA KS KR) rfl kl_Ce_By_putNumber ks_By_putNumber kx_By_putNumber ki_By_putNumber ini_By ⟨rfl, rfl⟩ hd_By_putNumber ⟨Nat.le_of_ble_eq_true rfl, Nat.le_of_ble_eq_true rfl⟩ rfl (Nat.le_of_ble_eq_true rfl) d_Ce_putTypeInfo_17 ⟨Nat.le_of_ble_eq_true rfl, Nat.le_of_ble_eq_true rfl⟩) X Y hA S (by decide) (fun f4 H locs Y S s4 p4 => ?_)
  refine lv_aload_n X.1 X.2.1 d_Ce_putTypeInfo_20 rfl (lv_at hl 1 rfl) ?_
  refine t_get0 (ci := 4) X Y S k0 rfl i_Ce 4 (by decide) rfl lk_Ce_34 (fun _ h9 => h9) d_Ce_putTypeInfo_21 ((gF_same (s4.2.2.2 _ ⟨(t_obj S.1 k0).1, by rw [k0]; decide, by simp⟩).1 4).trans ((gF_same (s2.2.2.2 _ ⟨(t_obj S.1 k0).1, by rw [k0]; decide, by simp⟩).1 4).trans e1)) ?_
  refine lv_iconst (v := iI 1) X.1 X.2.1 d_Ce_putTypeInfo_24 (by decide) ?_
  refine t_ni (t_runV (As := [.int (iI 1)]) (rest := []) (n := 1) X Y S k1 hml hl.1 (c_By_openField l D E T κ L f4 H.size b1 12288 k1 (by omega) 1 (by omega) (by omega) S.1) (ok_k X Y hA KS KR) rfl kl_Ce_By_openField ks_By_openField kx_By_openField ki_By_openField ini_By ⟨rfl, rfl⟩ hd_By_openField ⟨Nat.le_of_ble_eq_true rfl, Nat.le_of_ble_eq_true rfl⟩ rfl (Nat.le_of_ble_eq_true rfl) d_Ce_putTypeInfo_25 ⟨Nat.le_of_ble_eq_true rfl, Nat.le_of_ble_eq_true rfl⟩) X Y hA S (by decide) (fun z5 f5 H locs Y S s5 p5 => ?_)
  obtain ⟨l5, u5⟩ := p5
  refine lv_istore_n (lv' := [(3, .int (iI z5)), (2, .int (iI z2)), (0, .ref h), (1, .int (iI a1))]) X.1 X.2.1 d_Ce_putTypeInfo_28 rfl hl (by decide) rfl (fun ls hl => ?_)
  refine lv_aload_n X.1 X.2.1 d_Ce_putTypeInfo_29 rfl (lv_at hl 2 rfl) ?_
  refine t_get0 (ci := 4) X Y S k0 rfl i_Ce 4 (by decide) rfl lk_Ce_34 (fun _ h9 => h9) d_Ce_putTypeInfo_30 ((gF_same (s5.2.2.2 _ ⟨(t_obj S.1 k0).1, by rw [k0]; decide, by simp⟩).1 4).trans ((gF_same (s4.2.2.2 _ ⟨(t_obj S.1 k0).1, by rw [k0]; decide, by simp⟩).1 4).trans ((gF_same (s2.2.2.2 _ ⟨(t_obj S.1 k0).1, by rw [k0]; decide, by simp⟩).1 4).trans e1))) ?_
  refine lv_bipush (v := iI 27) X.1 X.2.1 d_Ce_putTypeInfo_33 (by decide) ?_
  refine t_ni (t_runV (As := [.int (iI 27)]) (rest := []) (n := 1) X Y S k1 hml hl.1 (c_By_open l D E T κ L f5 H.size b1 12288 k1 (by omega) 27 (by omega) (by omega) S.1) (ok_k X Y hA KS KR) rfl kl_Ce_By_open ks_By_open kx_By_open ki_By_open ini_By ⟨rfl, rfl⟩ hd_By_open ⟨Nat.le_of_ble_eq_true rfl, Nat.le_of_ble_eq_true rfl⟩ rfl (Nat.le_of_ble_eq_true rfl) d_Ce_putTypeInfo_35 ⟨Nat.le_of_ble_eq_true rfl, Nat.le_of_ble_eq_true rfl⟩) X Y hA S (by decide) (fun z6 f6 H locs Y S s6 p6 => ?_)
  obtain ⟨l6, u6⟩ := p6
  refine lv_istore (lv' := [(4, .int (iI z6)), (3, .int (iI z5)), (2, .int (iI z2)), (0, .ref h), (1, .int (iI a1))]) X.1 X.2.1 d_Ce_putTypeInfo_38 hl (by decide) rfl (fun ls hl => ?_)
  refine lv_aload_n X.1 X.2.1 d_Ce_putTypeInfo_40 rfl (lv_at hl 3 rfl) ?_
  refine t_get0 (ci := 4) X Y S k0 rfl i_Ce 4 (by decide) rfl lk_Ce_34 (fun _ h9 => h9) d_Ce_putTypeInfo_41 ((gF_same (s6.2.2.2 _ ⟨(t_obj S.1 k0).1, by rw [k0]; decide, by simp⟩).1 4).trans ((gF_same (s5.2.2.2 _ ⟨(t_obj S.1 k0).1, by rw [k0]; decide, by simp⟩).1 4).trans ((gF_same (s4.2.2.2 _ ⟨(t_obj S.1 k0).1, by rw [k0]; decide, by simp⟩).1 4).trans ((gF_same (s2.2.2.2 _ ⟨(t_obj S.1 k0).1, by rw [k0]; decide, by simp⟩).1 4).trans e1)))) ?_
  refine lv_aload_n X.1 X.2.1 d_Ce_putTypeInfo_44 rfl (lv_at hl 3 rfl) ?_
  refine t_getr (ci := 4) X Y S k0 rfl i_Ce 10 (by decide) rfl (k1 := 17) (k2 := 0) rfl rfl lk_Ce_37 (fun _ h9 => h9) d_Ce_putTypeInfo_45 (fun b7 e7 k7 => ?_)
  refine t_getr (ci := 7) X Y S k7 rfl i_Pr 0 (by decide) rfl (k1 := 13) (k2 := 40) rfl rfl lk_Ce_350 (fun _ h9 => h9) d_Ce_putTypeInfo_48 (fun b8 e8 k8 => ?_)
  refine t_nv (x_runS (As := [.ref b1, .ref b8]) (rest := []) (n := 2) X hml hl.1 (c_Va_putSalt l D E T κ L f6 H.size b1 12288 k1 (by omega) b8 40 k8 (by omega) S.1) (ok_k X Y hA KS KR) kl_Ce_Va_putSalt ks_Va_putSalt ki_Va_putSalt ini_Va ⟨rfl, rfl⟩ hd_Va_putSalt.2 ⟨Nat.le_of_ble_eq_true rfl, Nat.le_of_ble_eq_true rfl⟩ rfl (Nat.le_of_ble_eq_true rfl) d_Ce_putTypeInfo_51 ⟨Nat.le_of_ble_eq_true rfl, Nat.le_of_ble_eq_true rfl⟩) X Y hA S (by decide) (fun f9 H locs Y S s9 p9 => ?_)
  refine lv_aload_n X.1 X.2.1 d_Ce_putTypeInfo_54 rfl (lv_at hl 3 rfl) ?_
  refine t_get0 (ci := 4) X Y S k0 rfl i_Ce 4 (by decide) rfl lk_Ce_34 (fun _ h9 => h9) d_Ce_putTypeInfo_55 ((gF_same (s9.2.2.2 _ ⟨(t_obj S.1 k0).1, by rw [k0]; decide, by simp⟩).1 4).trans ((gF_same (s6.2.2.2 _ ⟨(t_obj S.1 k0).1, by rw [k0]; decide, by simp⟩).1 4).trans ((gF_same (s5.2.2.2 _ ⟨(t_obj S.1 k0).1, by rw [k0]; decide, by simp⟩).1 4).trans ((gF_same (s4.2.2.2 _ ⟨(t_obj S.1 k0).1, by rw [k0]; decide, by simp⟩).1 4).trans ((gF_same (s2.2.2.2 _ ⟨(t_obj S.1 k0).1, by rw [k0]; decide, by simp⟩).1 4).trans e1))))) ?_
  refine lv_iload X.1 X.2.1 d_Ce_putTypeInfo_58 (lv_at hl 0 rfl) ?_
  refine t_nv (t_runV (As := [.int (iI z6)]) (rest := []) (n := 1) X Y S k1 hml hl.1 (c_By_close l D E T κ L f9 H.size b1 12288 k1 (by omega) z6 (by omega) (by omega) S.1) (ok_k X Y hA KS KR) rfl kl_Ce_By_close ks_By_close kx_By_close ki_By_close ini_By ⟨rfl, rfl⟩ hd_By_close ⟨Nat.le_of_ble_eq_true rfl, Nat.le_of_ble_eq_true rfl⟩ rfl (Nat.le_of_ble_eq_true rfl) d_Ce_putTypeInfo_60 ⟨Nat.le_of_ble_eq_true rfl, Nat.le_of_ble_eq_true rfl⟩) X Y hA S (by decide) (fun f10 H locs Y S s10 p10 => ?_)
  refine lv_aload_n X.1 X.2.1 d_Ce_putTypeInfo_63 rfl (lv_at hl 3 rfl) ?_
  refine t_get0 (ci := 4) X Y S k0 rfl i_Ce 4 (by decide) rfl lk_Ce_34 (fun _ h9 => h9) d_Ce_putTypeInfo_64 ((gF_same (s10.2.2.2 _ ⟨(t_obj S.1 k0).1, by rw [k0]; decide, by simp⟩).1 4).trans ((gF_same (s9.2.2.2 _ ⟨(t_obj S.1 k0).1, by rw [k0]; decide, by simp⟩).1 4).trans ((gF_same (s6.2.2.2 _ ⟨(t_obj S.1 k0).1, by rw [k0]; decide, by simp⟩).1 4).trans ((gF_same (s5.2.2.2 _ ⟨(t_obj S.1 k0).1, by rw [k0]; decide, by simp⟩).1 4).trans ((gF_same (s4.2.2.2 _ ⟨(t_obj S.1 k0).1, by rw [k0]; decide, by simp⟩).1 4).trans ((gF_same (s2.2.2.2 _ ⟨(t_obj S.1 k0).1, by rw [k0]; decide, by simp⟩).1 4).trans e1)))))) ?_
  refine lv_iload_n X.1 X.2.1 d_Ce_putTypeInfo_67 rfl (lv_at hl 1 rfl) ?_
  refine t_nv (t_runV (As := [.int (iI z5)]) (rest := []) (n := 1) X Y S k1 hml hl.1 (c_By_close l D E T κ L f10 H.size b1 12288 k1 (by omega) z5 (by omega) (by omega) S.1) (ok_k X Y hA KS KR) rfl kl_Ce_By_close ks_By_close kx_By_close ki_By_close ini_By ⟨rfl, rfl⟩ hd_By_close ⟨Nat.le_of_ble_eq_true rfl, Nat.le_of_ble_eq_true rfl⟩ rfl (Nat.le_of_ble_eq_true rfl) d_Ce_putTypeInfo_68 ⟨Nat.le_of_ble_eq_true rfl, Nat.le_of_ble_eq_true rfl⟩) X Y hA S (by decide) (fun f11 H locs Y S s11 p11 => ?_)
  refine lv_aload_n X.1 X.2.1 d_Ce_putTypeInfo_71 rfl (lv_at hl 3 rfl) ?_
  refine t_get0 (ci := 4) X Y S k0 rfl i_Ce 4 (by decide) rfl lk_Ce_34 (fun _ h9 => h9) d_Ce_putTypeInfo_72 ((gF_same (s11.2.2.2 _ ⟨(t_obj S.1 k0).1, by rw [k0]; decide, by simp⟩).1 4).trans ((gF_same (s10.2.2.2 _ ⟨(t_obj S.1 k0).1, by rw [k0]; decide, by simp⟩).1 4).trans ((gF_same (s9.2.2.2 _ ⟨(t_obj S.1 k0).1, by rw [k0]; decide, by simp⟩).1 4).trans ((gF_same (s6.2.2.2 _ ⟨(t_obj S.1 k0).1, by rw [k0]; decide, by simp⟩).1 4).trans ((gF_same (s5.2.2.2 _ ⟨(t_obj S.1 k0).1, by rw [k0]; decide, by simp⟩).1 4).trans ((gF_same (s4.2.2.2 _ ⟨(t_obj S.1 k0).1, by rw [k0]; decide, by simp⟩).1 4).trans ((gF_same (s2.2.2.2 _ ⟨(t_obj S.1 k0).1, by rw [k0]; decide, by simp⟩).1 4).trans e1))))))) ?_
  refine lv_iconst (v := iI 2) X.1 X.2.1 d_Ce_putTypeInfo_75 (by decide) ?_
  refine t_ni (t_runV (As := [.int (iI 2)]) (rest := []) (n := 1) X Y S k1 hml hl.1 (c_By_openField l D E T κ L f11 H.size b1 12288 k1 (by omega) 2 (by omega) (by omega) S.1) (ok_k X Y hA KS KR) rfl kl_Ce_By_openField ks_By_openField kx_By_openField ki_By_openField ini_By ⟨rfl, rfl⟩ hd_By_openField ⟨Nat.le_of_ble_eq_true rfl, Nat.le_of_ble_eq_true rfl⟩ rfl (Nat.le_of_ble_eq_true rfl) d_Ce_putTypeInfo_76 ⟨Nat.le_of_ble_eq_true rfl, Nat.le_of_ble_eq_true rfl⟩) X Y hA S (by decide) (fun z12 f12 H locs Y S s12 p12 => ?_)
  obtain ⟨l12, u12⟩ := p12
  refine lv_istore (lv' := [(5, .int (iI z12)), (4, .int (iI z6)), (3, .int (iI z5)), (2, .int (iI z2)), (0, .ref h), (1, .int (iI a1))]) X.1 X.2.1 d_Ce_putTypeInfo_79 hl (by decide) rfl (fun ls hl => ?_)
  refine lv_aload_n X.1 X.2.1 d_Ce_putTypeInfo_81 rfl (lv_at hl 4 rfl) ?_
  refine t_get0 (ci := 4) X Y S k0 rfl i_Ce 4 (by decide) rfl lk_Ce_34 (fun _ h9 => h9) d_Ce_putTypeInfo_82 ((gF_same (s12.2.2.2 _ ⟨(t_obj S.1 k0).1, by rw [k0]; decide, by simp⟩).1 4).trans ((gF_same (s11.2.2.2 _ ⟨(t_obj S.1 k0).1, by rw [k0]; decide, by simp⟩).1 4).trans ((gF_same (s10.2.2.2 _ ⟨(t_obj S.1 k0).1, by rw [k0]; decide, by simp⟩).1 4).trans ((gF_same (s9.2.2.2 _ ⟨(t_obj S.1 k0).1, by rw [k0]; decide, by simp⟩).1 4).trans ((gF_same (s6.2.2.2 _ ⟨(t_obj S.1 k0).1, by rw [k0]; decide, by simp⟩).1 4).trans ((gF_same (s5.2.2.2 _ ⟨(t_obj S.1 k0).1, by rw [k0]; decide, by simp⟩).1 4).trans ((gF_same (s4.2.2.2 _ ⟨(t_obj S.1 k0).1, by rw [k0]; decide, by simp⟩).1 4).trans ((gF_same (s2.2.2.2 _ ⟨(t_obj S.1 k0).1, by rw [k0]; decide, by simp⟩).1 4).trans e1)))))))) ?_
  refine lv_iconst (v := iI 4) X.1 X.2.1 d_Ce_putTypeInfo_85 (by decide) ?_
  refine t_ni (t_runV (As := [.int (iI 4)]) (rest := []) (n := 1) X Y S k1 hml hl.1 (c_By_open l D E T κ L f12 H.size b1 12288 k1 (by omega) 4 (by omega) (by omega) S.1) (ok_k X Y hA KS KR) rfl kl_Ce_By_open ks_By_open kx_By_open ki_By_open ini_By ⟨rfl, rfl⟩ hd_By_open ⟨Nat.le_of_ble_eq_true rfl, Nat.le_of_ble_eq_true rfl⟩ rfl (Nat.le_of_ble_eq_true rfl) d_Ce_putTypeInfo_86 ⟨Nat.le_of_ble_eq_true rfl, Nat.le_of_ble_eq_true rfl⟩) X Y hA S (by decide) (fun z13 f13 H locs Y S s13 p13 => ?_)
  obtain ⟨l13, u13⟩ := p13
  refine lv_istore (lv' := [(6, .int (iI z13)), (5, .int (iI z12)), (4, .int (iI z6)), (3, .int (iI z5)), (2, .int (iI z2)), (0, .ref h), (1, .int (iI a1))]) X.1 X.2.1 d_Ce_putTypeInfo_89 hl (by decide) rfl (fun ls hl => ?_)
  refine lv_aload_n X.1 X.2.1 d_Ce_putTypeInfo_91 rfl (lv_at hl 5 rfl) ?_
  refine t_get0 (ci := 4) X Y S k0 rfl i_Ce 4 (by decide) rfl lk_Ce_34 (fun _ h9 => h9) d_Ce_putTypeInfo_92 ((gF_same (s13.2.2.2 _ ⟨(t_obj S.1 k0).1, by rw [k0]; decide, by simp⟩).1 4).trans ((gF_same (s12.2.2.2 _ ⟨(t_obj S.1 k0).1, by rw [k0]; decide, by simp⟩).1 4).trans ((gF_same (s11.2.2.2 _ ⟨(t_obj S.1 k0).1, by rw [k0]; decide, by simp⟩).1 4).trans ((gF_same (s10.2.2.2 _ ⟨(t_obj S.1 k0).1, by rw [k0]; decide, by simp⟩).1 4).trans ((gF_same (s9.2.2.2 _ ⟨(t_obj S.1 k0).1, by rw [k0]; decide, by simp⟩).1 4).trans ((gF_same (s6.2.2.2 _ ⟨(t_obj S.1 k0).1, by rw [k0]; decide, by simp⟩).1 4).trans ((gF_same (s5.2.2.2 _ ⟨(t_obj S.1 k0).1, by rw [k0]; decide, by simp⟩).1 4).trans ((gF_same (s4.2.2.2 _ ⟨(t_obj S.1 k0).1, by rw [k0]; decide, by simp⟩).1 4).trans ((gF_same (s2.2.2.2 _ ⟨(t_obj S.1 k0).1, by rw [k0]; decide, by simp⟩).1 4).trans e1))))))))) ?_
  refine lv_aload_n X.1 X.2.1 d_Ce_putTypeInfo_95 rfl (lv_at hl 5 rfl) ?_
  refine t_get0 (ci := 4) X Y S k0 rfl i_Ce 10 (by decide) rfl lk_Ce_37 (fun _ h9 => h9) d_Ce_putTypeInfo_96 ((gF_same (s13.2.2.2 _ ⟨(t_obj S.1 k0).1, by rw [k0]; decide, by simp⟩).1 10).trans ((gF_same (s12.2.2.2 _ ⟨(t_obj S.1 k0).1, by rw [k0]; decide, by simp⟩).1 10).trans ((gF_same (s11.2.2.2 _ ⟨(t_obj S.1 k0).1, by rw [k0]; decide, by simp⟩).1 10).trans ((gF_same (s10.2.2.2 _ ⟨(t_obj S.1 k0).1, by rw [k0]; decide, by simp⟩).1 10).trans ((gF_same (s9.2.2.2 _ ⟨(t_obj S.1 k0).1, by rw [k0]; decide, by simp⟩).1 10).trans e7))))) ?_
  refine t_geti (ci := 7) X Y S k7 rfl i_Pr 4 (by decide) rfl lk_Ce_357 (fun _ h9 => h9) d_Ce_putTypeInfo_99 (fun z14 e14 l14 u14 => ?_)
  refine t_nv (t_runV (As := [.int (iI z14)]) (rest := []) (n := 1) X Y S k1 hml hl.1 (c_By_putWord l D E T κ L f13 H.size b1 12288 k1 (by omega) z14 (by omega) (by omega) S.1) (ok_k X Y hA KS KR) rfl kl_Ce_By_putWord ks_By_putWord kx_By_putWord ki_By_putWord ini_By ⟨rfl, rfl⟩ hd_By_putWord ⟨Nat.le_of_ble_eq_true rfl, Nat.le_of_ble_eq_true rfl⟩ rfl (Nat.le_of_ble_eq_true rfl) d_Ce_putTypeInfo_102 ⟨Nat.le_of_ble_eq_true rfl, Nat.le_of_ble_eq_true rfl⟩) X Y hA S (by decide) (fun f15 H locs Y S s15 p15 => ?_)
  refine lv_aload_n X.1 X.2.1 d_Ce_putTypeInfo_105 rfl (lv_at hl 5 rfl) ?_
  refine t_get0 (ci := 4) X Y S k0 rfl i_Ce 4 (by decide) rfl lk_Ce_34 (fun _ h9 => h9) d_Ce_putTypeInfo_106 ((gF_same (s15.2.2.2 _ ⟨(t_obj S.1 k0).1, by rw [k0]; decide, by simp⟩).1 4).trans ((gF_same (s13.2.2.2 _ ⟨(t_obj S.1 k0).1, by rw [k0]; decide, by simp⟩).1 4).trans ((gF_same (s12.2.2.2 _ ⟨(t_obj S.1 k0).1, by rw [k0]; decide, by simp⟩).1 4).trans ((gF_same (s11.2.2.2 _ ⟨(t_obj S.1 k0).1, by rw [k0]; decide, by simp⟩).1 4).trans ((gF_same (s10.2.2.2 _ ⟨(t_obj S.1 k0).1, by rw [k0]; decide, by simp⟩).1 4).trans ((gF_same (s9.2.2.2 _ ⟨(t_obj S.1 k0).1, by rw [k0]; decide, by simp⟩).1 4).trans ((gF_same (s6.2.2.2 _ ⟨(t_obj S.1 k0).1, by rw [k0]; decide, by simp⟩).1 4).trans ((gF_same (s5.2.2.2 _ ⟨(t_obj S.1 k0).1, by rw [k0]; decide, by simp⟩).1 4).trans ((gF_same (s4.2.2.2 _ ⟨(t_obj S.1 k0).1, by rw [k0]; decide, by simp⟩).1 4).trans ((gF_same (s2.2.2.2 _ ⟨(t_obj S.1 k0).1, by rw [k0]; decide, by simp⟩).1 4).trans e1)))))))))) ?_
  refine lv_iload X.1 X.2.1 d_Ce_putTypeInfo_109 (lv_at hl 0 rfl) ?_
  refine t_nv (t_runV (As := [.int (iI z13)]) (rest := []) (n := 1) X Y S k1 hml hl.1 (c_By_close l D E T κ L f15 H.size b1 12288 k1 (by omega) z13 (by omega) (by omega) S.1) (ok_k X Y hA KS KR) rfl kl_Ce_By_close ks_By_close kx_By_close ki_By_close ini_By ⟨rfl, rfl⟩ hd_By_close ⟨Nat.le_of_ble_eq_true rfl, Nat.le_of_ble_eq_true rfl⟩ rfl (Nat.le_of_ble_eq_true rfl) d_Ce_putTypeInfo_111 ⟨Nat.le_of_ble_eq_true rfl, Nat.le_of_ble_eq_true rfl⟩) X Y hA S (by decide) (fun f16 H locs Y S s16 p16 => ?_)
  refine lv_aload_n X.1 X.2.1 d_Ce_putTypeInfo_114 rfl (lv_at hl 5 rfl) ?_
  refine t_get0 (ci := 4) X Y S k0 rfl i_Ce 4 (by decide) rfl lk_Ce_34 (fun _ h9 => h9) d_Ce_putTypeInfo_115 ((gF_same (s16.2.2.2 _ ⟨(t_obj S.1 k0).1, by rw [k0]; decide, by simp⟩).1 4).trans ((gF_same (s15.2.2.2 _ ⟨(t_obj S.1 k0).1, by rw [k0]; decide, by simp⟩).1 4).trans ((gF_same (s13.2.2.2 _ ⟨(t_obj S.1 k0).1, by rw [k0]; decide, by simp⟩).1 4).trans ((gF_same (s12.2.2.2 _ ⟨(t_obj S.1 k0).1, by rw [k0]; decide, by simp⟩).1 4).trans ((gF_same (s11.2.2.2 _ ⟨(t_obj S.1 k0).1, by rw [k0]; decide, by simp⟩).1 4).trans ((gF_same (s10.2.2.2 _ ⟨(t_obj S.1 k0).1, by rw [k0]; decide, by simp⟩).1 4).trans ((gF_same (s9.2.2.2 _ ⟨(t_obj S.1 k0).1, by rw [k0]; decide, by simp⟩).1 4).trans ((gF_same (s6.2.2.2 _ ⟨(t_obj S.1 k0).1, by rw [k0]; decide, by simp⟩).1 4).trans ((gF_same (s5.2.2.2 _ ⟨(t_obj S.1 k0).1, by rw [k0]; decide, by simp⟩).1 4).trans ((gF_same (s4.2.2.2 _ ⟨(t_obj S.1 k0).1, by rw [k0]; decide, by simp⟩).1 4).trans ((gF_same (s2.2.2.2 _ ⟨(t_obj S.1 k0).1, by rw [k0]; decide, by simp⟩).1 4).trans e1))))))))))) ?_
  refine lv_iload X.1 X.2.1 d_Ce_putTypeInfo_118 (lv_at hl 1 rfl) ?_
  refine t_nv (t_runV (As := [.int (iI z12)]) (rest := []) (n := 1) X Y S k1 hml hl.1 (c_By_close l D E T κ L f16 H.size b1 12288 k1 (by omega) z12 (by omega) (by omega) S.1) (ok_k X Y hA KS KR) rfl kl_Ce_By_close ks_By_close kx_By_close ki_By_close ini_By ⟨rfl, rfl⟩ hd_By_close ⟨Nat.le_of_ble_eq_true rfl, Nat.le_of_ble_eq_true rfl⟩ rfl (Nat.le_of_ble_eq_true rfl) d_Ce_putTypeInfo_120 ⟨Nat.le_of_ble_eq_true rfl, Nat.le_of_ble_eq_true rfl⟩) X Y hA S (by decide) (fun f17 H locs Y S s17 p17 => ?_)
  refine lv_aload_n X.1 X.2.1 d_Ce_putTypeInfo_123 rfl (lv_at hl 5 rfl) ?_
  refine t_get0 (ci := 4) X Y S k0 rfl i_Ce 4 (by decide) rfl lk_Ce_34 (fun _ h9 => h9) d_Ce_putTypeInfo_124 ((gF_same (s17.2.2.2 _ ⟨(t_obj S.1 k0).1, by rw [k0]; decide, by simp⟩).1 4).trans ((gF_same (s16.2.2.2 _ ⟨(t_obj S.1 k0).1, by rw [k0]; decide, by simp⟩).1 4).trans ((gF_same (s15.2.2.2 _ ⟨(t_obj S.1 k0).1, by rw [k0]; decide, by simp⟩).1 4).trans ((gF_same (s13.2.2.2 _ ⟨(t_obj S.1 k0).1, by rw [k0]; decide, by simp⟩).1 4).trans ((gF_same (s12.2.2.2 _ ⟨(t_obj S.1 k0).1, by rw [k0]; decide, by simp⟩).1 4).trans ((gF_same (s11.2.2.2 _ ⟨(t_obj S.1 k0).1, by rw [k0]; decide, by simp⟩).1 4).trans ((gF_same (s10.2.2.2 _ ⟨(t_obj S.1 k0).1, by rw [k0]; decide, by simp⟩).1 4).trans ((gF_same (s9.2.2.2 _ ⟨(t_obj S.1 k0).1, by rw [k0]; decide, by simp⟩).1 4).trans ((gF_same (s6.2.2.2 _ ⟨(t_obj S.1 k0).1, by rw [k0]; decide, by simp⟩).1 4).trans ((gF_same (s5.2.2.2 _ ⟨(t_obj S.1 k0).1, by rw [k0]; decide, by simp⟩).1 4).trans ((gF_same (s4.2.2.2 _ ⟨(t_obj S.1 k0).1, by rw [k0]; decide, by simp⟩).1 4).trans ((gF_same (s2.2.2.2 _ ⟨(t_obj S.1 k0).1, by rw [k0]; decide, by simp⟩).1 4).trans e1)))))))))))) ?_
  refine lv_iload_n X.1 X.2.1 d_Ce_putTypeInfo_127 rfl (lv_at hl 4 rfl) ?_
  refine t_nv (t_runV (As := [.int (iI z2)]) (rest := []) (n := 1) X Y S k1 hml hl.1 (c_By_close l D E T κ L f17 H.size b1 12288 k1 (by omega) z2 (by omega) (by omega) S.1) (ok_k X Y hA KS KR) rfl kl_Ce_By_close ks_By_close kx_By_close ki_By_close ini_By ⟨rfl, rfl⟩ hd_By_close ⟨Nat.le_of_ble_eq_true rfl, Nat.le_of_ble_eq_true rfl⟩ rfl (Nat.le_of_ble_eq_true rfl) d_Ce_putTypeInfo_128 ⟨Nat.le_of_ble_eq_true rfl, Nat.le_of_ble_eq_true rfl⟩) X Y hA S (by decide) (fun f18 H locs Y S s18 p18 => ?_)
  exact c_retv hQQ X Y hr hlk ⟨rfl, S, trivial⟩ d_Ce_putTypeInfo_131
set_option maxHeartbeats 4000000 in
set_option maxRecDepth 100000 in
theorem c_Ce_putInfo (l : Launch) (D : va_G) (E : cE) (T : cT) (κ : tK) (L : List Nat) (f : pF) (sz : Nat) (h : Nat) (k0 : κ h = (14, 0)) (a1 : Int) (l_a1 : 0 ≤ a1) (u_a1 : a1 ≤ 1) (hw : tW E T κ L f) : Met l y_Ce_putInfo (k_Ce_putInfo :: lw_tg) (kRm 7 163 0 0) (va_Pc [.ref h, .int (iI a1)] (kPre D E T L f sz)) (va_Qv (nPv E T [1, 13] κ L f (fun (g : pF) => True)) (cPost D E (pA L sz)) (pA L sz)) 0 0 (pA L sz) := by
  refine k_enter (own := R_Ce) (by decide) rfl (Nat.le_of_ble_eq_true rfl) (fun p e s m below meth c ls AV QQ H locs hQQ X Y hA hin hr hlk hml hl KS KR => ?_)
  have hl : lv_has ls 6 [(0, .ref h), (1, .int (iI a1))] := hl
  have S : tS E T (tFr κ L [1, 13] []) κ L f κ L f := tS_rf hw
  refine lv_aload_n X.1 X.2.1 d_Ce_putInfo_0 rfl (lv_at hl 0 rfl) ?_
  refine t_getr (ci := 4) X Y S k0 rfl i_Ce 4 (by decide) rfl (k1 := 13) (k2 := 12288) rfl rfl lk_Ce_34 (fun _ h9 => h9) d_Ce_putInfo_1 (fun b1 e1 k1 => ?_)
  refine lv_bipush (v := iI 48) X.1 X.2.1 d_Ce_putInfo_4 (by decide) ?_
  refine t_ni (t_runV (As := [.int (iI 48)]) (rest := []) (n := 1) X Y S k1 hml hl.1 (c_By_open l D E T κ L f H.size b1 12288 k1 (by omega) 48 (by omega) (by omega) S.1) (ok_k X Y hA KS KR) rfl kl_Ce_By_open ks_By_open kx_By_open ki_By_open ini_By ⟨rfl, rfl⟩ hd_By_open ⟨Nat.le_of_ble_eq_true rfl, Nat.le_of_ble_eq_true rfl⟩ rfl (Nat.le_of_ble_eq_true rfl) d_Ce_putInfo_6 ⟨Nat.le_of_ble_eq_true rfl, Nat.le_of_ble_eq_true rfl⟩) X Y hA S (by decide) (fun z2 f2 H locs Y S s2 p2 => ?_)
  obtain ⟨l2, u2⟩ := p2
  refine lv_istore_n (lv' := [(2, .int (iI z2)), (0, .ref h), (1, .int (iI a1))]) X.1 X.2.1 d_Ce_putInfo_9 rfl hl (by decide) rfl (fun ls hl => ?_)
  refine lv_aload_n X.1 X.2.1 d_Ce_putInfo_10 rfl (lv_at hl 1 rfl) ?_
  refine t_get0 (ci := 4) X Y S k0 rfl i_Ce 4 (by decide) rfl lk_Ce_34 (fun _ h9 => h9) d_Ce_putInfo_11 ((gF_same (s2.2.2.2 _ ⟨(t_obj S.1 k0).1, by rw [k0]; decide, by simp⟩).1 4).trans e1) ?_
  refine lv_iconst (v := iI 1) X.1 X.2.1 d_Ce_putInfo_14 (by decide) ?_
  refine lv_ldc2 (v := (19)) X.1 X.2.1 X.2.2.2.1 (X.2.2.1 _ cl_Ce_342) d_Ce_putInfo_15 ?_
  refine t_nv (t_runV (As := [.int (iI 1), .long ((19))]) (rest := []) (n := 2) X Y S k1 hml hl.1 (c_By_putNumber l D E T κ L f2 H.size b1 12288 k1 (by omega) 1 (by omega) (by omega) ((19)) S.1) (ok_k X Y hA KS KR) rfl kl_Ce_By_putNumber ks_By_putNumber kx_By_putNumber ki_By_putNumber ini_By ⟨rfl, rfl⟩ hd_By_putNumber ⟨Nat.le_of_ble_eq_true rfl, Nat.le_of_ble_eq_true rfl⟩ rfl (Nat.le_of_ble_eq_true rfl) d_Ce_putInfo_18 ⟨Nat.le_of_ble_eq_true rfl, Nat.le_of_ble_eq_true rfl⟩) X Y hA S (by decide) (fun f3 H locs Y S s3 p3 => ?_)
  refine lv_aload_n X.1 X.2.1 d_Ce_putInfo_21 rfl (lv_at hl 1 rfl) ?_
  refine t_get0 (ci := 4) X Y S k0 rfl i_Ce 4 (by decide) rfl lk_Ce_34 (fun _ h9 => h9) d_Ce_putInfo_22 ((gF_same (s3.2.2.2 _ ⟨(t_obj S.1 k0).1, by rw [k0]; decide, by simp⟩).1 4).trans ((gF_same (s2.2.2.2 _ ⟨(t_obj S.1 k0).1, by rw [k0]; decide, by simp⟩).1 4).trans e1)) ?_
  refine lv_iconst (v := iI 2) X.1 X.2.1 d_Ce_putInfo_25 (by decide) ?_
  refine t_ni (t_runV (As := [.int (iI 2)]) (rest := []) (n := 1) X Y S k1 hml hl.1 (c_By_openField l D E T κ L f3 H.size b1 12288 k1 (by omega) 2 (by omega) (by omega) S.1) (ok_k X Y hA KS KR) rfl kl_Ce_By_openField ks_By_openField kx_By_openField ki_By_openField ini_By ⟨rfl, rfl⟩ hd_By_openField ⟨Nat.le_of_ble_eq_true rfl, Nat.le_of_ble_eq_true rfl⟩ rfl (Nat.le_of_ble_eq_true rfl) d_Ce_putInfo_26 ⟨Nat.le_of_ble_eq_true rfl, Nat.le_of_ble_eq_true rfl⟩) X Y hA S (by decide) (fun z4 f4 H locs Y S s4 p4 => ?_)
  obtain ⟨l4, u4⟩ := p4
  refine lv_istore_n (lv' := [(3, .int (iI z4)), (2, .int (iI z2)), (0, .ref h), (1, .int (iI a1))]) X.1 X.2.1 d_Ce_putInfo_29 rfl hl (by decide) rfl (fun ls hl => ?_)
  refine lv_aload_n X.1 X.2.1 d_Ce_putInfo_30 rfl (lv_at hl 2 rfl) ?_
  refine t_get0 (ci := 4) X Y S k0 rfl i_Ce 4 (by decide) rfl lk_Ce_34 (fun _ h9 => h9) d_Ce_putInfo_31 ((gF_same (s4.2.2.2 _ ⟨(t_obj S.1 k0).1, by rw [k0]; decide, by simp⟩).1 4).trans ((gF_same (s3.2.2.2 _ ⟨(t_obj S.1 k0).1, by rw [k0]; decide, by simp⟩).1 4).trans ((gF_same (s2.2.2.2 _ ⟨(t_obj S.1 k0).1, by rw [k0]; decide, by simp⟩).1 4).trans e1))) ?_
  refine lv_iconst (v := iI 4) X.1 X.2.1 d_Ce_putInfo_34 (by decide) ?_
  refine t_ni (t_runV (As := [.int (iI 4)]) (rest := []) (n := 1) X Y S k1 hml hl.1 (c_By_open l D E T κ L f4 H.size b1 12288 k1 (by omega) 4 (by omega) (by omega) S.1) (ok_k X Y hA KS KR) rfl kl_Ce_By_open ks_By_open kx_By_open ki_By_open ini_By ⟨rfl, rfl⟩ hd_By_open ⟨Nat.le_of_ble_eq_true rfl, Nat.le_of_ble_eq_true rfl⟩ rfl (Nat.le_of_ble_eq_true rfl) d_Ce_putInfo_35 ⟨Nat.le_of_ble_eq_true rfl, Nat.le_of_ble_eq_true rfl⟩) X Y hA S (by decide) (fun z5 f5 H locs Y S s5 p5 => ?_)
  obtain ⟨l5, u5⟩ := p5
  refine lv_istore (lv' := [(4, .int (iI z5)), (3, .int (iI z4)), (2, .int (iI z2)), (0, .ref h), (1, .int (iI a1))]) X.1 X.2.1 d_Ce_putInfo_38 hl (by decide) rfl (fun ls hl => ?_)
  refine lv_aload_n X.1 X.2.1 d_Ce_putInfo_40 rfl (lv_at hl 3 rfl) ?_
  refine t_get0 (ci := 4) X Y S k0 rfl i_Ce 4 (by decide) rfl lk_Ce_34 (fun _ h9 => h9) d_Ce_putInfo_41 ((gF_same (s5.2.2.2 _ ⟨(t_obj S.1 k0).1, by rw [k0]; decide, by simp⟩).1 4).trans ((gF_same (s4.2.2.2 _ ⟨(t_obj S.1 k0).1, by rw [k0]; decide, by simp⟩).1 4).trans ((gF_same (s3.2.2.2 _ ⟨(t_obj S.1 k0).1, by rw [k0]; decide, by simp⟩).1 4).trans ((gF_same (s2.2.2.2 _ ⟨(t_obj S.1 k0).1, by rw [k0]; decide, by simp⟩).1 4).trans e1)))) ?_
  refine lv_bipush (v := iI 48) X.1 X.2.1 d_Ce_putInfo_44 (by decide) ?_
  refine t_ni (t_runV (As := [.int (iI 48)]) (rest := []) (n := 1) X Y S k1 hml hl.1 (c_By_open l D E T κ L f5 H.size b1 12288 k1 (by omega) 48 (by omega) (by omega) S.1) (ok_k X Y hA KS KR) rfl kl_Ce_By_open ks_By_open kx_By_open ki_By_open ini_By ⟨rfl, rfl⟩ hd_By_open ⟨Nat.le_of_ble_eq_true rfl, Nat.le_of_ble_eq_true rfl⟩ rfl (Nat.le_of_ble_eq_true rfl) d_Ce_putInfo_46 ⟨Nat.le_of_ble_eq_true rfl, Nat.le_of_ble_eq_true rfl⟩) X Y hA S (by decide) (fun z6 f6 H locs Y S s6 p6 => ?_)
  obtain ⟨l6, u6⟩ := p6
  refine lv_istore (lv' := [(5, .int (iI z6)), (4, .int (iI z5)), (3, .int (iI z4)), (2, .int (iI z2)), (0, .ref h), (1, .int (iI a1))]) X.1 X.2.1 d_Ce_putInfo_49 hl (by decide) rfl (fun ls hl => ?_)
  refine lv_aload_n X.1 X.2.1 d_Ce_putInfo_51 rfl (lv_at hl 4 rfl) ?_
  refine lv_aload_n X.1 X.2.1 d_Ce_putInfo_52 rfl (lv_at hl 4 rfl) ?_
  refine t_geti (ci := 4) X Y S k0 rfl i_Ce 12 (by decide) rfl lk_Ce_157 (fun _ h9 => h9) d_Ce_putInfo_53 (fun z7 e7 l7 u7 => ?_)
  refine t_nv (t_runV (As := [.int (iI z7)]) (rest := []) (n := 1) X Y S k0 hml hl.1 (c_Ce_putTypeInfo l D E T κ L f6 H.size h k0 z7 (by omega) (by omega) S.1) (ok_k X Y hA KS KR) rfl kl_Ce_Ce_putTypeInfo ks_Ce_putTypeInfo kx_Ce_putTypeInfo ki_Ce_putTypeInfo ini_Ce ⟨rfl, rfl⟩ hd_Ce_putTypeInfo ⟨Nat.le_of_ble_eq_true rfl, Nat.le_of_ble_eq_true rfl⟩ rfl (Nat.le_of_ble_eq_true rfl) d_Ce_putInfo_56 ⟨Nat.le_of_ble_eq_true rfl, Nat.le_of_ble_eq_true rfl⟩) X Y hA S (by decide) (fun f8 H locs Y S s8 p8 => ?_)
  refine lv_iload_n X.1 X.2.1 d_Ce_putInfo_59 rfl (lv_at hl 5 rfl) ?_
  have J10 : ∀ (f9 : pF) (H : Heap) (locs : List Loc) (ls : Array Slot), pH D cCl (pA L sz) s.heap L f9 H locs → tS E T (tFr κ L [1, 13] []) κ L f κ L f9 → lv_has ls 6 [(0, .ref h), (2, .int (iI z2)), (3, .int (iI z4)), (4, .int (iI z5)), (5, .int (iI z6))] → W p l e (kRm 7 163 0 0) s m AV below meth c H locs 0 0 QQ (F0 m 88 ls []) := by
    intro f9 H locs ls  Y S hl
    refine lv_aload_n X.1 X.2.1 d_Ce_putInfo_88 rfl (lv_at hl 0 rfl) ?_
    refine t_getr (ci := 4) X Y S k0 rfl i_Ce 4 (by decide) rfl (k1 := 13) (k2 := 12288) rfl rfl lk_Ce_34 (fun _ h9 => h9) d_Ce_putInfo_89 (fun b14 e14 k14 => ?_)
    refine lv_iload X.1 X.2.1 d_Ce_putInfo_92 (lv_at hl 4 rfl) ?_
    refine t_nv (t_runV (As := [.int (iI z6)]) (rest := []) (n := 1) X Y S k14 hml hl.1 (c_By_close l D E T κ L f9 H.size b14 12288 k14 (by omega) z6 (by omega) (by omega) S.1) (ok_k X Y hA KS KR) rfl kl_Ce_By_close ks_By_close kx_By_close ki_By_close ini_By ⟨rfl, rfl⟩ hd_By_close ⟨Nat.le_of_ble_eq_true rfl, Nat.le_of_ble_eq_true rfl⟩ rfl (Nat.le_of_ble_eq_true rfl) d_Ce_putInfo_94 ⟨Nat.le_of_ble_eq_true rfl, Nat.le_of_ble_eq_true rfl⟩) X Y hA S (by decide) (fun f15 H locs Y S s15 p15 => ?_)
    refine lv_aload_n X.1 X.2.1 d_Ce_putInfo_97 rfl (lv_at hl 0 rfl) ?_
    refine t_get0 (ci := 4) X Y S k0 rfl i_Ce 4 (by decide) rfl lk_Ce_34 (fun _ h9 => h9) d_Ce_putInfo_98 ((gF_same (s15.2.2.2 _ ⟨(t_obj S.1 k0).1, by rw [k0]; decide, by simp⟩).1 4).trans e14) ?_
    refine lv_iload X.1 X.2.1 d_Ce_putInfo_101 (lv_at hl 3 rfl) ?_
    refine t_nv (t_runV (As := [.int (iI z5)]) (rest := []) (n := 1) X Y S k14 hml hl.1 (c_By_close l D E T κ L f15 H.size b14 12288 k14 (by omega) z5 (by omega) (by omega) S.1) (ok_k X Y hA KS KR) rfl kl_Ce_By_close ks_By_close kx_By_close ki_By_close ini_By ⟨rfl, rfl⟩ hd_By_close ⟨Nat.le_of_ble_eq_true rfl, Nat.le_of_ble_eq_true rfl⟩ rfl (Nat.le_of_ble_eq_true rfl) d_Ce_putInfo_103 ⟨Nat.le_of_ble_eq_true rfl, Nat.le_of_ble_eq_true rfl⟩) X Y hA S (by decide) (fun f16 H locs Y S s16 p16 => ?_)
    refine lv_aload_n X.1 X.2.1 d_Ce_putInfo_106 rfl (lv_at hl 0 rfl) ?_
    refine t_get0 (ci := 4) X Y S k0 rfl i_Ce 4 (by decide) rfl lk_Ce_34 (fun _ h9 => h9) d_Ce_putInfo_107 ((gF_same (s16.2.2.2 _ ⟨(t_obj S.1 k0).1, by rw [k0]; decide, by simp⟩).1 4).trans ((gF_same (s15.2.2.2 _ ⟨(t_obj S.1 k0).1, by rw [k0]; decide, by simp⟩).1 4).trans e14)) ?_
    refine lv_iload_n X.1 X.2.1 d_Ce_putInfo_110 rfl (lv_at hl 2 rfl) ?_
    refine t_nv (t_runV (As := [.int (iI z4)]) (rest := []) (n := 1) X Y S k14 hml hl.1 (c_By_close l D E T κ L f16 H.size b14 12288 k14 (by omega) z4 (by omega) (by omega) S.1) (ok_k X Y hA KS KR) rfl kl_Ce_By_close ks_By_close kx_By_close ki_By_close ini_By ⟨rfl, rfl⟩ hd_By_close ⟨Nat.le_of_ble_eq_true rfl, Nat.le_of_ble_eq_true rfl⟩ rfl (Nat.le_of_ble_eq_true rfl) d_Ce_putInfo_111 ⟨Nat.le_of_ble_eq_true rfl, Nat.le_of_ble_eq_true rfl⟩) X Y hA S (by decide) (fun f17 H locs Y S s17 p17 => ?_)
    refine lv_aload_n X.1 X.2.1 d_Ce_putInfo_114 rfl (lv_at hl 0 rfl) ?_
    refine t_get0 (ci := 4) X Y S k0 rfl i_Ce 4 (by decide) rfl lk_Ce_34 (fun _ h9 => h9) d_Ce_putInfo_115 ((gF_same (s17.2.2.2 _ ⟨(t_obj S.1 k0).1, by rw [k0]; decide, by simp⟩).1 4).trans ((gF_same (s16.2.2.2 _ ⟨(t_obj S.1 k0).1, by rw [k0]; decide, by simp⟩).1 4).trans ((gF_same (s15.2.2.2 _ ⟨(t_obj S.1 k0).1, by rw [k0]; decide, by simp⟩).1 4).trans e14))) ?_
    refine lv_iload_n X.1 X.2.1 d_Ce_putInfo_118 rfl (lv_at hl 1 rfl) ?_
    refine t_nv (t_runV (As := [.int (iI z2)]) (rest := []) (n := 1) X Y S k14 hml hl.1 (c_By_close l D E T κ L f17 H.size b14 12288 k14 (by omega) z2 (by omega) (by omega) S.1) (ok_k X Y hA KS KR) rfl kl_Ce_By_close ks_By_close kx_By_close ki_By_close ini_By ⟨rfl, rfl⟩ hd_By_close ⟨Nat.le_of_ble_eq_true rfl, Nat.le_of_ble_eq_true rfl⟩ rfl (Nat.le_of_ble_eq_true rfl) d_Ce_putInfo_119 ⟨Nat.le_of_ble_eq_true rfl, Nat.le_of_ble_eq_true rfl⟩) X Y hA S (by decide) (fun f18 H locs Y S s18 p18 => ?_)
    exact c_retv hQQ X Y hr hlk ⟨rfl, S, trivial⟩ d_Ce_putInfo_122
  refine z_if_eq (tgt := 88) X.1 X.2.1 d_Ce_putInfo_60 (by decide) ⟨by omega, by omega⟩ (fun h19 => ?_) (fun h19 => ?_)
  · exact J10 f8 _ _ _  Y S (lv_sub hl [4, 3, 2, 1, 0] rfl)
  · refine lv_aload_n X.1 X.2.1 d_Ce_putInfo_63 rfl (lv_at hl 4 rfl) ?_
    refine lv_bipush (v := iI 35) X.1 X.2.1 d_Ce_putInfo_64 (by decide) ?_
    refine lv_aload_n X.1 X.2.1 d_Ce_putInfo_66 rfl (lv_at hl 4 rfl) ?_
    refine t_get0 (ci := 4) X Y S k0 rfl i_Ce 12 (by decide) rfl lk_Ce_157 (fun _ h9 => h9) d_Ce_putInfo_67 ((gF_same (s8.2.2.2 _ ⟨(t_obj S.1 k0).1, by rw [k0]; decide, by simp⟩).1 12).trans e7) ?_
    refine lv_isub X.1 X.2.1 d_Ce_putInfo_70 ?_
    refine t_u (fun z20 l20 u20 => ?_)
    refine t_ui (t_runV (As := [.int (iI z20)]) (rest := []) (n := 1) X Y S k0 hml hl.1 (c_Ce_isWanted l D E T κ L f8 H.size h k0 z20 (by omega) (by omega) S.1) (ok_k X Y hA KS KR) rfl kl_Ce_Ce_isWanted ks_Ce_isWanted kx_Ce_isWanted ki_Ce_isWanted ini_Ce ⟨rfl, rfl⟩ hd_Ce_isWanted ⟨Nat.le_of_ble_eq_true rfl, Nat.le_of_ble_eq_true rfl⟩ rfl (Nat.le_of_ble_eq_true rfl) d_Ce_putInfo_71 ⟨Nat.le_of_ble_eq_true rfl, Nat.le_of_ble_eq_true rfl⟩) X Y hA (fun z21 H locs Y p21 => ?_)
    obtain ⟨l21, u21⟩ := p21
    refine z_if_eq (tgt := 88) X.1 X.2.1 d_Ce_putInfo_74 (by decide) ⟨by omega, by omega⟩ (fun h22 => ?_) (fun h22 => ?_)
    · exact J10 f8 _ _ _  Y S (lv_sub hl [4, 3, 2, 1, 0] rfl)
    · refine lv_aload_n X.1 X.2.1 d_Ce_putInfo_77 rfl (lv_at hl 4 rfl) ?_
      refine lv_bipush (v := iI 35) X.1 X.2.1 d_Ce_putInfo_78 (by decide) ?_
      refine lv_aload_n X.1 X.2.1 d_Ce_putInfo_80 rfl (lv_at hl 4 rfl) ?_
      refine t_get0 (ci := 4) X Y S k0 rfl i_Ce 12 (by decide) rfl lk_Ce_157 (fun _ h9 => h9) d_Ce_putInfo_81 ((gF_same (s8.2.2.2 _ ⟨(t_obj S.1 k0).1, by rw [k0]; decide, by simp⟩).1 12).trans e7) ?_
      refine lv_isub X.1 X.2.1 d_Ce_putInfo_84 ?_
      refine t_u (fun z23 l23 u23 => ?_)
      refine t_nv (t_runV (As := [.int (iI z23)]) (rest := []) (n := 1) X Y S k0 hml hl.1 (c_Ce_putTypeInfo l D E T κ L f8 H.size h k0 z23 (by omega) (by omega) S.1) (ok_k X Y hA KS KR) rfl kl_Ce_Ce_putTypeInfo ks_Ce_putTypeInfo kx_Ce_putTypeInfo ki_Ce_putTypeInfo ini_Ce ⟨rfl, rfl⟩ hd_Ce_putTypeInfo ⟨Nat.le_of_ble_eq_true rfl, Nat.le_of_ble_eq_true rfl⟩ rfl (Nat.le_of_ble_eq_true rfl) d_Ce_putInfo_85 ⟨Nat.le_of_ble_eq_true rfl, Nat.le_of_ble_eq_true rfl⟩) X Y hA S (by decide) (fun f24 H locs Y S s24 p24 => ?_)
      exact J10 f24 _ _ _  Y S (lv_sub hl [4, 3, 2, 1, 0] rfl)
set_option maxHeartbeats 4000000 in
set_option maxRecDepth 100000 in
theorem c_Ce_putReply (l : Launch) (D : va_G) (E : cE) (T : cT) (κ : tK) (L : List Nat) (f : pF) (sz : Nat) (h : Nat) (k0 : κ h = (14, 0)) (hw : tW E T κ L f) : Met l y_Ce_putReply (k_Ce_putReply :: lw_tg) (kRm 8 214 2 64) (va_Pc [.ref h] (kPre D E T L f sz)) (va_Qv (aPv E T [1, 2, 3, 4, 5, 6, 7, 8, 9, 10, 11, 12, 13, 14, 15, 16, 17, 18, 19, 20, 21] [] κ L f (fun (k : tK) (g : pF) => True)) (cPost D E (pA L sz)) (pA L sz)) 2 64 (pA L sz) := by
  refine k_enter (own := R_Ce) (by decide) rfl (Nat.le_of_ble_eq_true rfl) (fun p e s m below meth c ls AV QQ H locs hQQ X Y hA hin hr hlk hml hl KS KR => ?_)
  have hl : lv_has ls 7 [(0, .ref h)] := hl
  have S : tS E T (tFr κ L [1, 2, 3, 4, 5, 6, 7, 8, 9, 10, 11, 12, 13, 14, 15, 16, 17, 18, 19, 20, 21] []) κ L f κ L f := tS_rf hw
  have hF0 : ∀ b, tFr κ L [1, 2, 3, 4, 5, 6, 7, 8, 9, 10, 11, 12, 13, 14, 15, 16, 17, 18, 19, 20, 21] [] b → b ∈ L := fun b h9 => h9.1
  refine lv_aload_n X.1 X.2.1 d_Ce_putReply_0 rfl (lv_at hl 0 rfl) ?_
  refine t_getr (ci := 4) X Y S k0 rfl i_Ce 0 (by decide) rfl (k1 := 21) (k2 := 0) rfl rfl lk_Ce_18 (fun _ h9 => h9) d_Ce_putReply_1 (fun b1 e1 k1 => ?_)
  refine lv_aload_n X.1 X.2.1 d_Ce_putReply_4 rfl (lv_at hl 0 rfl) ?_
  refine t_geti (ci := 4) X Y S k0 rfl i_Ce 12 (by decide) rfl lk_Ce_157 (fun _ h9 => h9) d_Ce_putReply_5 (fun z2 e2 l2 u2 => ?_)
  refine t_ar (t_runV (As := [.int (iI z2)]) (rest := []) (n := 1) X Y S k1 hml hl.1 (c_Va_freshKey l D E T κ L f H.size b1 k1 z2 (by omega) (by omega) S.1) (ok_k X Y hA KS KR) rfl kl_Ce_Va_freshKey ks_Va_freshKey kx_Va_freshKey ki_Va_freshKey ini_Va ⟨rfl, rfl⟩ hd_Va_freshKey ⟨Nat.le_of_ble_eq_true rfl, Nat.le_of_ble_eq_true rfl⟩ rfl (Nat.le_of_ble_eq_true rfl) d_Ce_putReply_8 ⟨Nat.le_of_ble_eq_true rfl, Nat.le_of_ble_eq_true rfl⟩) X Y hA S (by decide) (fun b3 κ3 L3 f3 H locs Y S s3 p3 => ?_)
  obtain ⟨n3, k3⟩ := p3
  have x3 := tKey_n k3
  have k4 : κ3 h = (14, 0) := tLe_k s3.2.2.1 k0
  refine lv_astore_n (lv' := [(1, .ref b3), (0, .ref h)]) X.1 X.2.1 d_Ce_putReply_11 rfl hl (by decide) rfl (fun ls hl => ?_)
  refine lv_aload_n X.1 X.2.1 d_Ce_putReply_12 rfl (lv_at hl 1 rfl) ?_
  refine t_geti (ci := 4) X Y S k4 rfl i_Ce 6 (by decide) rfl lk_Ce_65 (fun _ h9 => h9) d_Ce_putReply_13 (fun z5 e5 l5 u5 => ?_)
  have J7 : ∀ (z6 : Int) (H : Heap) (locs : List Loc) (ls : Array Slot), (11 ≤ z6) → (z6 ≤ 13) → pH D cCl (pA L sz) s.heap L3 f3 H locs → tS E T (tFr κ L [1, 2, 3, 4, 5, 6, 7, 8, 9, 10, 11, 12, 13, 14, 15, 16, 17, 18, 19, 20, 21] []) κ L f κ3 L3 f3 → lv_has ls 7 [(0, .ref h), (1, .ref b3)] → W p l e (kRm 8 214 2 64) s m AV below meth c H locs 1 32 QQ (F0 m 26 ls [.int (iI z6)]) := by
    intro z6 H locs ls l6 u6 Y S hl
    refine lv_istore_n (lv' := [(2, .int (iI z6)), (0, .ref h), (1, .ref b3)]) X.1 X.2.1 d_Ce_putReply_26 rfl hl (by decide) rfl (fun ls hl => ?_)
    refine lv_aload_n X.1 X.2.1 d_Ce_putReply_27 rfl (lv_at hl 1 rfl) ?_
    refine t_getr (ci := 4) X Y S k4 rfl i_Ce 4 (by decide) rfl (k1 := 13) (k2 := 12288) rfl rfl lk_Ce_34 (fun _ h9 => h9) d_Ce_putReply_28 (fun b11 e11 k11 => ?_)
    refine t_nv (t_runV (As := []) (rest := []) (n := 0) X Y S k11 hml hl.1 (c_By_clear l D E T κ3 L3 f3 H.size b11 12288 k11 (by omega) S.1) (ok_k X Y hA KS KR) rfl kl_Ce_By_clear ks_By_clear kx_By_clear ki_By_clear ini_By ⟨rfl, rfl⟩ hd_By_clear ⟨Nat.le_of_ble_eq_true rfl, Nat.le_of_ble_eq_true rfl⟩ rfl (Nat.le_of_ble_eq_true rfl) d_Ce_putReply_31 ⟨Nat.le_of_ble_eq_true rfl, Nat.le_of_ble_eq_true rfl⟩) X Y hA S (by decide) (fun f12 H locs Y S s12 p12 => ?_)
    refine lv_aload_n X.1 X.2.1 d_Ce_putReply_34 rfl (lv_at hl 1 rfl) ?_
    refine t_get0 (ci := 4) X Y S k4 rfl i_Ce 4 (by decide) rfl lk_Ce_34 (fun _ h9 => h9) d_Ce_putReply_35 ((gF_same (s12.2.2.2 _ ⟨(t_obj S.1 k4).1, by rw [k4]; decide, by simp⟩).1 4).trans e11) ?_
    refine lv_bipush (v := iI 96) X.1 X.2.1 d_Ce_putReply_38 (by decide) ?_
    refine lv_iload_n X.1 X.2.1 d_Ce_putReply_40 rfl (lv_at hl 0 rfl) ?_
    refine z_iadd X.1 X.2.1 d_Ce_putReply_41 ?_
    refine t_ni (t_runV (As := [.int (iI (96 + z6))]) (rest := []) (n := 1) X Y S k11 hml hl.1 (c_By_open l D E T κ3 L3 f12 H.size b11 12288 k11 (by omega) (96 + z6) (by omega) (by omega) S.1) (ok_k X Y hA KS KR) rfl kl_Ce_By_open ks_By_open kx_By_open ki_By_open ini_By ⟨rfl, rfl⟩ hd_By_open ⟨Nat.le_of_ble_eq_true rfl, Nat.le_of_ble_eq_true rfl⟩ rfl (Nat.le_of_ble_eq_true rfl) d_Ce_putReply_42 ⟨Nat.le_of_ble_eq_true rfl, Nat.le_of_ble_eq_true rfl⟩) X Y hA S (by decide) (fun z13 f13 H locs Y S s13 p13 => ?_)
    obtain ⟨l13, u13⟩ := p13
    refine lv_istore_n (lv' := [(3, .int (iI z13)), (2, .int (iI z6)), (0, .ref h), (1, .ref b3)]) X.1 X.2.1 d_Ce_putReply_45 rfl hl (by decide) rfl (fun ls hl => ?_)
    refine lv_aload_n X.1 X.2.1 d_Ce_putReply_46 rfl (lv_at hl 2 rfl) ?_
    refine t_get0 (ci := 4) X Y S k4 rfl i_Ce 4 (by decide) rfl lk_Ce_34 (fun _ h9 => h9) d_Ce_putReply_47 ((gF_same (s13.2.2.2 _ ⟨(t_obj S.1 k4).1, by rw [k4]; decide, by simp⟩).1 4).trans ((gF_same (s12.2.2.2 _ ⟨(t_obj S.1 k4).1, by rw [k4]; decide, by simp⟩).1 4).trans e11)) ?_
    refine lv_bipush (v := iI 48) X.1 X.2.1 d_Ce_putReply_50 (by decide) ?_
    refine t_ni (t_runV (As := [.int (iI 48)]) (rest := []) (n := 1) X Y S k11 hml hl.1 (c_By_open l D E T κ3 L3 f13 H.size b11 12288 k11 (by omega) 48 (by omega) (by omega) S.1) (ok_k X Y hA KS KR) rfl kl_Ce_By_open ks_By_open kx_By_open ki_By_open ini_By ⟨rfl, rfl⟩ hd_By_open ⟨Nat.le_of_ble_eq_true rfl, Nat.le_of_ble_eq_true rfl⟩ rfl (Nat.le_of_ble_eq_true rfl) d_Ce_putReply_52 ⟨Nat.le_of_ble_eq_true rfl, Nat.le_of_ble_eq_true rfl⟩) X Y hA S (by decide) (fun z14 f14 H locs Y S s14 p14 => ?_)
    obtain ⟨l14, u14⟩ := p14
    refine lv_istore (lv' := [(4, .int (iI z14)), (3, .int (iI z13)), (2, .int (iI z6)), (0, .ref h), (1, .ref b3)]) X.1 X.2.1 d_Ce_putReply_55 hl (by decide) rfl (fun ls hl => ?_)
    refine lv_aload_n X.1 X.2.1 d_Ce_putReply_57 rfl (lv_at hl 3 rfl) ?_
    refine t_get0 (ci := 4) X Y S k4 rfl i_Ce 4 (by decide) rfl lk_Ce_34 (fun _ h9 => h9) d_Ce_putReply_58 ((gF_same (s14.2.2.2 _ ⟨(t_obj S.1 k4).1, by rw [k4]; decide, by simp⟩).1 4).trans ((gF_same (s13.2.2.2 _ ⟨(t_obj S.1 k4).1, by rw [k4]; decide, by simp⟩).1 4).trans ((gF_same (s12.2.2.2 _ ⟨(t_obj S.1 k4).1, by rw [k4]; decide, by simp⟩).1 4).trans e11))) ?_
    refine lv_iconst (v := iI 0) X.1 X.2.1 d_Ce_putReply_61 (by decide) ?_
    refine lv_ldc2 (v := (5)) X.1 X.2.1 X.2.2.2.1 (X.2.2.1 _ cl_Ce_79) d_Ce_putReply_62 ?_
    refine t_nv (t_runV (As := [.int (iI 0), .long ((5))]) (rest := []) (n := 2) X Y S k11 hml hl.1 (c_By_putNumber l D E T κ3 L3 f14 H.size b11 12288 k11 (by omega) 0 (by omega) (by omega) ((5)) S.1) (ok_k X Y hA KS KR) rfl kl_Ce_By_putNumber ks_By_putNumber kx_By_putNumber ki_By_putNumber ini_By ⟨rfl, rfl⟩ hd_By_putNumber ⟨Nat.le_of_ble_eq_true rfl, Nat.le_of_ble_eq_true rfl⟩ rfl (Nat.le_of_ble_eq_true rfl) d_Ce_putReply_65 ⟨Nat.le_of_ble_eq_true rfl, Nat.le_of_ble_eq_true rfl⟩) X Y hA S (by decide) (fun f15 H locs Y S s15 p15 => ?_)
    refine lv_aload_n X.1 X.2.1 d_Ce_putReply_68 rfl (lv_at hl 3 rfl) ?_
    refine t_get0 (ci := 4) X Y S k4 rfl i_Ce 4 (by decide) rfl lk_Ce_34 (fun _ h9 => h9) d_Ce_putReply_69 ((gF_same (s15.2.2.2 _ ⟨(t_obj S.1 k4).1, by rw [k4]; decide, by simp⟩).1 4).trans ((gF_same (s14.2.2.2 _ ⟨(t_obj S.1 k4).1, by rw [k4]; decide, by simp⟩).1 4).trans ((gF_same (s13.2.2.2 _ ⟨(t_obj S.1 k4).1, by rw [k4]; decide, by simp⟩).1 4).trans ((gF_same (s12.2.2.2 _ ⟨(t_obj S.1 k4).1, by rw [k4]; decide, by simp⟩).1 4).trans e11)))) ?_
    refine lv_iconst (v := iI 1) X.1 X.2.1 d_Ce_putReply_72 (by decide) ?_
    refine lv_iload_n X.1 X.2.1 d_Ce_putReply_73 rfl (lv_at hl 2 rfl) ?_
    refine lv_i2l X.1 X.2.1 d_Ce_putReply_74 rfl ?_
    refine t_anyl (fun v16 => ?_)
    refine t_nv (t_runV (As := [.int (iI 1), .long v16]) (rest := []) (n := 2) X Y S k11 hml hl.1 (c_By_putNumber l D E T κ3 L3 f15 H.size b11 12288 k11 (by omega) 1 (by omega) (by omega) v16 S.1) (ok_k X Y hA KS KR) rfl kl_Ce_By_putNumber ks_By_putNumber kx_By_putNumber ki_By_putNumber ini_By ⟨rfl, rfl⟩ hd_By_putNumber ⟨Nat.le_of_ble_eq_true rfl, Nat.le_of_ble_eq_true rfl⟩ rfl (Nat.le_of_ble_eq_true rfl) d_Ce_putReply_75 ⟨Nat.le_of_ble_eq_true rfl, Nat.le_of_ble_eq_true rfl⟩) X Y hA S (by decide) (fun f17 H locs Y S s17 p17 => ?_)
    refine lv_aload_n X.1 X.2.1 d_Ce_putReply_78 rfl (lv_at hl 3 rfl) ?_
    refine t_get0 (ci := 4) X Y S k4 rfl i_Ce 6 (by decide) rfl lk_Ce_65 (fun _ h9 => h9) d_Ce_putReply_79 ((gF_same (s17.2.2.2 _ ⟨(t_obj S.1 k4).1, by rw [k4]; decide, by simp⟩).1 6).trans ((gF_same (s15.2.2.2 _ ⟨(t_obj S.1 k4).1, by rw [k4]; decide, by simp⟩).1 6).trans ((gF_same (s14.2.2.2 _ ⟨(t_obj S.1 k4).1, by rw [k4]; decide, by simp⟩).1 6).trans ((gF_same (s13.2.2.2 _ ⟨(t_obj S.1 k4).1, by rw [k4]; decide, by simp⟩).1 6).trans ((gF_same (s12.2.2.2 _ ⟨(t_obj S.1 k4).1, by rw [k4]; decide, by simp⟩).1 6).trans e5))))) ?_
    have J19 : ∀ (f18 : pF) (H : Heap) (locs : List Loc) (ls : Array Slot), pH D cCl (pA L sz) s.heap L3 f18 H locs → tS E T (tFr κ L [1, 2, 3, 4, 5, 6, 7, 8, 9, 10, 11, 12, 13, 14, 15, 16, 17, 18, 19, 20, 21] []) κ L f κ3 L3 f18 → lv_has ls 7 [(0, .ref h), (1, .ref b3), (3, .int (iI z10)), (4, .int (iI z11))] → W p l e (kRm 8 214 2 64) s m AV below meth c H locs 1 32 QQ (F0 m 129 ls []) := by
      intro f18 H locs ls  Y S hl
      refine lv_aload_n X.1 X.2.1 d_Ce_putReply_129 rfl (lv_at hl 0 rfl) ?_
      refine t_getr (ci := 4) X Y S k4 rfl i_Ce 4 (by decide) rfl (k1 := 13) (k2 := 12288) rfl rfl lk_Ce_34 (fun _ h9 => h9) d_Ce_putReply_130 (fun b23 e23 k23 => ?_)
      refine lv_iconst (v := iI 3) X.1 X.2.1 d_Ce_putReply_133 (by decide) ?_
      refine t_nv (t_runV (As := [.int (iI 3)]) (rest := []) (n := 1) X Y S k23 hml hl.1 (c_By_putRealm l D E T κ3 L3 f18 H.size b23 12288 k23 (by omega) 3 (by omega) (by omega) S.1) (ok_k X Y hA KS KR) rfl kl_Ce_By_putRealm ks_By_putRealm kx_By_putRealm ki_By_putRealm ini_By ⟨rfl, rfl⟩ hd_By_putRealm ⟨Nat.le_of_ble_eq_true rfl, Nat.le_of_ble_eq_true rfl⟩ rfl (Nat.le_of_ble_eq_true rfl) d_Ce_putReply_134 ⟨Nat.le_of_ble_eq_true rfl, Nat.le_of_ble_eq_true rfl⟩) X Y hA S (by decide) (fun f24 H locs Y S s24 p24 => ?_)
      refine lv_aload_n X.1 X.2.1 d_Ce_putReply_137 rfl (lv_at hl 0 rfl) ?_
      refine lv_aload_n X.1 X.2.1 d_Ce_putReply_138 rfl (lv_at hl 0 rfl) ?_
      refine t_get0 (ci := 4) X Y S k4 rfl i_Ce 4 (by decide) rfl lk_Ce_34 (fun _ h9 => h9) d_Ce_putReply_139 ((gF_same (s24.2.2.2 _ ⟨(t_obj S.1 k4).1, by rw [k4]; decide, by simp⟩).1 4).trans e23) ?_
      refine lv_iconst (v := iI 4) X.1 X.2.1 d_Ce_putReply_142 (by decide) ?_
      refine t_nv (t_runV (As := [.ref b23, .int (iI 4)]) (rest := []) (n := 2) X Y S k4 hml hl.1 (c_Ce_putClient l D E T κ3 L3 f24 H.size h k4 b23 12288 k23 (by omega) 4 (by omega) (by omega) S.1) (ok_k X Y hA KS KR) rfl kl_Ce_Ce_putClient ks_Ce_putClient kx_Ce_putClient ki_Ce_putClient ini_Ce ⟨rfl, rfl⟩ hd_Ce_putClient ⟨Nat.le_of_ble_eq_true rfl, Nat.le_of_ble_eq_true rfl⟩ rfl (Nat.le_of_ble_eq_true rfl) d_Ce_putReply_143 ⟨Nat.le_of_ble_eq_true rfl, Nat.le_of_ble_eq_true rfl⟩) X Y hA S (by decide) (fun f25 H locs Y S s25 p25 => ?_)
      refine lv_aload_n X.1 X.2.1 d_Ce_putReply_146 rfl (lv_at hl 0 rfl) ?_
      refine t_get0 (ci := 4) X Y S k4 rfl i_Ce 4 (by decide) rfl lk_Ce_34 (fun _ h9 => h9) d_Ce_putReply_147 ((gF_same (s25.2.2.2 _ ⟨(t_obj S.1 k4).1, by rw [k4]; decide, by simp⟩).1 4).trans ((gF_same (s24.2.2.2 _ ⟨(t_obj S.1 k4).1, by rw [k4]; decide, by simp⟩).1 4).trans e23)) ?_
      refine lv_iconst (v := iI 5) X.1 X.2.1 d_Ce_putReply_150 (by decide) ?_
      refine t_ni (t_runV (As := [.int (iI 5)]) (rest := []) (n := 1) X Y S k23 hml hl.1 (c_By_openField l D E T κ3 L3 f25 H.size b23 12288 k23 (by omega) 5 (by omega) (by omega) S.1) (ok_k X Y hA KS KR) rfl kl_Ce_By_openField ks_By_openField kx_By_openField ki_By_openField ini_By ⟨rfl, rfl⟩ hd_By_openField ⟨Nat.le_of_ble_eq_true rfl, Nat.le_of_ble_eq_true rfl⟩ rfl (Nat.le_of_ble_eq_true rfl) d_Ce_putReply_151 ⟨Nat.le_of_ble_eq_true rfl, Nat.le_of_ble_eq_true rfl⟩) X Y hA S (by decide) (fun z26 f26 H locs Y S s26 p26 => ?_)
      obtain ⟨l26, u26⟩ := p26
      refine lv_istore (lv' := [(5, .int (iI z26)), (0, .ref h), (1, .ref b3), (3, .int (iI z10)), (4, .int (iI z11))]) X.1 X.2.1 d_Ce_putReply_154 hl (by decide) rfl (fun ls hl => ?_)
      refine lv_aload_n X.1 X.2.1 d_Ce_putReply_156 rfl (lv_at hl 1 rfl) ?_
      refine lv_aload_n X.1 X.2.1 d_Ce_putReply_157 rfl (lv_at hl 2 rfl) ?_
      refine t_nv (t_runV (As := [.ref b3]) (rest := []) (n := 1) X Y S k4 hml hl.1 (c_Ce_putTicket l D E T κ3 L3 f26 H.size h k4 b3 n3 k3 (by omega) S.1) (ok_k X Y hA KS KR) rfl kl_Ce_Ce_putTicket ks_Ce_putTicket kx_Ce_putTicket ki_Ce_putTicket ini_Ce ⟨rfl, rfl⟩ hd_Ce_putTicket ⟨Nat.le_of_ble_eq_true rfl, Nat.le_of_ble_eq_true rfl⟩ rfl (Nat.le_of_ble_eq_true rfl) d_Ce_putReply_158 ⟨Nat.le_of_ble_eq_true rfl, Nat.le_of_ble_eq_true rfl⟩) X Y hA S (by decide) (fun f27 H locs Y S s27 p27 => ?_)
      refine lv_aload_n X.1 X.2.1 d_Ce_putReply_161 rfl (lv_at hl 1 rfl) ?_
      refine t_get0 (ci := 4) X Y S k4 rfl i_Ce 4 (by decide) rfl lk_Ce_34 (fun _ h9 => h9) d_Ce_putReply_162 ((gF_same (s27.2.2.2 _ ⟨(t_obj S.1 k4).1, by rw [k4]; decide, by simp⟩).1 4).trans ((gF_same (s26.2.2.2 _ ⟨(t_obj S.1 k4).1, by rw [k4]; decide, by simp⟩).1 4).trans ((gF_same (s25.2.2.2 _ ⟨(t_obj S.1 k4).1, by rw [k4]; decide, by simp⟩).1 4).trans ((gF_same (s24.2.2.2 _ ⟨(t_obj S.1 k4).1, by rw [k4]; decide, by simp⟩).1 4).trans e23)))) ?_
      refine lv_iload X.1 X.2.1 d_Ce_putReply_165 (lv_at hl 0 rfl) ?_
      refine t_nv (t_runV (As := [.int (iI z26)]) (rest := []) (n := 1) X Y S k23 hml hl.1 (c_By_close l D E T κ3 L3 f27 H.size b23 12288 k23 (by omega) z26 (by omega) (by omega) S.1) (ok_k X Y hA KS KR) rfl kl_Ce_By_close ks_By_close kx_By_close ki_By_close ini_By ⟨rfl, rfl⟩ hd_By_close ⟨Nat.le_of_ble_eq_true rfl, Nat.le_of_ble_eq_true rfl⟩ rfl (Nat.le_of_ble_eq_true rfl) d_Ce_putReply_167 ⟨Nat.le_of_ble_eq_true rfl, Nat.le_of_ble_eq_true rfl⟩) X Y hA S (by decide) (fun f28 H locs Y S s28 p28 => ?_)
      refine lv_aload_n X.1 X.2.1 d_Ce_putReply_170 rfl (lv_at hl 1 rfl) ?_
      refine lv_aload_n X.1 X.2.1 d_Ce_putReply_171 rfl (lv_at hl 2 rfl) ?_
      refine t_nv (t_runV (As := [.ref b3]) (rest := []) (n := 1) X Y S k4 hml hl.1 (c_Ce_putReplyPart l D E T κ3 L3 f28 H.size h k4 b3 n3 k3 (by omega) S.1) (ok_k X Y hA KS KR) rfl kl_Ce_Ce_putReplyPart ks_Ce_putReplyPart kx_Ce_putReplyPart ki_Ce_putReplyPart ini_Ce ⟨rfl, rfl⟩ hd_Ce_putReplyPart ⟨Nat.le_of_ble_eq_true rfl, Nat.le_of_ble_eq_true rfl⟩ rfl (Nat.le_of_ble_eq_true rfl) d_Ce_putReply_172 ⟨Nat.le_of_ble_eq_true rfl, Nat.le_of_ble_eq_true rfl⟩) X Y hA S (by decide) (fun f29 H locs Y S s29 p29 => ?_)
      refine lv_aload_n X.1 X.2.1 d_Ce_putReply_175 rfl (lv_at hl 1 rfl) ?_
      refine t_get0 (ci := 4) X Y S k4 rfl i_Ce 4 (by decide) rfl lk_Ce_34 (fun _ h9 => h9) d_Ce_putReply_176 ((gF_same (s29.2.2.2 _ ⟨(t_obj S.1 k4).1, by rw [k4]; decide, by simp⟩).1 4).trans ((gF_same (s28.2.2.2 _ ⟨(t_obj S.1 k4).1, by rw [k4]; decide, by simp⟩).1 4).trans ((gF_same (s27.2.2.2 _ ⟨(t_obj S.1 k4).1, by rw [k4]; decide, by simp⟩).1 4).trans ((gF_same (s26.2.2.2 _ ⟨(t_obj S.1 k4).1, by rw [k4]; decide, by simp⟩).1 4).trans ((gF_same (s25.2.2.2 _ ⟨(t_obj S.1 k4).1, by rw [k4]; decide, by simp⟩).1 4).trans ((gF_same (s24.2.2.2 _ ⟨(t_obj S.1 k4).1, by rw [k4]; decide, by simp⟩).1 4).trans e23)))))) ?_
      refine lv_bipush (v := iI 6) X.1 X.2.1 d_Ce_putReply_179 (by decide) ?_
      refine t_ni (t_runV (As := [.int (iI 6)]) (rest := []) (n := 1) X Y S k23 hml hl.1 (c_By_openField l D E T κ3 L3 f29 H.size b23 12288 k23 (by omega) 6 (by omega) (by omega) S.1) (ok_k X Y hA KS KR) rfl kl_Ce_By_openField ks_By_openField kx_By_openField ki_By_openField ini_By ⟨rfl, rfl⟩ hd_By_openField ⟨Nat.le_of_ble_eq_true rfl, Nat.le_of_ble_eq_true rfl⟩ rfl (Nat.le_of_ble_eq_true rfl) d_Ce_putReply_181 ⟨Nat.le_of_ble_eq_true rfl, Nat.le_of_ble_eq_true rfl⟩) X Y hA S (by decide) (fun z30 f30 H locs Y S s30 p30 => ?_)
      obtain ⟨l30, u30⟩ := p30
      refine lv_istore (lv' := [(5, .int (iI z30)), (0, .ref h), (1, .ref b3), (3, .int (iI z10)), (4, .int (iI z11))]) X.1 X.2.1 d_Ce_putReply_184 hl (by decide) rfl (fun ls hl => ?_)
      refine lv_aload_n X.1 X.2.1 d_Ce_putReply_186 rfl (lv_at hl 1 rfl) ?_
      refine t_av (t_runV (As := []) (rest := []) (n := 0) X Y S k4 hml hl.1 (c_Ce_sealReply l D E T κ3 L3 f30 H.size h k4 S.1) (ok_k X Y hA KS KR) rfl kl_Ce_Ce_sealReply ks_Ce_sealReply kx_Ce_sealReply ki_Ce_sealReply ini_Ce ⟨rfl, rfl⟩ hd_Ce_sealReply ⟨Nat.le_of_ble_eq_true rfl, Nat.le_of_ble_eq_true rfl⟩ rfl (Nat.le_of_ble_eq_true rfl) d_Ce_putReply_187 ⟨Nat.le_of_ble_eq_true rfl, Nat.le_of_ble_eq_true rfl⟩) X Y hA S (by decide) (fun κ31 L31 f31 H locs Y S s31 p31 => ?_)
      have k32 : κ31 h = (14, 0) := tLe_k s31.2.2.1 k4
      have k33 : tKey T κ31 b3 n3 := tLe_key s31.2.2.1 k3
      refine lv_aload_n X.1 X.2.1 d_Ce_putReply_190 rfl (lv_at hl 1 rfl) ?_
      refine t_getr (ci := 4) X Y S k32 rfl i_Ce 4 (by decide) rfl (k1 := 13) (k2 := 12288) rfl rfl lk_Ce_34 (fun _ h9 => h9) d_Ce_putReply_191 (fun b34 e34 k34 => ?_)
      refine lv_iload X.1 X.2.1 d_Ce_putReply_194 (lv_at hl 0 rfl) ?_
      refine t_nv (t_runV (As := [.int (iI z30)]) (rest := []) (n := 1) X Y S k34 hml hl.1 (c_By_close l D E T κ31 L31 f31 H.size b34 12288 k34 (by omega) z30 (by omega) (by omega) S.1) (ok_k X Y hA KS KR) rfl kl_Ce_By_close ks_By_close kx_By_close ki_By_close ini_By ⟨rfl, rfl⟩ hd_By_close ⟨Nat.le_of_ble_eq_true rfl, Nat.le_of_ble_eq_true rfl⟩ rfl (Nat.le_of_ble_eq_true rfl) d_Ce_putReply_196 ⟨Nat.le_of_ble_eq_true rfl, Nat.le_of_ble_eq_true rfl⟩) X Y hA S (by decide) (fun f35 H locs Y S s35 p35 => ?_)
      refine lv_aload_n X.1 X.2.1 d_Ce_putReply_199 rfl (lv_at hl 1 rfl) ?_
      refine t_get0 (ci := 4) X Y S k32 rfl i_Ce 4 (by decide) rfl lk_Ce_34 (fun _ h9 => h9) d_Ce_putReply_200 ((gF_same (s35.2.2.2 _ ⟨(t_obj S.1 k32).1, by rw [k32]; decide, by simp⟩).1 4).trans e34) ?_
      refine lv_iload X.1 X.2.1 d_Ce_putReply_203 (lv_at hl 4 rfl) ?_
      refine t_nv (t_runV (As := [.int (iI z11)]) (rest := []) (n := 1) X Y S k34 hml hl.1 (c_By_close l D E T κ31 L31 f35 H.size b34 12288 k34 (by omega) z11 (by omega) (by omega) S.1) (ok_k X Y hA KS KR) rfl kl_Ce_By_close ks_By_close kx_By_close ki_By_close ini_By ⟨rfl, rfl⟩ hd_By_close ⟨Nat.le_of_ble_eq_true rfl, Nat.le_of_ble_eq_true rfl⟩ rfl (Nat.le_of_ble_eq_true rfl) d_Ce_putReply_205 ⟨Nat.le_of_ble_eq_true rfl, Nat.le_of_ble_eq_true rfl⟩) X Y hA S (by decide) (fun f36 H locs Y S s36 p36 => ?_)
      refine lv_aload_n X.1 X.2.1 d_Ce_putReply_208 rfl (lv_at hl 1 rfl) ?_
      refine t_get0 (ci := 4) X Y S k32 rfl i_Ce 4 (by decide) rfl lk_Ce_34 (fun _ h9 => h9) d_Ce_putReply_209 ((gF_same (s36.2.2.2 _ ⟨(t_obj S.1 k32).1, by rw [k32]; decide, by simp⟩).1 4).trans ((gF_same (s35.2.2.2 _ ⟨(t_obj S.1 k32).1, by rw [k32]; decide, by simp⟩).1 4).trans e34)) ?_
      refine lv_iload_n X.1 X.2.1 d_Ce_putReply_212 rfl (lv_at hl 3 rfl) ?_
      refine t_nv (t_runV (As := [.int (iI z10)]) (rest := []) (n := 1) X Y S k34 hml hl.1 (c_By_close l D E T κ31 L31 f36 H.size b34 12288 k34 (by omega) z10 (by omega) (by omega) S.1) (ok_k X Y hA KS KR) rfl kl_Ce_By_close ks_By_close kx_By_close ki_By_close ini_By ⟨rfl, rfl⟩ hd_By_close ⟨Nat.le_of_ble_eq_true rfl, Nat.le_of_ble_eq_true rfl⟩ rfl (Nat.le_of_ble_eq_true rfl) d_Ce_putReply_213 ⟨Nat.le_of_ble_eq_true rfl, Nat.le_of_ble_eq_true rfl⟩) X Y hA S (by decide) (fun f37 H locs Y S s37 p37 => ?_)
      exact c_retv hQQ X Y hr hlk ⟨κ31, S, trivial⟩ d_Ce_putReply_216
    refine z_if_eq (tgt := 129) X.1 X.2.1 d_Ce_putReply_82 (by decide) ⟨by omega, by omega⟩ (fun h38 => ?_) (fun h38 => ?_)
    · exact J19 f17 _ _ _  Y S (lv_sub hl [3, 4, 1, 0] rfl)
    · refine lv_aload_n X.1 X.2.1 d_Ce_putReply_85 rfl (lv_at hl 3 rfl) ?_
      refine t_get0 (ci := 4) X Y S k4 rfl i_Ce 4 (by decide) rfl lk_Ce_34 (fun _ h9 => h9) d_Ce_putReply_86 ((gF_same (s17.2.2.2 _ ⟨(t_obj S.1 k4).1, by rw [k4]; decide, by simp⟩).1 4).trans ((gF_same (s15.2.2.2 _ ⟨(t_obj S.1 k4).1, by rw [k4]; decide, by simp⟩).1 4).trans ((gF_same (s14.2.2.2 _ ⟨(t_obj S.1 k4).1, by rw [k4]; decide, by simp⟩).1 4).trans ((gF_same (s13.2.2.2 _ ⟨(t_obj S.1 k4).1, by rw [k4]; decide, by simp⟩).1 4).trans ((gF_same (s12.2.2.2 _ ⟨(t_obj S.1 k4).1, by rw [k4]; decide, by simp⟩).1 4).trans e11))))) ?_
      refine lv_iconst (v := iI 2) X.1 X.2.1 d_Ce_putReply_89 (by decide) ?_
      refine t_ni (t_runV (As := [.int (iI 2)]) (rest := []) (n := 1) X Y S k11 hml hl.1 (c_By_openField l D E T κ3 L3 f17 H.size b11 12288 k11 (by omega) 2 (by omega) (by omega) S.1) (ok_k X Y hA KS KR) rfl kl_Ce_By_openField ks_By_openField kx_By_openField ki_By_openField ini_By ⟨rfl, rfl⟩ hd_By_openField ⟨Nat.le_of_ble_eq_true rfl, Nat.le_of_ble_eq_true rfl⟩ rfl (Nat.le_of_ble_eq_true rfl) d_Ce_putReply_90 ⟨Nat.le_of_ble_eq_true rfl, Nat.le_of_ble_eq_true rfl⟩) X Y hA S (by decide) (fun z39 f39 H locs Y S s39 p39 => ?_)
      obtain ⟨l39, u39⟩ := p39
      refine lv_istore (lv' := [(5, .int (iI z39)), (4, .int (iI z14)), (3, .int (iI z13)), (2, .int (iI z6)), (0, .ref h), (1, .ref b3)]) X.1 X.2.1 d_Ce_putReply_93 hl (by decide) rfl (fun ls hl => ?_)
      refine lv_aload_n X.1 X.2.1 d_Ce_putReply_95 rfl (lv_at hl 4 rfl) ?_
      refine t_get0 (ci := 4) X Y S k4 rfl i_Ce 4 (by decide) rfl lk_Ce_34 (fun _ h9 => h9) d_Ce_putReply_96 ((gF_same (s39.2.2.2 _ ⟨(t_obj S.1 k4).1, by rw [k4]; decide, by simp⟩).1 4).trans ((gF_same (s17.2.2.2 _ ⟨(t_obj S.1 k4).1, by rw [k4]; decide, by simp⟩).1 4).trans ((gF_same (s15.2.2.2 _ ⟨(t_obj S.1 k4).1, by rw [k4]; decide, by simp⟩).1 4).trans ((gF_same (s14.2.2.2 _ ⟨(t_obj S.1 k4).1, by rw [k4]; decide, by simp⟩).1 4).trans ((gF_same (s13.2.2.2 _ ⟨(t_obj S.1 k4).1, by rw [k4]; decide, by simp⟩).1 4).trans ((gF_same (s12.2.2.2 _ ⟨(t_obj S.1 k4).1, by rw [k4]; decide, by simp⟩).1 4).trans e11)))))) ?_
      refine lv_bipush (v := iI 48) X.1 X.2.1 d_Ce_putReply_99 (by decide) ?_
      refine t_ni (t_runV (As := [.int (iI 48)]) (rest := []) (n := 1) X Y S k11 hml hl.1 (c_By_open l D E T κ3 L3 f39 H.size b11 12288 k11 (by omega) 48 (by omega) (by omega) S.1) (ok_k X Y hA KS KR) rfl kl_Ce_By_open ks_By_open kx_By_open ki_By_open ini_By ⟨rfl, rfl⟩ hd_By_open ⟨Nat.le_of_ble_eq_true rfl, Nat.le_of_ble_eq_true rfl⟩ rfl (Nat.le_of_ble_eq_true rfl) d_Ce_putReply_101 ⟨Nat.le_of_ble_eq_true rfl, Nat.le_of_ble_eq_true rfl⟩) X Y hA S (by decide) (fun z40 f40 H locs Y S s40 p40 => ?_)
      obtain ⟨l40, u40⟩ := p40
      refine lv_istore (lv' := [(6, .int (iI z40)), (5, .int (iI z39)), (4, .int (iI z14)), (3, .int (iI z13)), (2, .int (iI z6)), (0, .ref h), (1, .ref b3)]) X.1 X.2.1 d_Ce_putReply_104 hl (by decide) rfl (fun ls hl => ?_)
      refine lv_aload_n X.1 X.2.1 d_Ce_putReply_106 rfl (lv_at hl 5 rfl) ?_
      refine lv_iconst (v := iI 0) X.1 X.2.1 d_Ce_putReply_107 (by decide) ?_
      refine t_nv (t_runV (As := [.int (iI 0)]) (rest := []) (n := 1) X Y S k4 hml hl.1 (c_Ce_putInfo l D E T κ3 L3 f40 H.size h k4 0 (by omega) (by omega) S.1) (ok_k X Y hA KS KR) rfl kl_Ce_Ce_putInfo ks_Ce_putInfo kx_Ce_putInfo ki_Ce_putInfo ini_Ce ⟨rfl, rfl⟩ hd_Ce_putInfo ⟨Nat.le_of_ble_eq_true rfl, Nat.le_of_ble_eq_true rfl⟩ rfl (Nat.le_of_ble_eq_true rfl) d_Ce_putReply_108 ⟨Nat.le_of_ble_eq_true rfl, Nat.le_of_ble_eq_true rfl⟩) X Y hA S (by decide) (fun f41 H locs Y S s41 p41 => ?_)
      refine lv_aload_n X.1 X.2.1 d_Ce_putReply_111 rfl (lv_at hl 5 rfl) ?_
      refine t_get0 (ci := 4) X Y S k4 rfl i_Ce 4 (by decide) rfl lk_Ce_34 (fun _ h9 => h9) d_Ce_putReply_112 ((gF_same (s41.2.2.2 _ ⟨(t_obj S.1 k4).1, by rw [k4]; decide, by simp⟩).1 4).trans ((gF_same (s40.2.2.2 _ ⟨(t_obj S.1 k4).1, by rw [k4]; decide, by simp⟩).1 4).trans ((gF_same (s39.2.2.2 _ ⟨(t_obj S.1 k4).1, by rw [k4]; decide, by simp⟩).1 4).trans ((gF_same (s17.2.2.2 _ ⟨(t_obj S.1 k4).1, by rw [k4]; decide, by simp⟩).1 4).trans ((gF_same (s15.2.2.2 _ ⟨(t_obj S.1 k4).1, by rw [k4]; decide, by simp⟩).1 4).trans ((gF_same (s14.2.2.2 _ ⟨(t_obj S.1 k4).1, by rw [k4]; decide, by simp⟩).1 4).trans ((gF_same (s13.2.2.2 _ ⟨(t_obj S.1 k4).1, by rw [k4]; decide, by simp⟩).1 4).trans ((gF_same (s12.2.2.2 _ ⟨(t_obj S.1 k4).1, by rw [k4]; decide, by simp⟩).1 4).trans e11)))))))) ?_
      refine lv_iload X.1 X.2.1 d_Ce_putReply_115 (lv_at hl 0 rfl) ?_
      refine t_nv (t_runV (As := [.int (iI z40)]) (rest := []) (n := 1) X Y S k11 hml hl.1 (c_By_close l D E T κ3 L3 f41 H.size b11 12288 k11 (by omega) z40 (by omega) (by omega) S.1) (ok_k X Y hA KS KR) rfl kl_Ce_By_close ks_By_close kx_By_close ki_By_close ini_By ⟨rfl, rfl⟩ hd_By_close ⟨Nat.le_of_ble_eq_true rfl, Nat.le_of_ble_eq_true rfl⟩ rfl (Nat.le_of_ble_eq_true rfl) d_Ce_putReply_117 ⟨Nat.le_of_ble_eq_true rfl, Nat.le_of_ble_eq_true rfl⟩) X Y hA S (by decide) (fun f42 H locs Y S s42 p42 => ?_)
      refine lv_aload_n X.1 X.2.1 d_Ce_putReply_120 rfl (lv_at hl 5 rfl) ?_
      refine t_get0 (ci := 4) X Y S k4 rfl i_Ce 4 (by decide) rfl lk_Ce_34 (fun _ h9 => h9) d_Ce_putReply_121 ((gF_same (s42.2.2.2 _ ⟨(t_obj S.1 k4).1, by rw [k4]; decide, by simp⟩).1 4).trans ((gF_same (s41.2.2.2 _ ⟨(t_obj S.1 k4).1, by rw [k4]; decide, by simp⟩).1 4).trans ((gF_same (s40.2.2.2 _ ⟨(t_obj S.1 k4).1, by rw [k4]; decide, by simp⟩).1 4).trans ((gF_same (s39.2.2.2 _ ⟨(t_obj S.1 k4).1, by rw [k4]; decide, by simp⟩).1 4).trans ((gF_same (s17.2.2.2 _ ⟨(t_obj S.1 k4).1, by rw [k4]; decide, by simp⟩).1 4).trans ((gF_same (s15.2.2.2 _ ⟨(t_obj S.1 k4).1, by rw [k4]; decide, by simp⟩).1 4).trans ((gF_same (s14.2.2.2 _ ⟨(t_obj S.1 k4).1, by rw [k4]; decide, by simp⟩).1 4).trans ((gF_same (s13.2.2.2 _ ⟨(t_obj S.1 k4).1, by rw [k4]; decide, by simp⟩).1 4).trans ((gF_same (s12.2.2.2 _ ⟨(t_obj S.1 k4).1, by rw [k4]; decide, by simp⟩).1 4).trans e11))))))))) ?_
      refine lv_iload X.1 X.2.1 d_Ce_putReply_124 (lv_at hl 1 rfl) ?_
      refine t_nv (t_runV (As := [.int (iI z39)]) (rest := []) (n := 1) X Y S k11 hml hl.1 (c_By_close l D E T κ3 L3 f42 H.size b11 12288 k11 (by omega) z39 (by omega) (by omega) S.1) (ok_k X Y hA KS KR) rfl kl_Ce_By_close ks_By_close kx_By_close ki_By_close ini_By ⟨rfl, rfl⟩ hd_By_close ⟨Nat.le_of_ble_eq_true rfl, Nat.le_of_ble_eq_true rfl⟩ rfl (Nat.le_of_ble_eq_true rfl) d_Ce_putReply_126 ⟨Nat.le_of_ble_eq_true rfl, Nat.le_of_ble_eq_true rfl⟩) X Y hA S (by decide) (fun f43 H locs Y S s43 p43 => ?_)
      exact J19 f43 _ _ _  Y S (lv_sub hl [5, 6, 3, 2] rfl)
  refine z_if_eq (tgt := 24) X.1 X.2.1 d_Ce_putReply_16 (by decide) ⟨by omega, by omega⟩ (fun h44 => ?_) (fun h44 => ?_)
  · refine lv_bipush (v := iI 13) X.1 X.2.1 d_Ce_putReply_24 (by decide) ?_
    exact J7 13 _ _ _ (by omega) (by omega) Y S (lv_sub hl [1, 0] rfl)
  · refine lv_bipush (v := iI 11) X.1 X.2.1 d_Ce_putReply_19 (by decide) ?_
    refine lv_goto (tgt := 26) X.1 X.2.1 d_Ce_putReply_21 (by decide) ?_
    exact J7 11 _ _ _ (by omega) (by omega) Y S (lv_sub hl [1, 0] rfl)
set_option maxHeartbeats 4000000 in
set_option maxRecDepth 100000 in
theorem c_Ce_putMethods (l : Launch) (D : va_G) (E : cE) (T : cT) (κ : tK) (L : List Nat) (f : pF) (sz : Nat) (h : Nat) (k0 : κ h = (14, 0)) (hw : tW E T κ L f) : Met l y_Ce_putMethods (k_Ce_putMethods :: lw_tg) (kRm 8 188 0 0) (va_Pc [.ref h] (kPre D E T L f sz)) (va_Qv (nPv E T [1, 13] κ L f (fun (g : pF) => True)) (cPost D E (pA L sz)) (pA L sz)) 0 0 (pA L sz) := by
  refine k_enter (own := R_Ce) (by decide) rfl (Nat.le_of_ble_eq_true rfl) (fun p e s m below meth c ls AV QQ H locs hQQ X Y hA hin hr hlk hml hl KS KR => ?_)
  have hl : lv_has ls 5 [(0, .ref h)] := hl
  have S : tS E T (tFr κ L [1, 13] []) κ L f κ L f := tS_rf hw
  refine lv_aload_n X.1 X.2.1 d_Ce_putMethods_0 rfl (lv_at hl 0 rfl) ?_
  refine t_getr (ci := 4) X Y S k0 rfl i_Ce 4 (by decide) rfl (k1 := 13) (k2 := 12288) rfl rfl lk_Ce_34 (fun _ h9 => h9) d_Ce_putMethods_1 (fun b1 e1 k1 => ?_)
  refine lv_bipush (v := iI 12) X.1 X.2.1 d_Ce_putMethods_4 (by decide) ?_
  refine t_ni (t_runV (As := [.int (iI 12)]) (rest := []) (n := 1) X Y S k1 hml hl.1 (c_By_openField l D E T κ L f H.size b1 12288 k1 (by omega) 12 (by omega) (by omega) S.1) (ok_k X Y hA KS KR) rfl kl_Ce_By_openField ks_By_openField kx_By_openField ki_By_openField ini_By ⟨rfl, rfl⟩ hd_By_openField ⟨Nat.le_of_ble_eq_true rfl, Nat.le_of_ble_eq_true rfl⟩ rfl (Nat.le_of_ble_eq_true rfl) d_Ce_putMethods_6 ⟨Nat.le_of_ble_eq_true rfl, Nat.le_of_ble_eq_true rfl⟩) X Y hA S (by decide) (fun z2 f2 H locs Y S s2 p2 => ?_)
  obtain ⟨l2, u2⟩ := p2
  refine lv_istore_n (lv' := [(1, .int (iI z2)), (0, .ref h)]) X.1 X.2.1 d_Ce_putMethods_9 rfl hl (by decide) rfl (fun ls hl => ?_)
  refine lv_aload_n X.1 X.2.1 d_Ce_putMethods_10 rfl (lv_at hl 1 rfl) ?_
  refine t_get0 (ci := 4) X Y S k0 rfl i_Ce 4 (by decide) rfl lk_Ce_34 (fun _ h9 => h9) d_Ce_putMethods_11 ((gF_same (s2.2.2.2 _ ⟨(t_obj S.1 k0).1, by rw [k0]; decide, by simp⟩).1 4).trans e1) ?_
  refine lv_iconst (v := iI 4) X.1 X.2.1 d_Ce_putMethods_14 (by decide) ?_
  refine t_ni (t_runV (As := [.int (iI 4)]) (rest := []) (n := 1) X Y S k1 hml hl.1 (c_By_open l D E T κ L f2 H.size b1 12288 k1 (by omega) 4 (by omega) (by omega) S.1) (ok_k X Y hA KS KR) rfl kl_Ce_By_open ks_By_open kx_By_open ki_By_open ini_By ⟨rfl, rfl⟩ hd_By_open ⟨Nat.le_of_ble_eq_true rfl, Nat.le_of_ble_eq_true rfl⟩ rfl (Nat.le_of_ble_eq_true rfl) d_Ce_putMethods_15 ⟨Nat.le_of_ble_eq_true rfl, Nat.le_of_ble_eq_true rfl⟩) X Y hA S (by decide) (fun z3 f3 H locs Y S s3 p3 => ?_)
  obtain ⟨l3, u3⟩ := p3
  refine lv_istore_n (lv' := [(2, .int (iI z3)), (1, .int (iI z2)), (0, .ref h)]) X.1 X.2.1 d_Ce_putMethods_18 rfl hl (by decide) rfl (fun ls hl => ?_)
  refine lv_aload_n X.1 X.2.1 d_Ce_putMethods_19 rfl (lv_at hl 2 rfl) ?_
  refine t_get0 (ci := 4) X Y S k0 rfl i_Ce 4 (by decide) rfl lk_Ce_34 (fun _ h9 => h9) d_Ce_putMethods_20 ((gF_same (s3.2.2.2 _ ⟨(t_obj S.1 k0).1, by rw [k0]; decide, by simp⟩).1 4).trans ((gF_same (s2.2.2.2 _ ⟨(t_obj S.1 k0).1, by rw [k0]; decide, by simp⟩).1 4).trans e1)) ?_
  refine lv_bipush (v := iI 48) X.1 X.2.1 d_Ce_putMethods_23 (by decide) ?_
  refine t_ni (t_runV (As := [.int (iI 48)]) (rest := []) (n := 1) X Y S k1 hml hl.1 (c_By_open l D E T κ L f3 H.size b1 12288 k1 (by omega) 48 (by omega) (by omega) S.1) (ok_k X Y hA KS KR) rfl kl_Ce_By_open ks_By_open kx_By_open ki_By_open ini_By ⟨rfl, rfl⟩ hd_By_open ⟨Nat.le_of_ble_eq_true rfl, Nat.le_of_ble_eq_true rfl⟩ rfl (Nat.le_of_ble_eq_true rfl) d_Ce_putMethods_25 ⟨Nat.le_of_ble_eq_true rfl, Nat.le_of_ble_eq_true rfl⟩) X Y hA S (by decide) (fun z4 f4 H locs Y S s4 p4 => ?_)
  obtain ⟨l4, u4⟩ := p4
  refine lv_istore_n (lv' := [(3, .int (iI z4)), (2, .int (iI z3)), (1, .int (iI z2)), (0, .ref h)]) X.1 X.2.1 d_Ce_putMethods_28 rfl hl (by decide) rfl (fun ls hl => ?_)
  refine lv_aload_n X.1 X.2.1 d_Ce_putMethods_29 rfl (lv_at hl 3 rfl) ?_
  refine t_get0 (ci := 4) X Y S k0 rfl i_Ce 4 (by decide) rfl lk_Ce_34 (fun _ h9 => h9) d_Ce_putMethods_30 ((gF_same (s4.2.2.2 _ ⟨(t_obj S.1 k0).1, by rw [k0]; decide, by simp⟩).1 4).trans ((gF_same (s3.2.2.2 _ ⟨(t_obj S.1 k0).1, by rw [k0]; decide, by simp⟩).1 4).trans ((gF_same (s2.2.2.2 _ ⟨(t_obj S.1 k0).1, by rw [k0]; decide, by simp⟩).1 4).trans e1))) ?_
  refine lv_bipush (v := iI 48) X.1 X.2.1 d_Ce_putMethods_33 (by decide) ?_
  refine t_ni (t_runV (As := [.int (iI 48)]) (rest := []) (n := 1) X Y S k1 hml hl.1 (c_By_open l D E T κ L f4 H.size b1 12288 k1 (by omega) 48 (by omega) (by omega) S.1) (ok_k X Y hA KS KR) rfl kl_Ce_By_open ks_By_open kx_By_open ki_By_open ini_By ⟨rfl, rfl⟩ hd_By_open ⟨Nat.le_of_ble_eq_true rfl, Nat.le_of_ble_eq_true rfl⟩ rfl (Nat.le_of_ble_eq_true rfl) d_Ce_putMethods_35 ⟨Nat.le_of_ble_eq_true rfl, Nat.le_of_ble_eq_true rfl⟩) X Y hA S (by decide) (fun z5 f5 H locs Y S s5 p5 => ?_)
  obtain ⟨l5, u5⟩ := p5
  refine lv_istore (lv' := [(4, .int (iI z5)), (3, .int (iI z4)), (2, .int (iI z3)), (1, .int (iI z2)), (0, .ref h)]) X.1 X.2.1 d_Ce_putMethods_38 hl (by decide) rfl (fun ls hl => ?_)
  refine lv_aload_n X.1 X.2.1 d_Ce_putMethods_40 rfl (lv_at hl 4 rfl) ?_
  refine t_get0 (ci := 4) X Y S k0 rfl i_Ce 4 (by decide) rfl lk_Ce_34 (fun _ h9 => h9) d_Ce_putMethods_41 ((gF_same (s5.2.2.2 _ ⟨(t_obj S.1 k0).1, by rw [k0]; decide, by simp⟩).1 4).trans ((gF_same (s4.2.2.2 _ ⟨(t_obj S.1 k0).1, by rw [k0]; decide, by simp⟩).1 4).trans ((gF_same (s3.2.2.2 _ ⟨(t_obj S.1 k0).1, by rw [k0]; decide, by simp⟩).1 4).trans ((gF_same (s2.2.2.2 _ ⟨(t_obj S.1 k0).1, by rw [k0]; decide, by simp⟩).1 4).trans e1)))) ?_
  refine lv_iconst (v := iI 1) X.1 X.2.1 d_Ce_putMethods_44 (by decide) ?_
  refine lv_ldc2 (v := (2)) X.1 X.2.1 X.2.2.2.1 (X.2.2.1 _ cl_Ce_373) d_Ce_putMethods_45 ?_
  refine t_nv (t_runV (As := [.int (iI 1), .long ((2))]) (rest := []) (n := 2) X Y S k1 hml hl.1 (c_By_putNumber l D E T κ L f5 H.size b1 12288 k1 (by omega) 1 (by omega) (by omega) ((2)) S.1) (ok_k X Y hA KS KR) rfl kl_Ce_By_putNumber ks_By_putNumber kx_By_putNumber ki_By_putNumber ini_By ⟨rfl, rfl⟩ hd_By_putNumber ⟨Nat.le_of_ble_eq_true rfl, Nat.le_of_ble_eq_true rfl⟩ rfl (Nat.le_of_ble_eq_true rfl) d_Ce_putMethods_48 ⟨Nat.le_of_ble_eq_true rfl, Nat.le_of_ble_eq_true rfl⟩) X Y hA S (by decide) (fun f6 H locs Y S s6 p6 => ?_)
  refine lv_aload_n X.1 X.2.1 d_Ce_putMethods_51 rfl (lv_at hl 4 rfl) ?_
  refine t_get0 (ci := 4) X Y S k0 rfl i_Ce 4 (by decide) rfl lk_Ce_34 (fun _ h9 => h9) d_Ce_putMethods_52 ((gF_same (s6.2.2.2 _ ⟨(t_obj S.1 k0).1, by rw [k0]; decide, by simp⟩).1 4).trans ((gF_same (s5.2.2.2 _ ⟨(t_obj S.1 k0).1, by rw [k0]; decide, by simp⟩).1 4).trans ((gF_same (s4.2.2.2 _ ⟨(t_obj S.1 k0).1, by rw [k0]; decide, by simp⟩).1 4).trans ((gF_same (s3.2.2.2 _ ⟨(t_obj S.1 k0).1, by rw [k0]; decide, by simp⟩).1 4).trans ((gF_same (s2.2.2.2 _ ⟨(t_obj S.1 k0).1, by rw [k0]; decide, by simp⟩).1 4).trans e1))))) ?_
  refine lv_iconst (v := iI 2) X.1 X.2.1 d_Ce_putMethods_55 (by decide) ?_
  refine k_getsN X Y KS KR (by decide) d_Ce_putMethods_56 ?_
  refine lv_iconst (v := iI 0) X.1 X.2.1 d_Ce_putMethods_59 (by decide) ?_
  refine lv_iconst (v := iI 0) X.1 X.2.1 d_Ce_putMethods_60 (by decide) ?_
  refine t_nv (t_runV (As := [.int (iI 2), .ref ((T.1 0)), .int (iI 0), .int (iI 0)]) (rest := []) (n := 4) X Y S k1 hml hl.1 (c_By_putOctets l D E T κ L f6 H.size b1 12288 k1 (by omega) 2 (by omega) (by omega) ((T.1 0)) 0 tSrc_no (by omega) 0 (by omega) (by omega) 0 (by omega) (by omega) S.1) (ok_k X Y hA KS KR) rfl kl_Ce_By_putOctets ks_By_putOctets kx_By_putOctets ki_By_putOctets ini_By ⟨rfl, rfl⟩ hd_By_putOctets ⟨Nat.le_of_ble_eq_true rfl, Nat.le_of_ble_eq_true rfl⟩ rfl (Nat.le_of_ble_eq_true rfl) d_Ce_putMethods_61 ⟨Nat.le_of_ble_eq_true rfl, Nat.le_of_ble_eq_true rfl⟩) X Y hA S (by decide) (fun f7 H locs Y S s7 p7 => ?_)
  refine lv_aload_n X.1 X.2.1 d_Ce_putMethods_64 rfl (lv_at hl 4 rfl) ?_
  refine t_get0 (ci := 4) X Y S k0 rfl i_Ce 4 (by decide) rfl lk_Ce_34 (fun _ h9 => h9) d_Ce_putMethods_65 ((gF_same (s7.2.2.2 _ ⟨(t_obj S.1 k0).1, by rw [k0]; decide, by simp⟩).1 4).trans ((gF_same (s6.2.2.2 _ ⟨(t_obj S.1 k0).1, by rw [k0]; decide, by simp⟩).1 4).trans ((gF_same (s5.2.2.2 _ ⟨(t_obj S.1 k0).1, by rw [k0]; decide, by simp⟩).1 4).trans ((gF_same (s4.2.2.2 _ ⟨(t_obj S.1 k0).1, by rw [k0]; decide, by simp⟩).1 4).trans ((gF_same (s3.2.2.2 _ ⟨(t_obj S.1 k0).1, by rw [k0]; decide, by simp⟩).1 4).trans ((gF_same (s2.2.2.2 _ ⟨(t_obj S.1 k0).1, by rw [k0]; decide, by simp⟩).1 4).trans e1)))))) ?_
  refine lv_iload X.1 X.2.1 d_Ce_putMethods_68 (lv_at hl 0 rfl) ?_
  refine t_nv (t_runV (As := [.int (iI z5)]) (rest := []) (n := 1) X Y S k1 hml hl.1 (c_By_close l D E T κ L f7 H.size b1 12288 k1 (by omega) z5 (by omega) (by omega) S.1) (ok_k X Y hA KS KR) rfl kl_Ce_By_close ks_By_close kx_By_close ki_By_close ini_By ⟨rfl, rfl⟩ hd_By_close ⟨Nat.le_of_ble_eq_true rfl, Nat.le_of_ble_eq_true rfl⟩ rfl (Nat.le_of_ble_eq_true rfl) d_Ce_putMethods_70 ⟨Nat.le_of_ble_eq_true rfl, Nat.le_of_ble_eq_true rfl⟩) X Y hA S (by decide) (fun f8 H locs Y S s8 p8 => ?_)
  refine lv_aload_n X.1 X.2.1 d_Ce_putMethods_73 rfl (lv_at hl 4 rfl) ?_
  refine lv_iconst (v := iI 1) X.1 X.2.1 d_Ce_putMethods_74 (by decide) ?_
  refine t_nv (t_runV (As := [.int (iI 1)]) (rest := []) (n := 1) X Y S k0 hml hl.1 (c_Ce_putInfo l D E T κ L f8 H.size h k0 1 (by omega) (by omega) S.1) (ok_k X Y hA KS KR) rfl kl_Ce_Ce_putInfo ks_Ce_putInfo kx_Ce_putInfo ki_Ce_putInfo ini_Ce ⟨rfl, rfl⟩ hd_Ce_putInfo ⟨Nat.le_of_ble_eq_true rfl, Nat.le_of_ble_eq_true rfl⟩ rfl (Nat.le_of_ble_eq_true rfl) d_Ce_putMethods_75 ⟨Nat.le_of_ble_eq_true rfl, Nat.le_of_ble_eq_true rfl⟩) X Y hA S (by decide) (fun f9 H locs Y S s9 p9 => ?_)
  refine lv_aload_n X.1 X.2.1 d_Ce_putMethods_78 rfl (lv_at hl 4 rfl) ?_
  refine t_get0 (ci := 4) X Y S k0 rfl i_Ce 4 (by decide) rfl lk_Ce_34 (fun _ h9 => h9) d_Ce_putMethods_79 ((gF_same (s9.2.2.2 _ ⟨(t_obj S.1 k0).1, by rw [k0]; decide, by simp⟩).1 4).trans ((gF_same (s8.2.2.2 _ ⟨(t_obj S.1 k0).1, by rw [k0]; decide, by simp⟩).1 4).trans ((gF_same (s7.2.2.2 _ ⟨(t_obj S.1 k0).1, by rw [k0]; decide, by simp⟩).1 4).trans ((gF_same (s6.2.2.2 _ ⟨(t_obj S.1 k0).1, by rw [k0]; decide, by simp⟩).1 4).trans ((gF_same (s5.2.2.2 _ ⟨(t_obj S.1 k0).1, by rw [k0]; decide, by simp⟩).1 4).trans ((gF_same (s4.2.2.2 _ ⟨(t_obj S.1 k0).1, by rw [k0]; decide, by simp⟩).1 4).trans ((gF_same (s3.2.2.2 _ ⟨(t_obj S.1 k0).1, by rw [k0]; decide, by simp⟩).1 4).trans ((gF_same (s2.2.2.2 _ ⟨(t_obj S.1 k0).1, by rw [k0]; decide, by simp⟩).1 4).trans e1)))))))) ?_
  refine lv_iload_n X.1 X.2.1 d_Ce_putMethods_82 rfl (lv_at hl 1 rfl) ?_
  refine t_nv (t_runV (As := [.int (iI z4)]) (rest := []) (n := 1) X Y S k1 hml hl.1 (c_By_close l D E T κ L f9 H.size b1 12288 k1 (by omega) z4 (by omega) (by omega) S.1) (ok_k X Y hA KS KR) rfl kl_Ce_By_close ks_By_close kx_By_close ki_By_close ini_By ⟨rfl, rfl⟩ hd_By_close ⟨Nat.le_of_ble_eq_true rfl, Nat.le_of_ble_eq_true rfl⟩ rfl (Nat.le_of_ble_eq_true rfl) d_Ce_putMethods_83 ⟨Nat.le_of_ble_eq_true rfl, Nat.le_of_ble_eq_true rfl⟩) X Y hA S (by decide) (fun f10 H locs Y S s10 p10 => ?_)
  refine lv_aload_n X.1 X.2.1 d_Ce_putMethods_86 rfl (lv_at hl 4 rfl) ?_
  refine t_get0 (ci := 4) X Y S k0 rfl i_Ce 4 (by decide) rfl lk_Ce_34 (fun _ h9 => h9) d_Ce_putMethods_87 ((gF_same (s10.2.2.2 _ ⟨(t_obj S.1 k0).1, by rw [k0]; decide, by simp⟩).1 4).trans ((gF_same (s9.2.2.2 _ ⟨(t_obj S.1 k0).1, by rw [k0]; decide, by simp⟩).1 4).trans ((gF_same (s8.2.2.2 _ ⟨(t_obj S.1 k0).1, by rw [k0]; decide, by simp⟩).1 4).trans ((gF_same (s7.2.2.2 _ ⟨(t_obj S.1 k0).1, by rw [k0]; decide, by simp⟩).1 4).trans ((gF_same (s6.2.2.2 _ ⟨(t_obj S.1 k0).1, by rw [k0]; decide, by simp⟩).1 4).trans ((gF_same (s5.2.2.2 _ ⟨(t_obj S.1 k0).1, by rw [k0]; decide, by simp⟩).1 4).trans ((gF_same (s4.2.2.2 _ ⟨(t_obj S.1 k0).1, by rw [k0]; decide, by simp⟩).1 4).trans ((gF_same (s3.2.2.2 _ ⟨(t_obj S.1 k0).1, by rw [k0]; decide, by simp⟩).1 4).trans ((gF_same (s2.2.2.2 _ ⟨(t_obj S.1 k0).1, by rw [k0]; decide, by simp⟩).1 4).trans e1))))))))) ?_
  refine lv_iload_n X.1 X.2.1 d_Ce_putMethods_90 rfl (lv_at hl 2 rfl) ?_
  refine t_nv (t_runV (As := [.int (iI z3)]) (rest := []) (n := 1) X Y S k1 hml hl.1 (c_By_close l D E T κ L f10 H.size b1 12288 k1 (by omega) z3 (by omega) (by omega) S.1) (ok_k X Y hA KS KR) rfl kl_Ce_By_close ks_By_close kx_By_close ki_By_close ini_By ⟨rfl, rfl⟩ hd_By_close ⟨Nat.le_of_ble_eq_true rfl, Nat.le_of_ble_eq_true rfl⟩ rfl (Nat.le_of_ble_eq_true rfl) d_Ce_putMethods_91 ⟨Nat.le_of_ble_eq_true rfl, Nat.le_of_ble_eq_true rfl⟩) X Y hA S (by decide) (fun f11 H locs Y S s11 p11 => ?_)
  refine lv_aload_n X.1 X.2.1 d_Ce_putMethods_94 rfl (lv_at hl 4 rfl) ?_
  refine t_get0 (ci := 4) X Y S k0 rfl i_Ce 4 (by decide) rfl lk_Ce_34 (fun _ h9 => h9) d_Ce_putMethods_95 ((gF_same (s11.2.2.2 _ ⟨(t_obj S.1 k0).1, by rw [k0]; decide, by simp⟩).1 4).trans ((gF_same (s10.2.2.2 _ ⟨(t_obj S.1 k0).1, by rw [k0]; decide, by simp⟩).1 4).trans ((gF_same (s9.2.2.2 _ ⟨(t_obj S.1 k0).1, by rw [k0]; decide, by simp⟩).1 4).trans ((gF_same (s8.2.2.2 _ ⟨(t_obj S.1 k0).1, by rw [k0]; decide, by simp⟩).1 4).trans ((gF_same (s7.2.2.2 _ ⟨(t_obj S.1 k0).1, by rw [k0]; decide, by simp⟩).1 4).trans ((gF_same (s6.2.2.2 _ ⟨(t_obj S.1 k0).1, by rw [k0]; decide, by simp⟩).1 4).trans ((gF_same (s5.2.2.2 _ ⟨(t_obj S.1 k0).1, by rw [k0]; decide, by simp⟩).1 4).trans ((gF_same (s4.2.2.2 _ ⟨(t_obj S.1 k0).1, by rw [k0]; decide, by simp⟩).1 4).trans ((gF_same (s3.2.2.2 _ ⟨(t_obj S.1 k0).1, by rw [k0]; decide, by simp⟩).1 4).trans ((gF_same (s2.2.2.2 _ ⟨(t_obj S.1 k0).1, by rw [k0]; decide, by simp⟩).1 4).trans e1)))))))))) ?_
  refine lv_iload_n X.1 X.2.1 d_Ce_putMethods_98 rfl (lv_at hl 3 rfl) ?_
  refine t_nv (t_runV (As := [.int (iI z2)]) (rest := []) (n := 1) X Y S k1 hml hl.1 (c_By_close l D E T κ L f11 H.size b1 12288 k1 (by omega) z2 (by omega) (by omega) S.1) (ok_k X Y hA KS KR) rfl kl_Ce_By_close ks_By_close kx_By_close ki_By_close ini_By ⟨rfl, rfl⟩ hd_By_close ⟨Nat.le_of_ble_eq_true rfl, Nat.le_of_ble_eq_true rfl⟩ rfl (Nat.le_of_ble_eq_true rfl) d_Ce_putMethods_99 ⟨Nat.le_of_ble_eq_true rfl, Nat.le_of_ble_eq_true rfl⟩) X Y hA S (by decide) (fun f12 H locs Y S s12 p12 => ?_)
  exact c_retv hQQ X Y hr hlk ⟨rfl, S, trivial⟩ d_Ce_putMethods_102
set_option maxHeartbeats 4000000 in
set_option maxRecDepth 100000 in
theorem c_Ce_putError (l : Launch) (D : va_G) (E : cE) (T : cT) (κ : tK) (L : List Nat) (f : pF) (sz : Nat) (h : Nat) (k0 : κ h = (14, 0)) (a1 : Int) (l_a1 : (-2147483648) ≤ a1) (u_a1 : a1 ≤ 2147483647) (hw : tW E T κ L f) : Met l y_Ce_putError (k_Ce_putError :: lw_tg) (kRm 9 212 0 0) (va_Pc [.ref h, .int (iI a1)] (kPre D E T L f sz)) (va_Qv (nPv E T [1, 13] κ L f (fun (g : pF) => True)) (cPost D E (pA L sz)) (pA L sz)) 0 0 (pA L sz) := by
  refine k_enter (own := R_Ce) (by decide) rfl (Nat.le_of_ble_eq_true rfl) (fun p e s m below meth c ls AV QQ H locs hQQ X Y hA hin hr hlk hml hl KS KR => ?_)
  have hl : lv_has ls 7 [(0, .ref h), (1, .int (iI a1))] := hl
  have S : tS E T (tFr κ L [1, 13] []) κ L f κ L f := tS_rf hw
  refine lv_aload_n X.1 X.2.1 d_Ce_putError_0 rfl (lv_at hl 0 rfl) ?_
  refine t_geti (ci := 4) X Y S k0 rfl i_Ce 7 (by decide) rfl lk_Ce_76 (fun _ h9 => h9) d_Ce_putError_1 (fun z1 e1 l1 u1 => ?_)
  have J3 : ∀ (z2 : Int) (H : Heap) (locs : List Loc) (ls : Array Slot), ((-1) ≤ z2) → (z2 ≤ 12420) → pH D cCl (pA L sz) s.heap L f H locs → tS E T (tFr κ L [1, 13] []) κ L f κ L f → lv_has ls 7 [(0, .ref h), (1, .int (iI a1))] → W p l e (kRm 9 212 0 0) s m AV below meth c H locs 0 0 QQ (F0 m 20 ls [.int (iI z2)]) := by
    intro z2 H locs ls l2 u2 Y S hl
    refine lv_istore_n (lv' := [(2, .int (iI z2)), (0, .ref h), (1, .int (iI a1))]) X.1 X.2.1 d_Ce_putError_20 rfl hl (by decide) rfl (fun ls hl => ?_)
    refine lv_aload_n X.1 X.2.1 d_Ce_putError_21 rfl (lv_at hl 1 rfl) ?_
    refine t_geti (ci := 4) X Y S k0 rfl i_Ce 6 (by decide) rfl lk_Ce_65 (fun _ h9 => h9) d_Ce_putError_22 (fun z7 e7 l7 u7 => ?_)
    have J9 : ∀ (z8 : Int) (H : Heap) (locs : List Loc) (ls : Array Slot), ((-1) ≤ z8) → (z8 ≤ 12420) → pH D cCl (pA L sz) s.heap L f H locs → tS E T (tFr κ L [1, 13] []) κ L f κ L f → lv_has ls 7 [(0, .ref h), (1, .int (iI a1)), (2, .int (iI z5))] → W p l e (kRm 9 212 0 0) s m AV below meth c H locs 0 0 QQ (F0 m 41 ls [.int (iI z8)]) := by
      intro z8 H locs ls l8 u8 Y S hl
      refine lv_istore_n (lv' := [(3, .int (iI z8)), (0, .ref h), (1, .int (iI a1)), (2, .int (iI z5))]) X.1 X.2.1 d_Ce_putError_41 rfl hl (by decide) rfl (fun ls hl => ?_)
      refine lv_aload_n X.1 X.2.1 d_Ce_putError_42 rfl (lv_at hl 1 rfl) ?_
      refine t_getr (ci := 4) X Y S k0 rfl i_Ce 3 (by decide) rfl (k1 := 13) (k2 := 4000) rfl rfl lk_Ce_30 (fun _ h9 => h9) d_Ce_putError_43 (fun b13 e13 k13 => ?_)
      refine lv_iload_n X.1 X.2.1 d_Ce_putError_46 rfl (lv_at hl 3 rfl) ?_
      refine lv_iconst (v := iI 3) X.1 X.2.1 d_Ce_putError_47 (by decide) ?_
      refine t_ui (t_runV (As := [.int (iI z5), .int (iI 3)]) (rest := []) (n := 2) X Y S k13 hml hl.1 (c_By_field l D E T κ L f H.size b13 4000 k13 (by omega) z5 (by omega) (by omega) 3 (by omega) (by omega) S.1) (ok_k X Y hA KS KR) rfl kl_Ce_By_field ks_By_field kx_By_field ki_By_field ini_By ⟨rfl, rfl⟩ hd_By_field ⟨Nat.le_of_ble_eq_true rfl, Nat.le_of_ble_eq_true rfl⟩ rfl (Nat.le_of_ble_eq_true rfl) d_Ce_putError_48 ⟨Nat.le_of_ble_eq_true rfl, Nat.le_of_ble_eq_true rfl⟩) X Y hA (fun z14 H locs Y p14 => ?_)
      obtain ⟨l14, u14⟩ := p14
      refine lv_istore (lv' := [(4, .int (iI z14)), (3, .int (iI z8)), (0, .ref h), (1, .int (iI a1)), (2, .int (iI z5))]) X.1 X.2.1 d_Ce_putError_51 hl (by decide) rfl (fun ls hl => ?_)
      refine lv_aload_n X.1 X.2.1 d_Ce_putError_53 rfl (lv_at hl 2 rfl) ?_
      refine t_getr (ci := 4) X Y S k0 rfl i_Ce 4 (by decide) rfl (k1 := 13) (k2 := 12288) rfl rfl lk_Ce_34 (fun _ h9 => h9) d_Ce_putError_54 (fun b15 e15 k15 => ?_)
      refine t_nv (t_runV (As := []) (rest := []) (n := 0) X Y S k15 hml hl.1 (c_By_clear l D E T κ L f H.size b15 12288 k15 (by omega) S.1) (ok_k X Y hA KS KR) rfl kl_Ce_By_clear ks_By_clear kx_By_clear ki_By_clear ini_By ⟨rfl, rfl⟩ hd_By_clear ⟨Nat.le_of_ble_eq_true rfl, Nat.le_of_ble_eq_true rfl⟩ rfl (Nat.le_of_ble_eq_true rfl) d_Ce_putError_57 ⟨Nat.le_of_ble_eq_true rfl, Nat.le_of_ble_eq_true rfl⟩) X Y hA S (by decide) (fun f16 H locs Y S s16 p16 => ?_)
      refine lv_aload_n X.1 X.2.1 d_Ce_putError_60 rfl (lv_at hl 2 rfl) ?_
      refine t_get0 (ci := 4) X Y S k0 rfl i_Ce 4 (by decide) rfl lk_Ce_34 (fun _ h9 => h9) d_Ce_putError_61 ((gF_same (s16.2.2.2 _ ⟨(t_obj S.1 k0).1, by rw [k0]; decide, by simp⟩).1 4).trans e15) ?_
      refine lv_bipush (v := iI 126) X.1 X.2.1 d_Ce_putError_64 (by decide) ?_
      refine t_ni (t_runV (As := [.int (iI 126)]) (rest := []) (n := 1) X Y S k15 hml hl.1 (c_By_open l D E T κ L f16 H.size b15 12288 k15 (by omega) 126 (by omega) (by omega) S.1) (ok_k X Y hA KS KR) rfl kl_Ce_By_open ks_By_open kx_By_open ki_By_open ini_By ⟨rfl, rfl⟩ hd_By_open ⟨Nat.le_of_ble_eq_true rfl, Nat.le_of_ble_eq_true rfl⟩ rfl (Nat.le_of_ble_eq_true rfl) d_Ce_putError_66 ⟨Nat.le_of_ble_eq_true rfl, Nat.le_of_ble_eq_true rfl⟩) X Y hA S (by decide) (fun z17 f17 H locs Y S s17 p17 => ?_)
      obtain ⟨l17, u17⟩ := p17
      refine lv_istore (lv' := [(5, .int (iI z17)), (4, .int (iI z14)), (3, .int (iI z8)), (0, .ref h), (1, .int (iI a1)), (2, .int (iI z5))]) X.1 X.2.1 d_Ce_putError_69 hl (by decide) rfl (fun ls hl => ?_)
      refine lv_aload_n X.1 X.2.1 d_Ce_putError_71 rfl (lv_at hl 3 rfl) ?_
      refine t_get0 (ci := 4) X Y S k0 rfl i_Ce 4 (by decide) rfl lk_Ce_34 (fun _ h9 => h9) d_Ce_putError_72 ((gF_same (s17.2.2.2 _ ⟨(t_obj S.1 k0).1, by rw [k0]; decide, by simp⟩).1 4).trans ((gF_same (s16.2.2.2 _ ⟨(t_obj S.1 k0).1, by rw [k0]; decide, by simp⟩).1 4).trans e15)) ?_
      refine lv_bipush (v := iI 48) X.1 X.2.1 d_Ce_putError_75 (by decide) ?_
      refine t_ni (t_runV (As := [.int (iI 48)]) (rest := []) (n := 1) X Y S k15 hml hl.1 (c_By_open l D E T κ L f17 H.size b15 12288 k15 (by omega) 48 (by omega) (by omega) S.1) (ok_k X Y hA KS KR) rfl kl_Ce_By_open ks_By_open kx_By_open ki_By_open ini_By ⟨rfl, rfl⟩ hd_By_open ⟨Nat.le_of_ble_eq_true rfl, Nat.le_of_ble_eq_true rfl⟩ rfl (Nat.le_of_ble_eq_true rfl) d_Ce_putError_77 ⟨Nat.le_of_ble_eq_true rfl, Nat.le_of_ble_eq_true rfl⟩) X Y hA S (by decide) (fun z18 f18 H locs Y S s18 p18 => ?_)
      obtain ⟨l18, u18⟩ := p18
      refine lv_istore (lv' := [(6, .int (iI z18)), (5, .int (iI z17)), (4, .int (iI z14)), (3, .int (iI z8)), (0, .ref h), (1, .int (iI a1)), (2, .int (iI z5))]) X.1 X.2.1 d_Ce_putError_80 hl (by decide) rfl (fun ls hl => ?_)
      refine lv_aload_n X.1 X.2.1 d_Ce_putError_82 rfl (lv_at hl 4 rfl) ?_
      refine t_get0 (ci := 4) X Y S k0 rfl i_Ce 4 (by decide) rfl lk_Ce_34 (fun _ h9 => h9) d_Ce_putError_83 ((gF_same (s18.2.2.2 _ ⟨(t_obj S.1 k0).1, by rw [k0]; decide, by simp⟩).1 4).trans ((gF_same (s17.2.2.2 _ ⟨(t_obj S.1 k0).1, by rw [k0]; decide, by simp⟩).1 4).trans ((gF_same (s16.2.2.2 _ ⟨(t_obj S.1 k0).1, by rw [k0]; decide, by simp⟩).1 4).trans e15))) ?_
      refine lv_aload_n X.1 X.2.1 d_Ce_putError_86 rfl (lv_at hl 4 rfl) ?_
      refine t_getr (ci := 4) X Y S k0 rfl i_Ce 0 (by decide) rfl (k1 := 21) (k2 := 0) rfl rfl lk_Ce_18 (fun _ h9 => h9) d_Ce_putError_87 (fun b19 e19 k19 => ?_)
      refine t_geti (ci := 11) X Y S k19 rfl i_Va 0 (by decide) rfl lk_Ce_112 (fun _ h9 => h9) d_Ce_putError_90 (fun z20 e20 l20 u20 => ?_)
      refine lv_iload_n X.1 X.2.1 d_Ce_putError_93 rfl (lv_at hl 5 rfl) ?_
      refine t_nv (t_runV (As := [.int (iI z20), .int (iI a1)]) (rest := []) (n := 2) X Y S k15 hml hl.1 (c_By_putErrorHead l D E T κ L f18 H.size b15 12288 k15 (by omega) z20 (by omega) (by omega) a1 (by omega) (by omega) S.1) (ok_k X Y hA KS KR) rfl kl_Ce_By_putErrorHead ks_By_putErrorHead kx_By_putErrorHead ki_By_putErrorHead ini_By ⟨rfl, rfl⟩ hd_By_putErrorHead ⟨Nat.le_of_ble_eq_true rfl, Nat.le_of_ble_eq_true rfl⟩ rfl (Nat.le_of_ble_eq_true rfl) d_Ce_putError_94 ⟨Nat.le_of_ble_eq_true rfl, Nat.le_of_ble_eq_true rfl⟩) X Y hA S (by decide) (fun f21 H locs Y S s21 p21 => ?_)
      refine lv_iload_n X.1 X.2.1 d_Ce_putError_97 rfl (lv_at hl 3 rfl) ?_
      have J23 : ∀ (f22 : pF) (H : Heap) (locs : List Loc) (ls : Array Slot), pH D cCl (pA L sz) s.heap L f22 H locs → tS E T (tFr κ L [1, 13] []) κ L f κ L f22 → lv_has ls 7 [(0, .ref h), (1, .int (iI a1)), (4, .int (iI z12)), (5, .int (iI z15)), (6, .int (iI z16))] → W p l e (kRm 9 212 0 0) s m AV below meth c H locs 0 0 QQ (F0 m 137 ls []) := by
        intro f22 H locs ls  Y S hl
        refine lv_aload_n X.1 X.2.1 d_Ce_putError_137 rfl (lv_at hl 0 rfl) ?_
        refine t_getr (ci := 4) X Y S k0 rfl i_Ce 4 (by decide) rfl (k1 := 13) (k2 := 12288) rfl rfl lk_Ce_34 (fun _ h9 => h9) d_Ce_putError_138 (fun b27 e27 k27 => ?_)
        refine lv_bipush (v := iI 9) X.1 X.2.1 d_Ce_putError_141 (by decide) ?_
        refine t_nv (t_runV (As := [.int (iI 9)]) (rest := []) (n := 1) X Y S k27 hml hl.1 (c_By_putRealm l D E T κ L f22 H.size b27 12288 k27 (by omega) 9 (by omega) (by omega) S.1) (ok_k X Y hA KS KR) rfl kl_Ce_By_putRealm ks_By_putRealm kx_By_putRealm ki_By_putRealm ini_By ⟨rfl, rfl⟩ hd_By_putRealm ⟨Nat.le_of_ble_eq_true rfl, Nat.le_of_ble_eq_true rfl⟩ rfl (Nat.le_of_ble_eq_true rfl) d_Ce_putError_143 ⟨Nat.le_of_ble_eq_true rfl, Nat.le_of_ble_eq_true rfl⟩) X Y hA S (by decide) (fun f28 H locs Y S s28 p28 => ?_)
        refine lv_iload X.1 X.2.1 d_Ce_putError_146 (lv_at hl 2 rfl) ?_
        have J30 : ∀ (f29 : pF) (H : Heap) (locs : List Loc) (ls : Array Slot), pH D cCl (pA L sz) s.heap L f29 H locs → tS E T (tFr κ L [1, 13] []) κ L f κ L f29 → lv_has ls 7 [(0, .ref h), (1, .int (iI a1)), (5, .int (iI z15)), (6, .int (iI z16))] → W p l e (kRm 9 212 0 0) s m AV below meth c H locs 0 0 QQ (F0 m 188 ls []) := by
          intro f29 H locs ls  Y S hl
          refine lv_aload_n X.1 X.2.1 d_Ce_putError_188 rfl (lv_at hl 0 rfl) ?_
          refine t_geti (ci := 4) X Y S k0 rfl i_Ce 6 (by decide) rfl lk_Ce_65 (fun _ h9 => h9) d_Ce_putError_189 (fun z34 e34 l34 u34 => ?_)
          have J36 : ∀ (f35 : pF) (H : Heap) (locs : List Loc) (ls : Array Slot), pH D cCl (pA L sz) s.heap L f35 H locs → tS E T (tFr κ L [1, 13] []) κ L f κ L f35 → lv_has ls 7 [(0, .ref h), (5, .int (iI z15)), (6, .int (iI z16))] → W p l e (kRm 9 212 0 0) s m AV below meth c H locs 0 0 QQ (F0 m 205 ls []) := by
            intro f35 H locs ls  Y S hl
            refine lv_aload_n X.1 X.2.1 d_Ce_putError_205 rfl (lv_at hl 0 rfl) ?_
            refine t_getr (ci := 4) X Y S k0 rfl i_Ce 4 (by decide) rfl (k1 := 13) (k2 := 12288) rfl rfl lk_Ce_34 (fun _ h9 => h9) d_Ce_putError_206 (fun b40 e40 k40 => ?_)
            refine lv_iload X.1 X.2.1 d_Ce_putError_209 (lv_at hl 2 rfl) ?_
            refine t_nv (t_runV (As := [.int (iI z16)]) (rest := []) (n := 1) X Y S k40 hml hl.1 (c_By_close l D E T κ L f35 H.size b40 12288 k40 (by omega) z16 (by omega) (by omega) S.1) (ok_k X Y hA KS KR) rfl kl_Ce_By_close ks_By_close kx_By_close ki_By_close ini_By ⟨rfl, rfl⟩ hd_By_close ⟨Nat.le_of_ble_eq_true rfl, Nat.le_of_ble_eq_true rfl⟩ rfl (Nat.le_of_ble_eq_true rfl) d_Ce_putError_211 ⟨Nat.le_of_ble_eq_true rfl, Nat.le_of_ble_eq_true rfl⟩) X Y hA S (by decide) (fun f41 H locs Y S s41 p41 => ?_)
            refine lv_aload_n X.1 X.2.1 d_Ce_putError_214 rfl (lv_at hl 0 rfl) ?_
            refine t_get0 (ci := 4) X Y S k0 rfl i_Ce 4 (by decide) rfl lk_Ce_34 (fun _ h9 => h9) d_Ce_putError_215 ((gF_same (s41.2.2.2 _ ⟨(t_obj S.1 k0).1, by rw [k0]; decide, by simp⟩).1 4).trans e40) ?_
            refine lv_iload X.1 X.2.1 d_Ce_putError_218 (lv_at hl 1 rfl) ?_
            refine t_nv (t_runV (As := [.int (iI z15)]) (rest := []) (n := 1) X Y S k40 hml hl.1 (c_By_close l D E T κ L f41 H.size b40 12288 k40 (by omega) z15 (by omega) (by omega) S.1) (ok_k X Y hA KS KR) rfl kl_Ce_By_close ks_By_close kx_By_close ki_By_close ini_By ⟨rfl, rfl⟩ hd_By_close ⟨Nat.le_of_ble_eq_true rfl, Nat.le_of_ble_eq_true rfl⟩ rfl (Nat.le_of_ble_eq_true rfl) d_Ce_putError_220 ⟨Nat.le_of_ble_eq_true rfl, Nat.le_of_ble_eq_true rfl⟩) X Y hA S (by decide) (fun f42 H locs Y S s42 p42 => ?_)
            exact c_retv hQQ X Y hr hlk ⟨rfl, S, trivial⟩ d_Ce_putError_223
          refine z_if_eq (tgt := 205) X.1 X.2.1 d_Ce_putError_192 (by decide) ⟨by omega, by omega⟩ (fun h43 => ?_) (fun h43 => ?_)
          · exact J36 f29 _ _ _  Y S (lv_sub hl [0, 2, 3] rfl)
          · refine lv_iload_n X.1 X.2.1 d_Ce_putError_195 rfl (lv_at hl 1 rfl) ?_
            refine lv_bipush (v := iI 25) X.1 X.2.1 d_Ce_putError_196 (by decide) ?_
            refine z_icmp_ne (tgt := 205) X.1 X.2.1 d_Ce_putError_198 (by decide) ⟨by omega, by omega⟩ ⟨by omega, by omega⟩ (fun h44 => ?_) (fun h44 => ?_)
            · exact J36 f29 _ _ _  Y S (lv_sub hl [0, 2, 3] rfl)
            · refine lv_aload_n X.1 X.2.1 d_Ce_putError_201 rfl (lv_at hl 0 rfl) ?_
              refine t_nv (t_runV (As := []) (rest := []) (n := 0) X Y S k0 hml hl.1 (c_Ce_putMethods l D E T κ L f29 H.size h k0 S.1) (ok_k X Y hA KS KR) rfl kl_Ce_Ce_putMethods ks_Ce_putMethods kx_Ce_putMethods ki_Ce_putMethods ini_Ce ⟨rfl, rfl⟩ hd_Ce_putMethods ⟨Nat.le_of_ble_eq_true rfl, Nat.le_of_ble_eq_true rfl⟩ rfl (Nat.le_of_ble_eq_true rfl) d_Ce_putError_202 ⟨Nat.le_of_ble_eq_true rfl, Nat.le_of_ble_eq_true rfl⟩) X Y hA S (by decide) (fun f45 H locs Y S s45 p45 => ?_)
              exact J36 f45 _ _ _  Y S (lv_sub hl [0, 2, 3] rfl)
        refine z_if_lt (tgt := 169) X.1 X.2.1 d_Ce_putError_148 (by decide) ⟨by omega, by omega⟩ (fun h46 => ?_) (fun h46 => ?_)
        · refine lv_aload_n X.1 X.2.1 d_Ce_putError_169 rfl (lv_at hl 0 rfl) ?_
          refine t_get0 (ci := 4) X Y S k0 rfl i_Ce 4 (by decide) rfl lk_Ce_34 (fun _ h9 => h9) d_Ce_putError_170 ((gF_same (s28.2.2.2 _ ⟨(t_obj S.1 k0).1, by rw [k0]; decide, by simp⟩).1 4).trans e27) ?_
          refine lv_bipush (v := iI 10) X.1 X.2.1 d_Ce_putError_173 (by decide) ?_
          refine lv_iconst (v := iI 2) X.1 X.2.1 d_Ce_putError_175 (by decide) ?_
          refine lv_aload_n X.1 X.2.1 d_Ce_putError_176 rfl (lv_at hl 0 rfl) ?_
          refine t_getr (ci := 4) X Y S k0 rfl i_Ce 2 (by decide) rfl (k1 := 5) (k2 := 12) rfl rfl lk_Ce_26 (fun _ h9 => h9) d_Ce_putError_177 (fun b47 e47 k47 => ?_)
          refine lv_iconst (v := iI 0) X.1 X.2.1 d_Ce_putError_180 (by decide) ?_
          refine t_aald X Y S k47 (fun h9 => h9) (t0 := 2) rfl (by omega) (by omega) (by omega) d_Ce_putError_181 (fun b48 e48 k48 => ?_)
          refine t_getr (ci := 7) X Y S k48 rfl i_Pr 0 (by decide) rfl (k1 := 13) (k2 := 40) rfl rfl lk_Ce_350 (fun _ h9 => h9) d_Ce_putError_182 (fun b49 e49 k49 => ?_)
          refine t_nv (t_runV (As := [.int (iI 10), .int (iI 2), .ref b49]) (rest := []) (n := 3) X Y S k27 hml hl.1 (c_By_putName l D E T κ L f28 H.size b27 12288 k27 (by omega) 10 (by omega) (by omega) 2 (by omega) (by omega) b49 40 k49 (by omega) S.1) (ok_k X Y hA KS KR) rfl kl_Ce_By_putName ks_By_putName kx_By_putName ki_By_putName ini_By ⟨rfl, rfl⟩ hd_By_putName ⟨Nat.le_of_ble_eq_true rfl, Nat.le_of_ble_eq_true rfl⟩ rfl (Nat.le_of_ble_eq_true rfl) d_Ce_putError_185 ⟨Nat.le_of_ble_eq_true rfl, Nat.le_of_ble_eq_true rfl⟩) X Y hA S (by decide) (fun f50 H locs Y S s50 p50 => ?_)
          exact J30 f50 _ _ _  Y S (lv_sub hl [0, 1, 3, 4] rfl)
        · refine lv_aload_n X.1 X.2.1 d_Ce_putError_151 rfl (lv_at hl 0 rfl) ?_
          refine t_get0 (ci := 4) X Y S k0 rfl i_Ce 4 (by decide) rfl lk_Ce_34 (fun _ h9 => h9) d_Ce_putError_152 ((gF_same (s28.2.2.2 _ ⟨(t_obj S.1 k0).1, by rw [k0]; decide, by simp⟩).1 4).trans e27) ?_
          refine lv_bipush (v := iI 10) X.1 X.2.1 d_Ce_putError_155 (by decide) ?_
          refine lv_aload_n X.1 X.2.1 d_Ce_putError_157 rfl (lv_at hl 0 rfl) ?_
          refine t_getr (ci := 4) X Y S k0 rfl i_Ce 3 (by decide) rfl (k1 := 13) (k2 := 4000) rfl rfl lk_Ce_30 (fun _ h9 => h9) d_Ce_putError_158 (fun b51 e51 k51 => ?_)
          refine lv_iload X.1 X.2.1 d_Ce_putError_161 (lv_at hl 2 rfl) ?_
          refine t_nv (t_runV (As := [.int (iI 10), .ref b51, .int (iI z12)]) (rest := []) (n := 3) X Y S k27 hml hl.1 (c_By_putCopy l D E T κ L f28 H.size b27 12288 k27 (by omega) 10 (by omega) (by omega) b51 4000 k51 (by omega) z12 (by omega) (by omega) S.1) (ok_k X Y hA KS KR) rfl kl_Ce_By_putCopy ks_By_putCopy kx_By_putCopy ki_By_putCopy ini_By ⟨rfl, rfl⟩ hd_By_putCopy ⟨Nat.le_of_ble_eq_true rfl, Nat.le_of_ble_eq_true rfl⟩ rfl (Nat.le_of_ble_eq_true rfl) d_Ce_putError_163 ⟨Nat.le_of_ble_eq_true rfl, Nat.le_of_ble_eq_true rfl⟩) X Y hA S (by decide) (fun f52 H locs Y S s52 p52 => ?_)
          refine lv_goto (tgt := 188) X.1 X.2.1 d_Ce_putError_166 (by decide) ?_
          exact J30 f52 _ _ _  Y S (lv_sub hl [0, 1, 3, 4] rfl)
      refine z_if_lt (tgt := 137) X.1 X.2.1 d_Ce_putError_98 (by decide) ⟨by omega, by omega⟩ (fun h53 => ?_) (fun h53 => ?_)
      · exact J23 f21 _ _ _  Y S (lv_sub hl [4, 5, 2, 1, 0] rfl)
      · refine lv_aload_n X.1 X.2.1 d_Ce_putError_101 rfl (lv_at hl 4 rfl) ?_
        refine t_get0 (ci := 4) X Y S k0 rfl i_Ce 4 (by decide) rfl lk_Ce_34 (fun _ h9 => h9) d_Ce_putError_102 ((gF_same (s21.2.2.2 _ ⟨(t_obj S.1 k0).1, by rw [k0]; decide, by simp⟩).1 4).trans ((gF_same (s18.2.2.2 _ ⟨(t_obj S.1 k0).1, by rw [k0]; decide, by simp⟩).1 4).trans ((gF_same (s17.2.2.2 _ ⟨(t_obj S.1 k0).1, by rw [k0]; decide, by simp⟩).1 4).trans ((gF_same (s16.2.2.2 _ ⟨(t_obj S.1 k0).1, by rw [k0]; decide, by simp⟩).1 4).trans e15)))) ?_
        refine lv_bipush (v := iI 7) X.1 X.2.1 d_Ce_putError_105 (by decide) ?_
        refine lv_aload_n X.1 X.2.1 d_Ce_putError_107 rfl (lv_at hl 4 rfl) ?_
        refine t_get0 (ci := 4) X Y S k0 rfl i_Ce 3 (by decide) rfl lk_Ce_30 (fun _ h9 => h9) d_Ce_putError_108 ((gF_same (s21.2.2.2 _ ⟨(t_obj S.1 k0).1, by rw [k0]; decide, by simp⟩).1 3).trans ((gF_same (s18.2.2.2 _ ⟨(t_obj S.1 k0).1, by rw [k0]; decide, by simp⟩).1 3).trans ((gF_same (s17.2.2.2 _ ⟨(t_obj S.1 k0).1, by rw [k0]; decide, by simp⟩).1 3).trans ((gF_same (s16.2.2.2 _ ⟨(t_obj S.1 k0).1, by rw [k0]; decide, by simp⟩).1 3).trans e13)))) ?_
        refine lv_aload_n X.1 X.2.1 d_Ce_putError_111 rfl (lv_at hl 4 rfl) ?_
        refine t_get0 (ci := 4) X Y S k0 rfl i_Ce 3 (by decide) rfl lk_Ce_30 (fun _ h9 => h9) d_Ce_putError_112 ((gF_same (s21.2.2.2 _ ⟨(t_obj S.1 k0).1, by rw [k0]; decide, by simp⟩).1 3).trans ((gF_same (s18.2.2.2 _ ⟨(t_obj S.1 k0).1, by rw [k0]; decide, by simp⟩).1 3).trans ((gF_same (s17.2.2.2 _ ⟨(t_obj S.1 k0).1, by rw [k0]; decide, by simp⟩).1 3).trans ((gF_same (s16.2.2.2 _ ⟨(t_obj S.1 k0).1, by rw [k0]; decide, by simp⟩).1 3).trans e13)))) ?_
        refine lv_iload_n X.1 X.2.1 d_Ce_putError_115 rfl (lv_at hl 6 rfl) ?_
        refine lv_iconst (v := iI 2) X.1 X.2.1 d_Ce_putError_116 (by decide) ?_
        refine t_ui (t_runV (As := [.int (iI z5), .int (iI 2)]) (rest := [.ref b13, .int (iI 7), .ref b15]) (n := 2) X Y S k13 hml hl.1 (c_By_field l D E T κ L f21 H.size b13 4000 k13 (by omega) z5 (by omega) (by omega) 2 (by omega) (by omega) S.1) (ok_k X Y hA KS KR) rfl kl_Ce_By_field ks_By_field kx_By_field ki_By_field ini_By ⟨rfl, rfl⟩ hd_By_field ⟨Nat.le_of_ble_eq_true rfl, Nat.le_of_ble_eq_true rfl⟩ rfl (Nat.le_of_ble_eq_true rfl) d_Ce_putError_117 ⟨Nat.le_of_ble_eq_true rfl, Nat.le_of_ble_eq_true rfl⟩) X Y hA (fun z54 H locs Y p54 => ?_)
        obtain ⟨l54, u54⟩ := p54
        refine t_nv (t_runV (As := [.int (iI 7), .ref b13, .int (iI z54)]) (rest := []) (n := 3) X Y S k15 hml hl.1 (c_By_putCopy l D E T κ L f21 H.size b15 12288 k15 (by omega) 7 (by omega) (by omega) b13 4000 k13 (by omega) z54 (by omega) (by omega) S.1) (ok_k X Y hA KS KR) rfl kl_Ce_By_putCopy ks_By_putCopy kx_By_putCopy ki_By_putCopy ini_By ⟨rfl, rfl⟩ hd_By_putCopy ⟨Nat.le_of_ble_eq_true rfl, Nat.le_of_ble_eq_true rfl⟩ rfl (Nat.le_of_ble_eq_true rfl) d_Ce_putError_120 ⟨Nat.le_of_ble_eq_true rfl, Nat.le_of_ble_eq_true rfl⟩) X Y hA S (by decide) (fun f55 H locs Y S s55 p55 => ?_)
        refine lv_aload_n X.1 X.2.1 d_Ce_putError_123 rfl (lv_at hl 4 rfl) ?_
        refine t_get0 (ci := 4) X Y S k0 rfl i_Ce 4 (by decide) rfl lk_Ce_34 (fun _ h9 => h9) d_Ce_putError_124 ((gF_same (s55.2.2.2 _ ⟨(t_obj S.1 k0).1, by rw [k0]; decide, by simp⟩).1 4).trans ((gF_same (s21.2.2.2 _ ⟨(t_obj S.1 k0).1, by rw [k0]; decide, by simp⟩).1 4).trans ((gF_same (s18.2.2.2 _ ⟨(t_obj S.1 k0).1, by rw [k0]; decide, by simp⟩).1 4).trans ((gF_same (s17.2.2.2 _ ⟨(t_obj S.1 k0).1, by rw [k0]; decide, by simp⟩).1 4).trans ((gF_same (s16.2.2.2 _ ⟨(t_obj S.1 k0).1, by rw [k0]; decide, by simp⟩).1 4).trans e15))))) ?_
        refine lv_bipush (v := iI 8) X.1 X.2.1 d_Ce_putError_127 (by decide) ?_
        refine lv_aload_n X.1 X.2.1 d_Ce_putError_129 rfl (lv_at hl 4 rfl) ?_
        refine t_get0 (ci := 4) X Y S k0 rfl i_Ce 3 (by decide) rfl lk_Ce_30 (fun _ h9 => h9) d_Ce_putError_130 ((gF_same (s55.2.2.2 _ ⟨(t_obj S.1 k0).1, by rw [k0]; decide, by simp⟩).1 3).trans ((gF_same (s21.2.2.2 _ ⟨(t_obj S.1 k0).1, by rw [k0]; decide, by simp⟩).1 3).trans ((gF_same (s18.2.2.2 _ ⟨(t_obj S.1 k0).1, by rw [k0]; decide, by simp⟩).1 3).trans ((gF_same (s17.2.2.2 _ ⟨(t_obj S.1 k0).1, by rw [k0]; decide, by simp⟩).1 3).trans ((gF_same (s16.2.2.2 _ ⟨(t_obj S.1 k0).1, by rw [k0]; decide, by simp⟩).1 3).trans e13))))) ?_
        refine lv_iload_n X.1 X.2.1 d_Ce_putError_133 rfl (lv_at hl 3 rfl) ?_
        refine t_nv (t_runV (As := [.int (iI 8), .ref b13, .int (iI z8)]) (rest := []) (n := 3) X Y S k15 hml hl.1 (c_By_putCopy l D E T κ L f55 H.size b15 12288 k15 (by omega) 8 (by omega) (by omega) b13 4000 k13 (by omega) z8 (by omega) (by omega) S.1) (ok_k X Y hA KS KR) rfl kl_Ce_By_putCopy ks_By_putCopy kx_By_putCopy ki_By_putCopy ini_By ⟨rfl, rfl⟩ hd_By_putCopy ⟨Nat.le_of_ble_eq_true rfl, Nat.le_of_ble_eq_true rfl⟩ rfl (Nat.le_of_ble_eq_true rfl) d_Ce_putError_134 ⟨Nat.le_of_ble_eq_true rfl, Nat.le_of_ble_eq_true rfl⟩) X Y hA S (by decide) (fun f56 H locs Y S s56 p56 => ?_)
        exact J23 f56 _ _ _  Y S (lv_sub hl [4, 5, 2, 1, 0] rfl)
    refine z_if_eq (tgt := 40) X.1 X.2.1 d_Ce_putError_25 (by decide) ⟨by omega, by omega⟩ (fun h57 => ?_) (fun h57 => ?_)
    · refine lv_iconst (v := iI (-1)) X.1 X.2.1 d_Ce_putError_40 (by decide) ?_
      exact J9 ((-1)) _ _ _ (by omega) (by omega) Y S (lv_sub hl [1, 2, 0] rfl)
    · refine lv_aload_n X.1 X.2.1 d_Ce_putError_28 rfl (lv_at hl 1 rfl) ?_
      refine t_getr (ci := 4) X Y S k0 rfl i_Ce 3 (by decide) rfl (k1 := 13) (k2 := 4000) rfl rfl lk_Ce_30 (fun _ h9 => h9) d_Ce_putError_29 (fun b58 e58 k58 => ?_)
      refine lv_iload_n X.1 X.2.1 d_Ce_putError_32 rfl (lv_at hl 0 rfl) ?_
      refine lv_iconst (v := iI 1) X.1 X.2.1 d_Ce_putError_33 (by decide) ?_
      refine t_ui (t_runV (As := [.int (iI z2), .int (iI 1)]) (rest := []) (n := 2) X Y S k58 hml hl.1 (c_By_field l D E T κ L f H.size b58 4000 k58 (by omega) z2 (by omega) (by omega) 1 (by omega) (by omega) S.1) (ok_k X Y hA KS KR) rfl kl_Ce_By_field ks_By_field kx_By_field ki_By_field ini_By ⟨rfl, rfl⟩ hd_By_field ⟨Nat.le_of_ble_eq_true rfl, Nat.le_of_ble_eq_true rfl⟩ rfl (Nat.le_of_ble_eq_true rfl) d_Ce_putError_34 ⟨Nat.le_of_ble_eq_true rfl, Nat.le_of_ble_eq_true rfl⟩) X Y hA (fun z59 H locs Y p59 => ?_)
      obtain ⟨l59, u59⟩ := p59
      refine lv_goto (tgt := 41) X.1 X.2.1 d_Ce_putError_37 (by decide) ?_
      exact J9 z59 _ _ _ (by omega) (by omega) Y S (lv_sub hl [1, 2, 0] rfl)
  refine z_if_eq (tgt := 19) X.1 X.2.1 d_Ce_putError_4 (by decide) ⟨by omega, by omega⟩ (fun h60 => ?_) (fun h60 => ?_)
  · refine lv_iconst (v := iI (-1)) X.1 X.2.1 d_Ce_putError_19 (by decide) ?_
    exact J3 ((-1)) _ _ _ (by omega) (by omega) Y S (lv_sub hl [0, 1] rfl)
  · refine lv_aload_n X.1 X.2.1 d_Ce_putError_7 rfl (lv_at hl 0 rfl) ?_
    refine t_getr (ci := 4) X Y S k0 rfl i_Ce 3 (by decide) rfl (k1 := 13) (k2 := 4000) rfl rfl lk_Ce_30 (fun _ h9 => h9) d_Ce_putError_8 (fun b61 e61 k61 => ?_)
    refine lv_iconst (v := iI 0) X.1 X.2.1 d_Ce_putError_11 (by decide) ?_
    refine lv_iconst (v := iI 4) X.1 X.2.1 d_Ce_putError_12 (by decide) ?_
    refine t_ui (t_runV (As := [.int (iI 0), .int (iI 4)]) (rest := []) (n := 2) X Y S k61 hml hl.1 (c_By_field l D E T κ L f H.size b61 4000 k61 (by omega) 0 (by omega) (by omega) 4 (by omega) (by omega) S.1) (ok_k X Y hA KS KR) rfl kl_Ce_By_field ks_By_field kx_By_field ki_By_field ini_By ⟨rfl, rfl⟩ hd_By_field ⟨Nat.le_of_ble_eq_true rfl, Nat.le_of_ble_eq_true rfl⟩ rfl (Nat.le_of_ble_eq_true rfl) d_Ce_putError_13 ⟨Nat.le_of_ble_eq_true rfl, Nat.le_of_ble_eq_true rfl⟩) X Y hA (fun z62 H locs Y p62 => ?_)
    obtain ⟨l62, u62⟩ := p62
    refine lv_goto (tgt := 20) X.1 X.2.1 d_Ce_putError_16 (by decide) ?_
    exact J3 z62 _ _ _ (by omega) (by omega) Y S (lv_sub hl [0, 1] rfl)
