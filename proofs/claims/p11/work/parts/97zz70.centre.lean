set_option maxHeartbeats 4000000 in
set_option maxRecDepth 100000 in
theorem c_Ce_asks (l : Launch) (D : va_G) (E : cE) (T : cT) (κ : tK) (L : List Nat) (f : pF) (sz : Nat) (h : Nat) (k0 : κ h = (14, 0)) (a1 : Int) (l_a1 : (-2147483648) ≤ a1) (u_a1 : a1 ≤ 2147483647) (hw : tW E T κ L f) : Met l y_Ce_asks (k_Ce_asks :: lw_tg) (kRm 1 60 0 0) (va_Pc [.ref h, .int (iI a1)] (kPre D E T L f sz)) (va_Qi (uPi L f (fun (z : Int) => 0 ≤ z ∧ z ≤ 1)) (cPost D E (pA L sz)) (pA L sz)) 0 0 (pA L sz) := by
  refine k_enter (own := R_Ce) (by decide) rfl (Nat.le_of_ble_eq_true rfl) (fun p e s m below meth c ls AV QQ H locs hQQ X Y hA hin hr hlk hml hl KS KR => ?_)
  have hl : lv_has ls 2 [(0, .ref h), (1, .int (iI a1))] := hl
  have S : tS E T (tFr κ L [] []) κ L f κ L f := tS_rf hw
  refine lv_aload_n X.1 X.2.1 d_Ce_asks_0 rfl (lv_at hl 0 rfl) ?_
  refine t_geti (ci := 4) X Y S k0 rfl i_Ce 9 (by decide) rfl lk_Ce_44 (fun _ h9 => h9) d_Ce_asks_1 (fun z101 e101 l101 u101 => ?_)
  refine lv_iload_n X.1 X.2.1 d_Ce_asks_4 rfl (lv_at hl 1 rfl) ?_
  refine lv_iand X.1 X.2.1 d_Ce_asks_5 ?_
  refine t_u (fun z103 l103 u103 => ?_)
  refine z_if_eq (tgt := 13) X.1 X.2.1 d_Ce_asks_6 (by decide) ⟨by omega, by omega⟩ (fun h104 => ?_) (fun h104 => ?_)
  · refine lv_iconst (v := iI 0) X.1 X.2.1 d_Ce_asks_13 (by decide) ?_
    exact c_retz hQQ X Y hr hlk (iI_bool (by omega) (by omega)).1 ⟨rfl, rfl, 0, rfl, ⟨by omega, by omega⟩⟩ d_Ce_asks_14
  · refine lv_iconst (v := iI 1) X.1 X.2.1 d_Ce_asks_9 (by decide) ?_
    refine lv_goto (tgt := 14) X.1 X.2.1 d_Ce_asks_10 (by decide) ?_
    exact c_retz hQQ X Y hr hlk (iI_bool (by omega) (by omega)).1 ⟨rfl, rfl, 1, rfl, ⟨by omega, by omega⟩⟩ d_Ce_asks_14
set_option maxHeartbeats 4000000 in
set_option maxRecDepth 100000 in
theorem c_Ce_shown (l : Launch) (D : va_G) (E : cE) (T : cT) (κ : tK) (L : List Nat) (f : pF) (sz : Nat) (h : Nat) (k0 : κ h = (14, 0)) (a1 : Int) (l_a1 : (-2147483648) ≤ a1) (u_a1 : a1 ≤ 2147483647) (hw : tW E T κ L f) : Met l y_Ce_shown (k_Ce_shown :: lw_tg) (kRm 3 112 0 0) (va_Pc [.ref h, .int (iI a1)] (kPre D E T L f sz)) (va_Qi (uPi L f (fun (z : Int) => (-1) ≤ z ∧ z ≤ 12420)) (cPost D E (pA L sz)) (pA L sz)) 0 0 (pA L sz) := by
  refine k_enter (own := R_Ce) (by decide) rfl (Nat.le_of_ble_eq_true rfl) (fun p e s m below meth c ls AV QQ H locs hQQ X Y hA hin hr hlk hml hl KS KR => ?_)
  have hl : lv_has ls 5 [(0, .ref h), (1, .int (iI a1))] := hl
  have S : tS E T (tFr κ L [] []) κ L f κ L f := tS_rf hw
  refine lv_aload_n X.1 X.2.1 d_Ce_shown_0 rfl (lv_at hl 0 rfl) ?_
  refine t_getr (ci := 4) X Y S k0 rfl i_Ce 3 (by decide) rfl (k1 := 13) (k2 := 4000) rfl rfl lk_Ce_30 (fun _ h9 => h9) d_Ce_shown_1 (fun b101 e101 k101 => ?_)
  refine lv_iconst (v := iI 0) X.1 X.2.1 d_Ce_shown_4 (by decide) ?_
  refine lv_iconst (v := iI 3) X.1 X.2.1 d_Ce_shown_5 (by decide) ?_
  refine t_ui (t_runV (As := [.int (iI 0), .int (iI 3)]) (rest := []) (n := 2) X Y S k101 hml hl.1 (c_By_field l D E T κ L f H.size b101 4000 k101 (by omega) 0 (by omega) (by omega) 3 (by omega) (by omega) S.1) (ok_k X Y hA KS KR) rfl kl_Ce_By_field ks_By_field kx_By_field ki_By_field ini_By ⟨rfl, rfl⟩ hd_By_field ⟨Nat.le_of_ble_eq_true rfl, Nat.le_of_ble_eq_true rfl⟩ rfl (Nat.le_of_ble_eq_true rfl) d_Ce_shown_6 ⟨Nat.le_of_ble_eq_true rfl, Nat.le_of_ble_eq_true rfl⟩) X Y hA (fun z102 H locs Y p102 => ?_)
  obtain ⟨l102, u102⟩ := p102
  refine lv_istore_n (lv' := [(2, .int (iI z102)), (0, .ref h), (1, .int (iI a1))]) X.1 X.2.1 d_Ce_shown_9 rfl hl (by decide) rfl (fun ls hl => ?_)
  refine lv_iconst (v := iI 0) X.1 X.2.1 d_Ce_shown_10 (by decide) ?_
  have J104 : ∀ (n106 : Nat) (z103 : Int) (H : Heap) (locs : List Loc) (ls : Array Slot), (16 - z103).toNat = n106 → (0 ≤ z103) → (z103 ≤ 16) → pH D cCl (pA L sz) s.heap L f H locs → tS E T (tFr κ L [] []) κ L f κ L f → lv_has ls 5 [(0, .ref h), (1, .int (iI a1)), (2, .int (iI z102)), (3, .int (iI z103))] → W p l e (kRm 3 112 0 0) s m AV below meth c H locs 0 0 QQ (F0 m 12 ls []) := by
    intro n106
    induction n106 using Nat.strongRecOn with
    | ind n106 ih105 =>
      intro z103 H locs ls hm107 l103 u103 Y S hl
      refine lv_iload_n X.1 X.2.1 d_Ce_shown_12 rfl (lv_at hl 3 rfl) ?_
      refine lv_bipush (v := iI 16) X.1 X.2.1 d_Ce_shown_13 (by decide) ?_
      refine z_icmp_ge (tgt := 74) X.1 X.2.1 d_Ce_shown_15 (by decide) ⟨by omega, by omega⟩ ⟨by omega, by omega⟩ (fun h108 => ?_) (fun h108 => ?_)
      · refine lv_iconst (v := iI (-1)) X.1 X.2.1 d_Ce_shown_74 (by decide) ?_
        exact c_reti hQQ X Y hr hlk ⟨rfl, rfl, (-1), rfl, ⟨by omega, by omega⟩⟩ d_Ce_shown_75
      · refine lv_aload_n X.1 X.2.1 d_Ce_shown_18 rfl (lv_at hl 0 rfl) ?_
        refine t_get0 (ci := 4) X Y S k0 rfl i_Ce 3 (by decide) rfl lk_Ce_30 (fun _ h9 => h9) d_Ce_shown_19 e101 ?_
        refine lv_iload_n X.1 X.2.1 d_Ce_shown_22 rfl (lv_at hl 2 rfl) ?_
        refine lv_iload_n X.1 X.2.1 d_Ce_shown_23 rfl (lv_at hl 3 rfl) ?_
        refine t_ui (t_runV (As := [.int (iI z102), .int (iI z103)]) (rest := []) (n := 2) X Y S k101 hml hl.1 (c_By_element l D E T κ L f H.size b101 4000 k101 (by omega) z102 (by omega) (by omega) z103 (by omega) (by omega) S.1) (ok_k X Y hA KS KR) rfl kl_Ce_By_element ks_By_element kx_By_element ki_By_element ini_By ⟨rfl, rfl⟩ hd_By_element ⟨Nat.le_of_ble_eq_true rfl, Nat.le_of_ble_eq_true rfl⟩ rfl (Nat.le_of_ble_eq_true rfl) d_Ce_shown_24 ⟨Nat.le_of_ble_eq_true rfl, Nat.le_of_ble_eq_true rfl⟩) X Y hA (fun z109 H locs Y p109 => ?_)
        obtain ⟨l109, u109⟩ := p109
        refine lv_istore (lv' := [(4, .int (iI z109)), (0, .ref h), (1, .int (iI a1)), (2, .int (iI z102)), (3, .int (iI z103))]) X.1 X.2.1 d_Ce_shown_27 hl (by decide) rfl (fun ls hl => ?_)
        refine lv_iload X.1 X.2.1 d_Ce_shown_29 (lv_at hl 0 rfl) ?_
        have J110 : ∀  (H : Heap) (locs : List Loc) (ls : Array Slot), pH D cCl (pA L sz) s.heap L f H locs → tS E T (tFr κ L [] []) κ L f κ L f → lv_has ls 5 [(0, .ref h), (1, .int (iI a1)), (2, .int (iI z102)), (3, .int (iI z103))] → W p l e (kRm 3 112 0 0) s m AV below meth c H locs 0 0 QQ (F0 m 68 ls []) := by
          intro  H locs ls  Y S hl
          refine lv_iinc (v := iI (z103 + 1)) (lv' := [(3, .int (iI (z103 + 1))), (0, .ref h), (1, .int (iI a1)), (2, .int (iI z102))]) X.1 X.2.1 d_Ce_shown_68 hl (k := 3) rfl ((iI_add _ _).trans (congrArg iI (by omega))) (by decide) rfl (fun ls hl => ?_)
          refine lv_goto (tgt := 12) X.1 X.2.1 d_Ce_shown_71 (by decide) ?_
          exact ih105 ((16 - (z103 + 1)).toNat) (by omega) (z103 + 1) _ _ _ rfl (by omega) (by omega) Y S (lv_sub hl [1, 2, 3, 0] rfl)
        refine z_if_lt (tgt := 68) X.1 X.2.1 d_Ce_shown_31 (by decide) ⟨by omega, by omega⟩ (fun h114 => ?_) (fun h114 => ?_)
        · exact J110  _ _ _  Y S (lv_sub hl [1, 2, 3, 4] rfl)
        · refine lv_aload_n X.1 X.2.1 d_Ce_shown_34 rfl (lv_at hl 1 rfl) ?_
          refine t_get0 (ci := 4) X Y S k0 rfl i_Ce 3 (by decide) rfl lk_Ce_30 (fun _ h9 => h9) d_Ce_shown_35 e101 ?_
          refine lv_aload_n X.1 X.2.1 d_Ce_shown_38 rfl (lv_at hl 1 rfl) ?_
          refine t_get0 (ci := 4) X Y S k0 rfl i_Ce 3 (by decide) rfl lk_Ce_30 (fun _ h9 => h9) d_Ce_shown_39 e101 ?_
          refine lv_iload X.1 X.2.1 d_Ce_shown_42 (lv_at hl 0 rfl) ?_
          refine lv_iconst (v := iI 1) X.1 X.2.1 d_Ce_shown_44 (by decide) ?_
          refine t_ui (t_runV (As := [.int (iI z109), .int (iI 1)]) (rest := [.ref b101]) (n := 2) X Y S k101 hml hl.1 (c_By_field l D E T κ L f H.size b101 4000 k101 (by omega) z109 (by omega) (by omega) 1 (by omega) (by omega) S.1) (ok_k X Y hA KS KR) rfl kl_Ce_By_field ks_By_field kx_By_field ki_By_field ini_By ⟨rfl, rfl⟩ hd_By_field ⟨Nat.le_of_ble_eq_true rfl, Nat.le_of_ble_eq_true rfl⟩ rfl (Nat.le_of_ble_eq_true rfl) d_Ce_shown_45 ⟨Nat.le_of_ble_eq_true rfl, Nat.le_of_ble_eq_true rfl⟩) X Y hA (fun z115 H locs Y p115 => ?_)
          obtain ⟨l115, u115⟩ := p115
          refine t_ul (t_runV (As := [.int (iI z115)]) (rest := []) (n := 1) X Y S k101 hml hl.1 (c_By_numberAt l D E T κ L f H.size b101 4000 k101 (by omega) z115 (by omega) (by omega) S.1) (ok_k X Y hA KS KR) rfl kl_Ce_By_numberAt ks_By_numberAt kx_By_numberAt ki_By_numberAt ini_By ⟨rfl, rfl⟩ hd_By_numberAt ⟨Nat.le_of_ble_eq_true rfl, Nat.le_of_ble_eq_true rfl⟩ rfl (Nat.le_of_ble_eq_true rfl) d_Ce_shown_48 ⟨Nat.le_of_ble_eq_true rfl, Nat.le_of_ble_eq_true rfl⟩) X Y hA (fun v116 H locs Y p116 => ?_)
          refine lv_iload_n X.1 X.2.1 d_Ce_shown_51 rfl (lv_at hl 2 rfl) ?_
          refine lv_i2l X.1 X.2.1 d_Ce_shown_52 rfl ?_
          refine t_anyl (fun v117 => ?_)
          refine W.lcmp X.1 X.2.1 d_Ce_shown_53 ?_
          refine t_u (fun z118 l118 u118 => ?_)
          refine z_if_ne (tgt := 68) X.1 X.2.1 d_Ce_shown_54 (by decide) ⟨by omega, by omega⟩ (fun h119 => ?_) (fun h119 => ?_)
          · exact J110  _ _ _  Y S (lv_sub hl [1, 2, 3, 4] rfl)
          · refine lv_aload_n X.1 X.2.1 d_Ce_shown_57 rfl (lv_at hl 1 rfl) ?_
            refine t_get0 (ci := 4) X Y S k0 rfl i_Ce 3 (by decide) rfl lk_Ce_30 (fun _ h9 => h9) d_Ce_shown_58 e101 ?_
            refine lv_iload X.1 X.2.1 d_Ce_shown_61 (lv_at hl 0 rfl) ?_
            refine lv_iconst (v := iI 2) X.1 X.2.1 d_Ce_shown_63 (by decide) ?_
            refine t_ui (t_runV (As := [.int (iI z109), .int (iI 2)]) (rest := []) (n := 2) X Y S k101 hml hl.1 (c_By_field l D E T κ L f H.size b101 4000 k101 (by omega) z109 (by omega) (by omega) 2 (by omega) (by omega) S.1) (ok_k X Y hA KS KR) rfl kl_Ce_By_field ks_By_field kx_By_field ki_By_field ini_By ⟨rfl, rfl⟩ hd_By_field ⟨Nat.le_of_ble_eq_true rfl, Nat.le_of_ble_eq_true rfl⟩ rfl (Nat.le_of_ble_eq_true rfl) d_Ce_shown_64 ⟨Nat.le_of_ble_eq_true rfl, Nat.le_of_ble_eq_true rfl⟩) X Y hA (fun z120 H locs Y p120 => ?_)
            obtain ⟨l120, u120⟩ := p120
            exact c_reti hQQ X Y hr hlk ⟨rfl, rfl, z120, rfl, ⟨by omega, by omega⟩⟩ d_Ce_shown_67
  refine lv_istore_n (lv' := [(3, .int (iI 0)), (2, .int (iI z102)), (0, .ref h), (1, .int (iI a1))]) X.1 X.2.1 d_Ce_shown_11 rfl hl (by decide) rfl (fun ls hl => ?_)
  exact J104 _ 0 _ _ _ rfl (by omega) (by omega) Y S (lv_sub hl [2, 3, 1, 0] rfl)
set_option maxHeartbeats 4000000 in
set_option maxRecDepth 100000 in
theorem c_Ce_ticketFlags (l : Launch) (D : va_G) (E : cE) (T : cT) (κ : tK) (L : List Nat) (f : pF) (sz : Nat) (h : Nat) (k0 : κ h = (14, 0)) (hw : tW E T κ L f) : Met l y_Ce_ticketFlags (k_Ce_ticketFlags :: lw_tg) (kRm 3 112 0 0) (va_Pc [.ref h] (kPre D E T L f sz)) (va_Qi (uPi L f (fun (z : Int) => (-2147483648) ≤ z ∧ z ≤ 2147483647)) (cPost D E (pA L sz)) (pA L sz)) 0 0 (pA L sz) := by
  refine k_enter (own := R_Ce) (by decide) rfl (Nat.le_of_ble_eq_true rfl) (fun p e s m below meth c ls AV QQ H locs hQQ X Y hA hin hr hlk hml hl KS KR => ?_)
  have hl : lv_has ls 1 [(0, .ref h)] := hl
  have S : tS E T (tFr κ L [] []) κ L f κ L f := tS_rf hw
  refine lv_aload_n X.1 X.2.1 d_Ce_ticketFlags_0 rfl (lv_at hl 0 rfl) ?_
  refine t_getr (ci := 4) X Y S k0 rfl i_Ce 1 (by decide) rfl (k1 := 15) (k2 := 0) rfl rfl lk_Ce_22 (fun _ h9 => h9) d_Ce_ticketFlags_1 (fun b101 e101 k101 => ?_)
  refine t_getr (ci := 5) X Y S k101 rfl i_Ga 1 (by decide) rfl (k1 := 13) (k2 := 4000) rfl rfl lk_Ce_140 (fun _ h9 => h9) d_Ce_ticketFlags_4 (fun b102 e102 k102 => ?_)
  refine lv_aload_n X.1 X.2.1 d_Ce_ticketFlags_7 rfl (lv_at hl 0 rfl) ?_
  refine t_get0 (ci := 4) X Y S k0 rfl i_Ce 1 (by decide) rfl lk_Ce_22 (fun _ h9 => h9) d_Ce_ticketFlags_8 e101 ?_
  refine t_get0 (ci := 5) X Y S k101 rfl i_Ga 1 (by decide) rfl lk_Ce_140 (fun _ h9 => h9) d_Ce_ticketFlags_11 e102 ?_
  refine lv_iconst (v := iI 0) X.1 X.2.1 d_Ce_ticketFlags_14 (by decide) ?_
  refine lv_iconst (v := iI 0) X.1 X.2.1 d_Ce_ticketFlags_15 (by decide) ?_
  refine t_ui (t_runV (As := [.int (iI 0), .int (iI 0)]) (rest := [.ref b102]) (n := 2) X Y S k102 hml hl.1 (c_By_field l D E T κ L f H.size b102 4000 k102 (by omega) 0 (by omega) (by omega) 0 (by omega) (by omega) S.1) (ok_k X Y hA KS KR) rfl kl_Ce_By_field ks_By_field kx_By_field ki_By_field ini_By ⟨rfl, rfl⟩ hd_By_field ⟨Nat.le_of_ble_eq_true rfl, Nat.le_of_ble_eq_true rfl⟩ rfl (Nat.le_of_ble_eq_true rfl) d_Ce_ticketFlags_16 ⟨Nat.le_of_ble_eq_true rfl, Nat.le_of_ble_eq_true rfl⟩) X Y hA (fun z103 H locs Y p103 => ?_)
  obtain ⟨l103, u103⟩ := p103
  refine t_ui (t_runV (As := [.int (iI z103)]) (rest := []) (n := 1) X Y S k102 hml hl.1 (c_By_bitsAt l D E T κ L f H.size b102 4000 k102 (by omega) z103 (by omega) (by omega) S.1) (ok_k X Y hA KS KR) rfl kl_Ce_By_bitsAt ks_By_bitsAt kx_By_bitsAt ki_By_bitsAt ini_By ⟨rfl, rfl⟩ hd_By_bitsAt ⟨Nat.le_of_ble_eq_true rfl, Nat.le_of_ble_eq_true rfl⟩ rfl (Nat.le_of_ble_eq_true rfl) d_Ce_ticketFlags_19 ⟨Nat.le_of_ble_eq_true rfl, Nat.le_of_ble_eq_true rfl⟩) X Y hA (fun z104 H locs Y p104 => ?_)
  obtain ⟨l104, u104⟩ := p104
  exact c_reti hQQ X Y hr hlk ⟨rfl, rfl, z104, rfl, ⟨by omega, by omega⟩⟩ d_Ce_ticketFlags_22
set_option maxHeartbeats 4000000 in
set_option maxRecDepth 100000 in
theorem c_Ce_judgeClient (l : Launch) (D : va_G) (E : cE) (T : cT) (κ : tK) (L : List Nat) (f : pF) (sz : Nat) (h : Nat) (k0 : κ h = (14, 0)) (a1 n1 : Nat) (k1 : κ a1 = (13, n1)) (x1 : n1 ≤ 12288) (a2 : Int) (l_a2 : (-1) ≤ a2) (u_a2 : a2 ≤ 20200) (hw : tW E T κ L f) : Met l y_Ce_judgeClient (k_Ce_judgeClient :: lw_tg) (kRm 5 158 0 0) (va_Pc [.ref h, .ref a1, .int (iI a2)] (kPre D E T L f sz)) (va_Qi (nPi E T [14] κ L f (fun (z : Int) (g : pF) => (-2147483648) ≤ z ∧ z ≤ 2147483647 ∧ gF g h 3 = gF f h 3)) (cPost D E (pA L sz)) (pA L sz)) 0 0 (pA L sz) := by
  refine k_enter (own := R_Ce) (by decide) rfl (Nat.le_of_ble_eq_true rfl) (fun p e s m below meth c ls AV QQ H locs hQQ X Y hA hin hr hlk hml hl KS KR => ?_)
  have hl : lv_has ls 4 [(0, .ref h), (1, .ref a1), (2, .int (iI a2))] := hl
  have S : tS E T (tFr κ L [14] []) κ L f κ L f := tS_rf hw
  obtain ⟨tp, e3, ktp⟩ := t_tape S k0
  refine lv_aload_n X.1 X.2.1 d_Ce_judgeClient_0 rfl (lv_at hl 0 rfl) ?_
  refine t_getr (ci := 4) X Y S k0 rfl i_Ce 2 (by decide) rfl (k1 := 5) (k2 := 12) rfl rfl lk_Ce_26 (fun _ h9 => h9) d_Ce_judgeClient_1 (fun b101 e101 k101 => ?_)
  refine lv_aload_n X.1 X.2.1 d_Ce_judgeClient_4 rfl (lv_at hl 1 rfl) ?_
  refine lv_iload_n X.1 X.2.1 d_Ce_judgeClient_5 rfl (lv_at hl 2 rfl) ?_
  refine t_ui (x_runS (As := [.ref b101, .ref a1, .int (iI a2)]) (rest := []) (n := 3) X hml hl.1 (c_Pr_findNamed l D E T κ L f H.size b101 k101 a1 n1 k1 (by omega) a2 (by omega) (by omega) S.1) (ok_k X Y hA KS KR) kl_Ce_Pr_findNamed ks_Pr_findNamed ki_Pr_findNamed ini_Pr ⟨rfl, rfl⟩ hd_Pr_findNamed.2 ⟨Nat.le_of_ble_eq_true rfl, Nat.le_of_ble_eq_true rfl⟩ rfl (Nat.le_of_ble_eq_true rfl) d_Ce_judgeClient_6 ⟨Nat.le_of_ble_eq_true rfl, Nat.le_of_ble_eq_true rfl⟩) X Y hA (fun z102 H locs Y p102 => ?_)
  obtain ⟨l102, u102⟩ := p102
  refine lv_istore_n (lv' := [(3, .int (iI z102)), (0, .ref h), (1, .ref a1), (2, .int (iI a2))]) X.1 X.2.1 d_Ce_judgeClient_9 rfl hl (by decide) rfl (fun ls hl => ?_)
  refine lv_iload_n X.1 X.2.1 d_Ce_judgeClient_10 rfl (lv_at hl 0 rfl) ?_
  refine z_if_ge (tgt := 17) X.1 X.2.1 d_Ce_judgeClient_11 (by decide) ⟨by omega, by omega⟩ (fun h103 => ?_) (fun h103 => ?_)
  · refine lv_aload_n X.1 X.2.1 d_Ce_judgeClient_17 rfl (lv_at hl 1 rfl) ?_
    refine lv_aload_n X.1 X.2.1 d_Ce_judgeClient_18 rfl (lv_at hl 1 rfl) ?_
    refine t_get0 (ci := 4) X Y S k0 rfl i_Ce 2 (by decide) rfl lk_Ce_26 (fun _ h9 => h9) d_Ce_judgeClient_19 e101 ?_
    refine lv_iload_n X.1 X.2.1 d_Ce_judgeClient_22 rfl (lv_at hl 0 rfl) ?_
    refine t_aald X Y S k101 (fun h9 => h9) (t0 := 2) rfl (by omega) (by omega) (by omega) d_Ce_judgeClient_23 (fun b104 e104 k104 => ?_)
    refine t_put (ci := 4) X Y S k0 rfl i_Ce t_Ce t_Ce_ok n_Ce 10 (by decide) rfl lk_Ce_37 (fun _ h9 => h9) rfl (t_Ce_ok 10 (by decide)) rfl rfl ⟨_, rfl, k104⟩ (nF_of S k0 (by decide)) d_Ce_judgeClient_24 (fun f105 H locs Y S w105 => ?_)
    refine lv_aload_n X.1 X.2.1 d_Ce_judgeClient_27 rfl (lv_at hl 1 rfl) ?_
    refine t_get0 (ci := 4) X Y S k0 rfl i_Ce 10 (by decide) rfl lk_Ce_37 (fun _ h9 => h9) d_Ce_judgeClient_28 w105.2.1 ?_
    refine lv_bipush (v := iI 32) X.1 X.2.1 d_Ce_judgeClient_31 (by decide) ?_
    refine t_ui (t_runV (As := [.int (iI 32)]) (rest := []) (n := 1) X Y S k104 hml hl.1 (c_Pr_is l D E T κ L f105 H.size b104 k104 32 (by omega) (by omega) S.1) (ok_k X Y hA KS KR) rfl kl_Ce_Pr_is ks_Pr_is kx_Pr_is ki_Pr_is ini_Pr ⟨rfl, rfl⟩ hd_Pr_is ⟨Nat.le_of_ble_eq_true rfl, Nat.le_of_ble_eq_true rfl⟩ rfl (Nat.le_of_ble_eq_true rfl) d_Ce_judgeClient_33 ⟨Nat.le_of_ble_eq_true rfl, Nat.le_of_ble_eq_true rfl⟩) X Y hA (fun z106 H locs Y p106 => ?_)
    obtain ⟨l106, u106⟩ := p106
    refine z_if_eq (tgt := 42) X.1 X.2.1 d_Ce_judgeClient_36 (by decide) ⟨by omega, by omega⟩ (fun h107 => ?_) (fun h107 => ?_)
    · refine lv_aload_n X.1 X.2.1 d_Ce_judgeClient_42 rfl (lv_at hl 1 rfl) ?_
      refine t_get0 (ci := 4) X Y S k0 rfl i_Ce 10 (by decide) rfl lk_Ce_37 (fun _ h9 => h9) d_Ce_judgeClient_43 w105.2.1 ?_
      refine lv_aload_n X.1 X.2.1 d_Ce_judgeClient_46 rfl (lv_at hl 1 rfl) ?_
      refine t_getr (ci := 4) X Y S k0 rfl i_Ce 0 (by decide) rfl (k1 := 21) (k2 := 0) rfl rfl lk_Ce_18 (fun _ h9 => h9) d_Ce_judgeClient_47 (fun b108 e108 k108 => ?_)
      refine t_geti (ci := 11) X Y S k108 rfl i_Va 0 (by decide) rfl lk_Ce_112 (fun _ h9 => h9) d_Ce_judgeClient_50 (fun z109 e109 l109 u109 => ?_)
      refine t_ui (t_runV (As := [.int (iI z109)]) (rest := []) (n := 1) X Y S k104 hml hl.1 (c_Pr_isOver l D E T κ L f105 H.size b104 k104 z109 (by omega) (by omega) S.1) (ok_k X Y hA KS KR) rfl kl_Ce_Pr_isOver ks_Pr_isOver kx_Pr_isOver ki_Pr_isOver ini_Pr ⟨rfl, rfl⟩ hd_Pr_isOver ⟨Nat.le_of_ble_eq_true rfl, Nat.le_of_ble_eq_true rfl⟩ rfl (Nat.le_of_ble_eq_true rfl) d_Ce_judgeClient_53 ⟨Nat.le_of_ble_eq_true rfl, Nat.le_of_ble_eq_true rfl⟩) X Y hA (fun z110 H locs Y p110 => ?_)
      obtain ⟨l110, u110⟩ := p110
      refine z_if_eq (tgt := 63) X.1 X.2.1 d_Ce_judgeClient_56 (by decide) ⟨by omega, by omega⟩ (fun h111 => ?_) (fun h111 => ?_)
      · refine lv_iconst (v := iI 0) X.1 X.2.1 d_Ce_judgeClient_63 (by decide) ?_
        exact c_reti hQQ X Y hr hlk ⟨rfl, S, 0, rfl, ⟨by omega, by omega, (((gF_put w105 (Or.inr (by decide))).trans e3)).trans e3.symm⟩⟩ d_Ce_judgeClient_64
      · refine lv_iconst (v := iI 1) X.1 X.2.1 d_Ce_judgeClient_59 (by decide) ?_
        refine lv_goto (tgt := 64) X.1 X.2.1 d_Ce_judgeClient_60 (by decide) ?_
        exact c_reti hQQ X Y hr hlk ⟨rfl, S, 1, rfl, ⟨by omega, by omega, (((gF_put w105 (Or.inr (by decide))).trans e3)).trans e3.symm⟩⟩ d_Ce_judgeClient_64
    · refine lv_bipush (v := iI 18) X.1 X.2.1 d_Ce_judgeClient_39 (by decide) ?_
      exact c_reti hQQ X Y hr hlk ⟨rfl, S, 18, rfl, ⟨by omega, by omega, (((gF_put w105 (Or.inr (by decide))).trans e3)).trans e3.symm⟩⟩ d_Ce_judgeClient_41
  · refine lv_bipush (v := iI 6) X.1 X.2.1 d_Ce_judgeClient_14 (by decide) ?_
    exact c_reti hQQ X Y hr hlk ⟨rfl, S, 6, rfl, ⟨by omega, by omega, (e3).trans e3.symm⟩⟩ d_Ce_judgeClient_16
set_option maxHeartbeats 4000000 in
set_option maxRecDepth 100000 in
theorem c_Ce_judgeService (l : Launch) (D : va_G) (E : cE) (T : cT) (κ : tK) (L : List Nat) (f : pF) (sz : Nat) (h : Nat) (k0 : κ h = (14, 0)) (hw : tW E T κ L f) : Met l y_Ce_judgeService (k_Ce_judgeService :: lw_tg) (kRm 5 158 0 0) (va_Pc [.ref h] (kPre D E T L f sz)) (va_Qi (nPi E T [14] κ L f (fun (z : Int) (g : pF) => (-2147483648) ≤ z ∧ z ≤ 2147483647 ∧ gF g h 3 = gF f h 3)) (cPost D E (pA L sz)) (pA L sz)) 0 0 (pA L sz) := by
  refine k_enter (own := R_Ce) (by decide) rfl (Nat.le_of_ble_eq_true rfl) (fun p e s m below meth c ls AV QQ H locs hQQ X Y hA hin hr hlk hml hl KS KR => ?_)
  have hl : lv_has ls 2 [(0, .ref h)] := hl
  have S : tS E T (tFr κ L [14] []) κ L f κ L f := tS_rf hw
  obtain ⟨tp, e3, ktp⟩ := t_tape S k0
  refine lv_aload_n X.1 X.2.1 d_Ce_judgeService_0 rfl (lv_at hl 0 rfl) ?_
  refine t_getr (ci := 4) X Y S k0 rfl i_Ce 2 (by decide) rfl (k1 := 5) (k2 := 12) rfl rfl lk_Ce_26 (fun _ h9 => h9) d_Ce_judgeService_1 (fun b101 e101 k101 => ?_)
  refine lv_aload_n X.1 X.2.1 d_Ce_judgeService_4 rfl (lv_at hl 0 rfl) ?_
  refine t_get0 (ci := 4) X Y S k0 rfl i_Ce 3 (by decide) rfl lk_Ce_30 (fun _ h9 => h9) d_Ce_judgeService_5 e3 ?_
  refine lv_aload_n X.1 X.2.1 d_Ce_judgeService_8 rfl (lv_at hl 0 rfl) ?_
  refine t_get0 (ci := 4) X Y S k0 rfl i_Ce 3 (by decide) rfl lk_Ce_30 (fun _ h9 => h9) d_Ce_judgeService_9 e3 ?_
  refine lv_aload_n X.1 X.2.1 d_Ce_judgeService_12 rfl (lv_at hl 0 rfl) ?_
  refine t_geti (ci := 4) X Y S k0 rfl i_Ce 8 (by decide) rfl lk_Ce_81 (fun _ h9 => h9) d_Ce_judgeService_13 (fun z102 e102 l102 u102 => ?_)
  refine lv_iconst (v := iI 3) X.1 X.2.1 d_Ce_judgeService_16 (by decide) ?_
  refine t_ui (t_runV (As := [.int (iI z102), .int (iI 3)]) (rest := [.ref tp, .ref b101]) (n := 2) X Y S ktp hml hl.1 (c_By_field l D E T κ L f H.size tp 4000 ktp (by omega) z102 (by omega) (by omega) 3 (by omega) (by omega) S.1) (ok_k X Y hA KS KR) rfl kl_Ce_By_field ks_By_field kx_By_field ki_By_field ini_By ⟨rfl, rfl⟩ hd_By_field ⟨Nat.le_of_ble_eq_true rfl, Nat.le_of_ble_eq_true rfl⟩ rfl (Nat.le_of_ble_eq_true rfl) d_Ce_judgeService_17 ⟨Nat.le_of_ble_eq_true rfl, Nat.le_of_ble_eq_true rfl⟩) X Y hA (fun z103 H locs Y p103 => ?_)
  obtain ⟨l103, u103⟩ := p103
  refine t_ui (x_runS (As := [.ref b101, .ref tp, .int (iI z103)]) (rest := []) (n := 3) X hml hl.1 (c_Pr_findNamed l D E T κ L f H.size b101 k101 tp 4000 ktp (by omega) z103 (by omega) (by omega) S.1) (ok_k X Y hA KS KR) kl_Ce_Pr_findNamed ks_Pr_findNamed ki_Pr_findNamed ini_Pr ⟨rfl, rfl⟩ hd_Pr_findNamed.2 ⟨Nat.le_of_ble_eq_true rfl, Nat.le_of_ble_eq_true rfl⟩ rfl (Nat.le_of_ble_eq_true rfl) d_Ce_judgeService_20 ⟨Nat.le_of_ble_eq_true rfl, Nat.le_of_ble_eq_true rfl⟩) X Y hA (fun z104 H locs Y p104 => ?_)
  obtain ⟨l104, u104⟩ := p104
  refine lv_istore_n (lv' := [(1, .int (iI z104)), (0, .ref h)]) X.1 X.2.1 d_Ce_judgeService_23 rfl hl (by decide) rfl (fun ls hl => ?_)
  refine lv_iload_n X.1 X.2.1 d_Ce_judgeService_24 rfl (lv_at hl 0 rfl) ?_
  refine z_if_ge (tgt := 31) X.1 X.2.1 d_Ce_judgeService_25 (by decide) ⟨by omega, by omega⟩ (fun h105 => ?_) (fun h105 => ?_)
  · refine lv_aload_n X.1 X.2.1 d_Ce_judgeService_31 rfl (lv_at hl 1 rfl) ?_
    refine lv_aload_n X.1 X.2.1 d_Ce_judgeService_32 rfl (lv_at hl 1 rfl) ?_
    refine t_get0 (ci := 4) X Y S k0 rfl i_Ce 2 (by decide) rfl lk_Ce_26 (fun _ h9 => h9) d_Ce_judgeService_33 e101 ?_
    refine lv_iload_n X.1 X.2.1 d_Ce_judgeService_36 rfl (lv_at hl 0 rfl) ?_
    refine t_aald X Y S k101 (fun h9 => h9) (t0 := 2) rfl (by omega) (by omega) (by omega) d_Ce_judgeService_37 (fun b106 e106 k106 => ?_)
    refine t_put (ci := 4) X Y S k0 rfl i_Ce t_Ce t_Ce_ok n_Ce 11 (by decide) rfl lk_Ce_41 (fun _ h9 => h9) rfl (t_Ce_ok 11 (by decide)) rfl rfl ⟨_, rfl, k106⟩ (nF_of S k0 (by decide)) d_Ce_judgeService_38 (fun f107 H locs Y S w107 => ?_)
    refine lv_aload_n X.1 X.2.1 d_Ce_judgeService_41 rfl (lv_at hl 1 rfl) ?_
    refine t_get0 (ci := 4) X Y S k0 rfl i_Ce 11 (by decide) rfl lk_Ce_41 (fun _ h9 => h9) d_Ce_judgeService_42 w107.2.1 ?_
    refine lv_bipush (v := iI 48) X.1 X.2.1 d_Ce_judgeService_45 (by decide) ?_
    refine t_ui (t_runV (As := [.int (iI 48)]) (rest := []) (n := 1) X Y S k106 hml hl.1 (c_Pr_is l D E T κ L f107 H.size b106 k106 48 (by omega) (by omega) S.1) (ok_k X Y hA KS KR) rfl kl_Ce_Pr_is ks_Pr_is kx_Pr_is ki_Pr_is ini_Pr ⟨rfl, rfl⟩ hd_Pr_is ⟨Nat.le_of_ble_eq_true rfl, Nat.le_of_ble_eq_true rfl⟩ rfl (Nat.le_of_ble_eq_true rfl) d_Ce_judgeService_47 ⟨Nat.le_of_ble_eq_true rfl, Nat.le_of_ble_eq_true rfl⟩) X Y hA (fun z108 H locs Y p108 => ?_)
    obtain ⟨l108, u108⟩ := p108
    refine z_if_eq (tgt := 56) X.1 X.2.1 d_Ce_judgeService_50 (by decide) ⟨by omega, by omega⟩ (fun h109 => ?_) (fun h109 => ?_)
    · refine lv_aload_n X.1 X.2.1 d_Ce_judgeService_56 rfl (lv_at hl 1 rfl) ?_
      refine t_get0 (ci := 4) X Y S k0 rfl i_Ce 11 (by decide) rfl lk_Ce_41 (fun _ h9 => h9) d_Ce_judgeService_57 w107.2.1 ?_
      refine lv_aload_n X.1 X.2.1 d_Ce_judgeService_60 rfl (lv_at hl 1 rfl) ?_
      refine t_getr (ci := 4) X Y S k0 rfl i_Ce 0 (by decide) rfl (k1 := 21) (k2 := 0) rfl rfl lk_Ce_18 (fun _ h9 => h9) d_Ce_judgeService_61 (fun b110 e110 k110 => ?_)
      refine t_geti (ci := 11) X Y S k110 rfl i_Va 0 (by decide) rfl lk_Ce_112 (fun _ h9 => h9) d_Ce_judgeService_64 (fun z111 e111 l111 u111 => ?_)
      refine t_ui (t_runV (As := [.int (iI z111)]) (rest := []) (n := 1) X Y S k106 hml hl.1 (c_Pr_isOver l D E T κ L f107 H.size b106 k106 z111 (by omega) (by omega) S.1) (ok_k X Y hA KS KR) rfl kl_Ce_Pr_isOver ks_Pr_isOver kx_Pr_isOver ki_Pr_isOver ini_Pr ⟨rfl, rfl⟩ hd_Pr_isOver ⟨Nat.le_of_ble_eq_true rfl, Nat.le_of_ble_eq_true rfl⟩ rfl (Nat.le_of_ble_eq_true rfl) d_Ce_judgeService_67 ⟨Nat.le_of_ble_eq_true rfl, Nat.le_of_ble_eq_true rfl⟩) X Y hA (fun z112 H locs Y p112 => ?_)
      obtain ⟨l112, u112⟩ := p112
      refine z_if_eq (tgt := 77) X.1 X.2.1 d_Ce_judgeService_70 (by decide) ⟨by omega, by omega⟩ (fun h113 => ?_) (fun h113 => ?_)
      · refine lv_iconst (v := iI 0) X.1 X.2.1 d_Ce_judgeService_77 (by decide) ?_
        exact c_reti hQQ X Y hr hlk ⟨rfl, S, 0, rfl, ⟨by omega, by omega, (((gF_put w107 (Or.inr (by decide))).trans e3)).trans e3.symm⟩⟩ d_Ce_judgeService_78
      · refine lv_iconst (v := iI 2) X.1 X.2.1 d_Ce_judgeService_73 (by decide) ?_
        refine lv_goto (tgt := 78) X.1 X.2.1 d_Ce_judgeService_74 (by decide) ?_
        exact c_reti hQQ X Y hr hlk ⟨rfl, S, 2, rfl, ⟨by omega, by omega, (((gF_put w107 (Or.inr (by decide))).trans e3)).trans e3.symm⟩⟩ d_Ce_judgeService_78
    · refine lv_bipush (v := iI 12) X.1 X.2.1 d_Ce_judgeService_53 (by decide) ?_
      exact c_reti hQQ X Y hr hlk ⟨rfl, S, 12, rfl, ⟨by omega, by omega, (((gF_put w107 (Or.inr (by decide))).trans e3)).trans e3.symm⟩⟩ d_Ce_judgeService_55
  · refine lv_bipush (v := iI 7) X.1 X.2.1 d_Ce_judgeService_28 (by decide) ?_
    exact c_reti hQQ X Y hr hlk ⟨rfl, S, 7, rfl, ⟨by omega, by omega, (e3).trans e3.symm⟩⟩ d_Ce_judgeService_30
set_option maxHeartbeats 4000000 in
set_option maxRecDepth 100000 in
theorem c_Ce_isWanted (l : Launch) (D : va_G) (E : cE) (T : cT) (κ : tK) (L : List Nat) (f : pF) (sz : Nat) (h : Nat) (k0 : κ h = (14, 0)) (a1 : Int) (l_a1 : (-2147483648) ≤ a1) (u_a1 : a1 ≤ 2147483647) (hw : tW E T κ L f) : Met l y_Ce_isWanted (k_Ce_isWanted :: lw_tg) (kRm 3 112 0 0) (va_Pc [.ref h, .int (iI a1)] (kPre D E T L f sz)) (va_Qi (uPi L f (fun (z : Int) => 0 ≤ z ∧ z ≤ 1)) (cPost D E (pA L sz)) (pA L sz)) 0 0 (pA L sz) := by
  refine k_enter (own := R_Ce) (by decide) rfl (Nat.le_of_ble_eq_true rfl) (fun p e s m below meth c ls AV QQ H locs hQQ X Y hA hin hr hlk hml hl KS KR => ?_)
  have hl : lv_has ls 5 [(0, .ref h), (1, .int (iI a1))] := hl
  have S : tS E T (tFr κ L [] []) κ L f κ L f := tS_rf hw
  refine lv_aload_n X.1 X.2.1 d_Ce_isWanted_0 rfl (lv_at hl 0 rfl) ?_
  refine t_getr (ci := 4) X Y S k0 rfl i_Ce 3 (by decide) rfl (k1 := 13) (k2 := 4000) rfl rfl lk_Ce_30 (fun _ h9 => h9) d_Ce_isWanted_1 (fun b101 e101 k101 => ?_)
  refine lv_aload_n X.1 X.2.1 d_Ce_isWanted_4 rfl (lv_at hl 0 rfl) ?_
  refine t_geti (ci := 4) X Y S k0 rfl i_Ce 8 (by decide) rfl lk_Ce_81 (fun _ h9 => h9) d_Ce_isWanted_5 (fun z102 e102 l102 u102 => ?_)
  refine lv_bipush (v := iI 8) X.1 X.2.1 d_Ce_isWanted_8 (by decide) ?_
  refine t_ui (t_runV (As := [.int (iI z102), .int (iI 8)]) (rest := []) (n := 2) X Y S k101 hml hl.1 (c_By_field l D E T κ L f H.size b101 4000 k101 (by omega) z102 (by omega) (by omega) 8 (by omega) (by omega) S.1) (ok_k X Y hA KS KR) rfl kl_Ce_By_field ks_By_field kx_By_field ki_By_field ini_By ⟨rfl, rfl⟩ hd_By_field ⟨Nat.le_of_ble_eq_true rfl, Nat.le_of_ble_eq_true rfl⟩ rfl (Nat.le_of_ble_eq_true rfl) d_Ce_isWanted_10 ⟨Nat.le_of_ble_eq_true rfl, Nat.le_of_ble_eq_true rfl⟩) X Y hA (fun z103 H locs Y p103 => ?_)
  obtain ⟨l103, u103⟩ := p103
  refine lv_istore_n (lv' := [(2, .int (iI z103)), (0, .ref h), (1, .int (iI a1))]) X.1 X.2.1 d_Ce_isWanted_13 rfl hl (by decide) rfl (fun ls hl => ?_)
  refine lv_iconst (v := iI 0) X.1 X.2.1 d_Ce_isWanted_14 (by decide) ?_
  have J105 : ∀ (n107 : Nat) (z104 : Int) (H : Heap) (locs : List Loc) (ls : Array Slot), (16 - z104).toNat = n107 → (0 ≤ z104) → (z104 ≤ 16) → pH D cCl (pA L sz) s.heap L f H locs → tS E T (tFr κ L [] []) κ L f κ L f → lv_has ls 5 [(0, .ref h), (1, .int (iI a1)), (2, .int (iI z103)), (3, .int (iI z104))] → W p l e (kRm 3 112 0 0) s m AV below meth c H locs 0 0 QQ (F0 m 16 ls []) := by
    intro n107
    induction n107 using Nat.strongRecOn with
    | ind n107 ih106 =>
      intro z104 H locs ls hm108 l104 u104 Y S hl
      refine lv_iload_n X.1 X.2.1 d_Ce_isWanted_16 rfl (lv_at hl 3 rfl) ?_
      refine lv_bipush (v := iI 16) X.1 X.2.1 d_Ce_isWanted_17 (by decide) ?_
      refine z_icmp_ge (tgt := 61) X.1 X.2.1 d_Ce_isWanted_19 (by decide) ⟨by omega, by omega⟩ ⟨by omega, by omega⟩ (fun h109 => ?_) (fun h109 => ?_)
      · refine lv_iconst (v := iI 0) X.1 X.2.1 d_Ce_isWanted_61 (by decide) ?_
        exact c_retz hQQ X Y hr hlk (iI_bool (by omega) (by omega)).1 ⟨rfl, rfl, 0, rfl, ⟨by omega, by omega⟩⟩ d_Ce_isWanted_62
      · refine lv_aload_n X.1 X.2.1 d_Ce_isWanted_22 rfl (lv_at hl 0 rfl) ?_
        refine t_get0 (ci := 4) X Y S k0 rfl i_Ce 3 (by decide) rfl lk_Ce_30 (fun _ h9 => h9) d_Ce_isWanted_23 e101 ?_
        refine lv_iload_n X.1 X.2.1 d_Ce_isWanted_26 rfl (lv_at hl 2 rfl) ?_
        refine lv_iload_n X.1 X.2.1 d_Ce_isWanted_27 rfl (lv_at hl 3 rfl) ?_
        refine t_ui (t_runV (As := [.int (iI z103), .int (iI z104)]) (rest := []) (n := 2) X Y S k101 hml hl.1 (c_By_element l D E T κ L f H.size b101 4000 k101 (by omega) z103 (by omega) (by omega) z104 (by omega) (by omega) S.1) (ok_k X Y hA KS KR) rfl kl_Ce_By_element ks_By_element kx_By_element ki_By_element ini_By ⟨rfl, rfl⟩ hd_By_element ⟨Nat.le_of_ble_eq_true rfl, Nat.le_of_ble_eq_true rfl⟩ rfl (Nat.le_of_ble_eq_true rfl) d_Ce_isWanted_28 ⟨Nat.le_of_ble_eq_true rfl, Nat.le_of_ble_eq_true rfl⟩) X Y hA (fun z110 H locs Y p110 => ?_)
        obtain ⟨l110, u110⟩ := p110
        refine lv_istore (lv' := [(4, .int (iI z110)), (0, .ref h), (1, .int (iI a1)), (2, .int (iI z103)), (3, .int (iI z104))]) X.1 X.2.1 d_Ce_isWanted_31 hl (by decide) rfl (fun ls hl => ?_)
        refine lv_iload X.1 X.2.1 d_Ce_isWanted_33 (lv_at hl 0 rfl) ?_
        have J111 : ∀  (H : Heap) (locs : List Loc) (ls : Array Slot), pH D cCl (pA L sz) s.heap L f H locs → tS E T (tFr κ L [] []) κ L f κ L f → lv_has ls 5 [(0, .ref h), (1, .int (iI a1)), (2, .int (iI z103)), (3, .int (iI z104))] → W p l e (kRm 3 112 0 0) s m AV below meth c H locs 0 0 QQ (F0 m 55 ls []) := by
          intro  H locs ls  Y S hl
          refine lv_iinc (v := iI (z104 + 1)) (lv' := [(3, .int (iI (z104 + 1))), (0, .ref h), (1, .int (iI a1)), (2, .int (iI z103))]) X.1 X.2.1 d_Ce_isWanted_55 hl (k := 3) rfl ((iI_add _ _).trans (congrArg iI (by omega))) (by decide) rfl (fun ls hl => ?_)
          refine lv_goto (tgt := 16) X.1 X.2.1 d_Ce_isWanted_58 (by decide) ?_
          exact ih106 ((16 - (z104 + 1)).toNat) (by omega) (z104 + 1) _ _ _ rfl (by omega) (by omega) Y S (lv_sub hl [1, 2, 3, 0] rfl)
        refine z_if_lt (tgt := 55) X.1 X.2.1 d_Ce_isWanted_35 (by decide) ⟨by omega, by omega⟩ (fun h115 => ?_) (fun h115 => ?_)
        · exact J111  _ _ _  Y S (lv_sub hl [1, 2, 3, 4] rfl)
        · refine lv_aload_n X.1 X.2.1 d_Ce_isWanted_38 rfl (lv_at hl 1 rfl) ?_
          refine t_get0 (ci := 4) X Y S k0 rfl i_Ce 3 (by decide) rfl lk_Ce_30 (fun _ h9 => h9) d_Ce_isWanted_39 e101 ?_
          refine lv_iload X.1 X.2.1 d_Ce_isWanted_42 (lv_at hl 0 rfl) ?_
          refine t_ul (t_runV (As := [.int (iI z110)]) (rest := []) (n := 1) X Y S k101 hml hl.1 (c_By_numberAt l D E T κ L f H.size b101 4000 k101 (by omega) z110 (by omega) (by omega) S.1) (ok_k X Y hA KS KR) rfl kl_Ce_By_numberAt ks_By_numberAt kx_By_numberAt ki_By_numberAt ini_By ⟨rfl, rfl⟩ hd_By_numberAt ⟨Nat.le_of_ble_eq_true rfl, Nat.le_of_ble_eq_true rfl⟩ rfl (Nat.le_of_ble_eq_true rfl) d_Ce_isWanted_44 ⟨Nat.le_of_ble_eq_true rfl, Nat.le_of_ble_eq_true rfl⟩) X Y hA (fun v116 H locs Y p116 => ?_)
          refine lv_iload_n X.1 X.2.1 d_Ce_isWanted_47 rfl (lv_at hl 2 rfl) ?_
          refine lv_i2l X.1 X.2.1 d_Ce_isWanted_48 rfl ?_
          refine t_anyl (fun v117 => ?_)
          refine W.lcmp X.1 X.2.1 d_Ce_isWanted_49 ?_
          refine t_u (fun z118 l118 u118 => ?_)
          refine z_if_ne (tgt := 55) X.1 X.2.1 d_Ce_isWanted_50 (by decide) ⟨by omega, by omega⟩ (fun h119 => ?_) (fun h119 => ?_)
          · exact J111  _ _ _  Y S (lv_sub hl [1, 2, 3, 4] rfl)
          · refine lv_iconst (v := iI 1) X.1 X.2.1 d_Ce_isWanted_53 (by decide) ?_
            exact c_retz hQQ X Y hr hlk (iI_bool (by omega) (by omega)).1 ⟨rfl, rfl, 1, rfl, ⟨by omega, by omega⟩⟩ d_Ce_isWanted_54
  refine lv_istore_n (lv' := [(3, .int (iI 0)), (2, .int (iI z103)), (0, .ref h), (1, .int (iI a1))]) X.1 X.2.1 d_Ce_isWanted_15 rfl hl (by decide) rfl (fun ls hl => ?_)
  exact J105 _ 0 _ _ _ rfl (by omega) (by omega) Y S (lv_sub hl [2, 3, 1, 0] rfl)
set_option maxHeartbeats 4000000 in
set_option maxRecDepth 100000 in
theorem c_Ce_findType (l : Launch) (D : va_G) (E : cE) (T : cT) (κ : tK) (L : List Nat) (f : pF) (sz : Nat) (h : Nat) (k0 : κ h = (14, 0)) (hw : tW E T κ L f) : Met l y_Ce_findType (k_Ce_findType :: lw_tg) (kRm 3 112 0 0) (va_Pc [.ref h] (kPre D E T L f sz)) (va_Qi (nPi E T [14] κ L f (fun (z : Int) (g : pF) => 0 ≤ z ∧ z ≤ 1 ∧ gF g h 3 = gF f h 3)) (cPost D E (pA L sz)) (pA L sz)) 0 0 (pA L sz) := by
  refine k_enter (own := R_Ce) (by decide) rfl (Nat.le_of_ble_eq_true rfl) (fun p e s m below meth c ls AV QQ H locs hQQ X Y hA hin hr hlk hml hl KS KR => ?_)
  have hl : lv_has ls 6 [(0, .ref h)] := hl
  have S : tS E T (tFr κ L [14] []) κ L f κ L f := tS_rf hw
  obtain ⟨tp, e3, ktp⟩ := t_tape S k0
  refine lv_aload_n X.1 X.2.1 d_Ce_findType_0 rfl (lv_at hl 0 rfl) ?_
  refine t_get0 (ci := 4) X Y S k0 rfl i_Ce 3 (by decide) rfl lk_Ce_30 (fun _ h9 => h9) d_Ce_findType_1 e3 ?_
  refine lv_aload_n X.1 X.2.1 d_Ce_findType_4 rfl (lv_at hl 0 rfl) ?_
  refine t_geti (ci := 4) X Y S k0 rfl i_Ce 8 (by decide) rfl lk_Ce_81 (fun _ h9 => h9) d_Ce_findType_5 (fun z101 e101 l101 u101 => ?_)
  refine lv_bipush (v := iI 8) X.1 X.2.1 d_Ce_findType_8 (by decide) ?_
  refine t_ui (t_runV (As := [.int (iI z101), .int (iI 8)]) (rest := []) (n := 2) X Y S ktp hml hl.1 (c_By_field l D E T κ L f H.size tp 4000 ktp (by omega) z101 (by omega) (by omega) 8 (by omega) (by omega) S.1) (ok_k X Y hA KS KR) rfl kl_Ce_By_field ks_By_field kx_By_field ki_By_field ini_By ⟨rfl, rfl⟩ hd_By_field ⟨Nat.le_of_ble_eq_true rfl, Nat.le_of_ble_eq_true rfl⟩ rfl (Nat.le_of_ble_eq_true rfl) d_Ce_findType_10 ⟨Nat.le_of_ble_eq_true rfl, Nat.le_of_ble_eq_true rfl⟩) X Y hA (fun z102 H locs Y p102 => ?_)
  obtain ⟨l102, u102⟩ := p102
  refine lv_istore_n (lv' := [(1, .int (iI z102)), (0, .ref h)]) X.1 X.2.1 d_Ce_findType_13 rfl hl (by decide) rfl (fun ls hl => ?_)
  refine lv_iconst (v := iI 0) X.1 X.2.1 d_Ce_findType_14 (by decide) ?_
  have J104 : ∀ (n106 : Nat) (z103 : Int) (H : Heap) (locs : List Loc) (ls : Array Slot), (16 - z103).toNat = n106 → (0 ≤ z103) → (z103 ≤ 16) → pH D cCl (pA L sz) s.heap L f H locs → tS E T (tFr κ L [14] []) κ L f κ L f → lv_has ls 6 [(0, .ref h), (1, .int (iI z102)), (2, .int (iI z103))] → W p l e (kRm 3 112 0 0) s m AV below meth c H locs 0 0 QQ (F0 m 16 ls []) := by
    intro n106
    induction n106 using Nat.strongRecOn with
    | ind n106 ih105 =>
      intro z103 H locs ls hm107 l103 u103 Y S hl
      refine lv_iload_n X.1 X.2.1 d_Ce_findType_16 rfl (lv_at hl 2 rfl) ?_
      refine lv_bipush (v := iI 16) X.1 X.2.1 d_Ce_findType_17 (by decide) ?_
      refine z_icmp_ge (tgt := 83) X.1 X.2.1 d_Ce_findType_19 (by decide) ⟨by omega, by omega⟩ ⟨by omega, by omega⟩ (fun h108 => ?_) (fun h108 => ?_)
      · refine lv_iconst (v := iI 0) X.1 X.2.1 d_Ce_findType_83 (by decide) ?_
        exact c_retz hQQ X Y hr hlk (iI_bool (by omega) (by omega)).1 ⟨rfl, S, 0, rfl, ⟨by omega, by omega, (e3).trans e3.symm⟩⟩ d_Ce_findType_84
      · refine lv_aload_n X.1 X.2.1 d_Ce_findType_22 rfl (lv_at hl 0 rfl) ?_
        refine t_get0 (ci := 4) X Y S k0 rfl i_Ce 3 (by decide) rfl lk_Ce_30 (fun _ h9 => h9) d_Ce_findType_23 e3 ?_
        refine lv_iload_n X.1 X.2.1 d_Ce_findType_26 rfl (lv_at hl 1 rfl) ?_
        refine lv_iload_n X.1 X.2.1 d_Ce_findType_27 rfl (lv_at hl 2 rfl) ?_
        refine t_ui (t_runV (As := [.int (iI z102), .int (iI z103)]) (rest := []) (n := 2) X Y S ktp hml hl.1 (c_By_element l D E T κ L f H.size tp 4000 ktp (by omega) z102 (by omega) (by omega) z103 (by omega) (by omega) S.1) (ok_k X Y hA KS KR) rfl kl_Ce_By_element ks_By_element kx_By_element ki_By_element ini_By ⟨rfl, rfl⟩ hd_By_element ⟨Nat.le_of_ble_eq_true rfl, Nat.le_of_ble_eq_true rfl⟩ rfl (Nat.le_of_ble_eq_true rfl) d_Ce_findType_28 ⟨Nat.le_of_ble_eq_true rfl, Nat.le_of_ble_eq_true rfl⟩) X Y hA (fun z109 H locs Y p109 => ?_)
        obtain ⟨l109, u109⟩ := p109
        refine lv_istore_n (lv' := [(3, .int (iI z109)), (0, .ref h), (1, .int (iI z102)), (2, .int (iI z103))]) X.1 X.2.1 d_Ce_findType_31 rfl hl (by decide) rfl (fun ls hl => ?_)
        refine lv_iload_n X.1 X.2.1 d_Ce_findType_32 rfl (lv_at hl 0 rfl) ?_
        have J111 : ∀ (v110 : Int64) (H : Heap) (locs : List Loc) (ls : Array Slot), pH D cCl (pA L sz) s.heap L f H locs → tS E T (tFr κ L [14] []) κ L f κ L f → lv_has ls 6 [(0, .ref h), (1, .int (iI z102)), (2, .int (iI z103))] → W p l e (kRm 3 112 0 0) s m AV below meth c H locs 0 0 QQ (F0 m 48 ls [.long v110]) := by
          intro v110 H locs ls  Y S hl
          refine lv_lstore (lv' := [(4, .long v110), (0, .ref h), (1, .int (iI z102)), (2, .int (iI z103))]) X.1 X.2.1 d_Ce_findType_48 hl (by decide) rfl (fun ls hl => ?_)
          refine lv_lload X.1 X.2.1 d_Ce_findType_50 (lv_at hl 0 rfl) ?_
          refine lv_ldc2 (v := (17)) X.1 X.2.1 X.2.2.2.1 (X.2.2.1 _ cl_Ce_153) d_Ce_findType_52 ?_
          refine W.lcmp X.1 X.2.1 d_Ce_findType_55 ?_
          refine t_u (fun z115 l115 u115 => ?_)
          refine z_if_eq (tgt := 68) X.1 X.2.1 d_Ce_findType_56 (by decide) ⟨by omega, by omega⟩ (fun h116 => ?_) (fun h116 => ?_)
          · refine lv_aload_n X.1 X.2.1 d_Ce_findType_68 rfl (lv_at hl 1 rfl) ?_
            refine lv_lload X.1 X.2.1 d_Ce_findType_69 (lv_at hl 0 rfl) ?_
            refine lv_l2i X.1 X.2.1 d_Ce_findType_71 rfl ?_
            refine t_u (fun z117 l117 u117 => ?_)
            refine t_put (ci := 4) X Y S k0 rfl i_Ce t_Ce t_Ce_ok n_Ce 12 (by decide) rfl lk_Ce_157 (fun _ h9 => h9) rfl (t_Ce_ok 12 (by decide)) rfl rfl ⟨_, rfl, (show ((-2147483648) : Int) ≤ z117 by omega), (show z117 ≤ (2147483647 : Int) by omega)⟩ (nF_of S k0 (by decide)) d_Ce_findType_72 (fun f118 H locs Y S w118 => ?_)
            refine lv_iconst (v := iI 1) X.1 X.2.1 d_Ce_findType_75 (by decide) ?_
            exact c_retz hQQ X Y hr hlk (iI_bool (by omega) (by omega)).1 ⟨rfl, S, 1, rfl, ⟨by omega, by omega, (((gF_put w118 (Or.inr (by decide))).trans e3)).trans e3.symm⟩⟩ d_Ce_findType_76
          · refine lv_lload X.1 X.2.1 d_Ce_findType_59 (lv_at hl 0 rfl) ?_
            refine lv_ldc2 (v := (18)) X.1 X.2.1 X.2.2.2.1 (X.2.2.1 _ cl_Ce_155) d_Ce_findType_61 ?_
            refine W.lcmp X.1 X.2.1 d_Ce_findType_64 ?_
            refine t_u (fun z119 l119 u119 => ?_)
            refine z_if_ne (tgt := 77) X.1 X.2.1 d_Ce_findType_65 (by decide) ⟨by omega, by omega⟩ (fun h120 => ?_) (fun h120 => ?_)
            · refine lv_iinc (v := iI (z103 + 1)) (lv' := [(2, .int (iI (z103 + 1))), (4, .long v110), (0, .ref h), (1, .int (iI z102))]) X.1 X.2.1 d_Ce_findType_77 hl (k := 3) rfl ((iI_add _ _).trans (congrArg iI (by omega))) (by decide) rfl (fun ls hl => ?_)
              refine lv_goto (tgt := 16) X.1 X.2.1 d_Ce_findType_80 (by decide) ?_
              exact ih105 ((16 - (z103 + 1)).toNat) (by omega) (z103 + 1) _ _ _ rfl (by omega) (by omega) Y S (lv_sub hl [2, 3, 0] rfl)
            · refine lv_aload_n X.1 X.2.1 d_Ce_findType_68 rfl (lv_at hl 1 rfl) ?_
              refine lv_lload X.1 X.2.1 d_Ce_findType_69 (lv_at hl 0 rfl) ?_
              refine lv_l2i X.1 X.2.1 d_Ce_findType_71 rfl ?_
              refine t_u (fun z121 l121 u121 => ?_)
              refine t_put (ci := 4) X Y S k0 rfl i_Ce t_Ce t_Ce_ok n_Ce 12 (by decide) rfl lk_Ce_157 (fun _ h9 => h9) rfl (t_Ce_ok 12 (by decide)) rfl rfl ⟨_, rfl, (show ((-2147483648) : Int) ≤ z121 by omega), (show z121 ≤ (2147483647 : Int) by omega)⟩ (nF_of S k0 (by decide)) d_Ce_findType_72 (fun f122 H locs Y S w122 => ?_)
              refine lv_iconst (v := iI 1) X.1 X.2.1 d_Ce_findType_75 (by decide) ?_
              exact c_retz hQQ X Y hr hlk (iI_bool (by omega) (by omega)).1 ⟨rfl, S, 1, rfl, ⟨by omega, by omega, (((gF_put w122 (Or.inr (by decide))).trans e3)).trans e3.symm⟩⟩ d_Ce_findType_76
        refine z_if_lt (tgt := 47) X.1 X.2.1 d_Ce_findType_33 (by decide) ⟨by omega, by omega⟩ (fun h123 => ?_) (fun h123 => ?_)
        · refine lv_lconst (v := 0) X.1 X.2.1 d_Ce_findType_47 rfl ?_
          exact J111 0 _ _ _  Y S (lv_sub hl [1, 2, 3] rfl)
        · refine lv_aload_n X.1 X.2.1 d_Ce_findType_36 rfl (lv_at hl 1 rfl) ?_
          refine t_get0 (ci := 4) X Y S k0 rfl i_Ce 3 (by decide) rfl lk_Ce_30 (fun _ h9 => h9) d_Ce_findType_37 e3 ?_
          refine lv_iload_n X.1 X.2.1 d_Ce_findType_40 rfl (lv_at hl 0 rfl) ?_
          refine t_ul (t_runV (As := [.int (iI z109)]) (rest := []) (n := 1) X Y S ktp hml hl.1 (c_By_numberAt l D E T κ L f H.size tp 4000 ktp (by omega) z109 (by omega) (by omega) S.1) (ok_k X Y hA KS KR) rfl kl_Ce_By_numberAt ks_By_numberAt kx_By_numberAt ki_By_numberAt ini_By ⟨rfl, rfl⟩ hd_By_numberAt ⟨Nat.le_of_ble_eq_true rfl, Nat.le_of_ble_eq_true rfl⟩ rfl (Nat.le_of_ble_eq_true rfl) d_Ce_findType_41 ⟨Nat.le_of_ble_eq_true rfl, Nat.le_of_ble_eq_true rfl⟩) X Y hA (fun v124 H locs Y p124 => ?_)
          refine lv_goto (tgt := 48) X.1 X.2.1 d_Ce_findType_44 (by decide) ?_
          exact J111 v124 _ _ _  Y S (lv_sub hl [1, 2, 3] rfl)
  refine lv_istore_n (lv' := [(2, .int (iI 0)), (1, .int (iI z102)), (0, .ref h)]) X.1 X.2.1 d_Ce_findType_15 rfl hl (by decide) rfl (fun ls hl => ?_)
  exact J104 _ 0 _ _ _ rfl (by omega) (by omega) Y S (lv_sub hl [2, 1, 0] rfl)
set_option maxHeartbeats 4000000 in
set_option maxRecDepth 100000 in
theorem c_Ce_judgeSum (l : Launch) (D : va_G) (E : cE) (T : cT) (κ : tK) (L : List Nat) (f : pF) (sz : Nat) (h : Nat) (k0 : κ h = (14, 0)) (hw : tW E T κ L f) : Met l y_Ce_judgeSum (k_Ce_judgeSum :: lw_tg) (kRm 6 180 0 0) (va_Pc [.ref h] (kPre D E T L f sz)) (va_Qi (nPi E T [1, 2, 3, 4, 11, 16] κ L f (fun (z : Int) (g : pF) => (-2147483648) ≤ z ∧ z ≤ 2147483647)) (cPost D E (pA L sz)) (pA L sz)) 0 0 (pA L sz) := by
  refine k_enter (own := R_Ce) (by decide) rfl (Nat.le_of_ble_eq_true rfl) (fun p e s m below meth c ls AV QQ H locs hQQ X Y hA hin hr hlk hml hl KS KR => ?_)
  have hl : lv_has ls 2 [(0, .ref h)] := hl
  have S : tS E T (tFr κ L [1, 2, 3, 4, 11, 16] []) κ L f κ L f := tS_rf hw
  refine lv_aload_n X.1 X.2.1 d_Ce_judgeSum_0 rfl (lv_at hl 0 rfl) ?_
  refine t_getr (ci := 4) X Y S k0 rfl i_Ce 1 (by decide) rfl (k1 := 15) (k2 := 0) rfl rfl lk_Ce_22 (fun _ h9 => h9) d_Ce_judgeSum_1 (fun b101 e101 k101 => ?_)
  refine t_getr (ci := 5) X Y S k101 rfl i_Ga 2 (by decide) rfl (k1 := 13) (k2 := 4000) rfl rfl lk_Ce_181 (fun _ h9 => h9) d_Ce_judgeSum_4 (fun b102 e102 k102 => ?_)
  refine lv_iconst (v := iI 0) X.1 X.2.1 d_Ce_judgeSum_7 (by decide) ?_
  refine lv_iconst (v := iI 3) X.1 X.2.1 d_Ce_judgeSum_8 (by decide) ?_
  refine t_ui (t_runV (As := [.int (iI 0), .int (iI 3)]) (rest := []) (n := 2) X Y S k102 hml hl.1 (c_By_field l D E T κ L f H.size b102 4000 k102 (by omega) 0 (by omega) (by omega) 3 (by omega) (by omega) S.1) (ok_k X Y hA KS KR) rfl kl_Ce_By_field ks_By_field kx_By_field ki_By_field ini_By ⟨rfl, rfl⟩ hd_By_field ⟨Nat.le_of_ble_eq_true rfl, Nat.le_of_ble_eq_true rfl⟩ rfl (Nat.le_of_ble_eq_true rfl) d_Ce_judgeSum_9 ⟨Nat.le_of_ble_eq_true rfl, Nat.le_of_ble_eq_true rfl⟩) X Y hA (fun z103 H locs Y p103 => ?_)
  obtain ⟨l103, u103⟩ := p103
  refine lv_istore_n (lv' := [(1, .int (iI z103)), (0, .ref h)]) X.1 X.2.1 d_Ce_judgeSum_12 rfl hl (by decide) rfl (fun ls hl => ?_)
  refine lv_iload_n X.1 X.2.1 d_Ce_judgeSum_13 rfl (lv_at hl 0 rfl) ?_
  refine z_if_lt (tgt := 38) X.1 X.2.1 d_Ce_judgeSum_14 (by decide) ⟨by omega, by omega⟩ (fun h104 => ?_) (fun h104 => ?_)
  · refine lv_bipush (v := iI 50) X.1 X.2.1 d_Ce_judgeSum_38 (by decide) ?_
    exact c_reti hQQ X Y hr hlk ⟨rfl, S, 50, rfl, ⟨by omega, by omega⟩⟩ d_Ce_judgeSum_40
  · refine lv_aload_n X.1 X.2.1 d_Ce_judgeSum_17 rfl (lv_at hl 1 rfl) ?_
    refine t_get0 (ci := 4) X Y S k0 rfl i_Ce 1 (by decide) rfl lk_Ce_22 (fun _ h9 => h9) d_Ce_judgeSum_18 e101 ?_
    refine t_getk (ci := 5) X Y S k101 rfl i_Ga 3 (by decide) rfl lk_Ce_184 (fun _ h9 => h9) d_Ce_judgeSum_21 (fun b105 n105 e105 k105 x105 => ?_)
    refine lv_aload_n X.1 X.2.1 d_Ce_judgeSum_24 rfl (lv_at hl 1 rfl) ?_
    refine t_get0 (ci := 4) X Y S k0 rfl i_Ce 1 (by decide) rfl lk_Ce_22 (fun _ h9 => h9) d_Ce_judgeSum_25 e101 ?_
    refine t_get0 (ci := 5) X Y S k101 rfl i_Ga 2 (by decide) rfl lk_Ce_181 (fun _ h9 => h9) d_Ce_judgeSum_28 e102 ?_
    refine lv_iload_n X.1 X.2.1 d_Ce_judgeSum_31 rfl (lv_at hl 0 rfl) ?_
    refine t_ui (x_runS (As := [.ref b105, .ref b102, .int (iI z103)]) (rest := []) (n := 3) X hml hl.1 (c_Va_isSumFor l D E T κ L f H.size b105 n105 k105 (by omega) b102 4000 k102 (by omega) z103 (by omega) (by omega) S.1) (ok_k X Y hA KS KR) kl_Ce_Va_isSumFor ks_Va_isSumFor ki_Va_isSumFor ini_Va ⟨rfl, rfl⟩ hd_Va_isSumFor.2 ⟨Nat.le_of_ble_eq_true rfl, Nat.le_of_ble_eq_true rfl⟩ rfl (Nat.le_of_ble_eq_true rfl) d_Ce_judgeSum_32 ⟨Nat.le_of_ble_eq_true rfl, Nat.le_of_ble_eq_true rfl⟩) X Y hA (fun z106 H locs Y p106 => ?_)
    obtain ⟨l106, u106⟩ := p106
    refine z_if_ne (tgt := 41) X.1 X.2.1 d_Ce_judgeSum_35 (by decide) ⟨by omega, by omega⟩ (fun h107 => ?_) (fun h107 => ?_)
    · refine lv_aload_n X.1 X.2.1 d_Ce_judgeSum_41 rfl (lv_at hl 1 rfl) ?_
      refine t_getr (ci := 4) X Y S k0 rfl i_Ce 0 (by decide) rfl (k1 := 21) (k2 := 0) rfl rfl lk_Ce_18 (fun _ h9 => h9) d_Ce_judgeSum_42 (fun b108 e108 k108 => ?_)
      refine lv_aload_n X.1 X.2.1 d_Ce_judgeSum_45 rfl (lv_at hl 1 rfl) ?_
      refine t_get0 (ci := 4) X Y S k0 rfl i_Ce 1 (by decide) rfl lk_Ce_22 (fun _ h9 => h9) d_Ce_judgeSum_46 e101 ?_
      refine t_get0 (ci := 5) X Y S k101 rfl i_Ga 3 (by decide) rfl lk_Ce_184 (fun _ h9 => h9) d_Ce_judgeSum_49 e105 ?_
      refine lv_bipush (v := iI 6) X.1 X.2.1 d_Ce_judgeSum_52 (by decide) ?_
      refine lv_aload_n X.1 X.2.1 d_Ce_judgeSum_54 rfl (lv_at hl 1 rfl) ?_
      refine t_getr (ci := 4) X Y S k0 rfl i_Ce 3 (by decide) rfl (k1 := 13) (k2 := 4000) rfl rfl lk_Ce_30 (fun _ h9 => h9) d_Ce_judgeSum_55 (fun b109 e109 k109 => ?_)
      refine lv_aload_n X.1 X.2.1 d_Ce_judgeSum_58 rfl (lv_at hl 1 rfl) ?_
      refine t_geti (ci := 4) X Y S k0 rfl i_Ce 8 (by decide) rfl lk_Ce_81 (fun _ h9 => h9) d_Ce_judgeSum_59 (fun z110 e110 l110 u110 => ?_)
      refine lv_aload_n X.1 X.2.1 d_Ce_judgeSum_62 rfl (lv_at hl 1 rfl) ?_
      refine t_get0 (ci := 4) X Y S k0 rfl i_Ce 3 (by decide) rfl lk_Ce_30 (fun _ h9 => h9) d_Ce_judgeSum_63 e109 ?_
      refine lv_aload_n X.1 X.2.1 d_Ce_judgeSum_66 rfl (lv_at hl 1 rfl) ?_
      refine t_get0 (ci := 4) X Y S k0 rfl i_Ce 8 (by decide) rfl lk_Ce_81 (fun _ h9 => h9) d_Ce_judgeSum_67 e110 ?_
      refine lv_aload_n X.1 X.2.1 d_Ce_judgeSum_70 rfl (lv_at hl 1 rfl) ?_
      refine t_get0 (ci := 4) X Y S k0 rfl i_Ce 3 (by decide) rfl lk_Ce_30 (fun _ h9 => h9) d_Ce_judgeSum_71 e109 ?_
      refine t_gets (ci := 3) X Y S k109 rfl i_By 1 (by decide) rfl lk_Ce_69 (fun _ h9 => h9) d_Ce_judgeSum_74 (fun z111 e111 l111 u111 => ?_)
      refine t_ui (t_runV (As := [.int (iI z110), .int (iI z111)]) (rest := [.int (iI z110), .ref b109, .int (iI 6), .ref b105, .ref b108]) (n := 2) X Y S k109 hml hl.1 (c_By_stop l D E T κ L f H.size b109 4000 k109 (by omega) z110 (by omega) (by omega) z111 (by omega) (by omega) S.1 z111 e111 (by omega) (by omega)) (ok_k X Y hA KS KR) rfl kl_Ce_By_stop ks_By_stop kx_By_stop ki_By_stop ini_By ⟨rfl, rfl⟩ hd_By_stop ⟨Nat.le_of_ble_eq_true rfl, Nat.le_of_ble_eq_true rfl⟩ rfl (Nat.le_of_ble_eq_true rfl) d_Ce_judgeSum_77 ⟨Nat.le_of_ble_eq_true rfl, Nat.le_of_ble_eq_true rfl⟩) X Y hA (fun z112 H locs Y p112 => ?_)
      obtain ⟨l112, u112, x112⟩ := p112
      refine t_nv (t_runV (As := [.ref b105, .int (iI 6), .ref b109, .int (iI z110), .int (iI z112)]) (rest := []) (n := 5) X Y S k108 hml hl.1 (c_Va_sum l D E T κ L f H.size b108 k108 b105 n105 k105 (by omega) 6 (by omega) (by omega) b109 4000 k109 (by omega) z110 (by omega) (by omega) z112 (by omega) (by omega) S.1) (ok_k X Y hA KS KR) rfl kl_Ce_Va_sum ks_Va_sum kx_Va_sum ki_Va_sum ini_Va ⟨rfl, rfl⟩ hd_Va_sum ⟨Nat.le_of_ble_eq_true rfl, Nat.le_of_ble_eq_true rfl⟩ rfl (Nat.le_of_ble_eq_true rfl) d_Ce_judgeSum_80 ⟨Nat.le_of_ble_eq_true rfl, Nat.le_of_ble_eq_true rfl⟩) X Y hA S (by decide) (fun f113 H locs Y S s113 p113 => ?_)
      refine lv_aload_n X.1 X.2.1 d_Ce_judgeSum_83 rfl (lv_at hl 1 rfl) ?_
      refine t_get0 (ci := 4) X Y S k0 rfl i_Ce 0 (by decide) rfl lk_Ce_18 (fun _ h9 => h9) d_Ce_judgeSum_84 ((gF_same (s113.2.2.2 _ ⟨(t_obj S.1 k0).1, nM_of k0 (by decide), by simp⟩).1 0).trans e108) ?_
      refine lv_aload_n X.1 X.2.1 d_Ce_judgeSum_87 rfl (lv_at hl 1 rfl) ?_
      refine t_get0 (ci := 4) X Y S k0 rfl i_Ce 1 (by decide) rfl lk_Ce_22 (fun _ h9 => h9) d_Ce_judgeSum_88 ((gF_same (s113.2.2.2 _ ⟨(t_obj S.1 k0).1, nM_of k0 (by decide), by simp⟩).1 1).trans e101) ?_
      refine t_get0 (ci := 5) X Y S k101 rfl i_Ga 2 (by decide) rfl lk_Ce_181 (fun _ h9 => h9) d_Ce_judgeSum_91 ((gF_same (s113.2.2.2 _ ⟨(t_obj S.1 k101).1, nM_of k101 (by decide), by simp⟩).1 2).trans e102) ?_
      refine lv_iload_n X.1 X.2.1 d_Ce_judgeSum_94 rfl (lv_at hl 0 rfl) ?_
      refine t_ui (t_runV (As := [.ref b102, .int (iI z103)]) (rest := []) (n := 2) X Y S k108 hml hl.1 (c_Va_isSum l D E T κ L f113 H.size b108 k108 b102 4000 k102 (by omega) z103 (by omega) (by omega) S.1) (ok_k X Y hA KS KR) rfl kl_Ce_Va_isSum ks_Va_isSum kx_Va_isSum ki_Va_isSum ini_Va ⟨rfl, rfl⟩ hd_Va_isSum ⟨Nat.le_of_ble_eq_true rfl, Nat.le_of_ble_eq_true rfl⟩ rfl (Nat.le_of_ble_eq_true rfl) d_Ce_judgeSum_95 ⟨Nat.le_of_ble_eq_true rfl, Nat.le_of_ble_eq_true rfl⟩) X Y hA (fun z114 H locs Y p114 => ?_)
      obtain ⟨l114, u114⟩ := p114
      refine z_if_eq (tgt := 105) X.1 X.2.1 d_Ce_judgeSum_98 (by decide) ⟨by omega, by omega⟩ (fun h115 => ?_) (fun h115 => ?_)
      · refine lv_bipush (v := iI 41) X.1 X.2.1 d_Ce_judgeSum_105 (by decide) ?_
        exact c_reti hQQ X Y hr hlk ⟨rfl, S, 41, rfl, ⟨by omega, by omega⟩⟩ d_Ce_judgeSum_107
      · refine lv_iconst (v := iI 0) X.1 X.2.1 d_Ce_judgeSum_101 (by decide) ?_
        refine lv_goto (tgt := 107) X.1 X.2.1 d_Ce_judgeSum_102 (by decide) ?_
        exact c_reti hQQ X Y hr hlk ⟨rfl, S, 0, rfl, ⟨by omega, by omega⟩⟩ d_Ce_judgeSum_107
    · refine lv_bipush (v := iI 50) X.1 X.2.1 d_Ce_judgeSum_38 (by decide) ?_
      exact c_reti hQQ X Y hr hlk ⟨rfl, S, 50, rfl, ⟨by omega, by omega⟩⟩ d_Ce_judgeSum_40
set_option maxHeartbeats 4000000 in
set_option maxRecDepth 100000 in
theorem c_Ce_judgeWishes (l : Launch) (D : va_G) (E : cE) (T : cT) (κ : tK) (L : List Nat) (f : pF) (sz : Nat) (h : Nat) (k0 : κ h = (14, 0)) (hw : tW E T κ L f) : Met l y_Ce_judgeWishes (k_Ce_judgeWishes :: lw_tg) (kRm 4 132 0 0) (va_Pc [.ref h] (kPre D E T L f sz)) (va_Qi (uPi L f (fun (z : Int) => (-2147483648) ≤ z ∧ z ≤ 2147483647)) (cPost D E (pA L sz)) (pA L sz)) 0 0 (pA L sz) := by
  refine k_enter (own := R_Ce) (by decide) rfl (Nat.le_of_ble_eq_true rfl) (fun p e s m below meth c ls AV QQ H locs hQQ X Y hA hin hr hlk hml hl KS KR => ?_)
  have hl : lv_has ls 4 [(0, .ref h)] := hl
  have S : tS E T (tFr κ L [] []) κ L f κ L f := tS_rf hw
  refine lv_aload_n X.1 X.2.1 d_Ce_judgeWishes_0 rfl (lv_at hl 0 rfl) ?_
  refine lv_ldc (v := (-2021720115)) X.1 X.2.1 X.2.2.2.1 (X.2.2.1 _ cn_Ce_200) d_Ce_judgeWishes_1 ?_
  refine t_eq (y := iI (-2021720115)) (by decide) ?_
  refine t_ui (t_runV (As := [.int (iI ((-2021720115)))]) (rest := []) (n := 1) X Y S k0 hml hl.1 (c_Ce_asks l D E T κ L f H.size h k0 ((-2021720115)) (by omega) (by omega) S.1) (ok_k X Y hA KS KR) rfl kl_Ce_Ce_asks ks_Ce_asks kx_Ce_asks ki_Ce_asks ini_Ce ⟨rfl, rfl⟩ hd_Ce_asks ⟨Nat.le_of_ble_eq_true rfl, Nat.le_of_ble_eq_true rfl⟩ rfl (Nat.le_of_ble_eq_true rfl) d_Ce_judgeWishes_3 ⟨Nat.le_of_ble_eq_true rfl, Nat.le_of_ble_eq_true rfl⟩) X Y hA (fun z101 H locs Y p101 => ?_)
  obtain ⟨l101, u101⟩ := p101
  refine z_if_ne (tgt := 31) X.1 X.2.1 d_Ce_judgeWishes_6 (by decide) ⟨by omega, by omega⟩ (fun h102 => ?_) (fun h102 => ?_)
  · refine lv_bipush (v := iI 13) X.1 X.2.1 d_Ce_judgeWishes_31 (by decide) ?_
    exact c_reti hQQ X Y hr hlk ⟨rfl, rfl, 13, rfl, ⟨by omega, by omega⟩⟩ d_Ce_judgeWishes_33
  · refine lv_aload_n X.1 X.2.1 d_Ce_judgeWishes_9 rfl (lv_at hl 0 rfl) ?_
    refine t_getr (ci := 4) X Y S k0 rfl i_Ce 3 (by decide) rfl (k1 := 13) (k2 := 4000) rfl rfl lk_Ce_30 (fun _ h9 => h9) d_Ce_judgeWishes_10 (fun b103 e103 k103 => ?_)
    refine lv_aload_n X.1 X.2.1 d_Ce_judgeWishes_13 rfl (lv_at hl 0 rfl) ?_
    refine t_get0 (ci := 4) X Y S k0 rfl i_Ce 3 (by decide) rfl lk_Ce_30 (fun _ h9 => h9) d_Ce_judgeWishes_14 e103 ?_
    refine lv_aload_n X.1 X.2.1 d_Ce_judgeWishes_17 rfl (lv_at hl 0 rfl) ?_
    refine t_geti (ci := 4) X Y S k0 rfl i_Ce 8 (by decide) rfl lk_Ce_81 (fun _ h9 => h9) d_Ce_judgeWishes_18 (fun z104 e104 l104 u104 => ?_)
    refine lv_iconst (v := iI 0) X.1 X.2.1 d_Ce_judgeWishes_21 (by decide) ?_
    refine t_ui (t_runV (As := [.int (iI z104), .int (iI 0)]) (rest := [.ref b103]) (n := 2) X Y S k103 hml hl.1 (c_By_field l D E T κ L f H.size b103 4000 k103 (by omega) z104 (by omega) (by omega) 0 (by omega) (by omega) S.1) (ok_k X Y hA KS KR) rfl kl_Ce_By_field ks_By_field kx_By_field ki_By_field ini_By ⟨rfl, rfl⟩ hd_By_field ⟨Nat.le_of_ble_eq_true rfl, Nat.le_of_ble_eq_true rfl⟩ rfl (Nat.le_of_ble_eq_true rfl) d_Ce_judgeWishes_22 ⟨Nat.le_of_ble_eq_true rfl, Nat.le_of_ble_eq_true rfl⟩) X Y hA (fun z105 H locs Y p105 => ?_)
    obtain ⟨l105, u105⟩ := p105
    refine t_ui (t_runV (As := [.int (iI z105)]) (rest := []) (n := 1) X Y S k103 hml hl.1 (c_By_hasFarBits l D E T κ L f H.size b103 4000 k103 (by omega) z105 (by omega) (by omega) S.1) (ok_k X Y hA KS KR) rfl kl_Ce_By_hasFarBits ks_By_hasFarBits kx_By_hasFarBits ki_By_hasFarBits ini_By ⟨rfl, rfl⟩ hd_By_hasFarBits ⟨Nat.le_of_ble_eq_true rfl, Nat.le_of_ble_eq_true rfl⟩ rfl (Nat.le_of_ble_eq_true rfl) d_Ce_judgeWishes_25 ⟨Nat.le_of_ble_eq_true rfl, Nat.le_of_ble_eq_true rfl⟩) X Y hA (fun z106 H locs Y p106 => ?_)
    obtain ⟨l106, u106⟩ := p106
    refine z_if_eq (tgt := 34) X.1 X.2.1 d_Ce_judgeWishes_28 (by decide) ⟨by omega, by omega⟩ (fun h107 => ?_) (fun h107 => ?_)
    · refine lv_aload_n X.1 X.2.1 d_Ce_judgeWishes_34 rfl (lv_at hl 0 rfl) ?_
      refine t_getr (ci := 4) X Y S k0 rfl i_Ce 11 (by decide) rfl (k1 := 17) (k2 := 0) rfl rfl lk_Ce_41 (fun _ h9 => h9) d_Ce_judgeWishes_35 (fun b108 e108 k108 => ?_)
      refine lv_aload_n X.1 X.2.1 d_Ce_judgeWishes_38 rfl (lv_at hl 0 rfl) ?_
      refine t_getr (ci := 4) X Y S k0 rfl i_Ce 2 (by decide) rfl (k1 := 5) (k2 := 12) rfl rfl lk_Ce_26 (fun _ h9 => h9) d_Ce_judgeWishes_39 (fun b109 e109 k109 => ?_)
      refine lv_iconst (v := iI 0) X.1 X.2.1 d_Ce_judgeWishes_42 (by decide) ?_
      refine t_aald X Y S k109 (fun h9 => h9) (t0 := 2) rfl (by omega) (by omega) (by omega) d_Ce_judgeWishes_43 (fun b110 e110 k110 => ?_)
      refine lv_acmp_ne (rx := some b108) (ry := some b110) (tgt := 51) X.1 X.2.1 d_Ce_judgeWishes_44 (by decide) (fun _ => ?_) (fun _ => ?_)
      · refine lv_iconst (v := iI 0) X.1 X.2.1 d_Ce_judgeWishes_51 (by decide) ?_
        refine lv_istore_n (lv' := [(1, .int (iI 0)), (0, .ref h)]) X.1 X.2.1 d_Ce_judgeWishes_52 rfl hl (by decide) rfl (fun ls hl => ?_)
        refine lv_aload_n X.1 X.2.1 d_Ce_judgeWishes_53 rfl (lv_at hl 1 rfl) ?_
        refine t_ui (t_runV (As := []) (rest := []) (n := 0) X Y S k0 hml hl.1 (c_Ce_ticketFlags l D E T κ L f H.size h k0 S.1) (ok_k X Y hA KS KR) rfl kl_Ce_Ce_ticketFlags ks_Ce_ticketFlags kx_Ce_ticketFlags ki_Ce_ticketFlags ini_Ce ⟨rfl, rfl⟩ hd_Ce_ticketFlags ⟨Nat.le_of_ble_eq_true rfl, Nat.le_of_ble_eq_true rfl⟩ rfl (Nat.le_of_ble_eq_true rfl) d_Ce_judgeWishes_54 ⟨Nat.le_of_ble_eq_true rfl, Nat.le_of_ble_eq_true rfl⟩) X Y hA (fun z111 H locs Y p111 => ?_)
        obtain ⟨l111, u111⟩ := p111
        refine lv_istore_n (lv' := [(2, .int (iI z111)), (1, .int (iI 0)), (0, .ref h)]) X.1 X.2.1 d_Ce_judgeWishes_57 rfl hl (by decide) rfl (fun ls hl => ?_)
        refine lv_aload_n X.1 X.2.1 d_Ce_judgeWishes_58 rfl (lv_at hl 2 rfl) ?_
        refine t_getr (ci := 4) X Y S k0 rfl i_Ce 1 (by decide) rfl (k1 := 15) (k2 := 0) rfl rfl lk_Ce_22 (fun _ h9 => h9) d_Ce_judgeWishes_59 (fun b112 e112 k112 => ?_)
        refine t_getr (ci := 5) X Y S k112 rfl i_Ga 1 (by decide) rfl (k1 := 13) (k2 := 4000) rfl rfl lk_Ce_140 (fun _ h9 => h9) d_Ce_judgeWishes_62 (fun b113 e113 k113 => ?_)
        refine lv_aload_n X.1 X.2.1 d_Ce_judgeWishes_65 rfl (lv_at hl 2 rfl) ?_
        refine t_get0 (ci := 4) X Y S k0 rfl i_Ce 1 (by decide) rfl lk_Ce_22 (fun _ h9 => h9) d_Ce_judgeWishes_66 e112 ?_
        refine t_get0 (ci := 5) X Y S k112 rfl i_Ga 1 (by decide) rfl lk_Ce_140 (fun _ h9 => h9) d_Ce_judgeWishes_69 e113 ?_
        refine lv_iconst (v := iI 0) X.1 X.2.1 d_Ce_judgeWishes_72 (by decide) ?_
        refine lv_bipush (v := iI 8) X.1 X.2.1 d_Ce_judgeWishes_73 (by decide) ?_
        refine t_ui (t_runV (As := [.int (iI 0), .int (iI 8)]) (rest := [.ref b113]) (n := 2) X Y S k113 hml hl.1 (c_By_field l D E T κ L f H.size b113 4000 k113 (by omega) 0 (by omega) (by omega) 8 (by omega) (by omega) S.1) (ok_k X Y hA KS KR) rfl kl_Ce_By_field ks_By_field kx_By_field ki_By_field ini_By ⟨rfl, rfl⟩ hd_By_field ⟨Nat.le_of_ble_eq_true rfl, Nat.le_of_ble_eq_true rfl⟩ rfl (Nat.le_of_ble_eq_true rfl) d_Ce_judgeWishes_75 ⟨Nat.le_of_ble_eq_true rfl, Nat.le_of_ble_eq_true rfl⟩) X Y hA (fun z114 H locs Y p114 => ?_)
        obtain ⟨l114, u114⟩ := p114
        refine t_ui (t_runV (As := [.int (iI z114)]) (rest := []) (n := 1) X Y S k113 hml hl.1 (c_By_timeAt l D E T κ L f H.size b113 4000 k113 (by omega) z114 (by omega) (by omega) S.1) (ok_k X Y hA KS KR) rfl kl_Ce_By_timeAt ks_By_timeAt kx_By_timeAt ki_By_timeAt ini_By ⟨rfl, rfl⟩ hd_By_timeAt ⟨Nat.le_of_ble_eq_true rfl, Nat.le_of_ble_eq_true rfl⟩ rfl (Nat.le_of_ble_eq_true rfl) d_Ce_judgeWishes_78 ⟨Nat.le_of_ble_eq_true rfl, Nat.le_of_ble_eq_true rfl⟩) X Y hA (fun z115 H locs Y p115 => ?_)
        obtain ⟨l115, u115⟩ := p115
        refine lv_istore_n (lv' := [(3, .int (iI z115)), (2, .int (iI z111)), (1, .int (iI 0)), (0, .ref h)]) X.1 X.2.1 d_Ce_judgeWishes_81 rfl hl (by decide) rfl (fun ls hl => ?_)
        refine lv_aload_n X.1 X.2.1 d_Ce_judgeWishes_82 rfl (lv_at hl 3 rfl) ?_
        refine lv_ldc (v := (536870912)) X.1 X.2.1 X.2.2.2.1 (X.2.2.1 _ cn_Ce_204) d_Ce_judgeWishes_83 ?_
        refine t_eq (y := iI 536870912) (by decide) ?_
        refine t_ui (t_runV (As := [.int (iI 536870912)]) (rest := []) (n := 1) X Y S k0 hml hl.1 (c_Ce_asks l D E T κ L f H.size h k0 536870912 (by omega) (by omega) S.1) (ok_k X Y hA KS KR) rfl kl_Ce_Ce_asks ks_Ce_asks kx_Ce_asks ki_Ce_asks ini_Ce ⟨rfl, rfl⟩ hd_Ce_asks ⟨Nat.le_of_ble_eq_true rfl, Nat.le_of_ble_eq_true rfl⟩ rfl (Nat.le_of_ble_eq_true rfl) d_Ce_judgeWishes_85 ⟨Nat.le_of_ble_eq_true rfl, Nat.le_of_ble_eq_true rfl⟩) X Y hA (fun z116 H locs Y p116 => ?_)
        obtain ⟨l116, u116⟩ := p116
        have J117 : ∀  (H : Heap) (locs : List Loc) (ls : Array Slot), pH D cCl (pA L sz) s.heap L f H locs → tS E T (tFr κ L [] []) κ L f κ L f → lv_has ls 4 [(0, .ref h), (1, .int (iI 0)), (2, .int (iI z111)), (3, .int (iI z115))] → W p l e (kRm 4 132 0 0) s m AV below meth c H locs 0 0 QQ (F0 m 101 ls []) := by
          intro  H locs ls  Y S hl
          refine lv_aload_n X.1 X.2.1 d_Ce_judgeWishes_101 rfl (lv_at hl 0 rfl) ?_
          refine lv_ldc (v := (134217728)) X.1 X.2.1 X.2.2.2.1 (X.2.2.1 _ cn_Ce_206) d_Ce_judgeWishes_102 ?_
          refine t_eq (y := iI 134217728) (by decide) ?_
          refine t_ui (t_runV (As := [.int (iI 134217728)]) (rest := []) (n := 1) X Y S k0 hml hl.1 (c_Ce_asks l D E T κ L f H.size h k0 134217728 (by omega) (by omega) S.1) (ok_k X Y hA KS KR) rfl kl_Ce_Ce_asks ks_Ce_asks kx_Ce_asks ki_Ce_asks ini_Ce ⟨rfl, rfl⟩ hd_Ce_asks ⟨Nat.le_of_ble_eq_true rfl, Nat.le_of_ble_eq_true rfl⟩ rfl (Nat.le_of_ble_eq_true rfl) d_Ce_judgeWishes_104 ⟨Nat.le_of_ble_eq_true rfl, Nat.le_of_ble_eq_true rfl⟩) X Y hA (fun z121 H locs Y p121 => ?_)
          obtain ⟨l121, u121⟩ := p121
          have J122 : ∀  (H : Heap) (locs : List Loc) (ls : Array Slot), pH D cCl (pA L sz) s.heap L f H locs → tS E T (tFr κ L [] []) κ L f κ L f → lv_has ls 4 [(0, .ref h), (1, .int (iI 0)), (2, .int (iI z111)), (3, .int (iI z115))] → W p l e (kRm 4 132 0 0) s m AV below meth c H locs 0 0 QQ (F0 m 124 ls []) := by
            intro  H locs ls  Y S hl
            refine lv_aload_n X.1 X.2.1 d_Ce_judgeWishes_124 rfl (lv_at hl 0 rfl) ?_
            refine lv_iconst (v := iI 2) X.1 X.2.1 d_Ce_judgeWishes_125 (by decide) ?_
            refine t_ui (t_runV (As := [.int (iI 2)]) (rest := []) (n := 1) X Y S k0 hml hl.1 (c_Ce_asks l D E T κ L f H.size h k0 2 (by omega) (by omega) S.1) (ok_k X Y hA KS KR) rfl kl_Ce_Ce_asks ks_Ce_asks kx_Ce_asks ki_Ce_asks ini_Ce ⟨rfl, rfl⟩ hd_Ce_asks ⟨Nat.le_of_ble_eq_true rfl, Nat.le_of_ble_eq_true rfl⟩ rfl (Nat.le_of_ble_eq_true rfl) d_Ce_judgeWishes_126 ⟨Nat.le_of_ble_eq_true rfl, Nat.le_of_ble_eq_true rfl⟩) X Y hA (fun z126 H locs Y p126 => ?_)
            obtain ⟨l126, u126⟩ := p126
            have J127 : ∀  (H : Heap) (locs : List Loc) (ls : Array Slot), pH D cCl (pA L sz) s.heap L f H locs → tS E T (tFr κ L [] []) κ L f κ L f → lv_has ls 4 [(0, .ref h), (3, .int (iI z115))] → W p l e (kRm 4 132 0 0) s m AV below meth c H locs 0 0 QQ (F0 m 150 ls []) := by
              intro  H locs ls  Y S hl
              refine lv_aload_n X.1 X.2.1 d_Ce_judgeWishes_150 rfl (lv_at hl 0 rfl) ?_
              refine lv_iconst (v := iI 2) X.1 X.2.1 d_Ce_judgeWishes_151 (by decide) ?_
              refine t_ui (t_runV (As := [.int (iI 2)]) (rest := []) (n := 1) X Y S k0 hml hl.1 (c_Ce_asks l D E T κ L f H.size h k0 2 (by omega) (by omega) S.1) (ok_k X Y hA KS KR) rfl kl_Ce_Ce_asks ks_Ce_asks kx_Ce_asks ki_Ce_asks ini_Ce ⟨rfl, rfl⟩ hd_Ce_asks ⟨Nat.le_of_ble_eq_true rfl, Nat.le_of_ble_eq_true rfl⟩ rfl (Nat.le_of_ble_eq_true rfl) d_Ce_judgeWishes_152 ⟨Nat.le_of_ble_eq_true rfl, Nat.le_of_ble_eq_true rfl⟩) X Y hA (fun z131 H locs Y p131 => ?_)
              obtain ⟨l131, u131⟩ := p131
              refine z_if_eq (tgt := 174) X.1 X.2.1 d_Ce_judgeWishes_155 (by decide) ⟨by omega, by omega⟩ (fun h132 => ?_) (fun h132 => ?_)
              · refine lv_iconst (v := iI 0) X.1 X.2.1 d_Ce_judgeWishes_174 (by decide) ?_
                exact c_reti hQQ X Y hr hlk ⟨rfl, rfl, 0, rfl, ⟨by omega, by omega⟩⟩ d_Ce_judgeWishes_175
              · refine lv_iload_n X.1 X.2.1 d_Ce_judgeWishes_158 rfl (lv_at hl 1 rfl) ?_
                refine lv_aload_n X.1 X.2.1 d_Ce_judgeWishes_159 rfl (lv_at hl 0 rfl) ?_
                refine t_getr (ci := 4) X Y S k0 rfl i_Ce 0 (by decide) rfl (k1 := 21) (k2 := 0) rfl rfl lk_Ce_18 (fun _ h9 => h9) d_Ce_judgeWishes_160 (fun b133 e133 k133 => ?_)
                refine t_geti (ci := 11) X Y S k133 rfl i_Va 0 (by decide) rfl lk_Ce_112 (fun _ h9 => h9) d_Ce_judgeWishes_163 (fun z134 e134 l134 u134 => ?_)
                refine z_icmp_gt (tgt := 174) X.1 X.2.1 d_Ce_judgeWishes_166 (by decide) ⟨by omega, by omega⟩ ⟨by omega, by omega⟩ (fun h135 => ?_) (fun h135 => ?_)
                · refine lv_iconst (v := iI 0) X.1 X.2.1 d_Ce_judgeWishes_174 (by decide) ?_
                  exact c_reti hQQ X Y hr hlk ⟨rfl, rfl, 0, rfl, ⟨by omega, by omega⟩⟩ d_Ce_judgeWishes_175
                · refine lv_bipush (v := iI 32) X.1 X.2.1 d_Ce_judgeWishes_169 (by decide) ?_
                  refine lv_goto (tgt := 175) X.1 X.2.1 d_Ce_judgeWishes_171 (by decide) ?_
                  exact c_reti hQQ X Y hr hlk ⟨rfl, rfl, 32, rfl, ⟨by omega, by omega⟩⟩ d_Ce_judgeWishes_175
            refine z_if_eq (tgt := 150) X.1 X.2.1 d_Ce_judgeWishes_129 (by decide) ⟨by omega, by omega⟩ (fun h136 => ?_) (fun h136 => ?_)
            · exact J127  _ _ _  Y S (lv_sub hl [0, 3] rfl)
            · refine lv_iload_n X.1 X.2.1 d_Ce_judgeWishes_132 rfl (lv_at hl 2 rfl) ?_
              refine lv_ldc (v := (8388608)) X.1 X.2.1 X.2.2.2.1 (X.2.2.1 _ cn_Ce_208) d_Ce_judgeWishes_133 ?_
              refine t_eq (y := iI 8388608) (by decide) ?_
              refine z_iand X.1 X.2.1 (by omega) (by omega) d_Ce_judgeWishes_135 (fun z137 l137 u137 => ?_)
              refine z_if_eq (tgt := 147) X.1 X.2.1 d_Ce_judgeWishes_136 (by decide) ⟨by omega, by omega⟩ (fun h138 => ?_) (fun h138 => ?_)
              · refine lv_bipush (v := iI 13) X.1 X.2.1 d_Ce_judgeWishes_147 (by decide) ?_
                exact c_reti hQQ X Y hr hlk ⟨rfl, rfl, 13, rfl, ⟨by omega, by omega⟩⟩ d_Ce_judgeWishes_149
              · refine lv_iload_n X.1 X.2.1 d_Ce_judgeWishes_139 rfl (lv_at hl 3 rfl) ?_
                refine z_if_lt (tgt := 147) X.1 X.2.1 d_Ce_judgeWishes_140 (by decide) ⟨by omega, by omega⟩ (fun h139 => ?_) (fun h139 => ?_)
                · refine lv_bipush (v := iI 13) X.1 X.2.1 d_Ce_judgeWishes_147 (by decide) ?_
                  exact c_reti hQQ X Y hr hlk ⟨rfl, rfl, 13, rfl, ⟨by omega, by omega⟩⟩ d_Ce_judgeWishes_149
                · refine lv_iload_n X.1 X.2.1 d_Ce_judgeWishes_143 rfl (lv_at hl 1 rfl) ?_
                  refine z_if_ne (tgt := 150) X.1 X.2.1 d_Ce_judgeWishes_144 (by decide) ⟨by omega, by omega⟩ (fun h140 => False.elim (by omega)) (fun h140 => ?_)
                  · refine lv_bipush (v := iI 13) X.1 X.2.1 d_Ce_judgeWishes_147 (by decide) ?_
                    exact c_reti hQQ X Y hr hlk ⟨rfl, rfl, 13, rfl, ⟨by omega, by omega⟩⟩ d_Ce_judgeWishes_149
          refine z_if_eq (tgt := 124) X.1 X.2.1 d_Ce_judgeWishes_107 (by decide) ⟨by omega, by omega⟩ (fun h141 => ?_) (fun h141 => ?_)
          · exact J122  _ _ _  Y S (lv_sub hl [0, 1, 2, 3] rfl)
          · refine lv_iload_n X.1 X.2.1 d_Ce_judgeWishes_110 rfl (lv_at hl 2 rfl) ?_
            refine lv_ldc (v := (268435456)) X.1 X.2.1 X.2.2.2.1 (X.2.2.1 _ cn_Ce_207) d_Ce_judgeWishes_111 ?_
            refine t_eq (y := iI 268435456) (by decide) ?_
            refine z_iand X.1 X.2.1 (by omega) (by omega) d_Ce_judgeWishes_113 (fun z142 l142 u142 => ?_)
            refine z_if_eq (tgt := 121) X.1 X.2.1 d_Ce_judgeWishes_114 (by decide) ⟨by omega, by omega⟩ (fun h143 => ?_) (fun h143 => ?_)
            · refine lv_bipush (v := iI 13) X.1 X.2.1 d_Ce_judgeWishes_121 (by decide) ?_
              exact c_reti hQQ X Y hr hlk ⟨rfl, rfl, 13, rfl, ⟨by omega, by omega⟩⟩ d_Ce_judgeWishes_123
            · refine lv_iload_n X.1 X.2.1 d_Ce_judgeWishes_117 rfl (lv_at hl 1 rfl) ?_
              refine z_if_eq (tgt := 124) X.1 X.2.1 d_Ce_judgeWishes_118 (by decide) ⟨by omega, by omega⟩ (fun h144 => ?_) (fun h144 => False.elim (by omega))
              · exact J122  _ _ _  Y S (lv_sub hl [0, 1, 2, 3] rfl)
        refine z_if_eq (tgt := 101) X.1 X.2.1 d_Ce_judgeWishes_88 (by decide) ⟨by omega, by omega⟩ (fun h145 => ?_) (fun h145 => ?_)
        · exact J117  _ _ _  Y S (lv_sub hl [3, 2, 1, 0] rfl)
        · refine lv_iload_n X.1 X.2.1 d_Ce_judgeWishes_91 rfl (lv_at hl 1 rfl) ?_
          refine lv_ldc (v := (1073741824)) X.1 X.2.1 X.2.2.2.1 (X.2.2.1 _ cn_Ce_205) d_Ce_judgeWishes_92 ?_
          refine t_eq (y := iI 1073741824) (by decide) ?_
          refine z_iand X.1 X.2.1 (by omega) (by omega) d_Ce_judgeWishes_94 (fun z146 l146 u146 => ?_)
          refine z_if_ne (tgt := 101) X.1 X.2.1 d_Ce_judgeWishes_95 (by decide) ⟨by omega, by omega⟩ (fun h147 => ?_) (fun h147 => ?_)
          · exact J117  _ _ _  Y S (lv_sub hl [3, 2, 1, 0] rfl)
          · refine lv_bipush (v := iI 13) X.1 X.2.1 d_Ce_judgeWishes_98 (by decide) ?_
            exact c_reti hQQ X Y hr hlk ⟨rfl, rfl, 13, rfl, ⟨by omega, by omega⟩⟩ d_Ce_judgeWishes_100
      · refine lv_iconst (v := iI 1) X.1 X.2.1 d_Ce_judgeWishes_47 (by decide) ?_
        refine lv_goto (tgt := 52) X.1 X.2.1 d_Ce_judgeWishes_48 (by decide) ?_
        refine lv_istore_n (lv' := [(1, .int (iI 1)), (0, .ref h)]) X.1 X.2.1 d_Ce_judgeWishes_52 rfl hl (by decide) rfl (fun ls hl => ?_)
        refine lv_aload_n X.1 X.2.1 d_Ce_judgeWishes_53 rfl (lv_at hl 1 rfl) ?_
        refine t_ui (t_runV (As := []) (rest := []) (n := 0) X Y S k0 hml hl.1 (c_Ce_ticketFlags l D E T κ L f H.size h k0 S.1) (ok_k X Y hA KS KR) rfl kl_Ce_Ce_ticketFlags ks_Ce_ticketFlags kx_Ce_ticketFlags ki_Ce_ticketFlags ini_Ce ⟨rfl, rfl⟩ hd_Ce_ticketFlags ⟨Nat.le_of_ble_eq_true rfl, Nat.le_of_ble_eq_true rfl⟩ rfl (Nat.le_of_ble_eq_true rfl) d_Ce_judgeWishes_54 ⟨Nat.le_of_ble_eq_true rfl, Nat.le_of_ble_eq_true rfl⟩) X Y hA (fun z148 H locs Y p148 => ?_)
        obtain ⟨l148, u148⟩ := p148
        refine lv_istore_n (lv' := [(2, .int (iI z148)), (1, .int (iI 1)), (0, .ref h)]) X.1 X.2.1 d_Ce_judgeWishes_57 rfl hl (by decide) rfl (fun ls hl => ?_)
        refine lv_aload_n X.1 X.2.1 d_Ce_judgeWishes_58 rfl (lv_at hl 2 rfl) ?_
        refine t_getr (ci := 4) X Y S k0 rfl i_Ce 1 (by decide) rfl (k1 := 15) (k2 := 0) rfl rfl lk_Ce_22 (fun _ h9 => h9) d_Ce_judgeWishes_59 (fun b149 e149 k149 => ?_)
        refine t_getr (ci := 5) X Y S k149 rfl i_Ga 1 (by decide) rfl (k1 := 13) (k2 := 4000) rfl rfl lk_Ce_140 (fun _ h9 => h9) d_Ce_judgeWishes_62 (fun b150 e150 k150 => ?_)
        refine lv_aload_n X.1 X.2.1 d_Ce_judgeWishes_65 rfl (lv_at hl 2 rfl) ?_
        refine t_get0 (ci := 4) X Y S k0 rfl i_Ce 1 (by decide) rfl lk_Ce_22 (fun _ h9 => h9) d_Ce_judgeWishes_66 e149 ?_
        refine t_get0 (ci := 5) X Y S k149 rfl i_Ga 1 (by decide) rfl lk_Ce_140 (fun _ h9 => h9) d_Ce_judgeWishes_69 e150 ?_
        refine lv_iconst (v := iI 0) X.1 X.2.1 d_Ce_judgeWishes_72 (by decide) ?_
        refine lv_bipush (v := iI 8) X.1 X.2.1 d_Ce_judgeWishes_73 (by decide) ?_
        refine t_ui (t_runV (As := [.int (iI 0), .int (iI 8)]) (rest := [.ref b150]) (n := 2) X Y S k150 hml hl.1 (c_By_field l D E T κ L f H.size b150 4000 k150 (by omega) 0 (by omega) (by omega) 8 (by omega) (by omega) S.1) (ok_k X Y hA KS KR) rfl kl_Ce_By_field ks_By_field kx_By_field ki_By_field ini_By ⟨rfl, rfl⟩ hd_By_field ⟨Nat.le_of_ble_eq_true rfl, Nat.le_of_ble_eq_true rfl⟩ rfl (Nat.le_of_ble_eq_true rfl) d_Ce_judgeWishes_75 ⟨Nat.le_of_ble_eq_true rfl, Nat.le_of_ble_eq_true rfl⟩) X Y hA (fun z151 H locs Y p151 => ?_)
        obtain ⟨l151, u151⟩ := p151
        refine t_ui (t_runV (As := [.int (iI z151)]) (rest := []) (n := 1) X Y S k150 hml hl.1 (c_By_timeAt l D E T κ L f H.size b150 4000 k150 (by omega) z151 (by omega) (by omega) S.1) (ok_k X Y hA KS KR) rfl kl_Ce_By_timeAt ks_By_timeAt kx_By_timeAt ki_By_timeAt ini_By ⟨rfl, rfl⟩ hd_By_timeAt ⟨Nat.le_of_ble_eq_true rfl, Nat.le_of_ble_eq_true rfl⟩ rfl (Nat.le_of_ble_eq_true rfl) d_Ce_judgeWishes_78 ⟨Nat.le_of_ble_eq_true rfl, Nat.le_of_ble_eq_true rfl⟩) X Y hA (fun z152 H locs Y p152 => ?_)
        obtain ⟨l152, u152⟩ := p152
        refine lv_istore_n (lv' := [(3, .int (iI z152)), (2, .int (iI z148)), (1, .int (iI 1)), (0, .ref h)]) X.1 X.2.1 d_Ce_judgeWishes_81 rfl hl (by decide) rfl (fun ls hl => ?_)
        refine lv_aload_n X.1 X.2.1 d_Ce_judgeWishes_82 rfl (lv_at hl 3 rfl) ?_
        refine lv_ldc (v := (536870912)) X.1 X.2.1 X.2.2.2.1 (X.2.2.1 _ cn_Ce_204) d_Ce_judgeWishes_83 ?_
        refine t_eq (y := iI 536870912) (by decide) ?_
        refine t_ui (t_runV (As := [.int (iI 536870912)]) (rest := []) (n := 1) X Y S k0 hml hl.1 (c_Ce_asks l D E T κ L f H.size h k0 536870912 (by omega) (by omega) S.1) (ok_k X Y hA KS KR) rfl kl_Ce_Ce_asks ks_Ce_asks kx_Ce_asks ki_Ce_asks ini_Ce ⟨rfl, rfl⟩ hd_Ce_asks ⟨Nat.le_of_ble_eq_true rfl, Nat.le_of_ble_eq_true rfl⟩ rfl (Nat.le_of_ble_eq_true rfl) d_Ce_judgeWishes_85 ⟨Nat.le_of_ble_eq_true rfl, Nat.le_of_ble_eq_true rfl⟩) X Y hA (fun z153 H locs Y p153 => ?_)
        obtain ⟨l153, u153⟩ := p153
        have J154 : ∀  (H : Heap) (locs : List Loc) (ls : Array Slot), pH D cCl (pA L sz) s.heap L f H locs → tS E T (tFr κ L [] []) κ L f κ L f → lv_has ls 4 [(0, .ref h), (1, .int (iI 1)), (2, .int (iI z148)), (3, .int (iI z152))] → W p l e (kRm 4 132 0 0) s m AV below meth c H locs 0 0 QQ (F0 m 101 ls []) := by
          intro  H locs ls  Y S hl
          refine lv_aload_n X.1 X.2.1 d_Ce_judgeWishes_101 rfl (lv_at hl 0 rfl) ?_
          refine lv_ldc (v := (134217728)) X.1 X.2.1 X.2.2.2.1 (X.2.2.1 _ cn_Ce_206) d_Ce_judgeWishes_102 ?_
          refine t_eq (y := iI 134217728) (by decide) ?_
          refine t_ui (t_runV (As := [.int (iI 134217728)]) (rest := []) (n := 1) X Y S k0 hml hl.1 (c_Ce_asks l D E T κ L f H.size h k0 134217728 (by omega) (by omega) S.1) (ok_k X Y hA KS KR) rfl kl_Ce_Ce_asks ks_Ce_asks kx_Ce_asks ki_Ce_asks ini_Ce ⟨rfl, rfl⟩ hd_Ce_asks ⟨Nat.le_of_ble_eq_true rfl, Nat.le_of_ble_eq_true rfl⟩ rfl (Nat.le_of_ble_eq_true rfl) d_Ce_judgeWishes_104 ⟨Nat.le_of_ble_eq_true rfl, Nat.le_of_ble_eq_true rfl⟩) X Y hA (fun z158 H locs Y p158 => ?_)
          obtain ⟨l158, u158⟩ := p158
          have J159 : ∀  (H : Heap) (locs : List Loc) (ls : Array Slot), pH D cCl (pA L sz) s.heap L f H locs → tS E T (tFr κ L [] []) κ L f κ L f → lv_has ls 4 [(0, .ref h), (1, .int (iI 1)), (2, .int (iI z148)), (3, .int (iI z152))] → W p l e (kRm 4 132 0 0) s m AV below meth c H locs 0 0 QQ (F0 m 124 ls []) := by
            intro  H locs ls  Y S hl
            refine lv_aload_n X.1 X.2.1 d_Ce_judgeWishes_124 rfl (lv_at hl 0 rfl) ?_
            refine lv_iconst (v := iI 2) X.1 X.2.1 d_Ce_judgeWishes_125 (by decide) ?_
            refine t_ui (t_runV (As := [.int (iI 2)]) (rest := []) (n := 1) X Y S k0 hml hl.1 (c_Ce_asks l D E T κ L f H.size h k0 2 (by omega) (by omega) S.1) (ok_k X Y hA KS KR) rfl kl_Ce_Ce_asks ks_Ce_asks kx_Ce_asks ki_Ce_asks ini_Ce ⟨rfl, rfl⟩ hd_Ce_asks ⟨Nat.le_of_ble_eq_true rfl, Nat.le_of_ble_eq_true rfl⟩ rfl (Nat.le_of_ble_eq_true rfl) d_Ce_judgeWishes_126 ⟨Nat.le_of_ble_eq_true rfl, Nat.le_of_ble_eq_true rfl⟩) X Y hA (fun z163 H locs Y p163 => ?_)
            obtain ⟨l163, u163⟩ := p163
            have J164 : ∀  (H : Heap) (locs : List Loc) (ls : Array Slot), pH D cCl (pA L sz) s.heap L f H locs → tS E T (tFr κ L [] []) κ L f κ L f → lv_has ls 4 [(0, .ref h), (3, .int (iI z152))] → W p l e (kRm 4 132 0 0) s m AV below meth c H locs 0 0 QQ (F0 m 150 ls []) := by
              intro  H locs ls  Y S hl
              refine lv_aload_n X.1 X.2.1 d_Ce_judgeWishes_150 rfl (lv_at hl 0 rfl) ?_
              refine lv_iconst (v := iI 2) X.1 X.2.1 d_Ce_judgeWishes_151 (by decide) ?_
              refine t_ui (t_runV (As := [.int (iI 2)]) (rest := []) (n := 1) X Y S k0 hml hl.1 (c_Ce_asks l D E T κ L f H.size h k0 2 (by omega) (by omega) S.1) (ok_k X Y hA KS KR) rfl kl_Ce_Ce_asks ks_Ce_asks kx_Ce_asks ki_Ce_asks ini_Ce ⟨rfl, rfl⟩ hd_Ce_asks ⟨Nat.le_of_ble_eq_true rfl, Nat.le_of_ble_eq_true rfl⟩ rfl (Nat.le_of_ble_eq_true rfl) d_Ce_judgeWishes_152 ⟨Nat.le_of_ble_eq_true rfl, Nat.le_of_ble_eq_true rfl⟩) X Y hA (fun z168 H locs Y p168 => ?_)
              obtain ⟨l168, u168⟩ := p168
              refine z_if_eq (tgt := 174) X.1 X.2.1 d_Ce_judgeWishes_155 (by decide) ⟨by omega, by omega⟩ (fun h169 => ?_) (fun h169 => ?_)
              · refine lv_iconst (v := iI 0) X.1 X.2.1 d_Ce_judgeWishes_174 (by decide) ?_
                exact c_reti hQQ X Y hr hlk ⟨rfl, rfl, 0, rfl, ⟨by omega, by omega⟩⟩ d_Ce_judgeWishes_175
              · refine lv_iload_n X.1 X.2.1 d_Ce_judgeWishes_158 rfl (lv_at hl 1 rfl) ?_
                refine lv_aload_n X.1 X.2.1 d_Ce_judgeWishes_159 rfl (lv_at hl 0 rfl) ?_
                refine t_getr (ci := 4) X Y S k0 rfl i_Ce 0 (by decide) rfl (k1 := 21) (k2 := 0) rfl rfl lk_Ce_18 (fun _ h9 => h9) d_Ce_judgeWishes_160 (fun b170 e170 k170 => ?_)
                refine t_geti (ci := 11) X Y S k170 rfl i_Va 0 (by decide) rfl lk_Ce_112 (fun _ h9 => h9) d_Ce_judgeWishes_163 (fun z171 e171 l171 u171 => ?_)
                refine z_icmp_gt (tgt := 174) X.1 X.2.1 d_Ce_judgeWishes_166 (by decide) ⟨by omega, by omega⟩ ⟨by omega, by omega⟩ (fun h172 => ?_) (fun h172 => ?_)
                · refine lv_iconst (v := iI 0) X.1 X.2.1 d_Ce_judgeWishes_174 (by decide) ?_
                  exact c_reti hQQ X Y hr hlk ⟨rfl, rfl, 0, rfl, ⟨by omega, by omega⟩⟩ d_Ce_judgeWishes_175
                · refine lv_bipush (v := iI 32) X.1 X.2.1 d_Ce_judgeWishes_169 (by decide) ?_
                  refine lv_goto (tgt := 175) X.1 X.2.1 d_Ce_judgeWishes_171 (by decide) ?_
                  exact c_reti hQQ X Y hr hlk ⟨rfl, rfl, 32, rfl, ⟨by omega, by omega⟩⟩ d_Ce_judgeWishes_175
            refine z_if_eq (tgt := 150) X.1 X.2.1 d_Ce_judgeWishes_129 (by decide) ⟨by omega, by omega⟩ (fun h173 => ?_) (fun h173 => ?_)
            · exact J164  _ _ _  Y S (lv_sub hl [0, 3] rfl)
            · refine lv_iload_n X.1 X.2.1 d_Ce_judgeWishes_132 rfl (lv_at hl 2 rfl) ?_
              refine lv_ldc (v := (8388608)) X.1 X.2.1 X.2.2.2.1 (X.2.2.1 _ cn_Ce_208) d_Ce_judgeWishes_133 ?_
              refine t_eq (y := iI 8388608) (by decide) ?_
              refine z_iand X.1 X.2.1 (by omega) (by omega) d_Ce_judgeWishes_135 (fun z174 l174 u174 => ?_)
              refine z_if_eq (tgt := 147) X.1 X.2.1 d_Ce_judgeWishes_136 (by decide) ⟨by omega, by omega⟩ (fun h175 => ?_) (fun h175 => ?_)
              · refine lv_bipush (v := iI 13) X.1 X.2.1 d_Ce_judgeWishes_147 (by decide) ?_
                exact c_reti hQQ X Y hr hlk ⟨rfl, rfl, 13, rfl, ⟨by omega, by omega⟩⟩ d_Ce_judgeWishes_149
              · refine lv_iload_n X.1 X.2.1 d_Ce_judgeWishes_139 rfl (lv_at hl 3 rfl) ?_
                refine z_if_lt (tgt := 147) X.1 X.2.1 d_Ce_judgeWishes_140 (by decide) ⟨by omega, by omega⟩ (fun h176 => ?_) (fun h176 => ?_)
                · refine lv_bipush (v := iI 13) X.1 X.2.1 d_Ce_judgeWishes_147 (by decide) ?_
                  exact c_reti hQQ X Y hr hlk ⟨rfl, rfl, 13, rfl, ⟨by omega, by omega⟩⟩ d_Ce_judgeWishes_149
                · refine lv_iload_n X.1 X.2.1 d_Ce_judgeWishes_143 rfl (lv_at hl 1 rfl) ?_
                  refine z_if_ne (tgt := 150) X.1 X.2.1 d_Ce_judgeWishes_144 (by decide) ⟨by omega, by omega⟩ (fun h177 => ?_) (fun h177 => False.elim (by omega))
                  · exact J164  _ _ _  Y S (lv_sub hl [0, 3] rfl)
          refine z_if_eq (tgt := 124) X.1 X.2.1 d_Ce_judgeWishes_107 (by decide) ⟨by omega, by omega⟩ (fun h178 => ?_) (fun h178 => ?_)
          · exact J159  _ _ _  Y S (lv_sub hl [0, 1, 2, 3] rfl)
          · refine lv_iload_n X.1 X.2.1 d_Ce_judgeWishes_110 rfl (lv_at hl 2 rfl) ?_
            refine lv_ldc (v := (268435456)) X.1 X.2.1 X.2.2.2.1 (X.2.2.1 _ cn_Ce_207) d_Ce_judgeWishes_111 ?_
            refine t_eq (y := iI 268435456) (by decide) ?_
            refine z_iand X.1 X.2.1 (by omega) (by omega) d_Ce_judgeWishes_113 (fun z179 l179 u179 => ?_)
            refine z_if_eq (tgt := 121) X.1 X.2.1 d_Ce_judgeWishes_114 (by decide) ⟨by omega, by omega⟩ (fun h180 => ?_) (fun h180 => ?_)
            · refine lv_bipush (v := iI 13) X.1 X.2.1 d_Ce_judgeWishes_121 (by decide) ?_
              exact c_reti hQQ X Y hr hlk ⟨rfl, rfl, 13, rfl, ⟨by omega, by omega⟩⟩ d_Ce_judgeWishes_123
            · refine lv_iload_n X.1 X.2.1 d_Ce_judgeWishes_117 rfl (lv_at hl 1 rfl) ?_
              refine z_if_eq (tgt := 124) X.1 X.2.1 d_Ce_judgeWishes_118 (by decide) ⟨by omega, by omega⟩ (fun h181 => False.elim (by omega)) (fun h181 => ?_)
              · refine lv_bipush (v := iI 13) X.1 X.2.1 d_Ce_judgeWishes_121 (by decide) ?_
                exact c_reti hQQ X Y hr hlk ⟨rfl, rfl, 13, rfl, ⟨by omega, by omega⟩⟩ d_Ce_judgeWishes_123
        refine z_if_eq (tgt := 101) X.1 X.2.1 d_Ce_judgeWishes_88 (by decide) ⟨by omega, by omega⟩ (fun h182 => ?_) (fun h182 => ?_)
        · exact J154  _ _ _  Y S (lv_sub hl [3, 2, 1, 0] rfl)
        · refine lv_iload_n X.1 X.2.1 d_Ce_judgeWishes_91 rfl (lv_at hl 1 rfl) ?_
          refine lv_ldc (v := (1073741824)) X.1 X.2.1 X.2.2.2.1 (X.2.2.1 _ cn_Ce_205) d_Ce_judgeWishes_92 ?_
          refine t_eq (y := iI 1073741824) (by decide) ?_
          refine z_iand X.1 X.2.1 (by omega) (by omega) d_Ce_judgeWishes_94 (fun z183 l183 u183 => ?_)
          refine z_if_ne (tgt := 101) X.1 X.2.1 d_Ce_judgeWishes_95 (by decide) ⟨by omega, by omega⟩ (fun h184 => ?_) (fun h184 => ?_)
          · exact J154  _ _ _  Y S (lv_sub hl [3, 2, 1, 0] rfl)
          · refine lv_bipush (v := iI 13) X.1 X.2.1 d_Ce_judgeWishes_98 (by decide) ?_
            exact c_reti hQQ X Y hr hlk ⟨rfl, rfl, 13, rfl, ⟨by omega, by omega⟩⟩ d_Ce_judgeWishes_100
    · refine lv_bipush (v := iI 13) X.1 X.2.1 d_Ce_judgeWishes_31 (by decide) ?_
      exact c_reti hQQ X Y hr hlk ⟨rfl, rfl, 13, rfl, ⟨by omega, by omega⟩⟩ d_Ce_judgeWishes_33
set_option maxHeartbeats 4000000 in
set_option maxRecDepth 100000 in
theorem c_Ce_timeAsked (l : Launch) (D : va_G) (E : cE) (T : cT) (κ : tK) (L : List Nat) (f : pF) (sz : Nat) (h : Nat) (k0 : κ h = (14, 0)) (a1 : Int) (l_a1 : 0 ≤ a1) (u_a1 : a1 ≤ 16) (hw : tW E T κ L f) : Met l y_Ce_timeAsked (k_Ce_timeAsked :: lw_tg) (kRm 4 130 0 0) (va_Pc [.ref h, .int (iI a1)] (kPre D E T L f sz)) (va_Ql (uPl L f (fun (z : Int64) => True)) (cPost D E (pA L sz)) (pA L sz)) 0 0 (pA L sz) := by
  refine k_enter (own := R_Ce) (by decide) rfl (Nat.le_of_ble_eq_true rfl) (fun p e s m below meth c ls AV QQ H locs hQQ X Y hA hin hr hlk hml hl KS KR => ?_)
  have hl : lv_has ls 3 [(0, .ref h), (1, .int (iI a1))] := hl
  have S : tS E T (tFr κ L [] []) κ L f κ L f := tS_rf hw
  refine lv_aload_n X.1 X.2.1 d_Ce_timeAsked_0 rfl (lv_at hl 0 rfl) ?_
  refine t_getr (ci := 4) X Y S k0 rfl i_Ce 3 (by decide) rfl (k1 := 13) (k2 := 4000) rfl rfl lk_Ce_30 (fun _ h9 => h9) d_Ce_timeAsked_1 (fun b101 e101 k101 => ?_)
  refine lv_aload_n X.1 X.2.1 d_Ce_timeAsked_4 rfl (lv_at hl 0 rfl) ?_
  refine t_get0 (ci := 4) X Y S k0 rfl i_Ce 3 (by decide) rfl lk_Ce_30 (fun _ h9 => h9) d_Ce_timeAsked_5 e101 ?_
  refine lv_aload_n X.1 X.2.1 d_Ce_timeAsked_8 rfl (lv_at hl 0 rfl) ?_
  refine t_geti (ci := 4) X Y S k0 rfl i_Ce 8 (by decide) rfl lk_Ce_81 (fun _ h9 => h9) d_Ce_timeAsked_9 (fun z102 e102 l102 u102 => ?_)
  refine lv_iload_n X.1 X.2.1 d_Ce_timeAsked_12 rfl (lv_at hl 1 rfl) ?_
  refine t_ui (t_runV (As := [.int (iI z102), .int (iI a1)]) (rest := [.ref b101]) (n := 2) X Y S k101 hml hl.1 (c_By_field l D E T κ L f H.size b101 4000 k101 (by omega) z102 (by omega) (by omega) a1 (by omega) (by omega) S.1) (ok_k X Y hA KS KR) rfl kl_Ce_By_field ks_By_field kx_By_field ki_By_field ini_By ⟨rfl, rfl⟩ hd_By_field ⟨Nat.le_of_ble_eq_true rfl, Nat.le_of_ble_eq_true rfl⟩ rfl (Nat.le_of_ble_eq_true rfl) d_Ce_timeAsked_13 ⟨Nat.le_of_ble_eq_true rfl, Nat.le_of_ble_eq_true rfl⟩) X Y hA (fun z103 H locs Y p103 => ?_)
  obtain ⟨l103, u103⟩ := p103
  refine t_ui (t_runV (As := [.int (iI z103)]) (rest := []) (n := 1) X Y S k101 hml hl.1 (c_By_timeAt l D E T κ L f H.size b101 4000 k101 (by omega) z103 (by omega) (by omega) S.1) (ok_k X Y hA KS KR) rfl kl_Ce_By_timeAt ks_By_timeAt kx_By_timeAt ki_By_timeAt ini_By ⟨rfl, rfl⟩ hd_By_timeAt ⟨Nat.le_of_ble_eq_true rfl, Nat.le_of_ble_eq_true rfl⟩ rfl (Nat.le_of_ble_eq_true rfl) d_Ce_timeAsked_16 ⟨Nat.le_of_ble_eq_true rfl, Nat.le_of_ble_eq_true rfl⟩) X Y hA (fun z104 H locs Y p104 => ?_)
  obtain ⟨l104, u104⟩ := p104
  refine lv_istore_n (lv' := [(2, .int (iI z104)), (0, .ref h), (1, .int (iI a1))]) X.1 X.2.1 d_Ce_timeAsked_19 rfl hl (by decide) rfl (fun ls hl => ?_)
  refine lv_iload_n X.1 X.2.1 d_Ce_timeAsked_20 rfl (lv_at hl 0 rfl) ?_
  refine z_if_gt (tgt := 30) X.1 X.2.1 d_Ce_timeAsked_21 (by decide) ⟨by omega, by omega⟩ (fun h105 => ?_) (fun h105 => ?_)
  · refine lv_iload_n X.1 X.2.1 d_Ce_timeAsked_30 rfl (lv_at hl 0 rfl) ?_
    refine lv_i2l X.1 X.2.1 d_Ce_timeAsked_31 rfl ?_
    refine t_anyl (fun v106 => ?_)
    exact c_retl hQQ X Y hr hlk ⟨rfl, rfl, trivial⟩ d_Ce_timeAsked_32
  · refine lv_ldc2 (v := (1099511627776)) X.1 X.2.1 X.2.2.2.1 (X.2.2.1 _ cl_Ce_209) d_Ce_timeAsked_24 ?_
    refine lv_goto (tgt := 32) X.1 X.2.1 d_Ce_timeAsked_27 (by decide) ?_
    exact c_retl hQQ X Y hr hlk ⟨rfl, rfl, trivial⟩ d_Ce_timeAsked_32
set_option maxHeartbeats 4000000 in
set_option maxRecDepth 100000 in
theorem c_Ce_mayFlags (l : Launch) (D : va_G) (E : cE) (T : cT) (κ : tK) (L : List Nat) (f : pF) (sz : Nat) (a1 : Nat) (k1 : κ a1 = (17, 0)) (hw : tW E T κ L f) : Met l y_Ce_mayFlags (k_Ce_mayFlags :: lw_tg) (kRm 2 81 0 0) (va_Pc [.ref a1] (kPre D E T L f sz)) (va_Qi (uPi L f (fun (z : Int) => (-2147483648) ≤ z ∧ z ≤ 2147483647)) (cPost D E (pA L sz)) (pA L sz)) 0 0 (pA L sz) := by
  refine k_enter (own := R_Ce) (by decide) rfl (Nat.le_of_ble_eq_true rfl) (fun p e s m below meth c ls AV QQ H locs hQQ X Y hA hin hr hlk hml hl KS KR => ?_)
  have hl : lv_has ls 1 [(0, .ref a1)] := hl
  have S : tS E T (tFr κ L [] []) κ L f κ L f := tS_rf hw
  refine lv_aload_n X.1 X.2.1 d_Ce_mayFlags_0 rfl (lv_at hl 0 rfl) ?_
  refine lv_iconst (v := iI 2) X.1 X.2.1 d_Ce_mayFlags_1 (by decide) ?_
  refine t_ui (t_runV (As := [.int (iI 2)]) (rest := []) (n := 1) X Y S k1 hml hl.1 (c_Pr_is l D E T κ L f H.size a1 k1 2 (by omega) (by omega) S.1) (ok_k X Y hA KS KR) rfl kl_Ce_Pr_is ks_Pr_is kx_Pr_is ki_Pr_is ini_Pr ⟨rfl, rfl⟩ hd_Pr_is ⟨Nat.le_of_ble_eq_true rfl, Nat.le_of_ble_eq_true rfl⟩ rfl (Nat.le_of_ble_eq_true rfl) d_Ce_mayFlags_2 ⟨Nat.le_of_ble_eq_true rfl, Nat.le_of_ble_eq_true rfl⟩) X Y hA (fun z101 H locs Y p101 => ?_)
  obtain ⟨l101, u101⟩ := p101
  have J103 : ∀ (z102 : Int) (H : Heap) (locs : List Loc) (ls : Array Slot), (0 ≤ z102) → (z102 ≤ 1073741824) → pH D cCl (pA L sz) s.heap L f H locs → tS E T (tFr κ L [] []) κ L f κ L f → lv_has ls 1 [(0, .ref a1)] → W p l e (kRm 2 81 0 0) s m AV below meth c H locs 0 0 QQ (F0 m 14 ls [.int (iI z102)]) := by
    intro z102 H locs ls l102 u102 Y S hl
    refine lv_aload_n X.1 X.2.1 d_Ce_mayFlags_14 rfl (lv_at hl 0 rfl) ?_
    refine lv_iconst (v := iI 4) X.1 X.2.1 d_Ce_mayFlags_15 (by decide) ?_
    refine t_ui (t_runV (As := [.int (iI 4)]) (rest := [.int (iI z102)]) (n := 1) X Y S k1 hml hl.1 (c_Pr_is l D E T κ L f H.size a1 k1 4 (by omega) (by omega) S.1) (ok_k X Y hA KS KR) rfl kl_Ce_Pr_is ks_Pr_is kx_Pr_is ki_Pr_is ini_Pr ⟨rfl, rfl⟩ hd_Pr_is ⟨Nat.le_of_ble_eq_true rfl, Nat.le_of_ble_eq_true rfl⟩ rfl (Nat.le_of_ble_eq_true rfl) d_Ce_mayFlags_16 ⟨Nat.le_of_ble_eq_true rfl, Nat.le_of_ble_eq_true rfl⟩) X Y hA (fun z107 H locs Y p107 => ?_)
    obtain ⟨l107, u107⟩ := p107
    have J109 : ∀ (z108 : Int) (H : Heap) (locs : List Loc) (ls : Array Slot), (0 ≤ z108) → (z108 ≤ 268435456) → pH D cCl (pA L sz) s.heap L f H locs → tS E T (tFr κ L [] []) κ L f κ L f → lv_has ls 1 [(0, .ref a1)] → W p l e (kRm 2 81 0 0) s m AV below meth c H locs 0 0 QQ (F0 m 28 ls [.int (iI z108), .int (iI z102)]) := by
      intro z108 H locs ls l108 u108 Y S hl
      refine lv_ior X.1 X.2.1 d_Ce_mayFlags_28 ?_
      refine t_u (fun z113 l113 u113 => ?_)
      refine lv_aload_n X.1 X.2.1 d_Ce_mayFlags_29 rfl (lv_at hl 0 rfl) ?_
      refine lv_bipush (v := iI 8) X.1 X.2.1 d_Ce_mayFlags_30 (by decide) ?_
      refine t_ui (t_runV (As := [.int (iI 8)]) (rest := [.int (iI z113)]) (n := 1) X Y S k1 hml hl.1 (c_Pr_is l D E T κ L f H.size a1 k1 8 (by omega) (by omega) S.1) (ok_k X Y hA KS KR) rfl kl_Ce_Pr_is ks_Pr_is kx_Pr_is ki_Pr_is ini_Pr ⟨rfl, rfl⟩ hd_Pr_is ⟨Nat.le_of_ble_eq_true rfl, Nat.le_of_ble_eq_true rfl⟩ rfl (Nat.le_of_ble_eq_true rfl) d_Ce_mayFlags_32 ⟨Nat.le_of_ble_eq_true rfl, Nat.le_of_ble_eq_true rfl⟩) X Y hA (fun z114 H locs Y p114 => ?_)
      obtain ⟨l114, u114⟩ := p114
      refine z_if_eq (tgt := 43) X.1 X.2.1 d_Ce_mayFlags_35 (by decide) ⟨by omega, by omega⟩ (fun h115 => ?_) (fun h115 => ?_)
      · refine lv_iconst (v := iI 0) X.1 X.2.1 d_Ce_mayFlags_43 (by decide) ?_
        refine lv_ior X.1 X.2.1 d_Ce_mayFlags_44 ?_
        refine t_u (fun z116 l116 u116 => ?_)
        exact c_reti hQQ X Y hr hlk ⟨rfl, rfl, z116, rfl, ⟨by omega, by omega⟩⟩ d_Ce_mayFlags_45
      · refine lv_ldc (v := (8388608)) X.1 X.2.1 X.2.2.2.1 (X.2.2.1 _ cn_Ce_208) d_Ce_mayFlags_38 ?_
        refine t_eq (y := iI 8388608) (by decide) ?_
        refine lv_goto (tgt := 44) X.1 X.2.1 d_Ce_mayFlags_40 (by decide) ?_
        refine lv_ior X.1 X.2.1 d_Ce_mayFlags_44 ?_
        refine t_u (fun z117 l117 u117 => ?_)
        exact c_reti hQQ X Y hr hlk ⟨rfl, rfl, z117, rfl, ⟨by omega, by omega⟩⟩ d_Ce_mayFlags_45
    refine z_if_eq (tgt := 27) X.1 X.2.1 d_Ce_mayFlags_19 (by decide) ⟨by omega, by omega⟩ (fun h118 => ?_) (fun h118 => ?_)
    · refine lv_iconst (v := iI 0) X.1 X.2.1 d_Ce_mayFlags_27 (by decide) ?_
      exact J109 0 _ _ _ (by omega) (by omega) Y S (lv_sub hl [0] rfl)
    · refine lv_ldc (v := (268435456)) X.1 X.2.1 X.2.2.2.1 (X.2.2.1 _ cn_Ce_207) d_Ce_mayFlags_22 ?_
      refine t_eq (y := iI 268435456) (by decide) ?_
      refine lv_goto (tgt := 28) X.1 X.2.1 d_Ce_mayFlags_24 (by decide) ?_
      exact J109 268435456 _ _ _ (by omega) (by omega) Y S (lv_sub hl [0] rfl)
  refine z_if_eq (tgt := 13) X.1 X.2.1 d_Ce_mayFlags_5 (by decide) ⟨by omega, by omega⟩ (fun h119 => ?_) (fun h119 => ?_)
  · refine lv_iconst (v := iI 0) X.1 X.2.1 d_Ce_mayFlags_13 (by decide) ?_
    exact J103 0 _ _ _ (by omega) (by omega) Y S (lv_sub hl [0] rfl)
  · refine lv_ldc (v := (1073741824)) X.1 X.2.1 X.2.2.2.1 (X.2.2.1 _ cn_Ce_205) d_Ce_mayFlags_8 ?_
    refine t_eq (y := iI 1073741824) (by decide) ?_
    refine lv_goto (tgt := 14) X.1 X.2.1 d_Ce_mayFlags_10 (by decide) ?_
    exact J103 1073741824 _ _ _ (by omega) (by omega) Y S (lv_sub hl [0] rfl)
set_option maxHeartbeats 4000000 in
set_option maxRecDepth 100000 in
theorem c_Ce_setFlags (l : Launch) (D : va_G) (E : cE) (T : cT) (κ : tK) (L : List Nat) (f : pF) (sz : Nat) (h : Nat) (k0 : κ h = (14, 0)) (a1 : Int) (l_a1 : 0 ≤ a1) (u_a1 : a1 ≤ 1) (hw : tW E T κ L f) : Met l y_Ce_setFlags (k_Ce_setFlags :: lw_tg) (kRm 4 132 0 0) (va_Pc [.ref h, .int (iI a1)] (kPre D E T L f sz)) (va_Qv (nPv E T [14] κ L f (fun (g : pF) => gF g h 3 = gF f h 3)) (cPost D E (pA L sz)) (pA L sz)) 0 0 (pA L sz) := by
  refine k_enter (own := R_Ce) (by decide) rfl (Nat.le_of_ble_eq_true rfl) (fun p e s m below meth c ls AV QQ H locs hQQ X Y hA hin hr hlk hml hl KS KR => ?_)
  have hl : lv_has ls 5 [(0, .ref h), (1, .int (iI a1))] := hl
  have S : tS E T (tFr κ L [14] []) κ L f κ L f := tS_rf hw
  obtain ⟨tp, e3, ktp⟩ := t_tape S k0
  refine lv_aload_n X.1 X.2.1 d_Ce_setFlags_0 rfl (lv_at hl 0 rfl) ?_
  refine t_geti (ci := 4) X Y S k0 rfl i_Ce 6 (by decide) rfl lk_Ce_65 (fun _ h9 => h9) d_Ce_setFlags_1 (fun z101 e101 l101 u101 => ?_)
  have J103 : ∀ (z102 : Int) (H : Heap) (locs : List Loc) (ls : Array Slot), ((-2147483648) ≤ z102) → (z102 ≤ 2147483647) → pH D cCl (pA L sz) s.heap L f H locs → tS E T (tFr κ L [14] []) κ L f κ L f → lv_has ls 5 [(0, .ref h), (1, .int (iI a1))] → W p l e (kRm 4 132 0 0) s m AV below meth c H locs 0 0 QQ (F0 m 15 ls [.int (iI z102)]) := by
    intro z102 H locs ls l102 u102 Y S hl
    refine lv_istore_n (lv' := [(2, .int (iI z102)), (0, .ref h), (1, .int (iI a1))]) X.1 X.2.1 d_Ce_setFlags_15 rfl hl (by decide) rfl (fun ls hl => ?_)
    refine lv_aload_n X.1 X.2.1 d_Ce_setFlags_16 rfl (lv_at hl 1 rfl) ?_
    refine t_geti (ci := 4) X Y S k0 rfl i_Ce 9 (by decide) rfl lk_Ce_44 (fun _ h9 => h9) d_Ce_setFlags_17 (fun z107 e107 l107 u107 => ?_)
    refine lv_ldc (v := (1342177280)) X.1 X.2.1 X.2.2.2.1 (X.2.2.1 _ cn_Ce_250) d_Ce_setFlags_20 ?_
    refine t_eq (y := iI 1342177280) (by decide) ?_
    refine z_iand X.1 X.2.1 (by omega) (by omega) d_Ce_setFlags_22 (fun z108 l108 u108 => ?_)
    refine lv_iload_n X.1 X.2.1 d_Ce_setFlags_23 rfl (lv_at hl 2 rfl) ?_
    have J110 : ∀ (z109 : Int) (H : Heap) (locs : List Loc) (ls : Array Slot), (0 ≤ z109) → (z109 ≤ 8388608) → pH D cCl (pA L sz) s.heap L f H locs → tS E T (tFr κ L [14] []) κ L f κ L f → lv_has ls 5 [(0, .ref h), (2, .int (iI z102))] → W p l e (kRm 4 132 0 0) s m AV below meth c H locs 0 0 QQ (F0 m 33 ls [.int (iI z109), .int (iI z108)]) := by
      intro z109 H locs ls l109 u109 Y S hl
      refine lv_ior X.1 X.2.1 d_Ce_setFlags_33 ?_
      refine t_u (fun z114 l114 u114 => ?_)
      refine lv_istore_n (lv' := [(3, .int (iI z114)), (0, .ref h), (2, .int (iI z102))]) X.1 X.2.1 d_Ce_setFlags_34 rfl hl (by decide) rfl (fun ls hl => ?_)
      refine lv_aload_n X.1 X.2.1 d_Ce_setFlags_35 rfl (lv_at hl 1 rfl) ?_
      refine t_getr (ci := 4) X Y S k0 rfl i_Ce 11 (by decide) rfl (k1 := 17) (k2 := 0) rfl rfl lk_Ce_41 (fun _ h9 => h9) d_Ce_setFlags_36 (fun b115 e115 k115 => ?_)
      refine t_ui (x_runS (As := [.ref b115]) (rest := []) (n := 1) X hml hl.1 (c_Ce_mayFlags l D E T κ L f H.size b115 k115 S.1) (ok_k X Y hA KS KR) kl_Ce_Ce_mayFlags ks_Ce_mayFlags ki_Ce_mayFlags ini_Ce ⟨rfl, rfl⟩ hd_Ce_mayFlags.2 ⟨Nat.le_of_ble_eq_true rfl, Nat.le_of_ble_eq_true rfl⟩ rfl (Nat.le_of_ble_eq_true rfl) d_Ce_setFlags_39 ⟨Nat.le_of_ble_eq_true rfl, Nat.le_of_ble_eq_true rfl⟩) X Y hA (fun z116 H locs Y p116 => ?_)
      obtain ⟨l116, u116⟩ := p116
      refine lv_aload_n X.1 X.2.1 d_Ce_setFlags_42 rfl (lv_at hl 1 rfl) ?_
      refine t_get0 (ci := 4) X Y S k0 rfl i_Ce 6 (by decide) rfl lk_Ce_65 (fun _ h9 => h9) d_Ce_setFlags_43 e101 ?_
      have J118 : ∀ (z117 : Int) (H : Heap) (locs : List Loc) (ls : Array Slot), ((-2147483648) ≤ z117) → (z117 ≤ 2147483647) → pH D cCl (pA L sz) s.heap L f H locs → tS E T (tFr κ L [14] []) κ L f κ L f → lv_has ls 5 [(0, .ref h), (2, .int (iI z102)), (3, .int (iI z114))] → W p l e (kRm 4 132 0 0) s m AV below meth c H locs 0 0 QQ (F0 m 60 ls [.int (iI z117), .int (iI z116)]) := by
        intro z117 H locs ls l117 u117 Y S hl
        refine lv_iand X.1 X.2.1 d_Ce_setFlags_60 ?_
        refine t_u (fun z123 l123 u123 => ?_)
        refine lv_istore (lv' := [(4, .int (iI z123)), (0, .ref h), (2, .int (iI z102)), (3, .int (iI z114))]) X.1 X.2.1 d_Ce_setFlags_61 hl (by decide) rfl (fun ls hl => ?_)
        refine lv_aload_n X.1 X.2.1 d_Ce_setFlags_63 rfl (lv_at hl 1 rfl) ?_
        refine lv_iload_n X.1 X.2.1 d_Ce_setFlags_64 rfl (lv_at hl 3 rfl) ?_
        refine lv_iload X.1 X.2.1 d_Ce_setFlags_65 (lv_at hl 0 rfl) ?_
        refine lv_iand X.1 X.2.1 d_Ce_setFlags_67 ?_
        refine t_u (fun z125 l125 u125 => ?_)
        refine t_put (ci := 4) X Y S k0 rfl i_Ce t_Ce t_Ce_ok n_Ce 13 (by decide) rfl lk_Ce_247 (fun _ h9 => h9) rfl (t_Ce_ok 13 (by decide)) rfl rfl ⟨_, rfl, (show ((-2147483648) : Int) ≤ z125 by omega), (show z125 ≤ (2147483647 : Int) by omega)⟩ (nF_of S k0 (by decide)) d_Ce_setFlags_68 (fun f126 H locs Y S w126 => ?_)
        refine lv_aload_n X.1 X.2.1 d_Ce_setFlags_71 rfl (lv_at hl 1 rfl) ?_
        refine t_get0 (ci := 4) X Y S k0 rfl i_Ce 6 (by decide) rfl lk_Ce_65 (fun _ h9 => h9) d_Ce_setFlags_72 ((gF_put w126 (Or.inr (by decide))).trans e101) ?_
        refine z_if_eq (tgt := 111) X.1 X.2.1 d_Ce_setFlags_75 (by decide) ⟨by omega, by omega⟩ (fun h127 => ?_) (fun h127 => ?_)
        · refine lv_aload_n X.1 X.2.1 d_Ce_setFlags_111 rfl (lv_at hl 1 rfl) ?_
          refine lv_dup X.1 X.2.1 d_Ce_setFlags_112 rfl ?_
          refine t_get0 (ci := 4) X Y S k0 rfl i_Ce 13 (by decide) rfl lk_Ce_247 (fun _ h9 => h9) d_Ce_setFlags_113 w126.2.1 ?_
          refine lv_iload_n X.1 X.2.1 d_Ce_setFlags_116 rfl (lv_at hl 2 rfl) ?_
          refine lv_ldcw (v := (2097152)) X.1 X.2.1 X.2.2.2.1 (X.2.2.1 _ cn_Ce_256) d_Ce_setFlags_117 ?_
          refine t_eq (y := iI 2097152) (by decide) ?_
          refine z_iand X.1 X.2.1 (by omega) (by omega) d_Ce_setFlags_120 (fun z128 l128 u128 => ?_)
          refine lv_iload_n X.1 X.2.1 d_Ce_setFlags_121 rfl (lv_at hl 2 rfl) ?_
          refine lv_aload_n X.1 X.2.1 d_Ce_setFlags_122 rfl (lv_at hl 1 rfl) ?_
          refine t_get0 (ci := 4) X Y S k0 rfl i_Ce 9 (by decide) rfl lk_Ce_44 (fun _ h9 => h9) d_Ce_setFlags_123 ((gF_put w126 (Or.inr (by decide))).trans e107) ?_
          refine lv_ior X.1 X.2.1 d_Ce_setFlags_126 ?_
          refine t_u (fun z129 l129 u129 => ?_)
          refine lv_ldcw (v := (671088640)) X.1 X.2.1 X.2.2.2.1 (X.2.2.1 _ cn_Ce_257) d_Ce_setFlags_127 ?_
          refine t_eq (y := iI 671088640) (by decide) ?_
          refine z_iand X.1 X.2.1 (by omega) (by omega) d_Ce_setFlags_130 (fun z130 l130 u130 => ?_)
          refine lv_ior X.1 X.2.1 d_Ce_setFlags_131 ?_
          refine t_u (fun z131 l131 u131 => ?_)
          refine lv_ior X.1 X.2.1 d_Ce_setFlags_132 ?_
          refine t_u (fun z132 l132 u132 => ?_)
          refine t_put (ci := 4) X Y S k0 rfl i_Ce t_Ce t_Ce_ok n_Ce 13 (by decide) rfl lk_Ce_247 (fun _ h9 => h9) rfl (t_Ce_ok 13 (by decide)) rfl rfl ⟨_, rfl, (show ((-2147483648) : Int) ≤ z132 by omega), (show z132 ≤ (2147483647 : Int) by omega)⟩ (nF_of S k0 (by decide)) d_Ce_setFlags_133 (fun f133 H locs Y S w133 => ?_)
          exact c_retv hQQ X Y hr hlk ⟨rfl, S, (((gF_put w133 (Or.inr (by decide))).trans ((gF_put w126 (Or.inr (by decide))).trans e3))).trans e3.symm⟩ d_Ce_setFlags_136
        · refine lv_aload_n X.1 X.2.1 d_Ce_setFlags_78 rfl (lv_at hl 1 rfl) ?_
          refine lv_dup X.1 X.2.1 d_Ce_setFlags_79 rfl ?_
          refine t_get0 (ci := 4) X Y S k0 rfl i_Ce 13 (by decide) rfl lk_Ce_247 (fun _ h9 => h9) d_Ce_setFlags_80 w126.2.1 ?_
          refine lv_ldc (v := (4194304)) X.1 X.2.1 X.2.2.2.1 (X.2.2.1 _ cn_Ce_255) d_Ce_setFlags_83 ?_
          refine t_eq (y := iI 4194304) (by decide) ?_
          refine lv_aload_n X.1 X.2.1 d_Ce_setFlags_85 rfl (lv_at hl 1 rfl) ?_
          refine t_getr (ci := 4) X Y S k0 rfl i_Ce 10 (by decide) rfl (k1 := 17) (k2 := 0) rfl rfl lk_Ce_37 (fun _ h9 => h9) d_Ce_setFlags_86 (fun b134 e134 k134 => ?_)
          refine lv_iconst (v := iI 1) X.1 X.2.1 d_Ce_setFlags_89 (by decide) ?_
          refine t_ui (t_runV (As := [.int (iI 1)]) (rest := [.int (iI 4194304), .int (iI z125), .ref h]) (n := 1) X Y S k134 hml hl.1 (c_Pr_is l D E T κ L f126 H.size b134 k134 1 (by omega) (by omega) S.1) (ok_k X Y hA KS KR) rfl kl_Ce_Pr_is ks_Pr_is kx_Pr_is ki_Pr_is ini_Pr ⟨rfl, rfl⟩ hd_Pr_is ⟨Nat.le_of_ble_eq_true rfl, Nat.le_of_ble_eq_true rfl⟩ rfl (Nat.le_of_ble_eq_true rfl) d_Ce_setFlags_90 ⟨Nat.le_of_ble_eq_true rfl, Nat.le_of_ble_eq_true rfl⟩) X Y hA (fun z135 H locs Y p135 => ?_)
          obtain ⟨l135, u135⟩ := p135
          refine z_if_eq (tgt := 102) X.1 X.2.1 d_Ce_setFlags_93 (by decide) ⟨by omega, by omega⟩ (fun h136 => ?_) (fun h136 => ?_)
          · refine lv_iconst (v := iI 0) X.1 X.2.1 d_Ce_setFlags_102 (by decide) ?_
            refine lv_ior X.1 X.2.1 d_Ce_setFlags_103 ?_
            refine t_u (fun z137 l137 u137 => ?_)
            refine lv_ior X.1 X.2.1 d_Ce_setFlags_104 ?_
            refine t_u (fun z138 l138 u138 => ?_)
            refine t_put (ci := 4) X Y S k0 rfl i_Ce t_Ce t_Ce_ok n_Ce 13 (by decide) rfl lk_Ce_247 (fun _ h9 => h9) rfl (t_Ce_ok 13 (by decide)) rfl rfl ⟨_, rfl, (show ((-2147483648) : Int) ≤ z138 by omega), (show z138 ≤ (2147483647 : Int) by omega)⟩ (nF_of S k0 (by decide)) d_Ce_setFlags_105 (fun f139 H locs Y S w139 => ?_)
            refine lv_goto (tgt := 136) X.1 X.2.1 d_Ce_setFlags_108 (by decide) ?_
            exact c_retv hQQ X Y hr hlk ⟨rfl, S, (((gF_put w139 (Or.inr (by decide))).trans ((gF_put w126 (Or.inr (by decide))).trans e3))).trans e3.symm⟩ d_Ce_setFlags_136
          · refine lv_ldcw (v := (2097152)) X.1 X.2.1 X.2.2.2.1 (X.2.2.1 _ cn_Ce_256) d_Ce_setFlags_96 ?_
            refine t_eq (y := iI 2097152) (by decide) ?_
            refine lv_goto (tgt := 103) X.1 X.2.1 d_Ce_setFlags_99 (by decide) ?_
            refine lv_ior X.1 X.2.1 d_Ce_setFlags_103 ?_
            refine t_u (fun z140 l140 u140 => ?_)
            refine lv_ior X.1 X.2.1 d_Ce_setFlags_104 ?_
            refine t_u (fun z141 l141 u141 => ?_)
            refine t_put (ci := 4) X Y S k0 rfl i_Ce t_Ce t_Ce_ok n_Ce 13 (by decide) rfl lk_Ce_247 (fun _ h9 => h9) rfl (t_Ce_ok 13 (by decide)) rfl rfl ⟨_, rfl, (show ((-2147483648) : Int) ≤ z141 by omega), (show z141 ≤ (2147483647 : Int) by omega)⟩ (nF_of S k0 (by decide)) d_Ce_setFlags_105 (fun f142 H locs Y S w142 => ?_)
            refine lv_goto (tgt := 136) X.1 X.2.1 d_Ce_setFlags_108 (by decide) ?_
            exact c_retv hQQ X Y hr hlk ⟨rfl, S, (((gF_put w142 (Or.inr (by decide))).trans ((gF_put w126 (Or.inr (by decide))).trans e3))).trans e3.symm⟩ d_Ce_setFlags_136
      refine z_if_eq (tgt := 59) X.1 X.2.1 d_Ce_setFlags_46 (by decide) ⟨by omega, by omega⟩ (fun h143 => ?_) (fun h143 => ?_)
      · refine lv_iload_n X.1 X.2.1 d_Ce_setFlags_59 rfl (lv_at hl 2 rfl) ?_
        exact J118 z102 _ _ _ (by omega) (by omega) Y S (lv_sub hl [1, 2, 0] rfl)
      · refine lv_aload_n X.1 X.2.1 d_Ce_setFlags_49 rfl (lv_at hl 1 rfl) ?_
        refine t_getr (ci := 4) X Y S k0 rfl i_Ce 10 (by decide) rfl (k1 := 17) (k2 := 0) rfl rfl lk_Ce_37 (fun _ h9 => h9) d_Ce_setFlags_50 (fun b144 e144 k144 => ?_)
        refine t_ui (x_runS (As := [.ref b144]) (rest := [.int (iI z116)]) (n := 1) X hml hl.1 (c_Ce_mayFlags l D E T κ L f H.size b144 k144 S.1) (ok_k X Y hA KS KR) kl_Ce_Ce_mayFlags ks_Ce_mayFlags ki_Ce_mayFlags ini_Ce ⟨rfl, rfl⟩ hd_Ce_mayFlags.2 ⟨Nat.le_of_ble_eq_true rfl, Nat.le_of_ble_eq_true rfl⟩ rfl (Nat.le_of_ble_eq_true rfl) d_Ce_setFlags_53 ⟨Nat.le_of_ble_eq_true rfl, Nat.le_of_ble_eq_true rfl⟩) X Y hA (fun z145 H locs Y p145 => ?_)
        obtain ⟨l145, u145⟩ := p145
        refine lv_goto (tgt := 60) X.1 X.2.1 d_Ce_setFlags_56 (by decide) ?_
        exact J118 z145 _ _ _ (by omega) (by omega) Y S (lv_sub hl [1, 2, 0] rfl)
    refine z_if_eq (tgt := 32) X.1 X.2.1 d_Ce_setFlags_24 (by decide) ⟨by omega, by omega⟩ (fun h146 => ?_) (fun h146 => ?_)
    · refine lv_iconst (v := iI 0) X.1 X.2.1 d_Ce_setFlags_32 (by decide) ?_
      exact J110 0 _ _ _ (by omega) (by omega) Y S (lv_sub hl [1, 0] rfl)
    · refine lv_ldc (v := (8388608)) X.1 X.2.1 X.2.2.2.1 (X.2.2.1 _ cn_Ce_208) d_Ce_setFlags_27 ?_
      refine t_eq (y := iI 8388608) (by decide) ?_
      refine lv_goto (tgt := 33) X.1 X.2.1 d_Ce_setFlags_29 (by decide) ?_
      exact J110 8388608 _ _ _ (by omega) (by omega) Y S (lv_sub hl [1, 0] rfl)
  refine z_if_eq (tgt := 11) X.1 X.2.1 d_Ce_setFlags_4 (by decide) ⟨by omega, by omega⟩ (fun h147 => ?_) (fun h147 => ?_)
  · refine lv_aload_n X.1 X.2.1 d_Ce_setFlags_11 rfl (lv_at hl 0 rfl) ?_
    refine t_ui (t_runV (As := []) (rest := []) (n := 0) X Y S k0 hml hl.1 (c_Ce_ticketFlags l D E T κ L f H.size h k0 S.1) (ok_k X Y hA KS KR) rfl kl_Ce_Ce_ticketFlags ks_Ce_ticketFlags kx_Ce_ticketFlags ki_Ce_ticketFlags ini_Ce ⟨rfl, rfl⟩ hd_Ce_ticketFlags ⟨Nat.le_of_ble_eq_true rfl, Nat.le_of_ble_eq_true rfl⟩ rfl (Nat.le_of_ble_eq_true rfl) d_Ce_setFlags_12 ⟨Nat.le_of_ble_eq_true rfl, Nat.le_of_ble_eq_true rfl⟩) X Y hA (fun z148 H locs Y p148 => ?_)
    obtain ⟨l148, u148⟩ := p148
    exact J103 z148 _ _ _ (by omega) (by omega) Y S (lv_sub hl [0, 1] rfl)
  · refine lv_iconst (v := iI 0) X.1 X.2.1 d_Ce_setFlags_7 (by decide) ?_
    refine lv_goto (tgt := 15) X.1 X.2.1 d_Ce_setFlags_8 (by decide) ?_
    exact J103 0 _ _ _ (by omega) (by omega) Y S (lv_sub hl [0, 1] rfl)
set_option maxHeartbeats 4000000 in
set_option maxRecDepth 100000 in
theorem c_Ce_setRenewTill (l : Launch) (D : va_G) (E : cE) (T : cT) (κ : tK) (L : List Nat) (f : pF) (sz : Nat) (h : Nat) (k0 : κ h = (14, 0)) (a1 : Int64) (hw : tW E T κ L f) : Met l y_Ce_setRenewTill (k_Ce_setRenewTill :: lw_tg) (kRm 4 130 0 0) (va_Pc [.ref h, .long a1] (kPre D E T L f sz)) (va_Qv (nPv E T [14] κ L f (fun (g : pF) => gF g h 3 = gF f h 3)) (cPost D E (pA L sz)) (pA L sz)) 0 0 (pA L sz) := by
  refine k_enter (own := R_Ce) (by decide) rfl (Nat.le_of_ble_eq_true rfl) (fun p e s m below meth c ls AV QQ H locs hQQ X Y hA hin hr hlk hml hl KS KR => ?_)
  have hl : lv_has ls 6 [(0, .ref h), (1, .long a1)] := hl
  have S : tS E T (tFr κ L [14] []) κ L f κ L f := tS_rf hw
  obtain ⟨tp, e3, ktp⟩ := t_tape S k0
  refine lv_aload_n X.1 X.2.1 d_Ce_setRenewTill_0 rfl (lv_at hl 0 rfl) ?_
  refine t_geti (ci := 4) X Y S k0 rfl i_Ce 13 (by decide) rfl lk_Ce_247 (fun _ h9 => h9) d_Ce_setRenewTill_1 (fun z101 e101 l101 u101 => ?_)
  refine lv_ldc (v := (8388608)) X.1 X.2.1 X.2.2.2.1 (X.2.2.1 _ cn_Ce_208) d_Ce_setRenewTill_4 ?_
  refine t_eq (y := iI 8388608) (by decide) ?_
  refine z_iand X.1 X.2.1 (by omega) (by omega) d_Ce_setRenewTill_6 (fun z102 l102 u102 => ?_)
  refine z_if_ne (tgt := 16) X.1 X.2.1 d_Ce_setRenewTill_7 (by decide) ⟨by omega, by omega⟩ (fun h103 => ?_) (fun h103 => ?_)
  · refine lv_lload_n X.1 X.2.1 d_Ce_setRenewTill_16 rfl (lv_at hl 1 rfl) ?_
    refine lv_aload_n X.1 X.2.1 d_Ce_setRenewTill_17 rfl (lv_at hl 0 rfl) ?_
    refine t_getr (ci := 4) X Y S k0 rfl i_Ce 0 (by decide) rfl (k1 := 21) (k2 := 0) rfl rfl lk_Ce_18 (fun _ h9 => h9) d_Ce_setRenewTill_18 (fun b104 e104 k104 => ?_)
    refine t_geti (ci := 11) X Y S k104 rfl i_Va 0 (by decide) rfl lk_Ce_112 (fun _ h9 => h9) d_Ce_setRenewTill_21 (fun z105 e105 l105 u105 => ?_)
    refine lv_i2l X.1 X.2.1 d_Ce_setRenewTill_24 rfl ?_
    refine t_anyl (fun v106 => ?_)
    refine lv_aload_n X.1 X.2.1 d_Ce_setRenewTill_25 rfl (lv_at hl 0 rfl) ?_
    refine t_getr (ci := 4) X Y S k0 rfl i_Ce 10 (by decide) rfl (k1 := 17) (k2 := 0) rfl rfl lk_Ce_37 (fun _ h9 => h9) d_Ce_setRenewTill_26 (fun b107 e107 k107 => ?_)
    refine t_geti (ci := 7) X Y S k107 rfl i_Pr 10 (by decide) rfl lk_Ce_258 (fun _ h9 => h9) d_Ce_setRenewTill_29 (fun z108 e108 l108 u108 => ?_)
    refine lv_aload_n X.1 X.2.1 d_Ce_setRenewTill_32 rfl (lv_at hl 0 rfl) ?_
    refine t_getr (ci := 4) X Y S k0 rfl i_Ce 11 (by decide) rfl (k1 := 17) (k2 := 0) rfl rfl lk_Ce_41 (fun _ h9 => h9) d_Ce_setRenewTill_33 (fun b109 e109 k109 => ?_)
    refine t_geti (ci := 7) X Y S k109 rfl i_Pr 10 (by decide) rfl lk_Ce_258 (fun _ h9 => h9) d_Ce_setRenewTill_36 (fun z110 e110 l110 u110 => ?_)
    refine z_min X.1 X.2.1 (hml.trans hl.1.symm) X.2.2.2.1 (X.2.2.1 _ kl_Ce_mmin) (X.2.2.1 _ ks_mmin) (X.2.2.1 _ ini_Math) (X.2.2.1 _ ki_mmin) (Nat.le_of_ble_eq_true rfl) (Nat.le_of_ble_eq_true rfl) (Nat.le_of_ble_eq_true rfl) (Nat.le_of_ble_eq_true rfl) ⟨by omega, by omega⟩ ⟨by omega, by omega⟩ d_Ce_setRenewTill_39 (fun z111 l111 u111 x111 => ?_)
    refine lv_i2l X.1 X.2.1 d_Ce_setRenewTill_42 rfl ?_
    refine t_anyl (fun v112 => ?_)
    refine lv_ladd X.1 X.2.1 d_Ce_setRenewTill_43 ?_
    refine t_anyl (fun v113 => ?_)
    refine va_mmin_long X.1 X.2.1 (hml.trans hl.1.symm) X.2.2.2.1 (X.2.2.1 _ kl_Ce_mmin_long) (X.2.2.1 _ ks_mmin_long) (X.2.2.1 _ ini_Math) (X.2.2.1 _ ki_mmin_long) (Nat.le_of_ble_eq_true rfl) (Nat.le_of_ble_eq_true rfl) (Nat.le_of_ble_eq_true rfl) (Nat.le_of_ble_eq_true rfl) d_Ce_setRenewTill_44 ?_
    refine t_anyl (fun v114 => ?_)
    refine lv_lstore_n (lv' := [(3, .long v114), (0, .ref h), (1, .long a1)]) X.1 X.2.1 d_Ce_setRenewTill_47 rfl hl (by decide) rfl (fun ls hl => ?_)
    refine lv_aload_n X.1 X.2.1 d_Ce_setRenewTill_48 rfl (lv_at hl 1 rfl) ?_
    refine t_geti (ci := 4) X Y S k0 rfl i_Ce 6 (by decide) rfl lk_Ce_65 (fun _ h9 => h9) d_Ce_setRenewTill_49 (fun z115 e115 l115 u115 => ?_)
    have J117 : ∀ (z116 : Int) (H : Heap) (locs : List Loc) (ls : Array Slot), ((-2147483648) ≤ z116) → (z116 ≤ 2147483647) → pH D cCl (pA L sz) s.heap L f H locs → tS E T (tFr κ L [14] []) κ L f κ L f → lv_has ls 6 [(0, .ref h), (3, .long v114)] → W p l e (kRm 4 130 0 0) s m AV below meth c H locs 0 0 QQ (F0 m 82 ls [.int (iI z116)]) := by
      intro z116 H locs ls l116 u116 Y S hl
      refine lv_istore (lv' := [(5, .int (iI z116)), (0, .ref h), (3, .long v114)]) X.1 X.2.1 d_Ce_setRenewTill_82 hl (by decide) rfl (fun ls hl => ?_)
      refine lv_aload_n X.1 X.2.1 d_Ce_setRenewTill_84 rfl (lv_at hl 1 rfl) ?_
      refine lv_iload X.1 X.2.1 d_Ce_setRenewTill_85 (lv_at hl 0 rfl) ?_
      refine z_if_lt (tgt := 100) X.1 X.2.1 d_Ce_setRenewTill_87 (by decide) ⟨by omega, by omega⟩ (fun h121 => ?_) (fun h121 => ?_)
      · refine lv_lload_n X.1 X.2.1 d_Ce_setRenewTill_100 rfl (lv_at hl 2 rfl) ?_
        refine lv_l2i X.1 X.2.1 d_Ce_setRenewTill_101 rfl ?_
        refine t_u (fun z122 l122 u122 => ?_)
        refine t_put (ci := 4) X Y S k0 rfl i_Ce t_Ce t_Ce_ok n_Ce 15 (by decide) rfl lk_Ce_243 (fun _ h9 => h9) rfl (t_Ce_ok 15 (by decide)) rfl rfl ⟨_, rfl, (show ((-2147483648) : Int) ≤ z122 by omega), (show z122 ≤ (2147483647 : Int) by omega)⟩ (nF_of S k0 (by decide)) d_Ce_setRenewTill_102 (fun f123 H locs Y S w123 => ?_)
        exact c_retv hQQ X Y hr hlk ⟨rfl, S, (((gF_put w123 (Or.inr (by decide))).trans e3)).trans e3.symm⟩ d_Ce_setRenewTill_105
      · refine lv_lload_n X.1 X.2.1 d_Ce_setRenewTill_90 rfl (lv_at hl 2 rfl) ?_
        refine lv_iload X.1 X.2.1 d_Ce_setRenewTill_91 (lv_at hl 0 rfl) ?_
        refine lv_i2l X.1 X.2.1 d_Ce_setRenewTill_93 rfl ?_
        refine t_anyl (fun v124 => ?_)
        refine va_mmin_long X.1 X.2.1 (hml.trans hl.1.symm) X.2.2.2.1 (X.2.2.1 _ kl_Ce_mmin_long) (X.2.2.1 _ ks_mmin_long) (X.2.2.1 _ ini_Math) (X.2.2.1 _ ki_mmin_long) (Nat.le_of_ble_eq_true rfl) (Nat.le_of_ble_eq_true rfl) (Nat.le_of_ble_eq_true rfl) (Nat.le_of_ble_eq_true rfl) d_Ce_setRenewTill_94 ?_
        refine t_anyl (fun v125 => ?_)
        refine lv_goto (tgt := 101) X.1 X.2.1 d_Ce_setRenewTill_97 (by decide) ?_
        refine lv_l2i X.1 X.2.1 d_Ce_setRenewTill_101 rfl ?_
        refine t_u (fun z126 l126 u126 => ?_)
        refine t_put (ci := 4) X Y S k0 rfl i_Ce t_Ce t_Ce_ok n_Ce 15 (by decide) rfl lk_Ce_243 (fun _ h9 => h9) rfl (t_Ce_ok 15 (by decide)) rfl rfl ⟨_, rfl, (show ((-2147483648) : Int) ≤ z126 by omega), (show z126 ≤ (2147483647 : Int) by omega)⟩ (nF_of S k0 (by decide)) d_Ce_setRenewTill_102 (fun f127 H locs Y S w127 => ?_)
        exact c_retv hQQ X Y hr hlk ⟨rfl, S, (((gF_put w127 (Or.inr (by decide))).trans e3)).trans e3.symm⟩ d_Ce_setRenewTill_105
    refine z_if_eq (tgt := 59) X.1 X.2.1 d_Ce_setRenewTill_52 (by decide) ⟨by omega, by omega⟩ (fun h128 => ?_) (fun h128 => ?_)
    · refine lv_aload_n X.1 X.2.1 d_Ce_setRenewTill_59 rfl (lv_at hl 1 rfl) ?_
      refine t_getr (ci := 4) X Y S k0 rfl i_Ce 1 (by decide) rfl (k1 := 15) (k2 := 0) rfl rfl lk_Ce_22 (fun _ h9 => h9) d_Ce_setRenewTill_60 (fun b129 e129 k129 => ?_)
      refine t_getr (ci := 5) X Y S k129 rfl i_Ga 1 (by decide) rfl (k1 := 13) (k2 := 4000) rfl rfl lk_Ce_140 (fun _ h9 => h9) d_Ce_setRenewTill_63 (fun b130 e130 k130 => ?_)
      refine lv_aload_n X.1 X.2.1 d_Ce_setRenewTill_66 rfl (lv_at hl 1 rfl) ?_
      refine t_get0 (ci := 4) X Y S k0 rfl i_Ce 1 (by decide) rfl lk_Ce_22 (fun _ h9 => h9) d_Ce_setRenewTill_67 e129 ?_
      refine t_get0 (ci := 5) X Y S k129 rfl i_Ga 1 (by decide) rfl lk_Ce_140 (fun _ h9 => h9) d_Ce_setRenewTill_70 e130 ?_
      refine lv_iconst (v := iI 0) X.1 X.2.1 d_Ce_setRenewTill_73 (by decide) ?_
      refine lv_bipush (v := iI 8) X.1 X.2.1 d_Ce_setRenewTill_74 (by decide) ?_
      refine t_ui (t_runV (As := [.int (iI 0), .int (iI 8)]) (rest := [.ref b130]) (n := 2) X Y S k130 hml hl.1 (c_By_field l D E T κ L f H.size b130 4000 k130 (by omega) 0 (by omega) (by omega) 8 (by omega) (by omega) S.1) (ok_k X Y hA KS KR) rfl kl_Ce_By_field ks_By_field kx_By_field ki_By_field ini_By ⟨rfl, rfl⟩ hd_By_field ⟨Nat.le_of_ble_eq_true rfl, Nat.le_of_ble_eq_true rfl⟩ rfl (Nat.le_of_ble_eq_true rfl) d_Ce_setRenewTill_76 ⟨Nat.le_of_ble_eq_true rfl, Nat.le_of_ble_eq_true rfl⟩) X Y hA (fun z131 H locs Y p131 => ?_)
      obtain ⟨l131, u131⟩ := p131
      refine t_ui (t_runV (As := [.int (iI z131)]) (rest := []) (n := 1) X Y S k130 hml hl.1 (c_By_timeAt l D E T κ L f H.size b130 4000 k130 (by omega) z131 (by omega) (by omega) S.1) (ok_k X Y hA KS KR) rfl kl_Ce_By_timeAt ks_By_timeAt kx_By_timeAt ki_By_timeAt ini_By ⟨rfl, rfl⟩ hd_By_timeAt ⟨Nat.le_of_ble_eq_true rfl, Nat.le_of_ble_eq_true rfl⟩ rfl (Nat.le_of_ble_eq_true rfl) d_Ce_setRenewTill_79 ⟨Nat.le_of_ble_eq_true rfl, Nat.le_of_ble_eq_true rfl⟩) X Y hA (fun z132 H locs Y p132 => ?_)
      obtain ⟨l132, u132⟩ := p132
      exact J117 z132 _ _ _ (by omega) (by omega) Y S (lv_sub hl [1, 0] rfl)
    · refine lv_iconst (v := iI (-1)) X.1 X.2.1 d_Ce_setRenewTill_55 (by decide) ?_
      refine lv_goto (tgt := 82) X.1 X.2.1 d_Ce_setRenewTill_56 (by decide) ?_
      exact J117 ((-1)) _ _ _ (by omega) (by omega) Y S (lv_sub hl [1, 0] rfl)
  · refine lv_aload_n X.1 X.2.1 d_Ce_setRenewTill_10 rfl (lv_at hl 0 rfl) ?_
    refine lv_iconst (v := iI (-1)) X.1 X.2.1 d_Ce_setRenewTill_11 (by decide) ?_
    refine t_put (ci := 4) X Y S k0 rfl i_Ce t_Ce t_Ce_ok n_Ce 15 (by decide) rfl lk_Ce_243 (fun _ h9 => h9) rfl (t_Ce_ok 15 (by decide)) rfl rfl ⟨_, rfl, (show ((-2147483648) : Int) ≤ (-1) by omega), (show (-1) ≤ (2147483647 : Int) by omega)⟩ (nF_of S k0 (by decide)) d_Ce_setRenewTill_12 (fun f133 H locs Y S w133 => ?_)
    exact c_retv hQQ X Y hr hlk ⟨rfl, S, (((gF_put w133 (Or.inr (by decide))).trans e3)).trans e3.symm⟩ d_Ce_setRenewTill_15
set_option maxHeartbeats 4000000 in
set_option maxRecDepth 100000 in
theorem c_Ce_setRenewed (l : Launch) (D : va_G) (E : cE) (T : cT) (κ : tK) (L : List Nat) (f : pF) (sz : Nat) (h : Nat) (k0 : κ h = (14, 0)) (hw : tW E T κ L f) : Met l y_Ce_setRenewed (k_Ce_setRenewed :: lw_tg) (kRm 5 151 0 0) (va_Pc [.ref h] (kPre D E T L f sz)) (va_Qi (nPi E T [14] κ L f (fun (z : Int) (g : pF) => (-2147483648) ≤ z ∧ z ≤ 2147483647 ∧ gF g h 3 = gF f h 3)) (cPost D E (pA L sz)) (pA L sz)) 0 0 (pA L sz) := by
  refine k_enter (own := R_Ce) (by decide) rfl (Nat.le_of_ble_eq_true rfl) (fun p e s m below meth c ls AV QQ H locs hQQ X Y hA hin hr hlk hml hl KS KR => ?_)
  have hl : lv_has ls 6 [(0, .ref h)] := hl
  have S : tS E T (tFr κ L [14] []) κ L f κ L f := tS_rf hw
  obtain ⟨tp, e3, ktp⟩ := t_tape S k0
  refine lv_aload_n X.1 X.2.1 d_Ce_setRenewed_0 rfl (lv_at hl 0 rfl) ?_
  refine t_getr (ci := 4) X Y S k0 rfl i_Ce 1 (by decide) rfl (k1 := 15) (k2 := 0) rfl rfl lk_Ce_22 (fun _ h9 => h9) d_Ce_setRenewed_1 (fun b101 e101 k101 => ?_)
  refine t_getr (ci := 5) X Y S k101 rfl i_Ga 1 (by decide) rfl (k1 := 13) (k2 := 4000) rfl rfl lk_Ce_140 (fun _ h9 => h9) d_Ce_setRenewed_4 (fun b102 e102 k102 => ?_)
  refine lv_aload_n X.1 X.2.1 d_Ce_setRenewed_7 rfl (lv_at hl 0 rfl) ?_
  refine t_get0 (ci := 4) X Y S k0 rfl i_Ce 1 (by decide) rfl lk_Ce_22 (fun _ h9 => h9) d_Ce_setRenewed_8 e101 ?_
  refine t_get0 (ci := 5) X Y S k101 rfl i_Ga 1 (by decide) rfl lk_Ce_140 (fun _ h9 => h9) d_Ce_setRenewed_11 e102 ?_
  refine lv_iconst (v := iI 0) X.1 X.2.1 d_Ce_setRenewed_14 (by decide) ?_
  refine lv_bipush (v := iI 8) X.1 X.2.1 d_Ce_setRenewed_15 (by decide) ?_
  refine t_ui (t_runV (As := [.int (iI 0), .int (iI 8)]) (rest := [.ref b102]) (n := 2) X Y S k102 hml hl.1 (c_By_field l D E T κ L f H.size b102 4000 k102 (by omega) 0 (by omega) (by omega) 8 (by omega) (by omega) S.1) (ok_k X Y hA KS KR) rfl kl_Ce_By_field ks_By_field kx_By_field ki_By_field ini_By ⟨rfl, rfl⟩ hd_By_field ⟨Nat.le_of_ble_eq_true rfl, Nat.le_of_ble_eq_true rfl⟩ rfl (Nat.le_of_ble_eq_true rfl) d_Ce_setRenewed_17 ⟨Nat.le_of_ble_eq_true rfl, Nat.le_of_ble_eq_true rfl⟩) X Y hA (fun z103 H locs Y p103 => ?_)
  obtain ⟨l103, u103⟩ := p103
  refine t_ui (t_runV (As := [.int (iI z103)]) (rest := []) (n := 1) X Y S k102 hml hl.1 (c_By_timeAt l D E T κ L f H.size b102 4000 k102 (by omega) z103 (by omega) (by omega) S.1) (ok_k X Y hA KS KR) rfl kl_Ce_By_timeAt ks_By_timeAt kx_By_timeAt ki_By_timeAt ini_By ⟨rfl, rfl⟩ hd_By_timeAt ⟨Nat.le_of_ble_eq_true rfl, Nat.le_of_ble_eq_true rfl⟩ rfl (Nat.le_of_ble_eq_true rfl) d_Ce_setRenewed_20 ⟨Nat.le_of_ble_eq_true rfl, Nat.le_of_ble_eq_true rfl⟩) X Y hA (fun z104 H locs Y p104 => ?_)
  obtain ⟨l104, u104⟩ := p104
  refine lv_istore_n (lv' := [(1, .int (iI z104)), (0, .ref h)]) X.1 X.2.1 d_Ce_setRenewed_23 rfl hl (by decide) rfl (fun ls hl => ?_)
  refine lv_aload_n X.1 X.2.1 d_Ce_setRenewed_24 rfl (lv_at hl 1 rfl) ?_
  refine t_get0 (ci := 4) X Y S k0 rfl i_Ce 1 (by decide) rfl lk_Ce_22 (fun _ h9 => h9) d_Ce_setRenewed_25 e101 ?_
  refine t_get0 (ci := 5) X Y S k101 rfl i_Ga 1 (by decide) rfl lk_Ce_140 (fun _ h9 => h9) d_Ce_setRenewed_28 e102 ?_
  refine lv_aload_n X.1 X.2.1 d_Ce_setRenewed_31 rfl (lv_at hl 1 rfl) ?_
  refine t_get0 (ci := 4) X Y S k0 rfl i_Ce 1 (by decide) rfl lk_Ce_22 (fun _ h9 => h9) d_Ce_setRenewed_32 e101 ?_
  refine t_get0 (ci := 5) X Y S k101 rfl i_Ga 1 (by decide) rfl lk_Ce_140 (fun _ h9 => h9) d_Ce_setRenewed_35 e102 ?_
  refine lv_iconst (v := iI 0) X.1 X.2.1 d_Ce_setRenewed_38 (by decide) ?_
  refine lv_bipush (v := iI 7) X.1 X.2.1 d_Ce_setRenewed_39 (by decide) ?_
  refine t_ui (t_runV (As := [.int (iI 0), .int (iI 7)]) (rest := [.ref b102]) (n := 2) X Y S k102 hml hl.1 (c_By_field l D E T κ L f H.size b102 4000 k102 (by omega) 0 (by omega) (by omega) 7 (by omega) (by omega) S.1) (ok_k X Y hA KS KR) rfl kl_Ce_By_field ks_By_field kx_By_field ki_By_field ini_By ⟨rfl, rfl⟩ hd_By_field ⟨Nat.le_of_ble_eq_true rfl, Nat.le_of_ble_eq_true rfl⟩ rfl (Nat.le_of_ble_eq_true rfl) d_Ce_setRenewed_41 ⟨Nat.le_of_ble_eq_true rfl, Nat.le_of_ble_eq_true rfl⟩) X Y hA (fun z105 H locs Y p105 => ?_)
  obtain ⟨l105, u105⟩ := p105
  refine t_ui (t_runV (As := [.int (iI z105)]) (rest := []) (n := 1) X Y S k102 hml hl.1 (c_By_timeAt l D E T κ L f H.size b102 4000 k102 (by omega) z105 (by omega) (by omega) S.1) (ok_k X Y hA KS KR) rfl kl_Ce_By_timeAt ks_By_timeAt kx_By_timeAt ki_By_timeAt ini_By ⟨rfl, rfl⟩ hd_By_timeAt ⟨Nat.le_of_ble_eq_true rfl, Nat.le_of_ble_eq_true rfl⟩ rfl (Nat.le_of_ble_eq_true rfl) d_Ce_setRenewed_44 ⟨Nat.le_of_ble_eq_true rfl, Nat.le_of_ble_eq_true rfl⟩) X Y hA (fun z106 H locs Y p106 => ?_)
  obtain ⟨l106, u106⟩ := p106
  refine lv_i2l X.1 X.2.1 d_Ce_setRenewed_47 rfl ?_
  refine t_anyl (fun v107 => ?_)
  refine lv_aload_n X.1 X.2.1 d_Ce_setRenewed_48 rfl (lv_at hl 1 rfl) ?_
  refine t_get0 (ci := 4) X Y S k0 rfl i_Ce 1 (by decide) rfl lk_Ce_22 (fun _ h9 => h9) d_Ce_setRenewed_49 e101 ?_
  refine t_ui (t_runV (As := []) (rest := [.long v107]) (n := 0) X Y S k101 hml hl.1 (c_Ga_startTime l D E T κ L f H.size b101 k101 S.1) (ok_k X Y hA KS KR) rfl kl_Ce_Ga_startTime ks_Ga_startTime kx_Ga_startTime ki_Ga_startTime ini_Ga ⟨rfl, rfl⟩ hd_Ga_startTime ⟨Nat.le_of_ble_eq_true rfl, Nat.le_of_ble_eq_true rfl⟩ rfl (Nat.le_of_ble_eq_true rfl) d_Ce_setRenewed_52 ⟨Nat.le_of_ble_eq_true rfl, Nat.le_of_ble_eq_true rfl⟩) X Y hA (fun z108 H locs Y p108 => ?_)
  obtain ⟨l108, u108⟩ := p108
  refine lv_i2l X.1 X.2.1 d_Ce_setRenewed_55 rfl ?_
  refine t_anyl (fun v109 => ?_)
  refine lv_lsub X.1 X.2.1 d_Ce_setRenewed_56 ?_
  refine t_anyl (fun v110 => ?_)
  refine lv_lstore_n (lv' := [(2, .long v110), (1, .int (iI z104)), (0, .ref h)]) X.1 X.2.1 d_Ce_setRenewed_57 rfl hl (by decide) rfl (fun ls hl => ?_)
  refine lv_aload_n X.1 X.2.1 d_Ce_setRenewed_58 rfl (lv_at hl 2 rfl) ?_
  refine t_getr (ci := 4) X Y S k0 rfl i_Ce 0 (by decide) rfl (k1 := 21) (k2 := 0) rfl rfl lk_Ce_18 (fun _ h9 => h9) d_Ce_setRenewed_59 (fun b111 e111 k111 => ?_)
  refine t_geti (ci := 11) X Y S k111 rfl i_Va 0 (by decide) rfl lk_Ce_112 (fun _ h9 => h9) d_Ce_setRenewed_62 (fun z112 e112 l112 u112 => ?_)
  refine lv_i2l X.1 X.2.1 d_Ce_setRenewed_65 rfl ?_
  refine t_anyl (fun v113 => ?_)
  refine lv_lload_n X.1 X.2.1 d_Ce_setRenewed_66 rfl (lv_at hl 0 rfl) ?_
  refine lv_ladd X.1 X.2.1 d_Ce_setRenewed_67 ?_
  refine t_anyl (fun v114 => ?_)
  refine lv_iload_n X.1 X.2.1 d_Ce_setRenewed_68 rfl (lv_at hl 1 rfl) ?_
  refine lv_i2l X.1 X.2.1 d_Ce_setRenewed_69 rfl ?_
  refine t_anyl (fun v115 => ?_)
  refine va_mmin_long X.1 X.2.1 (hml.trans hl.1.symm) X.2.2.2.1 (X.2.2.1 _ kl_Ce_mmin_long) (X.2.2.1 _ ks_mmin_long) (X.2.2.1 _ ini_Math) (X.2.2.1 _ ki_mmin_long) (Nat.le_of_ble_eq_true rfl) (Nat.le_of_ble_eq_true rfl) (Nat.le_of_ble_eq_true rfl) (Nat.le_of_ble_eq_true rfl) d_Ce_setRenewed_70 ?_
  refine t_anyl (fun v116 => ?_)
  refine lv_lstore (lv' := [(4, .long v116), (2, .long v110), (1, .int (iI z104)), (0, .ref h)]) X.1 X.2.1 d_Ce_setRenewed_73 hl (by decide) rfl (fun ls hl => ?_)
  refine lv_aload_n X.1 X.2.1 d_Ce_setRenewed_75 rfl (lv_at hl 3 rfl) ?_
  refine lv_lconst (v := 0) X.1 X.2.1 d_Ce_setRenewed_76 rfl ?_
  refine lv_lload X.1 X.2.1 d_Ce_setRenewed_77 (lv_at hl 0 rfl) ?_
  refine va_mmax_long X.1 X.2.1 (hml.trans hl.1.symm) X.2.2.2.1 (X.2.2.1 _ kl_Ce_mmax_long) (X.2.2.1 _ ks_mmax_long) (X.2.2.1 _ ini_Math) (X.2.2.1 _ ki_mmax_long) (Nat.le_of_ble_eq_true rfl) (Nat.le_of_ble_eq_true rfl) (Nat.le_of_ble_eq_true rfl) (Nat.le_of_ble_eq_true rfl) d_Ce_setRenewed_79 ?_
  refine t_anyl (fun v117 => ?_)
  refine lv_l2i X.1 X.2.1 d_Ce_setRenewed_82 rfl ?_
  refine t_u (fun z118 l118 u118 => ?_)
  refine t_put (ci := 4) X Y S k0 rfl i_Ce t_Ce t_Ce_ok n_Ce 14 (by decide) rfl lk_Ce_226 (fun _ h9 => h9) rfl (t_Ce_ok 14 (by decide)) rfl rfl ⟨_, rfl, (show ((-2147483648) : Int) ≤ z118 by omega), (show z118 ≤ (2147483647 : Int) by omega)⟩ (nF_of S k0 (by decide)) d_Ce_setRenewed_83 (fun f119 H locs Y S w119 => ?_)
  refine lv_aload_n X.1 X.2.1 d_Ce_setRenewed_86 rfl (lv_at hl 3 rfl) ?_
  refine lv_iload_n X.1 X.2.1 d_Ce_setRenewed_87 rfl (lv_at hl 2 rfl) ?_
  refine t_put (ci := 4) X Y S k0 rfl i_Ce t_Ce t_Ce_ok n_Ce 15 (by decide) rfl lk_Ce_243 (fun _ h9 => h9) rfl (t_Ce_ok 15 (by decide)) rfl rfl ⟨_, rfl, (show ((-2147483648) : Int) ≤ z104 by omega), (show z104 ≤ (2147483647 : Int) by omega)⟩ (nF_of S k0 (by decide)) d_Ce_setRenewed_88 (fun f120 H locs Y S w120 => ?_)
  refine lv_aload_n X.1 X.2.1 d_Ce_setRenewed_91 rfl (lv_at hl 3 rfl) ?_
  refine lv_aload_n X.1 X.2.1 d_Ce_setRenewed_92 rfl (lv_at hl 3 rfl) ?_
  refine t_ui (t_runV (As := []) (rest := [.ref h]) (n := 0) X Y S k0 hml hl.1 (c_Ce_ticketFlags l D E T κ L f120 H.size h k0 S.1) (ok_k X Y hA KS KR) rfl kl_Ce_Ce_ticketFlags ks_Ce_ticketFlags kx_Ce_ticketFlags ki_Ce_ticketFlags ini_Ce ⟨rfl, rfl⟩ hd_Ce_ticketFlags ⟨Nat.le_of_ble_eq_true rfl, Nat.le_of_ble_eq_true rfl⟩ rfl (Nat.le_of_ble_eq_true rfl) d_Ce_setRenewed_93 ⟨Nat.le_of_ble_eq_true rfl, Nat.le_of_ble_eq_true rfl⟩) X Y hA (fun z121 H locs Y p121 => ?_)
  obtain ⟨l121, u121⟩ := p121
  refine lv_ldc (v := (-4194305)) X.1 X.2.1 X.2.2.2.1 (X.2.2.1 _ cn_Ce_246) d_Ce_setRenewed_96 ?_
  refine t_eq (y := iI (-4194305)) (by decide) ?_
  refine lv_iand X.1 X.2.1 d_Ce_setRenewed_98 ?_
  refine t_u (fun z123 l123 u123 => ?_)
  refine t_put (ci := 4) X Y S k0 rfl i_Ce t_Ce t_Ce_ok n_Ce 13 (by decide) rfl lk_Ce_247 (fun _ h9 => h9) rfl (t_Ce_ok 13 (by decide)) rfl rfl ⟨_, rfl, (show ((-2147483648) : Int) ≤ z123 by omega), (show z123 ≤ (2147483647 : Int) by omega)⟩ (nF_of S k0 (by decide)) d_Ce_setRenewed_99 (fun f124 H locs Y S w124 => ?_)
  refine lv_lload X.1 X.2.1 d_Ce_setRenewed_102 (lv_at hl 0 rfl) ?_
  refine lv_aload_n X.1 X.2.1 d_Ce_setRenewed_104 rfl (lv_at hl 3 rfl) ?_
  refine t_get0 (ci := 4) X Y S k0 rfl i_Ce 0 (by decide) rfl lk_Ce_18 (fun _ h9 => h9) d_Ce_setRenewed_105 ((gF_put w124 (Or.inr (by decide))).trans ((gF_put w120 (Or.inr (by decide))).trans ((gF_put w119 (Or.inr (by decide))).trans e111))) ?_
  refine t_get0 (ci := 11) X Y S k111 rfl i_Va 0 (by decide) rfl lk_Ce_112 (fun _ h9 => h9) d_Ce_setRenewed_108 ((gF_put w124 (Or.inr (by decide))).trans ((gF_put w120 (Or.inr (by decide))).trans ((gF_put w119 (Or.inr (by decide))).trans e112))) ?_
  refine lv_i2l X.1 X.2.1 d_Ce_setRenewed_111 rfl ?_
  refine t_anyl (fun v125 => ?_)
  refine W.lcmp X.1 X.2.1 d_Ce_setRenewed_112 ?_
  refine t_u (fun z126 l126 u126 => ?_)
  refine z_if_gt (tgt := 121) X.1 X.2.1 d_Ce_setRenewed_113 (by decide) ⟨by omega, by omega⟩ (fun h127 => ?_) (fun h127 => ?_)
  · refine lv_iconst (v := iI 0) X.1 X.2.1 d_Ce_setRenewed_121 (by decide) ?_
    exact c_reti hQQ X Y hr hlk ⟨rfl, S, 0, rfl, ⟨by omega, by omega, (((gF_put w124 (Or.inr (by decide))).trans ((gF_put w120 (Or.inr (by decide))).trans ((gF_put w119 (Or.inr (by decide))).trans e3)))).trans e3.symm⟩⟩ d_Ce_setRenewed_122
  · refine lv_bipush (v := iI 11) X.1 X.2.1 d_Ce_setRenewed_116 (by decide) ?_
    refine lv_goto (tgt := 122) X.1 X.2.1 d_Ce_setRenewed_118 (by decide) ?_
    exact c_reti hQQ X Y hr hlk ⟨rfl, S, 11, rfl, ⟨by omega, by omega, (((gF_put w124 (Or.inr (by decide))).trans ((gF_put w120 (Or.inr (by decide))).trans ((gF_put w119 (Or.inr (by decide))).trans e3)))).trans e3.symm⟩⟩ d_Ce_setRenewed_122
set_option maxHeartbeats 4000000 in
set_option maxRecDepth 100000 in
theorem c_Ce_setTimes (l : Launch) (D : va_G) (E : cE) (T : cT) (κ : tK) (L : List Nat) (f : pF) (sz : Nat) (h : Nat) (k0 : κ h = (14, 0)) (hw : tW E T κ L f) : Met l y_Ce_setTimes (k_Ce_setTimes :: lw_tg) (kRm 6 176 0 0) (va_Pc [.ref h] (kPre D E T L f sz)) (va_Qi (nPi E T [14] κ L f (fun (z : Int) (g : pF) => (-2147483648) ≤ z ∧ z ≤ 2147483647 ∧ gF g h 3 = gF f h 3)) (cPost D E (pA L sz)) (pA L sz)) 0 0 (pA L sz) := by
  refine k_enter (own := R_Ce) (by decide) rfl (Nat.le_of_ble_eq_true rfl) (fun p e s m below meth c ls AV QQ H locs hQQ X Y hA hin hr hlk hml hl KS KR => ?_)
  have hl : lv_has ls 6 [(0, .ref h)] := hl
  have S : tS E T (tFr κ L [14] []) κ L f κ L f := tS_rf hw
  obtain ⟨tp, e3, ktp⟩ := t_tape S k0
  refine lv_aload_n X.1 X.2.1 d_Ce_setTimes_0 rfl (lv_at hl 0 rfl) ?_
  refine t_geti (ci := 4) X Y S k0 rfl i_Ce 6 (by decide) rfl lk_Ce_65 (fun _ h9 => h9) d_Ce_setTimes_1 (fun z101 e101 l101 u101 => ?_)
  have J102 : ∀  (H : Heap) (locs : List Loc) (ls : Array Slot), pH D cCl (pA L sz) s.heap L f H locs → tS E T (tFr κ L [14] []) κ L f κ L f → lv_has ls 6 [(0, .ref h)] → W p l e (kRm 6 176 0 0) s m AV below meth c H locs 0 0 QQ (F0 m 20 ls []) := by
    intro  H locs ls  Y S hl
    refine lv_aload_n X.1 X.2.1 d_Ce_setTimes_20 rfl (lv_at hl 0 rfl) ?_
    refine lv_iconst (v := iI 5) X.1 X.2.1 d_Ce_setTimes_21 (by decide) ?_
    refine t_ul (t_runV (As := [.int (iI 5)]) (rest := []) (n := 1) X Y S k0 hml hl.1 (c_Ce_timeAsked l D E T κ L f H.size h k0 5 (by omega) (by omega) S.1) (ok_k X Y hA KS KR) rfl kl_Ce_Ce_timeAsked ks_Ce_timeAsked kx_Ce_timeAsked ki_Ce_timeAsked ini_Ce ⟨rfl, rfl⟩ hd_Ce_timeAsked ⟨Nat.le_of_ble_eq_true rfl, Nat.le_of_ble_eq_true rfl⟩ rfl (Nat.le_of_ble_eq_true rfl) d_Ce_setTimes_22 ⟨Nat.le_of_ble_eq_true rfl, Nat.le_of_ble_eq_true rfl⟩) X Y hA (fun v106 H locs Y p106 => ?_)
    refine lv_lstore_n (lv' := [(1, .long v106), (0, .ref h)]) X.1 X.2.1 d_Ce_setTimes_25 rfl hl (by decide) rfl (fun ls hl => ?_)
    refine lv_lload_n X.1 X.2.1 d_Ce_setTimes_26 rfl (lv_at hl 0 rfl) ?_
    refine lv_aload_n X.1 X.2.1 d_Ce_setTimes_27 rfl (lv_at hl 1 rfl) ?_
    refine t_getr (ci := 4) X Y S k0 rfl i_Ce 0 (by decide) rfl (k1 := 21) (k2 := 0) rfl rfl lk_Ce_18 (fun _ h9 => h9) d_Ce_setTimes_28 (fun b107 e107 k107 => ?_)
    refine t_geti (ci := 11) X Y S k107 rfl i_Va 0 (by decide) rfl lk_Ce_112 (fun _ h9 => h9) d_Ce_setTimes_31 (fun z108 e108 l108 u108 => ?_)
    refine lv_i2l X.1 X.2.1 d_Ce_setTimes_34 rfl ?_
    refine t_anyl (fun v109 => ?_)
    refine lv_aload_n X.1 X.2.1 d_Ce_setTimes_35 rfl (lv_at hl 1 rfl) ?_
    refine t_getr (ci := 4) X Y S k0 rfl i_Ce 10 (by decide) rfl (k1 := 17) (k2 := 0) rfl rfl lk_Ce_37 (fun _ h9 => h9) d_Ce_setTimes_36 (fun b110 e110 k110 => ?_)
    refine t_geti (ci := 7) X Y S k110 rfl i_Pr 9 (by decide) rfl lk_Ce_217 (fun _ h9 => h9) d_Ce_setTimes_39 (fun z111 e111 l111 u111 => ?_)
    refine lv_aload_n X.1 X.2.1 d_Ce_setTimes_42 rfl (lv_at hl 1 rfl) ?_
    refine t_getr (ci := 4) X Y S k0 rfl i_Ce 11 (by decide) rfl (k1 := 17) (k2 := 0) rfl rfl lk_Ce_41 (fun _ h9 => h9) d_Ce_setTimes_43 (fun b112 e112 k112 => ?_)
    refine t_geti (ci := 7) X Y S k112 rfl i_Pr 9 (by decide) rfl lk_Ce_217 (fun _ h9 => h9) d_Ce_setTimes_46 (fun z113 e113 l113 u113 => ?_)
    refine z_min X.1 X.2.1 (hml.trans hl.1.symm) X.2.2.2.1 (X.2.2.1 _ kl_Ce_mmin) (X.2.2.1 _ ks_mmin) (X.2.2.1 _ ini_Math) (X.2.2.1 _ ki_mmin) (Nat.le_of_ble_eq_true rfl) (Nat.le_of_ble_eq_true rfl) (Nat.le_of_ble_eq_true rfl) (Nat.le_of_ble_eq_true rfl) ⟨by omega, by omega⟩ ⟨by omega, by omega⟩ d_Ce_setTimes_49 (fun z114 l114 u114 x114 => ?_)
    refine lv_i2l X.1 X.2.1 d_Ce_setTimes_52 rfl ?_
    refine t_anyl (fun v115 => ?_)
    refine lv_ladd X.1 X.2.1 d_Ce_setTimes_53 ?_
    refine t_anyl (fun v116 => ?_)
    refine va_mmin_long X.1 X.2.1 (hml.trans hl.1.symm) X.2.2.2.1 (X.2.2.1 _ kl_Ce_mmin_long) (X.2.2.1 _ ks_mmin_long) (X.2.2.1 _ ini_Math) (X.2.2.1 _ ki_mmin_long) (Nat.le_of_ble_eq_true rfl) (Nat.le_of_ble_eq_true rfl) (Nat.le_of_ble_eq_true rfl) (Nat.le_of_ble_eq_true rfl) d_Ce_setTimes_54 ?_
    refine t_anyl (fun v117 => ?_)
    refine lv_lstore_n (lv' := [(3, .long v117), (1, .long v106), (0, .ref h)]) X.1 X.2.1 d_Ce_setTimes_57 rfl hl (by decide) rfl (fun ls hl => ?_)
    refine lv_aload_n X.1 X.2.1 d_Ce_setTimes_58 rfl (lv_at hl 2 rfl) ?_
    refine t_get0 (ci := 4) X Y S k0 rfl i_Ce 6 (by decide) rfl lk_Ce_65 (fun _ h9 => h9) d_Ce_setTimes_59 e101 ?_
    have J119 : ∀ (v118 : Int64) (H : Heap) (locs : List Loc) (ls : Array Slot), pH D cCl (pA L sz) s.heap L f H locs → tS E T (tFr κ L [14] []) κ L f κ L f → lv_has ls 6 [(0, .ref h), (1, .long v106), (3, .long v118)] → W p l e (kRm 6 176 0 0) s m AV below meth c H locs 0 0 QQ (F0 m 94 ls []) := by
      intro v118 H locs ls  Y S hl
      refine lv_lload_n X.1 X.2.1 d_Ce_setTimes_94 rfl (lv_at hl 2 rfl) ?_
      refine lv_aload_n X.1 X.2.1 d_Ce_setTimes_95 rfl (lv_at hl 0 rfl) ?_
      refine t_get0 (ci := 4) X Y S k0 rfl i_Ce 0 (by decide) rfl lk_Ce_18 (fun _ h9 => h9) d_Ce_setTimes_96 e107 ?_
      refine t_get0 (ci := 11) X Y S k107 rfl i_Va 0 (by decide) rfl lk_Ce_112 (fun _ h9 => h9) d_Ce_setTimes_99 e108 ?_
      refine lv_i2l X.1 X.2.1 d_Ce_setTimes_102 rfl ?_
      refine t_anyl (fun v123 => ?_)
      refine W.lcmp X.1 X.2.1 d_Ce_setTimes_103 ?_
      refine t_u (fun z124 l124 u124 => ?_)
      refine z_if_gt (tgt := 110) X.1 X.2.1 d_Ce_setTimes_104 (by decide) ⟨by omega, by omega⟩ (fun h125 => ?_) (fun h125 => ?_)
      · refine lv_aload_n X.1 X.2.1 d_Ce_setTimes_110 rfl (lv_at hl 0 rfl) ?_
        refine lv_lload_n X.1 X.2.1 d_Ce_setTimes_111 rfl (lv_at hl 2 rfl) ?_
        refine lv_l2i X.1 X.2.1 d_Ce_setTimes_112 rfl ?_
        refine t_u (fun z126 l126 u126 => ?_)
        refine t_put (ci := 4) X Y S k0 rfl i_Ce t_Ce t_Ce_ok n_Ce 14 (by decide) rfl lk_Ce_226 (fun _ h9 => h9) rfl (t_Ce_ok 14 (by decide)) rfl rfl ⟨_, rfl, (show ((-2147483648) : Int) ≤ z126 by omega), (show z126 ≤ (2147483647 : Int) by omega)⟩ (nF_of S k0 (by decide)) d_Ce_setTimes_113 (fun f127 H locs Y S w127 => ?_)
        refine lv_aload_n X.1 X.2.1 d_Ce_setTimes_116 rfl (lv_at hl 0 rfl) ?_
        refine lv_bipush (v := iI 16) X.1 X.2.1 d_Ce_setTimes_117 (by decide) ?_
        refine t_ui (t_runV (As := [.int (iI 16)]) (rest := []) (n := 1) X Y S k0 hml hl.1 (c_Ce_asks l D E T κ L f127 H.size h k0 16 (by omega) (by omega) S.1) (ok_k X Y hA KS KR) rfl kl_Ce_Ce_asks ks_Ce_asks kx_Ce_asks ki_Ce_asks ini_Ce ⟨rfl, rfl⟩ hd_Ce_asks ⟨Nat.le_of_ble_eq_true rfl, Nat.le_of_ble_eq_true rfl⟩ rfl (Nat.le_of_ble_eq_true rfl) d_Ce_setTimes_119 ⟨Nat.le_of_ble_eq_true rfl, Nat.le_of_ble_eq_true rfl⟩) X Y hA (fun z128 H locs Y p128 => ?_)
        obtain ⟨l128, u128⟩ := p128
        have J129 : ∀  (H : Heap) (locs : List Loc) (ls : Array Slot), pH D cCl (pA L sz) s.heap L f127 H locs → tS E T (tFr κ L [14] []) κ L f κ L f127 → lv_has ls 6 [(0, .ref h), (1, .long v106)] → W p l e (kRm 6 176 0 0) s m AV below meth c H locs 0 0 QQ (F0 m 135 ls []) := by
          intro  H locs ls  Y S hl
          refine lv_iconst (v := iI 0) X.1 X.2.1 d_Ce_setTimes_135 (by decide) ?_
          refine lv_istore (lv' := [(5, .int (iI 0)), (0, .ref h), (1, .long v106)]) X.1 X.2.1 d_Ce_setTimes_136 hl (by decide) rfl (fun ls hl => ?_)
          refine lv_aload_n X.1 X.2.1 d_Ce_setTimes_138 rfl (lv_at hl 1 rfl) ?_
          refine lv_aload_n X.1 X.2.1 d_Ce_setTimes_139 rfl (lv_at hl 1 rfl) ?_
          refine lv_ldc (v := (8388608)) X.1 X.2.1 X.2.2.2.1 (X.2.2.1 _ cn_Ce_208) d_Ce_setTimes_140 ?_
          refine t_eq (y := iI 8388608) (by decide) ?_
          refine t_ui (t_runV (As := [.int (iI 8388608)]) (rest := [.ref h]) (n := 1) X Y S k0 hml hl.1 (c_Ce_asks l D E T κ L f127 H.size h k0 8388608 (by omega) (by omega) S.1) (ok_k X Y hA KS KR) rfl kl_Ce_Ce_asks ks_Ce_asks kx_Ce_asks ki_Ce_asks ini_Ce ⟨rfl, rfl⟩ hd_Ce_asks ⟨Nat.le_of_ble_eq_true rfl, Nat.le_of_ble_eq_true rfl⟩ rfl (Nat.le_of_ble_eq_true rfl) d_Ce_setTimes_142 ⟨Nat.le_of_ble_eq_true rfl, Nat.le_of_ble_eq_true rfl⟩) X Y hA (fun z133 H locs Y p133 => ?_)
          obtain ⟨l133, u133⟩ := p133
          have J135 : ∀ (z134 : Int) (H : Heap) (locs : List Loc) (ls : Array Slot), (0 ≤ z134) → (z134 ≤ 1) → pH D cCl (pA L sz) s.heap L f127 H locs → tS E T (tFr κ L [14] []) κ L f κ L f127 → lv_has ls 6 [(0, .ref h), (1, .long v106)] → W p l e (kRm 6 176 0 0) s m AV below meth c H locs 0 0 QQ (F0 m 158 ls [.int (iI z134), .ref h]) := by
            intro z134 H locs ls l134 u134 Y S hl
            refine t_nv (t_runV (As := [.int (iI z134)]) (rest := []) (n := 1) X Y S k0 hml hl.1 (c_Ce_setFlags l D E T κ L f127 H.size h k0 z134 (by omega) (by omega) S.1) (ok_k X Y hA KS KR) rfl kl_Ce_Ce_setFlags ks_Ce_setFlags kx_Ce_setFlags ki_Ce_setFlags ini_Ce ⟨rfl, rfl⟩ hd_Ce_setFlags ⟨Nat.le_of_ble_eq_true rfl, Nat.le_of_ble_eq_true rfl⟩ rfl (Nat.le_of_ble_eq_true rfl) d_Ce_setTimes_158 ⟨Nat.le_of_ble_eq_true rfl, Nat.le_of_ble_eq_true rfl⟩) X Y hA S (by decide) (fun f139 H locs Y S s139 p139 => ?_)
            have x139 := p139
            refine lv_aload_n X.1 X.2.1 d_Ce_setTimes_161 rfl (lv_at hl 0 rfl) ?_
            refine lv_aload_n X.1 X.2.1 d_Ce_setTimes_162 rfl (lv_at hl 0 rfl) ?_
            refine lv_ldc (v := (8388608)) X.1 X.2.1 X.2.2.2.1 (X.2.2.1 _ cn_Ce_208) d_Ce_setTimes_163 ?_
            refine t_eq (y := iI 8388608) (by decide) ?_
            refine t_ui (t_runV (As := [.int (iI 8388608)]) (rest := [.ref h]) (n := 1) X Y S k0 hml hl.1 (c_Ce_asks l D E T κ L f139 H.size h k0 8388608 (by omega) (by omega) S.1) (ok_k X Y hA KS KR) rfl kl_Ce_Ce_asks ks_Ce_asks kx_Ce_asks ki_Ce_asks ini_Ce ⟨rfl, rfl⟩ hd_Ce_asks ⟨Nat.le_of_ble_eq_true rfl, Nat.le_of_ble_eq_true rfl⟩ rfl (Nat.le_of_ble_eq_true rfl) d_Ce_setTimes_165 ⟨Nat.le_of_ble_eq_true rfl, Nat.le_of_ble_eq_true rfl⟩) X Y hA (fun z140 H locs Y p140 => ?_)
            obtain ⟨l140, u140⟩ := p140
            have J142 : ∀ (v141 : Int64) (H : Heap) (locs : List Loc) (ls : Array Slot), pH D cCl (pA L sz) s.heap L f139 H locs → tS E T (tFr κ L [14] []) κ L f κ L f139 → lv_has ls 6 [] → W p l e (kRm 6 176 0 0) s m AV below meth c H locs 0 0 QQ (F0 m 181 ls [.long v141, .ref h]) := by
              intro v141 H locs ls  Y S hl
              refine t_nv (t_runV (As := [.long v141]) (rest := []) (n := 1) X Y S k0 hml hl.1 (c_Ce_setRenewTill l D E T κ L f139 H.size h k0 v141 S.1) (ok_k X Y hA KS KR) rfl kl_Ce_Ce_setRenewTill ks_Ce_setRenewTill kx_Ce_setRenewTill ki_Ce_setRenewTill ini_Ce ⟨rfl, rfl⟩ hd_Ce_setRenewTill ⟨Nat.le_of_ble_eq_true rfl, Nat.le_of_ble_eq_true rfl⟩ rfl (Nat.le_of_ble_eq_true rfl) d_Ce_setTimes_181 ⟨Nat.le_of_ble_eq_true rfl, Nat.le_of_ble_eq_true rfl⟩) X Y hA S (by decide) (fun f146 H locs Y S s146 p146 => ?_)
              have x146 := p146
              refine lv_iconst (v := iI 0) X.1 X.2.1 d_Ce_setTimes_184 (by decide) ?_
              exact c_reti hQQ X Y hr hlk ⟨rfl, S, 0, rfl, ⟨by omega, by omega, ((x146.trans (x139.trans ((gF_put w127 (Or.inr (by decide))).trans e3)))).trans e3.symm⟩⟩ d_Ce_setTimes_185
            refine z_if_eq (tgt := 180) X.1 X.2.1 d_Ce_setTimes_168 (by decide) ⟨by omega, by omega⟩ (fun h147 => ?_) (fun h147 => ?_)
            · refine lv_lload_n X.1 X.2.1 d_Ce_setTimes_180 rfl (lv_at hl 1 rfl) ?_
              exact J142 v106 _ _ _  Y S (lv_sub hl [] rfl)
            · refine lv_aload_n X.1 X.2.1 d_Ce_setTimes_171 rfl (lv_at hl 0 rfl) ?_
              refine lv_bipush (v := iI 6) X.1 X.2.1 d_Ce_setTimes_172 (by decide) ?_
              refine t_ul (t_runV (As := [.int (iI 6)]) (rest := [.ref h]) (n := 1) X Y S k0 hml hl.1 (c_Ce_timeAsked l D E T κ L f139 H.size h k0 6 (by omega) (by omega) S.1) (ok_k X Y hA KS KR) rfl kl_Ce_Ce_timeAsked ks_Ce_timeAsked kx_Ce_timeAsked ki_Ce_timeAsked ini_Ce ⟨rfl, rfl⟩ hd_Ce_timeAsked ⟨Nat.le_of_ble_eq_true rfl, Nat.le_of_ble_eq_true rfl⟩ rfl (Nat.le_of_ble_eq_true rfl) d_Ce_setTimes_174 ⟨Nat.le_of_ble_eq_true rfl, Nat.le_of_ble_eq_true rfl⟩) X Y hA (fun v148 H locs Y p148 => ?_)
              refine lv_goto (tgt := 181) X.1 X.2.1 d_Ce_setTimes_177 (by decide) ?_
              exact J142 v148 _ _ _  Y S (lv_sub hl [] rfl)
          have J149 : ∀  (H : Heap) (locs : List Loc) (ls : Array Slot), pH D cCl (pA L sz) s.heap L f127 H locs → tS E T (tFr κ L [14] []) κ L f κ L f127 → lv_has ls 6 [(0, .ref h), (1, .long v106)] → W p l e (kRm 6 176 0 0) s m AV below meth c H locs 0 0 QQ (F0 m 153 ls [.ref h]) := by
            intro  H locs ls  Y S hl
            refine lv_iconst (v := iI 1) X.1 X.2.1 d_Ce_setTimes_153 (by decide) ?_
            refine lv_goto (tgt := 158) X.1 X.2.1 d_Ce_setTimes_154 (by decide) ?_
            exact J135 1 _ _ _ (by omega) (by omega) Y S (lv_sub hl [0, 1] rfl)
          refine z_if_ne (tgt := 153) X.1 X.2.1 d_Ce_setTimes_145 (by decide) ⟨by omega, by omega⟩ (fun h153 => ?_) (fun h153 => ?_)
          · exact J149  _ _ _  Y S (lv_sub hl [1, 2] rfl)
          · refine lv_iload X.1 X.2.1 d_Ce_setTimes_148 (lv_at hl 0 rfl) ?_
            refine z_if_eq (tgt := 157) X.1 X.2.1 d_Ce_setTimes_150 (by decide) ⟨by omega, by omega⟩ (fun h154 => ?_) (fun h154 => False.elim (by omega))
            · refine lv_iconst (v := iI 0) X.1 X.2.1 d_Ce_setTimes_157 (by decide) ?_
              exact J135 0 _ _ _ (by omega) (by omega) Y S (lv_sub hl [1, 2] rfl)
        refine z_if_eq (tgt := 135) X.1 X.2.1 d_Ce_setTimes_122 (by decide) ⟨by omega, by omega⟩ (fun h155 => ?_) (fun h155 => ?_)
        · exact J129  _ _ _  Y S (lv_sub hl [0, 1] rfl)
        · refine lv_lload_n X.1 X.2.1 d_Ce_setTimes_125 rfl (lv_at hl 1 rfl) ?_
          refine lv_lload_n X.1 X.2.1 d_Ce_setTimes_126 rfl (lv_at hl 2 rfl) ?_
          refine W.lcmp X.1 X.2.1 d_Ce_setTimes_127 ?_
          refine t_u (fun z156 l156 u156 => ?_)
          refine z_if_le (tgt := 135) X.1 X.2.1 d_Ce_setTimes_128 (by decide) ⟨by omega, by omega⟩ (fun h157 => ?_) (fun h157 => ?_)
          · exact J129  _ _ _  Y S (lv_sub hl [0, 1] rfl)
          · refine lv_iconst (v := iI 1) X.1 X.2.1 d_Ce_setTimes_131 (by decide) ?_
            refine lv_goto (tgt := 136) X.1 X.2.1 d_Ce_setTimes_132 (by decide) ?_
            refine lv_istore (lv' := [(5, .int (iI 1)), (0, .ref h), (1, .long v106), (3, .long v118)]) X.1 X.2.1 d_Ce_setTimes_136 hl (by decide) rfl (fun ls hl => ?_)
            refine lv_aload_n X.1 X.2.1 d_Ce_setTimes_138 rfl (lv_at hl 1 rfl) ?_
            refine lv_aload_n X.1 X.2.1 d_Ce_setTimes_139 rfl (lv_at hl 1 rfl) ?_
            refine lv_ldc (v := (8388608)) X.1 X.2.1 X.2.2.2.1 (X.2.2.1 _ cn_Ce_208) d_Ce_setTimes_140 ?_
            refine t_eq (y := iI 8388608) (by decide) ?_
            refine t_ui (t_runV (As := [.int (iI 8388608)]) (rest := [.ref h]) (n := 1) X Y S k0 hml hl.1 (c_Ce_asks l D E T κ L f127 H.size h k0 8388608 (by omega) (by omega) S.1) (ok_k X Y hA KS KR) rfl kl_Ce_Ce_asks ks_Ce_asks kx_Ce_asks ki_Ce_asks ini_Ce ⟨rfl, rfl⟩ hd_Ce_asks ⟨Nat.le_of_ble_eq_true rfl, Nat.le_of_ble_eq_true rfl⟩ rfl (Nat.le_of_ble_eq_true rfl) d_Ce_setTimes_142 ⟨Nat.le_of_ble_eq_true rfl, Nat.le_of_ble_eq_true rfl⟩) X Y hA (fun z158 H locs Y p158 => ?_)
            obtain ⟨l158, u158⟩ := p158
            have J159 : ∀  (H : Heap) (locs : List Loc) (ls : Array Slot), pH D cCl (pA L sz) s.heap L f127 H locs → tS E T (tFr κ L [14] []) κ L f κ L f127 → lv_has ls 6 [(0, .ref h), (1, .long v106)] → W p l e (kRm 6 176 0 0) s m AV below meth c H locs 0 0 QQ (F0 m 158 ls [.int (iI 1), .ref h]) := by
              intro  H locs ls  Y S hl
              refine t_nv (t_runV (As := [.int (iI 1)]) (rest := []) (n := 1) X Y S k0 hml hl.1 (c_Ce_setFlags l D E T κ L f127 H.size h k0 1 (by omega) (by omega) S.1) (ok_k X Y hA KS KR) rfl kl_Ce_Ce_setFlags ks_Ce_setFlags kx_Ce_setFlags ki_Ce_setFlags ini_Ce ⟨rfl, rfl⟩ hd_Ce_setFlags ⟨Nat.le_of_ble_eq_true rfl, Nat.le_of_ble_eq_true rfl⟩ rfl (Nat.le_of_ble_eq_true rfl) d_Ce_setTimes_158 ⟨Nat.le_of_ble_eq_true rfl, Nat.le_of_ble_eq_true rfl⟩) X Y hA S (by decide) (fun f163 H locs Y S s163 p163 => ?_)
              have x163 := p163
              refine lv_aload_n X.1 X.2.1 d_Ce_setTimes_161 rfl (lv_at hl 0 rfl) ?_
              refine lv_aload_n X.1 X.2.1 d_Ce_setTimes_162 rfl (lv_at hl 0 rfl) ?_
              refine lv_ldc (v := (8388608)) X.1 X.2.1 X.2.2.2.1 (X.2.2.1 _ cn_Ce_208) d_Ce_setTimes_163 ?_
              refine t_eq (y := iI 8388608) (by decide) ?_
              refine t_ui (t_runV (As := [.int (iI 8388608)]) (rest := [.ref h]) (n := 1) X Y S k0 hml hl.1 (c_Ce_asks l D E T κ L f163 H.size h k0 8388608 (by omega) (by omega) S.1) (ok_k X Y hA KS KR) rfl kl_Ce_Ce_asks ks_Ce_asks kx_Ce_asks ki_Ce_asks ini_Ce ⟨rfl, rfl⟩ hd_Ce_asks ⟨Nat.le_of_ble_eq_true rfl, Nat.le_of_ble_eq_true rfl⟩ rfl (Nat.le_of_ble_eq_true rfl) d_Ce_setTimes_165 ⟨Nat.le_of_ble_eq_true rfl, Nat.le_of_ble_eq_true rfl⟩) X Y hA (fun z164 H locs Y p164 => ?_)
              obtain ⟨l164, u164⟩ := p164
              have J166 : ∀ (v165 : Int64) (H : Heap) (locs : List Loc) (ls : Array Slot), pH D cCl (pA L sz) s.heap L f163 H locs → tS E T (tFr κ L [14] []) κ L f κ L f163 → lv_has ls 6 [] → W p l e (kRm 6 176 0 0) s m AV below meth c H locs 0 0 QQ (F0 m 181 ls [.long v165, .ref h]) := by
                intro v165 H locs ls  Y S hl
                refine t_nv (t_runV (As := [.long v165]) (rest := []) (n := 1) X Y S k0 hml hl.1 (c_Ce_setRenewTill l D E T κ L f163 H.size h k0 v165 S.1) (ok_k X Y hA KS KR) rfl kl_Ce_Ce_setRenewTill ks_Ce_setRenewTill kx_Ce_setRenewTill ki_Ce_setRenewTill ini_Ce ⟨rfl, rfl⟩ hd_Ce_setRenewTill ⟨Nat.le_of_ble_eq_true rfl, Nat.le_of_ble_eq_true rfl⟩ rfl (Nat.le_of_ble_eq_true rfl) d_Ce_setTimes_181 ⟨Nat.le_of_ble_eq_true rfl, Nat.le_of_ble_eq_true rfl⟩) X Y hA S (by decide) (fun f170 H locs Y S s170 p170 => ?_)
                have x170 := p170
                refine lv_iconst (v := iI 0) X.1 X.2.1 d_Ce_setTimes_184 (by decide) ?_
                exact c_reti hQQ X Y hr hlk ⟨rfl, S, 0, rfl, ⟨by omega, by omega, ((x170.trans (x163.trans ((gF_put w127 (Or.inr (by decide))).trans e3)))).trans e3.symm⟩⟩ d_Ce_setTimes_185
              refine z_if_eq (tgt := 180) X.1 X.2.1 d_Ce_setTimes_168 (by decide) ⟨by omega, by omega⟩ (fun h171 => ?_) (fun h171 => ?_)
              · refine lv_lload_n X.1 X.2.1 d_Ce_setTimes_180 rfl (lv_at hl 1 rfl) ?_
                exact J166 v106 _ _ _  Y S (lv_sub hl [] rfl)
              · refine lv_aload_n X.1 X.2.1 d_Ce_setTimes_171 rfl (lv_at hl 0 rfl) ?_
                refine lv_bipush (v := iI 6) X.1 X.2.1 d_Ce_setTimes_172 (by decide) ?_
                refine t_ul (t_runV (As := [.int (iI 6)]) (rest := [.ref h]) (n := 1) X Y S k0 hml hl.1 (c_Ce_timeAsked l D E T κ L f163 H.size h k0 6 (by omega) (by omega) S.1) (ok_k X Y hA KS KR) rfl kl_Ce_Ce_timeAsked ks_Ce_timeAsked kx_Ce_timeAsked ki_Ce_timeAsked ini_Ce ⟨rfl, rfl⟩ hd_Ce_timeAsked ⟨Nat.le_of_ble_eq_true rfl, Nat.le_of_ble_eq_true rfl⟩ rfl (Nat.le_of_ble_eq_true rfl) d_Ce_setTimes_174 ⟨Nat.le_of_ble_eq_true rfl, Nat.le_of_ble_eq_true rfl⟩) X Y hA (fun v172 H locs Y p172 => ?_)
                refine lv_goto (tgt := 181) X.1 X.2.1 d_Ce_setTimes_177 (by decide) ?_
                exact J166 v172 _ _ _  Y S (lv_sub hl [] rfl)
            have J173 : ∀  (H : Heap) (locs : List Loc) (ls : Array Slot), pH D cCl (pA L sz) s.heap L f127 H locs → tS E T (tFr κ L [14] []) κ L f κ L f127 → lv_has ls 6 [(0, .ref h), (1, .long v106)] → W p l e (kRm 6 176 0 0) s m AV below meth c H locs 0 0 QQ (F0 m 153 ls [.ref h]) := by
              intro  H locs ls  Y S hl
              refine lv_iconst (v := iI 1) X.1 X.2.1 d_Ce_setTimes_153 (by decide) ?_
              refine lv_goto (tgt := 158) X.1 X.2.1 d_Ce_setTimes_154 (by decide) ?_
              exact J159  _ _ _  Y S (lv_sub hl [0, 1] rfl)
            refine z_if_ne (tgt := 153) X.1 X.2.1 d_Ce_setTimes_145 (by decide) ⟨by omega, by omega⟩ (fun h177 => ?_) (fun h177 => ?_)
            · exact J173  _ _ _  Y S (lv_sub hl [1, 2] rfl)
            · refine lv_iload X.1 X.2.1 d_Ce_setTimes_148 (lv_at hl 0 rfl) ?_
              refine z_if_eq (tgt := 157) X.1 X.2.1 d_Ce_setTimes_150 (by decide) ⟨by omega, by omega⟩ (fun h178 => False.elim (by omega)) (fun h178 => ?_)
              · exact J173  _ _ _  Y S (lv_sub hl [1, 2] rfl)
      · refine lv_bipush (v := iI 11) X.1 X.2.1 d_Ce_setTimes_107 (by decide) ?_
        exact c_reti hQQ X Y hr hlk ⟨rfl, S, 11, rfl, ⟨by omega, by omega, (e3).trans e3.symm⟩⟩ d_Ce_setTimes_109
    refine z_if_ne (tgt := 94) X.1 X.2.1 d_Ce_setTimes_62 (by decide) ⟨by omega, by omega⟩ (fun h179 => ?_) (fun h179 => ?_)
    · exact J119 v117 _ _ _  Y S (lv_sub hl [2, 1, 0] rfl)
    · refine lv_lload_n X.1 X.2.1 d_Ce_setTimes_65 rfl (lv_at hl 0 rfl) ?_
      refine lv_aload_n X.1 X.2.1 d_Ce_setTimes_66 rfl (lv_at hl 2 rfl) ?_
      refine t_getr (ci := 4) X Y S k0 rfl i_Ce 1 (by decide) rfl (k1 := 15) (k2 := 0) rfl rfl lk_Ce_22 (fun _ h9 => h9) d_Ce_setTimes_67 (fun b180 e180 k180 => ?_)
      refine t_getr (ci := 5) X Y S k180 rfl i_Ga 1 (by decide) rfl (k1 := 13) (k2 := 4000) rfl rfl lk_Ce_140 (fun _ h9 => h9) d_Ce_setTimes_70 (fun b181 e181 k181 => ?_)
      refine lv_aload_n X.1 X.2.1 d_Ce_setTimes_73 rfl (lv_at hl 2 rfl) ?_
      refine t_get0 (ci := 4) X Y S k0 rfl i_Ce 1 (by decide) rfl lk_Ce_22 (fun _ h9 => h9) d_Ce_setTimes_74 e180 ?_
      refine t_get0 (ci := 5) X Y S k180 rfl i_Ga 1 (by decide) rfl lk_Ce_140 (fun _ h9 => h9) d_Ce_setTimes_77 e181 ?_
      refine lv_iconst (v := iI 0) X.1 X.2.1 d_Ce_setTimes_80 (by decide) ?_
      refine lv_bipush (v := iI 7) X.1 X.2.1 d_Ce_setTimes_81 (by decide) ?_
      refine t_ui (t_runV (As := [.int (iI 0), .int (iI 7)]) (rest := [.ref b181, .long v117]) (n := 2) X Y S k181 hml hl.1 (c_By_field l D E T κ L f H.size b181 4000 k181 (by omega) 0 (by omega) (by omega) 7 (by omega) (by omega) S.1) (ok_k X Y hA KS KR) rfl kl_Ce_By_field ks_By_field kx_By_field ki_By_field ini_By ⟨rfl, rfl⟩ hd_By_field ⟨Nat.le_of_ble_eq_true rfl, Nat.le_of_ble_eq_true rfl⟩ rfl (Nat.le_of_ble_eq_true rfl) d_Ce_setTimes_83 ⟨Nat.le_of_ble_eq_true rfl, Nat.le_of_ble_eq_true rfl⟩) X Y hA (fun z182 H locs Y p182 => ?_)
      obtain ⟨l182, u182⟩ := p182
      refine t_ui (t_runV (As := [.int (iI z182)]) (rest := [.long v117]) (n := 1) X Y S k181 hml hl.1 (c_By_timeAt l D E T κ L f H.size b181 4000 k181 (by omega) z182 (by omega) (by omega) S.1) (ok_k X Y hA KS KR) rfl kl_Ce_By_timeAt ks_By_timeAt kx_By_timeAt ki_By_timeAt ini_By ⟨rfl, rfl⟩ hd_By_timeAt ⟨Nat.le_of_ble_eq_true rfl, Nat.le_of_ble_eq_true rfl⟩ rfl (Nat.le_of_ble_eq_true rfl) d_Ce_setTimes_86 ⟨Nat.le_of_ble_eq_true rfl, Nat.le_of_ble_eq_true rfl⟩) X Y hA (fun z183 H locs Y p183 => ?_)
      obtain ⟨l183, u183⟩ := p183
      refine lv_i2l X.1 X.2.1 d_Ce_setTimes_89 rfl ?_
      refine t_anyl (fun v184 => ?_)
      refine va_mmin_long X.1 X.2.1 (hml.trans hl.1.symm) X.2.2.2.1 (X.2.2.1 _ kl_Ce_mmin_long) (X.2.2.1 _ ks_mmin_long) (X.2.2.1 _ ini_Math) (X.2.2.1 _ ki_mmin_long) (Nat.le_of_ble_eq_true rfl) (Nat.le_of_ble_eq_true rfl) (Nat.le_of_ble_eq_true rfl) (Nat.le_of_ble_eq_true rfl) d_Ce_setTimes_90 ?_
      refine t_anyl (fun v185 => ?_)
      refine lv_lstore_n (lv' := [(3, .long v185), (1, .long v106), (0, .ref h)]) X.1 X.2.1 d_Ce_setTimes_93 rfl hl (by decide) rfl (fun ls hl => ?_)
      exact J119 v185 _ _ _  Y S (lv_sub hl [2, 1, 0] rfl)
  refine z_if_ne (tgt := 20) X.1 X.2.1 d_Ce_setTimes_4 (by decide) ⟨by omega, by omega⟩ (fun h186 => ?_) (fun h186 => ?_)
  · exact J102  _ _ _  Y S (lv_sub hl [0] rfl)
  · refine lv_aload_n X.1 X.2.1 d_Ce_setTimes_7 rfl (lv_at hl 0 rfl) ?_
    refine lv_iconst (v := iI 2) X.1 X.2.1 d_Ce_setTimes_8 (by decide) ?_
    refine t_ui (t_runV (As := [.int (iI 2)]) (rest := []) (n := 1) X Y S k0 hml hl.1 (c_Ce_asks l D E T κ L f H.size h k0 2 (by omega) (by omega) S.1) (ok_k X Y hA KS KR) rfl kl_Ce_Ce_asks ks_Ce_asks kx_Ce_asks ki_Ce_asks ini_Ce ⟨rfl, rfl⟩ hd_Ce_asks ⟨Nat.le_of_ble_eq_true rfl, Nat.le_of_ble_eq_true rfl⟩ rfl (Nat.le_of_ble_eq_true rfl) d_Ce_setTimes_9 ⟨Nat.le_of_ble_eq_true rfl, Nat.le_of_ble_eq_true rfl⟩) X Y hA (fun z187 H locs Y p187 => ?_)
    obtain ⟨l187, u187⟩ := p187
    refine z_if_eq (tgt := 20) X.1 X.2.1 d_Ce_setTimes_12 (by decide) ⟨by omega, by omega⟩ (fun h188 => ?_) (fun h188 => ?_)
    · exact J102  _ _ _  Y S (lv_sub hl [0] rfl)
    · refine lv_aload_n X.1 X.2.1 d_Ce_setTimes_15 rfl (lv_at hl 0 rfl) ?_
      refine t_ni (t_runV (As := []) (rest := []) (n := 0) X Y S k0 hml hl.1 (c_Ce_setRenewed l D E T κ L f H.size h k0 S.1) (ok_k X Y hA KS KR) rfl kl_Ce_Ce_setRenewed ks_Ce_setRenewed kx_Ce_setRenewed ki_Ce_setRenewed ini_Ce ⟨rfl, rfl⟩ hd_Ce_setRenewed ⟨Nat.le_of_ble_eq_true rfl, Nat.le_of_ble_eq_true rfl⟩ rfl (Nat.le_of_ble_eq_true rfl) d_Ce_setTimes_16 ⟨Nat.le_of_ble_eq_true rfl, Nat.le_of_ble_eq_true rfl⟩) X Y hA S (by decide) (fun z189 f189 H locs Y S s189 p189 => ?_)
      obtain ⟨l189, u189, x189⟩ := p189
      exact c_reti hQQ X Y hr hlk ⟨rfl, S, z189, rfl, ⟨by omega, by omega, ((x189.trans e3)).trans e3.symm⟩⟩ d_Ce_setTimes_19
set_option maxHeartbeats 4000000 in
set_option maxRecDepth 100000 in
theorem c_Ce_judgeTgs (l : Launch) (D : va_G) (E : cE) (T : cT) (κ : tK) (L : List Nat) (f : pF) (sz : Nat) (h : Nat) (k0 : κ h = (14, 0)) (hw : tW E T κ L f) : Met l y_Ce_judgeTgs (k_Ce_judgeTgs :: lw_tg) (kRm 7 201 0 0) (va_Pc [.ref h] (kPre D E T L f sz)) (va_Qi (nPi E T [1, 2, 3, 4, 11, 14, 16] κ L f (fun (z : Int) (g : pF) => (-2147483648) ≤ z ∧ z ≤ 2147483647 ∧ gF g h 3 = gF f h 3)) (cPost D E (pA L sz)) (pA L sz)) 0 0 (pA L sz) := by
  refine k_enter (own := R_Ce) (by decide) rfl (Nat.le_of_ble_eq_true rfl) (fun p e s m below meth c ls AV QQ H locs hQQ X Y hA hin hr hlk hml hl KS KR => ?_)
  have hl : lv_has ls 2 [(0, .ref h)] := hl
  have S : tS E T (tFr κ L [1, 2, 3, 4, 11, 14, 16] []) κ L f κ L f := tS_rf hw
  obtain ⟨tp, e3, ktp⟩ := t_tape S k0
  refine lv_aload_n X.1 X.2.1 d_Ce_judgeTgs_0 rfl (lv_at hl 0 rfl) ?_
  refine t_ni (t_runV (As := []) (rest := []) (n := 0) X Y S k0 hml hl.1 (c_Ce_judgeSum l D E T κ L f H.size h k0 S.1) (ok_k X Y hA KS KR) rfl kl_Ce_Ce_judgeSum ks_Ce_judgeSum kx_Ce_judgeSum ki_Ce_judgeSum ini_Ce ⟨rfl, rfl⟩ hd_Ce_judgeSum ⟨Nat.le_of_ble_eq_true rfl, Nat.le_of_ble_eq_true rfl⟩ rfl (Nat.le_of_ble_eq_true rfl) d_Ce_judgeTgs_1 ⟨Nat.le_of_ble_eq_true rfl, Nat.le_of_ble_eq_true rfl⟩) X Y hA S (by decide) (fun z101 f101 H locs Y S s101 p101 => ?_)
  obtain ⟨l101, u101⟩ := p101
  refine lv_istore_n (lv' := [(1, .int (iI z101)), (0, .ref h)]) X.1 X.2.1 d_Ce_judgeTgs_4 rfl hl (by decide) rfl (fun ls hl => ?_)
  refine lv_iload_n X.1 X.2.1 d_Ce_judgeTgs_5 rfl (lv_at hl 0 rfl) ?_
  have J103 : ∀ (z102 : Int) (H : Heap) (locs : List Loc) (ls : Array Slot), ((-2147483648) ≤ z102) → (z102 ≤ 2147483647) → pH D cCl (pA L sz) s.heap L f101 H locs → tS E T (tFr κ L [1, 2, 3, 4, 11, 14, 16] []) κ L f κ L f101 → lv_has ls 2 [(0, .ref h), (1, .int (iI z102))] → W p l e (kRm 7 201 0 0) s m AV below meth c H locs 0 0 QQ (F0 m 17 ls []) := by
    intro z102 H locs ls l102 u102 Y S hl
    refine lv_iload_n X.1 X.2.1 d_Ce_judgeTgs_17 rfl (lv_at hl 1 rfl) ?_
    have J110 : ∀ (z108 : Int) (f107 : pF) (H : Heap) (locs : List Loc) (ls : Array Slot), ((-2147483648) ≤ z108) → (z108 ≤ 2147483647) → (gF f107 h 3 = .ref tp) → pH D cCl (pA L sz) s.heap L f107 H locs → tS E T (tFr κ L [1, 2, 3, 4, 11, 14, 16] []) κ L f κ L f107 → lv_has ls 2 [(0, .ref h), (1, .int (iI z108))] → W p l e (kRm 7 201 0 0) s m AV below meth c H locs 0 0 QQ (F0 m 45 ls []) := by
      intro z108 f107 H locs ls l108 u108 e109 Y S hl
      refine lv_iload_n X.1 X.2.1 d_Ce_judgeTgs_45 rfl (lv_at hl 1 rfl) ?_
      have J117 : ∀ (z115 : Int) (f114 : pF) (H : Heap) (locs : List Loc) (ls : Array Slot), ((-2147483648) ≤ z115) → (z115 ≤ 2147483647) → (gF f114 h 3 = .ref tp) → pH D cCl (pA L sz) s.heap L f114 H locs → tS E T (tFr κ L [1, 2, 3, 4, 11, 14, 16] []) κ L f κ L f114 → lv_has ls 2 [(0, .ref h), (1, .int (iI z115))] → W p l e (kRm 7 201 0 0) s m AV below meth c H locs 0 0 QQ (F0 m 54 ls []) := by
        intro z115 f114 H locs ls l115 u115 e116 Y S hl
        refine lv_iload_n X.1 X.2.1 d_Ce_judgeTgs_54 rfl (lv_at hl 1 rfl) ?_
        have J122 : ∀ (z121 : Int) (H : Heap) (locs : List Loc) (ls : Array Slot), ((-2147483648) ≤ z121) → (z121 ≤ 2147483647) → pH D cCl (pA L sz) s.heap L f114 H locs → tS E T (tFr κ L [1, 2, 3, 4, 11, 14, 16] []) κ L f κ L f114 → lv_has ls 2 [(0, .ref h), (1, .int (iI z121))] → W p l e (kRm 7 201 0 0) s m AV below meth c H locs 0 0 QQ (F0 m 63 ls []) := by
          intro z121 H locs ls l121 u121 Y S hl
          refine lv_iload_n X.1 X.2.1 d_Ce_judgeTgs_63 rfl (lv_at hl 1 rfl) ?_
          have J129 : ∀ (z127 : Int) (f126 : pF) (H : Heap) (locs : List Loc) (ls : Array Slot), ((-2147483648) ≤ z127) → (z127 ≤ 2147483647) → (gF f126 h 3 = .ref tp) → pH D cCl (pA L sz) s.heap L f126 H locs → tS E T (tFr κ L [1, 2, 3, 4, 11, 14, 16] []) κ L f κ L f126 → lv_has ls 2 [(0, .ref h), (1, .int (iI z127))] → W p l e (kRm 7 201 0 0) s m AV below meth c H locs 0 0 QQ (F0 m 77 ls []) := by
            intro z127 f126 H locs ls l127 u127 e128 Y S hl
            refine lv_iload_n X.1 X.2.1 d_Ce_judgeTgs_77 rfl (lv_at hl 1 rfl) ?_
            refine z_if_ne (tgt := 88) X.1 X.2.1 d_Ce_judgeTgs_78 (by decide) ⟨by omega, by omega⟩ (fun h133 => ?_) (fun h133 => ?_)
            · refine lv_iload_n X.1 X.2.1 d_Ce_judgeTgs_88 rfl (lv_at hl 1 rfl) ?_
              exact c_reti hQQ X Y hr hlk ⟨rfl, S, z127, rfl, ⟨by omega, by omega, (e128).trans e3.symm⟩⟩ d_Ce_judgeTgs_89
            · refine lv_aload_n X.1 X.2.1 d_Ce_judgeTgs_81 rfl (lv_at hl 0 rfl) ?_
              refine t_ni (t_runV (As := []) (rest := []) (n := 0) X Y S k0 hml hl.1 (c_Ce_setTimes l D E T κ L f126 H.size h k0 S.1) (ok_k X Y hA KS KR) rfl kl_Ce_Ce_setTimes ks_Ce_setTimes kx_Ce_setTimes ki_Ce_setTimes ini_Ce ⟨rfl, rfl⟩ hd_Ce_setTimes ⟨Nat.le_of_ble_eq_true rfl, Nat.le_of_ble_eq_true rfl⟩ rfl (Nat.le_of_ble_eq_true rfl) d_Ce_judgeTgs_82 ⟨Nat.le_of_ble_eq_true rfl, Nat.le_of_ble_eq_true rfl⟩) X Y hA S (by decide) (fun z134 f134 H locs Y S s134 p134 => ?_)
              obtain ⟨l134, u134, x134⟩ := p134
              refine lv_goto (tgt := 89) X.1 X.2.1 d_Ce_judgeTgs_85 (by decide) ?_
              exact c_reti hQQ X Y hr hlk ⟨rfl, S, z134, rfl, ⟨by omega, by omega, ((x134.trans e128)).trans e3.symm⟩⟩ d_Ce_judgeTgs_89
          refine z_if_ne (tgt := 77) X.1 X.2.1 d_Ce_judgeTgs_64 (by decide) ⟨by omega, by omega⟩ (fun h135 => ?_) (fun h135 => ?_)
          · exact J129 z121 f114 _ _ _ (by omega) (by omega) e116 Y S (lv_sub hl [0, 1] rfl)
          · refine lv_aload_n X.1 X.2.1 d_Ce_judgeTgs_67 rfl (lv_at hl 0 rfl) ?_
            refine t_ni (t_runV (As := []) (rest := []) (n := 0) X Y S k0 hml hl.1 (c_Ce_findType l D E T κ L f114 H.size h k0 S.1) (ok_k X Y hA KS KR) rfl kl_Ce_Ce_findType ks_Ce_findType kx_Ce_findType ki_Ce_findType ini_Ce ⟨rfl, rfl⟩ hd_Ce_findType ⟨Nat.le_of_ble_eq_true rfl, Nat.le_of_ble_eq_true rfl⟩ rfl (Nat.le_of_ble_eq_true rfl) d_Ce_judgeTgs_68 ⟨Nat.le_of_ble_eq_true rfl, Nat.le_of_ble_eq_true rfl⟩) X Y hA S (by decide) (fun z136 f136 H locs Y S s136 p136 => ?_)
            obtain ⟨l136, u136, x136⟩ := p136
            refine z_if_ne (tgt := 77) X.1 X.2.1 d_Ce_judgeTgs_71 (by decide) ⟨by omega, by omega⟩ (fun h137 => ?_) (fun h137 => ?_)
            · exact J129 z121 f136 _ _ _ (by omega) (by omega) (x136.trans e116) Y S (lv_sub hl [0, 1] rfl)
            · refine lv_bipush (v := iI 14) X.1 X.2.1 d_Ce_judgeTgs_74 (by decide) ?_
              refine lv_istore_n (lv' := [(1, .int (iI 14)), (0, .ref h)]) X.1 X.2.1 d_Ce_judgeTgs_76 rfl hl (by decide) rfl (fun ls hl => ?_)
              exact J129 14 f136 _ _ _ (by omega) (by omega) (x136.trans e116) Y S (lv_sub hl [1, 0] rfl)
        refine z_if_ne (tgt := 63) X.1 X.2.1 d_Ce_judgeTgs_55 (by decide) ⟨by omega, by omega⟩ (fun h138 => ?_) (fun h138 => ?_)
        · exact J122 z115 _ _ _ (by omega) (by omega) Y S (lv_sub hl [0, 1] rfl)
        · refine lv_aload_n X.1 X.2.1 d_Ce_judgeTgs_58 rfl (lv_at hl 0 rfl) ?_
          refine t_ui (t_runV (As := []) (rest := []) (n := 0) X Y S k0 hml hl.1 (c_Ce_judgeWishes l D E T κ L f114 H.size h k0 S.1) (ok_k X Y hA KS KR) rfl kl_Ce_Ce_judgeWishes ks_Ce_judgeWishes kx_Ce_judgeWishes ki_Ce_judgeWishes ini_Ce ⟨rfl, rfl⟩ hd_Ce_judgeWishes ⟨Nat.le_of_ble_eq_true rfl, Nat.le_of_ble_eq_true rfl⟩ rfl (Nat.le_of_ble_eq_true rfl) d_Ce_judgeTgs_59 ⟨Nat.le_of_ble_eq_true rfl, Nat.le_of_ble_eq_true rfl⟩) X Y hA (fun z139 H locs Y p139 => ?_)
          obtain ⟨l139, u139⟩ := p139
          refine lv_istore_n (lv' := [(1, .int (iI z139)), (0, .ref h)]) X.1 X.2.1 d_Ce_judgeTgs_62 rfl hl (by decide) rfl (fun ls hl => ?_)
          exact J122 z139 _ _ _ (by omega) (by omega) Y S (lv_sub hl [1, 0] rfl)
      refine z_if_ne (tgt := 54) X.1 X.2.1 d_Ce_judgeTgs_46 (by decide) ⟨by omega, by omega⟩ (fun h140 => ?_) (fun h140 => ?_)
      · exact J117 z108 f107 _ _ _ (by omega) (by omega) e109 Y S (lv_sub hl [0, 1] rfl)
      · refine lv_aload_n X.1 X.2.1 d_Ce_judgeTgs_49 rfl (lv_at hl 0 rfl) ?_
        refine t_ni (t_runV (As := []) (rest := []) (n := 0) X Y S k0 hml hl.1 (c_Ce_judgeService l D E T κ L f107 H.size h k0 S.1) (ok_k X Y hA KS KR) rfl kl_Ce_Ce_judgeService ks_Ce_judgeService kx_Ce_judgeService ki_Ce_judgeService ini_Ce ⟨rfl, rfl⟩ hd_Ce_judgeService ⟨Nat.le_of_ble_eq_true rfl, Nat.le_of_ble_eq_true rfl⟩ rfl (Nat.le_of_ble_eq_true rfl) d_Ce_judgeTgs_50 ⟨Nat.le_of_ble_eq_true rfl, Nat.le_of_ble_eq_true rfl⟩) X Y hA S (by decide) (fun z141 f141 H locs Y S s141 p141 => ?_)
        obtain ⟨l141, u141, x141⟩ := p141
        refine lv_istore_n (lv' := [(1, .int (iI z141)), (0, .ref h)]) X.1 X.2.1 d_Ce_judgeTgs_53 rfl hl (by decide) rfl (fun ls hl => ?_)
        exact J117 z141 f141 _ _ _ (by omega) (by omega) (x141.trans e109) Y S (lv_sub hl [1, 0] rfl)
    refine z_if_ne (tgt := 45) X.1 X.2.1 d_Ce_judgeTgs_18 (by decide) ⟨by omega, by omega⟩ (fun h142 => ?_) (fun h142 => ?_)
    · exact J110 z102 f101 _ _ _ (by omega) (by omega) ((gF_same (s101.2.2.2 _ ⟨(t_obj S.1 k0).1, nM_of k0 (by decide), by simp⟩).1 3).trans e3) Y S (lv_sub hl [0, 1] rfl)
    · refine lv_aload_n X.1 X.2.1 d_Ce_judgeTgs_21 rfl (lv_at hl 0 rfl) ?_
      refine lv_aload_n X.1 X.2.1 d_Ce_judgeTgs_22 rfl (lv_at hl 0 rfl) ?_
      refine t_getr (ci := 4) X Y S k0 rfl i_Ce 1 (by decide) rfl (k1 := 15) (k2 := 0) rfl rfl lk_Ce_22 (fun _ h9 => h9) d_Ce_judgeTgs_23 (fun b143 e143 k143 => ?_)
      refine t_getr (ci := 5) X Y S k143 rfl i_Ga 1 (by decide) rfl (k1 := 13) (k2 := 4000) rfl rfl lk_Ce_140 (fun _ h9 => h9) d_Ce_judgeTgs_26 (fun b144 e144 k144 => ?_)
      refine lv_aload_n X.1 X.2.1 d_Ce_judgeTgs_29 rfl (lv_at hl 0 rfl) ?_
      refine t_get0 (ci := 4) X Y S k0 rfl i_Ce 1 (by decide) rfl lk_Ce_22 (fun _ h9 => h9) d_Ce_judgeTgs_30 e143 ?_
      refine t_get0 (ci := 5) X Y S k143 rfl i_Ga 1 (by decide) rfl lk_Ce_140 (fun _ h9 => h9) d_Ce_judgeTgs_33 e144 ?_
      refine lv_iconst (v := iI 0) X.1 X.2.1 d_Ce_judgeTgs_36 (by decide) ?_
      refine lv_iconst (v := iI 3) X.1 X.2.1 d_Ce_judgeTgs_37 (by decide) ?_
      refine t_ui (t_runV (As := [.int (iI 0), .int (iI 3)]) (rest := [.ref b144, .ref h]) (n := 2) X Y S k144 hml hl.1 (c_By_field l D E T κ L f101 H.size b144 4000 k144 (by omega) 0 (by omega) (by omega) 3 (by omega) (by omega) S.1) (ok_k X Y hA KS KR) rfl kl_Ce_By_field ks_By_field kx_By_field ki_By_field ini_By ⟨rfl, rfl⟩ hd_By_field ⟨Nat.le_of_ble_eq_true rfl, Nat.le_of_ble_eq_true rfl⟩ rfl (Nat.le_of_ble_eq_true rfl) d_Ce_judgeTgs_38 ⟨Nat.le_of_ble_eq_true rfl, Nat.le_of_ble_eq_true rfl⟩) X Y hA (fun z145 H locs Y p145 => ?_)
      obtain ⟨l145, u145⟩ := p145
      refine t_ni (t_runV (As := [.ref b144, .int (iI z145)]) (rest := []) (n := 2) X Y S k0 hml hl.1 (c_Ce_judgeClient l D E T κ L f101 H.size h k0 b144 4000 k144 (by omega) z145 (by omega) (by omega) S.1) (ok_k X Y hA KS KR) rfl kl_Ce_Ce_judgeClient ks_Ce_judgeClient kx_Ce_judgeClient ki_Ce_judgeClient ini_Ce ⟨rfl, rfl⟩ hd_Ce_judgeClient ⟨Nat.le_of_ble_eq_true rfl, Nat.le_of_ble_eq_true rfl⟩ rfl (Nat.le_of_ble_eq_true rfl) d_Ce_judgeTgs_41 ⟨Nat.le_of_ble_eq_true rfl, Nat.le_of_ble_eq_true rfl⟩) X Y hA S (by decide) (fun z146 f146 H locs Y S s146 p146 => ?_)
      obtain ⟨l146, u146, x146⟩ := p146
      refine lv_istore_n (lv' := [(1, .int (iI z146)), (0, .ref h)]) X.1 X.2.1 d_Ce_judgeTgs_44 rfl hl (by decide) rfl (fun ls hl => ?_)
      exact J110 z146 f146 _ _ _ (by omega) (by omega) (x146.trans ((gF_same (s101.2.2.2 _ ⟨(t_obj S.1 k0).1, nM_of k0 (by decide), by simp⟩).1 3).trans e3)) Y S (lv_sub hl [1, 0] rfl)
  refine z_if_ne (tgt := 17) X.1 X.2.1 d_Ce_judgeTgs_6 (by decide) ⟨by omega, by omega⟩ (fun h147 => ?_) (fun h147 => ?_)
  · exact J103 z101 _ _ _ (by omega) (by omega) Y S (lv_sub hl [1, 0] rfl)
  · refine lv_aload_n X.1 X.2.1 d_Ce_judgeTgs_9 rfl (lv_at hl 1 rfl) ?_
    refine t_getr (ci := 4) X Y S k0 rfl i_Ce 1 (by decide) rfl (k1 := 15) (k2 := 0) rfl rfl lk_Ce_22 (fun _ h9 => h9) d_Ce_judgeTgs_10 (fun b148 e148 k148 => ?_)
    refine t_ui (t_runV (As := []) (rest := []) (n := 0) X Y S k148 hml hl.1 (c_Ga_judgeTimes l D E T κ L f101 H.size b148 k148 S.1) (ok_k X Y hA KS KR) rfl kl_Ce_Ga_judgeTimes ks_Ga_judgeTimes kx_Ga_judgeTimes ki_Ga_judgeTimes ini_Ga ⟨rfl, rfl⟩ hd_Ga_judgeTimes ⟨Nat.le_of_ble_eq_true rfl, Nat.le_of_ble_eq_true rfl⟩ rfl (Nat.le_of_ble_eq_true rfl) d_Ce_judgeTgs_13 ⟨Nat.le_of_ble_eq_true rfl, Nat.le_of_ble_eq_true rfl⟩) X Y hA (fun z149 H locs Y p149 => ?_)
    obtain ⟨l149, u149⟩ := p149
    refine lv_istore_n (lv' := [(1, .int (iI z149)), (0, .ref h)]) X.1 X.2.1 d_Ce_judgeTgs_16 rfl hl (by decide) rfl (fun ls hl => ?_)
    exact J103 z149 _ _ _ (by omega) (by omega) Y S (lv_sub hl [1, 0] rfl)
set_option maxHeartbeats 4000000 in
set_option maxRecDepth 100000 in
theorem c_Ce_putClient (l : Launch) (D : va_G) (E : cE) (T : cT) (κ : tK) (L : List Nat) (f : pF) (sz : Nat) (h : Nat) (k0 : κ h = (14, 0)) (a1 n1 : Nat) (k1 : κ a1 = (13, n1)) (x1 : n1 ≤ 12288) (a2 : Int) (l_a2 : 0 ≤ a2) (u_a2 : a2 ≤ 64) (hw : tW E T κ L f) : Met l y_Ce_putClient (k_Ce_putClient :: lw_tg) (kRm 4 127 0 0) (va_Pc [.ref h, .ref a1, .int (iI a2)] (kPre D E T L f sz)) (va_Qv (nPv E T [1, 13] κ L f (fun (g : pF) => True)) (cPost D E (pA L sz)) (pA L sz)) 0 0 (pA L sz) := by
  refine k_enter (own := R_Ce) (by decide) rfl (Nat.le_of_ble_eq_true rfl) (fun p e s m below meth c ls AV QQ H locs hQQ X Y hA hin hr hlk hml hl KS KR => ?_)
  have hl : lv_has ls 3 [(0, .ref h), (1, .ref a1), (2, .int (iI a2))] := hl
  have S : tS E T (tFr κ L [1, 13] []) κ L f κ L f := tS_rf hw
  refine lv_aload_n X.1 X.2.1 d_Ce_putClient_0 rfl (lv_at hl 0 rfl) ?_
  refine t_geti (ci := 4) X Y S k0 rfl i_Ce 6 (by decide) rfl lk_Ce_65 (fun _ h9 => h9) d_Ce_putClient_1 (fun z101 e101 l101 u101 => ?_)
  refine z_if_eq (tgt := 31) X.1 X.2.1 d_Ce_putClient_4 (by decide) ⟨by omega, by omega⟩ (fun h102 => ?_) (fun h102 => ?_)
  · refine lv_aload_n X.1 X.2.1 d_Ce_putClient_31 rfl (lv_at hl 1 rfl) ?_
    refine lv_iload_n X.1 X.2.1 d_Ce_putClient_32 rfl (lv_at hl 2 rfl) ?_
    refine lv_aload_n X.1 X.2.1 d_Ce_putClient_33 rfl (lv_at hl 0 rfl) ?_
    refine t_getr (ci := 4) X Y S k0 rfl i_Ce 1 (by decide) rfl (k1 := 15) (k2 := 0) rfl rfl lk_Ce_22 (fun _ h9 => h9) d_Ce_putClient_34 (fun b103 e103 k103 => ?_)
    refine t_getr (ci := 5) X Y S k103 rfl i_Ga 1 (by decide) rfl (k1 := 13) (k2 := 4000) rfl rfl lk_Ce_140 (fun _ h9 => h9) d_Ce_putClient_37 (fun b104 e104 k104 => ?_)
    refine lv_aload_n X.1 X.2.1 d_Ce_putClient_40 rfl (lv_at hl 0 rfl) ?_
    refine t_get0 (ci := 4) X Y S k0 rfl i_Ce 1 (by decide) rfl lk_Ce_22 (fun _ h9 => h9) d_Ce_putClient_41 e103 ?_
    refine t_get0 (ci := 5) X Y S k103 rfl i_Ga 1 (by decide) rfl lk_Ce_140 (fun _ h9 => h9) d_Ce_putClient_44 e104 ?_
    refine lv_iconst (v := iI 0) X.1 X.2.1 d_Ce_putClient_47 (by decide) ?_
    refine lv_iconst (v := iI 3) X.1 X.2.1 d_Ce_putClient_48 (by decide) ?_
    refine t_ui (t_runV (As := [.int (iI 0), .int (iI 3)]) (rest := [.ref b104, .int (iI a2), .ref a1]) (n := 2) X Y S k104 hml hl.1 (c_By_field l D E T κ L f H.size b104 4000 k104 (by omega) 0 (by omega) (by omega) 3 (by omega) (by omega) S.1) (ok_k X Y hA KS KR) rfl kl_Ce_By_field ks_By_field kx_By_field ki_By_field ini_By ⟨rfl, rfl⟩ hd_By_field ⟨Nat.le_of_ble_eq_true rfl, Nat.le_of_ble_eq_true rfl⟩ rfl (Nat.le_of_ble_eq_true rfl) d_Ce_putClient_49 ⟨Nat.le_of_ble_eq_true rfl, Nat.le_of_ble_eq_true rfl⟩) X Y hA (fun z105 H locs Y p105 => ?_)
    obtain ⟨l105, u105⟩ := p105
    refine t_nv (t_runV (As := [.int (iI a2), .ref b104, .int (iI z105)]) (rest := []) (n := 3) X Y S k1 hml hl.1 (c_By_putCopy l D E T κ L f H.size a1 n1 k1 (by omega) a2 (by omega) (by omega) b104 4000 k104 (by omega) z105 (by omega) (by omega) S.1) (ok_k X Y hA KS KR) rfl kl_Ce_By_putCopy ks_By_putCopy kx_By_putCopy ki_By_putCopy ini_By ⟨rfl, rfl⟩ hd_By_putCopy ⟨Nat.le_of_ble_eq_true rfl, Nat.le_of_ble_eq_true rfl⟩ rfl (Nat.le_of_ble_eq_true rfl) d_Ce_putClient_52 ⟨Nat.le_of_ble_eq_true rfl, Nat.le_of_ble_eq_true rfl⟩) X Y hA S (by decide) (fun f106 H locs Y S s106 p106 => ?_)
    exact c_retv hQQ X Y hr hlk ⟨rfl, S, trivial⟩ d_Ce_putClient_55
  · refine lv_aload_n X.1 X.2.1 d_Ce_putClient_7 rfl (lv_at hl 1 rfl) ?_
    refine lv_iload_n X.1 X.2.1 d_Ce_putClient_8 rfl (lv_at hl 2 rfl) ?_
    refine lv_aload_n X.1 X.2.1 d_Ce_putClient_9 rfl (lv_at hl 0 rfl) ?_
    refine t_getr (ci := 4) X Y S k0 rfl i_Ce 3 (by decide) rfl (k1 := 13) (k2 := 4000) rfl rfl lk_Ce_30 (fun _ h9 => h9) d_Ce_putClient_10 (fun b107 e107 k107 => ?_)
    refine lv_aload_n X.1 X.2.1 d_Ce_putClient_13 rfl (lv_at hl 0 rfl) ?_
    refine t_get0 (ci := 4) X Y S k0 rfl i_Ce 3 (by decide) rfl lk_Ce_30 (fun _ h9 => h9) d_Ce_putClient_14 e107 ?_
    refine lv_aload_n X.1 X.2.1 d_Ce_putClient_17 rfl (lv_at hl 0 rfl) ?_
    refine t_geti (ci := 4) X Y S k0 rfl i_Ce 8 (by decide) rfl lk_Ce_81 (fun _ h9 => h9) d_Ce_putClient_18 (fun z108 e108 l108 u108 => ?_)
    refine lv_iconst (v := iI 1) X.1 X.2.1 d_Ce_putClient_21 (by decide) ?_
    refine t_ui (t_runV (As := [.int (iI z108), .int (iI 1)]) (rest := [.ref b107, .int (iI a2), .ref a1]) (n := 2) X Y S k107 hml hl.1 (c_By_field l D E T κ L f H.size b107 4000 k107 (by omega) z108 (by omega) (by omega) 1 (by omega) (by omega) S.1) (ok_k X Y hA KS KR) rfl kl_Ce_By_field ks_By_field kx_By_field ki_By_field ini_By ⟨rfl, rfl⟩ hd_By_field ⟨Nat.le_of_ble_eq_true rfl, Nat.le_of_ble_eq_true rfl⟩ rfl (Nat.le_of_ble_eq_true rfl) d_Ce_putClient_22 ⟨Nat.le_of_ble_eq_true rfl, Nat.le_of_ble_eq_true rfl⟩) X Y hA (fun z109 H locs Y p109 => ?_)
    obtain ⟨l109, u109⟩ := p109
    refine t_nv (t_runV (As := [.int (iI a2), .ref b107, .int (iI z109)]) (rest := []) (n := 3) X Y S k1 hml hl.1 (c_By_putCopy l D E T κ L f H.size a1 n1 k1 (by omega) a2 (by omega) (by omega) b107 4000 k107 (by omega) z109 (by omega) (by omega) S.1) (ok_k X Y hA KS KR) rfl kl_Ce_By_putCopy ks_By_putCopy kx_By_putCopy ki_By_putCopy ini_By ⟨rfl, rfl⟩ hd_By_putCopy ⟨Nat.le_of_ble_eq_true rfl, Nat.le_of_ble_eq_true rfl⟩ rfl (Nat.le_of_ble_eq_true rfl) d_Ce_putClient_25 ⟨Nat.le_of_ble_eq_true rfl, Nat.le_of_ble_eq_true rfl⟩) X Y hA S (by decide) (fun f110 H locs Y S s110 p110 => ?_)
    refine lv_goto (tgt := 55) X.1 X.2.1 d_Ce_putClient_28 (by decide) ?_
    exact c_retv hQQ X Y hr hlk ⟨rfl, S, trivial⟩ d_Ce_putClient_55
set_option maxHeartbeats 4000000 in
set_option maxRecDepth 100000 in
theorem c_Ce_putAddresses (l : Launch) (D : va_G) (E : cE) (T : cT) (κ : tK) (L : List Nat) (f : pF) (sz : Nat) (h : Nat) (k0 : κ h = (14, 0)) (a1 n1 : Nat) (k1 : κ a1 = (13, n1)) (x1 : n1 ≤ 12288) (a2 : Int) (l_a2 : 0 ≤ a2) (u_a2 : a2 ≤ 64) (hw : tW E T κ L f) : Met l y_Ce_putAddresses (k_Ce_putAddresses :: lw_tg) (kRm 4 127 0 0) (va_Pc [.ref h, .ref a1, .int (iI a2)] (kPre D E T L f sz)) (va_Qv (nPv E T [1, 13] κ L f (fun (g : pF) => True)) (cPost D E (pA L sz)) (pA L sz)) 0 0 (pA L sz) := by
  refine k_enter (own := R_Ce) (by decide) rfl (Nat.le_of_ble_eq_true rfl) (fun p e s m below meth c ls AV QQ H locs hQQ X Y hA hin hr hlk hml hl KS KR => ?_)
  have hl : lv_has ls 3 [(0, .ref h), (1, .ref a1), (2, .int (iI a2))] := hl
  have S : tS E T (tFr κ L [1, 13] []) κ L f κ L f := tS_rf hw
  refine lv_aload_n X.1 X.2.1 d_Ce_putAddresses_0 rfl (lv_at hl 0 rfl) ?_
  refine t_geti (ci := 4) X Y S k0 rfl i_Ce 6 (by decide) rfl lk_Ce_65 (fun _ h9 => h9) d_Ce_putAddresses_1 (fun z101 e101 l101 u101 => ?_)
  have J102 : ∀  (H : Heap) (locs : List Loc) (ls : Array Slot), pH D cCl (pA L sz) s.heap L f H locs → tS E T (tFr κ L [1, 13] []) κ L f κ L f → lv_has ls 3 [(0, .ref h), (1, .ref a1), (2, .int (iI a2))] → W p l e (kRm 4 127 0 0) s m AV below meth c H locs 0 0 QQ (F0 m 17 ls []) := by
    intro  H locs ls  Y S hl
    refine lv_aload_n X.1 X.2.1 d_Ce_putAddresses_17 rfl (lv_at hl 1 rfl) ?_
    refine lv_iload_n X.1 X.2.1 d_Ce_putAddresses_18 rfl (lv_at hl 2 rfl) ?_
    refine lv_aload_n X.1 X.2.1 d_Ce_putAddresses_19 rfl (lv_at hl 0 rfl) ?_
    refine t_getr (ci := 4) X Y S k0 rfl i_Ce 3 (by decide) rfl (k1 := 13) (k2 := 4000) rfl rfl lk_Ce_30 (fun _ h9 => h9) d_Ce_putAddresses_20 (fun b106 e106 k106 => ?_)
    refine lv_aload_n X.1 X.2.1 d_Ce_putAddresses_23 rfl (lv_at hl 0 rfl) ?_
    refine t_get0 (ci := 4) X Y S k0 rfl i_Ce 3 (by decide) rfl lk_Ce_30 (fun _ h9 => h9) d_Ce_putAddresses_24 e106 ?_
    refine lv_aload_n X.1 X.2.1 d_Ce_putAddresses_27 rfl (lv_at hl 0 rfl) ?_
    refine t_geti (ci := 4) X Y S k0 rfl i_Ce 8 (by decide) rfl lk_Ce_81 (fun _ h9 => h9) d_Ce_putAddresses_28 (fun z107 e107 l107 u107 => ?_)
    refine lv_bipush (v := iI 9) X.1 X.2.1 d_Ce_putAddresses_31 (by decide) ?_
    refine t_ui (t_runV (As := [.int (iI z107), .int (iI 9)]) (rest := [.ref b106, .int (iI a2), .ref a1]) (n := 2) X Y S k106 hml hl.1 (c_By_field l D E T κ L f H.size b106 4000 k106 (by omega) z107 (by omega) (by omega) 9 (by omega) (by omega) S.1) (ok_k X Y hA KS KR) rfl kl_Ce_By_field ks_By_field kx_By_field ki_By_field ini_By ⟨rfl, rfl⟩ hd_By_field ⟨Nat.le_of_ble_eq_true rfl, Nat.le_of_ble_eq_true rfl⟩ rfl (Nat.le_of_ble_eq_true rfl) d_Ce_putAddresses_33 ⟨Nat.le_of_ble_eq_true rfl, Nat.le_of_ble_eq_true rfl⟩) X Y hA (fun z108 H locs Y p108 => ?_)
    obtain ⟨l108, u108⟩ := p108
    refine t_nv (t_runV (As := [.int (iI a2), .ref b106, .int (iI z108)]) (rest := []) (n := 3) X Y S k1 hml hl.1 (c_By_putCopy l D E T κ L f H.size a1 n1 k1 (by omega) a2 (by omega) (by omega) b106 4000 k106 (by omega) z108 (by omega) (by omega) S.1) (ok_k X Y hA KS KR) rfl kl_Ce_By_putCopy ks_By_putCopy kx_By_putCopy ki_By_putCopy ini_By ⟨rfl, rfl⟩ hd_By_putCopy ⟨Nat.le_of_ble_eq_true rfl, Nat.le_of_ble_eq_true rfl⟩ rfl (Nat.le_of_ble_eq_true rfl) d_Ce_putAddresses_36 ⟨Nat.le_of_ble_eq_true rfl, Nat.le_of_ble_eq_true rfl⟩) X Y hA S (by decide) (fun f109 H locs Y S s109 p109 => ?_)
    refine lv_goto (tgt := 67) X.1 X.2.1 d_Ce_putAddresses_39 (by decide) ?_
    exact c_retv hQQ X Y hr hlk ⟨rfl, S, trivial⟩ d_Ce_putAddresses_67
  refine z_if_ne (tgt := 17) X.1 X.2.1 d_Ce_putAddresses_4 (by decide) ⟨by omega, by omega⟩ (fun h110 => ?_) (fun h110 => ?_)
  · exact J102  _ _ _  Y S (lv_sub hl [0, 1, 2] rfl)
  · refine lv_aload_n X.1 X.2.1 d_Ce_putAddresses_7 rfl (lv_at hl 0 rfl) ?_
    refine lv_ldcw (v := (671088640)) X.1 X.2.1 X.2.2.2.1 (X.2.2.1 _ cn_Ce_257) d_Ce_putAddresses_8 ?_
    refine t_eq (y := iI 671088640) (by decide) ?_
    refine t_ui (t_runV (As := [.int (iI 671088640)]) (rest := []) (n := 1) X Y S k0 hml hl.1 (c_Ce_asks l D E T κ L f H.size h k0 671088640 (by omega) (by omega) S.1) (ok_k X Y hA KS KR) rfl kl_Ce_Ce_asks ks_Ce_asks kx_Ce_asks ki_Ce_asks ini_Ce ⟨rfl, rfl⟩ hd_Ce_asks ⟨Nat.le_of_ble_eq_true rfl, Nat.le_of_ble_eq_true rfl⟩ rfl (Nat.le_of_ble_eq_true rfl) d_Ce_putAddresses_11 ⟨Nat.le_of_ble_eq_true rfl, Nat.le_of_ble_eq_true rfl⟩) X Y hA (fun z111 H locs Y p111 => ?_)
    obtain ⟨l111, u111⟩ := p111
    refine z_if_eq (tgt := 42) X.1 X.2.1 d_Ce_putAddresses_14 (by decide) ⟨by omega, by omega⟩ (fun h112 => ?_) (fun h112 => ?_)
    · refine lv_aload_n X.1 X.2.1 d_Ce_putAddresses_42 rfl (lv_at hl 1 rfl) ?_
      refine lv_iload_n X.1 X.2.1 d_Ce_putAddresses_43 rfl (lv_at hl 2 rfl) ?_
      refine lv_aload_n X.1 X.2.1 d_Ce_putAddresses_44 rfl (lv_at hl 0 rfl) ?_
      refine t_getr (ci := 4) X Y S k0 rfl i_Ce 1 (by decide) rfl (k1 := 15) (k2 := 0) rfl rfl lk_Ce_22 (fun _ h9 => h9) d_Ce_putAddresses_45 (fun b113 e113 k113 => ?_)
      refine t_getr (ci := 5) X Y S k113 rfl i_Ga 1 (by decide) rfl (k1 := 13) (k2 := 4000) rfl rfl lk_Ce_140 (fun _ h9 => h9) d_Ce_putAddresses_48 (fun b114 e114 k114 => ?_)
      refine lv_aload_n X.1 X.2.1 d_Ce_putAddresses_51 rfl (lv_at hl 0 rfl) ?_
      refine t_get0 (ci := 4) X Y S k0 rfl i_Ce 1 (by decide) rfl lk_Ce_22 (fun _ h9 => h9) d_Ce_putAddresses_52 e113 ?_
      refine t_get0 (ci := 5) X Y S k113 rfl i_Ga 1 (by decide) rfl lk_Ce_140 (fun _ h9 => h9) d_Ce_putAddresses_55 e114 ?_
      refine lv_iconst (v := iI 0) X.1 X.2.1 d_Ce_putAddresses_58 (by decide) ?_
      refine lv_bipush (v := iI 9) X.1 X.2.1 d_Ce_putAddresses_59 (by decide) ?_
      refine t_ui (t_runV (As := [.int (iI 0), .int (iI 9)]) (rest := [.ref b114, .int (iI a2), .ref a1]) (n := 2) X Y S k114 hml hl.1 (c_By_field l D E T κ L f H.size b114 4000 k114 (by omega) 0 (by omega) (by omega) 9 (by omega) (by omega) S.1) (ok_k X Y hA KS KR) rfl kl_Ce_By_field ks_By_field kx_By_field ki_By_field ini_By ⟨rfl, rfl⟩ hd_By_field ⟨Nat.le_of_ble_eq_true rfl, Nat.le_of_ble_eq_true rfl⟩ rfl (Nat.le_of_ble_eq_true rfl) d_Ce_putAddresses_61 ⟨Nat.le_of_ble_eq_true rfl, Nat.le_of_ble_eq_true rfl⟩) X Y hA (fun z115 H locs Y p115 => ?_)
      obtain ⟨l115, u115⟩ := p115
      refine t_nv (t_runV (As := [.int (iI a2), .ref b114, .int (iI z115)]) (rest := []) (n := 3) X Y S k1 hml hl.1 (c_By_putCopy l D E T κ L f H.size a1 n1 k1 (by omega) a2 (by omega) (by omega) b114 4000 k114 (by omega) z115 (by omega) (by omega) S.1) (ok_k X Y hA KS KR) rfl kl_Ce_By_putCopy ks_By_putCopy kx_By_putCopy ki_By_putCopy ini_By ⟨rfl, rfl⟩ hd_By_putCopy ⟨Nat.le_of_ble_eq_true rfl, Nat.le_of_ble_eq_true rfl⟩ rfl (Nat.le_of_ble_eq_true rfl) d_Ce_putAddresses_64 ⟨Nat.le_of_ble_eq_true rfl, Nat.le_of_ble_eq_true rfl⟩) X Y hA S (by decide) (fun f116 H locs Y S s116 p116 => ?_)
      exact c_retv hQQ X Y hr hlk ⟨rfl, S, trivial⟩ d_Ce_putAddresses_67
    · exact J102  _ _ _  Y S (lv_sub hl [0, 1, 2] rfl)
set_option maxHeartbeats 4000000 in
set_option maxRecDepth 100000 in
theorem c_Ce_putTimes (l : Launch) (D : va_G) (E : cE) (T : cT) (κ : tK) (L : List Nat) (f : pF) (sz : Nat) (h : Nat) (k0 : κ h = (14, 0)) (a1 n1 : Nat) (k1 : κ a1 = (13, n1)) (x1 : n1 ≤ 12288) (hw : tW E T κ L f) : Met l y_Ce_putTimes (k_Ce_putTimes :: lw_tg) (kRm 4 130 0 0) (va_Pc [.ref h, .ref a1] (kPre D E T L f sz)) (va_Qv (nPv E T [1, 13] κ L f (fun (g : pF) => True)) (cPost D E (pA L sz)) (pA L sz)) 0 0 (pA L sz) := by
  refine k_enter (own := R_Ce) (by decide) rfl (Nat.le_of_ble_eq_true rfl) (fun p e s m below meth c ls AV QQ H locs hQQ X Y hA hin hr hlk hml hl KS KR => ?_)
  have hl : lv_has ls 2 [(0, .ref h), (1, .ref a1)] := hl
  have S : tS E T (tFr κ L [1, 13] []) κ L f κ L f := tS_rf hw
  refine lv_aload_n X.1 X.2.1 d_Ce_putTimes_0 rfl (lv_at hl 1 rfl) ?_
  refine lv_iconst (v := iI 5) X.1 X.2.1 d_Ce_putTimes_1 (by decide) ?_
  refine lv_aload_n X.1 X.2.1 d_Ce_putTimes_2 rfl (lv_at hl 0 rfl) ?_
  refine t_geti (ci := 4) X Y S k0 rfl i_Ce 6 (by decide) rfl lk_Ce_65 (fun _ h9 => h9) d_Ce_putTimes_3 (fun z101 e101 l101 u101 => ?_)
  have J103 : ∀ (z102 : Int) (H : Heap) (locs : List Loc) (ls : Array Slot), ((-2147483648) ≤ z102) → (z102 ≤ 2147483647) → pH D cCl (pA L sz) s.heap L f H locs → tS E T (tFr κ L [1, 13] []) κ L f κ L f → lv_has ls 2 [(0, .ref h), (1, .ref a1)] → W p l e (kRm 4 130 0 0) s m AV below meth c H locs 0 0 QQ (F0 m 41 ls [.int (iI z102), .int (iI 5), .ref a1]) := by
    intro z102 H locs ls l102 u102 Y S hl
    refine t_nv (t_runV (As := [.int (iI 5), .int (iI z102)]) (rest := []) (n := 2) X Y S k1 hml hl.1 (c_By_putTime l D E T κ L f H.size a1 n1 k1 (by omega) 5 (by omega) (by omega) z102 (by omega) (by omega) S.1) (ok_k X Y hA KS KR) rfl kl_Ce_By_putTime ks_By_putTime kx_By_putTime ki_By_putTime ini_By ⟨rfl, rfl⟩ hd_By_putTime ⟨Nat.le_of_ble_eq_true rfl, Nat.le_of_ble_eq_true rfl⟩ rfl (Nat.le_of_ble_eq_true rfl) d_Ce_putTimes_41 ⟨Nat.le_of_ble_eq_true rfl, Nat.le_of_ble_eq_true rfl⟩) X Y hA S (by decide) (fun f107 H locs Y S s107 p107 => ?_)
    refine lv_aload_n X.1 X.2.1 d_Ce_putTimes_44 rfl (lv_at hl 1 rfl) ?_
    refine lv_bipush (v := iI 6) X.1 X.2.1 d_Ce_putTimes_45 (by decide) ?_
    refine lv_aload_n X.1 X.2.1 d_Ce_putTimes_47 rfl (lv_at hl 0 rfl) ?_
    refine t_getr (ci := 4) X Y S k0 rfl i_Ce 0 (by decide) rfl (k1 := 21) (k2 := 0) rfl rfl lk_Ce_18 (fun _ h9 => h9) d_Ce_putTimes_48 (fun b108 e108 k108 => ?_)
    refine t_geti (ci := 11) X Y S k108 rfl i_Va 0 (by decide) rfl lk_Ce_112 (fun _ h9 => h9) d_Ce_putTimes_51 (fun z109 e109 l109 u109 => ?_)
    refine t_nv (t_runV (As := [.int (iI 6), .int (iI z109)]) (rest := []) (n := 2) X Y S k1 hml hl.1 (c_By_putTime l D E T κ L f107 H.size a1 n1 k1 (by omega) 6 (by omega) (by omega) z109 (by omega) (by omega) S.1) (ok_k X Y hA KS KR) rfl kl_Ce_By_putTime ks_By_putTime kx_By_putTime ki_By_putTime ini_By ⟨rfl, rfl⟩ hd_By_putTime ⟨Nat.le_of_ble_eq_true rfl, Nat.le_of_ble_eq_true rfl⟩ rfl (Nat.le_of_ble_eq_true rfl) d_Ce_putTimes_54 ⟨Nat.le_of_ble_eq_true rfl, Nat.le_of_ble_eq_true rfl⟩) X Y hA S (by decide) (fun f110 H locs Y S s110 p110 => ?_)
    refine lv_aload_n X.1 X.2.1 d_Ce_putTimes_57 rfl (lv_at hl 1 rfl) ?_
    refine lv_bipush (v := iI 7) X.1 X.2.1 d_Ce_putTimes_58 (by decide) ?_
    refine lv_aload_n X.1 X.2.1 d_Ce_putTimes_60 rfl (lv_at hl 0 rfl) ?_
    refine t_geti (ci := 4) X Y S k0 rfl i_Ce 14 (by decide) rfl lk_Ce_226 (fun _ h9 => h9) d_Ce_putTimes_61 (fun z111 e111 l111 u111 => ?_)
    refine t_nv (t_runV (As := [.int (iI 7), .int (iI z111)]) (rest := []) (n := 2) X Y S k1 hml hl.1 (c_By_putTime l D E T κ L f110 H.size a1 n1 k1 (by omega) 7 (by omega) (by omega) z111 (by omega) (by omega) S.1) (ok_k X Y hA KS KR) rfl kl_Ce_By_putTime ks_By_putTime kx_By_putTime ki_By_putTime ini_By ⟨rfl, rfl⟩ hd_By_putTime ⟨Nat.le_of_ble_eq_true rfl, Nat.le_of_ble_eq_true rfl⟩ rfl (Nat.le_of_ble_eq_true rfl) d_Ce_putTimes_64 ⟨Nat.le_of_ble_eq_true rfl, Nat.le_of_ble_eq_true rfl⟩) X Y hA S (by decide) (fun f112 H locs Y S s112 p112 => ?_)
    refine lv_aload_n X.1 X.2.1 d_Ce_putTimes_67 rfl (lv_at hl 0 rfl) ?_
    refine t_geti (ci := 4) X Y S k0 rfl i_Ce 15 (by decide) rfl lk_Ce_243 (fun _ h9 => h9) d_Ce_putTimes_68 (fun z113 e113 l113 u113 => ?_)
    refine z_if_lt (tgt := 84) X.1 X.2.1 d_Ce_putTimes_71 (by decide) ⟨by omega, by omega⟩ (fun h114 => ?_) (fun h114 => ?_)
    · exact c_retv hQQ X Y hr hlk ⟨rfl, S, trivial⟩ d_Ce_putTimes_84
    · refine lv_aload_n X.1 X.2.1 d_Ce_putTimes_74 rfl (lv_at hl 1 rfl) ?_
      refine lv_bipush (v := iI 8) X.1 X.2.1 d_Ce_putTimes_75 (by decide) ?_
      refine lv_aload_n X.1 X.2.1 d_Ce_putTimes_77 rfl (lv_at hl 0 rfl) ?_
      refine t_get0 (ci := 4) X Y S k0 rfl i_Ce 15 (by decide) rfl lk_Ce_243 (fun _ h9 => h9) d_Ce_putTimes_78 e113 ?_
      refine t_nv (t_runV (As := [.int (iI 8), .int (iI z113)]) (rest := []) (n := 2) X Y S k1 hml hl.1 (c_By_putTime l D E T κ L f112 H.size a1 n1 k1 (by omega) 8 (by omega) (by omega) z113 (by omega) (by omega) S.1) (ok_k X Y hA KS KR) rfl kl_Ce_By_putTime ks_By_putTime kx_By_putTime ki_By_putTime ini_By ⟨rfl, rfl⟩ hd_By_putTime ⟨Nat.le_of_ble_eq_true rfl, Nat.le_of_ble_eq_true rfl⟩ rfl (Nat.le_of_ble_eq_true rfl) d_Ce_putTimes_81 ⟨Nat.le_of_ble_eq_true rfl, Nat.le_of_ble_eq_true rfl⟩) X Y hA S (by decide) (fun f115 H locs Y S s115 p115 => ?_)
      exact c_retv hQQ X Y hr hlk ⟨rfl, S, trivial⟩ d_Ce_putTimes_84
  refine z_if_eq (tgt := 19) X.1 X.2.1 d_Ce_putTimes_6 (by decide) ⟨by omega, by omega⟩ (fun h116 => ?_) (fun h116 => ?_)
  · refine lv_aload_n X.1 X.2.1 d_Ce_putTimes_19 rfl (lv_at hl 0 rfl) ?_
    refine t_getr (ci := 4) X Y S k0 rfl i_Ce 1 (by decide) rfl (k1 := 15) (k2 := 0) rfl rfl lk_Ce_22 (fun _ h9 => h9) d_Ce_putTimes_20 (fun b117 e117 k117 => ?_)
    refine t_getr (ci := 5) X Y S k117 rfl i_Ga 1 (by decide) rfl (k1 := 13) (k2 := 4000) rfl rfl lk_Ce_140 (fun _ h9 => h9) d_Ce_putTimes_23 (fun b118 e118 k118 => ?_)
    refine lv_aload_n X.1 X.2.1 d_Ce_putTimes_26 rfl (lv_at hl 0 rfl) ?_
    refine t_get0 (ci := 4) X Y S k0 rfl i_Ce 1 (by decide) rfl lk_Ce_22 (fun _ h9 => h9) d_Ce_putTimes_27 e117 ?_
    refine t_get0 (ci := 5) X Y S k117 rfl i_Ga 1 (by decide) rfl lk_Ce_140 (fun _ h9 => h9) d_Ce_putTimes_30 e118 ?_
    refine lv_iconst (v := iI 0) X.1 X.2.1 d_Ce_putTimes_33 (by decide) ?_
    refine lv_iconst (v := iI 5) X.1 X.2.1 d_Ce_putTimes_34 (by decide) ?_
    refine t_ui (t_runV (As := [.int (iI 0), .int (iI 5)]) (rest := [.ref b118, .int (iI 5), .ref a1]) (n := 2) X Y S k118 hml hl.1 (c_By_field l D E T κ L f H.size b118 4000 k118 (by omega) 0 (by omega) (by omega) 5 (by omega) (by omega) S.1) (ok_k X Y hA KS KR) rfl kl_Ce_By_field ks_By_field kx_By_field ki_By_field ini_By ⟨rfl, rfl⟩ hd_By_field ⟨Nat.le_of_ble_eq_true rfl, Nat.le_of_ble_eq_true rfl⟩ rfl (Nat.le_of_ble_eq_true rfl) d_Ce_putTimes_35 ⟨Nat.le_of_ble_eq_true rfl, Nat.le_of_ble_eq_true rfl⟩) X Y hA (fun z119 H locs Y p119 => ?_)
    obtain ⟨l119, u119⟩ := p119
    refine t_ui (t_runV (As := [.int (iI z119)]) (rest := [.int (iI 5), .ref a1]) (n := 1) X Y S k118 hml hl.1 (c_By_timeAt l D E T κ L f H.size b118 4000 k118 (by omega) z119 (by omega) (by omega) S.1) (ok_k X Y hA KS KR) rfl kl_Ce_By_timeAt ks_By_timeAt kx_By_timeAt ki_By_timeAt ini_By ⟨rfl, rfl⟩ hd_By_timeAt ⟨Nat.le_of_ble_eq_true rfl, Nat.le_of_ble_eq_true rfl⟩ rfl (Nat.le_of_ble_eq_true rfl) d_Ce_putTimes_38 ⟨Nat.le_of_ble_eq_true rfl, Nat.le_of_ble_eq_true rfl⟩) X Y hA (fun z120 H locs Y p120 => ?_)
    obtain ⟨l120, u120⟩ := p120
    exact J103 z120 _ _ _ (by omega) (by omega) Y S (lv_sub hl [0, 1] rfl)
  · refine lv_aload_n X.1 X.2.1 d_Ce_putTimes_9 rfl (lv_at hl 0 rfl) ?_
    refine t_getr (ci := 4) X Y S k0 rfl i_Ce 0 (by decide) rfl (k1 := 21) (k2 := 0) rfl rfl lk_Ce_18 (fun _ h9 => h9) d_Ce_putTimes_10 (fun b121 e121 k121 => ?_)
    refine t_geti (ci := 11) X Y S k121 rfl i_Va 0 (by decide) rfl lk_Ce_112 (fun _ h9 => h9) d_Ce_putTimes_13 (fun z122 e122 l122 u122 => ?_)
    refine lv_goto (tgt := 41) X.1 X.2.1 d_Ce_putTimes_16 (by decide) ?_
    exact J103 z122 _ _ _ (by omega) (by omega) Y S (lv_sub hl [0, 1] rfl)
set_option maxHeartbeats 4000000 in
set_option maxRecDepth 100000 in
theorem c_Ce_putTicket (l : Launch) (D : va_G) (E : cE) (T : cT) (κ : tK) (L : List Nat) (f : pF) (sz : Nat) (h : Nat) (k0 : κ h = (14, 0)) (a1 n1 : Nat) (k1 : tKey T κ a1 n1) (x1 : n1 = 0 ∨ n1 = 16 ∨ n1 = 32) (hw : tW E T κ L f) : Met l y_Ce_putTicket (k_Ce_putTicket :: lw_tg) (kRm 7 187 0 0) (va_Pc [.ref h, .ref a1] (kPre D E T L f sz)) (va_Qv (nPv E T [1, 2, 3, 4, 11, 13, 16, 21] κ L f (fun (g : pF) => True)) (cPost D E (pA L sz)) (pA L sz)) 0 0 (pA L sz) := by
  refine k_enter (own := R_Ce) (by decide) rfl (Nat.le_of_ble_eq_true rfl) (fun p e s m below meth c ls AV QQ H locs hQQ X Y hA hin hr hlk hml hl KS KR => ?_)
  have hl : lv_has ls 8 [(0, .ref h), (1, .ref a1)] := hl
  have S : tS E T (tFr κ L [1, 2, 3, 4, 11, 13, 16, 21] []) κ L f κ L f := tS_rf hw
  refine lv_aload_n X.1 X.2.1 d_Ce_putTicket_0 rfl (lv_at hl 0 rfl) ?_
  refine t_getr (ci := 4) X Y S k0 rfl i_Ce 0 (by decide) rfl (k1 := 21) (k2 := 0) rfl rfl lk_Ce_18 (fun _ h9 => h9) d_Ce_putTicket_1 (fun b101 e101 k101 => ?_)
  refine t_getr (ci := 11) X Y S k101 rfl i_Va 1 (by decide) rfl (k1 := 13) (k2 := 6144) rfl rfl lk_Ce_165 (fun _ h9 => h9) d_Ce_putTicket_4 (fun b102 e102 k102 => ?_)
  refine lv_astore_n (lv' := [(2, .ref b102), (0, .ref h), (1, .ref a1)]) X.1 X.2.1 d_Ce_putTicket_7 rfl hl (by decide) rfl (fun ls hl => ?_)
  refine lv_aload_n X.1 X.2.1 d_Ce_putTicket_8 rfl (lv_at hl 0 rfl) ?_
  refine t_nv (t_runV (As := []) (rest := []) (n := 0) X Y S k102 hml hl.1 (c_By_clear l D E T κ L f H.size b102 6144 k102 (by omega) S.1) (ok_k X Y hA KS KR) rfl kl_Ce_By_clear ks_By_clear kx_By_clear ki_By_clear ini_By ⟨rfl, rfl⟩ hd_By_clear ⟨Nat.le_of_ble_eq_true rfl, Nat.le_of_ble_eq_true rfl⟩ rfl (Nat.le_of_ble_eq_true rfl) d_Ce_putTicket_9 ⟨Nat.le_of_ble_eq_true rfl, Nat.le_of_ble_eq_true rfl⟩) X Y hA S (by decide) (fun f103 H locs Y S s103 p103 => ?_)
  refine lv_aload_n X.1 X.2.1 d_Ce_putTicket_12 rfl (lv_at hl 0 rfl) ?_
  refine lv_bipush (v := iI 99) X.1 X.2.1 d_Ce_putTicket_13 (by decide) ?_
  refine t_ni (t_runV (As := [.int (iI 99)]) (rest := []) (n := 1) X Y S k102 hml hl.1 (c_By_open l D E T κ L f103 H.size b102 6144 k102 (by omega) 99 (by omega) (by omega) S.1) (ok_k X Y hA KS KR) rfl kl_Ce_By_open ks_By_open kx_By_open ki_By_open ini_By ⟨rfl, rfl⟩ hd_By_open ⟨Nat.le_of_ble_eq_true rfl, Nat.le_of_ble_eq_true rfl⟩ rfl (Nat.le_of_ble_eq_true rfl) d_Ce_putTicket_15 ⟨Nat.le_of_ble_eq_true rfl, Nat.le_of_ble_eq_true rfl⟩) X Y hA S (by decide) (fun z104 f104 H locs Y S s104 p104 => ?_)
  obtain ⟨l104, u104⟩ := p104
  refine lv_istore_n (lv' := [(3, .int (iI z104)), (2, .ref b102), (0, .ref h), (1, .ref a1)]) X.1 X.2.1 d_Ce_putTicket_18 rfl hl (by decide) rfl (fun ls hl => ?_)
  refine lv_aload_n X.1 X.2.1 d_Ce_putTicket_19 rfl (lv_at hl 1 rfl) ?_
  refine lv_bipush (v := iI 48) X.1 X.2.1 d_Ce_putTicket_20 (by decide) ?_
  refine t_ni (t_runV (As := [.int (iI 48)]) (rest := []) (n := 1) X Y S k102 hml hl.1 (c_By_open l D E T κ L f104 H.size b102 6144 k102 (by omega) 48 (by omega) (by omega) S.1) (ok_k X Y hA KS KR) rfl kl_Ce_By_open ks_By_open kx_By_open ki_By_open ini_By ⟨rfl, rfl⟩ hd_By_open ⟨Nat.le_of_ble_eq_true rfl, Nat.le_of_ble_eq_true rfl⟩ rfl (Nat.le_of_ble_eq_true rfl) d_Ce_putTicket_22 ⟨Nat.le_of_ble_eq_true rfl, Nat.le_of_ble_eq_true rfl⟩) X Y hA S (by decide) (fun z105 f105 H locs Y S s105 p105 => ?_)
  obtain ⟨l105, u105⟩ := p105
  refine lv_istore (lv' := [(4, .int (iI z105)), (3, .int (iI z104)), (2, .ref b102), (0, .ref h), (1, .ref a1)]) X.1 X.2.1 d_Ce_putTicket_25 hl (by decide) rfl (fun ls hl => ?_)
  refine lv_aload_n X.1 X.2.1 d_Ce_putTicket_27 rfl (lv_at hl 2 rfl) ?_
  refine lv_iconst (v := iI 0) X.1 X.2.1 d_Ce_putTicket_28 (by decide) ?_
  refine lv_aload_n X.1 X.2.1 d_Ce_putTicket_29 rfl (lv_at hl 3 rfl) ?_
  refine t_geti (ci := 4) X Y S k0 rfl i_Ce 13 (by decide) rfl lk_Ce_247 (fun _ h9 => h9) d_Ce_putTicket_30 (fun z106 e106 l106 u106 => ?_)
  refine t_nv (t_runV (As := [.int (iI 0), .int (iI z106)]) (rest := []) (n := 2) X Y S k102 hml hl.1 (c_By_putBits l D E T κ L f105 H.size b102 6144 k102 (by omega) 0 (by omega) (by omega) z106 (by omega) (by omega) S.1) (ok_k X Y hA KS KR) rfl kl_Ce_By_putBits ks_By_putBits kx_By_putBits ki_By_putBits ini_By ⟨rfl, rfl⟩ hd_By_putBits ⟨Nat.le_of_ble_eq_true rfl, Nat.le_of_ble_eq_true rfl⟩ rfl (Nat.le_of_ble_eq_true rfl) d_Ce_putTicket_33 ⟨Nat.le_of_ble_eq_true rfl, Nat.le_of_ble_eq_true rfl⟩) X Y hA S (by decide) (fun f107 H locs Y S s107 p107 => ?_)
  refine lv_aload_n X.1 X.2.1 d_Ce_putTicket_36 rfl (lv_at hl 2 rfl) ?_
  refine lv_iconst (v := iI 1) X.1 X.2.1 d_Ce_putTicket_37 (by decide) ?_
  refine lv_aload_n X.1 X.2.1 d_Ce_putTicket_38 rfl (lv_at hl 4 rfl) ?_
  refine t_nv (t_runV (As := [.int (iI 1), .ref a1]) (rest := []) (n := 2) X Y S k102 hml hl.1 (c_By_putKey l D E T κ L f107 H.size b102 6144 k102 (by omega) 1 (by omega) (by omega) a1 n1 k1 (by omega) S.1) (ok_k X Y hA KS KR) rfl kl_Ce_By_putKey ks_By_putKey kx_By_putKey ki_By_putKey ini_By ⟨rfl, rfl⟩ hd_By_putKey ⟨Nat.le_of_ble_eq_true rfl, Nat.le_of_ble_eq_true rfl⟩ rfl (Nat.le_of_ble_eq_true rfl) d_Ce_putTicket_39 ⟨Nat.le_of_ble_eq_true rfl, Nat.le_of_ble_eq_true rfl⟩) X Y hA S (by decide) (fun f108 H locs Y S s108 p108 => ?_)
  refine lv_aload_n X.1 X.2.1 d_Ce_putTicket_42 rfl (lv_at hl 2 rfl) ?_
  refine lv_iconst (v := iI 2) X.1 X.2.1 d_Ce_putTicket_43 (by decide) ?_
  refine t_nv (t_runV (As := [.int (iI 2)]) (rest := []) (n := 1) X Y S k102 hml hl.1 (c_By_putRealm l D E T κ L f108 H.size b102 6144 k102 (by omega) 2 (by omega) (by omega) S.1) (ok_k X Y hA KS KR) rfl kl_Ce_By_putRealm ks_By_putRealm kx_By_putRealm ki_By_putRealm ini_By ⟨rfl, rfl⟩ hd_By_putRealm ⟨Nat.le_of_ble_eq_true rfl, Nat.le_of_ble_eq_true rfl⟩ rfl (Nat.le_of_ble_eq_true rfl) d_Ce_putTicket_44 ⟨Nat.le_of_ble_eq_true rfl, Nat.le_of_ble_eq_true rfl⟩) X Y hA S (by decide) (fun f109 H locs Y S s109 p109 => ?_)
  refine lv_aload_n X.1 X.2.1 d_Ce_putTicket_47 rfl (lv_at hl 3 rfl) ?_
  refine lv_aload_n X.1 X.2.1 d_Ce_putTicket_48 rfl (lv_at hl 2 rfl) ?_
  refine lv_iconst (v := iI 3) X.1 X.2.1 d_Ce_putTicket_49 (by decide) ?_
  refine t_nv (t_runV (As := [.ref b102, .int (iI 3)]) (rest := []) (n := 2) X Y S k0 hml hl.1 (c_Ce_putClient l D E T κ L f109 H.size h k0 b102 6144 k102 (by omega) 3 (by omega) (by omega) S.1) (ok_k X Y hA KS KR) rfl kl_Ce_Ce_putClient ks_Ce_putClient kx_Ce_putClient ki_Ce_putClient ini_Ce ⟨rfl, rfl⟩ hd_Ce_putClient ⟨Nat.le_of_ble_eq_true rfl, Nat.le_of_ble_eq_true rfl⟩ rfl (Nat.le_of_ble_eq_true rfl) d_Ce_putTicket_50 ⟨Nat.le_of_ble_eq_true rfl, Nat.le_of_ble_eq_true rfl⟩) X Y hA S (by decide) (fun f110 H locs Y S s110 p110 => ?_)
  refine lv_aload_n X.1 X.2.1 d_Ce_putTicket_53 rfl (lv_at hl 2 rfl) ?_
  refine lv_iconst (v := iI 4) X.1 X.2.1 d_Ce_putTicket_54 (by decide) ?_
  refine lv_iconst (v := iI 1) X.1 X.2.1 d_Ce_putTicket_55 (by decide) ?_
  refine k_getsN X Y KS KR (by decide) d_Ce_putTicket_56 ?_
  refine lv_iconst (v := iI 0) X.1 X.2.1 d_Ce_putTicket_59 (by decide) ?_
  refine t_nv (t_runV (As := [.int (iI 4), .int (iI 1), .ref ((T.1 0)), .int (iI 0)]) (rest := []) (n := 4) X Y S k102 hml hl.1 (c_By_putPair l D E T κ L f110 H.size b102 6144 k102 (by omega) 4 (by omega) (by omega) 1 (by omega) (by omega) ((T.1 0)) 0 tSrc_no (by omega) 0 (by omega) (by omega) S.1) (ok_k X Y hA KS KR) rfl kl_Ce_By_putPair ks_By_putPair kx_By_putPair ki_By_putPair ini_By ⟨rfl, rfl⟩ hd_By_putPair ⟨Nat.le_of_ble_eq_true rfl, Nat.le_of_ble_eq_true rfl⟩ rfl (Nat.le_of_ble_eq_true rfl) d_Ce_putTicket_60 ⟨Nat.le_of_ble_eq_true rfl, Nat.le_of_ble_eq_true rfl⟩) X Y hA S (by decide) (fun f111 H locs Y S s111 p111 => ?_)
  refine lv_aload_n X.1 X.2.1 d_Ce_putTicket_63 rfl (lv_at hl 3 rfl) ?_
  refine lv_aload_n X.1 X.2.1 d_Ce_putTicket_64 rfl (lv_at hl 2 rfl) ?_
  refine t_nv (t_runV (As := [.ref b102]) (rest := []) (n := 1) X Y S k0 hml hl.1 (c_Ce_putTimes l D E T κ L f111 H.size h k0 b102 6144 k102 (by omega) S.1) (ok_k X Y hA KS KR) rfl kl_Ce_Ce_putTimes ks_Ce_putTimes kx_Ce_putTimes ki_Ce_putTimes ini_Ce ⟨rfl, rfl⟩ hd_Ce_putTimes ⟨Nat.le_of_ble_eq_true rfl, Nat.le_of_ble_eq_true rfl⟩ rfl (Nat.le_of_ble_eq_true rfl) d_Ce_putTicket_65 ⟨Nat.le_of_ble_eq_true rfl, Nat.le_of_ble_eq_true rfl⟩) X Y hA S (by decide) (fun f112 H locs Y S s112 p112 => ?_)
  refine lv_aload_n X.1 X.2.1 d_Ce_putTicket_68 rfl (lv_at hl 3 rfl) ?_
  refine lv_aload_n X.1 X.2.1 d_Ce_putTicket_69 rfl (lv_at hl 2 rfl) ?_
  refine lv_bipush (v := iI 9) X.1 X.2.1 d_Ce_putTicket_70 (by decide) ?_
  refine t_nv (t_runV (As := [.ref b102, .int (iI 9)]) (rest := []) (n := 2) X Y S k0 hml hl.1 (c_Ce_putAddresses l D E T κ L f112 H.size h k0 b102 6144 k102 (by omega) 9 (by omega) (by omega) S.1) (ok_k X Y hA KS KR) rfl kl_Ce_Ce_putAddresses ks_Ce_putAddresses kx_Ce_putAddresses ki_Ce_putAddresses ini_Ce ⟨rfl, rfl⟩ hd_Ce_putAddresses ⟨Nat.le_of_ble_eq_true rfl, Nat.le_of_ble_eq_true rfl⟩ rfl (Nat.le_of_ble_eq_true rfl) d_Ce_putTicket_72 ⟨Nat.le_of_ble_eq_true rfl, Nat.le_of_ble_eq_true rfl⟩) X Y hA S (by decide) (fun f113 H locs Y S s113 p113 => ?_)
  refine lv_aload_n X.1 X.2.1 d_Ce_putTicket_75 rfl (lv_at hl 2 rfl) ?_
  refine lv_iload X.1 X.2.1 d_Ce_putTicket_76 (lv_at hl 0 rfl) ?_
  refine t_nv (t_runV (As := [.int (iI z105)]) (rest := []) (n := 1) X Y S k102 hml hl.1 (c_By_close l D E T κ L f113 H.size b102 6144 k102 (by omega) z105 (by omega) (by omega) S.1) (ok_k X Y hA KS KR) rfl kl_Ce_By_close ks_By_close kx_By_close ki_By_close ini_By ⟨rfl, rfl⟩ hd_By_close ⟨Nat.le_of_ble_eq_true rfl, Nat.le_of_ble_eq_true rfl⟩ rfl (Nat.le_of_ble_eq_true rfl) d_Ce_putTicket_78 ⟨Nat.le_of_ble_eq_true rfl, Nat.le_of_ble_eq_true rfl⟩) X Y hA S (by decide) (fun f114 H locs Y S s114 p114 => ?_)
  refine lv_aload_n X.1 X.2.1 d_Ce_putTicket_81 rfl (lv_at hl 2 rfl) ?_
  refine lv_iload_n X.1 X.2.1 d_Ce_putTicket_82 rfl (lv_at hl 1 rfl) ?_
  refine t_nv (t_runV (As := [.int (iI z104)]) (rest := []) (n := 1) X Y S k102 hml hl.1 (c_By_close l D E T κ L f114 H.size b102 6144 k102 (by omega) z104 (by omega) (by omega) S.1) (ok_k X Y hA KS KR) rfl kl_Ce_By_close ks_By_close kx_By_close ki_By_close ini_By ⟨rfl, rfl⟩ hd_By_close ⟨Nat.le_of_ble_eq_true rfl, Nat.le_of_ble_eq_true rfl⟩ rfl (Nat.le_of_ble_eq_true rfl) d_Ce_putTicket_83 ⟨Nat.le_of_ble_eq_true rfl, Nat.le_of_ble_eq_true rfl⟩) X Y hA S (by decide) (fun f115 H locs Y S s115 p115 => ?_)
  refine lv_aload_n X.1 X.2.1 d_Ce_putTicket_86 rfl (lv_at hl 3 rfl) ?_
  refine t_getr (ci := 4) X Y S k0 rfl i_Ce 4 (by decide) rfl (k1 := 13) (k2 := 12288) rfl rfl lk_Ce_34 (fun _ h9 => h9) d_Ce_putTicket_87 (fun b116 e116 k116 => ?_)
  refine lv_bipush (v := iI 97) X.1 X.2.1 d_Ce_putTicket_90 (by decide) ?_
  refine t_ni (t_runV (As := [.int (iI 97)]) (rest := []) (n := 1) X Y S k116 hml hl.1 (c_By_open l D E T κ L f115 H.size b116 12288 k116 (by omega) 97 (by omega) (by omega) S.1) (ok_k X Y hA KS KR) rfl kl_Ce_By_open ks_By_open kx_By_open ki_By_open ini_By ⟨rfl, rfl⟩ hd_By_open ⟨Nat.le_of_ble_eq_true rfl, Nat.le_of_ble_eq_true rfl⟩ rfl (Nat.le_of_ble_eq_true rfl) d_Ce_putTicket_92 ⟨Nat.le_of_ble_eq_true rfl, Nat.le_of_ble_eq_true rfl⟩) X Y hA S (by decide) (fun z117 f117 H locs Y S s117 p117 => ?_)
  obtain ⟨l117, u117⟩ := p117
  refine lv_istore (lv' := [(5, .int (iI z117)), (4, .int (iI z105)), (3, .int (iI z104)), (2, .ref b102), (0, .ref h), (1, .ref a1)]) X.1 X.2.1 d_Ce_putTicket_95 hl (by decide) rfl (fun ls hl => ?_)
  refine lv_aload_n X.1 X.2.1 d_Ce_putTicket_97 rfl (lv_at hl 4 rfl) ?_
  refine t_get0 (ci := 4) X Y S k0 rfl i_Ce 4 (by decide) rfl lk_Ce_34 (fun _ h9 => h9) d_Ce_putTicket_98 ((gF_same (s117.2.2.2 _ ⟨(t_obj S.1 k0).1, nM_of k0 (by decide), by simp⟩).1 4).trans e116) ?_
  refine lv_bipush (v := iI 48) X.1 X.2.1 d_Ce_putTicket_101 (by decide) ?_
  refine t_ni (t_runV (As := [.int (iI 48)]) (rest := []) (n := 1) X Y S k116 hml hl.1 (c_By_open l D E T κ L f117 H.size b116 12288 k116 (by omega) 48 (by omega) (by omega) S.1) (ok_k X Y hA KS KR) rfl kl_Ce_By_open ks_By_open kx_By_open ki_By_open ini_By ⟨rfl, rfl⟩ hd_By_open ⟨Nat.le_of_ble_eq_true rfl, Nat.le_of_ble_eq_true rfl⟩ rfl (Nat.le_of_ble_eq_true rfl) d_Ce_putTicket_103 ⟨Nat.le_of_ble_eq_true rfl, Nat.le_of_ble_eq_true rfl⟩) X Y hA S (by decide) (fun z118 f118 H locs Y S s118 p118 => ?_)
  obtain ⟨l118, u118⟩ := p118
  refine lv_istore (lv' := [(6, .int (iI z118)), (5, .int (iI z117)), (4, .int (iI z105)), (3, .int (iI z104)), (2, .ref b102), (0, .ref h), (1, .ref a1)]) X.1 X.2.1 d_Ce_putTicket_106 hl (by decide) rfl (fun ls hl => ?_)
  refine lv_aload_n X.1 X.2.1 d_Ce_putTicket_108 rfl (lv_at hl 5 rfl) ?_
  refine t_get0 (ci := 4) X Y S k0 rfl i_Ce 4 (by decide) rfl lk_Ce_34 (fun _ h9 => h9) d_Ce_putTicket_109 ((gF_same (s118.2.2.2 _ ⟨(t_obj S.1 k0).1, nM_of k0 (by decide), by simp⟩).1 4).trans ((gF_same (s117.2.2.2 _ ⟨(t_obj S.1 k0).1, nM_of k0 (by decide), by simp⟩).1 4).trans e116)) ?_
  refine lv_iconst (v := iI 0) X.1 X.2.1 d_Ce_putTicket_112 (by decide) ?_
  refine lv_ldc2 (v := (5)) X.1 X.2.1 X.2.2.2.1 (X.2.2.1 _ cl_Ce_79) d_Ce_putTicket_113 ?_
  refine t_nv (t_runV (As := [.int (iI 0), .long ((5))]) (rest := []) (n := 2) X Y S k116 hml hl.1 (c_By_putNumber l D E T κ L f118 H.size b116 12288 k116 (by omega) 0 (by omega) (by omega) ((5)) S.1) (ok_k X Y hA KS KR) rfl kl_Ce_By_putNumber ks_By_putNumber kx_By_putNumber ki_By_putNumber ini_By ⟨rfl, rfl⟩ hd_By_putNumber ⟨Nat.le_of_ble_eq_true rfl, Nat.le_of_ble_eq_true rfl⟩ rfl (Nat.le_of_ble_eq_true rfl) d_Ce_putTicket_116 ⟨Nat.le_of_ble_eq_true rfl, Nat.le_of_ble_eq_true rfl⟩) X Y hA S (by decide) (fun f119 H locs Y S s119 p119 => ?_)
  refine lv_aload_n X.1 X.2.1 d_Ce_putTicket_119 rfl (lv_at hl 5 rfl) ?_
  refine t_get0 (ci := 4) X Y S k0 rfl i_Ce 4 (by decide) rfl lk_Ce_34 (fun _ h9 => h9) d_Ce_putTicket_120 ((gF_same (s119.2.2.2 _ ⟨(t_obj S.1 k0).1, nM_of k0 (by decide), by simp⟩).1 4).trans ((gF_same (s118.2.2.2 _ ⟨(t_obj S.1 k0).1, nM_of k0 (by decide), by simp⟩).1 4).trans ((gF_same (s117.2.2.2 _ ⟨(t_obj S.1 k0).1, nM_of k0 (by decide), by simp⟩).1 4).trans e116))) ?_
  refine lv_iconst (v := iI 1) X.1 X.2.1 d_Ce_putTicket_123 (by decide) ?_
  refine t_nv (t_runV (As := [.int (iI 1)]) (rest := []) (n := 1) X Y S k116 hml hl.1 (c_By_putRealm l D E T κ L f119 H.size b116 12288 k116 (by omega) 1 (by omega) (by omega) S.1) (ok_k X Y hA KS KR) rfl kl_Ce_By_putRealm ks_By_putRealm kx_By_putRealm ki_By_putRealm ini_By ⟨rfl, rfl⟩ hd_By_putRealm ⟨Nat.le_of_ble_eq_true rfl, Nat.le_of_ble_eq_true rfl⟩ rfl (Nat.le_of_ble_eq_true rfl) d_Ce_putTicket_124 ⟨Nat.le_of_ble_eq_true rfl, Nat.le_of_ble_eq_true rfl⟩) X Y hA S (by decide) (fun f120 H locs Y S s120 p120 => ?_)
  refine lv_aload_n X.1 X.2.1 d_Ce_putTicket_127 rfl (lv_at hl 5 rfl) ?_
  refine t_get0 (ci := 4) X Y S k0 rfl i_Ce 4 (by decide) rfl lk_Ce_34 (fun _ h9 => h9) d_Ce_putTicket_128 ((gF_same (s120.2.2.2 _ ⟨(t_obj S.1 k0).1, nM_of k0 (by decide), by simp⟩).1 4).trans ((gF_same (s119.2.2.2 _ ⟨(t_obj S.1 k0).1, nM_of k0 (by decide), by simp⟩).1 4).trans ((gF_same (s118.2.2.2 _ ⟨(t_obj S.1 k0).1, nM_of k0 (by decide), by simp⟩).1 4).trans ((gF_same (s117.2.2.2 _ ⟨(t_obj S.1 k0).1, nM_of k0 (by decide), by simp⟩).1 4).trans e116)))) ?_
  refine lv_iconst (v := iI 2) X.1 X.2.1 d_Ce_putTicket_131 (by decide) ?_
  refine lv_aload_n X.1 X.2.1 d_Ce_putTicket_132 rfl (lv_at hl 5 rfl) ?_
  refine t_getr (ci := 4) X Y S k0 rfl i_Ce 3 (by decide) rfl (k1 := 13) (k2 := 4000) rfl rfl lk_Ce_30 (fun _ h9 => h9) d_Ce_putTicket_133 (fun b121 e121 k121 => ?_)
  refine lv_aload_n X.1 X.2.1 d_Ce_putTicket_136 rfl (lv_at hl 5 rfl) ?_
  refine t_get0 (ci := 4) X Y S k0 rfl i_Ce 3 (by decide) rfl lk_Ce_30 (fun _ h9 => h9) d_Ce_putTicket_137 e121 ?_
  refine lv_aload_n X.1 X.2.1 d_Ce_putTicket_140 rfl (lv_at hl 5 rfl) ?_
  refine t_geti (ci := 4) X Y S k0 rfl i_Ce 8 (by decide) rfl lk_Ce_81 (fun _ h9 => h9) d_Ce_putTicket_141 (fun z122 e122 l122 u122 => ?_)
  refine lv_iconst (v := iI 3) X.1 X.2.1 d_Ce_putTicket_144 (by decide) ?_
  refine t_ui (t_runV (As := [.int (iI z122), .int (iI 3)]) (rest := [.ref b121, .int (iI 2), .ref b116]) (n := 2) X Y S k121 hml hl.1 (c_By_field l D E T κ L f120 H.size b121 4000 k121 (by omega) z122 (by omega) (by omega) 3 (by omega) (by omega) S.1) (ok_k X Y hA KS KR) rfl kl_Ce_By_field ks_By_field kx_By_field ki_By_field ini_By ⟨rfl, rfl⟩ hd_By_field ⟨Nat.le_of_ble_eq_true rfl, Nat.le_of_ble_eq_true rfl⟩ rfl (Nat.le_of_ble_eq_true rfl) d_Ce_putTicket_145 ⟨Nat.le_of_ble_eq_true rfl, Nat.le_of_ble_eq_true rfl⟩) X Y hA (fun z123 H locs Y p123 => ?_)
  obtain ⟨l123, u123⟩ := p123
  refine t_nv (t_runV (As := [.int (iI 2), .ref b121, .int (iI z123)]) (rest := []) (n := 3) X Y S k116 hml hl.1 (c_By_putCopy l D E T κ L f120 H.size b116 12288 k116 (by omega) 2 (by omega) (by omega) b121 4000 k121 (by omega) z123 (by omega) (by omega) S.1) (ok_k X Y hA KS KR) rfl kl_Ce_By_putCopy ks_By_putCopy kx_By_putCopy ki_By_putCopy ini_By ⟨rfl, rfl⟩ hd_By_putCopy ⟨Nat.le_of_ble_eq_true rfl, Nat.le_of_ble_eq_true rfl⟩ rfl (Nat.le_of_ble_eq_true rfl) d_Ce_putTicket_148 ⟨Nat.le_of_ble_eq_true rfl, Nat.le_of_ble_eq_true rfl⟩) X Y hA S (by decide) (fun f124 H locs Y S s124 p124 => ?_)
  refine lv_aload_n X.1 X.2.1 d_Ce_putTicket_151 rfl (lv_at hl 5 rfl) ?_
  refine t_get0 (ci := 4) X Y S k0 rfl i_Ce 4 (by decide) rfl lk_Ce_34 (fun _ h9 => h9) d_Ce_putTicket_152 ((gF_same (s124.2.2.2 _ ⟨(t_obj S.1 k0).1, nM_of k0 (by decide), by simp⟩).1 4).trans ((gF_same (s120.2.2.2 _ ⟨(t_obj S.1 k0).1, nM_of k0 (by decide), by simp⟩).1 4).trans ((gF_same (s119.2.2.2 _ ⟨(t_obj S.1 k0).1, nM_of k0 (by decide), by simp⟩).1 4).trans ((gF_same (s118.2.2.2 _ ⟨(t_obj S.1 k0).1, nM_of k0 (by decide), by simp⟩).1 4).trans ((gF_same (s117.2.2.2 _ ⟨(t_obj S.1 k0).1, nM_of k0 (by decide), by simp⟩).1 4).trans e116))))) ?_
  refine lv_iconst (v := iI 3) X.1 X.2.1 d_Ce_putTicket_155 (by decide) ?_
  refine t_ni (t_runV (As := [.int (iI 3)]) (rest := []) (n := 1) X Y S k116 hml hl.1 (c_By_openField l D E T κ L f124 H.size b116 12288 k116 (by omega) 3 (by omega) (by omega) S.1) (ok_k X Y hA KS KR) rfl kl_Ce_By_openField ks_By_openField kx_By_openField ki_By_openField ini_By ⟨rfl, rfl⟩ hd_By_openField ⟨Nat.le_of_ble_eq_true rfl, Nat.le_of_ble_eq_true rfl⟩ rfl (Nat.le_of_ble_eq_true rfl) d_Ce_putTicket_156 ⟨Nat.le_of_ble_eq_true rfl, Nat.le_of_ble_eq_true rfl⟩) X Y hA S (by decide) (fun z125 f125 H locs Y S s125 p125 => ?_)
  obtain ⟨l125, u125⟩ := p125
  refine lv_istore (lv' := [(7, .int (iI z125)), (6, .int (iI z118)), (5, .int (iI z117)), (4, .int (iI z105)), (3, .int (iI z104)), (2, .ref b102), (0, .ref h), (1, .ref a1)]) X.1 X.2.1 d_Ce_putTicket_159 hl (by decide) rfl (fun ls hl => ?_)
  refine lv_aload_n X.1 X.2.1 d_Ce_putTicket_161 rfl (lv_at hl 6 rfl) ?_
  refine t_get0 (ci := 4) X Y S k0 rfl i_Ce 0 (by decide) rfl lk_Ce_18 (fun _ h9 => h9) d_Ce_putTicket_162 ((gF_same (s125.2.2.2 _ ⟨(t_obj S.1 k0).1, nM_of k0 (by decide), by simp⟩).1 0).trans ((gF_same (s124.2.2.2 _ ⟨(t_obj S.1 k0).1, nM_of k0 (by decide), by simp⟩).1 0).trans ((gF_same (s120.2.2.2 _ ⟨(t_obj S.1 k0).1, nM_of k0 (by decide), by simp⟩).1 0).trans ((gF_same (s119.2.2.2 _ ⟨(t_obj S.1 k0).1, nM_of k0 (by decide), by simp⟩).1 0).trans ((gF_same (s118.2.2.2 _ ⟨(t_obj S.1 k0).1, nM_of k0 (by decide), by simp⟩).1 0).trans ((gF_same (s117.2.2.2 _ ⟨(t_obj S.1 k0).1, nM_of k0 (by decide), by simp⟩).1 0).trans ((gF_same (s115.2.2.2 _ ⟨(t_obj S.1 k0).1, nM_of k0 (by decide), by simp⟩).1 0).trans ((gF_same (s114.2.2.2 _ ⟨(t_obj S.1 k0).1, nM_of k0 (by decide), by simp⟩).1 0).trans ((gF_same (s113.2.2.2 _ ⟨(t_obj S.1 k0).1, nM_of k0 (by decide), by simp⟩).1 0).trans ((gF_same (s112.2.2.2 _ ⟨(t_obj S.1 k0).1, nM_of k0 (by decide), by simp⟩).1 0).trans ((gF_same (s111.2.2.2 _ ⟨(t_obj S.1 k0).1, nM_of k0 (by decide), by simp⟩).1 0).trans ((gF_same (s110.2.2.2 _ ⟨(t_obj S.1 k0).1, nM_of k0 (by decide), by simp⟩).1 0).trans ((gF_same (s109.2.2.2 _ ⟨(t_obj S.1 k0).1, nM_of k0 (by decide), by simp⟩).1 0).trans ((gF_same (s108.2.2.2 _ ⟨(t_obj S.1 k0).1, nM_of k0 (by decide), by simp⟩).1 0).trans ((gF_same (s107.2.2.2 _ ⟨(t_obj S.1 k0).1, nM_of k0 (by decide), by simp⟩).1 0).trans ((gF_same (s105.2.2.2 _ ⟨(t_obj S.1 k0).1, nM_of k0 (by decide), by simp⟩).1 0).trans ((gF_same (s104.2.2.2 _ ⟨(t_obj S.1 k0).1, nM_of k0 (by decide), by simp⟩).1 0).trans ((gF_same (s103.2.2.2 _ ⟨(t_obj S.1 k0).1, nM_of k0 (by decide), by simp⟩).1 0).trans e101)))))))))))))))))) ?_
  refine lv_aload_n X.1 X.2.1 d_Ce_putTicket_165 rfl (lv_at hl 6 rfl) ?_
  refine t_get0 (ci := 4) X Y S k0 rfl i_Ce 4 (by decide) rfl lk_Ce_34 (fun _ h9 => h9) d_Ce_putTicket_166 ((gF_same (s125.2.2.2 _ ⟨(t_obj S.1 k0).1, nM_of k0 (by decide), by simp⟩).1 4).trans ((gF_same (s124.2.2.2 _ ⟨(t_obj S.1 k0).1, nM_of k0 (by decide), by simp⟩).1 4).trans ((gF_same (s120.2.2.2 _ ⟨(t_obj S.1 k0).1, nM_of k0 (by decide), by simp⟩).1 4).trans ((gF_same (s119.2.2.2 _ ⟨(t_obj S.1 k0).1, nM_of k0 (by decide), by simp⟩).1 4).trans ((gF_same (s118.2.2.2 _ ⟨(t_obj S.1 k0).1, nM_of k0 (by decide), by simp⟩).1 4).trans ((gF_same (s117.2.2.2 _ ⟨(t_obj S.1 k0).1, nM_of k0 (by decide), by simp⟩).1 4).trans e116)))))) ?_
  refine lv_aload_n X.1 X.2.1 d_Ce_putTicket_169 rfl (lv_at hl 6 rfl) ?_
  refine t_getr (ci := 4) X Y S k0 rfl i_Ce 11 (by decide) rfl (k1 := 17) (k2 := 0) rfl rfl lk_Ce_41 (fun _ h9 => h9) d_Ce_putTicket_170 (fun b126 e126 k126 => ?_)
  refine lv_ldc2 (v := (18)) X.1 X.2.1 X.2.2.2.1 (X.2.2.1 _ cl_Ce_155) d_Ce_putTicket_173 ?_
  refine t_ur (t_runV (As := [.long ((18))]) (rest := [.ref b116, .ref b101]) (n := 1) X Y S k126 hml hl.1 (c_Pr_latestKey l D E T κ L f125 H.size b126 k126 ((18)) S.1) (ok_k X Y hA KS KR) rfl kl_Ce_Pr_latestKey ks_Pr_latestKey kx_Pr_latestKey ki_Pr_latestKey ini_Pr ⟨rfl, rfl⟩ hd_Pr_latestKey ⟨Nat.le_of_ble_eq_true rfl, Nat.le_of_ble_eq_true rfl⟩ rfl (Nat.le_of_ble_eq_true rfl) d_Ce_putTicket_176 ⟨Nat.le_of_ble_eq_true rfl, Nat.le_of_ble_eq_true rfl⟩) X Y hA (fun b127 H locs Y p127 => ?_)
  obtain ⟨n127, k127⟩ := p127
  have x127 := tKey_n k127
  refine lv_iconst (v := iI 2) X.1 X.2.1 d_Ce_putTicket_179 (by decide) ?_
  refine lv_aload_n X.1 X.2.1 d_Ce_putTicket_180 rfl (lv_at hl 6 rfl) ?_
  refine t_get0 (ci := 4) X Y S k0 rfl i_Ce 11 (by decide) rfl lk_Ce_41 (fun _ h9 => h9) d_Ce_putTicket_181 e126 ?_
  refine t_geti (ci := 7) X Y S k126 rfl i_Pr 3 (by decide) rfl lk_Ce_331 (fun _ h9 => h9) d_Ce_putTicket_184 (fun z128 e128 l128 u128 => ?_)
  refine t_nv (t_runV (As := [.ref b116, .ref b127, .int (iI 2), .int (iI z128)]) (rest := []) (n := 4) X Y S k101 hml hl.1 (c_Va_putSealed l D E T κ L f125 H.size b101 k101 b116 12288 k116 (by omega) b127 n127 k127 (by omega) 2 (by omega) (by omega) z128 (by omega) (by omega) S.1) (ok_k X Y hA KS KR) rfl kl_Ce_Va_putSealed ks_Va_putSealed kx_Va_putSealed ki_Va_putSealed ini_Va ⟨rfl, rfl⟩ hd_Va_putSealed ⟨Nat.le_of_ble_eq_true rfl, Nat.le_of_ble_eq_true rfl⟩ rfl (Nat.le_of_ble_eq_true rfl) d_Ce_putTicket_187 ⟨Nat.le_of_ble_eq_true rfl, Nat.le_of_ble_eq_true rfl⟩) X Y hA S (by decide) (fun f129 H locs Y S s129 p129 => ?_)
  refine lv_aload_n X.1 X.2.1 d_Ce_putTicket_190 rfl (lv_at hl 6 rfl) ?_
  refine t_get0 (ci := 4) X Y S k0 rfl i_Ce 4 (by decide) rfl lk_Ce_34 (fun _ h9 => h9) d_Ce_putTicket_191 ((gF_same (s129.2.2.2 _ ⟨(t_obj S.1 k0).1, nM_of k0 (by decide), by simp⟩).1 4).trans ((gF_same (s125.2.2.2 _ ⟨(t_obj S.1 k0).1, nM_of k0 (by decide), by simp⟩).1 4).trans ((gF_same (s124.2.2.2 _ ⟨(t_obj S.1 k0).1, nM_of k0 (by decide), by simp⟩).1 4).trans ((gF_same (s120.2.2.2 _ ⟨(t_obj S.1 k0).1, nM_of k0 (by decide), by simp⟩).1 4).trans ((gF_same (s119.2.2.2 _ ⟨(t_obj S.1 k0).1, nM_of k0 (by decide), by simp⟩).1 4).trans ((gF_same (s118.2.2.2 _ ⟨(t_obj S.1 k0).1, nM_of k0 (by decide), by simp⟩).1 4).trans ((gF_same (s117.2.2.2 _ ⟨(t_obj S.1 k0).1, nM_of k0 (by decide), by simp⟩).1 4).trans e116))))))) ?_
  refine lv_iload X.1 X.2.1 d_Ce_putTicket_194 (lv_at hl 0 rfl) ?_
  refine t_nv (t_runV (As := [.int (iI z125)]) (rest := []) (n := 1) X Y S k116 hml hl.1 (c_By_close l D E T κ L f129 H.size b116 12288 k116 (by omega) z125 (by omega) (by omega) S.1) (ok_k X Y hA KS KR) rfl kl_Ce_By_close ks_By_close kx_By_close ki_By_close ini_By ⟨rfl, rfl⟩ hd_By_close ⟨Nat.le_of_ble_eq_true rfl, Nat.le_of_ble_eq_true rfl⟩ rfl (Nat.le_of_ble_eq_true rfl) d_Ce_putTicket_196 ⟨Nat.le_of_ble_eq_true rfl, Nat.le_of_ble_eq_true rfl⟩) X Y hA S (by decide) (fun f130 H locs Y S s130 p130 => ?_)
  refine lv_aload_n X.1 X.2.1 d_Ce_putTicket_199 rfl (lv_at hl 6 rfl) ?_
  refine t_get0 (ci := 4) X Y S k0 rfl i_Ce 4 (by decide) rfl lk_Ce_34 (fun _ h9 => h9) d_Ce_putTicket_200 ((gF_same (s130.2.2.2 _ ⟨(t_obj S.1 k0).1, nM_of k0 (by decide), by simp⟩).1 4).trans ((gF_same (s129.2.2.2 _ ⟨(t_obj S.1 k0).1, nM_of k0 (by decide), by simp⟩).1 4).trans ((gF_same (s125.2.2.2 _ ⟨(t_obj S.1 k0).1, nM_of k0 (by decide), by simp⟩).1 4).trans ((gF_same (s124.2.2.2 _ ⟨(t_obj S.1 k0).1, nM_of k0 (by decide), by simp⟩).1 4).trans ((gF_same (s120.2.2.2 _ ⟨(t_obj S.1 k0).1, nM_of k0 (by decide), by simp⟩).1 4).trans ((gF_same (s119.2.2.2 _ ⟨(t_obj S.1 k0).1, nM_of k0 (by decide), by simp⟩).1 4).trans ((gF_same (s118.2.2.2 _ ⟨(t_obj S.1 k0).1, nM_of k0 (by decide), by simp⟩).1 4).trans ((gF_same (s117.2.2.2 _ ⟨(t_obj S.1 k0).1, nM_of k0 (by decide), by simp⟩).1 4).trans e116)))))))) ?_
  refine lv_iload X.1 X.2.1 d_Ce_putTicket_203 (lv_at hl 1 rfl) ?_
  refine t_nv (t_runV (As := [.int (iI z118)]) (rest := []) (n := 1) X Y S k116 hml hl.1 (c_By_close l D E T κ L f130 H.size b116 12288 k116 (by omega) z118 (by omega) (by omega) S.1) (ok_k X Y hA KS KR) rfl kl_Ce_By_close ks_By_close kx_By_close ki_By_close ini_By ⟨rfl, rfl⟩ hd_By_close ⟨Nat.le_of_ble_eq_true rfl, Nat.le_of_ble_eq_true rfl⟩ rfl (Nat.le_of_ble_eq_true rfl) d_Ce_putTicket_205 ⟨Nat.le_of_ble_eq_true rfl, Nat.le_of_ble_eq_true rfl⟩) X Y hA S (by decide) (fun f131 H locs Y S s131 p131 => ?_)
  refine lv_aload_n X.1 X.2.1 d_Ce_putTicket_208 rfl (lv_at hl 6 rfl) ?_
  refine t_get0 (ci := 4) X Y S k0 rfl i_Ce 4 (by decide) rfl lk_Ce_34 (fun _ h9 => h9) d_Ce_putTicket_209 ((gF_same (s131.2.2.2 _ ⟨(t_obj S.1 k0).1, nM_of k0 (by decide), by simp⟩).1 4).trans ((gF_same (s130.2.2.2 _ ⟨(t_obj S.1 k0).1, nM_of k0 (by decide), by simp⟩).1 4).trans ((gF_same (s129.2.2.2 _ ⟨(t_obj S.1 k0).1, nM_of k0 (by decide), by simp⟩).1 4).trans ((gF_same (s125.2.2.2 _ ⟨(t_obj S.1 k0).1, nM_of k0 (by decide), by simp⟩).1 4).trans ((gF_same (s124.2.2.2 _ ⟨(t_obj S.1 k0).1, nM_of k0 (by decide), by simp⟩).1 4).trans ((gF_same (s120.2.2.2 _ ⟨(t_obj S.1 k0).1, nM_of k0 (by decide), by simp⟩).1 4).trans ((gF_same (s119.2.2.2 _ ⟨(t_obj S.1 k0).1, nM_of k0 (by decide), by simp⟩).1 4).trans ((gF_same (s118.2.2.2 _ ⟨(t_obj S.1 k0).1, nM_of k0 (by decide), by simp⟩).1 4).trans ((gF_same (s117.2.2.2 _ ⟨(t_obj S.1 k0).1, nM_of k0 (by decide), by simp⟩).1 4).trans e116))))))))) ?_
  refine lv_iload X.1 X.2.1 d_Ce_putTicket_212 (lv_at hl 2 rfl) ?_
  refine t_nv (t_runV (As := [.int (iI z117)]) (rest := []) (n := 1) X Y S k116 hml hl.1 (c_By_close l D E T κ L f131 H.size b116 12288 k116 (by omega) z117 (by omega) (by omega) S.1) (ok_k X Y hA KS KR) rfl kl_Ce_By_close ks_By_close kx_By_close ki_By_close ini_By ⟨rfl, rfl⟩ hd_By_close ⟨Nat.le_of_ble_eq_true rfl, Nat.le_of_ble_eq_true rfl⟩ rfl (Nat.le_of_ble_eq_true rfl) d_Ce_putTicket_214 ⟨Nat.le_of_ble_eq_true rfl, Nat.le_of_ble_eq_true rfl⟩) X Y hA S (by decide) (fun f132 H locs Y S s132 p132 => ?_)
  exact c_retv hQQ X Y hr hlk ⟨rfl, S, trivial⟩ d_Ce_putTicket_217
set_option maxHeartbeats 4000000 in
set_option maxRecDepth 100000 in
theorem c_Ce_putReplyPart (l : Launch) (D : va_G) (E : cE) (T : cT) (κ : tK) (L : List Nat) (f : pF) (sz : Nat) (h : Nat) (k0 : κ h = (14, 0)) (a1 n1 : Nat) (k1 : tKey T κ a1 n1) (x1 : n1 = 0 ∨ n1 = 16 ∨ n1 = 32) (hw : tW E T κ L f) : Met l y_Ce_putReplyPart (k_Ce_putReplyPart :: lw_tg) (kRm 7 181 0 0) (va_Pc [.ref h, .ref a1] (kPre D E T L f sz)) (va_Qv (nPv E T [1, 13] κ L f (fun (g : pF) => True)) (cPost D E (pA L sz)) (pA L sz)) 0 0 (pA L sz) := by
  refine k_enter (own := R_Ce) (by decide) rfl (Nat.le_of_ble_eq_true rfl) (fun p e s m below meth c ls AV QQ H locs hQQ X Y hA hin hr hlk hml hl KS KR => ?_)
  have hl : lv_has ls 8 [(0, .ref h), (1, .ref a1)] := hl
  have S : tS E T (tFr κ L [1, 13] []) κ L f κ L f := tS_rf hw
  refine lv_aload_n X.1 X.2.1 d_Ce_putReplyPart_0 rfl (lv_at hl 0 rfl) ?_
  refine t_getr (ci := 4) X Y S k0 rfl i_Ce 0 (by decide) rfl (k1 := 21) (k2 := 0) rfl rfl lk_Ce_18 (fun _ h9 => h9) d_Ce_putReplyPart_1 (fun b101 e101 k101 => ?_)
  refine t_getr (ci := 11) X Y S k101 rfl i_Va 1 (by decide) rfl (k1 := 13) (k2 := 6144) rfl rfl lk_Ce_165 (fun _ h9 => h9) d_Ce_putReplyPart_4 (fun b102 e102 k102 => ?_)
  refine lv_astore_n (lv' := [(2, .ref b102), (0, .ref h), (1, .ref a1)]) X.1 X.2.1 d_Ce_putReplyPart_7 rfl hl (by decide) rfl (fun ls hl => ?_)
  refine lv_aload_n X.1 X.2.1 d_Ce_putReplyPart_8 rfl (lv_at hl 0 rfl) ?_
  refine t_nv (t_runV (As := []) (rest := []) (n := 0) X Y S k102 hml hl.1 (c_By_clear l D E T κ L f H.size b102 6144 k102 (by omega) S.1) (ok_k X Y hA KS KR) rfl kl_Ce_By_clear ks_By_clear kx_By_clear ki_By_clear ini_By ⟨rfl, rfl⟩ hd_By_clear ⟨Nat.le_of_ble_eq_true rfl, Nat.le_of_ble_eq_true rfl⟩ rfl (Nat.le_of_ble_eq_true rfl) d_Ce_putReplyPart_9 ⟨Nat.le_of_ble_eq_true rfl, Nat.le_of_ble_eq_true rfl⟩) X Y hA S (by decide) (fun f103 H locs Y S s103 p103 => ?_)
  refine lv_aload_n X.1 X.2.1 d_Ce_putReplyPart_12 rfl (lv_at hl 0 rfl) ?_
  refine lv_aload_n X.1 X.2.1 d_Ce_putReplyPart_13 rfl (lv_at hl 1 rfl) ?_
  refine t_geti (ci := 4) X Y S k0 rfl i_Ce 6 (by decide) rfl lk_Ce_65 (fun _ h9 => h9) d_Ce_putReplyPart_14 (fun z104 e104 l104 u104 => ?_)
  have J106 : ∀ (z105 : Int) (H : Heap) (locs : List Loc) (ls : Array Slot), (121 ≤ z105) → (z105 ≤ 122) → pH D cCl (pA L sz) s.heap L f103 H locs → tS E T (tFr κ L [1, 13] []) κ L f κ L f103 → lv_has ls 8 [(0, .ref h), (1, .ref a1), (2, .ref b102)] → W p l e (kRm 7 181 0 0) s m AV below meth c H locs 0 0 QQ (F0 m 27 ls [.int (iI z105), .ref b102]) := by
    intro z105 H locs ls l105 u105 Y S hl
    refine t_ni (t_runV (As := [.int (iI z105)]) (rest := []) (n := 1) X Y S k102 hml hl.1 (c_By_open l D E T κ L f103 H.size b102 6144 k102 (by omega) z105 (by omega) (by omega) S.1) (ok_k X Y hA KS KR) rfl kl_Ce_By_open ks_By_open kx_By_open ki_By_open ini_By ⟨rfl, rfl⟩ hd_By_open ⟨Nat.le_of_ble_eq_true rfl, Nat.le_of_ble_eq_true rfl⟩ rfl (Nat.le_of_ble_eq_true rfl) d_Ce_putReplyPart_27 ⟨Nat.le_of_ble_eq_true rfl, Nat.le_of_ble_eq_true rfl⟩) X Y hA S (by decide) (fun z110 f110 H locs Y S s110 p110 => ?_)
    obtain ⟨l110, u110⟩ := p110
    refine lv_istore_n (lv' := [(3, .int (iI z110)), (0, .ref h), (1, .ref a1), (2, .ref b102)]) X.1 X.2.1 d_Ce_putReplyPart_30 rfl hl (by decide) rfl (fun ls hl => ?_)
    refine lv_aload_n X.1 X.2.1 d_Ce_putReplyPart_31 rfl (lv_at hl 3 rfl) ?_
    refine lv_bipush (v := iI 48) X.1 X.2.1 d_Ce_putReplyPart_32 (by decide) ?_
    refine t_ni (t_runV (As := [.int (iI 48)]) (rest := []) (n := 1) X Y S k102 hml hl.1 (c_By_open l D E T κ L f110 H.size b102 6144 k102 (by omega) 48 (by omega) (by omega) S.1) (ok_k X Y hA KS KR) rfl kl_Ce_By_open ks_By_open kx_By_open ki_By_open ini_By ⟨rfl, rfl⟩ hd_By_open ⟨Nat.le_of_ble_eq_true rfl, Nat.le_of_ble_eq_true rfl⟩ rfl (Nat.le_of_ble_eq_true rfl) d_Ce_putReplyPart_34 ⟨Nat.le_of_ble_eq_true rfl, Nat.le_of_ble_eq_true rfl⟩) X Y hA S (by decide) (fun z111 f111 H locs Y S s111 p111 => ?_)
    obtain ⟨l111, u111⟩ := p111
    refine lv_istore (lv' := [(4, .int (iI z111)), (3, .int (iI z110)), (0, .ref h), (1, .ref a1), (2, .ref b102)]) X.1 X.2.1 d_Ce_putReplyPart_37 hl (by decide) rfl (fun ls hl => ?_)
    refine lv_aload_n X.1 X.2.1 d_Ce_putReplyPart_39 rfl (lv_at hl 4 rfl) ?_
    refine lv_iconst (v := iI 0) X.1 X.2.1 d_Ce_putReplyPart_40 (by decide) ?_
    refine lv_aload_n X.1 X.2.1 d_Ce_putReplyPart_41 rfl (lv_at hl 3 rfl) ?_
    refine t_nv (t_runV (As := [.int (iI 0), .ref a1]) (rest := []) (n := 2) X Y S k102 hml hl.1 (c_By_putKey l D E T κ L f111 H.size b102 6144 k102 (by omega) 0 (by omega) (by omega) a1 n1 k1 (by omega) S.1) (ok_k X Y hA KS KR) rfl kl_Ce_By_putKey ks_By_putKey kx_By_putKey ki_By_putKey ini_By ⟨rfl, rfl⟩ hd_By_putKey ⟨Nat.le_of_ble_eq_true rfl, Nat.le_of_ble_eq_true rfl⟩ rfl (Nat.le_of_ble_eq_true rfl) d_Ce_putReplyPart_42 ⟨Nat.le_of_ble_eq_true rfl, Nat.le_of_ble_eq_true rfl⟩) X Y hA S (by decide) (fun f112 H locs Y S s112 p112 => ?_)
    refine lv_aload_n X.1 X.2.1 d_Ce_putReplyPart_45 rfl (lv_at hl 4 rfl) ?_
    refine lv_iconst (v := iI 1) X.1 X.2.1 d_Ce_putReplyPart_46 (by decide) ?_
    refine t_ni (t_runV (As := [.int (iI 1)]) (rest := []) (n := 1) X Y S k102 hml hl.1 (c_By_openField l D E T κ L f112 H.size b102 6144 k102 (by omega) 1 (by omega) (by omega) S.1) (ok_k X Y hA KS KR) rfl kl_Ce_By_openField ks_By_openField kx_By_openField ki_By_openField ini_By ⟨rfl, rfl⟩ hd_By_openField ⟨Nat.le_of_ble_eq_true rfl, Nat.le_of_ble_eq_true rfl⟩ rfl (Nat.le_of_ble_eq_true rfl) d_Ce_putReplyPart_47 ⟨Nat.le_of_ble_eq_true rfl, Nat.le_of_ble_eq_true rfl⟩) X Y hA S (by decide) (fun z113 f113 H locs Y S s113 p113 => ?_)
    obtain ⟨l113, u113⟩ := p113
    refine lv_istore (lv' := [(5, .int (iI z113)), (4, .int (iI z111)), (3, .int (iI z110)), (0, .ref h), (1, .ref a1), (2, .ref b102)]) X.1 X.2.1 d_Ce_putReplyPart_50 hl (by decide) rfl (fun ls hl => ?_)
    refine lv_aload_n X.1 X.2.1 d_Ce_putReplyPart_52 rfl (lv_at hl 5 rfl) ?_
    refine lv_bipush (v := iI 48) X.1 X.2.1 d_Ce_putReplyPart_53 (by decide) ?_
    refine t_ni (t_runV (As := [.int (iI 48)]) (rest := []) (n := 1) X Y S k102 hml hl.1 (c_By_open l D E T κ L f113 H.size b102 6144 k102 (by omega) 48 (by omega) (by omega) S.1) (ok_k X Y hA KS KR) rfl kl_Ce_By_open ks_By_open kx_By_open ki_By_open ini_By ⟨rfl, rfl⟩ hd_By_open ⟨Nat.le_of_ble_eq_true rfl, Nat.le_of_ble_eq_true rfl⟩ rfl (Nat.le_of_ble_eq_true rfl) d_Ce_putReplyPart_55 ⟨Nat.le_of_ble_eq_true rfl, Nat.le_of_ble_eq_true rfl⟩) X Y hA S (by decide) (fun z114 f114 H locs Y S s114 p114 => ?_)
    obtain ⟨l114, u114⟩ := p114
    refine lv_istore (lv' := [(6, .int (iI z114)), (5, .int (iI z113)), (4, .int (iI z111)), (3, .int (iI z110)), (0, .ref h), (1, .ref a1), (2, .ref b102)]) X.1 X.2.1 d_Ce_putReplyPart_58 hl (by decide) rfl (fun ls hl => ?_)
    refine lv_aload_n X.1 X.2.1 d_Ce_putReplyPart_60 rfl (lv_at hl 6 rfl) ?_
    refine lv_bipush (v := iI 48) X.1 X.2.1 d_Ce_putReplyPart_61 (by decide) ?_
    refine t_ni (t_runV (As := [.int (iI 48)]) (rest := []) (n := 1) X Y S k102 hml hl.1 (c_By_open l D E T κ L f114 H.size b102 6144 k102 (by omega) 48 (by omega) (by omega) S.1) (ok_k X Y hA KS KR) rfl kl_Ce_By_open ks_By_open kx_By_open ki_By_open ini_By ⟨rfl, rfl⟩ hd_By_open ⟨Nat.le_of_ble_eq_true rfl, Nat.le_of_ble_eq_true rfl⟩ rfl (Nat.le_of_ble_eq_true rfl) d_Ce_putReplyPart_63 ⟨Nat.le_of_ble_eq_true rfl, Nat.le_of_ble_eq_true rfl⟩) X Y hA S (by decide) (fun z115 f115 H locs Y S s115 p115 => ?_)
    obtain ⟨l115, u115⟩ := p115
    refine lv_istore (lv' := [(7, .int (iI z115)), (6, .int (iI z114)), (5, .int (iI z113)), (4, .int (iI z111)), (3, .int (iI z110)), (0, .ref h), (1, .ref a1), (2, .ref b102)]) X.1 X.2.1 d_Ce_putReplyPart_66 hl (by decide) rfl (fun ls hl => ?_)
    refine lv_aload_n X.1 X.2.1 d_Ce_putReplyPart_68 rfl (lv_at hl 7 rfl) ?_
    refine lv_iconst (v := iI 0) X.1 X.2.1 d_Ce_putReplyPart_69 (by decide) ?_
    refine lv_lconst (v := 0) X.1 X.2.1 d_Ce_putReplyPart_70 rfl ?_
    refine t_nv (t_runV (As := [.int (iI 0), .long 0]) (rest := []) (n := 2) X Y S k102 hml hl.1 (c_By_putNumber l D E T κ L f115 H.size b102 6144 k102 (by omega) 0 (by omega) (by omega) 0 S.1) (ok_k X Y hA KS KR) rfl kl_Ce_By_putNumber ks_By_putNumber kx_By_putNumber ki_By_putNumber ini_By ⟨rfl, rfl⟩ hd_By_putNumber ⟨Nat.le_of_ble_eq_true rfl, Nat.le_of_ble_eq_true rfl⟩ rfl (Nat.le_of_ble_eq_true rfl) d_Ce_putReplyPart_71 ⟨Nat.le_of_ble_eq_true rfl, Nat.le_of_ble_eq_true rfl⟩) X Y hA S (by decide) (fun f116 H locs Y S s116 p116 => ?_)
    refine lv_aload_n X.1 X.2.1 d_Ce_putReplyPart_74 rfl (lv_at hl 7 rfl) ?_
    refine lv_iconst (v := iI 1) X.1 X.2.1 d_Ce_putReplyPart_75 (by decide) ?_
    refine lv_aload_n X.1 X.2.1 d_Ce_putReplyPart_76 rfl (lv_at hl 5 rfl) ?_
    refine t_get0 (ci := 4) X Y S k0 rfl i_Ce 0 (by decide) rfl lk_Ce_18 (fun _ h9 => h9) d_Ce_putReplyPart_77 ((gF_same (s116.2.2.2 _ ⟨(t_obj S.1 k0).1, nM_of k0 (by decide), by simp⟩).1 0).trans ((gF_same (s115.2.2.2 _ ⟨(t_obj S.1 k0).1, nM_of k0 (by decide), by simp⟩).1 0).trans ((gF_same (s114.2.2.2 _ ⟨(t_obj S.1 k0).1, nM_of k0 (by decide), by simp⟩).1 0).trans ((gF_same (s113.2.2.2 _ ⟨(t_obj S.1 k0).1, nM_of k0 (by decide), by simp⟩).1 0).trans ((gF_same (s112.2.2.2 _ ⟨(t_obj S.1 k0).1, nM_of k0 (by decide), by simp⟩).1 0).trans ((gF_same (s111.2.2.2 _ ⟨(t_obj S.1 k0).1, nM_of k0 (by decide), by simp⟩).1 0).trans ((gF_same (s110.2.2.2 _ ⟨(t_obj S.1 k0).1, nM_of k0 (by decide), by simp⟩).1 0).trans ((gF_same (s103.2.2.2 _ ⟨(t_obj S.1 k0).1, nM_of k0 (by decide), by simp⟩).1 0).trans e101)))))))) ?_
    refine t_geti (ci := 11) X Y S k101 rfl i_Va 0 (by decide) rfl lk_Ce_112 (fun _ h9 => h9) d_Ce_putReplyPart_80 (fun z117 e117 l117 u117 => ?_)
    refine t_nv (t_runV (As := [.int (iI 1), .int (iI z117)]) (rest := []) (n := 2) X Y S k102 hml hl.1 (c_By_putTime l D E T κ L f116 H.size b102 6144 k102 (by omega) 1 (by omega) (by omega) z117 (by omega) (by omega) S.1) (ok_k X Y hA KS KR) rfl kl_Ce_By_putTime ks_By_putTime kx_By_putTime ki_By_putTime ini_By ⟨rfl, rfl⟩ hd_By_putTime ⟨Nat.le_of_ble_eq_true rfl, Nat.le_of_ble_eq_true rfl⟩ rfl (Nat.le_of_ble_eq_true rfl) d_Ce_putReplyPart_83 ⟨Nat.le_of_ble_eq_true rfl, Nat.le_of_ble_eq_true rfl⟩) X Y hA S (by decide) (fun f118 H locs Y S s118 p118 => ?_)
    refine lv_aload_n X.1 X.2.1 d_Ce_putReplyPart_86 rfl (lv_at hl 7 rfl) ?_
    refine lv_iload X.1 X.2.1 d_Ce_putReplyPart_87 (lv_at hl 0 rfl) ?_
    refine t_nv (t_runV (As := [.int (iI z115)]) (rest := []) (n := 1) X Y S k102 hml hl.1 (c_By_close l D E T κ L f118 H.size b102 6144 k102 (by omega) z115 (by omega) (by omega) S.1) (ok_k X Y hA KS KR) rfl kl_Ce_By_close ks_By_close kx_By_close ki_By_close ini_By ⟨rfl, rfl⟩ hd_By_close ⟨Nat.le_of_ble_eq_true rfl, Nat.le_of_ble_eq_true rfl⟩ rfl (Nat.le_of_ble_eq_true rfl) d_Ce_putReplyPart_89 ⟨Nat.le_of_ble_eq_true rfl, Nat.le_of_ble_eq_true rfl⟩) X Y hA S (by decide) (fun f119 H locs Y S s119 p119 => ?_)
    refine lv_aload_n X.1 X.2.1 d_Ce_putReplyPart_92 rfl (lv_at hl 7 rfl) ?_
    refine lv_iload X.1 X.2.1 d_Ce_putReplyPart_93 (lv_at hl 1 rfl) ?_
    refine t_nv (t_runV (As := [.int (iI z114)]) (rest := []) (n := 1) X Y S k102 hml hl.1 (c_By_close l D E T κ L f119 H.size b102 6144 k102 (by omega) z114 (by omega) (by omega) S.1) (ok_k X Y hA KS KR) rfl kl_Ce_By_close ks_By_close kx_By_close ki_By_close ini_By ⟨rfl, rfl⟩ hd_By_close ⟨Nat.le_of_ble_eq_true rfl, Nat.le_of_ble_eq_true rfl⟩ rfl (Nat.le_of_ble_eq_true rfl) d_Ce_putReplyPart_95 ⟨Nat.le_of_ble_eq_true rfl, Nat.le_of_ble_eq_true rfl⟩) X Y hA S (by decide) (fun f120 H locs Y S s120 p120 => ?_)
    refine lv_aload_n X.1 X.2.1 d_Ce_putReplyPart_98 rfl (lv_at hl 7 rfl) ?_
    refine lv_iload X.1 X.2.1 d_Ce_putReplyPart_99 (lv_at hl 2 rfl) ?_
    refine t_nv (t_runV (As := [.int (iI z113)]) (rest := []) (n := 1) X Y S k102 hml hl.1 (c_By_close l D E T κ L f120 H.size b102 6144 k102 (by omega) z113 (by omega) (by omega) S.1) (ok_k X Y hA KS KR) rfl kl_Ce_By_close ks_By_close kx_By_close ki_By_close ini_By ⟨rfl, rfl⟩ hd_By_close ⟨Nat.le_of_ble_eq_true rfl, Nat.le_of_ble_eq_true rfl⟩ rfl (Nat.le_of_ble_eq_true rfl) d_Ce_putReplyPart_101 ⟨Nat.le_of_ble_eq_true rfl, Nat.le_of_ble_eq_true rfl⟩) X Y hA S (by decide) (fun f121 H locs Y S s121 p121 => ?_)
    refine lv_aload_n X.1 X.2.1 d_Ce_putReplyPart_104 rfl (lv_at hl 7 rfl) ?_
    refine lv_iconst (v := iI 2) X.1 X.2.1 d_Ce_putReplyPart_105 (by decide) ?_
    refine lv_aload_n X.1 X.2.1 d_Ce_putReplyPart_106 rfl (lv_at hl 5 rfl) ?_
    refine t_getr (ci := 4) X Y S k0 rfl i_Ce 3 (by decide) rfl (k1 := 13) (k2 := 4000) rfl rfl lk_Ce_30 (fun _ h9 => h9) d_Ce_putReplyPart_107 (fun b122 e122 k122 => ?_)
    refine lv_aload_n X.1 X.2.1 d_Ce_putReplyPart_110 rfl (lv_at hl 5 rfl) ?_
    refine t_get0 (ci := 4) X Y S k0 rfl i_Ce 3 (by decide) rfl lk_Ce_30 (fun _ h9 => h9) d_Ce_putReplyPart_111 e122 ?_
    refine lv_aload_n X.1 X.2.1 d_Ce_putReplyPart_114 rfl (lv_at hl 5 rfl) ?_
    refine t_geti (ci := 4) X Y S k0 rfl i_Ce 8 (by decide) rfl lk_Ce_81 (fun _ h9 => h9) d_Ce_putReplyPart_115 (fun z123 e123 l123 u123 => ?_)
    refine lv_bipush (v := iI 7) X.1 X.2.1 d_Ce_putReplyPart_118 (by decide) ?_
    refine t_ui (t_runV (As := [.int (iI z123), .int (iI 7)]) (rest := [.ref b122, .int (iI 2), .ref b102]) (n := 2) X Y S k122 hml hl.1 (c_By_field l D E T κ L f121 H.size b122 4000 k122 (by omega) z123 (by omega) (by omega) 7 (by omega) (by omega) S.1) (ok_k X Y hA KS KR) rfl kl_Ce_By_field ks_By_field kx_By_field ki_By_field ini_By ⟨rfl, rfl⟩ hd_By_field ⟨Nat.le_of_ble_eq_true rfl, Nat.le_of_ble_eq_true rfl⟩ rfl (Nat.le_of_ble_eq_true rfl) d_Ce_putReplyPart_120 ⟨Nat.le_of_ble_eq_true rfl, Nat.le_of_ble_eq_true rfl⟩) X Y hA (fun z124 H locs Y p124 => ?_)
    obtain ⟨l124, u124⟩ := p124
    refine t_nv (t_runV (As := [.int (iI 2), .ref b122, .int (iI z124)]) (rest := []) (n := 3) X Y S k102 hml hl.1 (c_By_putCopy l D E T κ L f121 H.size b102 6144 k102 (by omega) 2 (by omega) (by omega) b122 4000 k122 (by omega) z124 (by omega) (by omega) S.1) (ok_k X Y hA KS KR) rfl kl_Ce_By_putCopy ks_By_putCopy kx_By_putCopy ki_By_putCopy ini_By ⟨rfl, rfl⟩ hd_By_putCopy ⟨Nat.le_of_ble_eq_true rfl, Nat.le_of_ble_eq_true rfl⟩ rfl (Nat.le_of_ble_eq_true rfl) d_Ce_putReplyPart_123 ⟨Nat.le_of_ble_eq_true rfl, Nat.le_of_ble_eq_true rfl⟩) X Y hA S (by decide) (fun f125 H locs Y S s125 p125 => ?_)
    refine lv_aload_n X.1 X.2.1 d_Ce_putReplyPart_126 rfl (lv_at hl 7 rfl) ?_
    refine lv_iconst (v := iI 4) X.1 X.2.1 d_Ce_putReplyPart_127 (by decide) ?_
    refine lv_aload_n X.1 X.2.1 d_Ce_putReplyPart_128 rfl (lv_at hl 5 rfl) ?_
    refine t_geti (ci := 4) X Y S k0 rfl i_Ce 13 (by decide) rfl lk_Ce_247 (fun _ h9 => h9) d_Ce_putReplyPart_129 (fun z126 e126 l126 u126 => ?_)
    refine t_nv (t_runV (As := [.int (iI 4), .int (iI z126)]) (rest := []) (n := 2) X Y S k102 hml hl.1 (c_By_putBits l D E T κ L f125 H.size b102 6144 k102 (by omega) 4 (by omega) (by omega) z126 (by omega) (by omega) S.1) (ok_k X Y hA KS KR) rfl kl_Ce_By_putBits ks_By_putBits kx_By_putBits ki_By_putBits ini_By ⟨rfl, rfl⟩ hd_By_putBits ⟨Nat.le_of_ble_eq_true rfl, Nat.le_of_ble_eq_true rfl⟩ rfl (Nat.le_of_ble_eq_true rfl) d_Ce_putReplyPart_132 ⟨Nat.le_of_ble_eq_true rfl, Nat.le_of_ble_eq_true rfl⟩) X Y hA S (by decide) (fun f127 H locs Y S s127 p127 => ?_)
    refine lv_aload_n X.1 X.2.1 d_Ce_putReplyPart_135 rfl (lv_at hl 5 rfl) ?_
    refine lv_aload_n X.1 X.2.1 d_Ce_putReplyPart_136 rfl (lv_at hl 7 rfl) ?_
    refine t_nv (t_runV (As := [.ref b102]) (rest := []) (n := 1) X Y S k0 hml hl.1 (c_Ce_putTimes l D E T κ L f127 H.size h k0 b102 6144 k102 (by omega) S.1) (ok_k X Y hA KS KR) rfl kl_Ce_Ce_putTimes ks_Ce_putTimes kx_Ce_putTimes ki_Ce_putTimes ini_Ce ⟨rfl, rfl⟩ hd_Ce_putTimes ⟨Nat.le_of_ble_eq_true rfl, Nat.le_of_ble_eq_true rfl⟩ rfl (Nat.le_of_ble_eq_true rfl) d_Ce_putReplyPart_137 ⟨Nat.le_of_ble_eq_true rfl, Nat.le_of_ble_eq_true rfl⟩) X Y hA S (by decide) (fun f128 H locs Y S s128 p128 => ?_)
    refine lv_aload_n X.1 X.2.1 d_Ce_putReplyPart_140 rfl (lv_at hl 7 rfl) ?_
    refine lv_bipush (v := iI 9) X.1 X.2.1 d_Ce_putReplyPart_141 (by decide) ?_
    refine t_nv (t_runV (As := [.int (iI 9)]) (rest := []) (n := 1) X Y S k102 hml hl.1 (c_By_putRealm l D E T κ L f128 H.size b102 6144 k102 (by omega) 9 (by omega) (by omega) S.1) (ok_k X Y hA KS KR) rfl kl_Ce_By_putRealm ks_By_putRealm kx_By_putRealm ki_By_putRealm ini_By ⟨rfl, rfl⟩ hd_By_putRealm ⟨Nat.le_of_ble_eq_true rfl, Nat.le_of_ble_eq_true rfl⟩ rfl (Nat.le_of_ble_eq_true rfl) d_Ce_putReplyPart_143 ⟨Nat.le_of_ble_eq_true rfl, Nat.le_of_ble_eq_true rfl⟩) X Y hA S (by decide) (fun f129 H locs Y S s129 p129 => ?_)
    refine lv_aload_n X.1 X.2.1 d_Ce_putReplyPart_146 rfl (lv_at hl 7 rfl) ?_
    refine lv_bipush (v := iI 10) X.1 X.2.1 d_Ce_putReplyPart_147 (by decide) ?_
    refine lv_aload_n X.1 X.2.1 d_Ce_putReplyPart_149 rfl (lv_at hl 5 rfl) ?_
    refine t_get0 (ci := 4) X Y S k0 rfl i_Ce 3 (by decide) rfl lk_Ce_30 (fun _ h9 => h9) d_Ce_putReplyPart_150 ((gF_same (s129.2.2.2 _ ⟨(t_obj S.1 k0).1, nM_of k0 (by decide), by simp⟩).1 3).trans ((gF_same (s128.2.2.2 _ ⟨(t_obj S.1 k0).1, nM_of k0 (by decide), by simp⟩).1 3).trans ((gF_same (s127.2.2.2 _ ⟨(t_obj S.1 k0).1, nM_of k0 (by decide), by simp⟩).1 3).trans ((gF_same (s125.2.2.2 _ ⟨(t_obj S.1 k0).1, nM_of k0 (by decide), by simp⟩).1 3).trans e122)))) ?_
    refine lv_aload_n X.1 X.2.1 d_Ce_putReplyPart_153 rfl (lv_at hl 5 rfl) ?_
    refine t_get0 (ci := 4) X Y S k0 rfl i_Ce 3 (by decide) rfl lk_Ce_30 (fun _ h9 => h9) d_Ce_putReplyPart_154 ((gF_same (s129.2.2.2 _ ⟨(t_obj S.1 k0).1, nM_of k0 (by decide), by simp⟩).1 3).trans ((gF_same (s128.2.2.2 _ ⟨(t_obj S.1 k0).1, nM_of k0 (by decide), by simp⟩).1 3).trans ((gF_same (s127.2.2.2 _ ⟨(t_obj S.1 k0).1, nM_of k0 (by decide), by simp⟩).1 3).trans ((gF_same (s125.2.2.2 _ ⟨(t_obj S.1 k0).1, nM_of k0 (by decide), by simp⟩).1 3).trans e122)))) ?_
    refine lv_aload_n X.1 X.2.1 d_Ce_putReplyPart_157 rfl (lv_at hl 5 rfl) ?_
    refine t_get0 (ci := 4) X Y S k0 rfl i_Ce 8 (by decide) rfl lk_Ce_81 (fun _ h9 => h9) d_Ce_putReplyPart_158 ((gF_same (s129.2.2.2 _ ⟨(t_obj S.1 k0).1, nM_of k0 (by decide), by simp⟩).1 8).trans ((gF_same (s128.2.2.2 _ ⟨(t_obj S.1 k0).1, nM_of k0 (by decide), by simp⟩).1 8).trans ((gF_same (s127.2.2.2 _ ⟨(t_obj S.1 k0).1, nM_of k0 (by decide), by simp⟩).1 8).trans ((gF_same (s125.2.2.2 _ ⟨(t_obj S.1 k0).1, nM_of k0 (by decide), by simp⟩).1 8).trans e123)))) ?_
    refine lv_iconst (v := iI 3) X.1 X.2.1 d_Ce_putReplyPart_161 (by decide) ?_
    refine t_ui (t_runV (As := [.int (iI z123), .int (iI 3)]) (rest := [.ref b122, .int (iI 10), .ref b102]) (n := 2) X Y S k122 hml hl.1 (c_By_field l D E T κ L f129 H.size b122 4000 k122 (by omega) z123 (by omega) (by omega) 3 (by omega) (by omega) S.1) (ok_k X Y hA KS KR) rfl kl_Ce_By_field ks_By_field kx_By_field ki_By_field ini_By ⟨rfl, rfl⟩ hd_By_field ⟨Nat.le_of_ble_eq_true rfl, Nat.le_of_ble_eq_true rfl⟩ rfl (Nat.le_of_ble_eq_true rfl) d_Ce_putReplyPart_162 ⟨Nat.le_of_ble_eq_true rfl, Nat.le_of_ble_eq_true rfl⟩) X Y hA (fun z130 H locs Y p130 => ?_)
    obtain ⟨l130, u130⟩ := p130
    refine t_nv (t_runV (As := [.int (iI 10), .ref b122, .int (iI z130)]) (rest := []) (n := 3) X Y S k102 hml hl.1 (c_By_putCopy l D E T κ L f129 H.size b102 6144 k102 (by omega) 10 (by omega) (by omega) b122 4000 k122 (by omega) z130 (by omega) (by omega) S.1) (ok_k X Y hA KS KR) rfl kl_Ce_By_putCopy ks_By_putCopy kx_By_putCopy ki_By_putCopy ini_By ⟨rfl, rfl⟩ hd_By_putCopy ⟨Nat.le_of_ble_eq_true rfl, Nat.le_of_ble_eq_true rfl⟩ rfl (Nat.le_of_ble_eq_true rfl) d_Ce_putReplyPart_165 ⟨Nat.le_of_ble_eq_true rfl, Nat.le_of_ble_eq_true rfl⟩) X Y hA S (by decide) (fun f131 H locs Y S s131 p131 => ?_)
    refine lv_aload_n X.1 X.2.1 d_Ce_putReplyPart_168 rfl (lv_at hl 5 rfl) ?_
    refine lv_aload_n X.1 X.2.1 d_Ce_putReplyPart_169 rfl (lv_at hl 7 rfl) ?_
    refine lv_bipush (v := iI 11) X.1 X.2.1 d_Ce_putReplyPart_170 (by decide) ?_
    refine t_nv (t_runV (As := [.ref b102, .int (iI 11)]) (rest := []) (n := 2) X Y S k0 hml hl.1 (c_Ce_putAddresses l D E T κ L f131 H.size h k0 b102 6144 k102 (by omega) 11 (by omega) (by omega) S.1) (ok_k X Y hA KS KR) rfl kl_Ce_Ce_putAddresses ks_Ce_putAddresses kx_Ce_putAddresses ki_Ce_putAddresses ini_Ce ⟨rfl, rfl⟩ hd_Ce_putAddresses ⟨Nat.le_of_ble_eq_true rfl, Nat.le_of_ble_eq_true rfl⟩ rfl (Nat.le_of_ble_eq_true rfl) d_Ce_putReplyPart_172 ⟨Nat.le_of_ble_eq_true rfl, Nat.le_of_ble_eq_true rfl⟩) X Y hA S (by decide) (fun f132 H locs Y S s132 p132 => ?_)
    refine lv_aload_n X.1 X.2.1 d_Ce_putReplyPart_175 rfl (lv_at hl 7 rfl) ?_
    refine lv_iload X.1 X.2.1 d_Ce_putReplyPart_176 (lv_at hl 3 rfl) ?_
    refine t_nv (t_runV (As := [.int (iI z111)]) (rest := []) (n := 1) X Y S k102 hml hl.1 (c_By_close l D E T κ L f132 H.size b102 6144 k102 (by omega) z111 (by omega) (by omega) S.1) (ok_k X Y hA KS KR) rfl kl_Ce_By_close ks_By_close kx_By_close ki_By_close ini_By ⟨rfl, rfl⟩ hd_By_close ⟨Nat.le_of_ble_eq_true rfl, Nat.le_of_ble_eq_true rfl⟩ rfl (Nat.le_of_ble_eq_true rfl) d_Ce_putReplyPart_178 ⟨Nat.le_of_ble_eq_true rfl, Nat.le_of_ble_eq_true rfl⟩) X Y hA S (by decide) (fun f133 H locs Y S s133 p133 => ?_)
    refine lv_aload_n X.1 X.2.1 d_Ce_putReplyPart_181 rfl (lv_at hl 7 rfl) ?_
    refine lv_iload_n X.1 X.2.1 d_Ce_putReplyPart_182 rfl (lv_at hl 4 rfl) ?_
    refine t_nv (t_runV (As := [.int (iI z110)]) (rest := []) (n := 1) X Y S k102 hml hl.1 (c_By_close l D E T κ L f133 H.size b102 6144 k102 (by omega) z110 (by omega) (by omega) S.1) (ok_k X Y hA KS KR) rfl kl_Ce_By_close ks_By_close kx_By_close ki_By_close ini_By ⟨rfl, rfl⟩ hd_By_close ⟨Nat.le_of_ble_eq_true rfl, Nat.le_of_ble_eq_true rfl⟩ rfl (Nat.le_of_ble_eq_true rfl) d_Ce_putReplyPart_183 ⟨Nat.le_of_ble_eq_true rfl, Nat.le_of_ble_eq_true rfl⟩) X Y hA S (by decide) (fun f134 H locs Y S s134 p134 => ?_)
    exact c_retv hQQ X Y hr hlk ⟨rfl, S, trivial⟩ d_Ce_putReplyPart_186
  refine z_if_eq (tgt := 25) X.1 X.2.1 d_Ce_putReplyPart_17 (by decide) ⟨by omega, by omega⟩ (fun h135 => ?_) (fun h135 => ?_)
  · refine lv_bipush (v := iI 122) X.1 X.2.1 d_Ce_putReplyPart_25 (by decide) ?_
    exact J106 122 _ _ _ (by omega) (by omega) Y S (lv_sub hl [1, 2, 0] rfl)
  · refine lv_bipush (v := iI 121) X.1 X.2.1 d_Ce_putReplyPart_20 (by decide) ?_
    refine lv_goto (tgt := 27) X.1 X.2.1 d_Ce_putReplyPart_22 (by decide) ?_
    exact J106 121 _ _ _ (by omega) (by omega) Y S (lv_sub hl [1, 2, 0] rfl)
set_option maxHeartbeats 4000000 in
set_option maxRecDepth 100000 in
theorem c_Ce_sealReply (l : Launch) (D : va_G) (E : cE) (T : cT) (κ : tK) (L : List Nat) (f : pF) (sz : Nat) (h : Nat) (k0 : κ h = (14, 0)) (hw : tW E T κ L f) : Met l y_Ce_sealReply (k_Ce_sealReply :: lw_tg) (kRm 6 187 1 32) (va_Pc [.ref h] (kPre D E T L f sz)) (va_Qv (aPv E T [1, 2, 3, 4, 11, 13, 16, 21] [] κ L f (fun (k : tK) (g : pF) => True)) (cPost D E (pA L sz)) (pA L sz)) 1 32 (pA L sz) := by
  refine k_enter (own := R_Ce) (by decide) rfl (Nat.le_of_ble_eq_true rfl) (fun p e s m below meth c ls AV QQ H locs hQQ X Y hA hin hr hlk hml hl KS KR => ?_)
  have hl : lv_has ls 2 [(0, .ref h)] := hl
  have S : tS E T (tFr κ L [1, 2, 3, 4, 11, 13, 16, 21] []) κ L f κ L f := tS_rf hw
  have hF0 : ∀ b, tFr κ L [1, 2, 3, 4, 11, 13, 16, 21] [] b → b ∈ L := fun b h9 => h9.1
  refine lv_aload_n X.1 X.2.1 d_Ce_sealReply_0 rfl (lv_at hl 0 rfl) ?_
  refine t_geti (ci := 4) X Y S k0 rfl i_Ce 6 (by decide) rfl lk_Ce_65 (fun _ h9 => h9) d_Ce_sealReply_1 (fun z101 e101 l101 u101 => ?_)
  refine z_if_eq (tgt := 39) X.1 X.2.1 d_Ce_sealReply_4 (by decide) ⟨by omega, by omega⟩ (fun h102 => ?_) (fun h102 => ?_)
  · refine lv_aload_n X.1 X.2.1 d_Ce_sealReply_39 rfl (lv_at hl 0 rfl) ?_
    refine t_getr (ci := 4) X Y S k0 rfl i_Ce 1 (by decide) rfl (k1 := 15) (k2 := 0) rfl rfl lk_Ce_22 (fun _ h9 => h9) d_Ce_sealReply_40 (fun b103 e103 k103 => ?_)
    refine t_getr (ci := 5) X Y S k103 rfl i_Ga 2 (by decide) rfl (k1 := 13) (k2 := 4000) rfl rfl lk_Ce_181 (fun _ h9 => h9) d_Ce_sealReply_43 (fun b104 e104 k104 => ?_)
    refine lv_aload_n X.1 X.2.1 d_Ce_sealReply_46 rfl (lv_at hl 0 rfl) ?_
    refine t_get0 (ci := 4) X Y S k0 rfl i_Ce 1 (by decide) rfl lk_Ce_22 (fun _ h9 => h9) d_Ce_sealReply_47 e103 ?_
    refine t_get0 (ci := 5) X Y S k103 rfl i_Ga 2 (by decide) rfl lk_Ce_181 (fun _ h9 => h9) d_Ce_sealReply_50 e104 ?_
    refine lv_iconst (v := iI 0) X.1 X.2.1 d_Ce_sealReply_53 (by decide) ?_
    refine lv_bipush (v := iI 6) X.1 X.2.1 d_Ce_sealReply_54 (by decide) ?_
    refine t_ui (t_runV (As := [.int (iI 0), .int (iI 6)]) (rest := [.ref b104]) (n := 2) X Y S k104 hml hl.1 (c_By_field l D E T κ L f H.size b104 4000 k104 (by omega) 0 (by omega) (by omega) 6 (by omega) (by omega) S.1) (ok_k X Y hA KS KR) rfl kl_Ce_By_field ks_By_field kx_By_field ki_By_field ini_By ⟨rfl, rfl⟩ hd_By_field ⟨Nat.le_of_ble_eq_true rfl, Nat.le_of_ble_eq_true rfl⟩ rfl (Nat.le_of_ble_eq_true rfl) d_Ce_sealReply_56 ⟨Nat.le_of_ble_eq_true rfl, Nat.le_of_ble_eq_true rfl⟩) X Y hA (fun z105 H locs Y p105 => ?_)
    obtain ⟨l105, u105⟩ := p105
    refine t_ar (x_runS (As := [.ref b104, .int (iI z105)]) (rest := []) (n := 2) X hml hl.1 (c_Va_keyAt l D E T κ L f H.size b104 4000 k104 (by omega) z105 (by omega) (by omega) S.1) (ok_k X Y hA KS KR) kl_Ce_Va_keyAt ks_Va_keyAt ki_Va_keyAt ini_Va ⟨rfl, rfl⟩ hd_Va_keyAt.2 ⟨Nat.le_of_ble_eq_true rfl, Nat.le_of_ble_eq_true rfl⟩ rfl (Nat.le_of_ble_eq_true rfl) d_Ce_sealReply_59 ⟨Nat.le_of_ble_eq_true rfl, Nat.le_of_ble_eq_true rfl⟩) X Y hA S (by decide) (fun b106 κ106 L106 f106 H locs Y S s106 p106 => ?_)
    obtain ⟨n106, k106⟩ := p106
    have x106 := tKey_n k106
    have k107 : κ106 h = (14, 0) := tLe_k s106.2.2.1 k0
    refine lv_astore_n (lv' := [(1, .ref b106), (0, .ref h)]) X.1 X.2.1 d_Ce_sealReply_62 rfl hl (by decide) rfl (fun ls hl => ?_)
    refine lv_aload_n X.1 X.2.1 d_Ce_sealReply_63 rfl (lv_at hl 0 rfl) ?_
    refine t_alen X Y S KS (tKey_src k106) (by omega) d_Ce_sealReply_64 ?_
    refine z_if_le (tgt := 86) X.1 X.2.1 d_Ce_sealReply_65 (by decide) ⟨by omega, by omega⟩ (fun h108 => ?_) (fun h108 => ?_)
    · refine lv_aload_n X.1 X.2.1 d_Ce_sealReply_86 rfl (lv_at hl 1 rfl) ?_
      refine t_getr (ci := 4) X Y S k107 rfl i_Ce 0 (by decide) rfl (k1 := 21) (k2 := 0) rfl rfl lk_Ce_18 (fun _ h9 => h9) d_Ce_sealReply_87 (fun b109 e109 k109 => ?_)
      refine lv_aload_n X.1 X.2.1 d_Ce_sealReply_90 rfl (lv_at hl 1 rfl) ?_
      refine t_getr (ci := 4) X Y S k107 rfl i_Ce 4 (by decide) rfl (k1 := 13) (k2 := 12288) rfl rfl lk_Ce_34 (fun _ h9 => h9) d_Ce_sealReply_91 (fun b110 e110 k110 => ?_)
      refine lv_aload_n X.1 X.2.1 d_Ce_sealReply_94 rfl (lv_at hl 1 rfl) ?_
      refine t_getr (ci := 4) X Y S k107 rfl i_Ce 1 (by decide) rfl (k1 := 15) (k2 := 0) rfl rfl lk_Ce_22 (fun _ h9 => h9) d_Ce_sealReply_95 (fun b111 e111 k111 => ?_)
      refine t_getk (ci := 5) X Y S k111 rfl i_Ga 3 (by decide) rfl lk_Ce_184 (fun _ h9 => h9) d_Ce_sealReply_98 (fun b112 n112 e112 k112 x112 => ?_)
      refine lv_bipush (v := iI 8) X.1 X.2.1 d_Ce_sealReply_101 (by decide) ?_
      refine lv_iconst (v := iI 0) X.1 X.2.1 d_Ce_sealReply_103 (by decide) ?_
      refine t_nv (t_runV (As := [.ref b110, .ref b112, .int (iI 8), .int (iI 0)]) (rest := []) (n := 4) X Y S k109 hml hl.1 (c_Va_putSealed l D E T κ106 L106 f106 H.size b109 k109 b110 12288 k110 (by omega) b112 n112 k112 (by omega) 8 (by omega) (by omega) 0 (by omega) (by omega) S.1) (ok_k X Y hA KS KR) rfl kl_Ce_Va_putSealed ks_Va_putSealed kx_Va_putSealed ki_Va_putSealed ini_Va ⟨rfl, rfl⟩ hd_Va_putSealed ⟨Nat.le_of_ble_eq_true rfl, Nat.le_of_ble_eq_true rfl⟩ rfl (Nat.le_of_ble_eq_true rfl) d_Ce_sealReply_104 ⟨Nat.le_of_ble_eq_true rfl, Nat.le_of_ble_eq_true rfl⟩) X Y hA S (by decide) (fun f113 H locs Y S s113 p113 => ?_)
      exact c_retv hQQ X Y hr hlk ⟨κ106, S, trivial⟩ d_Ce_sealReply_107
    · refine lv_aload_n X.1 X.2.1 d_Ce_sealReply_68 rfl (lv_at hl 1 rfl) ?_
      refine t_getr (ci := 4) X Y S k107 rfl i_Ce 0 (by decide) rfl (k1 := 21) (k2 := 0) rfl rfl lk_Ce_18 (fun _ h9 => h9) d_Ce_sealReply_69 (fun b114 e114 k114 => ?_)
      refine lv_aload_n X.1 X.2.1 d_Ce_sealReply_72 rfl (lv_at hl 1 rfl) ?_
      refine t_getr (ci := 4) X Y S k107 rfl i_Ce 4 (by decide) rfl (k1 := 13) (k2 := 12288) rfl rfl lk_Ce_34 (fun _ h9 => h9) d_Ce_sealReply_73 (fun b115 e115 k115 => ?_)
      refine lv_aload_n X.1 X.2.1 d_Ce_sealReply_76 rfl (lv_at hl 0 rfl) ?_
      refine lv_bipush (v := iI 9) X.1 X.2.1 d_Ce_sealReply_77 (by decide) ?_
      refine lv_iconst (v := iI 0) X.1 X.2.1 d_Ce_sealReply_79 (by decide) ?_
      refine t_nv (t_runV (As := [.ref b115, .ref b106, .int (iI 9), .int (iI 0)]) (rest := []) (n := 4) X Y S k114 hml hl.1 (c_Va_putSealed l D E T κ106 L106 f106 H.size b114 k114 b115 12288 k115 (by omega) b106 n106 k106 (by omega) 9 (by omega) (by omega) 0 (by omega) (by omega) S.1) (ok_k X Y hA KS KR) rfl kl_Ce_Va_putSealed ks_Va_putSealed kx_Va_putSealed ki_Va_putSealed ini_Va ⟨rfl, rfl⟩ hd_Va_putSealed ⟨Nat.le_of_ble_eq_true rfl, Nat.le_of_ble_eq_true rfl⟩ rfl (Nat.le_of_ble_eq_true rfl) d_Ce_sealReply_80 ⟨Nat.le_of_ble_eq_true rfl, Nat.le_of_ble_eq_true rfl⟩) X Y hA S (by decide) (fun f116 H locs Y S s116 p116 => ?_)
      refine lv_goto (tgt := 107) X.1 X.2.1 d_Ce_sealReply_83 (by decide) ?_
      exact c_retv hQQ X Y hr hlk ⟨κ106, S, trivial⟩ d_Ce_sealReply_107
  · refine lv_aload_n X.1 X.2.1 d_Ce_sealReply_7 rfl (lv_at hl 0 rfl) ?_
    refine t_getr (ci := 4) X Y S k0 rfl i_Ce 0 (by decide) rfl (k1 := 21) (k2 := 0) rfl rfl lk_Ce_18 (fun _ h9 => h9) d_Ce_sealReply_8 (fun b117 e117 k117 => ?_)
    refine lv_aload_n X.1 X.2.1 d_Ce_sealReply_11 rfl (lv_at hl 0 rfl) ?_
    refine t_getr (ci := 4) X Y S k0 rfl i_Ce 4 (by decide) rfl (k1 := 13) (k2 := 12288) rfl rfl lk_Ce_34 (fun _ h9 => h9) d_Ce_sealReply_12 (fun b118 e118 k118 => ?_)
    refine lv_aload_n X.1 X.2.1 d_Ce_sealReply_15 rfl (lv_at hl 0 rfl) ?_
    refine t_getr (ci := 4) X Y S k0 rfl i_Ce 10 (by decide) rfl (k1 := 17) (k2 := 0) rfl rfl lk_Ce_37 (fun _ h9 => h9) d_Ce_sealReply_16 (fun b119 e119 k119 => ?_)
    refine lv_aload_n X.1 X.2.1 d_Ce_sealReply_19 rfl (lv_at hl 0 rfl) ?_
    refine t_geti (ci := 4) X Y S k0 rfl i_Ce 12 (by decide) rfl lk_Ce_157 (fun _ h9 => h9) d_Ce_sealReply_20 (fun z120 e120 l120 u120 => ?_)
    refine lv_i2l X.1 X.2.1 d_Ce_sealReply_23 rfl ?_
    refine t_anyl (fun v121 => ?_)
    refine t_ur (t_runV (As := [.long v121]) (rest := [.ref b118, .ref b117]) (n := 1) X Y S k119 hml hl.1 (c_Pr_latestKey l D E T κ L f H.size b119 k119 v121 S.1) (ok_k X Y hA KS KR) rfl kl_Ce_Pr_latestKey ks_Pr_latestKey kx_Pr_latestKey ki_Pr_latestKey ini_Pr ⟨rfl, rfl⟩ hd_Pr_latestKey ⟨Nat.le_of_ble_eq_true rfl, Nat.le_of_ble_eq_true rfl⟩ rfl (Nat.le_of_ble_eq_true rfl) d_Ce_sealReply_24 ⟨Nat.le_of_ble_eq_true rfl, Nat.le_of_ble_eq_true rfl⟩) X Y hA (fun b122 H locs Y p122 => ?_)
    obtain ⟨n122, k122⟩ := p122
    have x122 := tKey_n k122
    refine lv_iconst (v := iI 3) X.1 X.2.1 d_Ce_sealReply_27 (by decide) ?_
    refine lv_aload_n X.1 X.2.1 d_Ce_sealReply_28 rfl (lv_at hl 0 rfl) ?_
    refine t_get0 (ci := 4) X Y S k0 rfl i_Ce 10 (by decide) rfl lk_Ce_37 (fun _ h9 => h9) d_Ce_sealReply_29 e119 ?_
    refine t_geti (ci := 7) X Y S k119 rfl i_Pr 3 (by decide) rfl lk_Ce_331 (fun _ h9 => h9) d_Ce_sealReply_32 (fun z123 e123 l123 u123 => ?_)
    refine t_nv (t_runV (As := [.ref b118, .ref b122, .int (iI 3), .int (iI z123)]) (rest := []) (n := 4) X Y S k117 hml hl.1 (c_Va_putSealed l D E T κ L f H.size b117 k117 b118 12288 k118 (by omega) b122 n122 k122 (by omega) 3 (by omega) (by omega) z123 (by omega) (by omega) S.1) (ok_k X Y hA KS KR) rfl kl_Ce_Va_putSealed ks_Va_putSealed kx_Va_putSealed ki_Va_putSealed ini_Va ⟨rfl, rfl⟩ hd_Va_putSealed ⟨Nat.le_of_ble_eq_true rfl, Nat.le_of_ble_eq_true rfl⟩ rfl (Nat.le_of_ble_eq_true rfl) d_Ce_sealReply_35 ⟨Nat.le_of_ble_eq_true rfl, Nat.le_of_ble_eq_true rfl⟩) X Y hA S (by decide) (fun f124 H locs Y S s124 p124 => ?_)
    refine W.widen (k := 1) (n := 32) (Nat.le_of_ble_eq_true rfl) (Nat.le_of_ble_eq_true rfl) ?_
    exact c_retv hQQ X Y hr hlk ⟨κ, S, trivial⟩ d_Ce_sealReply_38
set_option maxHeartbeats 4000000 in
set_option maxRecDepth 100000 in
theorem c_Ce_putTypeInfo (l : Launch) (D : va_G) (E : cE) (T : cT) (κ : tK) (L : List Nat) (f : pF) (sz : Nat) (h : Nat) (k0 : κ h = (14, 0)) (a1 : Int) (l_a1 : (-2147483648) ≤ a1) (u_a1 : a1 ≤ 2147483647) (hw : tW E T κ L f) : Met l y_Ce_putTypeInfo (k_Ce_putTypeInfo :: lw_tg) (kRm 6 137 0 0) (va_Pc [.ref h, .int (iI a1)] (kPre D E T L f sz)) (va_Qv (nPv E T [1, 13] κ L f (fun (g : pF) => True)) (cPost D E (pA L sz)) (pA L sz)) 0 0 (pA L sz) := by
  refine k_enter (own := R_Ce) (by decide) rfl (Nat.le_of_ble_eq_true rfl) (fun p e s m below meth c ls AV QQ H locs hQQ X Y hA hin hr hlk hml hl KS KR => ?_)
  have hl : lv_has ls 7 [(0, .ref h), (1, .int (iI a1))] := hl
  have S : tS E T (tFr κ L [1, 13] []) κ L f κ L f := tS_rf hw
  refine lv_aload_n X.1 X.2.1 d_Ce_putTypeInfo_0 rfl (lv_at hl 0 rfl) ?_
  refine t_getr (ci := 4) X Y S k0 rfl i_Ce 4 (by decide) rfl (k1 := 13) (k2 := 12288) rfl rfl lk_Ce_34 (fun _ h9 => h9) d_Ce_putTypeInfo_1 (fun b101 e101 k101 => ?_)
  refine lv_bipush (v := iI 48) X.1 X.2.1 d_Ce_putTypeInfo_4 (by decide) ?_
  refine t_ni (t_runV (As := [.int (iI 48)]) (rest := []) (n := 1) X Y S k101 hml hl.1 (c_By_open l D E T κ L f H.size b101 12288 k101 (by omega) 48 (by omega) (by omega) S.1) (ok_k X Y hA KS KR) rfl kl_Ce_By_open ks_By_open kx_By_open ki_By_open ini_By ⟨rfl, rfl⟩ hd_By_open ⟨Nat.le_of_ble_eq_true rfl, Nat.le_of_ble_eq_true rfl⟩ rfl (Nat.le_of_ble_eq_true rfl) d_Ce_putTypeInfo_6 ⟨Nat.le_of_ble_eq_true rfl, Nat.le_of_ble_eq_true rfl⟩) X Y hA S (by decide) (fun z102 f102 H locs Y S s102 p102 => ?_)
  obtain ⟨l102, u102⟩ := p102
  refine lv_istore_n (lv' := [(2, .int (iI z102)), (0, .ref h), (1, .int (iI a1))]) X.1 X.2.1 d_Ce_putTypeInfo_9 rfl hl (by decide) rfl (fun ls hl => ?_)
  refine lv_aload_n X.1 X.2.1 d_Ce_putTypeInfo_10 rfl (lv_at hl 1 rfl) ?_
  refine t_get0 (ci := 4) X Y S k0 rfl i_Ce 4 (by decide) rfl lk_Ce_34 (fun _ h9 => h9) d_Ce_putTypeInfo_11 ((gF_same (s102.2.2.2 _ ⟨(t_obj S.1 k0).1, nM_of k0 (by decide), by simp⟩).1 4).trans e101) ?_
  refine lv_iconst (v := iI 0) X.1 X.2.1 d_Ce_putTypeInfo_14 (by decide) ?_
  refine lv_iload_n X.1 X.2.1 d_Ce_putTypeInfo_15 rfl (lv_at hl 2 rfl) ?_
  refine lv_i2l X.1 X.2.1 d_Ce_putTypeInfo_16 rfl ?_
  refine t_anyl (fun v103 => ?_)
  refine t_nv (t_runV (As := [.int (iI 0), .long v103]) (rest := []) (n := 2) X Y S k101 hml hl.1 (c_By_putNumber l D E T κ L f102 H.size b101 12288 k101 (by omega) 0 (by omega) (by omega) v103 S.1) (ok_k X Y hA KS KR) rfl kl_Ce_By_putNumber ks_By_putNumber kx_By_putNumber ki_By_putNumber ini_By ⟨rfl, rfl⟩ hd_By_putNumber ⟨Nat.le_of_ble_eq_true rfl, Nat.le_of_ble_eq_true rfl⟩ rfl (Nat.le_of_ble_eq_true rfl) d_Ce_putTypeInfo_17 ⟨Nat.le_of_ble_eq_true rfl, Nat.le_of_ble_eq_true rfl⟩) X Y hA S (by decide) (fun f104 H locs Y S s104 p104 => ?_)
  refine lv_aload_n X.1 X.2.1 d_Ce_putTypeInfo_20 rfl (lv_at hl 1 rfl) ?_
  refine t_get0 (ci := 4) X Y S k0 rfl i_Ce 4 (by decide) rfl lk_Ce_34 (fun _ h9 => h9) d_Ce_putTypeInfo_21 ((gF_same (s104.2.2.2 _ ⟨(t_obj S.1 k0).1, nM_of k0 (by decide), by simp⟩).1 4).trans ((gF_same (s102.2.2.2 _ ⟨(t_obj S.1 k0).1, nM_of k0 (by decide), by simp⟩).1 4).trans e101)) ?_
  refine lv_iconst (v := iI 1) X.1 X.2.1 d_Ce_putTypeInfo_24 (by decide) ?_
  refine t_ni (t_runV (As := [.int (iI 1)]) (rest := []) (n := 1) X Y S k101 hml hl.1 (c_By_openField l D E T κ L f104 H.size b101 12288 k101 (by omega) 1 (by omega) (by omega) S.1) (ok_k X Y hA KS KR) rfl kl_Ce_By_openField ks_By_openField kx_By_openField ki_By_openField ini_By ⟨rfl, rfl⟩ hd_By_openField ⟨Nat.le_of_ble_eq_true rfl, Nat.le_of_ble_eq_true rfl⟩ rfl (Nat.le_of_ble_eq_true rfl) d_Ce_putTypeInfo_25 ⟨Nat.le_of_ble_eq_true rfl, Nat.le_of_ble_eq_true rfl⟩) X Y hA S (by decide) (fun z105 f105 H locs Y S s105 p105 => ?_)
  obtain ⟨l105, u105⟩ := p105
  refine lv_istore_n (lv' := [(3, .int (iI z105)), (2, .int (iI z102)), (0, .ref h), (1, .int (iI a1))]) X.1 X.2.1 d_Ce_putTypeInfo_28 rfl hl (by decide) rfl (fun ls hl => ?_)
  refine lv_aload_n X.1 X.2.1 d_Ce_putTypeInfo_29 rfl (lv_at hl 2 rfl) ?_
  refine t_get0 (ci := 4) X Y S k0 rfl i_Ce 4 (by decide) rfl lk_Ce_34 (fun _ h9 => h9) d_Ce_putTypeInfo_30 ((gF_same (s105.2.2.2 _ ⟨(t_obj S.1 k0).1, nM_of k0 (by decide), by simp⟩).1 4).trans ((gF_same (s104.2.2.2 _ ⟨(t_obj S.1 k0).1, nM_of k0 (by decide), by simp⟩).1 4).trans ((gF_same (s102.2.2.2 _ ⟨(t_obj S.1 k0).1, nM_of k0 (by decide), by simp⟩).1 4).trans e101))) ?_
  refine lv_bipush (v := iI 27) X.1 X.2.1 d_Ce_putTypeInfo_33 (by decide) ?_
  refine t_ni (t_runV (As := [.int (iI 27)]) (rest := []) (n := 1) X Y S k101 hml hl.1 (c_By_open l D E T κ L f105 H.size b101 12288 k101 (by omega) 27 (by omega) (by omega) S.1) (ok_k X Y hA KS KR) rfl kl_Ce_By_open ks_By_open kx_By_open ki_By_open ini_By ⟨rfl, rfl⟩ hd_By_open ⟨Nat.le_of_ble_eq_true rfl, Nat.le_of_ble_eq_true rfl⟩ rfl (Nat.le_of_ble_eq_true rfl) d_Ce_putTypeInfo_35 ⟨Nat.le_of_ble_eq_true rfl, Nat.le_of_ble_eq_true rfl⟩) X Y hA S (by decide) (fun z106 f106 H locs Y S s106 p106 => ?_)
  obtain ⟨l106, u106⟩ := p106
  refine lv_istore (lv' := [(4, .int (iI z106)), (3, .int (iI z105)), (2, .int (iI z102)), (0, .ref h), (1, .int (iI a1))]) X.1 X.2.1 d_Ce_putTypeInfo_38 hl (by decide) rfl (fun ls hl => ?_)
  refine lv_aload_n X.1 X.2.1 d_Ce_putTypeInfo_40 rfl (lv_at hl 3 rfl) ?_
  refine t_get0 (ci := 4) X Y S k0 rfl i_Ce 4 (by decide) rfl lk_Ce_34 (fun _ h9 => h9) d_Ce_putTypeInfo_41 ((gF_same (s106.2.2.2 _ ⟨(t_obj S.1 k0).1, nM_of k0 (by decide), by simp⟩).1 4).trans ((gF_same (s105.2.2.2 _ ⟨(t_obj S.1 k0).1, nM_of k0 (by decide), by simp⟩).1 4).trans ((gF_same (s104.2.2.2 _ ⟨(t_obj S.1 k0).1, nM_of k0 (by decide), by simp⟩).1 4).trans ((gF_same (s102.2.2.2 _ ⟨(t_obj S.1 k0).1, nM_of k0 (by decide), by simp⟩).1 4).trans e101)))) ?_
  refine lv_aload_n X.1 X.2.1 d_Ce_putTypeInfo_44 rfl (lv_at hl 3 rfl) ?_
  refine t_getr (ci := 4) X Y S k0 rfl i_Ce 10 (by decide) rfl (k1 := 17) (k2 := 0) rfl rfl lk_Ce_37 (fun _ h9 => h9) d_Ce_putTypeInfo_45 (fun b107 e107 k107 => ?_)
  refine t_getr (ci := 7) X Y S k107 rfl i_Pr 0 (by decide) rfl (k1 := 13) (k2 := 40) rfl rfl lk_Ce_350 (fun _ h9 => h9) d_Ce_putTypeInfo_48 (fun b108 e108 k108 => ?_)
  refine t_nv (x_runS (As := [.ref b101, .ref b108]) (rest := []) (n := 2) X hml hl.1 (c_Va_putSalt l D E T κ L f106 H.size b101 12288 k101 (by omega) b108 40 k108 (by omega) S.1) (ok_k X Y hA KS KR) kl_Ce_Va_putSalt ks_Va_putSalt ki_Va_putSalt ini_Va ⟨rfl, rfl⟩ hd_Va_putSalt.2 ⟨Nat.le_of_ble_eq_true rfl, Nat.le_of_ble_eq_true rfl⟩ rfl (Nat.le_of_ble_eq_true rfl) d_Ce_putTypeInfo_51 ⟨Nat.le_of_ble_eq_true rfl, Nat.le_of_ble_eq_true rfl⟩) X Y hA S (by decide) (fun f109 H locs Y S s109 p109 => ?_)
  refine lv_aload_n X.1 X.2.1 d_Ce_putTypeInfo_54 rfl (lv_at hl 3 rfl) ?_
  refine t_get0 (ci := 4) X Y S k0 rfl i_Ce 4 (by decide) rfl lk_Ce_34 (fun _ h9 => h9) d_Ce_putTypeInfo_55 ((gF_same (s109.2.2.2 _ ⟨(t_obj S.1 k0).1, nM_of k0 (by decide), by simp⟩).1 4).trans ((gF_same (s106.2.2.2 _ ⟨(t_obj S.1 k0).1, nM_of k0 (by decide), by simp⟩).1 4).trans ((gF_same (s105.2.2.2 _ ⟨(t_obj S.1 k0).1, nM_of k0 (by decide), by simp⟩).1 4).trans ((gF_same (s104.2.2.2 _ ⟨(t_obj S.1 k0).1, nM_of k0 (by decide), by simp⟩).1 4).trans ((gF_same (s102.2.2.2 _ ⟨(t_obj S.1 k0).1, nM_of k0 (by decide), by simp⟩).1 4).trans e101))))) ?_
  refine lv_iload X.1 X.2.1 d_Ce_putTypeInfo_58 (lv_at hl 0 rfl) ?_
  refine t_nv (t_runV (As := [.int (iI z106)]) (rest := []) (n := 1) X Y S k101 hml hl.1 (c_By_close l D E T κ L f109 H.size b101 12288 k101 (by omega) z106 (by omega) (by omega) S.1) (ok_k X Y hA KS KR) rfl kl_Ce_By_close ks_By_close kx_By_close ki_By_close ini_By ⟨rfl, rfl⟩ hd_By_close ⟨Nat.le_of_ble_eq_true rfl, Nat.le_of_ble_eq_true rfl⟩ rfl (Nat.le_of_ble_eq_true rfl) d_Ce_putTypeInfo_60 ⟨Nat.le_of_ble_eq_true rfl, Nat.le_of_ble_eq_true rfl⟩) X Y hA S (by decide) (fun f110 H locs Y S s110 p110 => ?_)
  refine lv_aload_n X.1 X.2.1 d_Ce_putTypeInfo_63 rfl (lv_at hl 3 rfl) ?_
  refine t_get0 (ci := 4) X Y S k0 rfl i_Ce 4 (by decide) rfl lk_Ce_34 (fun _ h9 => h9) d_Ce_putTypeInfo_64 ((gF_same (s110.2.2.2 _ ⟨(t_obj S.1 k0).1, nM_of k0 (by decide), by simp⟩).1 4).trans ((gF_same (s109.2.2.2 _ ⟨(t_obj S.1 k0).1, nM_of k0 (by decide), by simp⟩).1 4).trans ((gF_same (s106.2.2.2 _ ⟨(t_obj S.1 k0).1, nM_of k0 (by decide), by simp⟩).1 4).trans ((gF_same (s105.2.2.2 _ ⟨(t_obj S.1 k0).1, nM_of k0 (by decide), by simp⟩).1 4).trans ((gF_same (s104.2.2.2 _ ⟨(t_obj S.1 k0).1, nM_of k0 (by decide), by simp⟩).1 4).trans ((gF_same (s102.2.2.2 _ ⟨(t_obj S.1 k0).1, nM_of k0 (by decide), by simp⟩).1 4).trans e101)))))) ?_
  refine lv_iload_n X.1 X.2.1 d_Ce_putTypeInfo_67 rfl (lv_at hl 1 rfl) ?_
  refine t_nv (t_runV (As := [.int (iI z105)]) (rest := []) (n := 1) X Y S k101 hml hl.1 (c_By_close l D E T κ L f110 H.size b101 12288 k101 (by omega) z105 (by omega) (by omega) S.1) (ok_k X Y hA KS KR) rfl kl_Ce_By_close ks_By_close kx_By_close ki_By_close ini_By ⟨rfl, rfl⟩ hd_By_close ⟨Nat.le_of_ble_eq_true rfl, Nat.le_of_ble_eq_true rfl⟩ rfl (Nat.le_of_ble_eq_true rfl) d_Ce_putTypeInfo_68 ⟨Nat.le_of_ble_eq_true rfl, Nat.le_of_ble_eq_true rfl⟩) X Y hA S (by decide) (fun f111 H locs Y S s111 p111 => ?_)
  refine lv_aload_n X.1 X.2.1 d_Ce_putTypeInfo_71 rfl (lv_at hl 3 rfl) ?_
  refine t_get0 (ci := 4) X Y S k0 rfl i_Ce 4 (by decide) rfl lk_Ce_34 (fun _ h9 => h9) d_Ce_putTypeInfo_72 ((gF_same (s111.2.2.2 _ ⟨(t_obj S.1 k0).1, nM_of k0 (by decide), by simp⟩).1 4).trans ((gF_same (s110.2.2.2 _ ⟨(t_obj S.1 k0).1, nM_of k0 (by decide), by simp⟩).1 4).trans ((gF_same (s109.2.2.2 _ ⟨(t_obj S.1 k0).1, nM_of k0 (by decide), by simp⟩).1 4).trans ((gF_same (s106.2.2.2 _ ⟨(t_obj S.1 k0).1, nM_of k0 (by decide), by simp⟩).1 4).trans ((gF_same (s105.2.2.2 _ ⟨(t_obj S.1 k0).1, nM_of k0 (by decide), by simp⟩).1 4).trans ((gF_same (s104.2.2.2 _ ⟨(t_obj S.1 k0).1, nM_of k0 (by decide), by simp⟩).1 4).trans ((gF_same (s102.2.2.2 _ ⟨(t_obj S.1 k0).1, nM_of k0 (by decide), by simp⟩).1 4).trans e101))))))) ?_
  refine lv_iconst (v := iI 2) X.1 X.2.1 d_Ce_putTypeInfo_75 (by decide) ?_
  refine t_ni (t_runV (As := [.int (iI 2)]) (rest := []) (n := 1) X Y S k101 hml hl.1 (c_By_openField l D E T κ L f111 H.size b101 12288 k101 (by omega) 2 (by omega) (by omega) S.1) (ok_k X Y hA KS KR) rfl kl_Ce_By_openField ks_By_openField kx_By_openField ki_By_openField ini_By ⟨rfl, rfl⟩ hd_By_openField ⟨Nat.le_of_ble_eq_true rfl, Nat.le_of_ble_eq_true rfl⟩ rfl (Nat.le_of_ble_eq_true rfl) d_Ce_putTypeInfo_76 ⟨Nat.le_of_ble_eq_true rfl, Nat.le_of_ble_eq_true rfl⟩) X Y hA S (by decide) (fun z112 f112 H locs Y S s112 p112 => ?_)
  obtain ⟨l112, u112⟩ := p112
  refine lv_istore (lv' := [(5, .int (iI z112)), (4, .int (iI z106)), (3, .int (iI z105)), (2, .int (iI z102)), (0, .ref h), (1, .int (iI a1))]) X.1 X.2.1 d_Ce_putTypeInfo_79 hl (by decide) rfl (fun ls hl => ?_)
  refine lv_aload_n X.1 X.2.1 d_Ce_putTypeInfo_81 rfl (lv_at hl 4 rfl) ?_
  refine t_get0 (ci := 4) X Y S k0 rfl i_Ce 4 (by decide) rfl lk_Ce_34 (fun _ h9 => h9) d_Ce_putTypeInfo_82 ((gF_same (s112.2.2.2 _ ⟨(t_obj S.1 k0).1, nM_of k0 (by decide), by simp⟩).1 4).trans ((gF_same (s111.2.2.2 _ ⟨(t_obj S.1 k0).1, nM_of k0 (by decide), by simp⟩).1 4).trans ((gF_same (s110.2.2.2 _ ⟨(t_obj S.1 k0).1, nM_of k0 (by decide), by simp⟩).1 4).trans ((gF_same (s109.2.2.2 _ ⟨(t_obj S.1 k0).1, nM_of k0 (by decide), by simp⟩).1 4).trans ((gF_same (s106.2.2.2 _ ⟨(t_obj S.1 k0).1, nM_of k0 (by decide), by simp⟩).1 4).trans ((gF_same (s105.2.2.2 _ ⟨(t_obj S.1 k0).1, nM_of k0 (by decide), by simp⟩).1 4).trans ((gF_same (s104.2.2.2 _ ⟨(t_obj S.1 k0).1, nM_of k0 (by decide), by simp⟩).1 4).trans ((gF_same (s102.2.2.2 _ ⟨(t_obj S.1 k0).1, nM_of k0 (by decide), by simp⟩).1 4).trans e101)))))))) ?_
  refine lv_iconst (v := iI 4) X.1 X.2.1 d_Ce_putTypeInfo_85 (by decide) ?_
  refine t_ni (t_runV (As := [.int (iI 4)]) (rest := []) (n := 1) X Y S k101 hml hl.1 (c_By_open l D E T κ L f112 H.size b101 12288 k101 (by omega) 4 (by omega) (by omega) S.1) (ok_k X Y hA KS KR) rfl kl_Ce_By_open ks_By_open kx_By_open ki_By_open ini_By ⟨rfl, rfl⟩ hd_By_open ⟨Nat.le_of_ble_eq_true rfl, Nat.le_of_ble_eq_true rfl⟩ rfl (Nat.le_of_ble_eq_true rfl) d_Ce_putTypeInfo_86 ⟨Nat.le_of_ble_eq_true rfl, Nat.le_of_ble_eq_true rfl⟩) X Y hA S (by decide) (fun z113 f113 H locs Y S s113 p113 => ?_)
  obtain ⟨l113, u113⟩ := p113
  refine lv_istore (lv' := [(6, .int (iI z113)), (5, .int (iI z112)), (4, .int (iI z106)), (3, .int (iI z105)), (2, .int (iI z102)), (0, .ref h), (1, .int (iI a1))]) X.1 X.2.1 d_Ce_putTypeInfo_89 hl (by decide) rfl (fun ls hl => ?_)
  refine lv_aload_n X.1 X.2.1 d_Ce_putTypeInfo_91 rfl (lv_at hl 5 rfl) ?_
  refine t_get0 (ci := 4) X Y S k0 rfl i_Ce 4 (by decide) rfl lk_Ce_34 (fun _ h9 => h9) d_Ce_putTypeInfo_92 ((gF_same (s113.2.2.2 _ ⟨(t_obj S.1 k0).1, nM_of k0 (by decide), by simp⟩).1 4).trans ((gF_same (s112.2.2.2 _ ⟨(t_obj S.1 k0).1, nM_of k0 (by decide), by simp⟩).1 4).trans ((gF_same (s111.2.2.2 _ ⟨(t_obj S.1 k0).1, nM_of k0 (by decide), by simp⟩).1 4).trans ((gF_same (s110.2.2.2 _ ⟨(t_obj S.1 k0).1, nM_of k0 (by decide), by simp⟩).1 4).trans ((gF_same (s109.2.2.2 _ ⟨(t_obj S.1 k0).1, nM_of k0 (by decide), by simp⟩).1 4).trans ((gF_same (s106.2.2.2 _ ⟨(t_obj S.1 k0).1, nM_of k0 (by decide), by simp⟩).1 4).trans ((gF_same (s105.2.2.2 _ ⟨(t_obj S.1 k0).1, nM_of k0 (by decide), by simp⟩).1 4).trans ((gF_same (s104.2.2.2 _ ⟨(t_obj S.1 k0).1, nM_of k0 (by decide), by simp⟩).1 4).trans ((gF_same (s102.2.2.2 _ ⟨(t_obj S.1 k0).1, nM_of k0 (by decide), by simp⟩).1 4).trans e101))))))))) ?_
  refine lv_aload_n X.1 X.2.1 d_Ce_putTypeInfo_95 rfl (lv_at hl 5 rfl) ?_
  refine t_get0 (ci := 4) X Y S k0 rfl i_Ce 10 (by decide) rfl lk_Ce_37 (fun _ h9 => h9) d_Ce_putTypeInfo_96 ((gF_same (s113.2.2.2 _ ⟨(t_obj S.1 k0).1, nM_of k0 (by decide), by simp⟩).1 10).trans ((gF_same (s112.2.2.2 _ ⟨(t_obj S.1 k0).1, nM_of k0 (by decide), by simp⟩).1 10).trans ((gF_same (s111.2.2.2 _ ⟨(t_obj S.1 k0).1, nM_of k0 (by decide), by simp⟩).1 10).trans ((gF_same (s110.2.2.2 _ ⟨(t_obj S.1 k0).1, nM_of k0 (by decide), by simp⟩).1 10).trans ((gF_same (s109.2.2.2 _ ⟨(t_obj S.1 k0).1, nM_of k0 (by decide), by simp⟩).1 10).trans e107))))) ?_
  refine t_geti (ci := 7) X Y S k107 rfl i_Pr 4 (by decide) rfl lk_Ce_357 (fun _ h9 => h9) d_Ce_putTypeInfo_99 (fun z114 e114 l114 u114 => ?_)
  refine t_nv (t_runV (As := [.int (iI z114)]) (rest := []) (n := 1) X Y S k101 hml hl.1 (c_By_putWord l D E T κ L f113 H.size b101 12288 k101 (by omega) z114 (by omega) (by omega) S.1) (ok_k X Y hA KS KR) rfl kl_Ce_By_putWord ks_By_putWord kx_By_putWord ki_By_putWord ini_By ⟨rfl, rfl⟩ hd_By_putWord ⟨Nat.le_of_ble_eq_true rfl, Nat.le_of_ble_eq_true rfl⟩ rfl (Nat.le_of_ble_eq_true rfl) d_Ce_putTypeInfo_102 ⟨Nat.le_of_ble_eq_true rfl, Nat.le_of_ble_eq_true rfl⟩) X Y hA S (by decide) (fun f115 H locs Y S s115 p115 => ?_)
  refine lv_aload_n X.1 X.2.1 d_Ce_putTypeInfo_105 rfl (lv_at hl 5 rfl) ?_
  refine t_get0 (ci := 4) X Y S k0 rfl i_Ce 4 (by decide) rfl lk_Ce_34 (fun _ h9 => h9) d_Ce_putTypeInfo_106 ((gF_same (s115.2.2.2 _ ⟨(t_obj S.1 k0).1, nM_of k0 (by decide), by simp⟩).1 4).trans ((gF_same (s113.2.2.2 _ ⟨(t_obj S.1 k0).1, nM_of k0 (by decide), by simp⟩).1 4).trans ((gF_same (s112.2.2.2 _ ⟨(t_obj S.1 k0).1, nM_of k0 (by decide), by simp⟩).1 4).trans ((gF_same (s111.2.2.2 _ ⟨(t_obj S.1 k0).1, nM_of k0 (by decide), by simp⟩).1 4).trans ((gF_same (s110.2.2.2 _ ⟨(t_obj S.1 k0).1, nM_of k0 (by decide), by simp⟩).1 4).trans ((gF_same (s109.2.2.2 _ ⟨(t_obj S.1 k0).1, nM_of k0 (by decide), by simp⟩).1 4).trans ((gF_same (s106.2.2.2 _ ⟨(t_obj S.1 k0).1, nM_of k0 (by decide), by simp⟩).1 4).trans ((gF_same (s105.2.2.2 _ ⟨(t_obj S.1 k0).1, nM_of k0 (by decide), by simp⟩).1 4).trans ((gF_same (s104.2.2.2 _ ⟨(t_obj S.1 k0).1, nM_of k0 (by decide), by simp⟩).1 4).trans ((gF_same (s102.2.2.2 _ ⟨(t_obj S.1 k0).1, nM_of k0 (by decide), by simp⟩).1 4).trans e101)))))))))) ?_
  refine lv_iload X.1 X.2.1 d_Ce_putTypeInfo_109 (lv_at hl 0 rfl) ?_
  refine t_nv (t_runV (As := [.int (iI z113)]) (rest := []) (n := 1) X Y S k101 hml hl.1 (c_By_close l D E T κ L f115 H.size b101 12288 k101 (by omega) z113 (by omega) (by omega) S.1) (ok_k X Y hA KS KR) rfl kl_Ce_By_close ks_By_close kx_By_close ki_By_close ini_By ⟨rfl, rfl⟩ hd_By_close ⟨Nat.le_of_ble_eq_true rfl, Nat.le_of_ble_eq_true rfl⟩ rfl (Nat.le_of_ble_eq_true rfl) d_Ce_putTypeInfo_111 ⟨Nat.le_of_ble_eq_true rfl, Nat.le_of_ble_eq_true rfl⟩) X Y hA S (by decide) (fun f116 H locs Y S s116 p116 => ?_)
  refine lv_aload_n X.1 X.2.1 d_Ce_putTypeInfo_114 rfl (lv_at hl 5 rfl) ?_
  refine t_get0 (ci := 4) X Y S k0 rfl i_Ce 4 (by decide) rfl lk_Ce_34 (fun _ h9 => h9) d_Ce_putTypeInfo_115 ((gF_same (s116.2.2.2 _ ⟨(t_obj S.1 k0).1, nM_of k0 (by decide), by simp⟩).1 4).trans ((gF_same (s115.2.2.2 _ ⟨(t_obj S.1 k0).1, nM_of k0 (by decide), by simp⟩).1 4).trans ((gF_same (s113.2.2.2 _ ⟨(t_obj S.1 k0).1, nM_of k0 (by decide), by simp⟩).1 4).trans ((gF_same (s112.2.2.2 _ ⟨(t_obj S.1 k0).1, nM_of k0 (by decide), by simp⟩).1 4).trans ((gF_same (s111.2.2.2 _ ⟨(t_obj S.1 k0).1, nM_of k0 (by decide), by simp⟩).1 4).trans ((gF_same (s110.2.2.2 _ ⟨(t_obj S.1 k0).1, nM_of k0 (by decide), by simp⟩).1 4).trans ((gF_same (s109.2.2.2 _ ⟨(t_obj S.1 k0).1, nM_of k0 (by decide), by simp⟩).1 4).trans ((gF_same (s106.2.2.2 _ ⟨(t_obj S.1 k0).1, nM_of k0 (by decide), by simp⟩).1 4).trans ((gF_same (s105.2.2.2 _ ⟨(t_obj S.1 k0).1, nM_of k0 (by decide), by simp⟩).1 4).trans ((gF_same (s104.2.2.2 _ ⟨(t_obj S.1 k0).1, nM_of k0 (by decide), by simp⟩).1 4).trans ((gF_same (s102.2.2.2 _ ⟨(t_obj S.1 k0).1, nM_of k0 (by decide), by simp⟩).1 4).trans e101))))))))))) ?_
  refine lv_iload X.1 X.2.1 d_Ce_putTypeInfo_118 (lv_at hl 1 rfl) ?_
  refine t_nv (t_runV (As := [.int (iI z112)]) (rest := []) (n := 1) X Y S k101 hml hl.1 (c_By_close l D E T κ L f116 H.size b101 12288 k101 (by omega) z112 (by omega) (by omega) S.1) (ok_k X Y hA KS KR) rfl kl_Ce_By_close ks_By_close kx_By_close ki_By_close ini_By ⟨rfl, rfl⟩ hd_By_close ⟨Nat.le_of_ble_eq_true rfl, Nat.le_of_ble_eq_true rfl⟩ rfl (Nat.le_of_ble_eq_true rfl) d_Ce_putTypeInfo_120 ⟨Nat.le_of_ble_eq_true rfl, Nat.le_of_ble_eq_true rfl⟩) X Y hA S (by decide) (fun f117 H locs Y S s117 p117 => ?_)
  refine lv_aload_n X.1 X.2.1 d_Ce_putTypeInfo_123 rfl (lv_at hl 5 rfl) ?_
  refine t_get0 (ci := 4) X Y S k0 rfl i_Ce 4 (by decide) rfl lk_Ce_34 (fun _ h9 => h9) d_Ce_putTypeInfo_124 ((gF_same (s117.2.2.2 _ ⟨(t_obj S.1 k0).1, nM_of k0 (by decide), by simp⟩).1 4).trans ((gF_same (s116.2.2.2 _ ⟨(t_obj S.1 k0).1, nM_of k0 (by decide), by simp⟩).1 4).trans ((gF_same (s115.2.2.2 _ ⟨(t_obj S.1 k0).1, nM_of k0 (by decide), by simp⟩).1 4).trans ((gF_same (s113.2.2.2 _ ⟨(t_obj S.1 k0).1, nM_of k0 (by decide), by simp⟩).1 4).trans ((gF_same (s112.2.2.2 _ ⟨(t_obj S.1 k0).1, nM_of k0 (by decide), by simp⟩).1 4).trans ((gF_same (s111.2.2.2 _ ⟨(t_obj S.1 k0).1, nM_of k0 (by decide), by simp⟩).1 4).trans ((gF_same (s110.2.2.2 _ ⟨(t_obj S.1 k0).1, nM_of k0 (by decide), by simp⟩).1 4).trans ((gF_same (s109.2.2.2 _ ⟨(t_obj S.1 k0).1, nM_of k0 (by decide), by simp⟩).1 4).trans ((gF_same (s106.2.2.2 _ ⟨(t_obj S.1 k0).1, nM_of k0 (by decide), by simp⟩).1 4).trans ((gF_same (s105.2.2.2 _ ⟨(t_obj S.1 k0).1, nM_of k0 (by decide), by simp⟩).1 4).trans ((gF_same (s104.2.2.2 _ ⟨(t_obj S.1 k0).1, nM_of k0 (by decide), by simp⟩).1 4).trans ((gF_same (s102.2.2.2 _ ⟨(t_obj S.1 k0).1, nM_of k0 (by decide), by simp⟩).1 4).trans e101)))))))))))) ?_
  refine lv_iload_n X.1 X.2.1 d_Ce_putTypeInfo_127 rfl (lv_at hl 4 rfl) ?_
  refine t_nv (t_runV (As := [.int (iI z102)]) (rest := []) (n := 1) X Y S k101 hml hl.1 (c_By_close l D E T κ L f117 H.size b101 12288 k101 (by omega) z102 (by omega) (by omega) S.1) (ok_k X Y hA KS KR) rfl kl_Ce_By_close ks_By_close kx_By_close ki_By_close ini_By ⟨rfl, rfl⟩ hd_By_close ⟨Nat.le_of_ble_eq_true rfl, Nat.le_of_ble_eq_true rfl⟩ rfl (Nat.le_of_ble_eq_true rfl) d_Ce_putTypeInfo_128 ⟨Nat.le_of_ble_eq_true rfl, Nat.le_of_ble_eq_true rfl⟩) X Y hA S (by decide) (fun f118 H locs Y S s118 p118 => ?_)
  exact c_retv hQQ X Y hr hlk ⟨rfl, S, trivial⟩ d_Ce_putTypeInfo_131
set_option maxHeartbeats 4000000 in
set_option maxRecDepth 100000 in
theorem c_Ce_putInfo (l : Launch) (D : va_G) (E : cE) (T : cT) (κ : tK) (L : List Nat) (f : pF) (sz : Nat) (h : Nat) (k0 : κ h = (14, 0)) (a1 : Int) (l_a1 : 0 ≤ a1) (u_a1 : a1 ≤ 1) (hw : tW E T κ L f) : Met l y_Ce_putInfo (k_Ce_putInfo :: lw_tg) (kRm 7 163 0 0) (va_Pc [.ref h, .int (iI a1)] (kPre D E T L f sz)) (va_Qv (nPv E T [1, 13] κ L f (fun (g : pF) => True)) (cPost D E (pA L sz)) (pA L sz)) 0 0 (pA L sz) := by
  refine k_enter (own := R_Ce) (by decide) rfl (Nat.le_of_ble_eq_true rfl) (fun p e s m below meth c ls AV QQ H locs hQQ X Y hA hin hr hlk hml hl KS KR => ?_)
  have hl : lv_has ls 6 [(0, .ref h), (1, .int (iI a1))] := hl
  have S : tS E T (tFr κ L [1, 13] []) κ L f κ L f := tS_rf hw
  refine lv_aload_n X.1 X.2.1 d_Ce_putInfo_0 rfl (lv_at hl 0 rfl) ?_
  refine t_getr (ci := 4) X Y S k0 rfl i_Ce 4 (by decide) rfl (k1 := 13) (k2 := 12288) rfl rfl lk_Ce_34 (fun _ h9 => h9) d_Ce_putInfo_1 (fun b101 e101 k101 => ?_)
  refine lv_bipush (v := iI 48) X.1 X.2.1 d_Ce_putInfo_4 (by decide) ?_
  refine t_ni (t_runV (As := [.int (iI 48)]) (rest := []) (n := 1) X Y S k101 hml hl.1 (c_By_open l D E T κ L f H.size b101 12288 k101 (by omega) 48 (by omega) (by omega) S.1) (ok_k X Y hA KS KR) rfl kl_Ce_By_open ks_By_open kx_By_open ki_By_open ini_By ⟨rfl, rfl⟩ hd_By_open ⟨Nat.le_of_ble_eq_true rfl, Nat.le_of_ble_eq_true rfl⟩ rfl (Nat.le_of_ble_eq_true rfl) d_Ce_putInfo_6 ⟨Nat.le_of_ble_eq_true rfl, Nat.le_of_ble_eq_true rfl⟩) X Y hA S (by decide) (fun z102 f102 H locs Y S s102 p102 => ?_)
  obtain ⟨l102, u102⟩ := p102
  refine lv_istore_n (lv' := [(2, .int (iI z102)), (0, .ref h), (1, .int (iI a1))]) X.1 X.2.1 d_Ce_putInfo_9 rfl hl (by decide) rfl (fun ls hl => ?_)
  refine lv_aload_n X.1 X.2.1 d_Ce_putInfo_10 rfl (lv_at hl 1 rfl) ?_
  refine t_get0 (ci := 4) X Y S k0 rfl i_Ce 4 (by decide) rfl lk_Ce_34 (fun _ h9 => h9) d_Ce_putInfo_11 ((gF_same (s102.2.2.2 _ ⟨(t_obj S.1 k0).1, nM_of k0 (by decide), by simp⟩).1 4).trans e101) ?_
  refine lv_iconst (v := iI 1) X.1 X.2.1 d_Ce_putInfo_14 (by decide) ?_
  refine lv_ldc2 (v := (19)) X.1 X.2.1 X.2.2.2.1 (X.2.2.1 _ cl_Ce_342) d_Ce_putInfo_15 ?_
  refine t_nv (t_runV (As := [.int (iI 1), .long ((19))]) (rest := []) (n := 2) X Y S k101 hml hl.1 (c_By_putNumber l D E T κ L f102 H.size b101 12288 k101 (by omega) 1 (by omega) (by omega) ((19)) S.1) (ok_k X Y hA KS KR) rfl kl_Ce_By_putNumber ks_By_putNumber kx_By_putNumber ki_By_putNumber ini_By ⟨rfl, rfl⟩ hd_By_putNumber ⟨Nat.le_of_ble_eq_true rfl, Nat.le_of_ble_eq_true rfl⟩ rfl (Nat.le_of_ble_eq_true rfl) d_Ce_putInfo_18 ⟨Nat.le_of_ble_eq_true rfl, Nat.le_of_ble_eq_true rfl⟩) X Y hA S (by decide) (fun f103 H locs Y S s103 p103 => ?_)
  refine lv_aload_n X.1 X.2.1 d_Ce_putInfo_21 rfl (lv_at hl 1 rfl) ?_
  refine t_get0 (ci := 4) X Y S k0 rfl i_Ce 4 (by decide) rfl lk_Ce_34 (fun _ h9 => h9) d_Ce_putInfo_22 ((gF_same (s103.2.2.2 _ ⟨(t_obj S.1 k0).1, nM_of k0 (by decide), by simp⟩).1 4).trans ((gF_same (s102.2.2.2 _ ⟨(t_obj S.1 k0).1, nM_of k0 (by decide), by simp⟩).1 4).trans e101)) ?_
  refine lv_iconst (v := iI 2) X.1 X.2.1 d_Ce_putInfo_25 (by decide) ?_
  refine t_ni (t_runV (As := [.int (iI 2)]) (rest := []) (n := 1) X Y S k101 hml hl.1 (c_By_openField l D E T κ L f103 H.size b101 12288 k101 (by omega) 2 (by omega) (by omega) S.1) (ok_k X Y hA KS KR) rfl kl_Ce_By_openField ks_By_openField kx_By_openField ki_By_openField ini_By ⟨rfl, rfl⟩ hd_By_openField ⟨Nat.le_of_ble_eq_true rfl, Nat.le_of_ble_eq_true rfl⟩ rfl (Nat.le_of_ble_eq_true rfl) d_Ce_putInfo_26 ⟨Nat.le_of_ble_eq_true rfl, Nat.le_of_ble_eq_true rfl⟩) X Y hA S (by decide) (fun z104 f104 H locs Y S s104 p104 => ?_)
  obtain ⟨l104, u104⟩ := p104
  refine lv_istore_n (lv' := [(3, .int (iI z104)), (2, .int (iI z102)), (0, .ref h), (1, .int (iI a1))]) X.1 X.2.1 d_Ce_putInfo_29 rfl hl (by decide) rfl (fun ls hl => ?_)
  refine lv_aload_n X.1 X.2.1 d_Ce_putInfo_30 rfl (lv_at hl 2 rfl) ?_
  refine t_get0 (ci := 4) X Y S k0 rfl i_Ce 4 (by decide) rfl lk_Ce_34 (fun _ h9 => h9) d_Ce_putInfo_31 ((gF_same (s104.2.2.2 _ ⟨(t_obj S.1 k0).1, nM_of k0 (by decide), by simp⟩).1 4).trans ((gF_same (s103.2.2.2 _ ⟨(t_obj S.1 k0).1, nM_of k0 (by decide), by simp⟩).1 4).trans ((gF_same (s102.2.2.2 _ ⟨(t_obj S.1 k0).1, nM_of k0 (by decide), by simp⟩).1 4).trans e101))) ?_
  refine lv_iconst (v := iI 4) X.1 X.2.1 d_Ce_putInfo_34 (by decide) ?_
  refine t_ni (t_runV (As := [.int (iI 4)]) (rest := []) (n := 1) X Y S k101 hml hl.1 (c_By_open l D E T κ L f104 H.size b101 12288 k101 (by omega) 4 (by omega) (by omega) S.1) (ok_k X Y hA KS KR) rfl kl_Ce_By_open ks_By_open kx_By_open ki_By_open ini_By ⟨rfl, rfl⟩ hd_By_open ⟨Nat.le_of_ble_eq_true rfl, Nat.le_of_ble_eq_true rfl⟩ rfl (Nat.le_of_ble_eq_true rfl) d_Ce_putInfo_35 ⟨Nat.le_of_ble_eq_true rfl, Nat.le_of_ble_eq_true rfl⟩) X Y hA S (by decide) (fun z105 f105 H locs Y S s105 p105 => ?_)
  obtain ⟨l105, u105⟩ := p105
  refine lv_istore (lv' := [(4, .int (iI z105)), (3, .int (iI z104)), (2, .int (iI z102)), (0, .ref h), (1, .int (iI a1))]) X.1 X.2.1 d_Ce_putInfo_38 hl (by decide) rfl (fun ls hl => ?_)
  refine lv_aload_n X.1 X.2.1 d_Ce_putInfo_40 rfl (lv_at hl 3 rfl) ?_
  refine t_get0 (ci := 4) X Y S k0 rfl i_Ce 4 (by decide) rfl lk_Ce_34 (fun _ h9 => h9) d_Ce_putInfo_41 ((gF_same (s105.2.2.2 _ ⟨(t_obj S.1 k0).1, nM_of k0 (by decide), by simp⟩).1 4).trans ((gF_same (s104.2.2.2 _ ⟨(t_obj S.1 k0).1, nM_of k0 (by decide), by simp⟩).1 4).trans ((gF_same (s103.2.2.2 _ ⟨(t_obj S.1 k0).1, nM_of k0 (by decide), by simp⟩).1 4).trans ((gF_same (s102.2.2.2 _ ⟨(t_obj S.1 k0).1, nM_of k0 (by decide), by simp⟩).1 4).trans e101)))) ?_
  refine lv_bipush (v := iI 48) X.1 X.2.1 d_Ce_putInfo_44 (by decide) ?_
  refine t_ni (t_runV (As := [.int (iI 48)]) (rest := []) (n := 1) X Y S k101 hml hl.1 (c_By_open l D E T κ L f105 H.size b101 12288 k101 (by omega) 48 (by omega) (by omega) S.1) (ok_k X Y hA KS KR) rfl kl_Ce_By_open ks_By_open kx_By_open ki_By_open ini_By ⟨rfl, rfl⟩ hd_By_open ⟨Nat.le_of_ble_eq_true rfl, Nat.le_of_ble_eq_true rfl⟩ rfl (Nat.le_of_ble_eq_true rfl) d_Ce_putInfo_46 ⟨Nat.le_of_ble_eq_true rfl, Nat.le_of_ble_eq_true rfl⟩) X Y hA S (by decide) (fun z106 f106 H locs Y S s106 p106 => ?_)
  obtain ⟨l106, u106⟩ := p106
  refine lv_istore (lv' := [(5, .int (iI z106)), (4, .int (iI z105)), (3, .int (iI z104)), (2, .int (iI z102)), (0, .ref h), (1, .int (iI a1))]) X.1 X.2.1 d_Ce_putInfo_49 hl (by decide) rfl (fun ls hl => ?_)
  refine lv_aload_n X.1 X.2.1 d_Ce_putInfo_51 rfl (lv_at hl 4 rfl) ?_
  refine lv_aload_n X.1 X.2.1 d_Ce_putInfo_52 rfl (lv_at hl 4 rfl) ?_
  refine t_geti (ci := 4) X Y S k0 rfl i_Ce 12 (by decide) rfl lk_Ce_157 (fun _ h9 => h9) d_Ce_putInfo_53 (fun z107 e107 l107 u107 => ?_)
  refine t_nv (t_runV (As := [.int (iI z107)]) (rest := []) (n := 1) X Y S k0 hml hl.1 (c_Ce_putTypeInfo l D E T κ L f106 H.size h k0 z107 (by omega) (by omega) S.1) (ok_k X Y hA KS KR) rfl kl_Ce_Ce_putTypeInfo ks_Ce_putTypeInfo kx_Ce_putTypeInfo ki_Ce_putTypeInfo ini_Ce ⟨rfl, rfl⟩ hd_Ce_putTypeInfo ⟨Nat.le_of_ble_eq_true rfl, Nat.le_of_ble_eq_true rfl⟩ rfl (Nat.le_of_ble_eq_true rfl) d_Ce_putInfo_56 ⟨Nat.le_of_ble_eq_true rfl, Nat.le_of_ble_eq_true rfl⟩) X Y hA S (by decide) (fun f108 H locs Y S s108 p108 => ?_)
  refine lv_iload_n X.1 X.2.1 d_Ce_putInfo_59 rfl (lv_at hl 5 rfl) ?_
  have J110 : ∀ (f109 : pF) (H : Heap) (locs : List Loc) (ls : Array Slot), pH D cCl (pA L sz) s.heap L f109 H locs → tS E T (tFr κ L [1, 13] []) κ L f κ L f109 → lv_has ls 6 [(0, .ref h), (2, .int (iI z102)), (3, .int (iI z104)), (4, .int (iI z105)), (5, .int (iI z106))] → W p l e (kRm 7 163 0 0) s m AV below meth c H locs 0 0 QQ (F0 m 88 ls []) := by
    intro f109 H locs ls  Y S hl
    refine lv_aload_n X.1 X.2.1 d_Ce_putInfo_88 rfl (lv_at hl 0 rfl) ?_
    refine t_getr (ci := 4) X Y S k0 rfl i_Ce 4 (by decide) rfl (k1 := 13) (k2 := 12288) rfl rfl lk_Ce_34 (fun _ h9 => h9) d_Ce_putInfo_89 (fun b114 e114 k114 => ?_)
    refine lv_iload X.1 X.2.1 d_Ce_putInfo_92 (lv_at hl 4 rfl) ?_
    refine t_nv (t_runV (As := [.int (iI z106)]) (rest := []) (n := 1) X Y S k114 hml hl.1 (c_By_close l D E T κ L f109 H.size b114 12288 k114 (by omega) z106 (by omega) (by omega) S.1) (ok_k X Y hA KS KR) rfl kl_Ce_By_close ks_By_close kx_By_close ki_By_close ini_By ⟨rfl, rfl⟩ hd_By_close ⟨Nat.le_of_ble_eq_true rfl, Nat.le_of_ble_eq_true rfl⟩ rfl (Nat.le_of_ble_eq_true rfl) d_Ce_putInfo_94 ⟨Nat.le_of_ble_eq_true rfl, Nat.le_of_ble_eq_true rfl⟩) X Y hA S (by decide) (fun f115 H locs Y S s115 p115 => ?_)
    refine lv_aload_n X.1 X.2.1 d_Ce_putInfo_97 rfl (lv_at hl 0 rfl) ?_
    refine t_get0 (ci := 4) X Y S k0 rfl i_Ce 4 (by decide) rfl lk_Ce_34 (fun _ h9 => h9) d_Ce_putInfo_98 ((gF_same (s115.2.2.2 _ ⟨(t_obj S.1 k0).1, nM_of k0 (by decide), by simp⟩).1 4).trans e114) ?_
    refine lv_iload X.1 X.2.1 d_Ce_putInfo_101 (lv_at hl 3 rfl) ?_
    refine t_nv (t_runV (As := [.int (iI z105)]) (rest := []) (n := 1) X Y S k114 hml hl.1 (c_By_close l D E T κ L f115 H.size b114 12288 k114 (by omega) z105 (by omega) (by omega) S.1) (ok_k X Y hA KS KR) rfl kl_Ce_By_close ks_By_close kx_By_close ki_By_close ini_By ⟨rfl, rfl⟩ hd_By_close ⟨Nat.le_of_ble_eq_true rfl, Nat.le_of_ble_eq_true rfl⟩ rfl (Nat.le_of_ble_eq_true rfl) d_Ce_putInfo_103 ⟨Nat.le_of_ble_eq_true rfl, Nat.le_of_ble_eq_true rfl⟩) X Y hA S (by decide) (fun f116 H locs Y S s116 p116 => ?_)
    refine lv_aload_n X.1 X.2.1 d_Ce_putInfo_106 rfl (lv_at hl 0 rfl) ?_
    refine t_get0 (ci := 4) X Y S k0 rfl i_Ce 4 (by decide) rfl lk_Ce_34 (fun _ h9 => h9) d_Ce_putInfo_107 ((gF_same (s116.2.2.2 _ ⟨(t_obj S.1 k0).1, nM_of k0 (by decide), by simp⟩).1 4).trans ((gF_same (s115.2.2.2 _ ⟨(t_obj S.1 k0).1, nM_of k0 (by decide), by simp⟩).1 4).trans e114)) ?_
    refine lv_iload_n X.1 X.2.1 d_Ce_putInfo_110 rfl (lv_at hl 2 rfl) ?_
    refine t_nv (t_runV (As := [.int (iI z104)]) (rest := []) (n := 1) X Y S k114 hml hl.1 (c_By_close l D E T κ L f116 H.size b114 12288 k114 (by omega) z104 (by omega) (by omega) S.1) (ok_k X Y hA KS KR) rfl kl_Ce_By_close ks_By_close kx_By_close ki_By_close ini_By ⟨rfl, rfl⟩ hd_By_close ⟨Nat.le_of_ble_eq_true rfl, Nat.le_of_ble_eq_true rfl⟩ rfl (Nat.le_of_ble_eq_true rfl) d_Ce_putInfo_111 ⟨Nat.le_of_ble_eq_true rfl, Nat.le_of_ble_eq_true rfl⟩) X Y hA S (by decide) (fun f117 H locs Y S s117 p117 => ?_)
    refine lv_aload_n X.1 X.2.1 d_Ce_putInfo_114 rfl (lv_at hl 0 rfl) ?_
    refine t_get0 (ci := 4) X Y S k0 rfl i_Ce 4 (by decide) rfl lk_Ce_34 (fun _ h9 => h9) d_Ce_putInfo_115 ((gF_same (s117.2.2.2 _ ⟨(t_obj S.1 k0).1, nM_of k0 (by decide), by simp⟩).1 4).trans ((gF_same (s116.2.2.2 _ ⟨(t_obj S.1 k0).1, nM_of k0 (by decide), by simp⟩).1 4).trans ((gF_same (s115.2.2.2 _ ⟨(t_obj S.1 k0).1, nM_of k0 (by decide), by simp⟩).1 4).trans e114))) ?_
    refine lv_iload_n X.1 X.2.1 d_Ce_putInfo_118 rfl (lv_at hl 1 rfl) ?_
    refine t_nv (t_runV (As := [.int (iI z102)]) (rest := []) (n := 1) X Y S k114 hml hl.1 (c_By_close l D E T κ L f117 H.size b114 12288 k114 (by omega) z102 (by omega) (by omega) S.1) (ok_k X Y hA KS KR) rfl kl_Ce_By_close ks_By_close kx_By_close ki_By_close ini_By ⟨rfl, rfl⟩ hd_By_close ⟨Nat.le_of_ble_eq_true rfl, Nat.le_of_ble_eq_true rfl⟩ rfl (Nat.le_of_ble_eq_true rfl) d_Ce_putInfo_119 ⟨Nat.le_of_ble_eq_true rfl, Nat.le_of_ble_eq_true rfl⟩) X Y hA S (by decide) (fun f118 H locs Y S s118 p118 => ?_)
    exact c_retv hQQ X Y hr hlk ⟨rfl, S, trivial⟩ d_Ce_putInfo_122
  refine z_if_eq (tgt := 88) X.1 X.2.1 d_Ce_putInfo_60 (by decide) ⟨by omega, by omega⟩ (fun h119 => ?_) (fun h119 => ?_)
  · exact J110 f108 _ _ _  Y S (lv_sub hl [4, 3, 2, 1, 0] rfl)
  · refine lv_aload_n X.1 X.2.1 d_Ce_putInfo_63 rfl (lv_at hl 4 rfl) ?_
    refine lv_bipush (v := iI 35) X.1 X.2.1 d_Ce_putInfo_64 (by decide) ?_
    refine lv_aload_n X.1 X.2.1 d_Ce_putInfo_66 rfl (lv_at hl 4 rfl) ?_
    refine t_get0 (ci := 4) X Y S k0 rfl i_Ce 12 (by decide) rfl lk_Ce_157 (fun _ h9 => h9) d_Ce_putInfo_67 ((gF_same (s108.2.2.2 _ ⟨(t_obj S.1 k0).1, nM_of k0 (by decide), by simp⟩).1 12).trans e107) ?_
    refine lv_isub X.1 X.2.1 d_Ce_putInfo_70 ?_
    refine t_u (fun z120 l120 u120 => ?_)
    refine t_ui (t_runV (As := [.int (iI z120)]) (rest := []) (n := 1) X Y S k0 hml hl.1 (c_Ce_isWanted l D E T κ L f108 H.size h k0 z120 (by omega) (by omega) S.1) (ok_k X Y hA KS KR) rfl kl_Ce_Ce_isWanted ks_Ce_isWanted kx_Ce_isWanted ki_Ce_isWanted ini_Ce ⟨rfl, rfl⟩ hd_Ce_isWanted ⟨Nat.le_of_ble_eq_true rfl, Nat.le_of_ble_eq_true rfl⟩ rfl (Nat.le_of_ble_eq_true rfl) d_Ce_putInfo_71 ⟨Nat.le_of_ble_eq_true rfl, Nat.le_of_ble_eq_true rfl⟩) X Y hA (fun z121 H locs Y p121 => ?_)
    obtain ⟨l121, u121⟩ := p121
    refine z_if_eq (tgt := 88) X.1 X.2.1 d_Ce_putInfo_74 (by decide) ⟨by omega, by omega⟩ (fun h122 => ?_) (fun h122 => ?_)
    · exact J110 f108 _ _ _  Y S (lv_sub hl [4, 3, 2, 1, 0] rfl)
    · refine lv_aload_n X.1 X.2.1 d_Ce_putInfo_77 rfl (lv_at hl 4 rfl) ?_
      refine lv_bipush (v := iI 35) X.1 X.2.1 d_Ce_putInfo_78 (by decide) ?_
      refine lv_aload_n X.1 X.2.1 d_Ce_putInfo_80 rfl (lv_at hl 4 rfl) ?_
      refine t_get0 (ci := 4) X Y S k0 rfl i_Ce 12 (by decide) rfl lk_Ce_157 (fun _ h9 => h9) d_Ce_putInfo_81 ((gF_same (s108.2.2.2 _ ⟨(t_obj S.1 k0).1, nM_of k0 (by decide), by simp⟩).1 12).trans e107) ?_
      refine lv_isub X.1 X.2.1 d_Ce_putInfo_84 ?_
      refine t_u (fun z123 l123 u123 => ?_)
      refine t_nv (t_runV (As := [.int (iI z123)]) (rest := []) (n := 1) X Y S k0 hml hl.1 (c_Ce_putTypeInfo l D E T κ L f108 H.size h k0 z123 (by omega) (by omega) S.1) (ok_k X Y hA KS KR) rfl kl_Ce_Ce_putTypeInfo ks_Ce_putTypeInfo kx_Ce_putTypeInfo ki_Ce_putTypeInfo ini_Ce ⟨rfl, rfl⟩ hd_Ce_putTypeInfo ⟨Nat.le_of_ble_eq_true rfl, Nat.le_of_ble_eq_true rfl⟩ rfl (Nat.le_of_ble_eq_true rfl) d_Ce_putInfo_85 ⟨Nat.le_of_ble_eq_true rfl, Nat.le_of_ble_eq_true rfl⟩) X Y hA S (by decide) (fun f124 H locs Y S s124 p124 => ?_)
      exact J110 f124 _ _ _  Y S (lv_sub hl [4, 3, 2, 1, 0] rfl)
set_option maxHeartbeats 4000000 in
set_option maxRecDepth 100000 in
theorem c_Ce_putReply (l : Launch) (D : va_G) (E : cE) (T : cT) (κ : tK) (L : List Nat) (f : pF) (sz : Nat) (h : Nat) (k0 : κ h = (14, 0)) (hw : tW E T κ L f) : Met l y_Ce_putReply (k_Ce_putReply :: lw_tg) (kRm 8 214 2 64) (va_Pc [.ref h] (kPre D E T L f sz)) (va_Qv (aPv E T [1, 2, 3, 4, 11, 13, 16, 21] [] κ L f (fun (k : tK) (g : pF) => True)) (cPost D E (pA L sz)) (pA L sz)) 2 64 (pA L sz) := by
  refine k_enter (own := R_Ce) (by decide) rfl (Nat.le_of_ble_eq_true rfl) (fun p e s m below meth c ls AV QQ H locs hQQ X Y hA hin hr hlk hml hl KS KR => ?_)
  have hl : lv_has ls 7 [(0, .ref h)] := hl
  have S : tS E T (tFr κ L [1, 2, 3, 4, 11, 13, 16, 21] []) κ L f κ L f := tS_rf hw
  have hF0 : ∀ b, tFr κ L [1, 2, 3, 4, 11, 13, 16, 21] [] b → b ∈ L := fun b h9 => h9.1
  refine lv_aload_n X.1 X.2.1 d_Ce_putReply_0 rfl (lv_at hl 0 rfl) ?_
  refine t_getr (ci := 4) X Y S k0 rfl i_Ce 0 (by decide) rfl (k1 := 21) (k2 := 0) rfl rfl lk_Ce_18 (fun _ h9 => h9) d_Ce_putReply_1 (fun b101 e101 k101 => ?_)
  refine lv_aload_n X.1 X.2.1 d_Ce_putReply_4 rfl (lv_at hl 0 rfl) ?_
  refine t_geti (ci := 4) X Y S k0 rfl i_Ce 12 (by decide) rfl lk_Ce_157 (fun _ h9 => h9) d_Ce_putReply_5 (fun z102 e102 l102 u102 => ?_)
  refine t_ar (t_runV (As := [.int (iI z102)]) (rest := []) (n := 1) X Y S k101 hml hl.1 (c_Va_freshKey l D E T κ L f H.size b101 k101 z102 (by omega) (by omega) S.1) (ok_k X Y hA KS KR) rfl kl_Ce_Va_freshKey ks_Va_freshKey kx_Va_freshKey ki_Va_freshKey ini_Va ⟨rfl, rfl⟩ hd_Va_freshKey ⟨Nat.le_of_ble_eq_true rfl, Nat.le_of_ble_eq_true rfl⟩ rfl (Nat.le_of_ble_eq_true rfl) d_Ce_putReply_8 ⟨Nat.le_of_ble_eq_true rfl, Nat.le_of_ble_eq_true rfl⟩) X Y hA S (by decide) (fun b103 κ103 L103 f103 H locs Y S s103 p103 => ?_)
  obtain ⟨n103, k103⟩ := p103
  have x103 := tKey_n k103
  have k104 : κ103 h = (14, 0) := tLe_k s103.2.2.1 k0
  refine lv_astore_n (lv' := [(1, .ref b103), (0, .ref h)]) X.1 X.2.1 d_Ce_putReply_11 rfl hl (by decide) rfl (fun ls hl => ?_)
  refine lv_aload_n X.1 X.2.1 d_Ce_putReply_12 rfl (lv_at hl 1 rfl) ?_
  refine t_geti (ci := 4) X Y S k104 rfl i_Ce 6 (by decide) rfl lk_Ce_65 (fun _ h9 => h9) d_Ce_putReply_13 (fun z105 e105 l105 u105 => ?_)
  have J107 : ∀ (z106 : Int) (H : Heap) (locs : List Loc) (ls : Array Slot), (11 ≤ z106) → (z106 ≤ 13) → pH D cCl (pA L sz) s.heap L103 f103 H locs → tS E T (tFr κ L [1, 2, 3, 4, 11, 13, 16, 21] []) κ L f κ103 L103 f103 → lv_has ls 7 [(0, .ref h), (1, .ref b103)] → W p l e (kRm 8 214 2 64) s m AV below meth c H locs 1 32 QQ (F0 m 26 ls [.int (iI z106)]) := by
    intro z106 H locs ls l106 u106 Y S hl
    refine lv_istore_n (lv' := [(2, .int (iI z106)), (0, .ref h), (1, .ref b103)]) X.1 X.2.1 d_Ce_putReply_26 rfl hl (by decide) rfl (fun ls hl => ?_)
    refine lv_aload_n X.1 X.2.1 d_Ce_putReply_27 rfl (lv_at hl 1 rfl) ?_
    refine t_getr (ci := 4) X Y S k104 rfl i_Ce 4 (by decide) rfl (k1 := 13) (k2 := 12288) rfl rfl lk_Ce_34 (fun _ h9 => h9) d_Ce_putReply_28 (fun b111 e111 k111 => ?_)
    refine t_nv (t_runV (As := []) (rest := []) (n := 0) X Y S k111 hml hl.1 (c_By_clear l D E T κ103 L103 f103 H.size b111 12288 k111 (by omega) S.1) (ok_k X Y hA KS KR) rfl kl_Ce_By_clear ks_By_clear kx_By_clear ki_By_clear ini_By ⟨rfl, rfl⟩ hd_By_clear ⟨Nat.le_of_ble_eq_true rfl, Nat.le_of_ble_eq_true rfl⟩ rfl (Nat.le_of_ble_eq_true rfl) d_Ce_putReply_31 ⟨Nat.le_of_ble_eq_true rfl, Nat.le_of_ble_eq_true rfl⟩) X Y hA S (by decide) (fun f112 H locs Y S s112 p112 => ?_)
    refine lv_aload_n X.1 X.2.1 d_Ce_putReply_34 rfl (lv_at hl 1 rfl) ?_
    refine t_get0 (ci := 4) X Y S k104 rfl i_Ce 4 (by decide) rfl lk_Ce_34 (fun _ h9 => h9) d_Ce_putReply_35 ((gF_same (s112.2.2.2 _ ⟨(t_obj S.1 k104).1, nM_of k104 (by decide), by simp⟩).1 4).trans e111) ?_
    refine lv_bipush (v := iI 96) X.1 X.2.1 d_Ce_putReply_38 (by decide) ?_
    refine lv_iload_n X.1 X.2.1 d_Ce_putReply_40 rfl (lv_at hl 0 rfl) ?_
    refine z_iadd X.1 X.2.1 d_Ce_putReply_41 ?_
    refine t_ni (t_runV (As := [.int (iI (96 + z106))]) (rest := []) (n := 1) X Y S k111 hml hl.1 (c_By_open l D E T κ103 L103 f112 H.size b111 12288 k111 (by omega) (96 + z106) (by omega) (by omega) S.1) (ok_k X Y hA KS KR) rfl kl_Ce_By_open ks_By_open kx_By_open ki_By_open ini_By ⟨rfl, rfl⟩ hd_By_open ⟨Nat.le_of_ble_eq_true rfl, Nat.le_of_ble_eq_true rfl⟩ rfl (Nat.le_of_ble_eq_true rfl) d_Ce_putReply_42 ⟨Nat.le_of_ble_eq_true rfl, Nat.le_of_ble_eq_true rfl⟩) X Y hA S (by decide) (fun z113 f113 H locs Y S s113 p113 => ?_)
    obtain ⟨l113, u113⟩ := p113
    refine lv_istore_n (lv' := [(3, .int (iI z113)), (2, .int (iI z106)), (0, .ref h), (1, .ref b103)]) X.1 X.2.1 d_Ce_putReply_45 rfl hl (by decide) rfl (fun ls hl => ?_)
    refine lv_aload_n X.1 X.2.1 d_Ce_putReply_46 rfl (lv_at hl 2 rfl) ?_
    refine t_get0 (ci := 4) X Y S k104 rfl i_Ce 4 (by decide) rfl lk_Ce_34 (fun _ h9 => h9) d_Ce_putReply_47 ((gF_same (s113.2.2.2 _ ⟨(t_obj S.1 k104).1, nM_of k104 (by decide), by simp⟩).1 4).trans ((gF_same (s112.2.2.2 _ ⟨(t_obj S.1 k104).1, nM_of k104 (by decide), by simp⟩).1 4).trans e111)) ?_
    refine lv_bipush (v := iI 48) X.1 X.2.1 d_Ce_putReply_50 (by decide) ?_
    refine t_ni (t_runV (As := [.int (iI 48)]) (rest := []) (n := 1) X Y S k111 hml hl.1 (c_By_open l D E T κ103 L103 f113 H.size b111 12288 k111 (by omega) 48 (by omega) (by omega) S.1) (ok_k X Y hA KS KR) rfl kl_Ce_By_open ks_By_open kx_By_open ki_By_open ini_By ⟨rfl, rfl⟩ hd_By_open ⟨Nat.le_of_ble_eq_true rfl, Nat.le_of_ble_eq_true rfl⟩ rfl (Nat.le_of_ble_eq_true rfl) d_Ce_putReply_52 ⟨Nat.le_of_ble_eq_true rfl, Nat.le_of_ble_eq_true rfl⟩) X Y hA S (by decide) (fun z114 f114 H locs Y S s114 p114 => ?_)
    obtain ⟨l114, u114⟩ := p114
    refine lv_istore (lv' := [(4, .int (iI z114)), (3, .int (iI z113)), (2, .int (iI z106)), (0, .ref h), (1, .ref b103)]) X.1 X.2.1 d_Ce_putReply_55 hl (by decide) rfl (fun ls hl => ?_)
    refine lv_aload_n X.1 X.2.1 d_Ce_putReply_57 rfl (lv_at hl 3 rfl) ?_
    refine t_get0 (ci := 4) X Y S k104 rfl i_Ce 4 (by decide) rfl lk_Ce_34 (fun _ h9 => h9) d_Ce_putReply_58 ((gF_same (s114.2.2.2 _ ⟨(t_obj S.1 k104).1, nM_of k104 (by decide), by simp⟩).1 4).trans ((gF_same (s113.2.2.2 _ ⟨(t_obj S.1 k104).1, nM_of k104 (by decide), by simp⟩).1 4).trans ((gF_same (s112.2.2.2 _ ⟨(t_obj S.1 k104).1, nM_of k104 (by decide), by simp⟩).1 4).trans e111))) ?_
    refine lv_iconst (v := iI 0) X.1 X.2.1 d_Ce_putReply_61 (by decide) ?_
    refine lv_ldc2 (v := (5)) X.1 X.2.1 X.2.2.2.1 (X.2.2.1 _ cl_Ce_79) d_Ce_putReply_62 ?_
    refine t_nv (t_runV (As := [.int (iI 0), .long ((5))]) (rest := []) (n := 2) X Y S k111 hml hl.1 (c_By_putNumber l D E T κ103 L103 f114 H.size b111 12288 k111 (by omega) 0 (by omega) (by omega) ((5)) S.1) (ok_k X Y hA KS KR) rfl kl_Ce_By_putNumber ks_By_putNumber kx_By_putNumber ki_By_putNumber ini_By ⟨rfl, rfl⟩ hd_By_putNumber ⟨Nat.le_of_ble_eq_true rfl, Nat.le_of_ble_eq_true rfl⟩ rfl (Nat.le_of_ble_eq_true rfl) d_Ce_putReply_65 ⟨Nat.le_of_ble_eq_true rfl, Nat.le_of_ble_eq_true rfl⟩) X Y hA S (by decide) (fun f115 H locs Y S s115 p115 => ?_)
    refine lv_aload_n X.1 X.2.1 d_Ce_putReply_68 rfl (lv_at hl 3 rfl) ?_
    refine t_get0 (ci := 4) X Y S k104 rfl i_Ce 4 (by decide) rfl lk_Ce_34 (fun _ h9 => h9) d_Ce_putReply_69 ((gF_same (s115.2.2.2 _ ⟨(t_obj S.1 k104).1, nM_of k104 (by decide), by simp⟩).1 4).trans ((gF_same (s114.2.2.2 _ ⟨(t_obj S.1 k104).1, nM_of k104 (by decide), by simp⟩).1 4).trans ((gF_same (s113.2.2.2 _ ⟨(t_obj S.1 k104).1, nM_of k104 (by decide), by simp⟩).1 4).trans ((gF_same (s112.2.2.2 _ ⟨(t_obj S.1 k104).1, nM_of k104 (by decide), by simp⟩).1 4).trans e111)))) ?_
    refine lv_iconst (v := iI 1) X.1 X.2.1 d_Ce_putReply_72 (by decide) ?_
    refine lv_iload_n X.1 X.2.1 d_Ce_putReply_73 rfl (lv_at hl 2 rfl) ?_
    refine lv_i2l X.1 X.2.1 d_Ce_putReply_74 rfl ?_
    refine t_anyl (fun v116 => ?_)
    refine t_nv (t_runV (As := [.int (iI 1), .long v116]) (rest := []) (n := 2) X Y S k111 hml hl.1 (c_By_putNumber l D E T κ103 L103 f115 H.size b111 12288 k111 (by omega) 1 (by omega) (by omega) v116 S.1) (ok_k X Y hA KS KR) rfl kl_Ce_By_putNumber ks_By_putNumber kx_By_putNumber ki_By_putNumber ini_By ⟨rfl, rfl⟩ hd_By_putNumber ⟨Nat.le_of_ble_eq_true rfl, Nat.le_of_ble_eq_true rfl⟩ rfl (Nat.le_of_ble_eq_true rfl) d_Ce_putReply_75 ⟨Nat.le_of_ble_eq_true rfl, Nat.le_of_ble_eq_true rfl⟩) X Y hA S (by decide) (fun f117 H locs Y S s117 p117 => ?_)
    refine lv_aload_n X.1 X.2.1 d_Ce_putReply_78 rfl (lv_at hl 3 rfl) ?_
    refine t_get0 (ci := 4) X Y S k104 rfl i_Ce 6 (by decide) rfl lk_Ce_65 (fun _ h9 => h9) d_Ce_putReply_79 ((gF_same (s117.2.2.2 _ ⟨(t_obj S.1 k104).1, nM_of k104 (by decide), by simp⟩).1 6).trans ((gF_same (s115.2.2.2 _ ⟨(t_obj S.1 k104).1, nM_of k104 (by decide), by simp⟩).1 6).trans ((gF_same (s114.2.2.2 _ ⟨(t_obj S.1 k104).1, nM_of k104 (by decide), by simp⟩).1 6).trans ((gF_same (s113.2.2.2 _ ⟨(t_obj S.1 k104).1, nM_of k104 (by decide), by simp⟩).1 6).trans ((gF_same (s112.2.2.2 _ ⟨(t_obj S.1 k104).1, nM_of k104 (by decide), by simp⟩).1 6).trans e105))))) ?_
    have J119 : ∀ (f118 : pF) (H : Heap) (locs : List Loc) (ls : Array Slot), pH D cCl (pA L sz) s.heap L103 f118 H locs → tS E T (tFr κ L [1, 2, 3, 4, 11, 13, 16, 21] []) κ L f κ103 L103 f118 → lv_has ls 7 [(0, .ref h), (1, .ref b103), (3, .int (iI z113)), (4, .int (iI z114))] → W p l e (kRm 8 214 2 64) s m AV below meth c H locs 1 32 QQ (F0 m 129 ls []) := by
      intro f118 H locs ls  Y S hl
      refine lv_aload_n X.1 X.2.1 d_Ce_putReply_129 rfl (lv_at hl 0 rfl) ?_
      refine t_getr (ci := 4) X Y S k104 rfl i_Ce 4 (by decide) rfl (k1 := 13) (k2 := 12288) rfl rfl lk_Ce_34 (fun _ h9 => h9) d_Ce_putReply_130 (fun b123 e123 k123 => ?_)
      refine lv_iconst (v := iI 3) X.1 X.2.1 d_Ce_putReply_133 (by decide) ?_
      refine t_nv (t_runV (As := [.int (iI 3)]) (rest := []) (n := 1) X Y S k123 hml hl.1 (c_By_putRealm l D E T κ103 L103 f118 H.size b123 12288 k123 (by omega) 3 (by omega) (by omega) S.1) (ok_k X Y hA KS KR) rfl kl_Ce_By_putRealm ks_By_putRealm kx_By_putRealm ki_By_putRealm ini_By ⟨rfl, rfl⟩ hd_By_putRealm ⟨Nat.le_of_ble_eq_true rfl, Nat.le_of_ble_eq_true rfl⟩ rfl (Nat.le_of_ble_eq_true rfl) d_Ce_putReply_134 ⟨Nat.le_of_ble_eq_true rfl, Nat.le_of_ble_eq_true rfl⟩) X Y hA S (by decide) (fun f124 H locs Y S s124 p124 => ?_)
      refine lv_aload_n X.1 X.2.1 d_Ce_putReply_137 rfl (lv_at hl 0 rfl) ?_
      refine lv_aload_n X.1 X.2.1 d_Ce_putReply_138 rfl (lv_at hl 0 rfl) ?_
      refine t_get0 (ci := 4) X Y S k104 rfl i_Ce 4 (by decide) rfl lk_Ce_34 (fun _ h9 => h9) d_Ce_putReply_139 ((gF_same (s124.2.2.2 _ ⟨(t_obj S.1 k104).1, nM_of k104 (by decide), by simp⟩).1 4).trans e123) ?_
      refine lv_iconst (v := iI 4) X.1 X.2.1 d_Ce_putReply_142 (by decide) ?_
      refine t_nv (t_runV (As := [.ref b123, .int (iI 4)]) (rest := []) (n := 2) X Y S k104 hml hl.1 (c_Ce_putClient l D E T κ103 L103 f124 H.size h k104 b123 12288 k123 (by omega) 4 (by omega) (by omega) S.1) (ok_k X Y hA KS KR) rfl kl_Ce_Ce_putClient ks_Ce_putClient kx_Ce_putClient ki_Ce_putClient ini_Ce ⟨rfl, rfl⟩ hd_Ce_putClient ⟨Nat.le_of_ble_eq_true rfl, Nat.le_of_ble_eq_true rfl⟩ rfl (Nat.le_of_ble_eq_true rfl) d_Ce_putReply_143 ⟨Nat.le_of_ble_eq_true rfl, Nat.le_of_ble_eq_true rfl⟩) X Y hA S (by decide) (fun f125 H locs Y S s125 p125 => ?_)
      refine lv_aload_n X.1 X.2.1 d_Ce_putReply_146 rfl (lv_at hl 0 rfl) ?_
      refine t_get0 (ci := 4) X Y S k104 rfl i_Ce 4 (by decide) rfl lk_Ce_34 (fun _ h9 => h9) d_Ce_putReply_147 ((gF_same (s125.2.2.2 _ ⟨(t_obj S.1 k104).1, nM_of k104 (by decide), by simp⟩).1 4).trans ((gF_same (s124.2.2.2 _ ⟨(t_obj S.1 k104).1, nM_of k104 (by decide), by simp⟩).1 4).trans e123)) ?_
      refine lv_iconst (v := iI 5) X.1 X.2.1 d_Ce_putReply_150 (by decide) ?_
      refine t_ni (t_runV (As := [.int (iI 5)]) (rest := []) (n := 1) X Y S k123 hml hl.1 (c_By_openField l D E T κ103 L103 f125 H.size b123 12288 k123 (by omega) 5 (by omega) (by omega) S.1) (ok_k X Y hA KS KR) rfl kl_Ce_By_openField ks_By_openField kx_By_openField ki_By_openField ini_By ⟨rfl, rfl⟩ hd_By_openField ⟨Nat.le_of_ble_eq_true rfl, Nat.le_of_ble_eq_true rfl⟩ rfl (Nat.le_of_ble_eq_true rfl) d_Ce_putReply_151 ⟨Nat.le_of_ble_eq_true rfl, Nat.le_of_ble_eq_true rfl⟩) X Y hA S (by decide) (fun z126 f126 H locs Y S s126 p126 => ?_)
      obtain ⟨l126, u126⟩ := p126
      refine lv_istore (lv' := [(5, .int (iI z126)), (0, .ref h), (1, .ref b103), (3, .int (iI z113)), (4, .int (iI z114))]) X.1 X.2.1 d_Ce_putReply_154 hl (by decide) rfl (fun ls hl => ?_)
      refine lv_aload_n X.1 X.2.1 d_Ce_putReply_156 rfl (lv_at hl 1 rfl) ?_
      refine lv_aload_n X.1 X.2.1 d_Ce_putReply_157 rfl (lv_at hl 2 rfl) ?_
      refine t_nv (t_runV (As := [.ref b103]) (rest := []) (n := 1) X Y S k104 hml hl.1 (c_Ce_putTicket l D E T κ103 L103 f126 H.size h k104 b103 n103 k103 (by omega) S.1) (ok_k X Y hA KS KR) rfl kl_Ce_Ce_putTicket ks_Ce_putTicket kx_Ce_putTicket ki_Ce_putTicket ini_Ce ⟨rfl, rfl⟩ hd_Ce_putTicket ⟨Nat.le_of_ble_eq_true rfl, Nat.le_of_ble_eq_true rfl⟩ rfl (Nat.le_of_ble_eq_true rfl) d_Ce_putReply_158 ⟨Nat.le_of_ble_eq_true rfl, Nat.le_of_ble_eq_true rfl⟩) X Y hA S (by decide) (fun f127 H locs Y S s127 p127 => ?_)
      refine lv_aload_n X.1 X.2.1 d_Ce_putReply_161 rfl (lv_at hl 1 rfl) ?_
      refine t_get0 (ci := 4) X Y S k104 rfl i_Ce 4 (by decide) rfl lk_Ce_34 (fun _ h9 => h9) d_Ce_putReply_162 ((gF_same (s127.2.2.2 _ ⟨(t_obj S.1 k104).1, nM_of k104 (by decide), by simp⟩).1 4).trans ((gF_same (s126.2.2.2 _ ⟨(t_obj S.1 k104).1, nM_of k104 (by decide), by simp⟩).1 4).trans ((gF_same (s125.2.2.2 _ ⟨(t_obj S.1 k104).1, nM_of k104 (by decide), by simp⟩).1 4).trans ((gF_same (s124.2.2.2 _ ⟨(t_obj S.1 k104).1, nM_of k104 (by decide), by simp⟩).1 4).trans e123)))) ?_
      refine lv_iload X.1 X.2.1 d_Ce_putReply_165 (lv_at hl 0 rfl) ?_
      refine t_nv (t_runV (As := [.int (iI z126)]) (rest := []) (n := 1) X Y S k123 hml hl.1 (c_By_close l D E T κ103 L103 f127 H.size b123 12288 k123 (by omega) z126 (by omega) (by omega) S.1) (ok_k X Y hA KS KR) rfl kl_Ce_By_close ks_By_close kx_By_close ki_By_close ini_By ⟨rfl, rfl⟩ hd_By_close ⟨Nat.le_of_ble_eq_true rfl, Nat.le_of_ble_eq_true rfl⟩ rfl (Nat.le_of_ble_eq_true rfl) d_Ce_putReply_167 ⟨Nat.le_of_ble_eq_true rfl, Nat.le_of_ble_eq_true rfl⟩) X Y hA S (by decide) (fun f128 H locs Y S s128 p128 => ?_)
      refine lv_aload_n X.1 X.2.1 d_Ce_putReply_170 rfl (lv_at hl 1 rfl) ?_
      refine lv_aload_n X.1 X.2.1 d_Ce_putReply_171 rfl (lv_at hl 2 rfl) ?_
      refine t_nv (t_runV (As := [.ref b103]) (rest := []) (n := 1) X Y S k104 hml hl.1 (c_Ce_putReplyPart l D E T κ103 L103 f128 H.size h k104 b103 n103 k103 (by omega) S.1) (ok_k X Y hA KS KR) rfl kl_Ce_Ce_putReplyPart ks_Ce_putReplyPart kx_Ce_putReplyPart ki_Ce_putReplyPart ini_Ce ⟨rfl, rfl⟩ hd_Ce_putReplyPart ⟨Nat.le_of_ble_eq_true rfl, Nat.le_of_ble_eq_true rfl⟩ rfl (Nat.le_of_ble_eq_true rfl) d_Ce_putReply_172 ⟨Nat.le_of_ble_eq_true rfl, Nat.le_of_ble_eq_true rfl⟩) X Y hA S (by decide) (fun f129 H locs Y S s129 p129 => ?_)
      refine lv_aload_n X.1 X.2.1 d_Ce_putReply_175 rfl (lv_at hl 1 rfl) ?_
      refine t_get0 (ci := 4) X Y S k104 rfl i_Ce 4 (by decide) rfl lk_Ce_34 (fun _ h9 => h9) d_Ce_putReply_176 ((gF_same (s129.2.2.2 _ ⟨(t_obj S.1 k104).1, nM_of k104 (by decide), by simp⟩).1 4).trans ((gF_same (s128.2.2.2 _ ⟨(t_obj S.1 k104).1, nM_of k104 (by decide), by simp⟩).1 4).trans ((gF_same (s127.2.2.2 _ ⟨(t_obj S.1 k104).1, nM_of k104 (by decide), by simp⟩).1 4).trans ((gF_same (s126.2.2.2 _ ⟨(t_obj S.1 k104).1, nM_of k104 (by decide), by simp⟩).1 4).trans ((gF_same (s125.2.2.2 _ ⟨(t_obj S.1 k104).1, nM_of k104 (by decide), by simp⟩).1 4).trans ((gF_same (s124.2.2.2 _ ⟨(t_obj S.1 k104).1, nM_of k104 (by decide), by simp⟩).1 4).trans e123)))))) ?_
      refine lv_bipush (v := iI 6) X.1 X.2.1 d_Ce_putReply_179 (by decide) ?_
      refine t_ni (t_runV (As := [.int (iI 6)]) (rest := []) (n := 1) X Y S k123 hml hl.1 (c_By_openField l D E T κ103 L103 f129 H.size b123 12288 k123 (by omega) 6 (by omega) (by omega) S.1) (ok_k X Y hA KS KR) rfl kl_Ce_By_openField ks_By_openField kx_By_openField ki_By_openField ini_By ⟨rfl, rfl⟩ hd_By_openField ⟨Nat.le_of_ble_eq_true rfl, Nat.le_of_ble_eq_true rfl⟩ rfl (Nat.le_of_ble_eq_true rfl) d_Ce_putReply_181 ⟨Nat.le_of_ble_eq_true rfl, Nat.le_of_ble_eq_true rfl⟩) X Y hA S (by decide) (fun z130 f130 H locs Y S s130 p130 => ?_)
      obtain ⟨l130, u130⟩ := p130
      refine lv_istore (lv' := [(5, .int (iI z130)), (0, .ref h), (1, .ref b103), (3, .int (iI z113)), (4, .int (iI z114))]) X.1 X.2.1 d_Ce_putReply_184 hl (by decide) rfl (fun ls hl => ?_)
      refine lv_aload_n X.1 X.2.1 d_Ce_putReply_186 rfl (lv_at hl 1 rfl) ?_
      refine t_av (t_runV (As := []) (rest := []) (n := 0) X Y S k104 hml hl.1 (c_Ce_sealReply l D E T κ103 L103 f130 H.size h k104 S.1) (ok_k X Y hA KS KR) rfl kl_Ce_Ce_sealReply ks_Ce_sealReply kx_Ce_sealReply ki_Ce_sealReply ini_Ce ⟨rfl, rfl⟩ hd_Ce_sealReply ⟨Nat.le_of_ble_eq_true rfl, Nat.le_of_ble_eq_true rfl⟩ rfl (Nat.le_of_ble_eq_true rfl) d_Ce_putReply_187 ⟨Nat.le_of_ble_eq_true rfl, Nat.le_of_ble_eq_true rfl⟩) X Y hA S (by decide) (fun κ131 L131 f131 H locs Y S s131 p131 => ?_)
      have k132 : κ131 h = (14, 0) := tLe_k s131.2.2.1 k104
      have k133 : tKey T κ131 b103 n103 := tLe_key s131.2.2.1 k103
      refine lv_aload_n X.1 X.2.1 d_Ce_putReply_190 rfl (lv_at hl 1 rfl) ?_
      refine t_getr (ci := 4) X Y S k132 rfl i_Ce 4 (by decide) rfl (k1 := 13) (k2 := 12288) rfl rfl lk_Ce_34 (fun _ h9 => h9) d_Ce_putReply_191 (fun b134 e134 k134 => ?_)
      refine lv_iload X.1 X.2.1 d_Ce_putReply_194 (lv_at hl 0 rfl) ?_
      refine t_nv (t_runV (As := [.int (iI z130)]) (rest := []) (n := 1) X Y S k134 hml hl.1 (c_By_close l D E T κ131 L131 f131 H.size b134 12288 k134 (by omega) z130 (by omega) (by omega) S.1) (ok_k X Y hA KS KR) rfl kl_Ce_By_close ks_By_close kx_By_close ki_By_close ini_By ⟨rfl, rfl⟩ hd_By_close ⟨Nat.le_of_ble_eq_true rfl, Nat.le_of_ble_eq_true rfl⟩ rfl (Nat.le_of_ble_eq_true rfl) d_Ce_putReply_196 ⟨Nat.le_of_ble_eq_true rfl, Nat.le_of_ble_eq_true rfl⟩) X Y hA S (by decide) (fun f135 H locs Y S s135 p135 => ?_)
      refine lv_aload_n X.1 X.2.1 d_Ce_putReply_199 rfl (lv_at hl 1 rfl) ?_
      refine t_get0 (ci := 4) X Y S k132 rfl i_Ce 4 (by decide) rfl lk_Ce_34 (fun _ h9 => h9) d_Ce_putReply_200 ((gF_same (s135.2.2.2 _ ⟨(t_obj S.1 k132).1, nM_of k132 (by decide), by simp⟩).1 4).trans e134) ?_
      refine lv_iload X.1 X.2.1 d_Ce_putReply_203 (lv_at hl 4 rfl) ?_
      refine t_nv (t_runV (As := [.int (iI z114)]) (rest := []) (n := 1) X Y S k134 hml hl.1 (c_By_close l D E T κ131 L131 f135 H.size b134 12288 k134 (by omega) z114 (by omega) (by omega) S.1) (ok_k X Y hA KS KR) rfl kl_Ce_By_close ks_By_close kx_By_close ki_By_close ini_By ⟨rfl, rfl⟩ hd_By_close ⟨Nat.le_of_ble_eq_true rfl, Nat.le_of_ble_eq_true rfl⟩ rfl (Nat.le_of_ble_eq_true rfl) d_Ce_putReply_205 ⟨Nat.le_of_ble_eq_true rfl, Nat.le_of_ble_eq_true rfl⟩) X Y hA S (by decide) (fun f136 H locs Y S s136 p136 => ?_)
      refine lv_aload_n X.1 X.2.1 d_Ce_putReply_208 rfl (lv_at hl 1 rfl) ?_
      refine t_get0 (ci := 4) X Y S k132 rfl i_Ce 4 (by decide) rfl lk_Ce_34 (fun _ h9 => h9) d_Ce_putReply_209 ((gF_same (s136.2.2.2 _ ⟨(t_obj S.1 k132).1, nM_of k132 (by decide), by simp⟩).1 4).trans ((gF_same (s135.2.2.2 _ ⟨(t_obj S.1 k132).1, nM_of k132 (by decide), by simp⟩).1 4).trans e134)) ?_
      refine lv_iload_n X.1 X.2.1 d_Ce_putReply_212 rfl (lv_at hl 3 rfl) ?_
      refine t_nv (t_runV (As := [.int (iI z113)]) (rest := []) (n := 1) X Y S k134 hml hl.1 (c_By_close l D E T κ131 L131 f136 H.size b134 12288 k134 (by omega) z113 (by omega) (by omega) S.1) (ok_k X Y hA KS KR) rfl kl_Ce_By_close ks_By_close kx_By_close ki_By_close ini_By ⟨rfl, rfl⟩ hd_By_close ⟨Nat.le_of_ble_eq_true rfl, Nat.le_of_ble_eq_true rfl⟩ rfl (Nat.le_of_ble_eq_true rfl) d_Ce_putReply_213 ⟨Nat.le_of_ble_eq_true rfl, Nat.le_of_ble_eq_true rfl⟩) X Y hA S (by decide) (fun f137 H locs Y S s137 p137 => ?_)
      exact c_retv hQQ X Y hr hlk ⟨κ131, S, trivial⟩ d_Ce_putReply_216
    refine z_if_eq (tgt := 129) X.1 X.2.1 d_Ce_putReply_82 (by decide) ⟨by omega, by omega⟩ (fun h138 => ?_) (fun h138 => ?_)
    · exact J119 f117 _ _ _  Y S (lv_sub hl [3, 4, 1, 0] rfl)
    · refine lv_aload_n X.1 X.2.1 d_Ce_putReply_85 rfl (lv_at hl 3 rfl) ?_
      refine t_get0 (ci := 4) X Y S k104 rfl i_Ce 4 (by decide) rfl lk_Ce_34 (fun _ h9 => h9) d_Ce_putReply_86 ((gF_same (s117.2.2.2 _ ⟨(t_obj S.1 k104).1, nM_of k104 (by decide), by simp⟩).1 4).trans ((gF_same (s115.2.2.2 _ ⟨(t_obj S.1 k104).1, nM_of k104 (by decide), by simp⟩).1 4).trans ((gF_same (s114.2.2.2 _ ⟨(t_obj S.1 k104).1, nM_of k104 (by decide), by simp⟩).1 4).trans ((gF_same (s113.2.2.2 _ ⟨(t_obj S.1 k104).1, nM_of k104 (by decide), by simp⟩).1 4).trans ((gF_same (s112.2.2.2 _ ⟨(t_obj S.1 k104).1, nM_of k104 (by decide), by simp⟩).1 4).trans e111))))) ?_
      refine lv_iconst (v := iI 2) X.1 X.2.1 d_Ce_putReply_89 (by decide) ?_
      refine t_ni (t_runV (As := [.int (iI 2)]) (rest := []) (n := 1) X Y S k111 hml hl.1 (c_By_openField l D E T κ103 L103 f117 H.size b111 12288 k111 (by omega) 2 (by omega) (by omega) S.1) (ok_k X Y hA KS KR) rfl kl_Ce_By_openField ks_By_openField kx_By_openField ki_By_openField ini_By ⟨rfl, rfl⟩ hd_By_openField ⟨Nat.le_of_ble_eq_true rfl, Nat.le_of_ble_eq_true rfl⟩ rfl (Nat.le_of_ble_eq_true rfl) d_Ce_putReply_90 ⟨Nat.le_of_ble_eq_true rfl, Nat.le_of_ble_eq_true rfl⟩) X Y hA S (by decide) (fun z139 f139 H locs Y S s139 p139 => ?_)
      obtain ⟨l139, u139⟩ := p139
      refine lv_istore (lv' := [(5, .int (iI z139)), (4, .int (iI z114)), (3, .int (iI z113)), (2, .int (iI z106)), (0, .ref h), (1, .ref b103)]) X.1 X.2.1 d_Ce_putReply_93 hl (by decide) rfl (fun ls hl => ?_)
      refine lv_aload_n X.1 X.2.1 d_Ce_putReply_95 rfl (lv_at hl 4 rfl) ?_
      refine t_get0 (ci := 4) X Y S k104 rfl i_Ce 4 (by decide) rfl lk_Ce_34 (fun _ h9 => h9) d_Ce_putReply_96 ((gF_same (s139.2.2.2 _ ⟨(t_obj S.1 k104).1, nM_of k104 (by decide), by simp⟩).1 4).trans ((gF_same (s117.2.2.2 _ ⟨(t_obj S.1 k104).1, nM_of k104 (by decide), by simp⟩).1 4).trans ((gF_same (s115.2.2.2 _ ⟨(t_obj S.1 k104).1, nM_of k104 (by decide), by simp⟩).1 4).trans ((gF_same (s114.2.2.2 _ ⟨(t_obj S.1 k104).1, nM_of k104 (by decide), by simp⟩).1 4).trans ((gF_same (s113.2.2.2 _ ⟨(t_obj S.1 k104).1, nM_of k104 (by decide), by simp⟩).1 4).trans ((gF_same (s112.2.2.2 _ ⟨(t_obj S.1 k104).1, nM_of k104 (by decide), by simp⟩).1 4).trans e111)))))) ?_
      refine lv_bipush (v := iI 48) X.1 X.2.1 d_Ce_putReply_99 (by decide) ?_
      refine t_ni (t_runV (As := [.int (iI 48)]) (rest := []) (n := 1) X Y S k111 hml hl.1 (c_By_open l D E T κ103 L103 f139 H.size b111 12288 k111 (by omega) 48 (by omega) (by omega) S.1) (ok_k X Y hA KS KR) rfl kl_Ce_By_open ks_By_open kx_By_open ki_By_open ini_By ⟨rfl, rfl⟩ hd_By_open ⟨Nat.le_of_ble_eq_true rfl, Nat.le_of_ble_eq_true rfl⟩ rfl (Nat.le_of_ble_eq_true rfl) d_Ce_putReply_101 ⟨Nat.le_of_ble_eq_true rfl, Nat.le_of_ble_eq_true rfl⟩) X Y hA S (by decide) (fun z140 f140 H locs Y S s140 p140 => ?_)
      obtain ⟨l140, u140⟩ := p140
      refine lv_istore (lv' := [(6, .int (iI z140)), (5, .int (iI z139)), (4, .int (iI z114)), (3, .int (iI z113)), (2, .int (iI z106)), (0, .ref h), (1, .ref b103)]) X.1 X.2.1 d_Ce_putReply_104 hl (by decide) rfl (fun ls hl => ?_)
      refine lv_aload_n X.1 X.2.1 d_Ce_putReply_106 rfl (lv_at hl 5 rfl) ?_
      refine lv_iconst (v := iI 0) X.1 X.2.1 d_Ce_putReply_107 (by decide) ?_
      refine t_nv (t_runV (As := [.int (iI 0)]) (rest := []) (n := 1) X Y S k104 hml hl.1 (c_Ce_putInfo l D E T κ103 L103 f140 H.size h k104 0 (by omega) (by omega) S.1) (ok_k X Y hA KS KR) rfl kl_Ce_Ce_putInfo ks_Ce_putInfo kx_Ce_putInfo ki_Ce_putInfo ini_Ce ⟨rfl, rfl⟩ hd_Ce_putInfo ⟨Nat.le_of_ble_eq_true rfl, Nat.le_of_ble_eq_true rfl⟩ rfl (Nat.le_of_ble_eq_true rfl) d_Ce_putReply_108 ⟨Nat.le_of_ble_eq_true rfl, Nat.le_of_ble_eq_true rfl⟩) X Y hA S (by decide) (fun f141 H locs Y S s141 p141 => ?_)
      refine lv_aload_n X.1 X.2.1 d_Ce_putReply_111 rfl (lv_at hl 5 rfl) ?_
      refine t_get0 (ci := 4) X Y S k104 rfl i_Ce 4 (by decide) rfl lk_Ce_34 (fun _ h9 => h9) d_Ce_putReply_112 ((gF_same (s141.2.2.2 _ ⟨(t_obj S.1 k104).1, nM_of k104 (by decide), by simp⟩).1 4).trans ((gF_same (s140.2.2.2 _ ⟨(t_obj S.1 k104).1, nM_of k104 (by decide), by simp⟩).1 4).trans ((gF_same (s139.2.2.2 _ ⟨(t_obj S.1 k104).1, nM_of k104 (by decide), by simp⟩).1 4).trans ((gF_same (s117.2.2.2 _ ⟨(t_obj S.1 k104).1, nM_of k104 (by decide), by simp⟩).1 4).trans ((gF_same (s115.2.2.2 _ ⟨(t_obj S.1 k104).1, nM_of k104 (by decide), by simp⟩).1 4).trans ((gF_same (s114.2.2.2 _ ⟨(t_obj S.1 k104).1, nM_of k104 (by decide), by simp⟩).1 4).trans ((gF_same (s113.2.2.2 _ ⟨(t_obj S.1 k104).1, nM_of k104 (by decide), by simp⟩).1 4).trans ((gF_same (s112.2.2.2 _ ⟨(t_obj S.1 k104).1, nM_of k104 (by decide), by simp⟩).1 4).trans e111)))))))) ?_
      refine lv_iload X.1 X.2.1 d_Ce_putReply_115 (lv_at hl 0 rfl) ?_
      refine t_nv (t_runV (As := [.int (iI z140)]) (rest := []) (n := 1) X Y S k111 hml hl.1 (c_By_close l D E T κ103 L103 f141 H.size b111 12288 k111 (by omega) z140 (by omega) (by omega) S.1) (ok_k X Y hA KS KR) rfl kl_Ce_By_close ks_By_close kx_By_close ki_By_close ini_By ⟨rfl, rfl⟩ hd_By_close ⟨Nat.le_of_ble_eq_true rfl, Nat.le_of_ble_eq_true rfl⟩ rfl (Nat.le_of_ble_eq_true rfl) d_Ce_putReply_117 ⟨Nat.le_of_ble_eq_true rfl, Nat.le_of_ble_eq_true rfl⟩) X Y hA S (by decide) (fun f142 H locs Y S s142 p142 => ?_)
      refine lv_aload_n X.1 X.2.1 d_Ce_putReply_120 rfl (lv_at hl 5 rfl) ?_
      refine t_get0 (ci := 4) X Y S k104 rfl i_Ce 4 (by decide) rfl lk_Ce_34 (fun _ h9 => h9) d_Ce_putReply_121 ((gF_same (s142.2.2.2 _ ⟨(t_obj S.1 k104).1, nM_of k104 (by decide), by simp⟩).1 4).trans ((gF_same (s141.2.2.2 _ ⟨(t_obj S.1 k104).1, nM_of k104 (by decide), by simp⟩).1 4).trans ((gF_same (s140.2.2.2 _ ⟨(t_obj S.1 k104).1, nM_of k104 (by decide), by simp⟩).1 4).trans ((gF_same (s139.2.2.2 _ ⟨(t_obj S.1 k104).1, nM_of k104 (by decide), by simp⟩).1 4).trans ((gF_same (s117.2.2.2 _ ⟨(t_obj S.1 k104).1, nM_of k104 (by decide), by simp⟩).1 4).trans ((gF_same (s115.2.2.2 _ ⟨(t_obj S.1 k104).1, nM_of k104 (by decide), by simp⟩).1 4).trans ((gF_same (s114.2.2.2 _ ⟨(t_obj S.1 k104).1, nM_of k104 (by decide), by simp⟩).1 4).trans ((gF_same (s113.2.2.2 _ ⟨(t_obj S.1 k104).1, nM_of k104 (by decide), by simp⟩).1 4).trans ((gF_same (s112.2.2.2 _ ⟨(t_obj S.1 k104).1, nM_of k104 (by decide), by simp⟩).1 4).trans e111))))))))) ?_
      refine lv_iload X.1 X.2.1 d_Ce_putReply_124 (lv_at hl 1 rfl) ?_
      refine t_nv (t_runV (As := [.int (iI z139)]) (rest := []) (n := 1) X Y S k111 hml hl.1 (c_By_close l D E T κ103 L103 f142 H.size b111 12288 k111 (by omega) z139 (by omega) (by omega) S.1) (ok_k X Y hA KS KR) rfl kl_Ce_By_close ks_By_close kx_By_close ki_By_close ini_By ⟨rfl, rfl⟩ hd_By_close ⟨Nat.le_of_ble_eq_true rfl, Nat.le_of_ble_eq_true rfl⟩ rfl (Nat.le_of_ble_eq_true rfl) d_Ce_putReply_126 ⟨Nat.le_of_ble_eq_true rfl, Nat.le_of_ble_eq_true rfl⟩) X Y hA S (by decide) (fun f143 H locs Y S s143 p143 => ?_)
      exact J119 f143 _ _ _  Y S (lv_sub hl [5, 6, 3, 2] rfl)
  refine z_if_eq (tgt := 24) X.1 X.2.1 d_Ce_putReply_16 (by decide) ⟨by omega, by omega⟩ (fun h144 => ?_) (fun h144 => ?_)
  · refine lv_bipush (v := iI 13) X.1 X.2.1 d_Ce_putReply_24 (by decide) ?_
    exact J107 13 _ _ _ (by omega) (by omega) Y S (lv_sub hl [1, 0] rfl)
  · refine lv_bipush (v := iI 11) X.1 X.2.1 d_Ce_putReply_19 (by decide) ?_
    refine lv_goto (tgt := 26) X.1 X.2.1 d_Ce_putReply_21 (by decide) ?_
    exact J107 11 _ _ _ (by omega) (by omega) Y S (lv_sub hl [1, 0] rfl)
set_option maxHeartbeats 4000000 in
set_option maxRecDepth 100000 in
theorem c_Ce_putMethods (l : Launch) (D : va_G) (E : cE) (T : cT) (κ : tK) (L : List Nat) (f : pF) (sz : Nat) (h : Nat) (k0 : κ h = (14, 0)) (hw : tW E T κ L f) : Met l y_Ce_putMethods (k_Ce_putMethods :: lw_tg) (kRm 8 188 0 0) (va_Pc [.ref h] (kPre D E T L f sz)) (va_Qv (nPv E T [1, 13] κ L f (fun (g : pF) => True)) (cPost D E (pA L sz)) (pA L sz)) 0 0 (pA L sz) := by
  refine k_enter (own := R_Ce) (by decide) rfl (Nat.le_of_ble_eq_true rfl) (fun p e s m below meth c ls AV QQ H locs hQQ X Y hA hin hr hlk hml hl KS KR => ?_)
  have hl : lv_has ls 5 [(0, .ref h)] := hl
  have S : tS E T (tFr κ L [1, 13] []) κ L f κ L f := tS_rf hw
  refine lv_aload_n X.1 X.2.1 d_Ce_putMethods_0 rfl (lv_at hl 0 rfl) ?_
  refine t_getr (ci := 4) X Y S k0 rfl i_Ce 4 (by decide) rfl (k1 := 13) (k2 := 12288) rfl rfl lk_Ce_34 (fun _ h9 => h9) d_Ce_putMethods_1 (fun b101 e101 k101 => ?_)
  refine lv_bipush (v := iI 12) X.1 X.2.1 d_Ce_putMethods_4 (by decide) ?_
  refine t_ni (t_runV (As := [.int (iI 12)]) (rest := []) (n := 1) X Y S k101 hml hl.1 (c_By_openField l D E T κ L f H.size b101 12288 k101 (by omega) 12 (by omega) (by omega) S.1) (ok_k X Y hA KS KR) rfl kl_Ce_By_openField ks_By_openField kx_By_openField ki_By_openField ini_By ⟨rfl, rfl⟩ hd_By_openField ⟨Nat.le_of_ble_eq_true rfl, Nat.le_of_ble_eq_true rfl⟩ rfl (Nat.le_of_ble_eq_true rfl) d_Ce_putMethods_6 ⟨Nat.le_of_ble_eq_true rfl, Nat.le_of_ble_eq_true rfl⟩) X Y hA S (by decide) (fun z102 f102 H locs Y S s102 p102 => ?_)
  obtain ⟨l102, u102⟩ := p102
  refine lv_istore_n (lv' := [(1, .int (iI z102)), (0, .ref h)]) X.1 X.2.1 d_Ce_putMethods_9 rfl hl (by decide) rfl (fun ls hl => ?_)
  refine lv_aload_n X.1 X.2.1 d_Ce_putMethods_10 rfl (lv_at hl 1 rfl) ?_
  refine t_get0 (ci := 4) X Y S k0 rfl i_Ce 4 (by decide) rfl lk_Ce_34 (fun _ h9 => h9) d_Ce_putMethods_11 ((gF_same (s102.2.2.2 _ ⟨(t_obj S.1 k0).1, nM_of k0 (by decide), by simp⟩).1 4).trans e101) ?_
  refine lv_iconst (v := iI 4) X.1 X.2.1 d_Ce_putMethods_14 (by decide) ?_
  refine t_ni (t_runV (As := [.int (iI 4)]) (rest := []) (n := 1) X Y S k101 hml hl.1 (c_By_open l D E T κ L f102 H.size b101 12288 k101 (by omega) 4 (by omega) (by omega) S.1) (ok_k X Y hA KS KR) rfl kl_Ce_By_open ks_By_open kx_By_open ki_By_open ini_By ⟨rfl, rfl⟩ hd_By_open ⟨Nat.le_of_ble_eq_true rfl, Nat.le_of_ble_eq_true rfl⟩ rfl (Nat.le_of_ble_eq_true rfl) d_Ce_putMethods_15 ⟨Nat.le_of_ble_eq_true rfl, Nat.le_of_ble_eq_true rfl⟩) X Y hA S (by decide) (fun z103 f103 H locs Y S s103 p103 => ?_)
  obtain ⟨l103, u103⟩ := p103
  refine lv_istore_n (lv' := [(2, .int (iI z103)), (1, .int (iI z102)), (0, .ref h)]) X.1 X.2.1 d_Ce_putMethods_18 rfl hl (by decide) rfl (fun ls hl => ?_)
  refine lv_aload_n X.1 X.2.1 d_Ce_putMethods_19 rfl (lv_at hl 2 rfl) ?_
  refine t_get0 (ci := 4) X Y S k0 rfl i_Ce 4 (by decide) rfl lk_Ce_34 (fun _ h9 => h9) d_Ce_putMethods_20 ((gF_same (s103.2.2.2 _ ⟨(t_obj S.1 k0).1, nM_of k0 (by decide), by simp⟩).1 4).trans ((gF_same (s102.2.2.2 _ ⟨(t_obj S.1 k0).1, nM_of k0 (by decide), by simp⟩).1 4).trans e101)) ?_
  refine lv_bipush (v := iI 48) X.1 X.2.1 d_Ce_putMethods_23 (by decide) ?_
  refine t_ni (t_runV (As := [.int (iI 48)]) (rest := []) (n := 1) X Y S k101 hml hl.1 (c_By_open l D E T κ L f103 H.size b101 12288 k101 (by omega) 48 (by omega) (by omega) S.1) (ok_k X Y hA KS KR) rfl kl_Ce_By_open ks_By_open kx_By_open ki_By_open ini_By ⟨rfl, rfl⟩ hd_By_open ⟨Nat.le_of_ble_eq_true rfl, Nat.le_of_ble_eq_true rfl⟩ rfl (Nat.le_of_ble_eq_true rfl) d_Ce_putMethods_25 ⟨Nat.le_of_ble_eq_true rfl, Nat.le_of_ble_eq_true rfl⟩) X Y hA S (by decide) (fun z104 f104 H locs Y S s104 p104 => ?_)
  obtain ⟨l104, u104⟩ := p104
  refine lv_istore_n (lv' := [(3, .int (iI z104)), (2, .int (iI z103)), (1, .int (iI z102)), (0, .ref h)]) X.1 X.2.1 d_Ce_putMethods_28 rfl hl (by decide) rfl (fun ls hl => ?_)
  refine lv_aload_n X.1 X.2.1 d_Ce_putMethods_29 rfl (lv_at hl 3 rfl) ?_
  refine t_get0 (ci := 4) X Y S k0 rfl i_Ce 4 (by decide) rfl lk_Ce_34 (fun _ h9 => h9) d_Ce_putMethods_30 ((gF_same (s104.2.2.2 _ ⟨(t_obj S.1 k0).1, nM_of k0 (by decide), by simp⟩).1 4).trans ((gF_same (s103.2.2.2 _ ⟨(t_obj S.1 k0).1, nM_of k0 (by decide), by simp⟩).1 4).trans ((gF_same (s102.2.2.2 _ ⟨(t_obj S.1 k0).1, nM_of k0 (by decide), by simp⟩).1 4).trans e101))) ?_
  refine lv_bipush (v := iI 48) X.1 X.2.1 d_Ce_putMethods_33 (by decide) ?_
  refine t_ni (t_runV (As := [.int (iI 48)]) (rest := []) (n := 1) X Y S k101 hml hl.1 (c_By_open l D E T κ L f104 H.size b101 12288 k101 (by omega) 48 (by omega) (by omega) S.1) (ok_k X Y hA KS KR) rfl kl_Ce_By_open ks_By_open kx_By_open ki_By_open ini_By ⟨rfl, rfl⟩ hd_By_open ⟨Nat.le_of_ble_eq_true rfl, Nat.le_of_ble_eq_true rfl⟩ rfl (Nat.le_of_ble_eq_true rfl) d_Ce_putMethods_35 ⟨Nat.le_of_ble_eq_true rfl, Nat.le_of_ble_eq_true rfl⟩) X Y hA S (by decide) (fun z105 f105 H locs Y S s105 p105 => ?_)
  obtain ⟨l105, u105⟩ := p105
  refine lv_istore (lv' := [(4, .int (iI z105)), (3, .int (iI z104)), (2, .int (iI z103)), (1, .int (iI z102)), (0, .ref h)]) X.1 X.2.1 d_Ce_putMethods_38 hl (by decide) rfl (fun ls hl => ?_)
  refine lv_aload_n X.1 X.2.1 d_Ce_putMethods_40 rfl (lv_at hl 4 rfl) ?_
  refine t_get0 (ci := 4) X Y S k0 rfl i_Ce 4 (by decide) rfl lk_Ce_34 (fun _ h9 => h9) d_Ce_putMethods_41 ((gF_same (s105.2.2.2 _ ⟨(t_obj S.1 k0).1, nM_of k0 (by decide), by simp⟩).1 4).trans ((gF_same (s104.2.2.2 _ ⟨(t_obj S.1 k0).1, nM_of k0 (by decide), by simp⟩).1 4).trans ((gF_same (s103.2.2.2 _ ⟨(t_obj S.1 k0).1, nM_of k0 (by decide), by simp⟩).1 4).trans ((gF_same (s102.2.2.2 _ ⟨(t_obj S.1 k0).1, nM_of k0 (by decide), by simp⟩).1 4).trans e101)))) ?_
  refine lv_iconst (v := iI 1) X.1 X.2.1 d_Ce_putMethods_44 (by decide) ?_
  refine lv_ldc2 (v := (2)) X.1 X.2.1 X.2.2.2.1 (X.2.2.1 _ cl_Ce_373) d_Ce_putMethods_45 ?_
  refine t_nv (t_runV (As := [.int (iI 1), .long ((2))]) (rest := []) (n := 2) X Y S k101 hml hl.1 (c_By_putNumber l D E T κ L f105 H.size b101 12288 k101 (by omega) 1 (by omega) (by omega) ((2)) S.1) (ok_k X Y hA KS KR) rfl kl_Ce_By_putNumber ks_By_putNumber kx_By_putNumber ki_By_putNumber ini_By ⟨rfl, rfl⟩ hd_By_putNumber ⟨Nat.le_of_ble_eq_true rfl, Nat.le_of_ble_eq_true rfl⟩ rfl (Nat.le_of_ble_eq_true rfl) d_Ce_putMethods_48 ⟨Nat.le_of_ble_eq_true rfl, Nat.le_of_ble_eq_true rfl⟩) X Y hA S (by decide) (fun f106 H locs Y S s106 p106 => ?_)
  refine lv_aload_n X.1 X.2.1 d_Ce_putMethods_51 rfl (lv_at hl 4 rfl) ?_
  refine t_get0 (ci := 4) X Y S k0 rfl i_Ce 4 (by decide) rfl lk_Ce_34 (fun _ h9 => h9) d_Ce_putMethods_52 ((gF_same (s106.2.2.2 _ ⟨(t_obj S.1 k0).1, nM_of k0 (by decide), by simp⟩).1 4).trans ((gF_same (s105.2.2.2 _ ⟨(t_obj S.1 k0).1, nM_of k0 (by decide), by simp⟩).1 4).trans ((gF_same (s104.2.2.2 _ ⟨(t_obj S.1 k0).1, nM_of k0 (by decide), by simp⟩).1 4).trans ((gF_same (s103.2.2.2 _ ⟨(t_obj S.1 k0).1, nM_of k0 (by decide), by simp⟩).1 4).trans ((gF_same (s102.2.2.2 _ ⟨(t_obj S.1 k0).1, nM_of k0 (by decide), by simp⟩).1 4).trans e101))))) ?_
  refine lv_iconst (v := iI 2) X.1 X.2.1 d_Ce_putMethods_55 (by decide) ?_
  refine k_getsN X Y KS KR (by decide) d_Ce_putMethods_56 ?_
  refine lv_iconst (v := iI 0) X.1 X.2.1 d_Ce_putMethods_59 (by decide) ?_
  refine lv_iconst (v := iI 0) X.1 X.2.1 d_Ce_putMethods_60 (by decide) ?_
  refine t_nv (t_runV (As := [.int (iI 2), .ref ((T.1 0)), .int (iI 0), .int (iI 0)]) (rest := []) (n := 4) X Y S k101 hml hl.1 (c_By_putOctets l D E T κ L f106 H.size b101 12288 k101 (by omega) 2 (by omega) (by omega) ((T.1 0)) 0 tSrc_no (by omega) 0 (by omega) (by omega) 0 (by omega) (by omega) S.1) (ok_k X Y hA KS KR) rfl kl_Ce_By_putOctets ks_By_putOctets kx_By_putOctets ki_By_putOctets ini_By ⟨rfl, rfl⟩ hd_By_putOctets ⟨Nat.le_of_ble_eq_true rfl, Nat.le_of_ble_eq_true rfl⟩ rfl (Nat.le_of_ble_eq_true rfl) d_Ce_putMethods_61 ⟨Nat.le_of_ble_eq_true rfl, Nat.le_of_ble_eq_true rfl⟩) X Y hA S (by decide) (fun f107 H locs Y S s107 p107 => ?_)
  refine lv_aload_n X.1 X.2.1 d_Ce_putMethods_64 rfl (lv_at hl 4 rfl) ?_
  refine t_get0 (ci := 4) X Y S k0 rfl i_Ce 4 (by decide) rfl lk_Ce_34 (fun _ h9 => h9) d_Ce_putMethods_65 ((gF_same (s107.2.2.2 _ ⟨(t_obj S.1 k0).1, nM_of k0 (by decide), by simp⟩).1 4).trans ((gF_same (s106.2.2.2 _ ⟨(t_obj S.1 k0).1, nM_of k0 (by decide), by simp⟩).1 4).trans ((gF_same (s105.2.2.2 _ ⟨(t_obj S.1 k0).1, nM_of k0 (by decide), by simp⟩).1 4).trans ((gF_same (s104.2.2.2 _ ⟨(t_obj S.1 k0).1, nM_of k0 (by decide), by simp⟩).1 4).trans ((gF_same (s103.2.2.2 _ ⟨(t_obj S.1 k0).1, nM_of k0 (by decide), by simp⟩).1 4).trans ((gF_same (s102.2.2.2 _ ⟨(t_obj S.1 k0).1, nM_of k0 (by decide), by simp⟩).1 4).trans e101)))))) ?_
  refine lv_iload X.1 X.2.1 d_Ce_putMethods_68 (lv_at hl 0 rfl) ?_
  refine t_nv (t_runV (As := [.int (iI z105)]) (rest := []) (n := 1) X Y S k101 hml hl.1 (c_By_close l D E T κ L f107 H.size b101 12288 k101 (by omega) z105 (by omega) (by omega) S.1) (ok_k X Y hA KS KR) rfl kl_Ce_By_close ks_By_close kx_By_close ki_By_close ini_By ⟨rfl, rfl⟩ hd_By_close ⟨Nat.le_of_ble_eq_true rfl, Nat.le_of_ble_eq_true rfl⟩ rfl (Nat.le_of_ble_eq_true rfl) d_Ce_putMethods_70 ⟨Nat.le_of_ble_eq_true rfl, Nat.le_of_ble_eq_true rfl⟩) X Y hA S (by decide) (fun f108 H locs Y S s108 p108 => ?_)
  refine lv_aload_n X.1 X.2.1 d_Ce_putMethods_73 rfl (lv_at hl 4 rfl) ?_
  refine lv_iconst (v := iI 1) X.1 X.2.1 d_Ce_putMethods_74 (by decide) ?_
  refine t_nv (t_runV (As := [.int (iI 1)]) (rest := []) (n := 1) X Y S k0 hml hl.1 (c_Ce_putInfo l D E T κ L f108 H.size h k0 1 (by omega) (by omega) S.1) (ok_k X Y hA KS KR) rfl kl_Ce_Ce_putInfo ks_Ce_putInfo kx_Ce_putInfo ki_Ce_putInfo ini_Ce ⟨rfl, rfl⟩ hd_Ce_putInfo ⟨Nat.le_of_ble_eq_true rfl, Nat.le_of_ble_eq_true rfl⟩ rfl (Nat.le_of_ble_eq_true rfl) d_Ce_putMethods_75 ⟨Nat.le_of_ble_eq_true rfl, Nat.le_of_ble_eq_true rfl⟩) X Y hA S (by decide) (fun f109 H locs Y S s109 p109 => ?_)
  refine lv_aload_n X.1 X.2.1 d_Ce_putMethods_78 rfl (lv_at hl 4 rfl) ?_
  refine t_get0 (ci := 4) X Y S k0 rfl i_Ce 4 (by decide) rfl lk_Ce_34 (fun _ h9 => h9) d_Ce_putMethods_79 ((gF_same (s109.2.2.2 _ ⟨(t_obj S.1 k0).1, nM_of k0 (by decide), by simp⟩).1 4).trans ((gF_same (s108.2.2.2 _ ⟨(t_obj S.1 k0).1, nM_of k0 (by decide), by simp⟩).1 4).trans ((gF_same (s107.2.2.2 _ ⟨(t_obj S.1 k0).1, nM_of k0 (by decide), by simp⟩).1 4).trans ((gF_same (s106.2.2.2 _ ⟨(t_obj S.1 k0).1, nM_of k0 (by decide), by simp⟩).1 4).trans ((gF_same (s105.2.2.2 _ ⟨(t_obj S.1 k0).1, nM_of k0 (by decide), by simp⟩).1 4).trans ((gF_same (s104.2.2.2 _ ⟨(t_obj S.1 k0).1, nM_of k0 (by decide), by simp⟩).1 4).trans ((gF_same (s103.2.2.2 _ ⟨(t_obj S.1 k0).1, nM_of k0 (by decide), by simp⟩).1 4).trans ((gF_same (s102.2.2.2 _ ⟨(t_obj S.1 k0).1, nM_of k0 (by decide), by simp⟩).1 4).trans e101)))))))) ?_
  refine lv_iload_n X.1 X.2.1 d_Ce_putMethods_82 rfl (lv_at hl 1 rfl) ?_
  refine t_nv (t_runV (As := [.int (iI z104)]) (rest := []) (n := 1) X Y S k101 hml hl.1 (c_By_close l D E T κ L f109 H.size b101 12288 k101 (by omega) z104 (by omega) (by omega) S.1) (ok_k X Y hA KS KR) rfl kl_Ce_By_close ks_By_close kx_By_close ki_By_close ini_By ⟨rfl, rfl⟩ hd_By_close ⟨Nat.le_of_ble_eq_true rfl, Nat.le_of_ble_eq_true rfl⟩ rfl (Nat.le_of_ble_eq_true rfl) d_Ce_putMethods_83 ⟨Nat.le_of_ble_eq_true rfl, Nat.le_of_ble_eq_true rfl⟩) X Y hA S (by decide) (fun f110 H locs Y S s110 p110 => ?_)
  refine lv_aload_n X.1 X.2.1 d_Ce_putMethods_86 rfl (lv_at hl 4 rfl) ?_
  refine t_get0 (ci := 4) X Y S k0 rfl i_Ce 4 (by decide) rfl lk_Ce_34 (fun _ h9 => h9) d_Ce_putMethods_87 ((gF_same (s110.2.2.2 _ ⟨(t_obj S.1 k0).1, nM_of k0 (by decide), by simp⟩).1 4).trans ((gF_same (s109.2.2.2 _ ⟨(t_obj S.1 k0).1, nM_of k0 (by decide), by simp⟩).1 4).trans ((gF_same (s108.2.2.2 _ ⟨(t_obj S.1 k0).1, nM_of k0 (by decide), by simp⟩).1 4).trans ((gF_same (s107.2.2.2 _ ⟨(t_obj S.1 k0).1, nM_of k0 (by decide), by simp⟩).1 4).trans ((gF_same (s106.2.2.2 _ ⟨(t_obj S.1 k0).1, nM_of k0 (by decide), by simp⟩).1 4).trans ((gF_same (s105.2.2.2 _ ⟨(t_obj S.1 k0).1, nM_of k0 (by decide), by simp⟩).1 4).trans ((gF_same (s104.2.2.2 _ ⟨(t_obj S.1 k0).1, nM_of k0 (by decide), by simp⟩).1 4).trans ((gF_same (s103.2.2.2 _ ⟨(t_obj S.1 k0).1, nM_of k0 (by decide), by simp⟩).1 4).trans ((gF_same (s102.2.2.2 _ ⟨(t_obj S.1 k0).1, nM_of k0 (by decide), by simp⟩).1 4).trans e101))))))))) ?_
  refine lv_iload_n X.1 X.2.1 d_Ce_putMethods_90 rfl (lv_at hl 2 rfl) ?_
  refine t_nv (t_runV (As := [.int (iI z103)]) (rest := []) (n := 1) X Y S k101 hml hl.1 (c_By_close l D E T κ L f110 H.size b101 12288 k101 (by omega) z103 (by omega) (by omega) S.1) (ok_k X Y hA KS KR) rfl kl_Ce_By_close ks_By_close kx_By_close ki_By_close ini_By ⟨rfl, rfl⟩ hd_By_close ⟨Nat.le_of_ble_eq_true rfl, Nat.le_of_ble_eq_true rfl⟩ rfl (Nat.le_of_ble_eq_true rfl) d_Ce_putMethods_91 ⟨Nat.le_of_ble_eq_true rfl, Nat.le_of_ble_eq_true rfl⟩) X Y hA S (by decide) (fun f111 H locs Y S s111 p111 => ?_)
  refine lv_aload_n X.1 X.2.1 d_Ce_putMethods_94 rfl (lv_at hl 4 rfl) ?_
  refine t_get0 (ci := 4) X Y S k0 rfl i_Ce 4 (by decide) rfl lk_Ce_34 (fun _ h9 => h9) d_Ce_putMethods_95 ((gF_same (s111.2.2.2 _ ⟨(t_obj S.1 k0).1, nM_of k0 (by decide), by simp⟩).1 4).trans ((gF_same (s110.2.2.2 _ ⟨(t_obj S.1 k0).1, nM_of k0 (by decide), by simp⟩).1 4).trans ((gF_same (s109.2.2.2 _ ⟨(t_obj S.1 k0).1, nM_of k0 (by decide), by simp⟩).1 4).trans ((gF_same (s108.2.2.2 _ ⟨(t_obj S.1 k0).1, nM_of k0 (by decide), by simp⟩).1 4).trans ((gF_same (s107.2.2.2 _ ⟨(t_obj S.1 k0).1, nM_of k0 (by decide), by simp⟩).1 4).trans ((gF_same (s106.2.2.2 _ ⟨(t_obj S.1 k0).1, nM_of k0 (by decide), by simp⟩).1 4).trans ((gF_same (s105.2.2.2 _ ⟨(t_obj S.1 k0).1, nM_of k0 (by decide), by simp⟩).1 4).trans ((gF_same (s104.2.2.2 _ ⟨(t_obj S.1 k0).1, nM_of k0 (by decide), by simp⟩).1 4).trans ((gF_same (s103.2.2.2 _ ⟨(t_obj S.1 k0).1, nM_of k0 (by decide), by simp⟩).1 4).trans ((gF_same (s102.2.2.2 _ ⟨(t_obj S.1 k0).1, nM_of k0 (by decide), by simp⟩).1 4).trans e101)))))))))) ?_
  refine lv_iload_n X.1 X.2.1 d_Ce_putMethods_98 rfl (lv_at hl 3 rfl) ?_
  refine t_nv (t_runV (As := [.int (iI z102)]) (rest := []) (n := 1) X Y S k101 hml hl.1 (c_By_close l D E T κ L f111 H.size b101 12288 k101 (by omega) z102 (by omega) (by omega) S.1) (ok_k X Y hA KS KR) rfl kl_Ce_By_close ks_By_close kx_By_close ki_By_close ini_By ⟨rfl, rfl⟩ hd_By_close ⟨Nat.le_of_ble_eq_true rfl, Nat.le_of_ble_eq_true rfl⟩ rfl (Nat.le_of_ble_eq_true rfl) d_Ce_putMethods_99 ⟨Nat.le_of_ble_eq_true rfl, Nat.le_of_ble_eq_true rfl⟩) X Y hA S (by decide) (fun f112 H locs Y S s112 p112 => ?_)
  exact c_retv hQQ X Y hr hlk ⟨rfl, S, trivial⟩ d_Ce_putMethods_102
set_option maxHeartbeats 4000000 in
set_option maxRecDepth 100000 in
theorem c_Ce_putError (l : Launch) (D : va_G) (E : cE) (T : cT) (κ : tK) (L : List Nat) (f : pF) (sz : Nat) (h : Nat) (k0 : κ h = (14, 0)) (a1 : Int) (l_a1 : (-2147483648) ≤ a1) (u_a1 : a1 ≤ 2147483647) (hw : tW E T κ L f) : Met l y_Ce_putError (k_Ce_putError :: lw_tg) (kRm 9 212 0 0) (va_Pc [.ref h, .int (iI a1)] (kPre D E T L f sz)) (va_Qv (nPv E T [1, 13] κ L f (fun (g : pF) => True)) (cPost D E (pA L sz)) (pA L sz)) 0 0 (pA L sz) := by
  refine k_enter (own := R_Ce) (by decide) rfl (Nat.le_of_ble_eq_true rfl) (fun p e s m below meth c ls AV QQ H locs hQQ X Y hA hin hr hlk hml hl KS KR => ?_)
  have hl : lv_has ls 7 [(0, .ref h), (1, .int (iI a1))] := hl
  have S : tS E T (tFr κ L [1, 13] []) κ L f κ L f := tS_rf hw
  refine lv_aload_n X.1 X.2.1 d_Ce_putError_0 rfl (lv_at hl 0 rfl) ?_
  refine t_geti (ci := 4) X Y S k0 rfl i_Ce 7 (by decide) rfl lk_Ce_76 (fun _ h9 => h9) d_Ce_putError_1 (fun z101 e101 l101 u101 => ?_)
  have J103 : ∀ (z102 : Int) (H : Heap) (locs : List Loc) (ls : Array Slot), ((-1) ≤ z102) → (z102 ≤ 12420) → pH D cCl (pA L sz) s.heap L f H locs → tS E T (tFr κ L [1, 13] []) κ L f κ L f → lv_has ls 7 [(0, .ref h), (1, .int (iI a1))] → W p l e (kRm 9 212 0 0) s m AV below meth c H locs 0 0 QQ (F0 m 20 ls [.int (iI z102)]) := by
    intro z102 H locs ls l102 u102 Y S hl
    refine lv_istore_n (lv' := [(2, .int (iI z102)), (0, .ref h), (1, .int (iI a1))]) X.1 X.2.1 d_Ce_putError_20 rfl hl (by decide) rfl (fun ls hl => ?_)
    refine lv_aload_n X.1 X.2.1 d_Ce_putError_21 rfl (lv_at hl 1 rfl) ?_
    refine t_geti (ci := 4) X Y S k0 rfl i_Ce 6 (by decide) rfl lk_Ce_65 (fun _ h9 => h9) d_Ce_putError_22 (fun z107 e107 l107 u107 => ?_)
    have J109 : ∀ (z108 : Int) (H : Heap) (locs : List Loc) (ls : Array Slot), ((-1) ≤ z108) → (z108 ≤ 12420) → pH D cCl (pA L sz) s.heap L f H locs → tS E T (tFr κ L [1, 13] []) κ L f κ L f → lv_has ls 7 [(0, .ref h), (1, .int (iI a1)), (2, .int (iI z102))] → W p l e (kRm 9 212 0 0) s m AV below meth c H locs 0 0 QQ (F0 m 41 ls [.int (iI z108)]) := by
      intro z108 H locs ls l108 u108 Y S hl
      refine lv_istore_n (lv' := [(3, .int (iI z108)), (0, .ref h), (1, .int (iI a1)), (2, .int (iI z102))]) X.1 X.2.1 d_Ce_putError_41 rfl hl (by decide) rfl (fun ls hl => ?_)
      refine lv_aload_n X.1 X.2.1 d_Ce_putError_42 rfl (lv_at hl 1 rfl) ?_
      refine t_getr (ci := 4) X Y S k0 rfl i_Ce 3 (by decide) rfl (k1 := 13) (k2 := 4000) rfl rfl lk_Ce_30 (fun _ h9 => h9) d_Ce_putError_43 (fun b113 e113 k113 => ?_)
      refine lv_iload_n X.1 X.2.1 d_Ce_putError_46 rfl (lv_at hl 3 rfl) ?_
      refine lv_iconst (v := iI 3) X.1 X.2.1 d_Ce_putError_47 (by decide) ?_
      refine t_ui (t_runV (As := [.int (iI z102), .int (iI 3)]) (rest := []) (n := 2) X Y S k113 hml hl.1 (c_By_field l D E T κ L f H.size b113 4000 k113 (by omega) z102 (by omega) (by omega) 3 (by omega) (by omega) S.1) (ok_k X Y hA KS KR) rfl kl_Ce_By_field ks_By_field kx_By_field ki_By_field ini_By ⟨rfl, rfl⟩ hd_By_field ⟨Nat.le_of_ble_eq_true rfl, Nat.le_of_ble_eq_true rfl⟩ rfl (Nat.le_of_ble_eq_true rfl) d_Ce_putError_48 ⟨Nat.le_of_ble_eq_true rfl, Nat.le_of_ble_eq_true rfl⟩) X Y hA (fun z114 H locs Y p114 => ?_)
      obtain ⟨l114, u114⟩ := p114
      refine lv_istore (lv' := [(4, .int (iI z114)), (3, .int (iI z108)), (0, .ref h), (1, .int (iI a1)), (2, .int (iI z102))]) X.1 X.2.1 d_Ce_putError_51 hl (by decide) rfl (fun ls hl => ?_)
      refine lv_aload_n X.1 X.2.1 d_Ce_putError_53 rfl (lv_at hl 2 rfl) ?_
      refine t_getr (ci := 4) X Y S k0 rfl i_Ce 4 (by decide) rfl (k1 := 13) (k2 := 12288) rfl rfl lk_Ce_34 (fun _ h9 => h9) d_Ce_putError_54 (fun b115 e115 k115 => ?_)
      refine t_nv (t_runV (As := []) (rest := []) (n := 0) X Y S k115 hml hl.1 (c_By_clear l D E T κ L f H.size b115 12288 k115 (by omega) S.1) (ok_k X Y hA KS KR) rfl kl_Ce_By_clear ks_By_clear kx_By_clear ki_By_clear ini_By ⟨rfl, rfl⟩ hd_By_clear ⟨Nat.le_of_ble_eq_true rfl, Nat.le_of_ble_eq_true rfl⟩ rfl (Nat.le_of_ble_eq_true rfl) d_Ce_putError_57 ⟨Nat.le_of_ble_eq_true rfl, Nat.le_of_ble_eq_true rfl⟩) X Y hA S (by decide) (fun f116 H locs Y S s116 p116 => ?_)
      refine lv_aload_n X.1 X.2.1 d_Ce_putError_60 rfl (lv_at hl 2 rfl) ?_
      refine t_get0 (ci := 4) X Y S k0 rfl i_Ce 4 (by decide) rfl lk_Ce_34 (fun _ h9 => h9) d_Ce_putError_61 ((gF_same (s116.2.2.2 _ ⟨(t_obj S.1 k0).1, nM_of k0 (by decide), by simp⟩).1 4).trans e115) ?_
      refine lv_bipush (v := iI 126) X.1 X.2.1 d_Ce_putError_64 (by decide) ?_
      refine t_ni (t_runV (As := [.int (iI 126)]) (rest := []) (n := 1) X Y S k115 hml hl.1 (c_By_open l D E T κ L f116 H.size b115 12288 k115 (by omega) 126 (by omega) (by omega) S.1) (ok_k X Y hA KS KR) rfl kl_Ce_By_open ks_By_open kx_By_open ki_By_open ini_By ⟨rfl, rfl⟩ hd_By_open ⟨Nat.le_of_ble_eq_true rfl, Nat.le_of_ble_eq_true rfl⟩ rfl (Nat.le_of_ble_eq_true rfl) d_Ce_putError_66 ⟨Nat.le_of_ble_eq_true rfl, Nat.le_of_ble_eq_true rfl⟩) X Y hA S (by decide) (fun z117 f117 H locs Y S s117 p117 => ?_)
      obtain ⟨l117, u117⟩ := p117
      refine lv_istore (lv' := [(5, .int (iI z117)), (4, .int (iI z114)), (3, .int (iI z108)), (0, .ref h), (1, .int (iI a1)), (2, .int (iI z102))]) X.1 X.2.1 d_Ce_putError_69 hl (by decide) rfl (fun ls hl => ?_)
      refine lv_aload_n X.1 X.2.1 d_Ce_putError_71 rfl (lv_at hl 3 rfl) ?_
      refine t_get0 (ci := 4) X Y S k0 rfl i_Ce 4 (by decide) rfl lk_Ce_34 (fun _ h9 => h9) d_Ce_putError_72 ((gF_same (s117.2.2.2 _ ⟨(t_obj S.1 k0).1, nM_of k0 (by decide), by simp⟩).1 4).trans ((gF_same (s116.2.2.2 _ ⟨(t_obj S.1 k0).1, nM_of k0 (by decide), by simp⟩).1 4).trans e115)) ?_
      refine lv_bipush (v := iI 48) X.1 X.2.1 d_Ce_putError_75 (by decide) ?_
      refine t_ni (t_runV (As := [.int (iI 48)]) (rest := []) (n := 1) X Y S k115 hml hl.1 (c_By_open l D E T κ L f117 H.size b115 12288 k115 (by omega) 48 (by omega) (by omega) S.1) (ok_k X Y hA KS KR) rfl kl_Ce_By_open ks_By_open kx_By_open ki_By_open ini_By ⟨rfl, rfl⟩ hd_By_open ⟨Nat.le_of_ble_eq_true rfl, Nat.le_of_ble_eq_true rfl⟩ rfl (Nat.le_of_ble_eq_true rfl) d_Ce_putError_77 ⟨Nat.le_of_ble_eq_true rfl, Nat.le_of_ble_eq_true rfl⟩) X Y hA S (by decide) (fun z118 f118 H locs Y S s118 p118 => ?_)
      obtain ⟨l118, u118⟩ := p118
      refine lv_istore (lv' := [(6, .int (iI z118)), (5, .int (iI z117)), (4, .int (iI z114)), (3, .int (iI z108)), (0, .ref h), (1, .int (iI a1)), (2, .int (iI z102))]) X.1 X.2.1 d_Ce_putError_80 hl (by decide) rfl (fun ls hl => ?_)
      refine lv_aload_n X.1 X.2.1 d_Ce_putError_82 rfl (lv_at hl 4 rfl) ?_
      refine t_get0 (ci := 4) X Y S k0 rfl i_Ce 4 (by decide) rfl lk_Ce_34 (fun _ h9 => h9) d_Ce_putError_83 ((gF_same (s118.2.2.2 _ ⟨(t_obj S.1 k0).1, nM_of k0 (by decide), by simp⟩).1 4).trans ((gF_same (s117.2.2.2 _ ⟨(t_obj S.1 k0).1, nM_of k0 (by decide), by simp⟩).1 4).trans ((gF_same (s116.2.2.2 _ ⟨(t_obj S.1 k0).1, nM_of k0 (by decide), by simp⟩).1 4).trans e115))) ?_
      refine lv_aload_n X.1 X.2.1 d_Ce_putError_86 rfl (lv_at hl 4 rfl) ?_
      refine t_getr (ci := 4) X Y S k0 rfl i_Ce 0 (by decide) rfl (k1 := 21) (k2 := 0) rfl rfl lk_Ce_18 (fun _ h9 => h9) d_Ce_putError_87 (fun b119 e119 k119 => ?_)
      refine t_geti (ci := 11) X Y S k119 rfl i_Va 0 (by decide) rfl lk_Ce_112 (fun _ h9 => h9) d_Ce_putError_90 (fun z120 e120 l120 u120 => ?_)
      refine lv_iload_n X.1 X.2.1 d_Ce_putError_93 rfl (lv_at hl 5 rfl) ?_
      refine t_nv (t_runV (As := [.int (iI z120), .int (iI a1)]) (rest := []) (n := 2) X Y S k115 hml hl.1 (c_By_putErrorHead l D E T κ L f118 H.size b115 12288 k115 (by omega) z120 (by omega) (by omega) a1 (by omega) (by omega) S.1) (ok_k X Y hA KS KR) rfl kl_Ce_By_putErrorHead ks_By_putErrorHead kx_By_putErrorHead ki_By_putErrorHead ini_By ⟨rfl, rfl⟩ hd_By_putErrorHead ⟨Nat.le_of_ble_eq_true rfl, Nat.le_of_ble_eq_true rfl⟩ rfl (Nat.le_of_ble_eq_true rfl) d_Ce_putError_94 ⟨Nat.le_of_ble_eq_true rfl, Nat.le_of_ble_eq_true rfl⟩) X Y hA S (by decide) (fun f121 H locs Y S s121 p121 => ?_)
      refine lv_iload_n X.1 X.2.1 d_Ce_putError_97 rfl (lv_at hl 3 rfl) ?_
      have J123 : ∀ (f122 : pF) (H : Heap) (locs : List Loc) (ls : Array Slot), pH D cCl (pA L sz) s.heap L f122 H locs → tS E T (tFr κ L [1, 13] []) κ L f κ L f122 → lv_has ls 7 [(0, .ref h), (1, .int (iI a1)), (4, .int (iI z114)), (5, .int (iI z117)), (6, .int (iI z118))] → W p l e (kRm 9 212 0 0) s m AV below meth c H locs 0 0 QQ (F0 m 137 ls []) := by
        intro f122 H locs ls  Y S hl
        refine lv_aload_n X.1 X.2.1 d_Ce_putError_137 rfl (lv_at hl 0 rfl) ?_
        refine t_getr (ci := 4) X Y S k0 rfl i_Ce 4 (by decide) rfl (k1 := 13) (k2 := 12288) rfl rfl lk_Ce_34 (fun _ h9 => h9) d_Ce_putError_138 (fun b127 e127 k127 => ?_)
        refine lv_bipush (v := iI 9) X.1 X.2.1 d_Ce_putError_141 (by decide) ?_
        refine t_nv (t_runV (As := [.int (iI 9)]) (rest := []) (n := 1) X Y S k127 hml hl.1 (c_By_putRealm l D E T κ L f122 H.size b127 12288 k127 (by omega) 9 (by omega) (by omega) S.1) (ok_k X Y hA KS KR) rfl kl_Ce_By_putRealm ks_By_putRealm kx_By_putRealm ki_By_putRealm ini_By ⟨rfl, rfl⟩ hd_By_putRealm ⟨Nat.le_of_ble_eq_true rfl, Nat.le_of_ble_eq_true rfl⟩ rfl (Nat.le_of_ble_eq_true rfl) d_Ce_putError_143 ⟨Nat.le_of_ble_eq_true rfl, Nat.le_of_ble_eq_true rfl⟩) X Y hA S (by decide) (fun f128 H locs Y S s128 p128 => ?_)
        refine lv_iload X.1 X.2.1 d_Ce_putError_146 (lv_at hl 2 rfl) ?_
        have J130 : ∀ (f129 : pF) (H : Heap) (locs : List Loc) (ls : Array Slot), pH D cCl (pA L sz) s.heap L f129 H locs → tS E T (tFr κ L [1, 13] []) κ L f κ L f129 → lv_has ls 7 [(0, .ref h), (1, .int (iI a1)), (5, .int (iI z117)), (6, .int (iI z118))] → W p l e (kRm 9 212 0 0) s m AV below meth c H locs 0 0 QQ (F0 m 188 ls []) := by
          intro f129 H locs ls  Y S hl
          refine lv_aload_n X.1 X.2.1 d_Ce_putError_188 rfl (lv_at hl 0 rfl) ?_
          refine t_geti (ci := 4) X Y S k0 rfl i_Ce 6 (by decide) rfl lk_Ce_65 (fun _ h9 => h9) d_Ce_putError_189 (fun z134 e134 l134 u134 => ?_)
          have J136 : ∀ (f135 : pF) (H : Heap) (locs : List Loc) (ls : Array Slot), pH D cCl (pA L sz) s.heap L f135 H locs → tS E T (tFr κ L [1, 13] []) κ L f κ L f135 → lv_has ls 7 [(0, .ref h), (5, .int (iI z117)), (6, .int (iI z118))] → W p l e (kRm 9 212 0 0) s m AV below meth c H locs 0 0 QQ (F0 m 205 ls []) := by
            intro f135 H locs ls  Y S hl
            refine lv_aload_n X.1 X.2.1 d_Ce_putError_205 rfl (lv_at hl 0 rfl) ?_
            refine t_getr (ci := 4) X Y S k0 rfl i_Ce 4 (by decide) rfl (k1 := 13) (k2 := 12288) rfl rfl lk_Ce_34 (fun _ h9 => h9) d_Ce_putError_206 (fun b140 e140 k140 => ?_)
            refine lv_iload X.1 X.2.1 d_Ce_putError_209 (lv_at hl 2 rfl) ?_
            refine t_nv (t_runV (As := [.int (iI z118)]) (rest := []) (n := 1) X Y S k140 hml hl.1 (c_By_close l D E T κ L f135 H.size b140 12288 k140 (by omega) z118 (by omega) (by omega) S.1) (ok_k X Y hA KS KR) rfl kl_Ce_By_close ks_By_close kx_By_close ki_By_close ini_By ⟨rfl, rfl⟩ hd_By_close ⟨Nat.le_of_ble_eq_true rfl, Nat.le_of_ble_eq_true rfl⟩ rfl (Nat.le_of_ble_eq_true rfl) d_Ce_putError_211 ⟨Nat.le_of_ble_eq_true rfl, Nat.le_of_ble_eq_true rfl⟩) X Y hA S (by decide) (fun f141 H locs Y S s141 p141 => ?_)
            refine lv_aload_n X.1 X.2.1 d_Ce_putError_214 rfl (lv_at hl 0 rfl) ?_
            refine t_get0 (ci := 4) X Y S k0 rfl i_Ce 4 (by decide) rfl lk_Ce_34 (fun _ h9 => h9) d_Ce_putError_215 ((gF_same (s141.2.2.2 _ ⟨(t_obj S.1 k0).1, nM_of k0 (by decide), by simp⟩).1 4).trans e140) ?_
            refine lv_iload X.1 X.2.1 d_Ce_putError_218 (lv_at hl 1 rfl) ?_
            refine t_nv (t_runV (As := [.int (iI z117)]) (rest := []) (n := 1) X Y S k140 hml hl.1 (c_By_close l D E T κ L f141 H.size b140 12288 k140 (by omega) z117 (by omega) (by omega) S.1) (ok_k X Y hA KS KR) rfl kl_Ce_By_close ks_By_close kx_By_close ki_By_close ini_By ⟨rfl, rfl⟩ hd_By_close ⟨Nat.le_of_ble_eq_true rfl, Nat.le_of_ble_eq_true rfl⟩ rfl (Nat.le_of_ble_eq_true rfl) d_Ce_putError_220 ⟨Nat.le_of_ble_eq_true rfl, Nat.le_of_ble_eq_true rfl⟩) X Y hA S (by decide) (fun f142 H locs Y S s142 p142 => ?_)
            exact c_retv hQQ X Y hr hlk ⟨rfl, S, trivial⟩ d_Ce_putError_223
          refine z_if_eq (tgt := 205) X.1 X.2.1 d_Ce_putError_192 (by decide) ⟨by omega, by omega⟩ (fun h143 => ?_) (fun h143 => ?_)
          · exact J136 f129 _ _ _  Y S (lv_sub hl [0, 2, 3] rfl)
          · refine lv_iload_n X.1 X.2.1 d_Ce_putError_195 rfl (lv_at hl 1 rfl) ?_
            refine lv_bipush (v := iI 25) X.1 X.2.1 d_Ce_putError_196 (by decide) ?_
            refine z_icmp_ne (tgt := 205) X.1 X.2.1 d_Ce_putError_198 (by decide) ⟨by omega, by omega⟩ ⟨by omega, by omega⟩ (fun h144 => ?_) (fun h144 => ?_)
            · exact J136 f129 _ _ _  Y S (lv_sub hl [0, 2, 3] rfl)
            · refine lv_aload_n X.1 X.2.1 d_Ce_putError_201 rfl (lv_at hl 0 rfl) ?_
              refine t_nv (t_runV (As := []) (rest := []) (n := 0) X Y S k0 hml hl.1 (c_Ce_putMethods l D E T κ L f129 H.size h k0 S.1) (ok_k X Y hA KS KR) rfl kl_Ce_Ce_putMethods ks_Ce_putMethods kx_Ce_putMethods ki_Ce_putMethods ini_Ce ⟨rfl, rfl⟩ hd_Ce_putMethods ⟨Nat.le_of_ble_eq_true rfl, Nat.le_of_ble_eq_true rfl⟩ rfl (Nat.le_of_ble_eq_true rfl) d_Ce_putError_202 ⟨Nat.le_of_ble_eq_true rfl, Nat.le_of_ble_eq_true rfl⟩) X Y hA S (by decide) (fun f145 H locs Y S s145 p145 => ?_)
              exact J136 f145 _ _ _  Y S (lv_sub hl [0, 2, 3] rfl)
        refine z_if_lt (tgt := 169) X.1 X.2.1 d_Ce_putError_148 (by decide) ⟨by omega, by omega⟩ (fun h146 => ?_) (fun h146 => ?_)
        · refine lv_aload_n X.1 X.2.1 d_Ce_putError_169 rfl (lv_at hl 0 rfl) ?_
          refine t_get0 (ci := 4) X Y S k0 rfl i_Ce 4 (by decide) rfl lk_Ce_34 (fun _ h9 => h9) d_Ce_putError_170 ((gF_same (s128.2.2.2 _ ⟨(t_obj S.1 k0).1, nM_of k0 (by decide), by simp⟩).1 4).trans e127) ?_
          refine lv_bipush (v := iI 10) X.1 X.2.1 d_Ce_putError_173 (by decide) ?_
          refine lv_iconst (v := iI 2) X.1 X.2.1 d_Ce_putError_175 (by decide) ?_
          refine lv_aload_n X.1 X.2.1 d_Ce_putError_176 rfl (lv_at hl 0 rfl) ?_
          refine t_getr (ci := 4) X Y S k0 rfl i_Ce 2 (by decide) rfl (k1 := 5) (k2 := 12) rfl rfl lk_Ce_26 (fun _ h9 => h9) d_Ce_putError_177 (fun b147 e147 k147 => ?_)
          refine lv_iconst (v := iI 0) X.1 X.2.1 d_Ce_putError_180 (by decide) ?_
          refine t_aald X Y S k147 (fun h9 => h9) (t0 := 2) rfl (by omega) (by omega) (by omega) d_Ce_putError_181 (fun b148 e148 k148 => ?_)
          refine t_getr (ci := 7) X Y S k148 rfl i_Pr 0 (by decide) rfl (k1 := 13) (k2 := 40) rfl rfl lk_Ce_350 (fun _ h9 => h9) d_Ce_putError_182 (fun b149 e149 k149 => ?_)
          refine t_nv (t_runV (As := [.int (iI 10), .int (iI 2), .ref b149]) (rest := []) (n := 3) X Y S k127 hml hl.1 (c_By_putName l D E T κ L f128 H.size b127 12288 k127 (by omega) 10 (by omega) (by omega) 2 (by omega) (by omega) b149 40 k149 (by omega) S.1) (ok_k X Y hA KS KR) rfl kl_Ce_By_putName ks_By_putName kx_By_putName ki_By_putName ini_By ⟨rfl, rfl⟩ hd_By_putName ⟨Nat.le_of_ble_eq_true rfl, Nat.le_of_ble_eq_true rfl⟩ rfl (Nat.le_of_ble_eq_true rfl) d_Ce_putError_185 ⟨Nat.le_of_ble_eq_true rfl, Nat.le_of_ble_eq_true rfl⟩) X Y hA S (by decide) (fun f150 H locs Y S s150 p150 => ?_)
          exact J130 f150 _ _ _  Y S (lv_sub hl [0, 1, 3, 4] rfl)
        · refine lv_aload_n X.1 X.2.1 d_Ce_putError_151 rfl (lv_at hl 0 rfl) ?_
          refine t_get0 (ci := 4) X Y S k0 rfl i_Ce 4 (by decide) rfl lk_Ce_34 (fun _ h9 => h9) d_Ce_putError_152 ((gF_same (s128.2.2.2 _ ⟨(t_obj S.1 k0).1, nM_of k0 (by decide), by simp⟩).1 4).trans e127) ?_
          refine lv_bipush (v := iI 10) X.1 X.2.1 d_Ce_putError_155 (by decide) ?_
          refine lv_aload_n X.1 X.2.1 d_Ce_putError_157 rfl (lv_at hl 0 rfl) ?_
          refine t_getr (ci := 4) X Y S k0 rfl i_Ce 3 (by decide) rfl (k1 := 13) (k2 := 4000) rfl rfl lk_Ce_30 (fun _ h9 => h9) d_Ce_putError_158 (fun b151 e151 k151 => ?_)
          refine lv_iload X.1 X.2.1 d_Ce_putError_161 (lv_at hl 2 rfl) ?_
          refine t_nv (t_runV (As := [.int (iI 10), .ref b151, .int (iI z114)]) (rest := []) (n := 3) X Y S k127 hml hl.1 (c_By_putCopy l D E T κ L f128 H.size b127 12288 k127 (by omega) 10 (by omega) (by omega) b151 4000 k151 (by omega) z114 (by omega) (by omega) S.1) (ok_k X Y hA KS KR) rfl kl_Ce_By_putCopy ks_By_putCopy kx_By_putCopy ki_By_putCopy ini_By ⟨rfl, rfl⟩ hd_By_putCopy ⟨Nat.le_of_ble_eq_true rfl, Nat.le_of_ble_eq_true rfl⟩ rfl (Nat.le_of_ble_eq_true rfl) d_Ce_putError_163 ⟨Nat.le_of_ble_eq_true rfl, Nat.le_of_ble_eq_true rfl⟩) X Y hA S (by decide) (fun f152 H locs Y S s152 p152 => ?_)
          refine lv_goto (tgt := 188) X.1 X.2.1 d_Ce_putError_166 (by decide) ?_
          exact J130 f152 _ _ _  Y S (lv_sub hl [0, 1, 3, 4] rfl)
      refine z_if_lt (tgt := 137) X.1 X.2.1 d_Ce_putError_98 (by decide) ⟨by omega, by omega⟩ (fun h153 => ?_) (fun h153 => ?_)
      · exact J123 f121 _ _ _  Y S (lv_sub hl [4, 5, 2, 1, 0] rfl)
      · refine lv_aload_n X.1 X.2.1 d_Ce_putError_101 rfl (lv_at hl 4 rfl) ?_
        refine t_get0 (ci := 4) X Y S k0 rfl i_Ce 4 (by decide) rfl lk_Ce_34 (fun _ h9 => h9) d_Ce_putError_102 ((gF_same (s121.2.2.2 _ ⟨(t_obj S.1 k0).1, nM_of k0 (by decide), by simp⟩).1 4).trans ((gF_same (s118.2.2.2 _ ⟨(t_obj S.1 k0).1, nM_of k0 (by decide), by simp⟩).1 4).trans ((gF_same (s117.2.2.2 _ ⟨(t_obj S.1 k0).1, nM_of k0 (by decide), by simp⟩).1 4).trans ((gF_same (s116.2.2.2 _ ⟨(t_obj S.1 k0).1, nM_of k0 (by decide), by simp⟩).1 4).trans e115)))) ?_
        refine lv_bipush (v := iI 7) X.1 X.2.1 d_Ce_putError_105 (by decide) ?_
        refine lv_aload_n X.1 X.2.1 d_Ce_putError_107 rfl (lv_at hl 4 rfl) ?_
        refine t_get0 (ci := 4) X Y S k0 rfl i_Ce 3 (by decide) rfl lk_Ce_30 (fun _ h9 => h9) d_Ce_putError_108 ((gF_same (s121.2.2.2 _ ⟨(t_obj S.1 k0).1, nM_of k0 (by decide), by simp⟩).1 3).trans ((gF_same (s118.2.2.2 _ ⟨(t_obj S.1 k0).1, nM_of k0 (by decide), by simp⟩).1 3).trans ((gF_same (s117.2.2.2 _ ⟨(t_obj S.1 k0).1, nM_of k0 (by decide), by simp⟩).1 3).trans ((gF_same (s116.2.2.2 _ ⟨(t_obj S.1 k0).1, nM_of k0 (by decide), by simp⟩).1 3).trans e113)))) ?_
        refine lv_aload_n X.1 X.2.1 d_Ce_putError_111 rfl (lv_at hl 4 rfl) ?_
        refine t_get0 (ci := 4) X Y S k0 rfl i_Ce 3 (by decide) rfl lk_Ce_30 (fun _ h9 => h9) d_Ce_putError_112 ((gF_same (s121.2.2.2 _ ⟨(t_obj S.1 k0).1, nM_of k0 (by decide), by simp⟩).1 3).trans ((gF_same (s118.2.2.2 _ ⟨(t_obj S.1 k0).1, nM_of k0 (by decide), by simp⟩).1 3).trans ((gF_same (s117.2.2.2 _ ⟨(t_obj S.1 k0).1, nM_of k0 (by decide), by simp⟩).1 3).trans ((gF_same (s116.2.2.2 _ ⟨(t_obj S.1 k0).1, nM_of k0 (by decide), by simp⟩).1 3).trans e113)))) ?_
        refine lv_iload_n X.1 X.2.1 d_Ce_putError_115 rfl (lv_at hl 6 rfl) ?_
        refine lv_iconst (v := iI 2) X.1 X.2.1 d_Ce_putError_116 (by decide) ?_
        refine t_ui (t_runV (As := [.int (iI z102), .int (iI 2)]) (rest := [.ref b113, .int (iI 7), .ref b115]) (n := 2) X Y S k113 hml hl.1 (c_By_field l D E T κ L f121 H.size b113 4000 k113 (by omega) z102 (by omega) (by omega) 2 (by omega) (by omega) S.1) (ok_k X Y hA KS KR) rfl kl_Ce_By_field ks_By_field kx_By_field ki_By_field ini_By ⟨rfl, rfl⟩ hd_By_field ⟨Nat.le_of_ble_eq_true rfl, Nat.le_of_ble_eq_true rfl⟩ rfl (Nat.le_of_ble_eq_true rfl) d_Ce_putError_117 ⟨Nat.le_of_ble_eq_true rfl, Nat.le_of_ble_eq_true rfl⟩) X Y hA (fun z154 H locs Y p154 => ?_)
        obtain ⟨l154, u154⟩ := p154
        refine t_nv (t_runV (As := [.int (iI 7), .ref b113, .int (iI z154)]) (rest := []) (n := 3) X Y S k115 hml hl.1 (c_By_putCopy l D E T κ L f121 H.size b115 12288 k115 (by omega) 7 (by omega) (by omega) b113 4000 k113 (by omega) z154 (by omega) (by omega) S.1) (ok_k X Y hA KS KR) rfl kl_Ce_By_putCopy ks_By_putCopy kx_By_putCopy ki_By_putCopy ini_By ⟨rfl, rfl⟩ hd_By_putCopy ⟨Nat.le_of_ble_eq_true rfl, Nat.le_of_ble_eq_true rfl⟩ rfl (Nat.le_of_ble_eq_true rfl) d_Ce_putError_120 ⟨Nat.le_of_ble_eq_true rfl, Nat.le_of_ble_eq_true rfl⟩) X Y hA S (by decide) (fun f155 H locs Y S s155 p155 => ?_)
        refine lv_aload_n X.1 X.2.1 d_Ce_putError_123 rfl (lv_at hl 4 rfl) ?_
        refine t_get0 (ci := 4) X Y S k0 rfl i_Ce 4 (by decide) rfl lk_Ce_34 (fun _ h9 => h9) d_Ce_putError_124 ((gF_same (s155.2.2.2 _ ⟨(t_obj S.1 k0).1, nM_of k0 (by decide), by simp⟩).1 4).trans ((gF_same (s121.2.2.2 _ ⟨(t_obj S.1 k0).1, nM_of k0 (by decide), by simp⟩).1 4).trans ((gF_same (s118.2.2.2 _ ⟨(t_obj S.1 k0).1, nM_of k0 (by decide), by simp⟩).1 4).trans ((gF_same (s117.2.2.2 _ ⟨(t_obj S.1 k0).1, nM_of k0 (by decide), by simp⟩).1 4).trans ((gF_same (s116.2.2.2 _ ⟨(t_obj S.1 k0).1, nM_of k0 (by decide), by simp⟩).1 4).trans e115))))) ?_
        refine lv_bipush (v := iI 8) X.1 X.2.1 d_Ce_putError_127 (by decide) ?_
        refine lv_aload_n X.1 X.2.1 d_Ce_putError_129 rfl (lv_at hl 4 rfl) ?_
        refine t_get0 (ci := 4) X Y S k0 rfl i_Ce 3 (by decide) rfl lk_Ce_30 (fun _ h9 => h9) d_Ce_putError_130 ((gF_same (s155.2.2.2 _ ⟨(t_obj S.1 k0).1, nM_of k0 (by decide), by simp⟩).1 3).trans ((gF_same (s121.2.2.2 _ ⟨(t_obj S.1 k0).1, nM_of k0 (by decide), by simp⟩).1 3).trans ((gF_same (s118.2.2.2 _ ⟨(t_obj S.1 k0).1, nM_of k0 (by decide), by simp⟩).1 3).trans ((gF_same (s117.2.2.2 _ ⟨(t_obj S.1 k0).1, nM_of k0 (by decide), by simp⟩).1 3).trans ((gF_same (s116.2.2.2 _ ⟨(t_obj S.1 k0).1, nM_of k0 (by decide), by simp⟩).1 3).trans e113))))) ?_
        refine lv_iload_n X.1 X.2.1 d_Ce_putError_133 rfl (lv_at hl 3 rfl) ?_
        refine t_nv (t_runV (As := [.int (iI 8), .ref b113, .int (iI z108)]) (rest := []) (n := 3) X Y S k115 hml hl.1 (c_By_putCopy l D E T κ L f155 H.size b115 12288 k115 (by omega) 8 (by omega) (by omega) b113 4000 k113 (by omega) z108 (by omega) (by omega) S.1) (ok_k X Y hA KS KR) rfl kl_Ce_By_putCopy ks_By_putCopy kx_By_putCopy ki_By_putCopy ini_By ⟨rfl, rfl⟩ hd_By_putCopy ⟨Nat.le_of_ble_eq_true rfl, Nat.le_of_ble_eq_true rfl⟩ rfl (Nat.le_of_ble_eq_true rfl) d_Ce_putError_134 ⟨Nat.le_of_ble_eq_true rfl, Nat.le_of_ble_eq_true rfl⟩) X Y hA S (by decide) (fun f156 H locs Y S s156 p156 => ?_)
        exact J123 f156 _ _ _  Y S (lv_sub hl [4, 5, 2, 1, 0] rfl)
    refine z_if_eq (tgt := 40) X.1 X.2.1 d_Ce_putError_25 (by decide) ⟨by omega, by omega⟩ (fun h157 => ?_) (fun h157 => ?_)
    · refine lv_iconst (v := iI (-1)) X.1 X.2.1 d_Ce_putError_40 (by decide) ?_
      exact J109 ((-1)) _ _ _ (by omega) (by omega) Y S (lv_sub hl [1, 2, 0] rfl)
    · refine lv_aload_n X.1 X.2.1 d_Ce_putError_28 rfl (lv_at hl 1 rfl) ?_
      refine t_getr (ci := 4) X Y S k0 rfl i_Ce 3 (by decide) rfl (k1 := 13) (k2 := 4000) rfl rfl lk_Ce_30 (fun _ h9 => h9) d_Ce_putError_29 (fun b158 e158 k158 => ?_)
      refine lv_iload_n X.1 X.2.1 d_Ce_putError_32 rfl (lv_at hl 0 rfl) ?_
      refine lv_iconst (v := iI 1) X.1 X.2.1 d_Ce_putError_33 (by decide) ?_
      refine t_ui (t_runV (As := [.int (iI z102), .int (iI 1)]) (rest := []) (n := 2) X Y S k158 hml hl.1 (c_By_field l D E T κ L f H.size b158 4000 k158 (by omega) z102 (by omega) (by omega) 1 (by omega) (by omega) S.1) (ok_k X Y hA KS KR) rfl kl_Ce_By_field ks_By_field kx_By_field ki_By_field ini_By ⟨rfl, rfl⟩ hd_By_field ⟨Nat.le_of_ble_eq_true rfl, Nat.le_of_ble_eq_true rfl⟩ rfl (Nat.le_of_ble_eq_true rfl) d_Ce_putError_34 ⟨Nat.le_of_ble_eq_true rfl, Nat.le_of_ble_eq_true rfl⟩) X Y hA (fun z159 H locs Y p159 => ?_)
      obtain ⟨l159, u159⟩ := p159
      refine lv_goto (tgt := 41) X.1 X.2.1 d_Ce_putError_37 (by decide) ?_
      exact J109 z159 _ _ _ (by omega) (by omega) Y S (lv_sub hl [1, 2, 0] rfl)
  refine z_if_eq (tgt := 19) X.1 X.2.1 d_Ce_putError_4 (by decide) ⟨by omega, by omega⟩ (fun h160 => ?_) (fun h160 => ?_)
  · refine lv_iconst (v := iI (-1)) X.1 X.2.1 d_Ce_putError_19 (by decide) ?_
    exact J103 ((-1)) _ _ _ (by omega) (by omega) Y S (lv_sub hl [0, 1] rfl)
  · refine lv_aload_n X.1 X.2.1 d_Ce_putError_7 rfl (lv_at hl 0 rfl) ?_
    refine t_getr (ci := 4) X Y S k0 rfl i_Ce 3 (by decide) rfl (k1 := 13) (k2 := 4000) rfl rfl lk_Ce_30 (fun _ h9 => h9) d_Ce_putError_8 (fun b161 e161 k161 => ?_)
    refine lv_iconst (v := iI 0) X.1 X.2.1 d_Ce_putError_11 (by decide) ?_
    refine lv_iconst (v := iI 4) X.1 X.2.1 d_Ce_putError_12 (by decide) ?_
    refine t_ui (t_runV (As := [.int (iI 0), .int (iI 4)]) (rest := []) (n := 2) X Y S k161 hml hl.1 (c_By_field l D E T κ L f H.size b161 4000 k161 (by omega) 0 (by omega) (by omega) 4 (by omega) (by omega) S.1) (ok_k X Y hA KS KR) rfl kl_Ce_By_field ks_By_field kx_By_field ki_By_field ini_By ⟨rfl, rfl⟩ hd_By_field ⟨Nat.le_of_ble_eq_true rfl, Nat.le_of_ble_eq_true rfl⟩ rfl (Nat.le_of_ble_eq_true rfl) d_Ce_putError_13 ⟨Nat.le_of_ble_eq_true rfl, Nat.le_of_ble_eq_true rfl⟩) X Y hA (fun z162 H locs Y p162 => ?_)
    obtain ⟨l162, u162⟩ := p162
    refine lv_goto (tgt := 20) X.1 X.2.1 d_Ce_putError_16 (by decide) ?_
    exact J103 z162 _ _ _ (by omega) (by omega) Y S (lv_sub hl [0, 1] rfl)
