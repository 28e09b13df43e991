set_option maxHeartbeats 4000000 in
set_option maxRecDepth 100000 in
theorem c_Va_typeOf (l : Launch) (D : va_G) (E : cE) (T : cT) (κ : tK) (L : List Nat) (f : pF) (sz : Nat) (a1 n1 : Nat) (k1 : tKey T κ a1 n1) (x1 : n1 = 0 ∨ n1 = 16 ∨ n1 = 32) (hw : tW E T κ L f) : Met l y_Va_typeOf (k_Va_typeOf :: lw_tg) (kRm 1 60 0 0) (va_Pc [.ref a1] (kPre D E T L f sz)) (va_Qi (uPi L f (fun (z : Int) => 17 ≤ z ∧ z ≤ 18)) (cPost D E (pA L sz)) (pA L sz)) 0 0 (pA L sz) := by
  refine k_enter (own := R_Va) (by decide) rfl (Nat.le_of_ble_eq_true rfl) (fun p e s m below meth c ls AV QQ H locs hQQ X Y hA hin hr hlk hml hl KS KR => ?_)
  have hl : lv_has ls 1 [(0, .ref a1)] := hl
  have S : tS E T (tFr κ L [] []) κ L f κ L f := tS_rf hw
  refine lv_aload_n X.1 X.2.1 d_Va_typeOf_0 rfl (lv_at hl 0 rfl) ?_
  refine t_alen X Y S KS (tKey_src k1) (by omega) d_Va_typeOf_1 ?_
  refine lv_bipush (v := iI 32) X.1 X.2.1 d_Va_typeOf_2 (by decide) ?_
  refine z_icmp_ne (tgt := 12) X.1 X.2.1 d_Va_typeOf_4 (by decide) ⟨by omega, by omega⟩ ⟨by omega, by omega⟩ (fun h101 => ?_) (fun h101 => ?_)
  · refine lv_bipush (v := iI 17) X.1 X.2.1 d_Va_typeOf_12 (by decide) ?_
    exact c_reti hQQ X Y hr hlk ⟨rfl, rfl, 17, rfl, ⟨by omega, by omega⟩⟩ d_Va_typeOf_14
  · refine lv_bipush (v := iI 18) X.1 X.2.1 d_Va_typeOf_7 (by decide) ?_
    refine lv_goto (tgt := 14) X.1 X.2.1 d_Va_typeOf_9 (by decide) ?_
    exact c_reti hQQ X Y hr hlk ⟨rfl, rfl, 18, rfl, ⟨by omega, by omega⟩⟩ d_Va_typeOf_14
set_option maxHeartbeats 4000000 in
set_option maxRecDepth 100000 in
theorem c_By_clear (l : Launch) (D : va_G) (E : cE) (T : cT) (κ : tK) (L : List Nat) (f : pF) (sz : Nat) (h n0 : Nat) (k0 : κ h = (13, n0)) (x0 : n0 ≤ 12288) (hw : tW E T κ L f) : Met l y_By_clear (k_By_clear :: lw_tg) (kRm 1 60 0 0) (va_Pc [.ref h] (kPre D E T L f sz)) (va_Qv (nPv E T [13] κ L f (fun (g : pF) => True)) (cPost D E (pA L sz)) (pA L sz)) 0 0 (pA L sz) := by
  refine k_enter (own := R_By) (by decide) rfl (Nat.le_of_ble_eq_true rfl) (fun p e s m below meth c ls AV QQ H locs hQQ X Y hA hin hr hlk hml hl KS KR => ?_)
  have hl : lv_has ls 1 [(0, .ref h)] := hl
  have S : tS E T (tFr κ L [13] []) κ L f κ L f := tS_rf hw
  refine lv_aload_n X.1 X.2.1 d_By_clear_0 rfl (lv_at hl 0 rfl) ?_
  refine lv_iconst (v := iI 0) X.1 X.2.1 d_By_clear_1 (by decide) ?_
  refine t_put (ci := 3) X Y S k0 rfl i_By t_By t_By_ok n_By 1 (by decide) rfl lk_By_21 (fun _ h9 => h9) rfl (t_By_ok 1 (by decide)) rfl rfl ⟨_, rfl, by omega, by omega⟩ (nF_of S k0 (by decide)) d_By_clear_2 (fun f101 H locs Y S w101 => ?_)
  exact c_retv hQQ X Y hr hlk ⟨rfl, S, trivial⟩ d_By_clear_5
set_option maxHeartbeats 4000000 in
set_option maxRecDepth 100000 in
theorem c_By_at (l : Launch) (D : va_G) (E : cE) (T : cT) (κ : tK) (L : List Nat) (f : pF) (sz : Nat) (h n0 : Nat) (k0 : κ h = (13, n0)) (x0 : n0 ≤ 12288) (a1 : Int) (l_a1 : (-2147483648) ≤ a1) (u_a1 : a1 ≤ 2147483647) (hw : tW E T κ L f) : Met l y_By_at (k_By_at :: lw_tg) (kRm 1 60 0 0) (va_Pc [.ref h, .int (iI a1)] (kPre D E T L f sz)) (va_Qi (uPi L f (fun (z : Int) => (-1) ≤ z ∧ z ≤ 255)) (cPost D E (pA L sz)) (pA L sz)) 0 0 (pA L sz) := by
  refine k_enter (own := R_By) (by decide) rfl (Nat.le_of_ble_eq_true rfl) (fun p e s m below meth c ls AV QQ H locs hQQ X Y hA hin hr hlk hml hl KS KR => ?_)
  have hl : lv_has ls 2 [(0, .ref h), (1, .int (iI a1))] := hl
  have S : tS E T (tFr κ L [] []) κ L f κ L f := tS_rf hw
  refine lv_iload_n X.1 X.2.1 d_By_at_0 rfl (lv_at hl 1 rfl) ?_
  refine z_if_lt (tgt := 25) X.1 X.2.1 d_By_at_1 (by decide) ⟨by omega, by omega⟩ (fun h101 => ?_) (fun h101 => ?_)
  · refine lv_iconst (v := iI (-1)) X.1 X.2.1 d_By_at_25 (by decide) ?_
    exact c_reti hQQ X Y hr hlk ⟨rfl, rfl, (-1), rfl, ⟨by omega, by omega⟩⟩ d_By_at_26
  · refine lv_iload_n X.1 X.2.1 d_By_at_4 rfl (lv_at hl 1 rfl) ?_
    refine lv_aload_n X.1 X.2.1 d_By_at_5 rfl (lv_at hl 0 rfl) ?_
    refine t_gets (ci := 3) X Y S k0 rfl i_By 1 (by decide) rfl lk_By_21 (fun _ h9 => h9) d_By_at_6 (fun z102 e102 l102 u102 => ?_)
    refine z_icmp_ge (tgt := 25) X.1 X.2.1 d_By_at_9 (by decide) ⟨by omega, by omega⟩ ⟨by omega, by omega⟩ (fun h103 => ?_) (fun h103 => ?_)
    · refine lv_iconst (v := iI (-1)) X.1 X.2.1 d_By_at_25 (by decide) ?_
      exact c_reti hQQ X Y hr hlk ⟨rfl, rfl, (-1), rfl, ⟨by omega, by omega⟩⟩ d_By_at_26
    · refine lv_aload_n X.1 X.2.1 d_By_at_12 rfl (lv_at hl 0 rfl) ?_
      refine t_getrow (ci := 3) X Y S k0 rfl i_By 0 (by decide) rfl lk_By_15 (fun _ h9 => h9) d_By_at_13 (fun b104 e104 k104 => ?_)
      refine lv_iload_n X.1 X.2.1 d_By_at_16 rfl (lv_at hl 1 rfl) ?_
      refine t_bald X Y S (Or.inl k104) (by omega) (by omega) (by omega) d_By_at_17 (fun z105 l105 u105 => ?_)
      refine lv_sipush (v := iI 255) X.1 X.2.1 d_By_at_18 (by decide) ?_
      refine z_iand X.1 X.2.1 (by omega) (by omega) d_By_at_21 (fun z106 l106 u106 => ?_)
      refine lv_goto (tgt := 26) X.1 X.2.1 d_By_at_22 (by decide) ?_
      exact c_reti hQQ X Y hr hlk ⟨rfl, rfl, z106, rfl, ⟨by omega, by omega⟩⟩ d_By_at_26
set_option maxHeartbeats 4000000 in
set_option maxRecDepth 100000 in
theorem c_By_put (l : Launch) (D : va_G) (E : cE) (T : cT) (κ : tK) (L : List Nat) (f : pF) (sz : Nat) (h n0 : Nat) (k0 : κ h = (13, n0)) (x0 : n0 ≤ 12288) (a1 : Int) (l_a1 : (-2147483648) ≤ a1) (u_a1 : a1 ≤ 2147483647) (hw : tW E T κ L f) : Met l y_By_put (k_By_put :: lw_tg) (kRm 1 60 0 0) (va_Pc [.ref h, .int (iI a1)] (kPre D E T L f sz)) (va_Qv (nPv E T [1, 13] κ L f (fun (g : pF) => True)) (cPost D E (pA L sz)) (pA L sz)) 0 0 (pA L sz) := by
  refine k_enter (own := R_By) (by decide) rfl (Nat.le_of_ble_eq_true rfl) (fun p e s m below meth c ls AV QQ H locs hQQ X Y hA hin hr hlk hml hl KS KR => ?_)
  have hl : lv_has ls 2 [(0, .ref h), (1, .int (iI a1))] := hl
  have S : tS E T (tFr κ L [1, 13] []) κ L f κ L f := tS_rf hw
  refine lv_aload_n X.1 X.2.1 d_By_put_0 rfl (lv_at hl 0 rfl) ?_
  refine t_gets (ci := 3) X Y S k0 rfl i_By 1 (by decide) rfl lk_By_21 (fun _ h9 => h9) d_By_put_1 (fun z101 e101 l101 u101 => ?_)
  refine lv_aload_n X.1 X.2.1 d_By_put_4 rfl (lv_at hl 0 rfl) ?_
  refine t_getrow (ci := 3) X Y S k0 rfl i_By 0 (by decide) rfl lk_By_15 (fun _ h9 => h9) d_By_put_5 (fun b102 e102 k102 => ?_)
  refine t_alen X Y S KS (Or.inl k102) (by omega) d_By_put_8 ?_
  refine z_icmp_ge (tgt := 33) X.1 X.2.1 d_By_put_9 (by decide) ⟨by omega, by omega⟩ ⟨by omega, by omega⟩ (fun h103 => ?_) (fun h103 => ?_)
  · exact c_retv hQQ X Y hr hlk ⟨rfl, S, trivial⟩ d_By_put_33
  · refine lv_aload_n X.1 X.2.1 d_By_put_12 rfl (lv_at hl 0 rfl) ?_
    refine t_get0 (ci := 3) X Y S k0 rfl i_By 0 (by decide) rfl lk_By_15 (fun _ h9 => h9) d_By_put_13 e102 ?_
    refine lv_aload_n X.1 X.2.1 d_By_put_16 rfl (lv_at hl 0 rfl) ?_
    refine t_get0 (ci := 3) X Y S k0 rfl i_By 1 (by decide) rfl lk_By_21 (fun _ h9 => h9) d_By_put_17 e101 ?_
    refine lv_iload_n X.1 X.2.1 d_By_put_20 rfl (lv_at hl 1 rfl) ?_
    refine lv_i2b X.1 X.2.1 d_By_put_21 rfl ?_
    refine t_u (fun z104 l104 u104 => ?_)
    refine t_bast X Y S k102 (by omega) (by omega) (by omega) (nF_of S k102 (by decide)) d_By_put_22 (fun f105 H locs Y S w105 => ?_)
    refine lv_aload_n X.1 X.2.1 d_By_put_23 rfl (lv_at hl 0 rfl) ?_
    refine lv_dup X.1 X.2.1 d_By_put_24 rfl ?_
    refine t_get0 (ci := 3) X Y S k0 rfl i_By 1 (by decide) rfl lk_By_21 (fun _ h9 => h9) d_By_put_25 ((gF_same (w105 _ (k_ne k0 k102 (by decide))) 1).trans e101) ?_
    refine lv_iconst (v := iI 1) X.1 X.2.1 d_By_put_28 (by decide) ?_
    refine z_iadd X.1 X.2.1 d_By_put_29 ?_
    refine t_put (ci := 3) X Y S k0 rfl i_By t_By t_By_ok n_By 1 (by decide) rfl lk_By_21 (fun _ h9 => h9) rfl (t_By_ok 1 (by decide)) rfl rfl ⟨_, rfl, by omega, by omega⟩ (nF_of S k0 (by decide)) d_By_put_30 (fun f106 H locs Y S w106 => ?_)
    exact c_retv hQQ X Y hr hlk ⟨rfl, S, trivial⟩ d_By_put_33
set_option maxHeartbeats 4000000 in
set_option maxRecDepth 100000 in
theorem c_By_putWord (l : Launch) (D : va_G) (E : cE) (T : cT) (κ : tK) (L : List Nat) (f : pF) (sz : Nat) (h n0 : Nat) (k0 : κ h = (13, n0)) (x0 : n0 ≤ 12288) (a1 : Int) (l_a1 : (-2147483648) ≤ a1) (u_a1 : a1 ≤ 2147483647) (hw : tW E T κ L f) : Met l y_By_putWord (k_By_putWord :: lw_tg) (kRm 2 81 0 0) (va_Pc [.ref h, .int (iI a1)] (kPre D E T L f sz)) (va_Qv (nPv E T [1, 13] κ L f (fun (g : pF) => True)) (cPost D E (pA L sz)) (pA L sz)) 0 0 (pA L sz) := by
  refine k_enter (own := R_By) (by decide) rfl (Nat.le_of_ble_eq_true rfl) (fun p e s m below meth c ls AV QQ H locs hQQ X Y hA hin hr hlk hml hl KS KR => ?_)
  have hl : lv_has ls 2 [(0, .ref h), (1, .int (iI a1))] := hl
  have S : tS E T (tFr κ L [1, 13] []) κ L f κ L f := tS_rf hw
  refine lv_aload_n X.1 X.2.1 d_By_putWord_0 rfl (lv_at hl 0 rfl) ?_
  refine lv_iload_n X.1 X.2.1 d_By_putWord_1 rfl (lv_at hl 1 rfl) ?_
  refine lv_bipush (v := iI 24) X.1 X.2.1 d_By_putWord_2 (by decide) ?_
  refine lv_ishr X.1 X.2.1 d_By_putWord_4 ?_
  refine t_u (fun z101 l101 u101 => ?_)
  refine t_nv (t_runV (As := [.int (iI z101)]) (rest := []) (n := 1) X Y S k0 hml hl.1 (c_By_put l D E T κ L f H.size h n0 k0 (by omega) z101 (by omega) (by omega) S.1) (ok_k X Y hA KS KR) rfl kl_By_By_put ks_By_put kx_By_put ki_By_put ini_By ⟨rfl, rfl⟩ hd_By_put ⟨Nat.le_of_ble_eq_true rfl, Nat.le_of_ble_eq_true rfl⟩ rfl (Nat.le_of_ble_eq_true rfl) d_By_putWord_5 ⟨Nat.le_of_ble_eq_true rfl, Nat.le_of_ble_eq_true rfl⟩) X Y hA S (by decide) (fun f102 H locs Y S s102 p102 => ?_)
  refine lv_aload_n X.1 X.2.1 d_By_putWord_8 rfl (lv_at hl 0 rfl) ?_
  refine lv_iload_n X.1 X.2.1 d_By_putWord_9 rfl (lv_at hl 1 rfl) ?_
  refine lv_bipush (v := iI 16) X.1 X.2.1 d_By_putWord_10 (by decide) ?_
  refine lv_ishr X.1 X.2.1 d_By_putWord_12 ?_
  refine t_u (fun z103 l103 u103 => ?_)
  refine t_nv (t_runV (As := [.int (iI z103)]) (rest := []) (n := 1) X Y S k0 hml hl.1 (c_By_put l D E T κ L f102 H.size h n0 k0 (by omega) z103 (by omega) (by omega) S.1) (ok_k X Y hA KS KR) rfl kl_By_By_put ks_By_put kx_By_put ki_By_put ini_By ⟨rfl, rfl⟩ hd_By_put ⟨Nat.le_of_ble_eq_true rfl, Nat.le_of_ble_eq_true rfl⟩ rfl (Nat.le_of_ble_eq_true rfl) d_By_putWord_13 ⟨Nat.le_of_ble_eq_true rfl, Nat.le_of_ble_eq_true rfl⟩) X Y hA S (by decide) (fun f104 H locs Y S s104 p104 => ?_)
  refine lv_aload_n X.1 X.2.1 d_By_putWord_16 rfl (lv_at hl 0 rfl) ?_
  refine lv_iload_n X.1 X.2.1 d_By_putWord_17 rfl (lv_at hl 1 rfl) ?_
  refine lv_bipush (v := iI 8) X.1 X.2.1 d_By_putWord_18 (by decide) ?_
  refine lv_ishr X.1 X.2.1 d_By_putWord_20 ?_
  refine t_u (fun z105 l105 u105 => ?_)
  refine t_nv (t_runV (As := [.int (iI z105)]) (rest := []) (n := 1) X Y S k0 hml hl.1 (c_By_put l D E T κ L f104 H.size h n0 k0 (by omega) z105 (by omega) (by omega) S.1) (ok_k X Y hA KS KR) rfl kl_By_By_put ks_By_put kx_By_put ki_By_put ini_By ⟨rfl, rfl⟩ hd_By_put ⟨Nat.le_of_ble_eq_true rfl, Nat.le_of_ble_eq_true rfl⟩ rfl (Nat.le_of_ble_eq_true rfl) d_By_putWord_21 ⟨Nat.le_of_ble_eq_true rfl, Nat.le_of_ble_eq_true rfl⟩) X Y hA S (by decide) (fun f106 H locs Y S s106 p106 => ?_)
  refine lv_aload_n X.1 X.2.1 d_By_putWord_24 rfl (lv_at hl 0 rfl) ?_
  refine lv_iload_n X.1 X.2.1 d_By_putWord_25 rfl (lv_at hl 1 rfl) ?_
  refine t_nv (t_runV (As := [.int (iI a1)]) (rest := []) (n := 1) X Y S k0 hml hl.1 (c_By_put l D E T κ L f106 H.size h n0 k0 (by omega) a1 (by omega) (by omega) S.1) (ok_k X Y hA KS KR) rfl kl_By_By_put ks_By_put kx_By_put ki_By_put ini_By ⟨rfl, rfl⟩ hd_By_put ⟨Nat.le_of_ble_eq_true rfl, Nat.le_of_ble_eq_true rfl⟩ rfl (Nat.le_of_ble_eq_true rfl) d_By_putWord_26 ⟨Nat.le_of_ble_eq_true rfl, Nat.le_of_ble_eq_true rfl⟩) X Y hA S (by decide) (fun f107 H locs Y S s107 p107 => ?_)
  exact c_retv hQQ X Y hr hlk ⟨rfl, S, trivial⟩ d_By_putWord_29
set_option maxHeartbeats 4000000 in
set_option maxRecDepth 100000 in
theorem c_By_append (l : Launch) (D : va_G) (E : cE) (T : cT) (κ : tK) (L : List Nat) (f : pF) (sz : Nat) (h n0 : Nat) (k0 : κ h = (13, n0)) (x0 : n0 ≤ 12288) (a1 n1 : Nat) (k1 : tSrc T κ a1 n1) (x1 : n1 ≤ 12288) (a2 : Int) (l_a2 : (-20200) ≤ a2) (u_a2 : a2 ≤ 20200) (a3 : Int) (l_a3 : (-40400) ≤ a3) (u_a3 : a3 ≤ 40400) (hw : tW E T κ L f) : Met l y_By_append (k_By_append :: lw_tg) (kRm 1 60 0 0) (va_Pc [.ref h, .ref a1, .int (iI a2), .int (iI a3)] (kPre D E T L f sz)) (va_Qv (nPv E T [1, 13] κ L f (fun (g : pF) => True)) (cPost D E (pA L sz)) (pA L sz)) 0 0 (pA L sz) := by
  refine k_enter (own := R_By) (by decide) rfl (Nat.le_of_ble_eq_true rfl) (fun p e s m below meth c ls AV QQ H locs hQQ X Y hA hin hr hlk hml hl KS KR => ?_)
  have hl : lv_has ls 4 [(0, .ref h), (1, .ref a1), (2, .int (iI a2)), (3, .int (iI a3))] := hl
  have S : tS E T (tFr κ L [1, 13] []) κ L f κ L f := tS_rf hw
  refine lv_iload_n X.1 X.2.1 d_By_append_0 rfl (lv_at hl 2 rfl) ?_
  refine z_if_lt (tgt := 30) X.1 X.2.1 d_By_append_1 (by decide) ⟨by omega, by omega⟩ (fun h101 => ?_) (fun h101 => ?_)
  · exact c_retv hQQ X Y hr hlk ⟨rfl, S, trivial⟩ d_By_append_30
  · refine lv_iload_n X.1 X.2.1 d_By_append_4 rfl (lv_at hl 3 rfl) ?_
    refine z_if_lt (tgt := 30) X.1 X.2.1 d_By_append_5 (by decide) ⟨by omega, by omega⟩ (fun h102 => ?_) (fun h102 => ?_)
    · exact c_retv hQQ X Y hr hlk ⟨rfl, S, trivial⟩ d_By_append_30
    · refine lv_iload_n X.1 X.2.1 d_By_append_8 rfl (lv_at hl 3 rfl) ?_
      refine lv_aload_n X.1 X.2.1 d_By_append_9 rfl (lv_at hl 1 rfl) ?_
      refine t_alen X Y S KS k1 (by omega) d_By_append_10 ?_
      refine lv_iload_n X.1 X.2.1 d_By_append_11 rfl (lv_at hl 2 rfl) ?_
      refine z_isub X.1 X.2.1 d_By_append_12 ?_
      refine z_icmp_gt (tgt := 30) X.1 X.2.1 d_By_append_13 (by decide) ⟨by omega, by omega⟩ ⟨by omega, by omega⟩ (fun h103 => ?_) (fun h103 => ?_)
      · exact c_retv hQQ X Y hr hlk ⟨rfl, S, trivial⟩ d_By_append_30
      · refine lv_iload_n X.1 X.2.1 d_By_append_16 rfl (lv_at hl 3 rfl) ?_
        refine lv_aload_n X.1 X.2.1 d_By_append_17 rfl (lv_at hl 0 rfl) ?_
        refine t_getrow (ci := 3) X Y S k0 rfl i_By 0 (by decide) rfl lk_By_15 (fun _ h9 => h9) d_By_append_18 (fun b104 e104 k104 => ?_)
        refine t_alen X Y S KS (Or.inl k104) (by omega) d_By_append_21 ?_
        refine lv_aload_n X.1 X.2.1 d_By_append_22 rfl (lv_at hl 0 rfl) ?_
        refine t_gets (ci := 3) X Y S k0 rfl i_By 1 (by decide) rfl lk_By_21 (fun _ h9 => h9) d_By_append_23 (fun z105 e105 l105 u105 => ?_)
        refine z_isub X.1 X.2.1 d_By_append_26 ?_
        refine z_icmp_le (tgt := 31) X.1 X.2.1 d_By_append_27 (by decide) ⟨by omega, by omega⟩ ⟨by omega, by omega⟩ (fun h106 => ?_) (fun h106 => ?_)
        · refine lv_aload_n X.1 X.2.1 d_By_append_31 rfl (lv_at hl 1 rfl) ?_
          refine lv_iload_n X.1 X.2.1 d_By_append_32 rfl (lv_at hl 2 rfl) ?_
          refine lv_aload_n X.1 X.2.1 d_By_append_33 rfl (lv_at hl 0 rfl) ?_
          refine t_get0 (ci := 3) X Y S k0 rfl i_By 0 (by decide) rfl lk_By_15 (fun _ h9 => h9) d_By_append_34 e104 ?_
          refine lv_aload_n X.1 X.2.1 d_By_append_37 rfl (lv_at hl 0 rfl) ?_
          refine t_get0 (ci := 3) X Y S k0 rfl i_By 1 (by decide) rfl lk_By_21 (fun _ h9 => h9) d_By_append_38 e105 ?_
          refine lv_iload_n X.1 X.2.1 d_By_append_41 rfl (lv_at hl 3 rfl) ?_
          refine t_copyB X Y S KS (hml.trans hl.1.symm) kl_By_copy k1 k104 (by omega) (by omega) (by omega) (by omega) (by omega) (by omega) (by omega) (nF_of S k104 (by decide)) (Nat.le_of_ble_eq_true rfl) (Nat.le_of_ble_eq_true rfl) d_By_append_42 (fun f107 H locs Y S w107 => ?_)
          refine lv_aload_n X.1 X.2.1 d_By_append_45 rfl (lv_at hl 0 rfl) ?_
          refine lv_dup X.1 X.2.1 d_By_append_46 rfl ?_
          refine t_get0 (ci := 3) X Y S k0 rfl i_By 1 (by decide) rfl lk_By_21 (fun _ h9 => h9) d_By_append_47 ((gF_same (w107 _ (k_ne k0 k104 (by decide))) 1).trans e105) ?_
          refine lv_iload_n X.1 X.2.1 d_By_append_50 rfl (lv_at hl 3 rfl) ?_
          refine z_iadd X.1 X.2.1 d_By_append_51 ?_
          refine t_put (ci := 3) X Y S k0 rfl i_By t_By t_By_ok n_By 1 (by decide) rfl lk_By_21 (fun _ h9 => h9) rfl (t_By_ok 1 (by decide)) rfl rfl ⟨_, rfl, by omega, by omega⟩ (nF_of S k0 (by decide)) d_By_append_52 (fun f108 H locs Y S w108 => ?_)
          exact c_retv hQQ X Y hr hlk ⟨rfl, S, trivial⟩ d_By_append_55
        · exact c_retv hQQ X Y hr hlk ⟨rfl, S, trivial⟩ d_By_append_30
set_option maxHeartbeats 4000000 in
set_option maxRecDepth 100000 in
theorem c_By_copyOf (l : Launch) (D : va_G) (E : cE) (T : cT) (κ : tK) (L : List Nat) (f : pF) (sz : Nat) (h n0 : Nat) (k0 : κ h = (13, n0)) (x0 : n0 ≤ 12288) (a1 n1 : Nat) (k1 : κ a1 = (13, n1)) (x1 : n1 ≤ 12288) (hw : tW E T κ L f) : Met l y_By_copyOf (k_By_copyOf :: lw_tg) (kRm 2 83 0 0) (va_Pc [.ref h, .ref a1] (kPre D E T L f sz)) (va_Qv (nPv E T [1, 13] κ L f (fun (g : pF) => True)) (cPost D E (pA L sz)) (pA L sz)) 0 0 (pA L sz) := by
  refine k_enter (own := R_By) (by decide) rfl (Nat.le_of_ble_eq_true rfl) (fun p e s m below meth c ls AV QQ H locs hQQ X Y hA hin hr hlk hml hl KS KR => ?_)
  have hl : lv_has ls 2 [(0, .ref h), (1, .ref a1)] := hl
  have S : tS E T (tFr κ L [1, 13] []) κ L f κ L f := tS_rf hw
  refine lv_aload_n X.1 X.2.1 d_By_copyOf_0 rfl (lv_at hl 0 rfl) ?_
  refine lv_iconst (v := iI 0) X.1 X.2.1 d_By_copyOf_1 (by decide) ?_
  refine t_put (ci := 3) X Y S k0 rfl i_By t_By t_By_ok n_By 1 (by decide) rfl lk_By_21 (fun _ h9 => h9) rfl (t_By_ok 1 (by decide)) rfl rfl ⟨_, rfl, by omega, by omega⟩ (nF_of S k0 (by decide)) d_By_copyOf_2 (fun f101 H locs Y S w101 => ?_)
  refine lv_aload_n X.1 X.2.1 d_By_copyOf_5 rfl (lv_at hl 0 rfl) ?_
  refine lv_aload_n X.1 X.2.1 d_By_copyOf_6 rfl (lv_at hl 1 rfl) ?_
  refine t_getrow (ci := 3) X Y S k1 rfl i_By 0 (by decide) rfl lk_By_15 (fun _ h9 => h9) d_By_copyOf_7 (fun b102 e102 k102 => ?_)
  refine lv_iconst (v := iI 0) X.1 X.2.1 d_By_copyOf_10 (by decide) ?_
  refine lv_aload_n X.1 X.2.1 d_By_copyOf_11 rfl (lv_at hl 1 rfl) ?_
  refine t_gets (ci := 3) X Y S k1 rfl i_By 1 (by decide) rfl lk_By_21 (fun _ h9 => h9) d_By_copyOf_12 (fun z103 e103 l103 u103 => ?_)
  refine t_nv (t_runV (As := [.ref b102, .int (iI 0), .int (iI z103)]) (rest := []) (n := 3) X Y S k0 hml hl.1 (c_By_append l D E T κ L f101 H.size h n0 k0 (by omega) b102 n1 (Or.inl k102) (by omega) 0 (by omega) (by omega) z103 (by omega) (by omega) S.1) (ok_k X Y hA KS KR) rfl kl_By_By_append ks_By_append kx_By_append ki_By_append ini_By ⟨rfl, rfl⟩ hd_By_append ⟨Nat.le_of_ble_eq_true rfl, Nat.le_of_ble_eq_true rfl⟩ rfl (Nat.le_of_ble_eq_true rfl) d_By_copyOf_15 ⟨Nat.le_of_ble_eq_true rfl, Nat.le_of_ble_eq_true rfl⟩) X Y hA S (by decide) (fun f104 H locs Y S s104 p104 => ?_)
  exact c_retv hQQ X Y hr hlk ⟨rfl, S, trivial⟩ d_By_copyOf_18
set_option maxHeartbeats 4000000 in
set_option maxRecDepth 100000 in
theorem c_By_skip (l : Launch) (D : va_G) (E : cE) (T : cT) (κ : tK) (L : List Nat) (f : pF) (sz : Nat) (h n0 : Nat) (k0 : κ h = (13, n0)) (x0 : n0 ≤ 12288) (a1 : Int) (l_a1 : 0 ≤ a1) (u_a1 : a1 ≤ 16) (hw : tW E T κ L f) : Met l y_By_skip (k_By_skip :: lw_tg) (kRm 1 60 0 0) (va_Pc [.ref h, .int (iI a1)] (kPre D E T L f sz)) (va_Qv (nPv E T [1, 13] κ L f (fun (g : pF) => True)) (cPost D E (pA L sz)) (pA L sz)) 0 0 (pA L sz) := by
  refine k_enter (own := R_By) (by decide) rfl (Nat.le_of_ble_eq_true rfl) (fun p e s m below meth c ls AV QQ H locs hQQ X Y hA hin hr hlk hml hl KS KR => ?_)
  have hl : lv_has ls 2 [(0, .ref h), (1, .int (iI a1))] := hl
  have S : tS E T (tFr κ L [1, 13] []) κ L f κ L f := tS_rf hw
  refine lv_iload_n X.1 X.2.1 d_By_skip_0 rfl (lv_at hl 1 rfl) ?_
  refine z_if_lt (tgt := 12) X.1 X.2.1 d_By_skip_1 (by decide) ⟨by omega, by omega⟩ (fun h101 => False.elim (by omega)) (fun h101 => ?_)
  · refine lv_iload_n X.1 X.2.1 d_By_skip_4 rfl (lv_at hl 1 rfl) ?_
    refine lv_aload_n X.1 X.2.1 d_By_skip_5 rfl (lv_at hl 0 rfl) ?_
    refine t_gets (ci := 3) X Y S k0 rfl i_By 1 (by decide) rfl lk_By_21 (fun _ h9 => h9) d_By_skip_6 (fun z102 e102 l102 u102 => ?_)
    refine z_icmp_le (tgt := 13) X.1 X.2.1 d_By_skip_9 (by decide) ⟨by omega, by omega⟩ ⟨by omega, by omega⟩ (fun h103 => ?_) (fun h103 => ?_)
    · refine lv_aload_n X.1 X.2.1 d_By_skip_13 rfl (lv_at hl 0 rfl) ?_
      refine t_getrow (ci := 3) X Y S k0 rfl i_By 0 (by decide) rfl lk_By_15 (fun _ h9 => h9) d_By_skip_14 (fun b104 e104 k104 => ?_)
      refine lv_iload_n X.1 X.2.1 d_By_skip_17 rfl (lv_at hl 1 rfl) ?_
      refine lv_aload_n X.1 X.2.1 d_By_skip_18 rfl (lv_at hl 0 rfl) ?_
      refine t_get0 (ci := 3) X Y S k0 rfl i_By 0 (by decide) rfl lk_By_15 (fun _ h9 => h9) d_By_skip_19 e104 ?_
      refine lv_iconst (v := iI 0) X.1 X.2.1 d_By_skip_22 (by decide) ?_
      refine lv_aload_n X.1 X.2.1 d_By_skip_23 rfl (lv_at hl 0 rfl) ?_
      refine t_get0 (ci := 3) X Y S k0 rfl i_By 1 (by decide) rfl lk_By_21 (fun _ h9 => h9) d_By_skip_24 e102 ?_
      refine lv_iload_n X.1 X.2.1 d_By_skip_27 rfl (lv_at hl 1 rfl) ?_
      refine z_isub X.1 X.2.1 d_By_skip_28 ?_
      refine t_copyB X Y S KS (hml.trans hl.1.symm) kl_By_copy (Or.inl k104) k104 (by omega) (by omega) (by omega) (by omega) (by omega) (by omega) (by omega) (nF_of S k104 (by decide)) (Nat.le_of_ble_eq_true rfl) (Nat.le_of_ble_eq_true rfl) d_By_skip_29 (fun f105 H locs Y S w105 => ?_)
      refine lv_aload_n X.1 X.2.1 d_By_skip_32 rfl (lv_at hl 0 rfl) ?_
      refine lv_dup X.1 X.2.1 d_By_skip_33 rfl ?_
      refine t_get0 (ci := 3) X Y S k0 rfl i_By 1 (by decide) rfl lk_By_21 (fun _ h9 => h9) d_By_skip_34 ((gF_same (w105 _ (k_ne k0 k104 (by decide))) 1).trans e102) ?_
      refine lv_iload_n X.1 X.2.1 d_By_skip_37 rfl (lv_at hl 1 rfl) ?_
      refine z_isub X.1 X.2.1 d_By_skip_38 ?_
      refine t_put (ci := 3) X Y S k0 rfl i_By t_By t_By_ok n_By 1 (by decide) rfl lk_By_21 (fun _ h9 => h9) rfl (t_By_ok 1 (by decide)) rfl rfl ⟨_, rfl, by omega, by omega⟩ (nF_of S k0 (by decide)) d_By_skip_39 (fun f106 H locs Y S w106 => ?_)
      exact c_retv hQQ X Y hr hlk ⟨rfl, S, trivial⟩ d_By_skip_42
    · exact c_retv hQQ X Y hr hlk ⟨rfl, S, trivial⟩ d_By_skip_12
set_option maxHeartbeats 4000000 in
set_option maxRecDepth 100000 in
theorem c_By_open (l : Launch) (D : va_G) (E : cE) (T : cT) (κ : tK) (L : List Nat) (f : pF) (sz : Nat) (h n0 : Nat) (k0 : κ h = (13, n0)) (x0 : n0 ≤ 12288) (a1 : Int) (l_a1 : (-2147483648) ≤ a1) (u_a1 : a1 ≤ 2147483647) (hw : tW E T κ L f) : Met l y_By_open (k_By_open :: lw_tg) (kRm 1 60 0 0) (va_Pc [.ref h, .int (iI a1)] (kPre D E T L f sz)) (va_Qi (nPi E T [1, 13] κ L f (fun (z : Int) (g : pF) => 0 ≤ z ∧ z ≤ 12288)) (cPost D E (pA L sz)) (pA L sz)) 0 0 (pA L sz) := by
  refine k_enter (own := R_By) (by decide) rfl (Nat.le_of_ble_eq_true rfl) (fun p e s m below meth c ls AV QQ H locs hQQ X Y hA hin hr hlk hml hl KS KR => ?_)
  have hl : lv_has ls 2 [(0, .ref h), (1, .int (iI a1))] := hl
  have S : tS E T (tFr κ L [1, 13] []) κ L f κ L f := tS_rf hw
  refine lv_aload_n X.1 X.2.1 d_By_open_0 rfl (lv_at hl 0 rfl) ?_
  refine t_gets (ci := 3) X Y S k0 rfl i_By 1 (by decide) rfl lk_By_21 (fun _ h9 => h9) d_By_open_1 (fun z101 e101 l101 u101 => ?_)
  refine lv_aload_n X.1 X.2.1 d_By_open_4 rfl (lv_at hl 0 rfl) ?_
  refine t_getrow (ci := 3) X Y S k0 rfl i_By 0 (by decide) rfl lk_By_15 (fun _ h9 => h9) d_By_open_5 (fun b102 e102 k102 => ?_)
  refine t_alen X Y S KS (Or.inl k102) (by omega) d_By_open_8 ?_
  refine lv_iconst (v := iI 1) X.1 X.2.1 d_By_open_9 (by decide) ?_
  refine z_isub X.1 X.2.1 d_By_open_10 ?_
  refine z_icmp_ge (tgt := 35) X.1 X.2.1 d_By_open_11 (by decide) ⟨by omega, by omega⟩ ⟨by omega, by omega⟩ (fun h103 => ?_) (fun h103 => ?_)
  · refine lv_aload_n X.1 X.2.1 d_By_open_35 rfl (lv_at hl 0 rfl) ?_
    refine t_get0 (ci := 3) X Y S k0 rfl i_By 1 (by decide) rfl lk_By_21 (fun _ h9 => h9) d_By_open_36 e101 ?_
    exact c_reti hQQ X Y hr hlk ⟨rfl, S, z101, rfl, ⟨by omega, by omega⟩⟩ d_By_open_39
  · refine lv_aload_n X.1 X.2.1 d_By_open_14 rfl (lv_at hl 0 rfl) ?_
    refine t_get0 (ci := 3) X Y S k0 rfl i_By 0 (by decide) rfl lk_By_15 (fun _ h9 => h9) d_By_open_15 e102 ?_
    refine lv_aload_n X.1 X.2.1 d_By_open_18 rfl (lv_at hl 0 rfl) ?_
    refine t_get0 (ci := 3) X Y S k0 rfl i_By 1 (by decide) rfl lk_By_21 (fun _ h9 => h9) d_By_open_19 e101 ?_
    refine lv_iload_n X.1 X.2.1 d_By_open_22 rfl (lv_at hl 1 rfl) ?_
    refine lv_i2b X.1 X.2.1 d_By_open_23 rfl ?_
    refine t_u (fun z104 l104 u104 => ?_)
    refine t_bast X Y S k102 (by omega) (by omega) (by omega) (nF_of S k102 (by decide)) d_By_open_24 (fun f105 H locs Y S w105 => ?_)
    refine lv_aload_n X.1 X.2.1 d_By_open_25 rfl (lv_at hl 0 rfl) ?_
    refine lv_dup X.1 X.2.1 d_By_open_26 rfl ?_
    refine t_get0 (ci := 3) X Y S k0 rfl i_By 1 (by decide) rfl lk_By_21 (fun _ h9 => h9) d_By_open_27 ((gF_same (w105 _ (k_ne k0 k102 (by decide))) 1).trans e101) ?_
    refine lv_iconst (v := iI 2) X.1 X.2.1 d_By_open_30 (by decide) ?_
    refine z_iadd X.1 X.2.1 d_By_open_31 ?_
    refine t_put (ci := 3) X Y S k0 rfl i_By t_By t_By_ok n_By 1 (by decide) rfl lk_By_21 (fun _ h9 => h9) rfl (t_By_ok 1 (by decide)) rfl rfl ⟨_, rfl, by omega, by omega⟩ (nF_of S k0 (by decide)) d_By_open_32 (fun f106 H locs Y S w106 => ?_)
    refine lv_aload_n X.1 X.2.1 d_By_open_35 rfl (lv_at hl 0 rfl) ?_
    refine t_get0 (ci := 3) X Y S k0 rfl i_By 1 (by decide) rfl lk_By_21 (fun _ h9 => h9) d_By_open_36 w106.2.1 ?_
    exact c_reti hQQ X Y hr hlk ⟨rfl, S, z101 + 2, rfl, ⟨by omega, by omega⟩⟩ d_By_open_39
set_option maxHeartbeats 4000000 in
set_option maxRecDepth 100000 in
theorem c_By_close (l : Launch) (D : va_G) (E : cE) (T : cT) (κ : tK) (L : List Nat) (f : pF) (sz : Nat) (h n0 : Nat) (k0 : κ h = (13, n0)) (x0 : n0 ≤ 12288) (a1 : Int) (l_a1 : (-1) ≤ a1) (u_a1 : a1 ≤ 20200) (hw : tW E T κ L f) : Met l y_By_close (k_By_close :: lw_tg) (kRm 1 60 0 0) (va_Pc [.ref h, .int (iI a1)] (kPre D E T L f sz)) (va_Qv (nPv E T [1, 13] κ L f (fun (g : pF) => True)) (cPost D E (pA L sz)) (pA L sz)) 0 0 (pA L sz) := by
  refine k_enter (own := R_By) (by decide) rfl (Nat.le_of_ble_eq_true rfl) (fun p e s m below meth c ls AV QQ H locs hQQ X Y hA hin hr hlk hml hl KS KR => ?_)
  have hl : lv_has ls 4 [(0, .ref h), (1, .int (iI a1))] := hl
  have S : tS E T (tFr κ L [1, 13] []) κ L f κ L f := tS_rf hw
  refine lv_aload_n X.1 X.2.1 d_By_close_0 rfl (lv_at hl 0 rfl) ?_
  refine t_gets (ci := 3) X Y S k0 rfl i_By 1 (by decide) rfl lk_By_21 (fun _ h9 => h9) d_By_close_1 (fun z101 e101 l101 u101 => ?_)
  refine lv_iload_n X.1 X.2.1 d_By_close_4 rfl (lv_at hl 1 rfl) ?_
  refine z_isub X.1 X.2.1 d_By_close_5 ?_
  refine lv_istore_n (lv' := [(2, .int (iI (z101 - a1))), (0, .ref h), (1, .int (iI a1))]) X.1 X.2.1 d_By_close_6 rfl hl (by decide) rfl (fun ls hl => ?_)
  refine lv_iload_n X.1 X.2.1 d_By_close_7 rfl (lv_at hl 0 rfl) ?_
  refine lv_sipush (v := iI 128) X.1 X.2.1 d_By_close_8 (by decide) ?_
  have J103 : ∀ (z102 : Int) (H : Heap) (locs : List Loc) (ls : Array Slot), (0 ≤ z102) → (z102 ≤ 2) → pH D cCl (pA L sz) s.heap L f H locs → tS E T (tFr κ L [1, 13] []) κ L f κ L f → lv_has ls 4 [(0, .ref h), (1, .int (iI a1)), (2, .int (iI (z101 - a1)))] → W p l e (kRm 1 60 0 0) s m AV below meth c H locs 0 0 QQ (F0 m 30 ls [.int (iI z102)]) := by
    intro z102 H locs ls l102 u102 Y S hl
    refine lv_istore_n (lv' := [(3, .int (iI z102)), (0, .ref h), (1, .int (iI a1)), (2, .int (iI (z101 - a1)))]) X.1 X.2.1 d_By_close_30 rfl hl (by decide) rfl (fun ls hl => ?_)
    refine lv_iload_n X.1 X.2.1 d_By_close_31 rfl (lv_at hl 2 rfl) ?_
    refine lv_iconst (v := iI 1) X.1 X.2.1 d_By_close_32 (by decide) ?_
    refine z_icmp_lt (tgt := 54) X.1 X.2.1 d_By_close_33 (by decide) ⟨by omega, by omega⟩ ⟨by omega, by omega⟩ (fun h107 => ?_) (fun h107 => ?_)
    · exact c_retv hQQ X Y hr hlk ⟨rfl, S, trivial⟩ d_By_close_54
    · refine lv_iload_n X.1 X.2.1 d_By_close_36 rfl (lv_at hl 3 rfl) ?_
      refine z_if_lt (tgt := 54) X.1 X.2.1 d_By_close_37 (by decide) ⟨by omega, by omega⟩ (fun h108 => ?_) (fun h108 => ?_)
      · exact c_retv hQQ X Y hr hlk ⟨rfl, S, trivial⟩ d_By_close_54
      · refine lv_iload_n X.1 X.2.1 d_By_close_40 rfl (lv_at hl 0 rfl) ?_
        refine lv_aload_n X.1 X.2.1 d_By_close_41 rfl (lv_at hl 1 rfl) ?_
        refine t_getrow (ci := 3) X Y S k0 rfl i_By 0 (by decide) rfl lk_By_15 (fun _ h9 => h9) d_By_close_42 (fun b109 e109 k109 => ?_)
        refine t_alen X Y S KS (Or.inl k109) (by omega) d_By_close_45 ?_
        refine lv_aload_n X.1 X.2.1 d_By_close_46 rfl (lv_at hl 1 rfl) ?_
        refine t_get0 (ci := 3) X Y S k0 rfl i_By 1 (by decide) rfl lk_By_21 (fun _ h9 => h9) d_By_close_47 e101 ?_
        refine z_isub X.1 X.2.1 d_By_close_50 ?_
        refine z_icmp_le (tgt := 55) X.1 X.2.1 d_By_close_51 (by decide) ⟨by omega, by omega⟩ ⟨by omega, by omega⟩ (fun h110 => ?_) (fun h110 => ?_)
        · refine lv_iload_n X.1 X.2.1 d_By_close_55 rfl (lv_at hl 0 rfl) ?_
          refine z_if_ne (tgt := 70) X.1 X.2.1 d_By_close_56 (by decide) ⟨by omega, by omega⟩ (fun h111 => ?_) (fun h111 => ?_)
          · refine lv_aload_n X.1 X.2.1 d_By_close_70 rfl (lv_at hl 1 rfl) ?_
            refine t_get0 (ci := 3) X Y S k0 rfl i_By 0 (by decide) rfl lk_By_15 (fun _ h9 => h9) d_By_close_71 e109 ?_
            refine lv_iload_n X.1 X.2.1 d_By_close_74 rfl (lv_at hl 2 rfl) ?_
            refine lv_aload_n X.1 X.2.1 d_By_close_75 rfl (lv_at hl 1 rfl) ?_
            refine t_get0 (ci := 3) X Y S k0 rfl i_By 0 (by decide) rfl lk_By_15 (fun _ h9 => h9) d_By_close_76 e109 ?_
            refine lv_iload_n X.1 X.2.1 d_By_close_79 rfl (lv_at hl 2 rfl) ?_
            refine lv_iload_n X.1 X.2.1 d_By_close_80 rfl (lv_at hl 0 rfl) ?_
            refine z_iadd X.1 X.2.1 d_By_close_81 ?_
            refine lv_iload_n X.1 X.2.1 d_By_close_82 rfl (lv_at hl 3 rfl) ?_
            refine t_copyB X Y S KS (hml.trans hl.1.symm) kl_By_copy (Or.inl k109) k109 (by omega) (by omega) (by omega) (by omega) (by omega) (by omega) (by omega) (nF_of S k109 (by decide)) (Nat.le_of_ble_eq_true rfl) (Nat.le_of_ble_eq_true rfl) d_By_close_83 (fun f112 H locs Y S w112 => ?_)
            refine lv_aload_n X.1 X.2.1 d_By_close_86 rfl (lv_at hl 1 rfl) ?_
            refine t_get0 (ci := 3) X Y S k0 rfl i_By 0 (by decide) rfl lk_By_15 (fun _ h9 => h9) d_By_close_87 ((gF_same (w112 _ (k_ne k0 k109 (by decide))) 0).trans e109) ?_
            refine lv_iload_n X.1 X.2.1 d_By_close_90 rfl (lv_at hl 2 rfl) ?_
            refine lv_iconst (v := iI 1) X.1 X.2.1 d_By_close_91 (by decide) ?_
            refine z_isub X.1 X.2.1 d_By_close_92 ?_
            refine lv_sipush (v := iI 128) X.1 X.2.1 d_By_close_93 (by decide) ?_
            refine lv_iload_n X.1 X.2.1 d_By_close_96 rfl (lv_at hl 0 rfl) ?_
            refine z_iadd X.1 X.2.1 d_By_close_97 ?_
            refine lv_i2b X.1 X.2.1 d_By_close_98 rfl ?_
            refine t_u (fun z113 l113 u113 => ?_)
            refine t_bast X Y S k109 (by omega) (by omega) (by omega) (nF_of S k109 (by decide)) d_By_close_99 (fun f114 H locs Y S w114 => ?_)
            refine lv_iload_n X.1 X.2.1 d_By_close_100 rfl (lv_at hl 0 rfl) ?_
            refine lv_iconst (v := iI 2) X.1 X.2.1 d_By_close_101 (by decide) ?_
            refine z_icmp_ne (tgt := 116) X.1 X.2.1 d_By_close_102 (by decide) ⟨by omega, by omega⟩ ⟨by omega, by omega⟩ (fun h115 => ?_) (fun h115 => ?_)
            · refine lv_aload_n X.1 X.2.1 d_By_close_116 rfl (lv_at hl 1 rfl) ?_
              refine t_get0 (ci := 3) X Y S k0 rfl i_By 0 (by decide) rfl lk_By_15 (fun _ h9 => h9) d_By_close_117 ((gF_same (w114 _ (k_ne k0 k109 (by decide))) 0).trans ((gF_same (w112 _ (k_ne k0 k109 (by decide))) 0).trans e109)) ?_
              refine lv_iload_n X.1 X.2.1 d_By_close_120 rfl (lv_at hl 2 rfl) ?_
              refine lv_iload_n X.1 X.2.1 d_By_close_121 rfl (lv_at hl 0 rfl) ?_
              refine z_iadd X.1 X.2.1 d_By_close_122 ?_
              refine lv_iconst (v := iI 1) X.1 X.2.1 d_By_close_123 (by decide) ?_
              refine z_isub X.1 X.2.1 d_By_close_124 ?_
              refine lv_iload_n X.1 X.2.1 d_By_close_125 rfl (lv_at hl 3 rfl) ?_
              refine lv_i2b X.1 X.2.1 d_By_close_126 rfl ?_
              refine t_u (fun z116 l116 u116 => ?_)
              refine t_bast X Y S k109 (by omega) (by omega) (by omega) (nF_of S k109 (by decide)) d_By_close_127 (fun f117 H locs Y S w117 => ?_)
              refine lv_aload_n X.1 X.2.1 d_By_close_128 rfl (lv_at hl 1 rfl) ?_
              refine lv_dup X.1 X.2.1 d_By_close_129 rfl ?_
              refine t_get0 (ci := 3) X Y S k0 rfl i_By 1 (by decide) rfl lk_By_21 (fun _ h9 => h9) d_By_close_130 ((gF_same (w117 _ (k_ne k0 k109 (by decide))) 1).trans ((gF_same (w114 _ (k_ne k0 k109 (by decide))) 1).trans ((gF_same (w112 _ (k_ne k0 k109 (by decide))) 1).trans e101))) ?_
              refine lv_iload_n X.1 X.2.1 d_By_close_133 rfl (lv_at hl 0 rfl) ?_
              refine z_iadd X.1 X.2.1 d_By_close_134 ?_
              refine t_put (ci := 3) X Y S k0 rfl i_By t_By t_By_ok n_By 1 (by decide) rfl lk_By_21 (fun _ h9 => h9) rfl (t_By_ok 1 (by decide)) rfl rfl ⟨_, rfl, by omega, by omega⟩ (nF_of S k0 (by decide)) d_By_close_135 (fun f118 H locs Y S w118 => ?_)
              exact c_retv hQQ X Y hr hlk ⟨rfl, S, trivial⟩ d_By_close_138
            · refine lv_aload_n X.1 X.2.1 d_By_close_105 rfl (lv_at hl 1 rfl) ?_
              refine t_get0 (ci := 3) X Y S k0 rfl i_By 0 (by decide) rfl lk_By_15 (fun _ h9 => h9) d_By_close_106 ((gF_same (w114 _ (k_ne k0 k109 (by decide))) 0).trans ((gF_same (w112 _ (k_ne k0 k109 (by decide))) 0).trans e109)) ?_
              refine lv_iload_n X.1 X.2.1 d_By_close_109 rfl (lv_at hl 2 rfl) ?_
              refine lv_iload_n X.1 X.2.1 d_By_close_110 rfl (lv_at hl 3 rfl) ?_
              refine lv_bipush (v := iI 8) X.1 X.2.1 d_By_close_111 (by decide) ?_
              refine lv_ishr X.1 X.2.1 d_By_close_113 ?_
              refine t_u (fun z119 l119 u119 => ?_)
              refine lv_i2b X.1 X.2.1 d_By_close_114 rfl ?_
              refine t_u (fun z120 l120 u120 => ?_)
              refine t_bast X Y S k109 (by omega) (by omega) (by omega) (nF_of S k109 (by decide)) d_By_close_115 (fun f121 H locs Y S w121 => ?_)
              refine lv_aload_n X.1 X.2.1 d_By_close_116 rfl (lv_at hl 1 rfl) ?_
              refine t_get0 (ci := 3) X Y S k0 rfl i_By 0 (by decide) rfl lk_By_15 (fun _ h9 => h9) d_By_close_117 ((gF_same (w121 _ (k_ne k0 k109 (by decide))) 0).trans ((gF_same (w114 _ (k_ne k0 k109 (by decide))) 0).trans ((gF_same (w112 _ (k_ne k0 k109 (by decide))) 0).trans e109))) ?_
              refine lv_iload_n X.1 X.2.1 d_By_close_120 rfl (lv_at hl 2 rfl) ?_
              refine lv_iload_n X.1 X.2.1 d_By_close_121 rfl (lv_at hl 0 rfl) ?_
              refine z_iadd X.1 X.2.1 d_By_close_122 ?_
              refine lv_iconst (v := iI 1) X.1 X.2.1 d_By_close_123 (by decide) ?_
              refine z_isub X.1 X.2.1 d_By_close_124 ?_
              refine lv_iload_n X.1 X.2.1 d_By_close_125 rfl (lv_at hl 3 rfl) ?_
              refine lv_i2b X.1 X.2.1 d_By_close_126 rfl ?_
              refine t_u (fun z122 l122 u122 => ?_)
              refine t_bast X Y S k109 (by omega) (by omega) (by omega) (nF_of S k109 (by decide)) d_By_close_127 (fun f123 H locs Y S w123 => ?_)
              refine lv_aload_n X.1 X.2.1 d_By_close_128 rfl (lv_at hl 1 rfl) ?_
              refine lv_dup X.1 X.2.1 d_By_close_129 rfl ?_
              refine t_get0 (ci := 3) X Y S k0 rfl i_By 1 (by decide) rfl lk_By_21 (fun _ h9 => h9) d_By_close_130 ((gF_same (w123 _ (k_ne k0 k109 (by decide))) 1).trans ((gF_same (w121 _ (k_ne k0 k109 (by decide))) 1).trans ((gF_same (w114 _ (k_ne k0 k109 (by decide))) 1).trans ((gF_same (w112 _ (k_ne k0 k109 (by decide))) 1).trans e101)))) ?_
              refine lv_iload_n X.1 X.2.1 d_By_close_133 rfl (lv_at hl 0 rfl) ?_
              refine z_iadd X.1 X.2.1 d_By_close_134 ?_
              refine t_put (ci := 3) X Y S k0 rfl i_By t_By t_By_ok n_By 1 (by decide) rfl lk_By_21 (fun _ h9 => h9) rfl (t_By_ok 1 (by decide)) rfl rfl ⟨_, rfl, by omega, by omega⟩ (nF_of S k0 (by decide)) d_By_close_135 (fun f124 H locs Y S w124 => ?_)
              exact c_retv hQQ X Y hr hlk ⟨rfl, S, trivial⟩ d_By_close_138
          · refine lv_aload_n X.1 X.2.1 d_By_close_59 rfl (lv_at hl 1 rfl) ?_
            refine t_get0 (ci := 3) X Y S k0 rfl i_By 0 (by decide) rfl lk_By_15 (fun _ h9 => h9) d_By_close_60 e109 ?_
            refine lv_iload_n X.1 X.2.1 d_By_close_63 rfl (lv_at hl 2 rfl) ?_
            refine lv_iconst (v := iI 1) X.1 X.2.1 d_By_close_64 (by decide) ?_
            refine z_isub X.1 X.2.1 d_By_close_65 ?_
            refine lv_iload_n X.1 X.2.1 d_By_close_66 rfl (lv_at hl 3 rfl) ?_
            refine lv_i2b X.1 X.2.1 d_By_close_67 rfl ?_
            refine t_u (fun z125 l125 u125 => ?_)
            refine t_bast X Y S k109 (by omega) (by omega) (by omega) (nF_of S k109 (by decide)) d_By_close_68 (fun f126 H locs Y S w126 => ?_)
            exact c_retv hQQ X Y hr hlk ⟨rfl, S, trivial⟩ d_By_close_69
        · exact c_retv hQQ X Y hr hlk ⟨rfl, S, trivial⟩ d_By_close_54
  refine z_icmp_ge (tgt := 18) X.1 X.2.1 d_By_close_11 (by decide) ⟨by omega, by omega⟩ ⟨by omega, by omega⟩ (fun h127 => ?_) (fun h127 => ?_)
  · refine lv_iload_n X.1 X.2.1 d_By_close_18 rfl (lv_at hl 0 rfl) ?_
    refine lv_sipush (v := iI 256) X.1 X.2.1 d_By_close_19 (by decide) ?_
    refine z_icmp_ge (tgt := 29) X.1 X.2.1 d_By_close_22 (by decide) ⟨by omega, by omega⟩ ⟨by omega, by omega⟩ (fun h128 => ?_) (fun h128 => ?_)
    · refine lv_iconst (v := iI 2) X.1 X.2.1 d_By_close_29 (by decide) ?_
      exact J103 2 _ _ _ (by omega) (by omega) Y S (lv_sub hl [1, 2, 0] rfl)
    · refine lv_iconst (v := iI 1) X.1 X.2.1 d_By_close_25 (by decide) ?_
      refine lv_goto (tgt := 30) X.1 X.2.1 d_By_close_26 (by decide) ?_
      exact J103 1 _ _ _ (by omega) (by omega) Y S (lv_sub hl [1, 2, 0] rfl)
  · refine lv_iconst (v := iI 0) X.1 X.2.1 d_By_close_14 (by decide) ?_
    refine lv_goto (tgt := 30) X.1 X.2.1 d_By_close_15 (by decide) ?_
    exact J103 0 _ _ _ (by omega) (by omega) Y S (lv_sub hl [1, 2, 0] rfl)
set_option maxHeartbeats 4000000 in
set_option maxRecDepth 100000 in
theorem c_By_openField (l : Launch) (D : va_G) (E : cE) (T : cT) (κ : tK) (L : List Nat) (f : pF) (sz : Nat) (h n0 : Nat) (k0 : κ h = (13, n0)) (x0 : n0 ≤ 12288) (a1 : Int) (l_a1 : 0 ≤ a1) (u_a1 : a1 ≤ 64) (hw : tW E T κ L f) : Met l y_By_openField (k_By_openField :: lw_tg) (kRm 2 81 0 0) (va_Pc [.ref h, .int (iI a1)] (kPre D E T L f sz)) (va_Qi (nPi E T [1, 13] κ L f (fun (z : Int) (g : pF) => 0 ≤ z ∧ z ≤ 12288)) (cPost D E (pA L sz)) (pA L sz)) 0 0 (pA L sz) := by
  refine k_enter (own := R_By) (by decide) rfl (Nat.le_of_ble_eq_true rfl) (fun p e s m below meth c ls AV QQ H locs hQQ X Y hA hin hr hlk hml hl KS KR => ?_)
  have hl : lv_has ls 2 [(0, .ref h), (1, .int (iI a1))] := hl
  have S : tS E T (tFr κ L [1, 13] []) κ L f κ L f := tS_rf hw
  refine lv_aload_n X.1 X.2.1 d_By_openField_0 rfl (lv_at hl 0 rfl) ?_
  refine lv_sipush (v := iI 160) X.1 X.2.1 d_By_openField_1 (by decide) ?_
  refine lv_iload_n X.1 X.2.1 d_By_openField_4 rfl (lv_at hl 1 rfl) ?_
  refine z_iadd X.1 X.2.1 d_By_openField_5 ?_
  refine t_ni (t_runV (As := [.int (iI (160 + a1))]) (rest := []) (n := 1) X Y S k0 hml hl.1 (c_By_open l D E T κ L f H.size h n0 k0 (by omega) (160 + a1) (by omega) (by omega) S.1) (ok_k X Y hA KS KR) rfl kl_By_By_open ks_By_open kx_By_open ki_By_open ini_By ⟨rfl, rfl⟩ hd_By_open ⟨Nat.le_of_ble_eq_true rfl, Nat.le_of_ble_eq_true rfl⟩ rfl (Nat.le_of_ble_eq_true rfl) d_By_openField_6 ⟨Nat.le_of_ble_eq_true rfl, Nat.le_of_ble_eq_true rfl⟩) X Y hA S (by decide) (fun z101 f101 H locs Y S s101 p101 => ?_)
  obtain ⟨l101, u101⟩ := p101
  exact c_reti hQQ X Y hr hlk ⟨rfl, S, z101, rfl, ⟨by omega, by omega⟩⟩ d_By_openField_9
set_option maxHeartbeats 4000000 in
set_option maxRecDepth 100000 in
theorem c_By_putValue (l : Launch) (D : va_G) (E : cE) (T : cT) (κ : tK) (L : List Nat) (f : pF) (sz : Nat) (h n0 : Nat) (k0 : κ h = (13, n0)) (x0 : n0 ≤ 12288) (a1 : Int) (l_a1 : (-2147483648) ≤ a1) (u_a1 : a1 ≤ 2147483647) (a2 n2 : Nat) (k2 : tSrc T κ a2 n2) (x2 : n2 ≤ 12288) (a3 : Int) (l_a3 : (-20200) ≤ a3) (u_a3 : a3 ≤ 20200) (a4 : Int) (l_a4 : (-40400) ≤ a4) (u_a4 : a4 ≤ 40400) (hw : tW E T κ L f) : Met l y_By_putValue (k_By_putValue :: lw_tg) (kRm 2 83 0 0) (va_Pc [.ref h, .int (iI a1), .ref a2, .int (iI a3), .int (iI a4)] (kPre D E T L f sz)) (va_Qv (nPv E T [1, 13] κ L f (fun (g : pF) => True)) (cPost D E (pA L sz)) (pA L sz)) 0 0 (pA L sz) := by
  refine k_enter (own := R_By) (by decide) rfl (Nat.le_of_ble_eq_true rfl) (fun p e s m below meth c ls AV QQ H locs hQQ X Y hA hin hr hlk hml hl KS KR => ?_)
  have hl : lv_has ls 6 [(0, .ref h), (1, .int (iI a1)), (2, .ref a2), (3, .int (iI a3)), (4, .int (iI a4))] := hl
  have S : tS E T (tFr κ L [1, 13] []) κ L f κ L f := tS_rf hw
  refine lv_aload_n X.1 X.2.1 d_By_putValue_0 rfl (lv_at hl 0 rfl) ?_
  refine lv_iload_n X.1 X.2.1 d_By_putValue_1 rfl (lv_at hl 1 rfl) ?_
  refine t_ni (t_runV (As := [.int (iI a1)]) (rest := []) (n := 1) X Y S k0 hml hl.1 (c_By_open l D E T κ L f H.size h n0 k0 (by omega) a1 (by omega) (by omega) S.1) (ok_k X Y hA KS KR) rfl kl_By_By_open ks_By_open kx_By_open ki_By_open ini_By ⟨rfl, rfl⟩ hd_By_open ⟨Nat.le_of_ble_eq_true rfl, Nat.le_of_ble_eq_true rfl⟩ rfl (Nat.le_of_ble_eq_true rfl) d_By_putValue_2 ⟨Nat.le_of_ble_eq_true rfl, Nat.le_of_ble_eq_true rfl⟩) X Y hA S (by decide) (fun z101 f101 H locs Y S s101 p101 => ?_)
  obtain ⟨l101, u101⟩ := p101
  refine lv_istore (lv' := [(5, .int (iI z101)), (0, .ref h), (1, .int (iI a1)), (2, .ref a2), (3, .int (iI a3)), (4, .int (iI a4))]) X.1 X.2.1 d_By_putValue_5 hl (by decide) rfl (fun ls hl => ?_)
  refine lv_aload_n X.1 X.2.1 d_By_putValue_7 rfl (lv_at hl 1 rfl) ?_
  refine lv_aload_n X.1 X.2.1 d_By_putValue_8 rfl (lv_at hl 3 rfl) ?_
  refine lv_iload_n X.1 X.2.1 d_By_putValue_9 rfl (lv_at hl 4 rfl) ?_
  refine lv_iload X.1 X.2.1 d_By_putValue_10 (lv_at hl 5 rfl) ?_
  refine t_nv (t_runV (As := [.ref a2, .int (iI a3), .int (iI a4)]) (rest := []) (n := 3) X Y S k0 hml hl.1 (c_By_append l D E T κ L f101 H.size h n0 k0 (by omega) a2 n2 k2 (by omega) a3 (by omega) (by omega) a4 (by omega) (by omega) S.1) (ok_k X Y hA KS KR) rfl kl_By_By_append ks_By_append kx_By_append ki_By_append ini_By ⟨rfl, rfl⟩ hd_By_append ⟨Nat.le_of_ble_eq_true rfl, Nat.le_of_ble_eq_true rfl⟩ rfl (Nat.le_of_ble_eq_true rfl) d_By_putValue_12 ⟨Nat.le_of_ble_eq_true rfl, Nat.le_of_ble_eq_true rfl⟩) X Y hA S (by decide) (fun f102 H locs Y S s102 p102 => ?_)
  refine lv_aload_n X.1 X.2.1 d_By_putValue_15 rfl (lv_at hl 1 rfl) ?_
  refine lv_iload X.1 X.2.1 d_By_putValue_16 (lv_at hl 0 rfl) ?_
  refine t_nv (t_runV (As := [.int (iI z101)]) (rest := []) (n := 1) X Y S k0 hml hl.1 (c_By_close l D E T κ L f102 H.size h n0 k0 (by omega) z101 (by omega) (by omega) S.1) (ok_k X Y hA KS KR) rfl kl_By_By_close ks_By_close kx_By_close ki_By_close ini_By ⟨rfl, rfl⟩ hd_By_close ⟨Nat.le_of_ble_eq_true rfl, Nat.le_of_ble_eq_true rfl⟩ rfl (Nat.le_of_ble_eq_true rfl) d_By_putValue_18 ⟨Nat.le_of_ble_eq_true rfl, Nat.le_of_ble_eq_true rfl⟩) X Y hA S (by decide) (fun f103 H locs Y S s103 p103 => ?_)
  exact c_retv hQQ X Y hr hlk ⟨rfl, S, trivial⟩ d_By_putValue_21
set_option maxHeartbeats 4000000 in
set_option maxRecDepth 100000 in
theorem c_By_putInteger (l : Launch) (D : va_G) (E : cE) (T : cT) (κ : tK) (L : List Nat) (f : pF) (sz : Nat) (h n0 : Nat) (k0 : κ h = (13, n0)) (x0 : n0 ≤ 12288) (a1 : Int64) (hw : tW E T κ L f) : Met l y_By_putInteger (k_By_putInteger :: lw_tg) (kRm 2 81 0 0) (va_Pc [.ref h, .long a1] (kPre D E T L f sz)) (va_Qv (nPv E T [1, 13] κ L f (fun (g : pF) => True)) (cPost D E (pA L sz)) (pA L sz)) 0 0 (pA L sz) := by
  refine k_enter (own := R_By) (by decide) rfl (Nat.le_of_ble_eq_true rfl) (fun p e s m below meth c ls AV QQ H locs hQQ X Y hA hin hr hlk hml hl KS KR => ?_)
  have hl : lv_has ls 5 [(0, .ref h), (1, .long a1)] := hl
  have S : tS E T (tFr κ L [1, 13] []) κ L f κ L f := tS_rf hw
  refine lv_iconst (v := iI 1) X.1 X.2.1 d_By_putInteger_0 (by decide) ?_
  have J102 : ∀ (n104 : Nat) (z101 : Int) (H : Heap) (locs : List Loc) (ls : Array Slot), (8 - z101).toNat = n104 → (1 ≤ z101) → (z101 ≤ 8) → pH D cCl (pA L sz) s.heap L f H locs → tS E T (tFr κ L [1, 13] []) κ L f κ L f → lv_has ls 5 [(0, .ref h), (1, .long a1), (3, .int (iI z101))] → W p l e (kRm 2 81 0 0) s m AV below meth c H locs 0 0 QQ (F0 m 2 ls []) := by
    intro n104
    induction n104 using Nat.strongRecOn with
    | ind n104 ih103 =>
      intro z101 H locs ls hm105 l101 u101 Y S hl
      refine lv_iload_n X.1 X.2.1 d_By_putInteger_2 rfl (lv_at hl 2 rfl) ?_
      refine lv_bipush (v := iI 8) X.1 X.2.1 d_By_putInteger_3 (by decide) ?_
      have J106 : ∀  (H : Heap) (locs : List Loc) (ls : Array Slot), pH D cCl (pA L sz) s.heap L f H locs → tS E T (tFr κ L [1, 13] []) κ L f κ L f → lv_has ls 5 [(0, .ref h), (1, .long a1), (3, .int (iI z101))] → W p l e (kRm 2 81 0 0) s m AV below meth c H locs 0 0 QQ (F0 m 42 ls []) := by
        intro  H locs ls  Y S hl
        refine lv_aload_n X.1 X.2.1 d_By_putInteger_42 rfl (lv_at hl 0 rfl) ?_
        refine lv_iconst (v := iI 2) X.1 X.2.1 d_By_putInteger_43 (by decide) ?_
        refine t_nv (t_runV (As := [.int (iI 2)]) (rest := []) (n := 1) X Y S k0 hml hl.1 (c_By_put l D E T κ L f H.size h n0 k0 (by omega) 2 (by omega) (by omega) S.1) (ok_k X Y hA KS KR) rfl kl_By_By_put ks_By_put kx_By_put ki_By_put ini_By ⟨rfl, rfl⟩ hd_By_put ⟨Nat.le_of_ble_eq_true rfl, Nat.le_of_ble_eq_true rfl⟩ rfl (Nat.le_of_ble_eq_true rfl) d_By_putInteger_44 ⟨Nat.le_of_ble_eq_true rfl, Nat.le_of_ble_eq_true rfl⟩) X Y hA S (by decide) (fun f110 H locs Y S s110 p110 => ?_)
        refine lv_aload_n X.1 X.2.1 d_By_putInteger_47 rfl (lv_at hl 0 rfl) ?_
        refine lv_iload_n X.1 X.2.1 d_By_putInteger_48 rfl (lv_at hl 2 rfl) ?_
        refine t_nv (t_runV (As := [.int (iI z101)]) (rest := []) (n := 1) X Y S k0 hml hl.1 (c_By_put l D E T κ L f110 H.size h n0 k0 (by omega) z101 (by omega) (by omega) S.1) (ok_k X Y hA KS KR) rfl kl_By_By_put ks_By_put kx_By_put ki_By_put ini_By ⟨rfl, rfl⟩ hd_By_put ⟨Nat.le_of_ble_eq_true rfl, Nat.le_of_ble_eq_true rfl⟩ rfl (Nat.le_of_ble_eq_true rfl) d_By_putInteger_49 ⟨Nat.le_of_ble_eq_true rfl, Nat.le_of_ble_eq_true rfl⟩) X Y hA S (by decide) (fun f111 H locs Y S s111 p111 => ?_)
        refine lv_iload_n X.1 X.2.1 d_By_putInteger_52 rfl (lv_at hl 2 rfl) ?_
        refine lv_iconst (v := iI 1) X.1 X.2.1 d_By_putInteger_53 (by decide) ?_
        refine z_isub X.1 X.2.1 d_By_putInteger_54 ?_
        have J114 : ∀ (n116 : Nat) (z113 : Int) (f112 : pF) (H : Heap) (locs : List Loc) (ls : Array Slot), (z113 - (-1)).toNat = n116 → ((-1) ≤ z113) → (z113 ≤ 7) → pH D cCl (pA L sz) s.heap L f112 H locs → tS E T (tFr κ L [1, 13] []) κ L f κ L f112 → lv_has ls 5 [(0, .ref h), (1, .long a1), (4, .int (iI z113))] → W p l e (kRm 2 81 0 0) s m AV below meth c H locs 0 0 QQ (F0 m 57 ls []) := by
          intro n116
          induction n116 using Nat.strongRecOn with
          | ind n116 ih115 =>
            intro z113 f112 H locs ls hm117 l113 u113 Y S hl
            refine lv_iload X.1 X.2.1 d_By_putInteger_57 (lv_at hl 2 rfl) ?_
            refine z_if_lt (tgt := 80) X.1 X.2.1 d_By_putInteger_59 (by decide) ⟨by omega, by omega⟩ (fun h118 => ?_) (fun h118 => ?_)
            · exact c_retv hQQ X Y hr hlk ⟨rfl, S, trivial⟩ d_By_putInteger_80
            · refine lv_aload_n X.1 X.2.1 d_By_putInteger_62 rfl (lv_at hl 0 rfl) ?_
              refine lv_lload_n X.1 X.2.1 d_By_putInteger_63 rfl (lv_at hl 1 rfl) ?_
              refine lv_bipush (v := iI 8) X.1 X.2.1 d_By_putInteger_64 (by decide) ?_
              refine lv_iload X.1 X.2.1 d_By_putInteger_66 (lv_at hl 2 rfl) ?_
              refine z_imul X.1 X.2.1 d_By_putInteger_68 ?_
              refine lv_lshr X.1 X.2.1 d_By_putInteger_69 rfl ?_
              refine t_anyl (fun v119 => ?_)
              refine lv_l2i X.1 X.2.1 d_By_putInteger_70 rfl ?_
              refine t_u (fun z120 l120 u120 => ?_)
              refine t_nv (t_runV (As := [.int (iI z120)]) (rest := []) (n := 1) X Y S k0 hml hl.1 (c_By_put l D E T κ L f112 H.size h n0 k0 (by omega) z120 (by omega) (by omega) S.1) (ok_k X Y hA KS KR) rfl kl_By_By_put ks_By_put kx_By_put ki_By_put ini_By ⟨rfl, rfl⟩ hd_By_put ⟨Nat.le_of_ble_eq_true rfl, Nat.le_of_ble_eq_true rfl⟩ rfl (Nat.le_of_ble_eq_true rfl) d_By_putInteger_71 ⟨Nat.le_of_ble_eq_true rfl, Nat.le_of_ble_eq_true rfl⟩) X Y hA S (by decide) (fun f121 H locs Y S s121 p121 => ?_)
              refine lv_iinc (v := iI (z113 - 1)) (lv' := [(4, .int (iI (z113 - 1))), (0, .ref h), (1, .long a1)]) X.1 X.2.1 d_By_putInteger_74 hl (k := 2) rfl ((iI_add _ _).trans (congrArg iI (by omega))) (by decide) rfl (fun ls hl => ?_)
              refine lv_goto (tgt := 57) X.1 X.2.1 d_By_putInteger_77 (by decide) ?_
              exact ih115 (((z113 - 1) - (-1)).toNat) (by omega) (z113 - 1) f121 _ _ _ rfl (by omega) (by omega) Y S (lv_sub hl [1, 2, 0] rfl)
        refine lv_istore (lv' := [(4, .int (iI (z101 - 1))), (0, .ref h), (1, .long a1), (3, .int (iI z101))]) X.1 X.2.1 d_By_putInteger_55 hl (by decide) rfl (fun ls hl => ?_)
        exact J114 _ (z101 - 1) f111 _ _ _ rfl (by omega) (by omega) Y S (lv_sub hl [1, 2, 0] rfl)
      refine z_icmp_ge (tgt := 42) X.1 X.2.1 d_By_putInteger_5 (by decide) ⟨by omega, by omega⟩ ⟨by omega, by omega⟩ (fun h122 => ?_) (fun h122 => ?_)
      · exact J106  _ _ _  Y S (lv_sub hl [0, 1, 2] rfl)
      · refine lv_lload_n X.1 X.2.1 d_By_putInteger_8 rfl (lv_at hl 1 rfl) ?_
        refine lv_bipush (v := iI 8) X.1 X.2.1 d_By_putInteger_9 (by decide) ?_
        refine lv_iload_n X.1 X.2.1 d_By_putInteger_11 rfl (lv_at hl 2 rfl) ?_
        refine z_imul X.1 X.2.1 d_By_putInteger_12 ?_
        refine lv_iconst (v := iI 1) X.1 X.2.1 d_By_putInteger_13 (by decide) ?_
        refine z_isub X.1 X.2.1 d_By_putInteger_14 ?_
        refine lv_lshr X.1 X.2.1 d_By_putInteger_15 rfl ?_
        refine t_anyl (fun v123 => ?_)
        refine lv_lconst (v := 0) X.1 X.2.1 d_By_putInteger_16 rfl ?_
        refine W.lcmp X.1 X.2.1 d_By_putInteger_17 ?_
        refine t_u (fun z124 l124 u124 => ?_)
        refine z_if_eq (tgt := 42) X.1 X.2.1 d_By_putInteger_18 (by decide) ⟨by omega, by omega⟩ (fun h125 => ?_) (fun h125 => ?_)
        · exact J106  _ _ _  Y S (lv_sub hl [0, 1, 2] rfl)
        · refine lv_lload_n X.1 X.2.1 d_By_putInteger_21 rfl (lv_at hl 1 rfl) ?_
          refine lv_bipush (v := iI 8) X.1 X.2.1 d_By_putInteger_22 (by decide) ?_
          refine lv_iload_n X.1 X.2.1 d_By_putInteger_24 rfl (lv_at hl 2 rfl) ?_
          refine z_imul X.1 X.2.1 d_By_putInteger_25 ?_
          refine lv_iconst (v := iI 1) X.1 X.2.1 d_By_putInteger_26 (by decide) ?_
          refine z_isub X.1 X.2.1 d_By_putInteger_27 ?_
          refine lv_lshr X.1 X.2.1 d_By_putInteger_28 rfl ?_
          refine t_anyl (fun v126 => ?_)
          refine lv_ldc2 (v := (-1)) X.1 X.2.1 X.2.2.2.1 (X.2.2.1 _ cl_By_53) d_By_putInteger_29 ?_
          refine W.lcmp X.1 X.2.1 d_By_putInteger_32 ?_
          refine t_u (fun z127 l127 u127 => ?_)
          refine z_if_eq (tgt := 42) X.1 X.2.1 d_By_putInteger_33 (by decide) ⟨by omega, by omega⟩ (fun h128 => ?_) (fun h128 => ?_)
          · exact J106  _ _ _  Y S (lv_sub hl [0, 1, 2] rfl)
          · refine lv_iinc (v := iI (z101 + 1)) (lv' := [(3, .int (iI (z101 + 1))), (0, .ref h), (1, .long a1)]) X.1 X.2.1 d_By_putInteger_36 hl (k := 2) rfl ((iI_add _ _).trans (congrArg iI (by omega))) (by decide) rfl (fun ls hl => ?_)
            refine lv_goto (tgt := 2) X.1 X.2.1 d_By_putInteger_39 (by decide) ?_
            exact ih103 ((8 - (z101 + 1)).toNat) (by omega) (z101 + 1) _ _ _ rfl (by omega) (by omega) Y S (lv_sub hl [1, 2, 0] rfl)
  refine lv_istore_n (lv' := [(3, .int (iI 1)), (0, .ref h), (1, .long a1)]) X.1 X.2.1 d_By_putInteger_1 rfl hl (by decide) rfl (fun ls hl => ?_)
  exact J102 _ 1 _ _ _ rfl (by omega) (by omega) Y S (lv_sub hl [1, 2, 0] rfl)
set_option maxHeartbeats 4000000 in
set_option maxRecDepth 100000 in
theorem c_By_putNumber (l : Launch) (D : va_G) (E : cE) (T : cT) (κ : tK) (L : List Nat) (f : pF) (sz : Nat) (h n0 : Nat) (k0 : κ h = (13, n0)) (x0 : n0 ≤ 12288) (a1 : Int) (l_a1 : 0 ≤ a1) (u_a1 : a1 ≤ 64) (a2 : Int64) (hw : tW E T κ L f) : Met l y_By_putNumber (k_By_putNumber :: lw_tg) (kRm 3 105 0 0) (va_Pc [.ref h, .int (iI a1), .long a2] (kPre D E T L f sz)) (va_Qv (nPv E T [1, 13] κ L f (fun (g : pF) => True)) (cPost D E (pA L sz)) (pA L sz)) 0 0 (pA L sz) := by
  refine k_enter (own := R_By) (by decide) rfl (Nat.le_of_ble_eq_true rfl) (fun p e s m below meth c ls AV QQ H locs hQQ X Y hA hin hr hlk hml hl KS KR => ?_)
  have hl : lv_has ls 5 [(0, .ref h), (1, .int (iI a1)), (2, .long a2)] := hl
  have S : tS E T (tFr κ L [1, 13] []) κ L f κ L f := tS_rf hw
  refine lv_aload_n X.1 X.2.1 d_By_putNumber_0 rfl (lv_at hl 0 rfl) ?_
  refine lv_iload_n X.1 X.2.1 d_By_putNumber_1 rfl (lv_at hl 1 rfl) ?_
  refine t_ni (t_runV (As := [.int (iI a1)]) (rest := []) (n := 1) X Y S k0 hml hl.1 (c_By_openField l D E T κ L f H.size h n0 k0 (by omega) a1 (by omega) (by omega) S.1) (ok_k X Y hA KS KR) rfl kl_By_By_openField ks_By_openField kx_By_openField ki_By_openField ini_By ⟨rfl, rfl⟩ hd_By_openField ⟨Nat.le_of_ble_eq_true rfl, Nat.le_of_ble_eq_true rfl⟩ rfl (Nat.le_of_ble_eq_true rfl) d_By_putNumber_2 ⟨Nat.le_of_ble_eq_true rfl, Nat.le_of_ble_eq_true rfl⟩) X Y hA S (by decide) (fun z101 f101 H locs Y S s101 p101 => ?_)
  obtain ⟨l101, u101⟩ := p101
  refine lv_istore (lv' := [(4, .int (iI z101)), (0, .ref h), (1, .int (iI a1)), (2, .long a2)]) X.1 X.2.1 d_By_putNumber_5 hl (by decide) rfl (fun ls hl => ?_)
  refine lv_aload_n X.1 X.2.1 d_By_putNumber_7 rfl (lv_at hl 1 rfl) ?_
  refine lv_lload_n X.1 X.2.1 d_By_putNumber_8 rfl (lv_at hl 3 rfl) ?_
  refine t_nv (t_runV (As := [.long a2]) (rest := []) (n := 1) X Y S k0 hml hl.1 (c_By_putInteger l D E T κ L f101 H.size h n0 k0 (by omega) a2 S.1) (ok_k X Y hA KS KR) rfl kl_By_By_putInteger ks_By_putInteger kx_By_putInteger ki_By_putInteger ini_By ⟨rfl, rfl⟩ hd_By_putInteger ⟨Nat.le_of_ble_eq_true rfl, Nat.le_of_ble_eq_true rfl⟩ rfl (Nat.le_of_ble_eq_true rfl) d_By_putNumber_9 ⟨Nat.le_of_ble_eq_true rfl, Nat.le_of_ble_eq_true rfl⟩) X Y hA S (by decide) (fun f102 H locs Y S s102 p102 => ?_)
  refine lv_aload_n X.1 X.2.1 d_By_putNumber_12 rfl (lv_at hl 1 rfl) ?_
  refine lv_iload X.1 X.2.1 d_By_putNumber_13 (lv_at hl 0 rfl) ?_
  refine t_nv (t_runV (As := [.int (iI z101)]) (rest := []) (n := 1) X Y S k0 hml hl.1 (c_By_close l D E T κ L f102 H.size h n0 k0 (by omega) z101 (by omega) (by omega) S.1) (ok_k X Y hA KS KR) rfl kl_By_By_close ks_By_close kx_By_close ki_By_close ini_By ⟨rfl, rfl⟩ hd_By_close ⟨Nat.le_of_ble_eq_true rfl, Nat.le_of_ble_eq_true rfl⟩ rfl (Nat.le_of_ble_eq_true rfl) d_By_putNumber_15 ⟨Nat.le_of_ble_eq_true rfl, Nat.le_of_ble_eq_true rfl⟩) X Y hA S (by decide) (fun f103 H locs Y S s103 p103 => ?_)
  exact c_retv hQQ X Y hr hlk ⟨rfl, S, trivial⟩ d_By_putNumber_18
set_option maxHeartbeats 4000000 in
set_option maxRecDepth 100000 in
theorem c_By_putLetters (l : Launch) (D : va_G) (E : cE) (T : cT) (κ : tK) (L : List Nat) (f : pF) (sz : Nat) (h n0 : Nat) (k0 : κ h = (13, n0)) (x0 : n0 ≤ 12288) (a1 : Nat) (k1 : a1 < nY) (hw : tW E T κ L f) : Met l y_By_putLetters (k_By_putLetters :: lw_tg) (kRm 4 90 0 0) (va_Pc [.ref h, .ref (T.2.1 a1)] (kPre D E T L f sz)) (va_Qv (nPv E T [1, 13] κ L f (fun (g : pF) => True)) (cPost D E (pA L sz)) (pA L sz)) 0 0 (pA L sz) := by
  refine k_enter (own := R_By) (by decide) rfl (Nat.le_of_ble_eq_true rfl) (fun p e s m below meth c ls AV QQ H locs hQQ X Y hA hin hr hlk hml hl KS KR => ?_)
  have hl : lv_has ls 3 [(0, .ref h), (1, .ref ((T.2.1 a1)))] := hl
  have S : tS E T (tFr κ L [1, 13] []) κ L f κ L f := tS_rf hw
  refine lv_iconst (v := iI 0) X.1 X.2.1 d_By_putLetters_0 (by decide) ?_
  have J103 : ∀ (n105 : Nat) (z102 : Int) (f101 : pF) (H : Heap) (locs : List Loc) (ls : Array Slot), (64 - z102).toNat = n105 → (0 ≤ z102) → (z102 ≤ 64) → pH D cCl (pA L sz) s.heap L f101 H locs → tS E T (tFr κ L [1, 13] []) κ L f κ L f101 → lv_has ls 3 [(0, .ref h), (1, .ref ((T.2.1 a1))), (2, .int (iI z102))] → W p l e (kRm 4 90 0 0) s m AV below meth c H locs 0 0 QQ (F0 m 2 ls []) := by
    intro n105
    induction n105 using Nat.strongRecOn with
    | ind n105 ih104 =>
      intro z102 f101 H locs ls hm106 l102 u102 Y S hl
      refine lv_iload_n X.1 X.2.1 d_By_putLetters_2 rfl (lv_at hl 2 rfl) ?_
      refine lv_aload_n X.1 X.2.1 d_By_putLetters_3 rfl (lv_at hl 1 rfl) ?_
      refine t_length (i := a1) X Y KS k1 hml hl.1 kl_By_length ⟨Nat.le_of_ble_eq_true rfl, Nat.le_of_ble_eq_true rfl⟩ (Nat.le_of_ble_eq_true rfl) d_By_putLetters_4 ⟨Nat.le_of_ble_eq_true rfl, Nat.le_of_ble_eq_true rfl⟩ (fun H locs Y => ?_)
      have y107 := yn_40 a1 k1
      refine z_icmp_ge (tgt := 25) X.1 X.2.1 d_By_putLetters_7 (by decide) ⟨by omega, by omega⟩ ⟨by omega, by omega⟩ (fun h108 => ?_) (fun h108 => ?_)
      · exact c_retv hQQ X Y hr hlk ⟨rfl, S, trivial⟩ d_By_putLetters_25
      · refine lv_aload_n X.1 X.2.1 d_By_putLetters_10 rfl (lv_at hl 0 rfl) ?_
        refine lv_aload_n X.1 X.2.1 d_By_putLetters_11 rfl (lv_at hl 1 rfl) ?_
        refine lv_iload_n X.1 X.2.1 d_By_putLetters_12 rfl (lv_at hl 2 rfl) ?_
        refine t_charAt (i := a1) X Y KS k1 (by omega) (by omega) hml hl.1 kl_By_charAt ⟨Nat.le_of_ble_eq_true rfl, Nat.le_of_ble_eq_true rfl⟩ (Nat.le_of_ble_eq_true rfl) d_By_putLetters_13 ⟨Nat.le_of_ble_eq_true rfl, Nat.le_of_ble_eq_true rfl⟩ (fun H locs z109 Y e109 l109 u109 => ?_)
        refine t_nv (t_runV (As := [.int (iI z109)]) (rest := []) (n := 1) X Y S k0 hml hl.1 (c_By_put l D E T κ L f101 H.size h n0 k0 (by omega) z109 (by omega) (by omega) S.1) (ok_k X Y hA KS KR) rfl kl_By_By_put ks_By_put kx_By_put ki_By_put ini_By ⟨rfl, rfl⟩ hd_By_put ⟨Nat.le_of_ble_eq_true rfl, Nat.le_of_ble_eq_true rfl⟩ rfl (Nat.le_of_ble_eq_true rfl) d_By_putLetters_16 ⟨Nat.le_of_ble_eq_true rfl, Nat.le_of_ble_eq_true rfl⟩) X Y hA S (by decide) (fun f110 H locs Y S s110 p110 => ?_)
        refine lv_iinc (v := iI (z102 + 1)) (lv' := [(2, .int (iI (z102 + 1))), (0, .ref h), (1, .ref ((T.2.1 a1)))]) X.1 X.2.1 d_By_putLetters_19 hl (k := 2) rfl ((iI_add _ _).trans (congrArg iI (by omega))) (by decide) rfl (fun ls hl => ?_)
        refine lv_goto (tgt := 2) X.1 X.2.1 d_By_putLetters_22 (by decide) ?_
        exact ih104 ((64 - (z102 + 1)).toNat) (by omega) (z102 + 1) f110 _ _ _ rfl (by omega) (by omega) Y S (lv_sub hl [1, 2, 0] rfl)
  refine lv_istore_n (lv' := [(2, .int (iI 0)), (0, .ref h), (1, .ref ((T.2.1 a1)))]) X.1 X.2.1 d_By_putLetters_1 rfl hl (by decide) rfl (fun ls hl => ?_)
  exact J103 _ 0 f _ _ _ rfl (by omega) (by omega) Y S (lv_sub hl [1, 2, 0] rfl)
set_option maxHeartbeats 4000000 in
set_option maxRecDepth 100000 in
theorem c_By_putText (l : Launch) (D : va_G) (E : cE) (T : cT) (κ : tK) (L : List Nat) (f : pF) (sz : Nat) (h n0 : Nat) (k0 : κ h = (13, n0)) (x0 : n0 ≤ 12288) (a1 : Nat) (k1 : a1 < nY) (hw : tW E T κ L f) : Met l y_By_putText (k_By_putText :: lw_tg) (kRm 5 112 0 0) (va_Pc [.ref h, .ref (T.2.1 a1)] (kPre D E T L f sz)) (va_Qv (nPv E T [1, 13] κ L f (fun (g : pF) => True)) (cPost D E (pA L sz)) (pA L sz)) 0 0 (pA L sz) := by
  refine k_enter (own := R_By) (by decide) rfl (Nat.le_of_ble_eq_true rfl) (fun p e s m below meth c ls AV QQ H locs hQQ X Y hA hin hr hlk hml hl KS KR => ?_)
  have hl : lv_has ls 3 [(0, .ref h), (1, .ref ((T.2.1 a1)))] := hl
  have S : tS E T (tFr κ L [1, 13] []) κ L f κ L f := tS_rf hw
  refine lv_aload_n X.1 X.2.1 d_By_putText_0 rfl (lv_at hl 0 rfl) ?_
  refine lv_bipush (v := iI 27) X.1 X.2.1 d_By_putText_1 (by decide) ?_
  refine t_ni (t_runV (As := [.int (iI 27)]) (rest := []) (n := 1) X Y S k0 hml hl.1 (c_By_open l D E T κ L f H.size h n0 k0 (by omega) 27 (by omega) (by omega) S.1) (ok_k X Y hA KS KR) rfl kl_By_By_open ks_By_open kx_By_open ki_By_open ini_By ⟨rfl, rfl⟩ hd_By_open ⟨Nat.le_of_ble_eq_true rfl, Nat.le_of_ble_eq_true rfl⟩ rfl (Nat.le_of_ble_eq_true rfl) d_By_putText_3 ⟨Nat.le_of_ble_eq_true rfl, Nat.le_of_ble_eq_true rfl⟩) X Y hA S (by decide) (fun z101 f101 H locs Y S s101 p101 => ?_)
  obtain ⟨l101, u101⟩ := p101
  refine lv_istore_n (lv' := [(2, .int (iI z101)), (0, .ref h), (1, .ref ((T.2.1 a1)))]) X.1 X.2.1 d_By_putText_6 rfl hl (by decide) rfl (fun ls hl => ?_)
  refine lv_aload_n X.1 X.2.1 d_By_putText_7 rfl (lv_at hl 1 rfl) ?_
  refine lv_aload_n X.1 X.2.1 d_By_putText_8 rfl (lv_at hl 2 rfl) ?_
  refine t_nv (t_runV (As := [.ref ((T.2.1 a1))]) (rest := []) (n := 1) X Y S k0 hml hl.1 (c_By_putLetters l D E T κ L f101 H.size h n0 k0 (by omega) a1 k1 S.1) (ok_k X Y hA KS KR) rfl kl_By_By_putLetters ks_By_putLetters kx_By_putLetters ki_By_putLetters ini_By ⟨rfl, rfl⟩ hd_By_putLetters ⟨Nat.le_of_ble_eq_true rfl, Nat.le_of_ble_eq_true rfl⟩ rfl (Nat.le_of_ble_eq_true rfl) d_By_putText_9 ⟨Nat.le_of_ble_eq_true rfl, Nat.le_of_ble_eq_true rfl⟩) X Y hA S (by decide) (fun f102 H locs Y S s102 p102 => ?_)
  refine lv_aload_n X.1 X.2.1 d_By_putText_12 rfl (lv_at hl 1 rfl) ?_
  refine lv_iload_n X.1 X.2.1 d_By_putText_13 rfl (lv_at hl 0 rfl) ?_
  refine t_nv (t_runV (As := [.int (iI z101)]) (rest := []) (n := 1) X Y S k0 hml hl.1 (c_By_close l D E T κ L f102 H.size h n0 k0 (by omega) z101 (by omega) (by omega) S.1) (ok_k X Y hA KS KR) rfl kl_By_By_close ks_By_close kx_By_close ki_By_close ini_By ⟨rfl, rfl⟩ hd_By_close ⟨Nat.le_of_ble_eq_true rfl, Nat.le_of_ble_eq_true rfl⟩ rfl (Nat.le_of_ble_eq_true rfl) d_By_putText_14 ⟨Nat.le_of_ble_eq_true rfl, Nat.le_of_ble_eq_true rfl⟩) X Y hA S (by decide) (fun f103 H locs Y S s103 p103 => ?_)
  exact c_retv hQQ X Y hr hlk ⟨rfl, S, trivial⟩ d_By_putText_17
set_option maxHeartbeats 4000000 in
set_option maxRecDepth 100000 in
theorem c_By_putRealm (l : Launch) (D : va_G) (E : cE) (T : cT) (κ : tK) (L : List Nat) (f : pF) (sz : Nat) (h n0 : Nat) (k0 : κ h = (13, n0)) (x0 : n0 ≤ 12288) (a1 : Int) (l_a1 : 0 ≤ a1) (u_a1 : a1 ≤ 64) (hw : tW E T κ L f) : Met l y_By_putRealm (k_By_putRealm :: lw_tg) (kRm 6 134 0 0) (va_Pc [.ref h, .int (iI a1)] (kPre D E T L f sz)) (va_Qv (nPv E T [1, 13] κ L f (fun (g : pF) => True)) (cPost D E (pA L sz)) (pA L sz)) 0 0 (pA L sz) := by
  refine k_enter (own := R_By) (by decide) rfl (Nat.le_of_ble_eq_true rfl) (fun p e s m below meth c ls AV QQ H locs hQQ X Y hA hin hr hlk hml hl KS KR => ?_)
  have hl : lv_has ls 3 [(0, .ref h), (1, .int (iI a1))] := hl
  have S : tS E T (tFr κ L [1, 13] []) κ L f κ L f := tS_rf hw
  refine lv_aload_n X.1 X.2.1 d_By_putRealm_0 rfl (lv_at hl 0 rfl) ?_
  refine lv_iload_n X.1 X.2.1 d_By_putRealm_1 rfl (lv_at hl 1 rfl) ?_
  refine t_ni (t_runV (As := [.int (iI a1)]) (rest := []) (n := 1) X Y S k0 hml hl.1 (c_By_openField l D E T κ L f H.size h n0 k0 (by omega) a1 (by omega) (by omega) S.1) (ok_k X Y hA KS KR) rfl kl_By_By_openField ks_By_openField kx_By_openField ki_By_openField ini_By ⟨rfl, rfl⟩ hd_By_openField ⟨Nat.le_of_ble_eq_true rfl, Nat.le_of_ble_eq_true rfl⟩ rfl (Nat.le_of_ble_eq_true rfl) d_By_putRealm_2 ⟨Nat.le_of_ble_eq_true rfl, Nat.le_of_ble_eq_true rfl⟩) X Y hA S (by decide) (fun z101 f101 H locs Y S s101 p101 => ?_)
  obtain ⟨l101, u101⟩ := p101
  refine lv_istore_n (lv' := [(2, .int (iI z101)), (0, .ref h), (1, .int (iI a1))]) X.1 X.2.1 d_By_putRealm_5 rfl hl (by decide) rfl (fun ls hl => ?_)
  refine lv_aload_n X.1 X.2.1 d_By_putRealm_6 rfl (lv_at hl 1 rfl) ?_
  refine k_ldcS (i := 27) X KR (by decide) ⟨by decide, by decide⟩ d_By_putRealm_7 ?_
  refine t_nv (t_runV (As := [.ref ((T.2.1 27))]) (rest := []) (n := 1) X Y S k0 hml hl.1 (c_By_putText l D E T κ L f101 H.size h n0 k0 (by omega) 27 (show 27 < nY by decide) S.1) (ok_k X Y hA KS KR) rfl kl_By_By_putText ks_By_putText kx_By_putText ki_By_putText ini_By ⟨rfl, rfl⟩ hd_By_putText ⟨Nat.le_of_ble_eq_true rfl, Nat.le_of_ble_eq_true rfl⟩ rfl (Nat.le_of_ble_eq_true rfl) d_By_putRealm_9 ⟨Nat.le_of_ble_eq_true rfl, Nat.le_of_ble_eq_true rfl⟩) X Y hA S (by decide) (fun f102 H locs Y S s102 p102 => ?_)
  refine lv_aload_n X.1 X.2.1 d_By_putRealm_12 rfl (lv_at hl 1 rfl) ?_
  refine lv_iload_n X.1 X.2.1 d_By_putRealm_13 rfl (lv_at hl 0 rfl) ?_
  refine t_nv (t_runV (As := [.int (iI z101)]) (rest := []) (n := 1) X Y S k0 hml hl.1 (c_By_close l D E T κ L f102 H.size h n0 k0 (by omega) z101 (by omega) (by omega) S.1) (ok_k X Y hA KS KR) rfl kl_By_By_close ks_By_close kx_By_close ki_By_close ini_By ⟨rfl, rfl⟩ hd_By_close ⟨Nat.le_of_ble_eq_true rfl, Nat.le_of_ble_eq_true rfl⟩ rfl (Nat.le_of_ble_eq_true rfl) d_By_putRealm_14 ⟨Nat.le_of_ble_eq_true rfl, Nat.le_of_ble_eq_true rfl⟩) X Y hA S (by decide) (fun f103 H locs Y S s103 p103 => ?_)
  exact c_retv hQQ X Y hr hlk ⟨rfl, S, trivial⟩ d_By_putRealm_17
set_option maxHeartbeats 4000000 in
set_option maxRecDepth 100000 in
theorem c_By_putBits (l : Launch) (D : va_G) (E : cE) (T : cT) (κ : tK) (L : List Nat) (f : pF) (sz : Nat) (h n0 : Nat) (k0 : κ h = (13, n0)) (x0 : n0 ≤ 12288) (a1 : Int) (l_a1 : 0 ≤ a1) (u_a1 : a1 ≤ 64) (a2 : Int) (l_a2 : (-2147483648) ≤ a2) (u_a2 : a2 ≤ 2147483647) (hw : tW E T κ L f) : Met l y_By_putBits (k_By_putBits :: lw_tg) (kRm 3 102 0 0) (va_Pc [.ref h, .int (iI a1), .int (iI a2)] (kPre D E T L f sz)) (va_Qv (nPv E T [1, 13] κ L f (fun (g : pF) => True)) (cPost D E (pA L sz)) (pA L sz)) 0 0 (pA L sz) := by
  refine k_enter (own := R_By) (by decide) rfl (Nat.le_of_ble_eq_true rfl) (fun p e s m below meth c ls AV QQ H locs hQQ X Y hA hin hr hlk hml hl KS KR => ?_)
  have hl : lv_has ls 4 [(0, .ref h), (1, .int (iI a1)), (2, .int (iI a2))] := hl
  have S : tS E T (tFr κ L [1, 13] []) κ L f κ L f := tS_rf hw
  refine lv_aload_n X.1 X.2.1 d_By_putBits_0 rfl (lv_at hl 0 rfl) ?_
  refine lv_iload_n X.1 X.2.1 d_By_putBits_1 rfl (lv_at hl 1 rfl) ?_
  refine t_ni (t_runV (As := [.int (iI a1)]) (rest := []) (n := 1) X Y S k0 hml hl.1 (c_By_openField l D E T κ L f H.size h n0 k0 (by omega) a1 (by omega) (by omega) S.1) (ok_k X Y hA KS KR) rfl kl_By_By_openField ks_By_openField kx_By_openField ki_By_openField ini_By ⟨rfl, rfl⟩ hd_By_openField ⟨Nat.le_of_ble_eq_true rfl, Nat.le_of_ble_eq_true rfl⟩ rfl (Nat.le_of_ble_eq_true rfl) d_By_putBits_2 ⟨Nat.le_of_ble_eq_true rfl, Nat.le_of_ble_eq_true rfl⟩) X Y hA S (by decide) (fun z101 f101 H locs Y S s101 p101 => ?_)
  obtain ⟨l101, u101⟩ := p101
  refine lv_istore_n (lv' := [(3, .int (iI z101)), (0, .ref h), (1, .int (iI a1)), (2, .int (iI a2))]) X.1 X.2.1 d_By_putBits_5 rfl hl (by decide) rfl (fun ls hl => ?_)
  refine lv_aload_n X.1 X.2.1 d_By_putBits_6 rfl (lv_at hl 1 rfl) ?_
  refine lv_iconst (v := iI 3) X.1 X.2.1 d_By_putBits_7 (by decide) ?_
  refine t_nv (t_runV (As := [.int (iI 3)]) (rest := []) (n := 1) X Y S k0 hml hl.1 (c_By_put l D E T κ L f101 H.size h n0 k0 (by omega) 3 (by omega) (by omega) S.1) (ok_k X Y hA KS KR) rfl kl_By_By_put ks_By_put kx_By_put ki_By_put ini_By ⟨rfl, rfl⟩ hd_By_put ⟨Nat.le_of_ble_eq_true rfl, Nat.le_of_ble_eq_true rfl⟩ rfl (Nat.le_of_ble_eq_true rfl) d_By_putBits_8 ⟨Nat.le_of_ble_eq_true rfl, Nat.le_of_ble_eq_true rfl⟩) X Y hA S (by decide) (fun f102 H locs Y S s102 p102 => ?_)
  refine lv_aload_n X.1 X.2.1 d_By_putBits_11 rfl (lv_at hl 1 rfl) ?_
  refine lv_iconst (v := iI 5) X.1 X.2.1 d_By_putBits_12 (by decide) ?_
  refine t_nv (t_runV (As := [.int (iI 5)]) (rest := []) (n := 1) X Y S k0 hml hl.1 (c_By_put l D E T κ L f102 H.size h n0 k0 (by omega) 5 (by omega) (by omega) S.1) (ok_k X Y hA KS KR) rfl kl_By_By_put ks_By_put kx_By_put ki_By_put ini_By ⟨rfl, rfl⟩ hd_By_put ⟨Nat.le_of_ble_eq_true rfl, Nat.le_of_ble_eq_true rfl⟩ rfl (Nat.le_of_ble_eq_true rfl) d_By_putBits_13 ⟨Nat.le_of_ble_eq_true rfl, Nat.le_of_ble_eq_true rfl⟩) X Y hA S (by decide) (fun f103 H locs Y S s103 p103 => ?_)
  refine lv_aload_n X.1 X.2.1 d_By_putBits_16 rfl (lv_at hl 1 rfl) ?_
  refine lv_iconst (v := iI 0) X.1 X.2.1 d_By_putBits_17 (by decide) ?_
  refine t_nv (t_runV (As := [.int (iI 0)]) (rest := []) (n := 1) X Y S k0 hml hl.1 (c_By_put l D E T κ L f103 H.size h n0 k0 (by omega) 0 (by omega) (by omega) S.1) (ok_k X Y hA KS KR) rfl kl_By_By_put ks_By_put kx_By_put ki_By_put ini_By ⟨rfl, rfl⟩ hd_By_put ⟨Nat.le_of_ble_eq_true rfl, Nat.le_of_ble_eq_true rfl⟩ rfl (Nat.le_of_ble_eq_true rfl) d_By_putBits_18 ⟨Nat.le_of_ble_eq_true rfl, Nat.le_of_ble_eq_true rfl⟩) X Y hA S (by decide) (fun f104 H locs Y S s104 p104 => ?_)
  refine lv_aload_n X.1 X.2.1 d_By_putBits_21 rfl (lv_at hl 1 rfl) ?_
  refine lv_iload_n X.1 X.2.1 d_By_putBits_22 rfl (lv_at hl 3 rfl) ?_
  refine t_nv (t_runV (As := [.int (iI a2)]) (rest := []) (n := 1) X Y S k0 hml hl.1 (c_By_putWord l D E T κ L f104 H.size h n0 k0 (by omega) a2 (by omega) (by omega) S.1) (ok_k X Y hA KS KR) rfl kl_By_By_putWord ks_By_putWord kx_By_putWord ki_By_putWord ini_By ⟨rfl, rfl⟩ hd_By_putWord ⟨Nat.le_of_ble_eq_true rfl, Nat.le_of_ble_eq_true rfl⟩ rfl (Nat.le_of_ble_eq_true rfl) d_By_putBits_23 ⟨Nat.le_of_ble_eq_true rfl, Nat.le_of_ble_eq_true rfl⟩) X Y hA S (by decide) (fun f105 H locs Y S s105 p105 => ?_)
  refine lv_aload_n X.1 X.2.1 d_By_putBits_26 rfl (lv_at hl 1 rfl) ?_
  refine lv_iload_n X.1 X.2.1 d_By_putBits_27 rfl (lv_at hl 0 rfl) ?_
  refine t_nv (t_runV (As := [.int (iI z101)]) (rest := []) (n := 1) X Y S k0 hml hl.1 (c_By_close l D E T κ L f105 H.size h n0 k0 (by omega) z101 (by omega) (by omega) S.1) (ok_k X Y hA KS KR) rfl kl_By_By_close ks_By_close kx_By_close ki_By_close ini_By ⟨rfl, rfl⟩ hd_By_close ⟨Nat.le_of_ble_eq_true rfl, Nat.le_of_ble_eq_true rfl⟩ rfl (Nat.le_of_ble_eq_true rfl) d_By_putBits_28 ⟨Nat.le_of_ble_eq_true rfl, Nat.le_of_ble_eq_true rfl⟩) X Y hA S (by decide) (fun f106 H locs Y S s106 p106 => ?_)
  exact c_retv hQQ X Y hr hlk ⟨rfl, S, trivial⟩ d_By_putBits_31
set_option maxHeartbeats 4000000 in
set_option maxRecDepth 100000 in
theorem c_By_putOctets (l : Launch) (D : va_G) (E : cE) (T : cT) (κ : tK) (L : List Nat) (f : pF) (sz : Nat) (h n0 : Nat) (k0 : κ h = (13, n0)) (x0 : n0 ≤ 12288) (a1 : Int) (l_a1 : 0 ≤ a1) (u_a1 : a1 ≤ 64) (a2 n2 : Nat) (k2 : tSrc T κ a2 n2) (x2 : n2 ≤ 12288) (a3 : Int) (l_a3 : (-20200) ≤ a3) (u_a3 : a3 ≤ 20200) (a4 : Int) (l_a4 : (-40400) ≤ a4) (u_a4 : a4 ≤ 40400) (hw : tW E T κ L f) : Met l y_By_putOctets (k_By_putOctets :: lw_tg) (kRm 3 108 0 0) (va_Pc [.ref h, .int (iI a1), .ref a2, .int (iI a3), .int (iI a4)] (kPre D E T L f sz)) (va_Qv (nPv E T [1, 13] κ L f (fun (g : pF) => True)) (cPost D E (pA L sz)) (pA L sz)) 0 0 (pA L sz) := by
  refine k_enter (own := R_By) (by decide) rfl (Nat.le_of_ble_eq_true rfl) (fun p e s m below meth c ls AV QQ H locs hQQ X Y hA hin hr hlk hml hl KS KR => ?_)
  have hl : lv_has ls 6 [(0, .ref h), (1, .int (iI a1)), (2, .ref a2), (3, .int (iI a3)), (4, .int (iI a4))] := hl
  have S : tS E T (tFr κ L [1, 13] []) κ L f κ L f := tS_rf hw
  refine lv_aload_n X.1 X.2.1 d_By_putOctets_0 rfl (lv_at hl 0 rfl) ?_
  refine lv_iload_n X.1 X.2.1 d_By_putOctets_1 rfl (lv_at hl 1 rfl) ?_
  refine t_ni (t_runV (As := [.int (iI a1)]) (rest := []) (n := 1) X Y S k0 hml hl.1 (c_By_openField l D E T κ L f H.size h n0 k0 (by omega) a1 (by omega) (by omega) S.1) (ok_k X Y hA KS KR) rfl kl_By_By_openField ks_By_openField kx_By_openField ki_By_openField ini_By ⟨rfl, rfl⟩ hd_By_openField ⟨Nat.le_of_ble_eq_true rfl, Nat.le_of_ble_eq_true rfl⟩ rfl (Nat.le_of_ble_eq_true rfl) d_By_putOctets_2 ⟨Nat.le_of_ble_eq_true rfl, Nat.le_of_ble_eq_true rfl⟩) X Y hA S (by decide) (fun z101 f101 H locs Y S s101 p101 => ?_)
  obtain ⟨l101, u101⟩ := p101
  refine lv_istore (lv' := [(5, .int (iI z101)), (0, .ref h), (1, .int (iI a1)), (2, .ref a2), (3, .int (iI a3)), (4, .int (iI a4))]) X.1 X.2.1 d_By_putOctets_5 hl (by decide) rfl (fun ls hl => ?_)
  refine lv_aload_n X.1 X.2.1 d_By_putOctets_7 rfl (lv_at hl 1 rfl) ?_
  refine lv_iconst (v := iI 4) X.1 X.2.1 d_By_putOctets_8 (by decide) ?_
  refine lv_aload_n X.1 X.2.1 d_By_putOctets_9 rfl (lv_at hl 3 rfl) ?_
  refine lv_iload_n X.1 X.2.1 d_By_putOctets_10 rfl (lv_at hl 4 rfl) ?_
  refine lv_iload X.1 X.2.1 d_By_putOctets_11 (lv_at hl 5 rfl) ?_
  refine t_nv (t_runV (As := [.int (iI 4), .ref a2, .int (iI a3), .int (iI a4)]) (rest := []) (n := 4) X Y S k0 hml hl.1 (c_By_putValue l D E T κ L f101 H.size h n0 k0 (by omega) 4 (by omega) (by omega) a2 n2 k2 (by omega) a3 (by omega) (by omega) a4 (by omega) (by omega) S.1) (ok_k X Y hA KS KR) rfl kl_By_By_putValue ks_By_putValue kx_By_putValue ki_By_putValue ini_By ⟨rfl, rfl⟩ hd_By_putValue ⟨Nat.le_of_ble_eq_true rfl, Nat.le_of_ble_eq_true rfl⟩ rfl (Nat.le_of_ble_eq_true rfl) d_By_putOctets_13 ⟨Nat.le_of_ble_eq_true rfl, Nat.le_of_ble_eq_true rfl⟩) X Y hA S (by decide) (fun f102 H locs Y S s102 p102 => ?_)
  refine lv_aload_n X.1 X.2.1 d_By_putOctets_16 rfl (lv_at hl 1 rfl) ?_
  refine lv_iload X.1 X.2.1 d_By_putOctets_17 (lv_at hl 0 rfl) ?_
  refine t_nv (t_runV (As := [.int (iI z101)]) (rest := []) (n := 1) X Y S k0 hml hl.1 (c_By_close l D E T κ L f102 H.size h n0 k0 (by omega) z101 (by omega) (by omega) S.1) (ok_k X Y hA KS KR) rfl kl_By_By_close ks_By_close kx_By_close ki_By_close ini_By ⟨rfl, rfl⟩ hd_By_close ⟨Nat.le_of_ble_eq_true rfl, Nat.le_of_ble_eq_true rfl⟩ rfl (Nat.le_of_ble_eq_true rfl) d_By_putOctets_19 ⟨Nat.le_of_ble_eq_true rfl, Nat.le_of_ble_eq_true rfl⟩) X Y hA S (by decide) (fun f103 H locs Y S s103 p103 => ?_)
  exact c_retv hQQ X Y hr hlk ⟨rfl, S, trivial⟩ d_By_putOctets_22
set_option maxHeartbeats 4000000 in
set_option maxRecDepth 100000 in
theorem c_By_putPair (l : Launch) (D : va_G) (E : cE) (T : cT) (κ : tK) (L : List Nat) (f : pF) (sz : Nat) (h n0 : Nat) (k0 : κ h = (13, n0)) (x0 : n0 ≤ 12288) (a1 : Int) (l_a1 : 0 ≤ a1) (u_a1 : a1 ≤ 64) (a2 : Int) (l_a2 : (-2147483648) ≤ a2) (u_a2 : a2 ≤ 2147483647) (a3 n3 : Nat) (k3 : tSrc T κ a3 n3) (x3 : n3 ≤ 12288) (a4 : Int) (l_a4 : (-40400) ≤ a4) (u_a4 : a4 ≤ 40400) (hw : tW E T κ L f) : Met l y_By_putPair (k_By_putPair :: lw_tg) (kRm 4 133 0 0) (va_Pc [.ref h, .int (iI a1), .int (iI a2), .ref a3, .int (iI a4)] (kPre D E T L f sz)) (va_Qv (nPv E T [1, 13] κ L f (fun (g : pF) => True)) (cPost D E (pA L sz)) (pA L sz)) 0 0 (pA L sz) := by
  refine k_enter (own := R_By) (by decide) rfl (Nat.le_of_ble_eq_true rfl) (fun p e s m below meth c ls AV QQ H locs hQQ X Y hA hin hr hlk hml hl KS KR => ?_)
  have hl : lv_has ls 7 [(0, .ref h), (1, .int (iI a1)), (2, .int (iI a2)), (3, .ref a3), (4, .int (iI a4))] := hl
  have S : tS E T (tFr κ L [1, 13] []) κ L f κ L f := tS_rf hw
  refine lv_aload_n X.1 X.2.1 d_By_putPair_0 rfl (lv_at hl 0 rfl) ?_
  refine lv_iload_n X.1 X.2.1 d_By_putPair_1 rfl (lv_at hl 1 rfl) ?_
  refine t_ni (t_runV (As := [.int (iI a1)]) (rest := []) (n := 1) X Y S k0 hml hl.1 (c_By_openField l D E T κ L f H.size h n0 k0 (by omega) a1 (by omega) (by omega) S.1) (ok_k X Y hA KS KR) rfl kl_By_By_openField ks_By_openField kx_By_openField ki_By_openField ini_By ⟨rfl, rfl⟩ hd_By_openField ⟨Nat.le_of_ble_eq_true rfl, Nat.le_of_ble_eq_true rfl⟩ rfl (Nat.le_of_ble_eq_true rfl) d_By_putPair_2 ⟨Nat.le_of_ble_eq_true rfl, Nat.le_of_ble_eq_true rfl⟩) X Y hA S (by decide) (fun z101 f101 H locs Y S s101 p101 => ?_)
  obtain ⟨l101, u101⟩ := p101
  refine lv_istore (lv' := [(5, .int (iI z101)), (0, .ref h), (1, .int (iI a1)), (2, .int (iI a2)), (3, .ref a3), (4, .int (iI a4))]) X.1 X.2.1 d_By_putPair_5 hl (by decide) rfl (fun ls hl => ?_)
  refine lv_aload_n X.1 X.2.1 d_By_putPair_7 rfl (lv_at hl 1 rfl) ?_
  refine lv_bipush (v := iI 48) X.1 X.2.1 d_By_putPair_8 (by decide) ?_
  refine t_ni (t_runV (As := [.int (iI 48)]) (rest := []) (n := 1) X Y S k0 hml hl.1 (c_By_open l D E T κ L f101 H.size h n0 k0 (by omega) 48 (by omega) (by omega) S.1) (ok_k X Y hA KS KR) rfl kl_By_By_open ks_By_open kx_By_open ki_By_open ini_By ⟨rfl, rfl⟩ hd_By_open ⟨Nat.le_of_ble_eq_true rfl, Nat.le_of_ble_eq_true rfl⟩ rfl (Nat.le_of_ble_eq_true rfl) d_By_putPair_10 ⟨Nat.le_of_ble_eq_true rfl, Nat.le_of_ble_eq_true rfl⟩) X Y hA S (by decide) (fun z102 f102 H locs Y S s102 p102 => ?_)
  obtain ⟨l102, u102⟩ := p102
  refine lv_istore (lv' := [(6, .int (iI z102)), (5, .int (iI z101)), (0, .ref h), (1, .int (iI a1)), (2, .int (iI a2)), (3, .ref a3), (4, .int (iI a4))]) X.1 X.2.1 d_By_putPair_13 hl (by decide) rfl (fun ls hl => ?_)
  refine lv_aload_n X.1 X.2.1 d_By_putPair_15 rfl (lv_at hl 2 rfl) ?_
  refine lv_iconst (v := iI 0) X.1 X.2.1 d_By_putPair_16 (by decide) ?_
  refine lv_iload_n X.1 X.2.1 d_By_putPair_17 rfl (lv_at hl 4 rfl) ?_
  refine lv_i2l X.1 X.2.1 d_By_putPair_18 rfl ?_
  refine t_anyl (fun v103 => ?_)
  refine t_nv (t_runV (As := [.int (iI 0), .long v103]) (rest := []) (n := 2) X Y S k0 hml hl.1 (c_By_putNumber l D E T κ L f102 H.size h n0 k0 (by omega) 0 (by omega) (by omega) v103 S.1) (ok_k X Y hA KS KR) rfl kl_By_By_putNumber ks_By_putNumber kx_By_putNumber ki_By_putNumber ini_By ⟨rfl, rfl⟩ hd_By_putNumber ⟨Nat.le_of_ble_eq_true rfl, Nat.le_of_ble_eq_true rfl⟩ rfl (Nat.le_of_ble_eq_true rfl) d_By_putPair_19 ⟨Nat.le_of_ble_eq_true rfl, Nat.le_of_ble_eq_true rfl⟩) X Y hA S (by decide) (fun f104 H locs Y S s104 p104 => ?_)
  refine lv_aload_n X.1 X.2.1 d_By_putPair_22 rfl (lv_at hl 2 rfl) ?_
  refine lv_iconst (v := iI 1) X.1 X.2.1 d_By_putPair_23 (by decide) ?_
  refine lv_aload_n X.1 X.2.1 d_By_putPair_24 rfl (lv_at hl 5 rfl) ?_
  refine lv_iconst (v := iI 0) X.1 X.2.1 d_By_putPair_25 (by decide) ?_
  refine lv_iload X.1 X.2.1 d_By_putPair_26 (lv_at hl 6 rfl) ?_
  refine t_nv (t_runV (As := [.int (iI 1), .ref a3, .int (iI 0), .int (iI a4)]) (rest := []) (n := 4) X Y S k0 hml hl.1 (c_By_putOctets l D E T κ L f104 H.size h n0 k0 (by omega) 1 (by omega) (by omega) a3 n3 k3 (by omega) 0 (by omega) (by omega) a4 (by omega) (by omega) S.1) (ok_k X Y hA KS KR) rfl kl_By_By_putOctets ks_By_putOctets kx_By_putOctets ki_By_putOctets ini_By ⟨rfl, rfl⟩ hd_By_putOctets ⟨Nat.le_of_ble_eq_true rfl, Nat.le_of_ble_eq_true rfl⟩ rfl (Nat.le_of_ble_eq_true rfl) d_By_putPair_28 ⟨Nat.le_of_ble_eq_true rfl, Nat.le_of_ble_eq_true rfl⟩) X Y hA S (by decide) (fun f105 H locs Y S s105 p105 => ?_)
  refine lv_aload_n X.1 X.2.1 d_By_putPair_31 rfl (lv_at hl 2 rfl) ?_
  refine lv_iload X.1 X.2.1 d_By_putPair_32 (lv_at hl 0 rfl) ?_
  refine t_nv (t_runV (As := [.int (iI z102)]) (rest := []) (n := 1) X Y S k0 hml hl.1 (c_By_close l D E T κ L f105 H.size h n0 k0 (by omega) z102 (by omega) (by omega) S.1) (ok_k X Y hA KS KR) rfl kl_By_By_close ks_By_close kx_By_close ki_By_close ini_By ⟨rfl, rfl⟩ hd_By_close ⟨Nat.le_of_ble_eq_true rfl, Nat.le_of_ble_eq_true rfl⟩ rfl (Nat.le_of_ble_eq_true rfl) d_By_putPair_34 ⟨Nat.le_of_ble_eq_true rfl, Nat.le_of_ble_eq_true rfl⟩) X Y hA S (by decide) (fun f106 H locs Y S s106 p106 => ?_)
  refine lv_aload_n X.1 X.2.1 d_By_putPair_37 rfl (lv_at hl 2 rfl) ?_
  refine lv_iload X.1 X.2.1 d_By_putPair_38 (lv_at hl 1 rfl) ?_
  refine t_nv (t_runV (As := [.int (iI z101)]) (rest := []) (n := 1) X Y S k0 hml hl.1 (c_By_close l D E T κ L f106 H.size h n0 k0 (by omega) z101 (by omega) (by omega) S.1) (ok_k X Y hA KS KR) rfl kl_By_By_close ks_By_close kx_By_close ki_By_close ini_By ⟨rfl, rfl⟩ hd_By_close ⟨Nat.le_of_ble_eq_true rfl, Nat.le_of_ble_eq_true rfl⟩ rfl (Nat.le_of_ble_eq_true rfl) d_By_putPair_40 ⟨Nat.le_of_ble_eq_true rfl, Nat.le_of_ble_eq_true rfl⟩) X Y hA S (by decide) (fun f107 H locs Y S s107 p107 => ?_)
  exact c_retv hQQ X Y hr hlk ⟨rfl, S, trivial⟩ d_By_putPair_43
