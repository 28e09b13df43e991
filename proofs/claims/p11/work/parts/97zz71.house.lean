set_option maxHeartbeats 4000000 in
set_option maxRecDepth 100000 in
theorem c_H_isPrincipal (l : Launch) (D : va_G) (E : cE) (T : cT) (κ : tK) (L : List Nat) (f : pF) (sz : Nat) (h : Nat) (k0 : κ h = (10, 0)) (a1 : Int) (l_a1 : (-2147483648) ≤ a1) (u_a1 : a1 ≤ 2147483647) (hw : tW E T κ L f) : Met l y_H_isPrincipal (k_H_isPrincipal :: lw_tg) (kRm 1 60 0 0) (va_Pc [.ref h, .int (iI a1)] (kPre D E T L f sz)) (va_Qi (uPi L f (fun (z : Int) => 0 ≤ z ∧ z ≤ 1 ∧ (z = 1 → 0 ≤ a1 ∧ a1 ≤ 11))) (cPost D E (pA L sz)) (pA L sz)) 0 0 (pA L sz) := by
  refine k_enter (own := R_H) (by decide) rfl (Nat.le_of_ble_eq_true rfl) (fun p e s m below meth c ls AV QQ H locs hQQ X Y hA hin hr hlk hml hl KS KR => ?_)
  have hl : lv_has ls 2 [(0, .ref h), (1, .int (iI a1))] := hl
  have S : tS E T (tFr κ L [] []) κ L f κ L f := tS_rf hw
  refine lv_iload_n X.1 X.2.1 d_H_isPrincipal_0 rfl (lv_at hl 1 rfl) ?_
  refine z_if_lt (tgt := 26) X.1 X.2.1 d_H_isPrincipal_1 (by decide) ⟨by omega, by omega⟩ (fun h101 => ?_) (fun h101 => ?_)
  · refine lv_iconst (v := iI 0) X.1 X.2.1 d_H_isPrincipal_26 (by decide) ?_
    exact c_retz hQQ X Y hr hlk (iI_bool (by omega) (by omega)).1 ⟨rfl, rfl, 0, rfl, ⟨by omega, by omega, by omega⟩⟩ d_H_isPrincipal_27
  · refine lv_iload_n X.1 X.2.1 d_H_isPrincipal_4 rfl (lv_at hl 1 rfl) ?_
    refine lv_bipush (v := iI 12) X.1 X.2.1 d_H_isPrincipal_5 (by decide) ?_
    refine z_icmp_ge (tgt := 26) X.1 X.2.1 d_H_isPrincipal_7 (by decide) ⟨by omega, by omega⟩ ⟨by omega, by omega⟩ (fun h102 => ?_) (fun h102 => ?_)
    · refine lv_iconst (v := iI 0) X.1 X.2.1 d_H_isPrincipal_26 (by decide) ?_
      exact c_retz hQQ X Y hr hlk (iI_bool (by omega) (by omega)).1 ⟨rfl, rfl, 0, rfl, ⟨by omega, by omega, by omega⟩⟩ d_H_isPrincipal_27
    · refine lv_aload_n X.1 X.2.1 d_H_isPrincipal_10 rfl (lv_at hl 0 rfl) ?_
      refine t_getr (ci := 0) X Y S k0 rfl i_H 4 (by decide) rfl (k1 := 5) (k2 := 12) rfl rfl lk_H_42 (fun _ h9 => h9) d_H_isPrincipal_11 (fun b103 e103 k103 => ?_)
      refine lv_iload_n X.1 X.2.1 d_H_isPrincipal_14 rfl (lv_at hl 1 rfl) ?_
      refine t_aald X Y S k103 (fun h9 => h9) (t0 := 2) rfl (by omega) (by omega) (by omega) d_H_isPrincipal_15 (fun b104 e104 k104 => ?_)
      refine t_geti (ci := 7) X Y S k104 rfl i_Pr 2 (by decide) rfl lk_H_116 (fun _ h9 => h9) d_H_isPrincipal_16 (fun z105 e105 l105 u105 => ?_)
      refine z_if_eq (tgt := 26) X.1 X.2.1 d_H_isPrincipal_19 (by decide) ⟨by omega, by omega⟩ (fun h106 => ?_) (fun h106 => ?_)
      · refine lv_iconst (v := iI 0) X.1 X.2.1 d_H_isPrincipal_26 (by decide) ?_
        exact c_retz hQQ X Y hr hlk (iI_bool (by omega) (by omega)).1 ⟨rfl, rfl, 0, rfl, ⟨by omega, by omega, by omega⟩⟩ d_H_isPrincipal_27
      · refine lv_iconst (v := iI 1) X.1 X.2.1 d_H_isPrincipal_22 (by decide) ?_
        refine lv_goto (tgt := 27) X.1 X.2.1 d_H_isPrincipal_23 (by decide) ?_
        exact c_retz hQQ X Y hr hlk (iI_bool (by omega) (by omega)).1 ⟨rfl, rfl, 1, rfl, ⟨by omega, by omega, by omega⟩⟩ d_H_isPrincipal_27
set_option maxHeartbeats 4000000 in
set_option maxRecDepth 100000 in
theorem c_H_isAgent (l : Launch) (D : va_G) (E : cE) (T : cT) (κ : tK) (L : List Nat) (f : pF) (sz : Nat) (h : Nat) (k0 : κ h = (10, 0)) (a1 : Int) (l_a1 : (-2147483648) ≤ a1) (u_a1 : a1 ≤ 2147483647) (hw : tW E T κ L f) : Met l y_H_isAgent (k_H_isAgent :: lw_tg) (kRm 1 60 0 0) (va_Pc [.ref h, .int (iI a1)] (kPre D E T L f sz)) (va_Qi (uPi L f (fun (z : Int) => 0 ≤ z ∧ z ≤ 1 ∧ (z = 1 → 0 ≤ a1 ∧ a1 ≤ 3))) (cPost D E (pA L sz)) (pA L sz)) 0 0 (pA L sz) := by
  refine k_enter (own := R_H) (by decide) rfl (Nat.le_of_ble_eq_true rfl) (fun p e s m below meth c ls AV QQ H locs hQQ X Y hA hin hr hlk hml hl KS KR => ?_)
  have hl : lv_has ls 2 [(0, .ref h), (1, .int (iI a1))] := hl
  have S : tS E T (tFr κ L [] []) κ L f κ L f := tS_rf hw
  refine lv_iload_n X.1 X.2.1 d_H_isAgent_0 rfl (lv_at hl 1 rfl) ?_
  refine z_if_lt (tgt := 25) X.1 X.2.1 d_H_isAgent_1 (by decide) ⟨by omega, by omega⟩ (fun h101 => ?_) (fun h101 => ?_)
  · refine lv_iconst (v := iI 0) X.1 X.2.1 d_H_isAgent_25 (by decide) ?_
    exact c_retz hQQ X Y hr hlk (iI_bool (by omega) (by omega)).1 ⟨rfl, rfl, 0, rfl, ⟨by omega, by omega, by omega⟩⟩ d_H_isAgent_26
  · refine lv_iload_n X.1 X.2.1 d_H_isAgent_4 rfl (lv_at hl 1 rfl) ?_
    refine lv_iconst (v := iI 4) X.1 X.2.1 d_H_isAgent_5 (by decide) ?_
    refine z_icmp_ge (tgt := 25) X.1 X.2.1 d_H_isAgent_6 (by decide) ⟨by omega, by omega⟩ ⟨by omega, by omega⟩ (fun h102 => ?_) (fun h102 => ?_)
    · refine lv_iconst (v := iI 0) X.1 X.2.1 d_H_isAgent_25 (by decide) ?_
      exact c_retz hQQ X Y hr hlk (iI_bool (by omega) (by omega)).1 ⟨rfl, rfl, 0, rfl, ⟨by omega, by omega, by omega⟩⟩ d_H_isAgent_26
    · refine lv_aload_n X.1 X.2.1 d_H_isAgent_9 rfl (lv_at hl 0 rfl) ?_
      refine t_getr (ci := 0) X Y S k0 rfl i_H 7 (by decide) rfl (k1 := 6) (k2 := 4) rfl rfl lk_H_49 (fun _ h9 => h9) d_H_isAgent_10 (fun b103 e103 k103 => ?_)
      refine lv_iload_n X.1 X.2.1 d_H_isAgent_13 rfl (lv_at hl 1 rfl) ?_
      refine t_aald X Y S k103 (fun h9 => h9) (t0 := 3) rfl (by omega) (by omega) (by omega) d_H_isAgent_14 (fun b104 e104 k104 => ?_)
      refine t_geti (ci := 2) X Y S k104 rfl i_Ag 2 (by decide) rfl lk_H_304 (fun _ h9 => h9) d_H_isAgent_15 (fun z105 e105 l105 u105 => ?_)
      refine z_if_eq (tgt := 25) X.1 X.2.1 d_H_isAgent_18 (by decide) ⟨by omega, by omega⟩ (fun h106 => ?_) (fun h106 => ?_)
      · refine lv_iconst (v := iI 0) X.1 X.2.1 d_H_isAgent_25 (by decide) ?_
        exact c_retz hQQ X Y hr hlk (iI_bool (by omega) (by omega)).1 ⟨rfl, rfl, 0, rfl, ⟨by omega, by omega, by omega⟩⟩ d_H_isAgent_26
      · refine lv_iconst (v := iI 1) X.1 X.2.1 d_H_isAgent_21 (by decide) ?_
        refine lv_goto (tgt := 26) X.1 X.2.1 d_H_isAgent_22 (by decide) ?_
        exact c_retz hQQ X Y hr hlk (iI_bool (by omega) (by omega)).1 ⟨rfl, rfl, 1, rfl, ⟨by omega, by omega, by omega⟩⟩ d_H_isAgent_26
set_option maxHeartbeats 4000000 in
set_option maxRecDepth 100000 in
theorem c_H_hasTicket (l : Launch) (D : va_G) (E : cE) (T : cT) (κ : tK) (L : List Nat) (f : pF) (sz : Nat) (h : Nat) (k0 : κ h = (10, 0)) (a1 : Int) (l_a1 : (-2147483648) ≤ a1) (u_a1 : a1 ≤ 2147483647) (a2 : Int) (l_a2 : (-2147483648) ≤ a2) (u_a2 : a2 ≤ 2147483647) (hw : tW E T κ L f) : Met l y_H_hasTicket (k_H_hasTicket :: lw_tg) (kRm 2 81 0 0) (va_Pc [.ref h, .int (iI a1), .int (iI a2)] (kPre D E T L f sz)) (va_Qi (uPi L f (fun (z : Int) => 0 ≤ z ∧ z ≤ 1 ∧ (z = 1 → 0 ≤ a1 ∧ a1 ≤ 3 ∧ 0 ≤ a2 ∧ a2 ≤ 7))) (cPost D E (pA L sz)) (pA L sz)) 0 0 (pA L sz) := by
  refine k_enter (own := R_H) (by decide) rfl (Nat.le_of_ble_eq_true rfl) (fun p e s m below meth c ls AV QQ H locs hQQ X Y hA hin hr hlk hml hl KS KR => ?_)
  have hl : lv_has ls 3 [(0, .ref h), (1, .int (iI a1)), (2, .int (iI a2))] := hl
  have S : tS E T (tFr κ L [] []) κ L f κ L f := tS_rf hw
  refine lv_aload_n X.1 X.2.1 d_H_hasTicket_0 rfl (lv_at hl 0 rfl) ?_
  refine lv_iload_n X.1 X.2.1 d_H_hasTicket_1 rfl (lv_at hl 1 rfl) ?_
  refine t_ui (t_runV (As := [.int (iI a1)]) (rest := []) (n := 1) X Y S k0 hml hl.1 (c_H_isAgent l D E T κ L f H.size h k0 a1 (by omega) (by omega) S.1) (ok_k X Y hA KS KR) rfl kl_H_H_isAgent ks_H_isAgent kx_H_isAgent ki_H_isAgent ini_H ⟨rfl, rfl⟩ hd_H_isAgent ⟨Nat.le_of_ble_eq_true rfl, Nat.le_of_ble_eq_true rfl⟩ rfl (Nat.le_of_ble_eq_true rfl) d_H_hasTicket_2 ⟨Nat.le_of_ble_eq_true rfl, Nat.le_of_ble_eq_true rfl⟩) X Y hA (fun z101 H locs Y p101 => ?_)
  obtain ⟨l101, u101, x101⟩ := p101
  refine z_if_eq (tgt := 25) X.1 X.2.1 d_H_hasTicket_5 (by decide) ⟨by omega, by omega⟩ (fun h102 => ?_) (fun h102 => ?_)
  · refine lv_iconst (v := iI 0) X.1 X.2.1 d_H_hasTicket_25 (by decide) ?_
    exact c_retz hQQ X Y hr hlk (iI_bool (by omega) (by omega)).1 ⟨rfl, rfl, 0, rfl, ⟨by omega, by omega, by omega⟩⟩ d_H_hasTicket_26
  · refine lv_aload_n X.1 X.2.1 d_H_hasTicket_8 rfl (lv_at hl 0 rfl) ?_
    refine t_getr (ci := 0) X Y S k0 rfl i_H 7 (by decide) rfl (k1 := 6) (k2 := 4) rfl rfl lk_H_49 (fun _ h9 => h9) d_H_hasTicket_9 (fun b103 e103 k103 => ?_)
    refine lv_iload_n X.1 X.2.1 d_H_hasTicket_12 rfl (lv_at hl 1 rfl) ?_
    refine t_aald X Y S k103 (fun h9 => h9) (t0 := 3) rfl (by omega) (by omega) (by omega) d_H_hasTicket_13 (fun b104 e104 k104 => ?_)
    refine lv_iload_n X.1 X.2.1 d_H_hasTicket_14 rfl (lv_at hl 2 rfl) ?_
    refine t_ui (t_runV (As := [.int (iI a2)]) (rest := []) (n := 1) X Y S k104 hml hl.1 (c_Ag_has l D E T κ L f H.size b104 k104 a2 (by omega) (by omega) S.1) (ok_k X Y hA KS KR) rfl kl_H_Ag_has ks_Ag_has kx_Ag_has ki_Ag_has ini_Ag ⟨rfl, rfl⟩ hd_Ag_has ⟨Nat.le_of_ble_eq_true rfl, Nat.le_of_ble_eq_true rfl⟩ rfl (Nat.le_of_ble_eq_true rfl) d_H_hasTicket_15 ⟨Nat.le_of_ble_eq_true rfl, Nat.le_of_ble_eq_true rfl⟩) X Y hA (fun z105 H locs Y p105 => ?_)
    obtain ⟨l105, u105, x105⟩ := p105
    refine z_if_eq (tgt := 25) X.1 X.2.1 d_H_hasTicket_18 (by decide) ⟨by omega, by omega⟩ (fun h106 => ?_) (fun h106 => ?_)
    · refine lv_iconst (v := iI 0) X.1 X.2.1 d_H_hasTicket_25 (by decide) ?_
      exact c_retz hQQ X Y hr hlk (iI_bool (by omega) (by omega)).1 ⟨rfl, rfl, 0, rfl, ⟨by omega, by omega, by omega⟩⟩ d_H_hasTicket_26
    · refine lv_iconst (v := iI 1) X.1 X.2.1 d_H_hasTicket_21 (by decide) ?_
      refine lv_goto (tgt := 26) X.1 X.2.1 d_H_hasTicket_22 (by decide) ?_
      exact c_retz hQQ X Y hr hlk (iI_bool (by omega) (by omega)).1 ⟨rfl, rfl, 1, rfl, ⟨by omega, by omega, by omega⟩⟩ d_H_hasTicket_26
set_option maxHeartbeats 4000000 in
set_option maxRecDepth 100000 in
theorem c_H_isSession (l : Launch) (D : va_G) (E : cE) (T : cT) (κ : tK) (L : List Nat) (f : pF) (sz : Nat) (h : Nat) (k0 : κ h = (10, 0)) (a1 : Int) (l_a1 : (-2147483648) ≤ a1) (u_a1 : a1 ≤ 2147483647) (hw : tW E T κ L f) : Met l y_H_isSession (k_H_isSession :: lw_tg) (kRm 1 60 0 0) (va_Pc [.ref h, .int (iI a1)] (kPre D E T L f sz)) (va_Qi (uPi L f (fun (z : Int) => 0 ≤ z ∧ z ≤ 1 ∧ (z = 1 → 0 ≤ a1 ∧ a1 ≤ 7))) (cPost D E (pA L sz)) (pA L sz)) 0 0 (pA L sz) := by
  refine k_enter (own := R_H) (by decide) rfl (Nat.le_of_ble_eq_true rfl) (fun p e s m below meth c ls AV QQ H locs hQQ X Y hA hin hr hlk hml hl KS KR => ?_)
  have hl : lv_has ls 2 [(0, .ref h), (1, .int (iI a1))] := hl
  have S : tS E T (tFr κ L [] []) κ L f κ L f := tS_rf hw
  refine lv_iload_n X.1 X.2.1 d_H_isSession_0 rfl (lv_at hl 1 rfl) ?_
  refine z_if_lt (tgt := 26) X.1 X.2.1 d_H_isSession_1 (by decide) ⟨by omega, by omega⟩ (fun h101 => ?_) (fun h101 => ?_)
  · refine lv_iconst (v := iI 0) X.1 X.2.1 d_H_isSession_26 (by decide) ?_
    exact c_retz hQQ X Y hr hlk (iI_bool (by omega) (by omega)).1 ⟨rfl, rfl, 0, rfl, ⟨by omega, by omega, by omega⟩⟩ d_H_isSession_27
  · refine lv_iload_n X.1 X.2.1 d_H_isSession_4 rfl (lv_at hl 1 rfl) ?_
    refine lv_bipush (v := iI 8) X.1 X.2.1 d_H_isSession_5 (by decide) ?_
    refine z_icmp_ge (tgt := 26) X.1 X.2.1 d_H_isSession_7 (by decide) ⟨by omega, by omega⟩ ⟨by omega, by omega⟩ (fun h102 => ?_) (fun h102 => ?_)
    · refine lv_iconst (v := iI 0) X.1 X.2.1 d_H_isSession_26 (by decide) ?_
      exact c_retz hQQ X Y hr hlk (iI_bool (by omega) (by omega)).1 ⟨rfl, rfl, 0, rfl, ⟨by omega, by omega, by omega⟩⟩ d_H_isSession_27
    · refine lv_aload_n X.1 X.2.1 d_H_isSession_10 rfl (lv_at hl 0 rfl) ?_
      refine t_getr (ci := 0) X Y S k0 rfl i_H 8 (by decide) rfl (k1 := 7) (k2 := 8) rfl rfl lk_H_56 (fun _ h9 => h9) d_H_isSession_11 (fun b103 e103 k103 => ?_)
      refine lv_iload_n X.1 X.2.1 d_H_isSession_14 rfl (lv_at hl 1 rfl) ?_
      refine t_aald X Y S k103 (fun h9 => h9) (t0 := 4) rfl (by omega) (by omega) (by omega) d_H_isSession_15 (fun b104 e104 k104 => ?_)
      refine t_geti (ci := 9) X Y S k104 rfl i_So 1 (by decide) rfl lk_H_239 (fun _ h9 => h9) d_H_isSession_16 (fun z105 e105 l105 u105 => ?_)
      refine z_if_eq (tgt := 26) X.1 X.2.1 d_H_isSession_19 (by decide) ⟨by omega, by omega⟩ (fun h106 => ?_) (fun h106 => ?_)
      · refine lv_iconst (v := iI 0) X.1 X.2.1 d_H_isSession_26 (by decide) ?_
        exact c_retz hQQ X Y hr hlk (iI_bool (by omega) (by omega)).1 ⟨rfl, rfl, 0, rfl, ⟨by omega, by omega, by omega⟩⟩ d_H_isSession_27
      · refine lv_iconst (v := iI 1) X.1 X.2.1 d_H_isSession_22 (by decide) ?_
        refine lv_goto (tgt := 27) X.1 X.2.1 d_H_isSession_23 (by decide) ?_
        exact c_retz hQQ X Y hr hlk (iI_bool (by omega) (by omega)).1 ⟨rfl, rfl, 1, rfl, ⟨by omega, by omega, by omega⟩⟩ d_H_isSession_27
set_option maxHeartbeats 4000000 in
set_option maxRecDepth 100000 in
theorem c_H_isSide (l : Launch) (D : va_G) (E : cE) (T : cT) (κ : tK) (L : List Nat) (f : pF) (sz : Nat) (h : Nat) (k0 : κ h = (10, 0)) (a1 : Int) (l_a1 : (-2147483648) ≤ a1) (u_a1 : a1 ≤ 2147483647) (a2 : Int) (l_a2 : (-2147483648) ≤ a2) (u_a2 : a2 ≤ 2147483647) (hw : tW E T κ L f) : Met l y_H_isSide (k_H_isSide :: lw_tg) (kRm 2 81 0 0) (va_Pc [.ref h, .int (iI a1), .int (iI a2)] (kPre D E T L f sz)) (va_Qi (uPi L f (fun (z : Int) => 0 ≤ z ∧ z ≤ 1 ∧ (z = 1 → 0 ≤ a1 ∧ a1 ≤ 7 ∧ 0 ≤ a2 ∧ a2 ≤ 1))) (cPost D E (pA L sz)) (pA L sz)) 0 0 (pA L sz) := by
  refine k_enter (own := R_H) (by decide) rfl (Nat.le_of_ble_eq_true rfl) (fun p e s m below meth c ls AV QQ H locs hQQ X Y hA hin hr hlk hml hl KS KR => ?_)
  have hl : lv_has ls 3 [(0, .ref h), (1, .int (iI a1)), (2, .int (iI a2))] := hl
  have S : tS E T (tFr κ L [] []) κ L f κ L f := tS_rf hw
  refine lv_aload_n X.1 X.2.1 d_H_isSide_0 rfl (lv_at hl 0 rfl) ?_
  refine lv_iload_n X.1 X.2.1 d_H_isSide_1 rfl (lv_at hl 1 rfl) ?_
  refine t_ui (t_runV (As := [.int (iI a1)]) (rest := []) (n := 1) X Y S k0 hml hl.1 (c_H_isSession l D E T κ L f H.size h k0 a1 (by omega) (by omega) S.1) (ok_k X Y hA KS KR) rfl kl_H_H_isSession ks_H_isSession kx_H_isSession ki_H_isSession ini_H ⟨rfl, rfl⟩ hd_H_isSession ⟨Nat.le_of_ble_eq_true rfl, Nat.le_of_ble_eq_true rfl⟩ rfl (Nat.le_of_ble_eq_true rfl) d_H_isSide_2 ⟨Nat.le_of_ble_eq_true rfl, Nat.le_of_ble_eq_true rfl⟩) X Y hA (fun z101 H locs Y p101 => ?_)
  obtain ⟨l101, u101, x101⟩ := p101
  refine z_if_eq (tgt := 37) X.1 X.2.1 d_H_isSide_5 (by decide) ⟨by omega, by omega⟩ (fun h102 => ?_) (fun h102 => ?_)
  · refine lv_iconst (v := iI 0) X.1 X.2.1 d_H_isSide_37 (by decide) ?_
    exact c_retz hQQ X Y hr hlk (iI_bool (by omega) (by omega)).1 ⟨rfl, rfl, 0, rfl, ⟨by omega, by omega, by omega⟩⟩ d_H_isSide_38
  · refine lv_iload_n X.1 X.2.1 d_H_isSide_8 rfl (lv_at hl 2 rfl) ?_
    refine lv_iconst (v := iI 1) X.1 X.2.1 d_H_isSide_9 (by decide) ?_
    refine z_icmp_eq (tgt := 33) X.1 X.2.1 d_H_isSide_10 (by decide) ⟨by omega, by omega⟩ ⟨by omega, by omega⟩ (fun h103 => ?_) (fun h103 => ?_)
    · refine lv_iconst (v := iI 1) X.1 X.2.1 d_H_isSide_33 (by decide) ?_
      refine lv_goto (tgt := 38) X.1 X.2.1 d_H_isSide_34 (by decide) ?_
      exact c_retz hQQ X Y hr hlk (iI_bool (by omega) (by omega)).1 ⟨rfl, rfl, 1, rfl, ⟨by omega, by omega, by omega⟩⟩ d_H_isSide_38
    · refine lv_iload_n X.1 X.2.1 d_H_isSide_13 rfl (lv_at hl 2 rfl) ?_
      refine z_if_ne (tgt := 37) X.1 X.2.1 d_H_isSide_14 (by decide) ⟨by omega, by omega⟩ (fun h104 => ?_) (fun h104 => ?_)
      · refine lv_iconst (v := iI 0) X.1 X.2.1 d_H_isSide_37 (by decide) ?_
        exact c_retz hQQ X Y hr hlk (iI_bool (by omega) (by omega)).1 ⟨rfl, rfl, 0, rfl, ⟨by omega, by omega, by omega⟩⟩ d_H_isSide_38
      · refine lv_aload_n X.1 X.2.1 d_H_isSide_17 rfl (lv_at hl 0 rfl) ?_
        refine lv_aload_n X.1 X.2.1 d_H_isSide_18 rfl (lv_at hl 0 rfl) ?_
        refine t_getr (ci := 0) X Y S k0 rfl i_H 8 (by decide) rfl (k1 := 7) (k2 := 8) rfl rfl lk_H_56 (fun _ h9 => h9) d_H_isSide_19 (fun b105 e105 k105 => ?_)
        refine lv_iload_n X.1 X.2.1 d_H_isSide_22 rfl (lv_at hl 1 rfl) ?_
        refine t_aald X Y S k105 (fun h9 => h9) (t0 := 4) rfl (by omega) (by omega) (by omega) d_H_isSide_23 (fun b106 e106 k106 => ?_)
        refine t_geti (ci := 9) X Y S k106 rfl i_So 2 (by decide) rfl lk_H_289 (fun _ h9 => h9) d_H_isSide_24 (fun z107 e107 l107 u107 => ?_)
        refine t_ui (t_runV (As := [.int (iI z107)]) (rest := []) (n := 1) X Y S k0 hml hl.1 (c_H_isAgent l D E T κ L f H.size h k0 z107 (by omega) (by omega) S.1) (ok_k X Y hA KS KR) rfl kl_H_H_isAgent ks_H_isAgent kx_H_isAgent ki_H_isAgent ini_H ⟨rfl, rfl⟩ hd_H_isAgent ⟨Nat.le_of_ble_eq_true rfl, Nat.le_of_ble_eq_true rfl⟩ rfl (Nat.le_of_ble_eq_true rfl) d_H_isSide_27 ⟨Nat.le_of_ble_eq_true rfl, Nat.le_of_ble_eq_true rfl⟩) X Y hA (fun z108 H locs Y p108 => ?_)
        obtain ⟨l108, u108, x108⟩ := p108
        refine z_if_eq (tgt := 37) X.1 X.2.1 d_H_isSide_30 (by decide) ⟨by omega, by omega⟩ (fun h109 => ?_) (fun h109 => ?_)
        · refine lv_iconst (v := iI 0) X.1 X.2.1 d_H_isSide_37 (by decide) ?_
          exact c_retz hQQ X Y hr hlk (iI_bool (by omega) (by omega)).1 ⟨rfl, rfl, 0, rfl, ⟨by omega, by omega, by omega⟩⟩ d_H_isSide_38
        · refine lv_iconst (v := iI 1) X.1 X.2.1 d_H_isSide_33 (by decide) ?_
          refine lv_goto (tgt := 38) X.1 X.2.1 d_H_isSide_34 (by decide) ?_
          exact c_retz hQQ X Y hr hlk (iI_bool (by omega) (by omega)).1 ⟨rfl, rfl, 1, rfl, ⟨by omega, by omega, by omega⟩⟩ d_H_isSide_38
set_option maxHeartbeats 4000000 in
set_option maxRecDepth 100000 in
theorem c_H_timeOf (l : Launch) (D : va_G) (E : cE) (T : cT) (κ : tK) (L : List Nat) (f : pF) (sz : Nat) (h : Nat) (k0 : κ h = (10, 0)) (a1 : Int) (l_a1 : 0 ≤ a1) (u_a1 : a1 ≤ 7) (a2 : Int) (l_a2 : (-2147483648) ≤ a2) (u_a2 : a2 ≤ 2147483647) (hw : tW E T κ L f) : Met l y_H_timeOf (k_H_timeOf :: lw_tg) (kRm 2 81 0 0) (va_Pc [.ref h, .int (iI a1), .int (iI a2)] (kPre D E T L f sz)) (va_Qi (uPi L f (fun (z : Int) => (-2147483648) ≤ z ∧ z ≤ 2147483647)) (cPost D E (pA L sz)) (pA L sz)) 0 0 (pA L sz) := by
  refine k_enter (own := R_H) (by decide) rfl (Nat.le_of_ble_eq_true rfl) (fun p e s m below meth c ls AV QQ H locs hQQ X Y hA hin hr hlk hml hl KS KR => ?_)
  have hl : lv_has ls 4 [(0, .ref h), (1, .int (iI a1)), (2, .int (iI a2))] := hl
  have S : tS E T (tFr κ L [] []) κ L f κ L f := tS_rf hw
  refine lv_aload_n X.1 X.2.1 d_H_timeOf_0 rfl (lv_at hl 0 rfl) ?_
  refine t_getr (ci := 0) X Y S k0 rfl i_H 8 (by decide) rfl (k1 := 7) (k2 := 8) rfl rfl lk_H_56 (fun _ h9 => h9) d_H_timeOf_1 (fun b101 e101 k101 => ?_)
  refine lv_iload_n X.1 X.2.1 d_H_timeOf_4 rfl (lv_at hl 1 rfl) ?_
  refine t_aald X Y S k101 (fun h9 => h9) (t0 := 4) rfl (by omega) (by omega) (by omega) d_H_timeOf_5 (fun b102 e102 k102 => ?_)
  refine t_geti (ci := 9) X Y S k102 rfl i_So 2 (by decide) rfl lk_H_289 (fun _ h9 => h9) d_H_timeOf_6 (fun z103 e103 l103 u103 => ?_)
  refine lv_istore_n (lv' := [(3, .int (iI z103)), (0, .ref h), (1, .int (iI a1)), (2, .int (iI a2))]) X.1 X.2.1 d_H_timeOf_9 rfl hl (by decide) rfl (fun ls hl => ?_)
  refine lv_iload_n X.1 X.2.1 d_H_timeOf_10 rfl (lv_at hl 3 rfl) ?_
  refine z_if_ne (tgt := 34) X.1 X.2.1 d_H_timeOf_11 (by decide) ⟨by omega, by omega⟩ (fun h104 => ?_) (fun h104 => ?_)
  · refine lv_aload_n X.1 X.2.1 d_H_timeOf_34 rfl (lv_at hl 1 rfl) ?_
    refine t_getr (ci := 0) X Y S k0 rfl i_H 0 (by decide) rfl (k1 := 21) (k2 := 0) rfl rfl lk_H_12 (fun _ h9 => h9) d_H_timeOf_35 (fun b105 e105 k105 => ?_)
    refine t_geti (ci := 11) X Y S k105 rfl i_Va 0 (by decide) rfl lk_H_110 (fun _ h9 => h9) d_H_timeOf_38 (fun z106 e106 l106 u106 => ?_)
    exact c_reti hQQ X Y hr hlk ⟨rfl, rfl, z106, rfl, ⟨by omega, by omega⟩⟩ d_H_timeOf_41
  · refine lv_aload_n X.1 X.2.1 d_H_timeOf_14 rfl (lv_at hl 1 rfl) ?_
    refine lv_iload_n X.1 X.2.1 d_H_timeOf_15 rfl (lv_at hl 0 rfl) ?_
    refine t_ui (t_runV (As := [.int (iI z103)]) (rest := []) (n := 1) X Y S k0 hml hl.1 (c_H_isAgent l D E T κ L f H.size h k0 z103 (by omega) (by omega) S.1) (ok_k X Y hA KS KR) rfl kl_H_H_isAgent ks_H_isAgent kx_H_isAgent ki_H_isAgent ini_H ⟨rfl, rfl⟩ hd_H_isAgent ⟨Nat.le_of_ble_eq_true rfl, Nat.le_of_ble_eq_true rfl⟩ rfl (Nat.le_of_ble_eq_true rfl) d_H_timeOf_16 ⟨Nat.le_of_ble_eq_true rfl, Nat.le_of_ble_eq_true rfl⟩) X Y hA (fun z107 H locs Y p107 => ?_)
    obtain ⟨l107, u107, x107⟩ := p107
    refine z_if_eq (tgt := 34) X.1 X.2.1 d_H_timeOf_19 (by decide) ⟨by omega, by omega⟩ (fun h108 => ?_) (fun h108 => ?_)
    · refine lv_aload_n X.1 X.2.1 d_H_timeOf_34 rfl (lv_at hl 1 rfl) ?_
      refine t_getr (ci := 0) X Y S k0 rfl i_H 0 (by decide) rfl (k1 := 21) (k2 := 0) rfl rfl lk_H_12 (fun _ h9 => h9) d_H_timeOf_35 (fun b109 e109 k109 => ?_)
      refine t_geti (ci := 11) X Y S k109 rfl i_Va 0 (by decide) rfl lk_H_110 (fun _ h9 => h9) d_H_timeOf_38 (fun z110 e110 l110 u110 => ?_)
      exact c_reti hQQ X Y hr hlk ⟨rfl, rfl, z110, rfl, ⟨by omega, by omega⟩⟩ d_H_timeOf_41
    · refine lv_aload_n X.1 X.2.1 d_H_timeOf_22 rfl (lv_at hl 1 rfl) ?_
      refine t_getr (ci := 0) X Y S k0 rfl i_H 7 (by decide) rfl (k1 := 6) (k2 := 4) rfl rfl lk_H_49 (fun _ h9 => h9) d_H_timeOf_23 (fun b111 e111 k111 => ?_)
      refine lv_iload_n X.1 X.2.1 d_H_timeOf_26 rfl (lv_at hl 0 rfl) ?_
      refine t_aald X Y S k111 (fun h9 => h9) (t0 := 3) rfl (by omega) (by omega) (by omega) d_H_timeOf_27 (fun b112 e112 k112 => ?_)
      refine t_ui (t_runV (As := []) (rest := []) (n := 0) X Y S k112 hml hl.1 (c_Ag_time l D E T κ L f H.size b112 k112 S.1) (ok_k X Y hA KS KR) rfl kl_H_Ag_time ks_Ag_time kx_Ag_time ki_Ag_time ini_Ag ⟨rfl, rfl⟩ hd_Ag_time ⟨Nat.le_of_ble_eq_true rfl, Nat.le_of_ble_eq_true rfl⟩ rfl (Nat.le_of_ble_eq_true rfl) d_H_timeOf_28 ⟨Nat.le_of_ble_eq_true rfl, Nat.le_of_ble_eq_true rfl⟩) X Y hA (fun z113 H locs Y p113 => ?_)
      obtain ⟨l113, u113⟩ := p113
      refine lv_goto (tgt := 41) X.1 X.2.1 d_H_timeOf_31 (by decide) ?_
      exact c_reti hQQ X Y hr hlk ⟨rfl, rfl, z113, rfl, ⟨by omega, by omega⟩⟩ d_H_timeOf_41
set_option maxHeartbeats 4000000 in
set_option maxRecDepth 100000 in
theorem c_H_isRounds (l : Launch) (D : va_G) (E : cE) (T : cT) (κ : tK) (L : List Nat) (f : pF) (sz : Nat) (a1 : Int) (l_a1 : (-2147483648) ≤ a1) (u_a1 : a1 ≤ 2147483647) (hw : tW E T κ L f) : Met l y_H_isRounds (k_H_isRounds :: lw_tg) (kRm 1 60 0 0) (va_Pc [.int (iI a1)] (kPre D E T L f sz)) (va_Qi (uPi L f (fun (z : Int) => 0 ≤ z ∧ z ≤ 1)) (cPost D E (pA L sz)) (pA L sz)) 0 0 (pA L sz) := by
  refine k_enter (own := R_H) (by decide) rfl (Nat.le_of_ble_eq_true rfl) (fun p e s m below meth c ls AV QQ H locs hQQ X Y hA hin hr hlk hml hl KS KR => ?_)
  have hl : lv_has ls 1 [(0, .int (iI a1))] := hl
  have S : tS E T (tFr κ L [] []) κ L f κ L f := tS_rf hw
  refine lv_iload_n X.1 X.2.1 d_H_isRounds_0 rfl (lv_at hl 0 rfl) ?_
  refine lv_iconst (v := iI 1) X.1 X.2.1 d_H_isRounds_1 (by decide) ?_
  refine z_icmp_lt (tgt := 16) X.1 X.2.1 d_H_isRounds_2 (by decide) ⟨by omega, by omega⟩ ⟨by omega, by omega⟩ (fun h101 => ?_) (fun h101 => ?_)
  · refine lv_iconst (v := iI 0) X.1 X.2.1 d_H_isRounds_16 (by decide) ?_
    exact c_retz hQQ X Y hr hlk (iI_bool (by omega) (by omega)).1 ⟨rfl, rfl, 0, rfl, ⟨by omega, by omega⟩⟩ d_H_isRounds_17
  · refine lv_iload_n X.1 X.2.1 d_H_isRounds_5 rfl (lv_at hl 0 rfl) ?_
    refine lv_sipush (v := iI 200) X.1 X.2.1 d_H_isRounds_6 (by decide) ?_
    refine z_icmp_gt (tgt := 16) X.1 X.2.1 d_H_isRounds_9 (by decide) ⟨by omega, by omega⟩ ⟨by omega, by omega⟩ (fun h102 => ?_) (fun h102 => ?_)
    · refine lv_iconst (v := iI 0) X.1 X.2.1 d_H_isRounds_16 (by decide) ?_
      exact c_retz hQQ X Y hr hlk (iI_bool (by omega) (by omega)).1 ⟨rfl, rfl, 0, rfl, ⟨by omega, by omega⟩⟩ d_H_isRounds_17
    · refine lv_iconst (v := iI 1) X.1 X.2.1 d_H_isRounds_12 (by decide) ?_
      refine lv_goto (tgt := 17) X.1 X.2.1 d_H_isRounds_13 (by decide) ?_
      exact c_retz hQQ X Y hr hlk (iI_bool (by omega) (by omega)).1 ⟨rfl, rfl, 1, rfl, ⟨by omega, by omega⟩⟩ d_H_isRounds_17
set_option maxHeartbeats 4000000 in
set_option maxRecDepth 100000 in
theorem c_H_isSpan (l : Launch) (D : va_G) (E : cE) (T : cT) (κ : tK) (L : List Nat) (f : pF) (sz : Nat) (a1 : Int) (l_a1 : (-2147483648) ≤ a1) (u_a1 : a1 ≤ 2147483647) (hw : tW E T κ L f) : Met l y_H_isSpan (k_H_isSpan :: lw_tg) (kRm 1 60 0 0) (va_Pc [.int (iI a1)] (kPre D E T L f sz)) (va_Qi (uPi L f (fun (z : Int) => 0 ≤ z ∧ z ≤ 1 ∧ (z = 1 → 0 ≤ a1 ∧ a1 ≤ 100000000))) (cPost D E (pA L sz)) (pA L sz)) 0 0 (pA L sz) := by
  refine k_enter (own := R_H) (by decide) rfl (Nat.le_of_ble_eq_true rfl) (fun p e s m below meth c ls AV QQ H locs hQQ X Y hA hin hr hlk hml hl KS KR => ?_)
  have hl : lv_has ls 1 [(0, .int (iI a1))] := hl
  have S : tS E T (tFr κ L [] []) κ L f κ L f := tS_rf hw
  refine lv_iload_n X.1 X.2.1 d_H_isSpan_0 rfl (lv_at hl 0 rfl) ?_
  refine z_if_lt (tgt := 15) X.1 X.2.1 d_H_isSpan_1 (by decide) ⟨by omega, by omega⟩ (fun h101 => ?_) (fun h101 => ?_)
  · refine lv_iconst (v := iI 0) X.1 X.2.1 d_H_isSpan_15 (by decide) ?_
    exact c_retz hQQ X Y hr hlk (iI_bool (by omega) (by omega)).1 ⟨rfl, rfl, 0, rfl, ⟨by omega, by omega, by omega⟩⟩ d_H_isSpan_16
  · refine lv_iload_n X.1 X.2.1 d_H_isSpan_4 rfl (lv_at hl 0 rfl) ?_
    refine lv_ldcw (v := (100000000)) X.1 X.2.1 X.2.2.2.1 (X.2.2.1 _ cn_H_305) d_H_isSpan_5 ?_
    refine t_eq (y := iI 100000000) (by decide) ?_
    refine z_icmp_gt (tgt := 15) X.1 X.2.1 d_H_isSpan_8 (by decide) ⟨by omega, by omega⟩ ⟨by omega, by omega⟩ (fun h102 => ?_) (fun h102 => ?_)
    · refine lv_iconst (v := iI 0) X.1 X.2.1 d_H_isSpan_15 (by decide) ?_
      exact c_retz hQQ X Y hr hlk (iI_bool (by omega) (by omega)).1 ⟨rfl, rfl, 0, rfl, ⟨by omega, by omega, by omega⟩⟩ d_H_isSpan_16
    · refine lv_iconst (v := iI 1) X.1 X.2.1 d_H_isSpan_11 (by decide) ?_
      refine lv_goto (tgt := 16) X.1 X.2.1 d_H_isSpan_12 (by decide) ?_
      exact c_retz hQQ X Y hr hlk (iI_bool (by omega) (by omega)).1 ⟨rfl, rfl, 1, rfl, ⟨by omega, by omega, by omega⟩⟩ d_H_isSpan_16
set_option maxHeartbeats 4000000 in
set_option maxRecDepth 100000 in
theorem c_H_isPassword (l : Launch) (D : va_G) (E : cE) (T : cT) (κ : tK) (L : List Nat) (f : pF) (sz : Nat) (h : Nat) (k0 : κ h = (10, 0)) (a1 : Int) (l_a1 : (-1) ≤ a1) (u_a1 : a1 ≤ 4001) (hw : tW E T κ L f) : Met l y_H_isPassword (k_H_isPassword :: lw_tg) (kRm 3 105 0 0) (va_Pc [.ref h, .int (iI a1)] (kPre D E T L f sz)) (va_Qi (uPi L f (fun (z : Int) => 0 ≤ z ∧ z ≤ 1)) (cPost D E (pA L sz)) (pA L sz)) 0 0 (pA L sz) := by
  refine k_enter (own := R_H) (by decide) rfl (Nat.le_of_ble_eq_true rfl) (fun p e s m below meth c ls AV QQ H locs hQQ X Y hA hin hr hlk hml hl KS KR => ?_)
  have hl : lv_has ls 2 [(0, .ref h), (1, .int (iI a1))] := hl
  have S : tS E T (tFr κ L [] []) κ L f κ L f := tS_rf hw
  refine lv_aload_n X.1 X.2.1 d_H_isPassword_0 rfl (lv_at hl 0 rfl) ?_
  refine t_getr (ci := 0) X Y S k0 rfl i_H 1 (by decide) rfl (k1 := 13) (k2 := 4000) rfl rfl lk_H_21 (fun _ h9 => h9) d_H_isPassword_1 (fun b101 e101 k101 => ?_)
  refine t_gets (ci := 3) X Y S k101 rfl i_By 1 (by decide) rfl lk_H_81 (fun _ h9 => h9) d_H_isPassword_4 (fun z102 e102 l102 u102 => ?_)
  refine lv_iload_n X.1 X.2.1 d_H_isPassword_7 rfl (lv_at hl 1 rfl) ?_
  refine z_isub X.1 X.2.1 d_H_isPassword_8 ?_
  refine lv_bipush (v := iI 20) X.1 X.2.1 d_H_isPassword_9 (by decide) ?_
  refine z_icmp_le (tgt := 16) X.1 X.2.1 d_H_isPassword_11 (by decide) ⟨by omega, by omega⟩ ⟨by omega, by omega⟩ (fun h103 => ?_) (fun h103 => ?_)
  · refine lv_aload_n X.1 X.2.1 d_H_isPassword_16 rfl (lv_at hl 0 rfl) ?_
    refine t_get0 (ci := 0) X Y S k0 rfl i_H 1 (by decide) rfl lk_H_21 (fun _ h9 => h9) d_H_isPassword_17 e101 ?_
    refine lv_iload_n X.1 X.2.1 d_H_isPassword_20 rfl (lv_at hl 1 rfl) ?_
    refine lv_aload_n X.1 X.2.1 d_H_isPassword_21 rfl (lv_at hl 0 rfl) ?_
    refine t_get0 (ci := 0) X Y S k0 rfl i_H 1 (by decide) rfl lk_H_21 (fun _ h9 => h9) d_H_isPassword_22 e101 ?_
    refine t_get0 (ci := 3) X Y S k101 rfl i_By 1 (by decide) rfl lk_H_81 (fun _ h9 => h9) d_H_isPassword_25 e102 ?_
    refine t_ui (t_runV (As := [.int (iI a1), .int (iI z102)]) (rest := []) (n := 2) X Y S k101 hml hl.1 (c_By_isPrintable l D E T κ L f H.size b101 4000 k101 (by omega) a1 (by omega) (by omega) z102 (by omega) (by omega) S.1) (ok_k X Y hA KS KR) rfl kl_H_By_isPrintable ks_By_isPrintable kx_By_isPrintable ki_By_isPrintable ini_By ⟨rfl, rfl⟩ hd_By_isPrintable ⟨Nat.le_of_ble_eq_true rfl, Nat.le_of_ble_eq_true rfl⟩ rfl (Nat.le_of_ble_eq_true rfl) d_H_isPassword_28 ⟨Nat.le_of_ble_eq_true rfl, Nat.le_of_ble_eq_true rfl⟩) X Y hA (fun z104 H locs Y p104 => ?_)
    obtain ⟨l104, u104⟩ := p104
    exact c_retz hQQ X Y hr hlk (iI_bool (by omega) (by omega)).1 ⟨rfl, rfl, z104, rfl, ⟨by omega, by omega⟩⟩ d_H_isPassword_31
  · refine lv_iconst (v := iI 0) X.1 X.2.1 d_H_isPassword_14 (by decide) ?_
    exact c_retz hQQ X Y hr hlk (iI_bool (by omega) (by omega)).1 ⟨rfl, rfl, 0, rfl, ⟨by omega, by omega⟩⟩ d_H_isPassword_15
set_option maxHeartbeats 4000000 in
set_option maxRecDepth 100000 in
theorem c_H_readName (l : Launch) (D : va_G) (E : cE) (T : cT) (κ : tK) (L : List Nat) (f : pF) (sz : Nat) (h : Nat) (k0 : κ h = (10, 0)) (a1 : Int) (l_a1 : 0 ≤ a1) (u_a1 : a1 ≤ 4000) (hw : tW E T κ L f) : Met l y_H_readName (k_H_readName :: lw_tg) (kRm 3 108 0 0) (va_Pc [.ref h, .int (iI a1)] (kPre D E T L f sz)) (va_Qi (nPi E T [1, 13] κ L f (fun (z : Int) (g : pF) => 0 ≤ z ∧ z ≤ 1)) (cPost D E (pA L sz)) (pA L sz)) 0 0 (pA L sz) := by
  refine k_enter (own := R_H) (by decide) rfl (Nat.le_of_ble_eq_true rfl) (fun p e s m below meth c ls AV QQ H locs hQQ X Y hA hin hr hlk hml hl KS KR => ?_)
  have hl : lv_has ls 8 [(0, .ref h), (1, .int (iI a1))] := hl
  have S : tS E T (tFr κ L [1, 13] []) κ L f κ L f := tS_rf hw
  refine lv_aload_n X.1 X.2.1 d_H_readName_0 rfl (lv_at hl 0 rfl) ?_
  refine t_getr (ci := 0) X Y S k0 rfl i_H 3 (by decide) rfl (k1 := 13) (k2 := 40) rfl rfl lk_H_28 (fun _ h9 => h9) d_H_readName_1 (fun b101 e101 k101 => ?_)
  refine t_nv (t_runV (As := []) (rest := []) (n := 0) X Y S k101 hml hl.1 (c_By_clear l D E T κ L f H.size b101 40 k101 (by omega) S.1) (ok_k X Y hA KS KR) rfl kl_H_By_clear ks_By_clear kx_By_clear ki_By_clear ini_By ⟨rfl, rfl⟩ hd_By_clear ⟨Nat.le_of_ble_eq_true rfl, Nat.le_of_ble_eq_true rfl⟩ rfl (Nat.le_of_ble_eq_true rfl) d_H_readName_4 ⟨Nat.le_of_ble_eq_true rfl, Nat.le_of_ble_eq_true rfl⟩) X Y hA S (by decide) (fun f102 H locs Y S s102 p102 => ?_)
  refine lv_iconst (v := iI 0) X.1 X.2.1 d_H_readName_7 (by decide) ?_
  refine lv_istore_n (lv' := [(2, .int (iI 0)), (0, .ref h), (1, .int (iI a1))]) X.1 X.2.1 d_H_readName_8 rfl hl (by decide) rfl (fun ls hl => ?_)
  refine lv_iconst (v := iI 0) X.1 X.2.1 d_H_readName_9 (by decide) ?_
  refine lv_istore_n (lv' := [(3, .int (iI 0)), (2, .int (iI 0)), (0, .ref h), (1, .int (iI a1))]) X.1 X.2.1 d_H_readName_10 rfl hl (by decide) rfl (fun ls hl => ?_)
  refine lv_iconst (v := iI 0) X.1 X.2.1 d_H_readName_11 (by decide) ?_
  have J107 : ∀ (n109 : Nat) (z104 : Int) (z105 : Int) (z106 : Int) (f103 : pF) (H : Heap) (locs : List Loc) (ls : Array Slot), (4001 - z106).toNat = n109 → (0 ≤ z104) → (z104 ≤ 4096) → (0 ≤ z105) → (z105 ≤ 2) → (0 ≤ z106) → (z106 ≤ 4001) → pH D cCl (pA L sz) s.heap L f103 H locs → tS E T (tFr κ L [1, 13] []) κ L f κ L f103 → lv_has ls 8 [(0, .ref h), (1, .int (iI a1)), (2, .int (iI z104)), (3, .int (iI z105)), (4, .int (iI z106))] → W p l e (kRm 3 108 0 0) s m AV below meth c H locs 0 0 QQ (F0 m 14 ls []) := by
    intro n109
    induction n109 using Nat.strongRecOn with
    | ind n109 ih108 =>
      intro z104 z105 z106 f103 H locs ls hm110 l104 u104 l105 u105 l106 u106 Y S hl
      refine lv_iload X.1 X.2.1 d_H_readName_14 (lv_at hl 4 rfl) ?_
      refine lv_iload_n X.1 X.2.1 d_H_readName_16 rfl (lv_at hl 1 rfl) ?_
      refine z_icmp_gt (tgt := 170) X.1 X.2.1 d_H_readName_17 (by decide) ⟨by omega, by omega⟩ ⟨by omega, by omega⟩ (fun h111 => ?_) (fun h111 => ?_)
      · refine lv_iconst (v := iI 1) X.1 X.2.1 d_H_readName_170 (by decide) ?_
        exact c_retz hQQ X Y hr hlk (iI_bool (by omega) (by omega)).1 ⟨rfl, S, 1, rfl, ⟨by omega, by omega⟩⟩ d_H_readName_171
      · refine lv_iload X.1 X.2.1 d_H_readName_20 (lv_at hl 4 rfl) ?_
        refine lv_iload_n X.1 X.2.1 d_H_readName_22 rfl (lv_at hl 1 rfl) ?_
        have J113 : ∀ (z112 : Int) (H : Heap) (locs : List Loc) (ls : Array Slot), ((-1) ≤ z112) → (z112 ≤ 255) → pH D cCl (pA L sz) s.heap L f103 H locs → tS E T (tFr κ L [1, 13] []) κ L f κ L f103 → lv_has ls 8 [(0, .ref h), (1, .int (iI a1)), (2, .int (iI z104)), (3, .int (iI z105)), (4, .int (iI z106))] → W p l e (kRm 3 108 0 0) s m AV below meth c H locs 0 0 QQ (F0 m 40 ls [.int (iI z112)]) := by
          intro z112 H locs ls l112 u112 Y S hl
          refine lv_istore (lv' := [(5, .int (iI z112)), (0, .ref h), (1, .int (iI a1)), (2, .int (iI z104)), (3, .int (iI z105)), (4, .int (iI z106))]) X.1 X.2.1 d_H_readName_40 hl (by decide) rfl (fun ls hl => ?_)
          refine lv_iload X.1 X.2.1 d_H_readName_42 (lv_at hl 0 rfl) ?_
          refine lv_bipush (v := iI 97) X.1 X.2.1 d_H_readName_44 (by decide) ?_
          have J117 : ∀  (H : Heap) (locs : List Loc) (ls : Array Slot), pH D cCl (pA L sz) s.heap L f103 H locs → tS E T (tFr κ L [1, 13] []) κ L f κ L f103 → lv_has ls 8 [(0, .ref h), (1, .int (iI a1)), (2, .int (iI z104)), (3, .int (iI z105)), (4, .int (iI z106)), (5, .int (iI z112))] → W p l e (kRm 3 108 0 0) s m AV below meth c H locs 0 0 QQ (F0 m 60 ls []) := by
            intro  H locs ls  Y S hl
            refine lv_iconst (v := iI 0) X.1 X.2.1 d_H_readName_60 (by decide) ?_
            refine lv_istore (lv' := [(6, .int (iI 0)), (0, .ref h), (1, .int (iI a1)), (2, .int (iI z104)), (3, .int (iI z105)), (4, .int (iI z106)), (5, .int (iI z112))]) X.1 X.2.1 d_H_readName_61 hl (by decide) rfl (fun ls hl => ?_)
            refine lv_iload X.1 X.2.1 d_H_readName_63 (lv_at hl 6 rfl) ?_
            refine lv_bipush (v := iI 48) X.1 X.2.1 d_H_readName_65 (by decide) ?_
            have J121 : ∀  (H : Heap) (locs : List Loc) (ls : Array Slot), pH D cCl (pA L sz) s.heap L f103 H locs → tS E T (tFr κ L [1, 13] []) κ L f κ L f103 → lv_has ls 8 [(0, .ref h), (1, .int (iI a1)), (2, .int (iI z104)), (3, .int (iI z105)), (4, .int (iI z106)), (5, .int (iI z112)), (6, .int (iI 0))] → W p l e (kRm 3 108 0 0) s m AV below meth c H locs 0 0 QQ (F0 m 81 ls []) := by
              intro  H locs ls  Y S hl
              refine lv_iconst (v := iI 0) X.1 X.2.1 d_H_readName_81 (by decide) ?_
              refine lv_istore (lv' := [(7, .int (iI 0)), (0, .ref h), (1, .int (iI a1)), (2, .int (iI z104)), (3, .int (iI z105)), (4, .int (iI z106)), (5, .int (iI z112)), (6, .int (iI 0))]) X.1 X.2.1 d_H_readName_82 hl (by decide) rfl (fun ls hl => ?_)
              refine lv_iload X.1 X.2.1 d_H_readName_84 (lv_at hl 6 rfl) ?_
              refine lv_bipush (v := iI 47) X.1 X.2.1 d_H_readName_86 (by decide) ?_
              have J128 : ∀ (z126 : Int) (z127 : Int) (f125 : pF) (H : Heap) (locs : List Loc) (ls : Array Slot), (1 ≤ z126) → (z126 ≤ 4001) → (1 ≤ z127) → (z127 ≤ 2) → pH D cCl (pA L sz) s.heap L f125 H locs → tS E T (tFr κ L [1, 13] []) κ L f κ L f125 → lv_has ls 8 [(0, .ref h), (1, .int (iI a1)), (2, .int (iI z126)), (3, .int (iI z127)), (4, .int (iI z106))] → W p l e (kRm 3 108 0 0) s m AV below meth c H locs 0 0 QQ (F0 m 164 ls []) := by
                intro z126 z127 f125 H locs ls l126 u126 l127 u127 Y S hl
                refine lv_iinc (v := iI (z106 + 1)) (lv' := [(4, .int (iI (z106 + 1))), (0, .ref h), (1, .int (iI a1)), (2, .int (iI z126)), (3, .int (iI z127))]) X.1 X.2.1 d_H_readName_164 hl (k := 4) rfl ((iI_add _ _).trans (congrArg iI (by omega))) (by decide) rfl (fun ls hl => ?_)
                refine lv_goto (tgt := 14) X.1 X.2.1 d_H_readName_167 (by decide) ?_
                exact ih108 ((4001 - (z106 + 1)).toNat) (by omega) z126 z127 (z106 + 1) f125 _ _ _ rfl (by omega) (by omega) (by omega) (by omega) (by omega) (by omega) Y S (lv_sub hl [1, 2, 3, 4, 0] rfl)
              refine z_icmp_ne (tgt := 147) X.1 X.2.1 d_H_readName_88 (by decide) ⟨by omega, by omega⟩ ⟨by omega, by omega⟩ (fun h132 => ?_) (fun h132 => ?_)
              · refine lv_iload X.1 X.2.1 d_H_readName_147 (lv_at hl 7 rfl) ?_
                refine z_if_ne (tgt := 164) X.1 X.2.1 d_H_readName_149 (by decide) ⟨by omega, by omega⟩ (fun h133 => False.elim (by omega)) (fun h133 => ?_)
                · refine lv_iload X.1 X.2.1 d_H_readName_152 (lv_at hl 0 rfl) ?_
                  refine z_if_eq (tgt := 162) X.1 X.2.1 d_H_readName_154 (by decide) ⟨by omega, by omega⟩ (fun h134 => ?_) (fun h134 => False.elim (by omega))
                  · refine lv_iconst (v := iI 0) X.1 X.2.1 d_H_readName_162 (by decide) ?_
                    exact c_retz hQQ X Y hr hlk (iI_bool (by omega) (by omega)).1 ⟨rfl, S, 0, rfl, ⟨by omega, by omega⟩⟩ d_H_readName_163
              · refine lv_iload X.1 X.2.1 d_H_readName_91 (lv_at hl 5 rfl) ?_
                refine lv_iload_n X.1 X.2.1 d_H_readName_93 rfl (lv_at hl 3 rfl) ?_
                refine z_isub X.1 X.2.1 d_H_readName_94 ?_
                refine lv_iconst (v := iI 1) X.1 X.2.1 d_H_readName_95 (by decide) ?_
                refine z_icmp_lt (tgt := 113) X.1 X.2.1 d_H_readName_96 (by decide) ⟨by omega, by omega⟩ ⟨by omega, by omega⟩ (fun h135 => ?_) (fun h135 => ?_)
                · refine lv_iconst (v := iI 0) X.1 X.2.1 d_H_readName_113 (by decide) ?_
                  exact c_retz hQQ X Y hr hlk (iI_bool (by omega) (by omega)).1 ⟨rfl, S, 0, rfl, ⟨by omega, by omega⟩⟩ d_H_readName_114
                · refine lv_iload X.1 X.2.1 d_H_readName_99 (lv_at hl 5 rfl) ?_
                  refine lv_iload_n X.1 X.2.1 d_H_readName_101 rfl (lv_at hl 3 rfl) ?_
                  refine z_isub X.1 X.2.1 d_H_readName_102 ?_
                  refine lv_bipush (v := iI 16) X.1 X.2.1 d_H_readName_103 (by decide) ?_
                  refine z_icmp_gt (tgt := 113) X.1 X.2.1 d_H_readName_105 (by decide) ⟨by omega, by omega⟩ ⟨by omega, by omega⟩ (fun h136 => ?_) (fun h136 => ?_)
                  · refine lv_iconst (v := iI 0) X.1 X.2.1 d_H_readName_113 (by decide) ?_
                    exact c_retz hQQ X Y hr hlk (iI_bool (by omega) (by omega)).1 ⟨rfl, S, 0, rfl, ⟨by omega, by omega⟩⟩ d_H_readName_114
                  · refine lv_iload_n X.1 X.2.1 d_H_readName_108 rfl (lv_at hl 4 rfl) ?_
                    refine lv_iconst (v := iI 2) X.1 X.2.1 d_H_readName_109 (by decide) ?_
                    refine z_icmp_ne (tgt := 115) X.1 X.2.1 d_H_readName_110 (by decide) ⟨by omega, by omega⟩ ⟨by omega, by omega⟩ (fun h137 => ?_) (fun h137 => ?_)
                    · refine lv_aload_n X.1 X.2.1 d_H_readName_115 rfl (lv_at hl 1 rfl) ?_
                      refine t_getr (ci := 0) X Y S k0 rfl i_H 3 (by decide) rfl (k1 := 13) (k2 := 40) rfl rfl lk_H_28 (fun _ h9 => h9) d_H_readName_116 (fun b138 e138 k138 => ?_)
                      refine lv_bipush (v := iI 27) X.1 X.2.1 d_H_readName_119 (by decide) ?_
                      refine lv_aload_n X.1 X.2.1 d_H_readName_121 rfl (lv_at hl 1 rfl) ?_
                      refine t_getr (ci := 0) X Y S k0 rfl i_H 1 (by decide) rfl (k1 := 13) (k2 := 4000) rfl rfl lk_H_21 (fun _ h9 => h9) d_H_readName_122 (fun b139 e139 k139 => ?_)
                      refine t_getrow (ci := 3) X Y S k139 rfl i_By 0 (by decide) rfl lk_H_97 (fun _ h9 => h9) d_H_readName_125 (fun b140 e140 k140 => ?_)
                      refine lv_iload_n X.1 X.2.1 d_H_readName_128 rfl (lv_at hl 3 rfl) ?_
                      refine lv_iload X.1 X.2.1 d_H_readName_129 (lv_at hl 5 rfl) ?_
                      refine lv_iload_n X.1 X.2.1 d_H_readName_131 rfl (lv_at hl 3 rfl) ?_
                      refine z_isub X.1 X.2.1 d_H_readName_132 ?_
                      refine t_nv (t_runV (As := [.int (iI 27), .ref b140, .int (iI z104), .int (iI (z106 - z104))]) (rest := []) (n := 4) X Y S k138 hml hl.1 (c_By_putValue l D E T κ L f103 H.size b138 40 k138 (by omega) 27 (by omega) (by omega) b140 4000 (Or.inl k140) (by omega) z104 (by omega) (by omega) (z106 - z104) (by omega) (by omega) S.1) (ok_k X Y hA KS KR) rfl kl_H_By_putValue ks_By_putValue kx_By_putValue ki_By_putValue ini_By ⟨rfl, rfl⟩ hd_By_putValue ⟨Nat.le_of_ble_eq_true rfl, Nat.le_of_ble_eq_true rfl⟩ rfl (Nat.le_of_ble_eq_true rfl) d_H_readName_133 ⟨Nat.le_of_ble_eq_true rfl, Nat.le_of_ble_eq_true rfl⟩) X Y hA S (by decide) (fun f141 H locs Y S s141 p141 => ?_)
                      refine lv_iload X.1 X.2.1 d_H_readName_136 (lv_at hl 5 rfl) ?_
                      refine lv_iconst (v := iI 1) X.1 X.2.1 d_H_readName_138 (by decide) ?_
                      refine z_iadd X.1 X.2.1 d_H_readName_139 ?_
                      refine lv_istore_n (lv' := [(2, .int (iI (z106 + 1))), (7, .int (iI 0)), (0, .ref h), (1, .int (iI a1)), (3, .int (iI z105)), (4, .int (iI z106)), (5, .int (iI z112)), (6, .int (iI 0))]) X.1 X.2.1 d_H_readName_140 rfl hl (by decide) rfl (fun ls hl => ?_)
                      refine lv_iinc (v := iI (z105 + 1)) (lv' := [(3, .int (iI (z105 + 1))), (2, .int (iI (z106 + 1))), (7, .int (iI 0)), (0, .ref h), (1, .int (iI a1)), (4, .int (iI z106)), (5, .int (iI z112)), (6, .int (iI 0))]) X.1 X.2.1 d_H_readName_141 hl (k := 4) rfl ((iI_add _ _).trans (congrArg iI (by omega))) (by decide) rfl (fun ls hl => ?_)
                      refine lv_goto (tgt := 164) X.1 X.2.1 d_H_readName_144 (by decide) ?_
                      exact J128 (z106 + 1) (z105 + 1) f141 _ _ _ (by omega) (by omega) (by omega) (by omega) Y S (lv_sub hl [3, 4, 1, 0, 5] rfl)
                    · refine lv_iconst (v := iI 0) X.1 X.2.1 d_H_readName_113 (by decide) ?_
                      exact c_retz hQQ X Y hr hlk (iI_bool (by omega) (by omega)).1 ⟨rfl, S, 0, rfl, ⟨by omega, by omega⟩⟩ d_H_readName_114
            refine z_icmp_lt (tgt := 81) X.1 X.2.1 d_H_readName_67 (by decide) ⟨by omega, by omega⟩ ⟨by omega, by omega⟩ (fun h142 => ?_) (fun h142 => ?_)
            · exact J121  _ _ _  Y S (lv_sub hl [1, 2, 3, 4, 5, 6, 0] rfl)
            · refine lv_iload X.1 X.2.1 d_H_readName_70 (lv_at hl 6 rfl) ?_
              refine lv_bipush (v := iI 57) X.1 X.2.1 d_H_readName_72 (by decide) ?_
              refine z_icmp_gt (tgt := 81) X.1 X.2.1 d_H_readName_74 (by decide) ⟨by omega, by omega⟩ ⟨by omega, by omega⟩ (fun h143 => ?_) (fun h143 => ?_)
              · exact J121  _ _ _  Y S (lv_sub hl [1, 2, 3, 4, 5, 6, 0] rfl)
              · refine lv_iconst (v := iI 1) X.1 X.2.1 d_H_readName_77 (by decide) ?_
                refine lv_goto (tgt := 82) X.1 X.2.1 d_H_readName_78 (by decide) ?_
                refine lv_istore (lv' := [(7, .int (iI 1)), (6, .int (iI 0)), (0, .ref h), (1, .int (iI a1)), (2, .int (iI z104)), (3, .int (iI z105)), (4, .int (iI z106)), (5, .int (iI z112))]) X.1 X.2.1 d_H_readName_82 hl (by decide) rfl (fun ls hl => ?_)
                refine lv_iload X.1 X.2.1 d_H_readName_84 (lv_at hl 7 rfl) ?_
                refine lv_bipush (v := iI 47) X.1 X.2.1 d_H_readName_86 (by decide) ?_
                have J144 : ∀  (H : Heap) (locs : List Loc) (ls : Array Slot), pH D cCl (pA L sz) s.heap L f103 H locs → tS E T (tFr κ L [1, 13] []) κ L f κ L f103 → lv_has ls 8 [(0, .ref h), (1, .int (iI a1)), (2, .int (iI z104)), (3, .int (iI z105)), (4, .int (iI z106))] → W p l e (kRm 3 108 0 0) s m AV below meth c H locs 0 0 QQ (F0 m 164 ls []) := by
                  intro  H locs ls  Y S hl
                  refine lv_iinc (v := iI (z106 + 1)) (lv' := [(4, .int (iI (z106 + 1))), (0, .ref h), (1, .int (iI a1)), (2, .int (iI z104)), (3, .int (iI z105))]) X.1 X.2.1 d_H_readName_164 hl (k := 4) rfl ((iI_add _ _).trans (congrArg iI (by omega))) (by decide) rfl (fun ls hl => ?_)
                  refine lv_goto (tgt := 14) X.1 X.2.1 d_H_readName_167 (by decide) ?_
                  exact ih108 ((4001 - (z106 + 1)).toNat) (by omega) z104 z105 (z106 + 1) f103 _ _ _ rfl (by omega) (by omega) (by omega) (by omega) (by omega) (by omega) Y S (lv_sub hl [1, 2, 3, 4, 0] rfl)
                refine z_icmp_ne (tgt := 147) X.1 X.2.1 d_H_readName_88 (by decide) ⟨by omega, by omega⟩ ⟨by omega, by omega⟩ (fun h148 => ?_) (fun h148 => False.elim (by omega))
                · refine lv_iload X.1 X.2.1 d_H_readName_147 (lv_at hl 1 rfl) ?_
                  refine z_if_ne (tgt := 164) X.1 X.2.1 d_H_readName_149 (by decide) ⟨by omega, by omega⟩ (fun h149 => False.elim (by omega)) (fun h149 => ?_)
                  · refine lv_iload X.1 X.2.1 d_H_readName_152 (lv_at hl 0 rfl) ?_
                    refine z_if_eq (tgt := 162) X.1 X.2.1 d_H_readName_154 (by decide) ⟨by omega, by omega⟩ (fun h150 => False.elim (by omega)) (fun h150 => ?_)
                    · refine lv_iload X.1 X.2.1 d_H_readName_157 (lv_at hl 6 rfl) ?_
                      refine z_if_ne (tgt := 164) X.1 X.2.1 d_H_readName_159 (by decide) ⟨by omega, by omega⟩ (fun h151 => ?_) (fun h151 => ?_)
                      · exact J144  _ _ _  Y S (lv_sub hl [2, 3, 4, 5, 6] rfl)
                      · refine lv_iconst (v := iI 0) X.1 X.2.1 d_H_readName_162 (by decide) ?_
                        exact c_retz hQQ X Y hr hlk (iI_bool (by omega) (by omega)).1 ⟨rfl, S, 0, rfl, ⟨by omega, by omega⟩⟩ d_H_readName_163
          refine z_icmp_lt (tgt := 60) X.1 X.2.1 d_H_readName_46 (by decide) ⟨by omega, by omega⟩ ⟨by omega, by omega⟩ (fun h152 => ?_) (fun h152 => ?_)
          · exact J117  _ _ _  Y S (lv_sub hl [1, 2, 3, 4, 5, 0] rfl)
          · refine lv_iload X.1 X.2.1 d_H_readName_49 (lv_at hl 0 rfl) ?_
            refine lv_bipush (v := iI 122) X.1 X.2.1 d_H_readName_51 (by decide) ?_
            refine z_icmp_gt (tgt := 60) X.1 X.2.1 d_H_readName_53 (by decide) ⟨by omega, by omega⟩ ⟨by omega, by omega⟩ (fun h153 => ?_) (fun h153 => ?_)
            · exact J117  _ _ _  Y S (lv_sub hl [1, 2, 3, 4, 5, 0] rfl)
            · refine lv_iconst (v := iI 1) X.1 X.2.1 d_H_readName_56 (by decide) ?_
              refine lv_goto (tgt := 61) X.1 X.2.1 d_H_readName_57 (by decide) ?_
              refine lv_istore (lv' := [(6, .int (iI 1)), (5, .int (iI z112)), (0, .ref h), (1, .int (iI a1)), (2, .int (iI z104)), (3, .int (iI z105)), (4, .int (iI z106))]) X.1 X.2.1 d_H_readName_61 hl (by decide) rfl (fun ls hl => ?_)
              refine lv_iload X.1 X.2.1 d_H_readName_63 (lv_at hl 1 rfl) ?_
              refine lv_bipush (v := iI 48) X.1 X.2.1 d_H_readName_65 (by decide) ?_
              have J154 : ∀  (H : Heap) (locs : List Loc) (ls : Array Slot), pH D cCl (pA L sz) s.heap L f103 H locs → tS E T (tFr κ L [1, 13] []) κ L f κ L f103 → lv_has ls 8 [(0, .ref h), (1, .int (iI a1)), (2, .int (iI z104)), (3, .int (iI z105)), (4, .int (iI z106)), (5, .int (iI z112)), (6, .int (iI 1))] → W p l e (kRm 3 108 0 0) s m AV below meth c H locs 0 0 QQ (F0 m 81 ls []) := by
                intro  H locs ls  Y S hl
                refine lv_iconst (v := iI 0) X.1 X.2.1 d_H_readName_81 (by decide) ?_
                refine lv_istore (lv' := [(7, .int (iI 0)), (0, .ref h), (1, .int (iI a1)), (2, .int (iI z104)), (3, .int (iI z105)), (4, .int (iI z106)), (5, .int (iI z112)), (6, .int (iI 1))]) X.1 X.2.1 d_H_readName_82 hl (by decide) rfl (fun ls hl => ?_)
                refine lv_iload X.1 X.2.1 d_H_readName_84 (lv_at hl 6 rfl) ?_
                refine lv_bipush (v := iI 47) X.1 X.2.1 d_H_readName_86 (by decide) ?_
                have J158 : ∀  (H : Heap) (locs : List Loc) (ls : Array Slot), pH D cCl (pA L sz) s.heap L f103 H locs → tS E T (tFr κ L [1, 13] []) κ L f κ L f103 → lv_has ls 8 [(0, .ref h), (1, .int (iI a1)), (2, .int (iI z104)), (3, .int (iI z105)), (4, .int (iI z106))] → W p l e (kRm 3 108 0 0) s m AV below meth c H locs 0 0 QQ (F0 m 164 ls []) := by
                  intro  H locs ls  Y S hl
                  refine lv_iinc (v := iI (z106 + 1)) (lv' := [(4, .int (iI (z106 + 1))), (0, .ref h), (1, .int (iI a1)), (2, .int (iI z104)), (3, .int (iI z105))]) X.1 X.2.1 d_H_readName_164 hl (k := 4) rfl ((iI_add _ _).trans (congrArg iI (by omega))) (by decide) rfl (fun ls hl => ?_)
                  refine lv_goto (tgt := 14) X.1 X.2.1 d_H_readName_167 (by decide) ?_
                  exact ih108 ((4001 - (z106 + 1)).toNat) (by omega) z104 z105 (z106 + 1) f103 _ _ _ rfl (by omega) (by omega) (by omega) (by omega) (by omega) (by omega) Y S (lv_sub hl [1, 2, 3, 4, 0] rfl)
                refine z_icmp_ne (tgt := 147) X.1 X.2.1 d_H_readName_88 (by decide) ⟨by omega, by omega⟩ ⟨by omega, by omega⟩ (fun h162 => ?_) (fun h162 => False.elim (by omega))
                · refine lv_iload X.1 X.2.1 d_H_readName_147 (lv_at hl 7 rfl) ?_
                  refine z_if_ne (tgt := 164) X.1 X.2.1 d_H_readName_149 (by decide) ⟨by omega, by omega⟩ (fun h163 => ?_) (fun h163 => False.elim (by omega))
                  · exact J158  _ _ _  Y S (lv_sub hl [1, 2, 3, 4, 5] rfl)
              refine z_icmp_lt (tgt := 81) X.1 X.2.1 d_H_readName_67 (by decide) ⟨by omega, by omega⟩ ⟨by omega, by omega⟩ (fun h164 => False.elim (by omega)) (fun h164 => ?_)
              · refine lv_iload X.1 X.2.1 d_H_readName_70 (lv_at hl 1 rfl) ?_
                refine lv_bipush (v := iI 57) X.1 X.2.1 d_H_readName_72 (by decide) ?_
                refine z_icmp_gt (tgt := 81) X.1 X.2.1 d_H_readName_74 (by decide) ⟨by omega, by omega⟩ ⟨by omega, by omega⟩ (fun h165 => ?_) (fun h165 => False.elim (by omega))
                · exact J154  _ _ _  Y S (lv_sub hl [2, 3, 4, 5, 6, 1, 0] rfl)
        refine z_icmp_ge (tgt := 38) X.1 X.2.1 d_H_readName_23 (by decide) ⟨by omega, by omega⟩ ⟨by omega, by omega⟩ (fun h166 => ?_) (fun h166 => ?_)
        · refine lv_bipush (v := iI 47) X.1 X.2.1 d_H_readName_38 (by decide) ?_
          exact J113 47 _ _ _ (by omega) (by omega) Y S (lv_sub hl [0, 1, 2, 3, 4] rfl)
        · refine lv_aload_n X.1 X.2.1 d_H_readName_26 rfl (lv_at hl 0 rfl) ?_
          refine t_getr (ci := 0) X Y S k0 rfl i_H 1 (by decide) rfl (k1 := 13) (k2 := 4000) rfl rfl lk_H_21 (fun _ h9 => h9) d_H_readName_27 (fun b167 e167 k167 => ?_)
          refine lv_iload X.1 X.2.1 d_H_readName_30 (lv_at hl 4 rfl) ?_
          refine t_ui (t_runV (As := [.int (iI z106)]) (rest := []) (n := 1) X Y S k167 hml hl.1 (c_By_at l D E T κ L f103 H.size b167 4000 k167 (by omega) z106 (by omega) (by omega) S.1) (ok_k X Y hA KS KR) rfl kl_H_By_at ks_By_at kx_By_at ki_By_at ini_By ⟨rfl, rfl⟩ hd_By_at ⟨Nat.le_of_ble_eq_true rfl, Nat.le_of_ble_eq_true rfl⟩ rfl (Nat.le_of_ble_eq_true rfl) d_H_readName_32 ⟨Nat.le_of_ble_eq_true rfl, Nat.le_of_ble_eq_true rfl⟩) X Y hA (fun z168 H locs Y p168 => ?_)
          obtain ⟨l168, u168⟩ := p168
          refine lv_goto (tgt := 40) X.1 X.2.1 d_H_readName_35 (by decide) ?_
          exact J113 z168 _ _ _ (by omega) (by omega) Y S (lv_sub hl [0, 1, 2, 3, 4] rfl)
  refine lv_istore (lv' := [(4, .int (iI 0)), (3, .int (iI 0)), (2, .int (iI 0)), (0, .ref h), (1, .int (iI a1))]) X.1 X.2.1 d_H_readName_12 hl (by decide) rfl (fun ls hl => ?_)
  exact J107 _ 0 0 0 f102 _ _ _ rfl (by omega) (by omega) (by omega) (by omega) (by omega) (by omega) Y S (lv_sub hl [3, 4, 2, 1, 0] rfl)
set_option maxHeartbeats 4000000 in
set_option maxRecDepth 100000 in
theorem c_H_passwordPlace (l : Launch) (D : va_G) (E : cE) (T : cT) (κ : tK) (L : List Nat) (f : pF) (sz : Nat) (h : Nat) (k0 : κ h = (10, 0)) (hw : tW E T κ L f) : Met l y_H_passwordPlace (k_H_passwordPlace :: lw_tg) (kRm 4 135 0 0) (va_Pc [.ref h] (kPre D E T L f sz)) (va_Qi (nPi E T [1, 13] κ L f (fun (z : Int) (g : pF) => (-1) ≤ z ∧ z ≤ 4001)) (cPost D E (pA L sz)) (pA L sz)) 0 0 (pA L sz) := by
  refine k_enter (own := R_H) (by decide) rfl (Nat.le_of_ble_eq_true rfl) (fun p e s m below meth c ls AV QQ H locs hQQ X Y hA hin hr hlk hml hl KS KR => ?_)
  have hl : lv_has ls 3 [(0, .ref h)] := hl
  have S : tS E T (tFr κ L [1, 13] []) κ L f κ L f := tS_rf hw
  refine lv_iconst (v := iI 0) X.1 X.2.1 d_H_passwordPlace_0 (by decide) ?_
  have J102 : ∀ (n104 : Nat) (z101 : Int) (H : Heap) (locs : List Loc) (ls : Array Slot), (4000 - z101).toNat = n104 → (0 ≤ z101) → (z101 ≤ 4000) → pH D cCl (pA L sz) s.heap L f H locs → tS E T (tFr κ L [1, 13] []) κ L f κ L f → lv_has ls 3 [(0, .ref h), (1, .int (iI z101))] → W p l e (kRm 4 135 0 0) s m AV below meth c H locs 0 0 QQ (F0 m 2 ls []) := by
    intro n104
    induction n104 using Nat.strongRecOn with
    | ind n104 ih103 =>
      intro z101 H locs ls hm105 l101 u101 Y S hl
      refine lv_iload_n X.1 X.2.1 d_H_passwordPlace_2 rfl (lv_at hl 1 rfl) ?_
      refine lv_aload_n X.1 X.2.1 d_H_passwordPlace_3 rfl (lv_at hl 0 rfl) ?_
      refine t_getr (ci := 0) X Y S k0 rfl i_H 1 (by decide) rfl (k1 := 13) (k2 := 4000) rfl rfl lk_H_21 (fun _ h9 => h9) d_H_passwordPlace_4 (fun b106 e106 k106 => ?_)
      refine t_gets (ci := 3) X Y S k106 rfl i_By 1 (by decide) rfl lk_H_81 (fun _ h9 => h9) d_H_passwordPlace_7 (fun z107 e107 l107 u107 => ?_)
      have J108 : ∀  (H : Heap) (locs : List Loc) (ls : Array Slot), pH D cCl (pA L sz) s.heap L f H locs → tS E T (tFr κ L [1, 13] []) κ L f κ L f → lv_has ls 3 [(0, .ref h), (1, .int (iI z101))] → W p l e (kRm 4 135 0 0) s m AV below meth c H locs 0 0 QQ (F0 m 32 ls []) := by
        intro  H locs ls  Y S hl
        refine lv_iload_n X.1 X.2.1 d_H_passwordPlace_32 rfl (lv_at hl 1 rfl) ?_
        refine lv_aload_n X.1 X.2.1 d_H_passwordPlace_33 rfl (lv_at hl 0 rfl) ?_
        refine t_get0 (ci := 0) X Y S k0 rfl i_H 1 (by decide) rfl lk_H_21 (fun _ h9 => h9) d_H_passwordPlace_34 e106 ?_
        refine t_get0 (ci := 3) X Y S k106 rfl i_By 1 (by decide) rfl lk_H_81 (fun _ h9 => h9) d_H_passwordPlace_37 e107 ?_
        have J113 : ∀ (f112 : pF) (H : Heap) (locs : List Loc) (ls : Array Slot), pH D cCl (pA L sz) s.heap L f112 H locs → tS E T (tFr κ L [1, 13] []) κ L f κ L f112 → lv_has ls 3 [(1, .int (iI z101))] → W p l e (kRm 4 135 0 0) s m AV below meth c H locs 0 0 QQ (F0 m 65 ls []) := by
          intro f112 H locs ls  Y S hl
          refine lv_iconst (v := iI 0) X.1 X.2.1 d_H_passwordPlace_65 (by decide) ?_
          refine lv_istore_n (lv' := [(2, .int (iI 0)), (1, .int (iI z101))]) X.1 X.2.1 d_H_passwordPlace_66 rfl hl (by decide) rfl (fun ls hl => ?_)
          refine lv_iload_n X.1 X.2.1 d_H_passwordPlace_67 rfl (lv_at hl 0 rfl) ?_
          refine z_if_eq (tgt := 77) X.1 X.2.1 d_H_passwordPlace_68 (by decide) ⟨by omega, by omega⟩ (fun h117 => ?_) (fun h117 => False.elim (by omega))
          · refine lv_iconst (v := iI (-1)) X.1 X.2.1 d_H_passwordPlace_77 (by decide) ?_
            exact c_reti hQQ X Y hr hlk ⟨rfl, S, (-1), rfl, ⟨by omega, by omega⟩⟩ d_H_passwordPlace_78
        refine z_icmp_ge (tgt := 65) X.1 X.2.1 d_H_passwordPlace_40 (by decide) ⟨by omega, by omega⟩ ⟨by omega, by omega⟩ (fun h118 => ?_) (fun h118 => ?_)
        · exact J113 f _ _ _  Y S (lv_sub hl [1] rfl)
        · refine lv_aload_n X.1 X.2.1 d_H_passwordPlace_43 rfl (lv_at hl 0 rfl) ?_
          refine lv_iload_n X.1 X.2.1 d_H_passwordPlace_44 rfl (lv_at hl 1 rfl) ?_
          refine t_ni (t_runV (As := [.int (iI z101)]) (rest := []) (n := 1) X Y S k0 hml hl.1 (c_H_readName l D E T κ L f H.size h k0 z101 (by omega) (by omega) S.1) (ok_k X Y hA KS KR) rfl kl_H_H_readName ks_H_readName kx_H_readName ki_H_readName ini_H ⟨rfl, rfl⟩ hd_H_readName ⟨Nat.le_of_ble_eq_true rfl, Nat.le_of_ble_eq_true rfl⟩ rfl (Nat.le_of_ble_eq_true rfl) d_H_passwordPlace_45 ⟨Nat.le_of_ble_eq_true rfl, Nat.le_of_ble_eq_true rfl⟩) X Y hA S (by decide) (fun z119 f119 H locs Y S s119 p119 => ?_)
          obtain ⟨l119, u119⟩ := p119
          refine z_if_eq (tgt := 65) X.1 X.2.1 d_H_passwordPlace_48 (by decide) ⟨by omega, by omega⟩ (fun h120 => ?_) (fun h120 => ?_)
          · exact J113 f119 _ _ _  Y S (lv_sub hl [1] rfl)
          · refine lv_aload_n X.1 X.2.1 d_H_passwordPlace_51 rfl (lv_at hl 0 rfl) ?_
            refine lv_iload_n X.1 X.2.1 d_H_passwordPlace_52 rfl (lv_at hl 1 rfl) ?_
            refine lv_iconst (v := iI 1) X.1 X.2.1 d_H_passwordPlace_53 (by decide) ?_
            refine z_iadd X.1 X.2.1 d_H_passwordPlace_54 ?_
            refine t_ui (t_runV (As := [.int (iI (z101 + 1))]) (rest := []) (n := 1) X Y S k0 hml hl.1 (c_H_isPassword l D E T κ L f119 H.size h k0 (z101 + 1) (by omega) (by omega) S.1) (ok_k X Y hA KS KR) rfl kl_H_H_isPassword ks_H_isPassword kx_H_isPassword ki_H_isPassword ini_H ⟨rfl, rfl⟩ hd_H_isPassword ⟨Nat.le_of_ble_eq_true rfl, Nat.le_of_ble_eq_true rfl⟩ rfl (Nat.le_of_ble_eq_true rfl) d_H_passwordPlace_55 ⟨Nat.le_of_ble_eq_true rfl, Nat.le_of_ble_eq_true rfl⟩) X Y hA (fun z121 H locs Y p121 => ?_)
            obtain ⟨l121, u121⟩ := p121
            refine z_if_eq (tgt := 65) X.1 X.2.1 d_H_passwordPlace_58 (by decide) ⟨by omega, by omega⟩ (fun h122 => ?_) (fun h122 => ?_)
            · exact J113 f119 _ _ _  Y S (lv_sub hl [1] rfl)
            · refine lv_iconst (v := iI 1) X.1 X.2.1 d_H_passwordPlace_61 (by decide) ?_
              refine lv_goto (tgt := 66) X.1 X.2.1 d_H_passwordPlace_62 (by decide) ?_
              refine lv_istore_n (lv' := [(2, .int (iI 1)), (0, .ref h), (1, .int (iI z101))]) X.1 X.2.1 d_H_passwordPlace_66 rfl hl (by decide) rfl (fun ls hl => ?_)
              refine lv_iload_n X.1 X.2.1 d_H_passwordPlace_67 rfl (lv_at hl 0 rfl) ?_
              refine z_if_eq (tgt := 77) X.1 X.2.1 d_H_passwordPlace_68 (by decide) ⟨by omega, by omega⟩ (fun h123 => False.elim (by omega)) (fun h123 => ?_)
              · refine lv_iload_n X.1 X.2.1 d_H_passwordPlace_71 rfl (lv_at hl 2 rfl) ?_
                refine lv_iconst (v := iI 1) X.1 X.2.1 d_H_passwordPlace_72 (by decide) ?_
                refine z_iadd X.1 X.2.1 d_H_passwordPlace_73 ?_
                refine lv_goto (tgt := 78) X.1 X.2.1 d_H_passwordPlace_74 (by decide) ?_
                exact c_reti hQQ X Y hr hlk ⟨rfl, S, z101 + 1, rfl, ⟨by omega, by omega⟩⟩ d_H_passwordPlace_78
      refine z_icmp_ge (tgt := 32) X.1 X.2.1 d_H_passwordPlace_10 (by decide) ⟨by omega, by omega⟩ ⟨by omega, by omega⟩ (fun h124 => ?_) (fun h124 => ?_)
      · exact J108  _ _ _  Y S (lv_sub hl [0, 1] rfl)
      · refine lv_aload_n X.1 X.2.1 d_H_passwordPlace_13 rfl (lv_at hl 0 rfl) ?_
        refine t_get0 (ci := 0) X Y S k0 rfl i_H 1 (by decide) rfl lk_H_21 (fun _ h9 => h9) d_H_passwordPlace_14 e106 ?_
        refine lv_iload_n X.1 X.2.1 d_H_passwordPlace_17 rfl (lv_at hl 1 rfl) ?_
        refine t_ui (t_runV (As := [.int (iI z101)]) (rest := []) (n := 1) X Y S k106 hml hl.1 (c_By_at l D E T κ L f H.size b106 4000 k106 (by omega) z101 (by omega) (by omega) S.1) (ok_k X Y hA KS KR) rfl kl_H_By_at ks_By_at kx_By_at ki_By_at ini_By ⟨rfl, rfl⟩ hd_By_at ⟨Nat.le_of_ble_eq_true rfl, Nat.le_of_ble_eq_true rfl⟩ rfl (Nat.le_of_ble_eq_true rfl) d_H_passwordPlace_18 ⟨Nat.le_of_ble_eq_true rfl, Nat.le_of_ble_eq_true rfl⟩) X Y hA (fun z125 H locs Y p125 => ?_)
        obtain ⟨l125, u125⟩ := p125
        refine lv_bipush (v := iI 58) X.1 X.2.1 d_H_passwordPlace_21 (by decide) ?_
        refine z_icmp_eq (tgt := 32) X.1 X.2.1 d_H_passwordPlace_23 (by decide) ⟨by omega, by omega⟩ ⟨by omega, by omega⟩ (fun h126 => ?_) (fun h126 => ?_)
        · exact J108  _ _ _  Y S (lv_sub hl [0, 1] rfl)
        · refine lv_iinc (v := iI (z101 + 1)) (lv' := [(1, .int (iI (z101 + 1))), (0, .ref h)]) X.1 X.2.1 d_H_passwordPlace_26 hl (k := 1) rfl ((iI_add _ _).trans (congrArg iI (by omega))) (by decide) rfl (fun ls hl => ?_)
          refine lv_goto (tgt := 2) X.1 X.2.1 d_H_passwordPlace_29 (by decide) ?_
          exact ih103 ((4000 - (z101 + 1)).toNat) (by omega) (z101 + 1) _ _ _ rfl (by omega) (by omega) Y S (lv_sub hl [1, 0] rfl)
  refine lv_istore_n (lv' := [(1, .int (iI 0)), (0, .ref h)]) X.1 X.2.1 d_H_passwordPlace_1 rfl hl (by decide) rfl (fun ls hl => ?_)
  exact J102 _ 0 _ _ _ rfl (by omega) (by omega) Y S (lv_sub hl [1, 0] rfl)
set_option maxHeartbeats 4000000 in
set_option maxRecDepth 100000 in
theorem c_H_putCentreName (l : Launch) (D : va_G) (E : cE) (T : cT) (κ : tK) (L : List Nat) (f : pF) (sz : Nat) (a1 n1 : Nat) (k1 : κ a1 = (13, n1)) (x1 : n1 ≤ 12288) (hw : tW E T κ L f) : Met l y_H_putCentreName (k_H_putCentreName :: lw_tg) (kRm 6 134 0 0) (va_Pc [.ref a1] (kPre D E T L f sz)) (va_Qv (nPv E T [1, 13] κ L f (fun (g : pF) => True)) (cPost D E (pA L sz)) (pA L sz)) 0 0 (pA L sz) := by
  refine k_enter (own := R_H) (by decide) rfl (Nat.le_of_ble_eq_true rfl) (fun p e s m below meth c ls AV QQ H locs hQQ X Y hA hin hr hlk hml hl KS KR => ?_)
  have hl : lv_has ls 1 [(0, .ref a1)] := hl
  have S : tS E T (tFr κ L [1, 13] []) κ L f κ L f := tS_rf hw
  refine lv_aload_n X.1 X.2.1 d_H_putCentreName_0 rfl (lv_at hl 0 rfl) ?_
  refine t_nv (t_runV (As := []) (rest := []) (n := 0) X Y S k1 hml hl.1 (c_By_clear l D E T κ L f H.size a1 n1 k1 (by omega) S.1) (ok_k X Y hA KS KR) rfl kl_H_By_clear ks_By_clear kx_By_clear ki_By_clear ini_By ⟨rfl, rfl⟩ hd_By_clear ⟨Nat.le_of_ble_eq_true rfl, Nat.le_of_ble_eq_true rfl⟩ rfl (Nat.le_of_ble_eq_true rfl) d_H_putCentreName_1 ⟨Nat.le_of_ble_eq_true rfl, Nat.le_of_ble_eq_true rfl⟩) X Y hA S (by decide) (fun f101 H locs Y S s101 p101 => ?_)
  refine lv_aload_n X.1 X.2.1 d_H_putCentreName_4 rfl (lv_at hl 0 rfl) ?_
  refine k_ldcSW (i := 0) X KR (by decide) ⟨by decide, by decide⟩ d_H_putCentreName_5 ?_
  refine t_nv (t_runV (As := [.ref ((T.2.1 0))]) (rest := []) (n := 1) X Y S k1 hml hl.1 (c_By_putText l D E T κ L f101 H.size a1 n1 k1 (by omega) 0 (show 0 < nY by decide) S.1) (ok_k X Y hA KS KR) rfl kl_H_By_putText ks_By_putText kx_By_putText ki_By_putText ini_By ⟨rfl, rfl⟩ hd_By_putText ⟨Nat.le_of_ble_eq_true rfl, Nat.le_of_ble_eq_true rfl⟩ rfl (Nat.le_of_ble_eq_true rfl) d_H_putCentreName_8 ⟨Nat.le_of_ble_eq_true rfl, Nat.le_of_ble_eq_true rfl⟩) X Y hA S (by decide) (fun f102 H locs Y S s102 p102 => ?_)
  refine lv_aload_n X.1 X.2.1 d_H_putCentreName_11 rfl (lv_at hl 0 rfl) ?_
  refine k_ldcSW (i := 1) X KR (by decide) ⟨by decide, by decide⟩ d_H_putCentreName_12 ?_
  refine t_nv (t_runV (As := [.ref ((T.2.1 1))]) (rest := []) (n := 1) X Y S k1 hml hl.1 (c_By_putText l D E T κ L f102 H.size a1 n1 k1 (by omega) 1 (show 1 < nY by decide) S.1) (ok_k X Y hA KS KR) rfl kl_H_By_putText ks_By_putText kx_By_putText ki_By_putText ini_By ⟨rfl, rfl⟩ hd_By_putText ⟨Nat.le_of_ble_eq_true rfl, Nat.le_of_ble_eq_true rfl⟩ rfl (Nat.le_of_ble_eq_true rfl) d_H_putCentreName_15 ⟨Nat.le_of_ble_eq_true rfl, Nat.le_of_ble_eq_true rfl⟩) X Y hA S (by decide) (fun f103 H locs Y S s103 p103 => ?_)
  exact c_retv hQQ X Y hr hlk ⟨rfl, S, trivial⟩ d_H_putCentreName_18
set_option maxHeartbeats 4000000 in
set_option maxRecDepth 100000 in
theorem c_H_readService (l : Launch) (D : va_G) (E : cE) (T : cT) (κ : tK) (L : List Nat) (f : pF) (sz : Nat) (h : Nat) (k0 : κ h = (10, 0)) (hw : tW E T κ L f) : Met l y_H_readService (k_H_readService :: lw_tg) (kRm 7 154 0 0) (va_Pc [.ref h] (kPre D E T L f sz)) (va_Qi (nPi E T [1, 13] κ L f (fun (z : Int) (g : pF) => 0 ≤ z ∧ z ≤ 1)) (cPost D E (pA L sz)) (pA L sz)) 0 0 (pA L sz) := by
  refine k_enter (own := R_H) (by decide) rfl (Nat.le_of_ble_eq_true rfl) (fun p e s m below meth c ls AV QQ H locs hQQ X Y hA hin hr hlk hml hl KS KR => ?_)
  have hl : lv_has ls 1 [(0, .ref h)] := hl
  have S : tS E T (tFr κ L [1, 13] []) κ L f κ L f := tS_rf hw
  refine lv_aload_n X.1 X.2.1 d_H_readService_0 rfl (lv_at hl 0 rfl) ?_
  refine t_getr (ci := 0) X Y S k0 rfl i_H 1 (by decide) rfl (k1 := 13) (k2 := 4000) rfl rfl lk_H_21 (fun _ h9 => h9) d_H_readService_1 (fun b101 e101 k101 => ?_)
  refine lv_iconst (v := iI 0) X.1 X.2.1 d_H_readService_4 (by decide) ?_
  refine lv_aload_n X.1 X.2.1 d_H_readService_5 rfl (lv_at hl 0 rfl) ?_
  refine t_get0 (ci := 0) X Y S k0 rfl i_H 1 (by decide) rfl lk_H_21 (fun _ h9 => h9) d_H_readService_6 e101 ?_
  refine t_gets (ci := 3) X Y S k101 rfl i_By 1 (by decide) rfl lk_H_81 (fun _ h9 => h9) d_H_readService_9 (fun z102 e102 l102 u102 => ?_)
  refine k_ldcSW (i := 28) X KR (by decide) ⟨by decide, by decide⟩ d_H_readService_12 ?_
  refine t_ui (t_runV (As := [.int (iI 0), .int (iI z102), .ref ((T.2.1 28))]) (rest := []) (n := 3) X Y S k101 hml hl.1 (c_By_isText l D E T κ L f H.size b101 4000 k101 (by omega) 0 (by omega) (by omega) z102 (by omega) (by omega) 28 (show 28 < nY by decide) S.1) (ok_k X Y hA KS KR) rfl kl_H_By_isText ks_By_isText kx_By_isText ki_By_isText ini_By ⟨rfl, rfl⟩ hd_By_isText ⟨Nat.le_of_ble_eq_true rfl, Nat.le_of_ble_eq_true rfl⟩ rfl (Nat.le_of_ble_eq_true rfl) d_H_readService_15 ⟨Nat.le_of_ble_eq_true rfl, Nat.le_of_ble_eq_true rfl⟩) X Y hA (fun z103 H locs Y p103 => ?_)
  obtain ⟨l103, u103⟩ := p103
  refine z_if_eq (tgt := 30) X.1 X.2.1 d_H_readService_18 (by decide) ⟨by omega, by omega⟩ (fun h104 => ?_) (fun h104 => ?_)
  · refine lv_aload_n X.1 X.2.1 d_H_readService_30 rfl (lv_at hl 0 rfl) ?_
    refine lv_aload_n X.1 X.2.1 d_H_readService_31 rfl (lv_at hl 0 rfl) ?_
    refine t_get0 (ci := 0) X Y S k0 rfl i_H 1 (by decide) rfl lk_H_21 (fun _ h9 => h9) d_H_readService_32 e101 ?_
    refine t_get0 (ci := 3) X Y S k101 rfl i_By 1 (by decide) rfl lk_H_81 (fun _ h9 => h9) d_H_readService_35 e102 ?_
    refine t_ni (t_runV (As := [.int (iI z102)]) (rest := []) (n := 1) X Y S k0 hml hl.1 (c_H_readName l D E T κ L f H.size h k0 z102 (by omega) (by omega) S.1) (ok_k X Y hA KS KR) rfl kl_H_H_readName ks_H_readName kx_H_readName ki_H_readName ini_H ⟨rfl, rfl⟩ hd_H_readName ⟨Nat.le_of_ble_eq_true rfl, Nat.le_of_ble_eq_true rfl⟩ rfl (Nat.le_of_ble_eq_true rfl) d_H_readService_38 ⟨Nat.le_of_ble_eq_true rfl, Nat.le_of_ble_eq_true rfl⟩) X Y hA S (by decide) (fun z105 f105 H locs Y S s105 p105 => ?_)
    obtain ⟨l105, u105⟩ := p105
    exact c_retz hQQ X Y hr hlk (iI_bool (by omega) (by omega)).1 ⟨rfl, S, z105, rfl, ⟨by omega, by omega⟩⟩ d_H_readService_41
  · refine lv_aload_n X.1 X.2.1 d_H_readService_21 rfl (lv_at hl 0 rfl) ?_
    refine t_getr (ci := 0) X Y S k0 rfl i_H 3 (by decide) rfl (k1 := 13) (k2 := 40) rfl rfl lk_H_28 (fun _ h9 => h9) d_H_readService_22 (fun b106 e106 k106 => ?_)
    refine t_nv (x_runS (As := [.ref b106]) (rest := []) (n := 1) X hml hl.1 (c_H_putCentreName l D E T κ L f H.size b106 40 k106 (by omega) S.1) (ok_k X Y hA KS KR) kl_H_H_putCentreName ks_H_putCentreName ki_H_putCentreName ini_H ⟨rfl, rfl⟩ hd_H_putCentreName.2 ⟨Nat.le_of_ble_eq_true rfl, Nat.le_of_ble_eq_true rfl⟩ rfl (Nat.le_of_ble_eq_true rfl) d_H_readService_25 ⟨Nat.le_of_ble_eq_true rfl, Nat.le_of_ble_eq_true rfl⟩) X Y hA S (by decide) (fun f107 H locs Y S s107 p107 => ?_)
    refine lv_iconst (v := iI 1) X.1 X.2.1 d_H_readService_28 (by decide) ?_
    exact c_retz hQQ X Y hr hlk (iI_bool (by omega) (by omega)).1 ⟨rfl, S, 1, rfl, ⟨by omega, by omega⟩⟩ d_H_readService_29
set_option maxHeartbeats 4000000 in
set_option maxRecDepth 100000 in
theorem c_H_putRefusal (l : Launch) (D : va_G) (E : cE) (T : cT) (κ : tK) (L : List Nat) (f : pF) (sz : Nat) (h : Nat) (k0 : κ h = (10, 0)) (a1 : Nat) (k1 : κ a1 = (17, 0)) (a2 : Int) (l_a2 : (-2147483648) ≤ a2) (u_a2 : a2 ≤ 2147483647) (hw : tW E T κ L f) : Met l y_H_putRefusal (k_H_putRefusal :: lw_tg) (kRm 7 156 0 0) (va_Pc [.ref h, .ref a1, .int (iI a2)] (kPre D E T L f sz)) (va_Qv (nPv E T [1, 13] κ L f (fun (g : pF) => True)) (cPost D E (pA L sz)) (pA L sz)) 0 0 (pA L sz) := by
  refine k_enter (own := R_H) (by decide) rfl (Nat.le_of_ble_eq_true rfl) (fun p e s m below meth c ls AV QQ H locs hQQ X Y hA hin hr hlk hml hl KS KR => ?_)
  have hl : lv_has ls 5 [(0, .ref h), (1, .ref a1), (2, .int (iI a2))] := hl
  have S : tS E T (tFr κ L [1, 13] []) κ L f κ L f := tS_rf hw
  refine lv_aload_n X.1 X.2.1 d_H_putRefusal_0 rfl (lv_at hl 0 rfl) ?_
  refine t_getr (ci := 0) X Y S k0 rfl i_H 2 (by decide) rfl (k1 := 13) (k2 := 12288) rfl rfl lk_H_25 (fun _ h9 => h9) d_H_putRefusal_1 (fun b101 e101 k101 => ?_)
  refine lv_bipush (v := iI 126) X.1 X.2.1 d_H_putRefusal_4 (by decide) ?_
  refine t_ni (t_runV (As := [.int (iI 126)]) (rest := []) (n := 1) X Y S k101 hml hl.1 (c_By_open l D E T κ L f H.size b101 12288 k101 (by omega) 126 (by omega) (by omega) S.1) (ok_k X Y hA KS KR) rfl kl_H_By_open ks_By_open kx_By_open ki_By_open ini_By ⟨rfl, rfl⟩ hd_By_open ⟨Nat.le_of_ble_eq_true rfl, Nat.le_of_ble_eq_true rfl⟩ rfl (Nat.le_of_ble_eq_true rfl) d_H_putRefusal_6 ⟨Nat.le_of_ble_eq_true rfl, Nat.le_of_ble_eq_true rfl⟩) X Y hA S (by decide) (fun z102 f102 H locs Y S s102 p102 => ?_)
  obtain ⟨l102, u102⟩ := p102
  refine lv_istore_n (lv' := [(3, .int (iI z102)), (0, .ref h), (1, .ref a1), (2, .int (iI a2))]) X.1 X.2.1 d_H_putRefusal_9 rfl hl (by decide) rfl (fun ls hl => ?_)
  refine lv_aload_n X.1 X.2.1 d_H_putRefusal_10 rfl (lv_at hl 1 rfl) ?_
  refine t_get0 (ci := 0) X Y S k0 rfl i_H 2 (by decide) rfl lk_H_25 (fun _ h9 => h9) d_H_putRefusal_11 ((gF_same (s102.2.2.2 _ ⟨(t_obj S.1 k0).1, nM_of k0 (by decide), by simp⟩).1 2).trans e101) ?_
  refine lv_bipush (v := iI 48) X.1 X.2.1 d_H_putRefusal_14 (by decide) ?_
  refine t_ni (t_runV (As := [.int (iI 48)]) (rest := []) (n := 1) X Y S k101 hml hl.1 (c_By_open l D E T κ L f102 H.size b101 12288 k101 (by omega) 48 (by omega) (by omega) S.1) (ok_k X Y hA KS KR) rfl kl_H_By_open ks_By_open kx_By_open ki_By_open ini_By ⟨rfl, rfl⟩ hd_By_open ⟨Nat.le_of_ble_eq_true rfl, Nat.le_of_ble_eq_true rfl⟩ rfl (Nat.le_of_ble_eq_true rfl) d_H_putRefusal_16 ⟨Nat.le_of_ble_eq_true rfl, Nat.le_of_ble_eq_true rfl⟩) X Y hA S (by decide) (fun z103 f103 H locs Y S s103 p103 => ?_)
  obtain ⟨l103, u103⟩ := p103
  refine lv_istore (lv' := [(4, .int (iI z103)), (3, .int (iI z102)), (0, .ref h), (1, .ref a1), (2, .int (iI a2))]) X.1 X.2.1 d_H_putRefusal_19 hl (by decide) rfl (fun ls hl => ?_)
  refine lv_aload_n X.1 X.2.1 d_H_putRefusal_21 rfl (lv_at hl 2 rfl) ?_
  refine t_get0 (ci := 0) X Y S k0 rfl i_H 2 (by decide) rfl lk_H_25 (fun _ h9 => h9) d_H_putRefusal_22 ((gF_same (s103.2.2.2 _ ⟨(t_obj S.1 k0).1, nM_of k0 (by decide), by simp⟩).1 2).trans ((gF_same (s102.2.2.2 _ ⟨(t_obj S.1 k0).1, nM_of k0 (by decide), by simp⟩).1 2).trans e101)) ?_
  refine lv_aload_n X.1 X.2.1 d_H_putRefusal_25 rfl (lv_at hl 2 rfl) ?_
  refine t_getr (ci := 0) X Y S k0 rfl i_H 0 (by decide) rfl (k1 := 21) (k2 := 0) rfl rfl lk_H_12 (fun _ h9 => h9) d_H_putRefusal_26 (fun b104 e104 k104 => ?_)
  refine t_geti (ci := 11) X Y S k104 rfl i_Va 0 (by decide) rfl lk_H_110 (fun _ h9 => h9) d_H_putRefusal_29 (fun z105 e105 l105 u105 => ?_)
  refine lv_iload_n X.1 X.2.1 d_H_putRefusal_32 rfl (lv_at hl 4 rfl) ?_
  refine t_nv (t_runV (As := [.int (iI z105), .int (iI a2)]) (rest := []) (n := 2) X Y S k101 hml hl.1 (c_By_putErrorHead l D E T κ L f103 H.size b101 12288 k101 (by omega) z105 (by omega) (by omega) a2 (by omega) (by omega) S.1) (ok_k X Y hA KS KR) rfl kl_H_By_putErrorHead ks_By_putErrorHead kx_By_putErrorHead ki_By_putErrorHead ini_By ⟨rfl, rfl⟩ hd_By_putErrorHead ⟨Nat.le_of_ble_eq_true rfl, Nat.le_of_ble_eq_true rfl⟩ rfl (Nat.le_of_ble_eq_true rfl) d_H_putRefusal_33 ⟨Nat.le_of_ble_eq_true rfl, Nat.le_of_ble_eq_true rfl⟩) X Y hA S (by decide) (fun f106 H locs Y S s106 p106 => ?_)
  refine lv_aload_n X.1 X.2.1 d_H_putRefusal_36 rfl (lv_at hl 2 rfl) ?_
  refine t_get0 (ci := 0) X Y S k0 rfl i_H 2 (by decide) rfl lk_H_25 (fun _ h9 => h9) d_H_putRefusal_37 ((gF_same (s106.2.2.2 _ ⟨(t_obj S.1 k0).1, nM_of k0 (by decide), by simp⟩).1 2).trans ((gF_same (s103.2.2.2 _ ⟨(t_obj S.1 k0).1, nM_of k0 (by decide), by simp⟩).1 2).trans ((gF_same (s102.2.2.2 _ ⟨(t_obj S.1 k0).1, nM_of k0 (by decide), by simp⟩).1 2).trans e101))) ?_
  refine lv_bipush (v := iI 9) X.1 X.2.1 d_H_putRefusal_40 (by decide) ?_
  refine t_nv (t_runV (As := [.int (iI 9)]) (rest := []) (n := 1) X Y S k101 hml hl.1 (c_By_putRealm l D E T κ L f106 H.size b101 12288 k101 (by omega) 9 (by omega) (by omega) S.1) (ok_k X Y hA KS KR) rfl kl_H_By_putRealm ks_By_putRealm kx_By_putRealm ki_By_putRealm ini_By ⟨rfl, rfl⟩ hd_By_putRealm ⟨Nat.le_of_ble_eq_true rfl, Nat.le_of_ble_eq_true rfl⟩ rfl (Nat.le_of_ble_eq_true rfl) d_H_putRefusal_42 ⟨Nat.le_of_ble_eq_true rfl, Nat.le_of_ble_eq_true rfl⟩) X Y hA S (by decide) (fun f107 H locs Y S s107 p107 => ?_)
  refine lv_aload_n X.1 X.2.1 d_H_putRefusal_45 rfl (lv_at hl 2 rfl) ?_
  refine t_get0 (ci := 0) X Y S k0 rfl i_H 2 (by decide) rfl lk_H_25 (fun _ h9 => h9) d_H_putRefusal_46 ((gF_same (s107.2.2.2 _ ⟨(t_obj S.1 k0).1, nM_of k0 (by decide), by simp⟩).1 2).trans ((gF_same (s106.2.2.2 _ ⟨(t_obj S.1 k0).1, nM_of k0 (by decide), by simp⟩).1 2).trans ((gF_same (s103.2.2.2 _ ⟨(t_obj S.1 k0).1, nM_of k0 (by decide), by simp⟩).1 2).trans ((gF_same (s102.2.2.2 _ ⟨(t_obj S.1 k0).1, nM_of k0 (by decide), by simp⟩).1 2).trans e101)))) ?_
  refine lv_bipush (v := iI 10) X.1 X.2.1 d_H_putRefusal_49 (by decide) ?_
  refine lv_iconst (v := iI 2) X.1 X.2.1 d_H_putRefusal_51 (by decide) ?_
  refine lv_aload_n X.1 X.2.1 d_H_putRefusal_52 rfl (lv_at hl 3 rfl) ?_
  refine t_getr (ci := 7) X Y S k1 rfl i_Pr 0 (by decide) rfl (k1 := 13) (k2 := 40) rfl rfl lk_H_340 (fun _ h9 => h9) d_H_putRefusal_53 (fun b108 e108 k108 => ?_)
  refine t_nv (t_runV (As := [.int (iI 10), .int (iI 2), .ref b108]) (rest := []) (n := 3) X Y S k101 hml hl.1 (c_By_putName l D E T κ L f107 H.size b101 12288 k101 (by omega) 10 (by omega) (by omega) 2 (by omega) (by omega) b108 40 k108 (by omega) S.1) (ok_k X Y hA KS KR) rfl kl_H_By_putName ks_By_putName kx_By_putName ki_By_putName ini_By ⟨rfl, rfl⟩ hd_By_putName ⟨Nat.le_of_ble_eq_true rfl, Nat.le_of_ble_eq_true rfl⟩ rfl (Nat.le_of_ble_eq_true rfl) d_H_putRefusal_56 ⟨Nat.le_of_ble_eq_true rfl, Nat.le_of_ble_eq_true rfl⟩) X Y hA S (by decide) (fun f109 H locs Y S s109 p109 => ?_)
  refine lv_aload_n X.1 X.2.1 d_H_putRefusal_59 rfl (lv_at hl 2 rfl) ?_
  refine t_get0 (ci := 0) X Y S k0 rfl i_H 2 (by decide) rfl lk_H_25 (fun _ h9 => h9) d_H_putRefusal_60 ((gF_same (s109.2.2.2 _ ⟨(t_obj S.1 k0).1, nM_of k0 (by decide), by simp⟩).1 2).trans ((gF_same (s107.2.2.2 _ ⟨(t_obj S.1 k0).1, nM_of k0 (by decide), by simp⟩).1 2).trans ((gF_same (s106.2.2.2 _ ⟨(t_obj S.1 k0).1, nM_of k0 (by decide), by simp⟩).1 2).trans ((gF_same (s103.2.2.2 _ ⟨(t_obj S.1 k0).1, nM_of k0 (by decide), by simp⟩).1 2).trans ((gF_same (s102.2.2.2 _ ⟨(t_obj S.1 k0).1, nM_of k0 (by decide), by simp⟩).1 2).trans e101))))) ?_
  refine lv_iload X.1 X.2.1 d_H_putRefusal_63 (lv_at hl 0 rfl) ?_
  refine t_nv (t_runV (As := [.int (iI z103)]) (rest := []) (n := 1) X Y S k101 hml hl.1 (c_By_close l D E T κ L f109 H.size b101 12288 k101 (by omega) z103 (by omega) (by omega) S.1) (ok_k X Y hA KS KR) rfl kl_H_By_close ks_By_close kx_By_close ki_By_close ini_By ⟨rfl, rfl⟩ hd_By_close ⟨Nat.le_of_ble_eq_true rfl, Nat.le_of_ble_eq_true rfl⟩ rfl (Nat.le_of_ble_eq_true rfl) d_H_putRefusal_65 ⟨Nat.le_of_ble_eq_true rfl, Nat.le_of_ble_eq_true rfl⟩) X Y hA S (by decide) (fun f110 H locs Y S s110 p110 => ?_)
  refine lv_aload_n X.1 X.2.1 d_H_putRefusal_68 rfl (lv_at hl 2 rfl) ?_
  refine t_get0 (ci := 0) X Y S k0 rfl i_H 2 (by decide) rfl lk_H_25 (fun _ h9 => h9) d_H_putRefusal_69 ((gF_same (s110.2.2.2 _ ⟨(t_obj S.1 k0).1, nM_of k0 (by decide), by simp⟩).1 2).trans ((gF_same (s109.2.2.2 _ ⟨(t_obj S.1 k0).1, nM_of k0 (by decide), by simp⟩).1 2).trans ((gF_same (s107.2.2.2 _ ⟨(t_obj S.1 k0).1, nM_of k0 (by decide), by simp⟩).1 2).trans ((gF_same (s106.2.2.2 _ ⟨(t_obj S.1 k0).1, nM_of k0 (by decide), by simp⟩).1 2).trans ((gF_same (s103.2.2.2 _ ⟨(t_obj S.1 k0).1, nM_of k0 (by decide), by simp⟩).1 2).trans ((gF_same (s102.2.2.2 _ ⟨(t_obj S.1 k0).1, nM_of k0 (by decide), by simp⟩).1 2).trans e101)))))) ?_
  refine lv_iload_n X.1 X.2.1 d_H_putRefusal_72 rfl (lv_at hl 1 rfl) ?_
  refine t_nv (t_runV (As := [.int (iI z102)]) (rest := []) (n := 1) X Y S k101 hml hl.1 (c_By_close l D E T κ L f110 H.size b101 12288 k101 (by omega) z102 (by omega) (by omega) S.1) (ok_k X Y hA KS KR) rfl kl_H_By_close ks_By_close kx_By_close ki_By_close ini_By ⟨rfl, rfl⟩ hd_By_close ⟨Nat.le_of_ble_eq_true rfl, Nat.le_of_ble_eq_true rfl⟩ rfl (Nat.le_of_ble_eq_true rfl) d_H_putRefusal_73 ⟨Nat.le_of_ble_eq_true rfl, Nat.le_of_ble_eq_true rfl⟩) X Y hA S (by decide) (fun f111 H locs Y S s111 p111 => ?_)
  exact c_retv hQQ X Y hr hlk ⟨rfl, S, trivial⟩ d_H_putRefusal_76
set_option maxHeartbeats 4000000 in
set_option maxRecDepth 100000 in
theorem c_H_feed (l : Launch) (D : va_G) (E : cE) (T : cT) (κ : tK) (L : List Nat) (f : pF) (sz : Nat) (h : Nat) (k0 : κ h = (10, 0)) (a1 : Int) (l_a1 : (-2147483648) ≤ a1) (u_a1 : a1 ≤ 2147483647) (a2 : Int) (l_a2 : (-2147483648) ≤ a2) (u_a2 : a2 ≤ 2147483647) (a3 : Int) (l_a3 : (-2147483648) ≤ a3) (u_a3 : a3 ≤ 2147483647) (a4 : Int) (l_a4 : (-2147483648) ≤ a4) (u_a4 : a4 ≤ 2147483647) (a5 : Int) (l_a5 : (-2147483648) ≤ a5) (u_a5 : a5 ≤ 2147483647) (hw : tW E T κ L f) : Met l y_H_feed (k_H_feed :: lw_tg) (kRm 3 102 0 0) (va_Pc [.ref h, .int (iI a1), .int (iI a2), .int (iI a3), .int (iI a4), .int (iI a5)] (kPre D E T L f sz)) (va_Qi (nPi E T [1, 13] κ L f (fun (z : Int) (g : pF) => 0 ≤ z ∧ z ≤ 1)) (cPost D E (pA L sz)) (pA L sz)) 0 0 (pA L sz) := by
  refine k_enter (own := R_H) (by decide) rfl (Nat.le_of_ble_eq_true rfl) (fun p e s m below meth c ls AV QQ H locs hQQ X Y hA hin hr hlk hml hl KS KR => ?_)
  have hl : lv_has ls 6 [(0, .ref h), (1, .int (iI a1)), (2, .int (iI a2)), (3, .int (iI a3)), (4, .int (iI a4)), (5, .int (iI a5))] := hl
  have S : tS E T (tFr κ L [1, 13] []) κ L f κ L f := tS_rf hw
  refine lv_aload_n X.1 X.2.1 d_H_feed_0 rfl (lv_at hl 0 rfl) ?_
  refine t_getr (ci := 0) X Y S k0 rfl i_H 1 (by decide) rfl (k1 := 13) (k2 := 4000) rfl rfl lk_H_21 (fun _ h9 => h9) d_H_feed_1 (fun b101 e101 k101 => ?_)
  refine t_gets (ci := 3) X Y S k101 rfl i_By 1 (by decide) rfl lk_H_81 (fun _ h9 => h9) d_H_feed_4 (fun z102 e102 l102 u102 => ?_)
  refine lv_bipush (v := iI 20) X.1 X.2.1 d_H_feed_7 (by decide) ?_
  refine z_iadd X.1 X.2.1 d_H_feed_9 ?_
  refine lv_sipush (v := iI 4000) X.1 X.2.1 d_H_feed_10 (by decide) ?_
  refine z_icmp_le (tgt := 18) X.1 X.2.1 d_H_feed_13 (by decide) ⟨by omega, by omega⟩ ⟨by omega, by omega⟩ (fun h103 => ?_) (fun h103 => ?_)
  · refine lv_aload_n X.1 X.2.1 d_H_feed_18 rfl (lv_at hl 0 rfl) ?_
    refine t_get0 (ci := 0) X Y S k0 rfl i_H 1 (by decide) rfl lk_H_21 (fun _ h9 => h9) d_H_feed_19 e101 ?_
    refine lv_iload_n X.1 X.2.1 d_H_feed_22 rfl (lv_at hl 1 rfl) ?_
    refine t_nv (t_runV (As := [.int (iI a1)]) (rest := []) (n := 1) X Y S k101 hml hl.1 (c_By_putWord l D E T κ L f H.size b101 4000 k101 (by omega) a1 (by omega) (by omega) S.1) (ok_k X Y hA KS KR) rfl kl_H_By_putWord ks_By_putWord kx_By_putWord ki_By_putWord ini_By ⟨rfl, rfl⟩ hd_By_putWord ⟨Nat.le_of_ble_eq_true rfl, Nat.le_of_ble_eq_true rfl⟩ rfl (Nat.le_of_ble_eq_true rfl) d_H_feed_23 ⟨Nat.le_of_ble_eq_true rfl, Nat.le_of_ble_eq_true rfl⟩) X Y hA S (by decide) (fun f104 H locs Y S s104 p104 => ?_)
    refine lv_aload_n X.1 X.2.1 d_H_feed_26 rfl (lv_at hl 0 rfl) ?_
    refine t_get0 (ci := 0) X Y S k0 rfl i_H 1 (by decide) rfl lk_H_21 (fun _ h9 => h9) d_H_feed_27 ((gF_same (s104.2.2.2 _ ⟨(t_obj S.1 k0).1, nM_of k0 (by decide), by simp⟩).1 1).trans e101) ?_
    refine lv_iload_n X.1 X.2.1 d_H_feed_30 rfl (lv_at hl 2 rfl) ?_
    refine t_nv (t_runV (As := [.int (iI a2)]) (rest := []) (n := 1) X Y S k101 hml hl.1 (c_By_putWord l D E T κ L f104 H.size b101 4000 k101 (by omega) a2 (by omega) (by omega) S.1) (ok_k X Y hA KS KR) rfl kl_H_By_putWord ks_By_putWord kx_By_putWord ki_By_putWord ini_By ⟨rfl, rfl⟩ hd_By_putWord ⟨Nat.le_of_ble_eq_true rfl, Nat.le_of_ble_eq_true rfl⟩ rfl (Nat.le_of_ble_eq_true rfl) d_H_feed_31 ⟨Nat.le_of_ble_eq_true rfl, Nat.le_of_ble_eq_true rfl⟩) X Y hA S (by decide) (fun f105 H locs Y S s105 p105 => ?_)
    refine lv_aload_n X.1 X.2.1 d_H_feed_34 rfl (lv_at hl 0 rfl) ?_
    refine t_get0 (ci := 0) X Y S k0 rfl i_H 1 (by decide) rfl lk_H_21 (fun _ h9 => h9) d_H_feed_35 ((gF_same (s105.2.2.2 _ ⟨(t_obj S.1 k0).1, nM_of k0 (by decide), by simp⟩).1 1).trans ((gF_same (s104.2.2.2 _ ⟨(t_obj S.1 k0).1, nM_of k0 (by decide), by simp⟩).1 1).trans e101)) ?_
    refine lv_iload_n X.1 X.2.1 d_H_feed_38 rfl (lv_at hl 3 rfl) ?_
    refine t_nv (t_runV (As := [.int (iI a3)]) (rest := []) (n := 1) X Y S k101 hml hl.1 (c_By_putWord l D E T κ L f105 H.size b101 4000 k101 (by omega) a3 (by omega) (by omega) S.1) (ok_k X Y hA KS KR) rfl kl_H_By_putWord ks_By_putWord kx_By_putWord ki_By_putWord ini_By ⟨rfl, rfl⟩ hd_By_putWord ⟨Nat.le_of_ble_eq_true rfl, Nat.le_of_ble_eq_true rfl⟩ rfl (Nat.le_of_ble_eq_true rfl) d_H_feed_39 ⟨Nat.le_of_ble_eq_true rfl, Nat.le_of_ble_eq_true rfl⟩) X Y hA S (by decide) (fun f106 H locs Y S s106 p106 => ?_)
    refine lv_aload_n X.1 X.2.1 d_H_feed_42 rfl (lv_at hl 0 rfl) ?_
    refine t_get0 (ci := 0) X Y S k0 rfl i_H 1 (by decide) rfl lk_H_21 (fun _ h9 => h9) d_H_feed_43 ((gF_same (s106.2.2.2 _ ⟨(t_obj S.1 k0).1, nM_of k0 (by decide), by simp⟩).1 1).trans ((gF_same (s105.2.2.2 _ ⟨(t_obj S.1 k0).1, nM_of k0 (by decide), by simp⟩).1 1).trans ((gF_same (s104.2.2.2 _ ⟨(t_obj S.1 k0).1, nM_of k0 (by decide), by simp⟩).1 1).trans e101))) ?_
    refine lv_iload X.1 X.2.1 d_H_feed_46 (lv_at hl 4 rfl) ?_
    refine t_nv (t_runV (As := [.int (iI a4)]) (rest := []) (n := 1) X Y S k101 hml hl.1 (c_By_putWord l D E T κ L f106 H.size b101 4000 k101 (by omega) a4 (by omega) (by omega) S.1) (ok_k X Y hA KS KR) rfl kl_H_By_putWord ks_By_putWord kx_By_putWord ki_By_putWord ini_By ⟨rfl, rfl⟩ hd_By_putWord ⟨Nat.le_of_ble_eq_true rfl, Nat.le_of_ble_eq_true rfl⟩ rfl (Nat.le_of_ble_eq_true rfl) d_H_feed_48 ⟨Nat.le_of_ble_eq_true rfl, Nat.le_of_ble_eq_true rfl⟩) X Y hA S (by decide) (fun f107 H locs Y S s107 p107 => ?_)
    refine lv_aload_n X.1 X.2.1 d_H_feed_51 rfl (lv_at hl 0 rfl) ?_
    refine t_get0 (ci := 0) X Y S k0 rfl i_H 1 (by decide) rfl lk_H_21 (fun _ h9 => h9) d_H_feed_52 ((gF_same (s107.2.2.2 _ ⟨(t_obj S.1 k0).1, nM_of k0 (by decide), by simp⟩).1 1).trans ((gF_same (s106.2.2.2 _ ⟨(t_obj S.1 k0).1, nM_of k0 (by decide), by simp⟩).1 1).trans ((gF_same (s105.2.2.2 _ ⟨(t_obj S.1 k0).1, nM_of k0 (by decide), by simp⟩).1 1).trans ((gF_same (s104.2.2.2 _ ⟨(t_obj S.1 k0).1, nM_of k0 (by decide), by simp⟩).1 1).trans e101)))) ?_
    refine lv_iload X.1 X.2.1 d_H_feed_55 (lv_at hl 5 rfl) ?_
    refine t_nv (t_runV (As := [.int (iI a5)]) (rest := []) (n := 1) X Y S k101 hml hl.1 (c_By_putWord l D E T κ L f107 H.size b101 4000 k101 (by omega) a5 (by omega) (by omega) S.1) (ok_k X Y hA KS KR) rfl kl_H_By_putWord ks_By_putWord kx_By_putWord ki_By_putWord ini_By ⟨rfl, rfl⟩ hd_By_putWord ⟨Nat.le_of_ble_eq_true rfl, Nat.le_of_ble_eq_true rfl⟩ rfl (Nat.le_of_ble_eq_true rfl) d_H_feed_57 ⟨Nat.le_of_ble_eq_true rfl, Nat.le_of_ble_eq_true rfl⟩) X Y hA S (by decide) (fun f108 H locs Y S s108 p108 => ?_)
    refine lv_iconst (v := iI 1) X.1 X.2.1 d_H_feed_60 (by decide) ?_
    exact c_retz hQQ X Y hr hlk (iI_bool (by omega) (by omega)).1 ⟨rfl, S, 1, rfl, ⟨by omega, by omega⟩⟩ d_H_feed_61
  · refine lv_iconst (v := iI 0) X.1 X.2.1 d_H_feed_16 (by decide) ?_
    exact c_retz hQQ X Y hr hlk (iI_bool (by omega) (by omega)).1 ⟨rfl, S, 0, rfl, ⟨by omega, by omega⟩⟩ d_H_feed_17
set_option maxHeartbeats 4000000 in
set_option maxRecDepth 100000 in
theorem c_H_end (l : Launch) (D : va_G) (E : cE) (T : cT) (κ : tK) (L : List Nat) (f : pF) (sz : Nat) (h : Nat) (k0 : κ h = (10, 0)) (a1 : Int) (l_a1 : (-2147483648) ≤ a1) (u_a1 : a1 ≤ 2147483647) (hw : tW E T κ L f) : Met l y_H_end (k_H_end :: lw_tg) (kRm 1 60 0 0) (va_Pc [.ref h, .int (iI a1)] (kPre D E T L f sz)) (va_Qi (nPi E T [13] κ L f (fun (z : Int) (g : pF) => 0 ≤ z ∧ z ≤ 1)) (cPost D E (pA L sz)) (pA L sz)) 0 0 (pA L sz) := by
  refine k_enter (own := R_H) (by decide) rfl (Nat.le_of_ble_eq_true rfl) (fun p e s m below meth c ls AV QQ H locs hQQ X Y hA hin hr hlk hml hl KS KR => ?_)
  have hl : lv_has ls 2 [(0, .ref h), (1, .int (iI a1))] := hl
  have S : tS E T (tFr κ L [13] []) κ L f κ L f := tS_rf hw
  refine lv_iload_n X.1 X.2.1 d_H_end_0 rfl (lv_at hl 1 rfl) ?_
  refine z_if_lt (tgt := 15) X.1 X.2.1 d_H_end_1 (by decide) ⟨by omega, by omega⟩ (fun h101 => ?_) (fun h101 => ?_)
  · refine lv_iconst (v := iI 0) X.1 X.2.1 d_H_end_15 (by decide) ?_
    exact c_retz hQQ X Y hr hlk (iI_bool (by omega) (by omega)).1 ⟨rfl, S, 0, rfl, ⟨by omega, by omega⟩⟩ d_H_end_16
  · refine lv_iload_n X.1 X.2.1 d_H_end_4 rfl (lv_at hl 1 rfl) ?_
    refine lv_aload_n X.1 X.2.1 d_H_end_5 rfl (lv_at hl 0 rfl) ?_
    refine t_getr (ci := 0) X Y S k0 rfl i_H 1 (by decide) rfl (k1 := 13) (k2 := 4000) rfl rfl lk_H_21 (fun _ h9 => h9) d_H_end_6 (fun b102 e102 k102 => ?_)
    refine t_gets (ci := 3) X Y S k102 rfl i_By 1 (by decide) rfl lk_H_81 (fun _ h9 => h9) d_H_end_9 (fun z103 e103 l103 u103 => ?_)
    refine z_icmp_le (tgt := 17) X.1 X.2.1 d_H_end_12 (by decide) ⟨by omega, by omega⟩ ⟨by omega, by omega⟩ (fun h104 => ?_) (fun h104 => ?_)
    · refine lv_aload_n X.1 X.2.1 d_H_end_17 rfl (lv_at hl 0 rfl) ?_
      refine t_get0 (ci := 0) X Y S k0 rfl i_H 1 (by decide) rfl lk_H_21 (fun _ h9 => h9) d_H_end_18 e102 ?_
      refine lv_iload_n X.1 X.2.1 d_H_end_21 rfl (lv_at hl 1 rfl) ?_
      refine t_put (ci := 3) X Y S k102 rfl i_By t_By t_By_ok n_By 1 (by decide) rfl lk_H_81 (fun _ h9 => h9) rfl (t_By_ok 1 (by decide)) rfl rfl ⟨_, rfl, by omega, by omega⟩ (nF_of S k102 (by decide)) d_H_end_22 (fun f105 H locs Y S w105 => ?_)
      refine lv_iconst (v := iI 1) X.1 X.2.1 d_H_end_25 (by decide) ?_
      exact c_retz hQQ X Y hr hlk (iI_bool (by omega) (by omega)).1 ⟨rfl, S, 1, rfl, ⟨by omega, by omega⟩⟩ d_H_end_26
    · refine lv_iconst (v := iI 0) X.1 X.2.1 d_H_end_15 (by decide) ?_
      exact c_retz hQQ X Y hr hlk (iI_bool (by omega) (by omega)).1 ⟨rfl, S, 0, rfl, ⟨by omega, by omega⟩⟩ d_H_end_16
set_option maxHeartbeats 4000000 in
set_option maxRecDepth 100000 in
theorem c_H_carry (l : Launch) (D : va_G) (E : cE) (T : cT) (κ : tK) (L : List Nat) (f : pF) (sz : Nat) (h : Nat) (k0 : κ h = (10, 0)) (a1 : Int) (l_a1 : (-2147483648) ≤ a1) (u_a1 : a1 ≤ 2147483647) (a2 : Int) (l_a2 : (-2147483648) ≤ a2) (u_a2 : a2 ≤ 2147483647) (hw : tW E T κ L f) : Met l y_H_carry (k_H_carry :: lw_tg) (kRm 2 83 0 0) (va_Pc [.ref h, .int (iI a1), .int (iI a2)] (kPre D E T L f sz)) (va_Qi (nPi E T [1, 13] κ L f (fun (z : Int) (g : pF) => (-2147483648) ≤ z ∧ z ≤ 2147483647)) (cPost D E (pA L sz)) (pA L sz)) 0 0 (pA L sz) := by
  refine k_enter (own := R_H) (by decide) rfl (Nat.le_of_ble_eq_true rfl) (fun p e s m below meth c ls AV QQ H locs hQQ X Y hA hin hr hlk hml hl KS KR => ?_)
  have hl : lv_has ls 4 [(0, .ref h), (1, .int (iI a1)), (2, .int (iI a2))] := hl
  have S : tS E T (tFr κ L [1, 13] []) κ L f κ L f := tS_rf hw
  refine lv_aload_n X.1 X.2.1 d_H_carry_0 rfl (lv_at hl 0 rfl) ?_
  refine t_getr (ci := 0) X Y S k0 rfl i_H 1 (by decide) rfl (k1 := 13) (k2 := 4000) rfl rfl lk_H_21 (fun _ h9 => h9) d_H_carry_1 (fun b101 e101 k101 => ?_)
  refine t_nv (t_runV (As := []) (rest := []) (n := 0) X Y S k101 hml hl.1 (c_By_clear l D E T κ L f H.size b101 4000 k101 (by omega) S.1) (ok_k X Y hA KS KR) rfl kl_H_By_clear ks_By_clear kx_By_clear ki_By_clear ini_By ⟨rfl, rfl⟩ hd_By_clear ⟨Nat.le_of_ble_eq_true rfl, Nat.le_of_ble_eq_true rfl⟩ rfl (Nat.le_of_ble_eq_true rfl) d_H_carry_4 ⟨Nat.le_of_ble_eq_true rfl, Nat.le_of_ble_eq_true rfl⟩) X Y hA S (by decide) (fun f102 H locs Y S s102 p102 => ?_)
  refine lv_aload_n X.1 X.2.1 d_H_carry_7 rfl (lv_at hl 0 rfl) ?_
  refine t_getr (ci := 0) X Y S k0 rfl i_H 2 (by decide) rfl (k1 := 13) (k2 := 12288) rfl rfl lk_H_25 (fun _ h9 => h9) d_H_carry_8 (fun b103 e103 k103 => ?_)
  refine t_gets (ci := 3) X Y S k103 rfl i_By 1 (by decide) rfl lk_H_81 (fun _ h9 => h9) d_H_carry_11 (fun z104 e104 l104 u104 => ?_)
  refine lv_sipush (v := iI 4000) X.1 X.2.1 d_H_carry_14 (by decide) ?_
  refine z_min X.1 X.2.1 (hml.trans hl.1.symm) X.2.2.2.1 (X.2.2.1 _ kl_H_mmin) (X.2.2.1 _ ks_mmin) (X.2.2.1 _ ini_Math) (X.2.2.1 _ ki_mmin) (Nat.le_of_ble_eq_true rfl) (Nat.le_of_ble_eq_true rfl) (Nat.le_of_ble_eq_true rfl) (Nat.le_of_ble_eq_true rfl) ⟨by omega, by omega⟩ ⟨by omega, by omega⟩ d_H_carry_17 (fun z105 l105 u105 x105 => ?_)
  refine lv_istore_n (lv' := [(3, .int (iI z105)), (0, .ref h), (1, .int (iI a1)), (2, .int (iI a2))]) X.1 X.2.1 d_H_carry_20 rfl hl (by decide) rfl (fun ls hl => ?_)
  refine lv_aload_n X.1 X.2.1 d_H_carry_21 rfl (lv_at hl 1 rfl) ?_
  refine t_get0 (ci := 0) X Y S k0 rfl i_H 1 (by decide) rfl lk_H_21 (fun _ h9 => h9) d_H_carry_22 ((gF_same (s102.2.2.2 _ ⟨(t_obj S.1 k0).1, nM_of k0 (by decide), by simp⟩).1 1).trans e101) ?_
  refine lv_aload_n X.1 X.2.1 d_H_carry_25 rfl (lv_at hl 1 rfl) ?_
  refine t_get0 (ci := 0) X Y S k0 rfl i_H 2 (by decide) rfl lk_H_25 (fun _ h9 => h9) d_H_carry_26 e103 ?_
  refine t_getrow (ci := 3) X Y S k103 rfl i_By 0 (by decide) rfl lk_H_97 (fun _ h9 => h9) d_H_carry_29 (fun b106 e106 k106 => ?_)
  refine lv_iconst (v := iI 0) X.1 X.2.1 d_H_carry_32 (by decide) ?_
  refine lv_iload_n X.1 X.2.1 d_H_carry_33 rfl (lv_at hl 0 rfl) ?_
  refine t_nv (t_runV (As := [.ref b106, .int (iI 0), .int (iI z105)]) (rest := []) (n := 3) X Y S k101 hml hl.1 (c_By_append l D E T κ L f102 H.size b101 4000 k101 (by omega) b106 12288 (Or.inl k106) (by omega) 0 (by omega) (by omega) z105 (by omega) (by omega) S.1) (ok_k X Y hA KS KR) rfl kl_H_By_append ks_By_append kx_By_append ki_By_append ini_By ⟨rfl, rfl⟩ hd_By_append ⟨Nat.le_of_ble_eq_true rfl, Nat.le_of_ble_eq_true rfl⟩ rfl (Nat.le_of_ble_eq_true rfl) d_H_carry_34 ⟨Nat.le_of_ble_eq_true rfl, Nat.le_of_ble_eq_true rfl⟩) X Y hA S (by decide) (fun f107 H locs Y S s107 p107 => ?_)
  refine lv_iload_n X.1 X.2.1 d_H_carry_37 rfl (lv_at hl 2 rfl) ?_
  refine z_if_lt (tgt := 67) X.1 X.2.1 d_H_carry_38 (by decide) ⟨by omega, by omega⟩ (fun h108 => ?_) (fun h108 => ?_)
  · refine lv_iload_n X.1 X.2.1 d_H_carry_67 rfl (lv_at hl 0 rfl) ?_
    exact c_reti hQQ X Y hr hlk ⟨rfl, S, z105, rfl, ⟨by omega, by omega⟩⟩ d_H_carry_68
  · refine lv_iload_n X.1 X.2.1 d_H_carry_41 rfl (lv_at hl 2 rfl) ?_
    refine lv_iload_n X.1 X.2.1 d_H_carry_42 rfl (lv_at hl 0 rfl) ?_
    refine z_icmp_ge (tgt := 67) X.1 X.2.1 d_H_carry_43 (by decide) ⟨by omega, by omega⟩ ⟨by omega, by omega⟩ (fun h109 => ?_) (fun h109 => ?_)
    · refine lv_iload_n X.1 X.2.1 d_H_carry_67 rfl (lv_at hl 0 rfl) ?_
      exact c_reti hQQ X Y hr hlk ⟨rfl, S, z105, rfl, ⟨by omega, by omega⟩⟩ d_H_carry_68
    · refine lv_aload_n X.1 X.2.1 d_H_carry_46 rfl (lv_at hl 1 rfl) ?_
      refine t_get0 (ci := 0) X Y S k0 rfl i_H 1 (by decide) rfl lk_H_21 (fun _ h9 => h9) d_H_carry_47 ((gF_same (s107.2.2.2 _ ⟨(t_obj S.1 k0).1, nM_of k0 (by decide), by simp⟩).1 1).trans ((gF_same (s102.2.2.2 _ ⟨(t_obj S.1 k0).1, nM_of k0 (by decide), by simp⟩).1 1).trans e101)) ?_
      refine t_getrow (ci := 3) X Y S k101 rfl i_By 0 (by decide) rfl lk_H_97 (fun _ h9 => h9) d_H_carry_50 (fun b110 e110 k110 => ?_)
      refine lv_iload_n X.1 X.2.1 d_H_carry_53 rfl (lv_at hl 2 rfl) ?_
      refine lv_aload_n X.1 X.2.1 d_H_carry_54 rfl (lv_at hl 1 rfl) ?_
      refine t_get0 (ci := 0) X Y S k0 rfl i_H 1 (by decide) rfl lk_H_21 (fun _ h9 => h9) d_H_carry_55 ((gF_same (s107.2.2.2 _ ⟨(t_obj S.1 k0).1, nM_of k0 (by decide), by simp⟩).1 1).trans ((gF_same (s102.2.2.2 _ ⟨(t_obj S.1 k0).1, nM_of k0 (by decide), by simp⟩).1 1).trans e101)) ?_
      refine t_get0 (ci := 3) X Y S k101 rfl i_By 0 (by decide) rfl lk_H_97 (fun _ h9 => h9) d_H_carry_58 e110 ?_
      refine lv_iload_n X.1 X.2.1 d_H_carry_61 rfl (lv_at hl 2 rfl) ?_
      refine t_bald X Y S (Or.inl k110) (by omega) (by omega) (by omega) d_H_carry_62 (fun z111 l111 u111 => ?_)
      refine lv_iload_n X.1 X.2.1 d_H_carry_63 rfl (lv_at hl 3 rfl) ?_
      refine lv_ixor X.1 X.2.1 d_H_carry_64 ?_
      refine t_u (fun z112 l112 u112 => ?_)
      refine lv_i2b X.1 X.2.1 d_H_carry_65 rfl ?_
      refine t_u (fun z113 l113 u113 => ?_)
      refine t_bast X Y S k110 (by omega) (by omega) (by omega) (nF_of S k110 (by decide)) d_H_carry_66 (fun f114 H locs Y S w114 => ?_)
      refine lv_iload_n X.1 X.2.1 d_H_carry_67 rfl (lv_at hl 0 rfl) ?_
      exact c_reti hQQ X Y hr hlk ⟨rfl, S, z105, rfl, ⟨by omega, by omega⟩⟩ d_H_carry_68
set_option maxHeartbeats 4000000 in
set_option maxRecDepth 100000 in
theorem c_H_out (l : Launch) (D : va_G) (E : cE) (T : cT) (κ : tK) (L : List Nat) (f : pF) (sz : Nat) (h : Nat) (k0 : κ h = (10, 0)) (a1 : Int) (l_a1 : (-2147483648) ≤ a1) (u_a1 : a1 ≤ 2147483647) (hw : tW E T κ L f) : Met l y_H_out (k_H_out :: lw_tg) (kRm 2 81 0 0) (va_Pc [.ref h, .int (iI a1)] (kPre D E T L f sz)) (va_Qi (uPi L f (fun (z : Int) => (-2147483648) ≤ z ∧ z ≤ 2147483647)) (cPost D E (pA L sz)) (pA L sz)) 0 0 (pA L sz) := by
  refine k_enter (own := R_H) (by decide) rfl (Nat.le_of_ble_eq_true rfl) (fun p e s m below meth c ls AV QQ H locs hQQ X Y hA hin hr hlk hml hl KS KR => ?_)
  have hl : lv_has ls 2 [(0, .ref h), (1, .int (iI a1))] := hl
  have S : tS E T (tFr κ L [] []) κ L f κ L f := tS_rf hw
  refine lv_iload_n X.1 X.2.1 d_H_out_0 rfl (lv_at hl 1 rfl) ?_
  refine lv_iconst (v := iI (-1)) X.1 X.2.1 d_H_out_1 (by decide) ?_
  refine z_icmp_ne (tgt := 15) X.1 X.2.1 d_H_out_2 (by decide) ⟨by omega, by omega⟩ ⟨by omega, by omega⟩ (fun h101 => ?_) (fun h101 => ?_)
  · refine lv_aload_n X.1 X.2.1 d_H_out_15 rfl (lv_at hl 0 rfl) ?_
    refine t_getr (ci := 0) X Y S k0 rfl i_H 2 (by decide) rfl (k1 := 13) (k2 := 12288) rfl rfl lk_H_25 (fun _ h9 => h9) d_H_out_16 (fun b102 e102 k102 => ?_)
    refine lv_iload_n X.1 X.2.1 d_H_out_19 rfl (lv_at hl 1 rfl) ?_
    refine t_ui (t_runV (As := [.int (iI a1)]) (rest := []) (n := 1) X Y S k102 hml hl.1 (c_By_at l D E T κ L f H.size b102 12288 k102 (by omega) a1 (by omega) (by omega) S.1) (ok_k X Y hA KS KR) rfl kl_H_By_at ks_By_at kx_By_at ki_By_at ini_By ⟨rfl, rfl⟩ hd_By_at ⟨Nat.le_of_ble_eq_true rfl, Nat.le_of_ble_eq_true rfl⟩ rfl (Nat.le_of_ble_eq_true rfl) d_H_out_20 ⟨Nat.le_of_ble_eq_true rfl, Nat.le_of_ble_eq_true rfl⟩) X Y hA (fun z103 H locs Y p103 => ?_)
    obtain ⟨l103, u103⟩ := p103
    exact c_reti hQQ X Y hr hlk ⟨rfl, rfl, z103, rfl, ⟨by omega, by omega⟩⟩ d_H_out_23
  · refine lv_aload_n X.1 X.2.1 d_H_out_5 rfl (lv_at hl 0 rfl) ?_
    refine t_getr (ci := 0) X Y S k0 rfl i_H 2 (by decide) rfl (k1 := 13) (k2 := 12288) rfl rfl lk_H_25 (fun _ h9 => h9) d_H_out_6 (fun b104 e104 k104 => ?_)
    refine t_gets (ci := 3) X Y S k104 rfl i_By 1 (by decide) rfl lk_H_81 (fun _ h9 => h9) d_H_out_9 (fun z105 e105 l105 u105 => ?_)
    refine lv_goto (tgt := 23) X.1 X.2.1 d_H_out_12 (by decide) ?_
    exact c_reti hQQ X Y hr hlk ⟨rfl, rfl, z105, rfl, ⟨by omega, by omega⟩⟩ d_H_out_23
set_option maxHeartbeats 4000000 in
set_option maxRecDepth 100000 in
theorem c_H_clock (l : Launch) (D : va_G) (E : cE) (T : cT) (κ : tK) (L : List Nat) (f : pF) (sz : Nat) (h : Nat) (k0 : κ h = (10, 0)) (a1 : Int) (l_a1 : (-2147483648) ≤ a1) (u_a1 : a1 ≤ 2147483647) (hw : tW E T κ L f) : Met l y_H_clock (k_H_clock :: lw_tg) (kRm 1 60 0 0) (va_Pc [.ref h, .int (iI a1)] (kPre D E T L f sz)) (va_Qi (nPi E T [21] κ L f (fun (z : Int) (g : pF) => 0 ≤ z ∧ z ≤ 1)) (cPost D E (pA L sz)) (pA L sz)) 0 0 (pA L sz) := by
  refine k_enter (own := R_H) (by decide) rfl (Nat.le_of_ble_eq_true rfl) (fun p e s m below meth c ls AV QQ H locs hQQ X Y hA hin hr hlk hml hl KS KR => ?_)
  have hl : lv_has ls 2 [(0, .ref h), (1, .int (iI a1))] := hl
  have S : tS E T (tFr κ L [21] []) κ L f κ L f := tS_rf hw
  refine lv_iload_n X.1 X.2.1 d_H_clock_0 rfl (lv_at hl 1 rfl) ?_
  refine z_if_lt (tgt := 10) X.1 X.2.1 d_H_clock_1 (by decide) ⟨by omega, by omega⟩ (fun h101 => ?_) (fun h101 => ?_)
  · refine lv_iconst (v := iI 0) X.1 X.2.1 d_H_clock_10 (by decide) ?_
    exact c_retz hQQ X Y hr hlk (iI_bool (by omega) (by omega)).1 ⟨rfl, S, 0, rfl, ⟨by omega, by omega⟩⟩ d_H_clock_11
  · refine lv_iload_n X.1 X.2.1 d_H_clock_4 rfl (lv_at hl 1 rfl) ?_
    refine lv_ldc (v := (2000000000)) X.1 X.2.1 X.2.2.2.1 (X.2.2.1 _ cn_H_109) d_H_clock_5 ?_
    refine t_eq (y := iI 2000000000) (by decide) ?_
    refine z_icmp_le (tgt := 12) X.1 X.2.1 d_H_clock_7 (by decide) ⟨by omega, by omega⟩ ⟨by omega, by omega⟩ (fun h102 => ?_) (fun h102 => ?_)
    · refine lv_aload_n X.1 X.2.1 d_H_clock_12 rfl (lv_at hl 0 rfl) ?_
      refine t_getr (ci := 0) X Y S k0 rfl i_H 0 (by decide) rfl (k1 := 21) (k2 := 0) rfl rfl lk_H_12 (fun _ h9 => h9) d_H_clock_13 (fun b103 e103 k103 => ?_)
      refine lv_iload_n X.1 X.2.1 d_H_clock_16 rfl (lv_at hl 1 rfl) ?_
      refine t_put (ci := 11) X Y S k103 rfl i_Va t_Va t_Va_ok n_Va 0 (by decide) rfl lk_H_110 (fun _ h9 => h9) rfl (t_Va_ok 0 (by decide)) rfl rfl ⟨_, rfl, (show ((-2147483648) : Int) ≤ a1 by omega), (show a1 ≤ (2147483647 : Int) by omega)⟩ (nF_of S k103 (by decide)) d_H_clock_17 (fun f104 H locs Y S w104 => ?_)
      refine lv_iconst (v := iI 1) X.1 X.2.1 d_H_clock_20 (by decide) ?_
      exact c_retz hQQ X Y hr hlk (iI_bool (by omega) (by omega)).1 ⟨rfl, S, 1, rfl, ⟨by omega, by omega⟩⟩ d_H_clock_21
    · refine lv_iconst (v := iI 0) X.1 X.2.1 d_H_clock_10 (by decide) ?_
      exact c_retz hQQ X Y hr hlk (iI_bool (by omega) (by omega)).1 ⟨rfl, S, 0, rfl, ⟨by omega, by omega⟩⟩ d_H_clock_11
set_option maxHeartbeats 4000000 in
set_option maxRecDepth 100000 in
theorem c_H_seed (l : Launch) (D : va_G) (E : cE) (T : cT) (κ : tK) (L : List Nat) (f : pF) (sz : Nat) (h : Nat) (k0 : κ h = (10, 0)) (hw : tW E T κ L f) : Met l y_H_seed (k_H_seed :: lw_tg) (kRm 2 81 0 0) (va_Pc [.ref h] (kPre D E T L f sz)) (va_Qi (nPi E T [1, 13, 21] κ L f (fun (z : Int) (g : pF) => 0 ≤ z ∧ z ≤ 1)) (cPost D E (pA L sz)) (pA L sz)) 0 0 (pA L sz) := by
  refine k_enter (own := R_H) (by decide) rfl (Nat.le_of_ble_eq_true rfl) (fun p e s m below meth c ls AV QQ H locs hQQ X Y hA hin hr hlk hml hl KS KR => ?_)
  have hl : lv_has ls 1 [(0, .ref h)] := hl
  have S : tS E T (tFr κ L [1, 13, 21] []) κ L f κ L f := tS_rf hw
  refine lv_aload_n X.1 X.2.1 d_H_seed_0 rfl (lv_at hl 0 rfl) ?_
  refine t_getr (ci := 0) X Y S k0 rfl i_H 1 (by decide) rfl (k1 := 13) (k2 := 4000) rfl rfl lk_H_21 (fun _ h9 => h9) d_H_seed_1 (fun b101 e101 k101 => ?_)
  refine t_gets (ci := 3) X Y S k101 rfl i_By 1 (by decide) rfl lk_H_81 (fun _ h9 => h9) d_H_seed_4 (fun z102 e102 l102 u102 => ?_)
  refine lv_bipush (v := iI 64) X.1 X.2.1 d_H_seed_7 (by decide) ?_
  refine z_icmp_le (tgt := 14) X.1 X.2.1 d_H_seed_9 (by decide) ⟨by omega, by omega⟩ ⟨by omega, by omega⟩ (fun h103 => ?_) (fun h103 => ?_)
  · refine lv_aload_n X.1 X.2.1 d_H_seed_14 rfl (lv_at hl 0 rfl) ?_
    refine t_getr (ci := 0) X Y S k0 rfl i_H 0 (by decide) rfl (k1 := 21) (k2 := 0) rfl rfl lk_H_12 (fun _ h9 => h9) d_H_seed_15 (fun b104 e104 k104 => ?_)
    refine lv_aload_n X.1 X.2.1 d_H_seed_18 rfl (lv_at hl 0 rfl) ?_
    refine t_get0 (ci := 0) X Y S k0 rfl i_H 1 (by decide) rfl lk_H_21 (fun _ h9 => h9) d_H_seed_19 e101 ?_
    refine t_nv (t_runV (As := [.ref b101]) (rest := []) (n := 1) X Y S k104 hml hl.1 (c_Va_sow l D E T κ L f H.size b104 k104 b101 4000 k101 (by omega) S.1) (ok_k X Y hA KS KR) rfl kl_H_Va_sow ks_Va_sow kx_Va_sow ki_Va_sow ini_Va ⟨rfl, rfl⟩ hd_Va_sow ⟨Nat.le_of_ble_eq_true rfl, Nat.le_of_ble_eq_true rfl⟩ rfl (Nat.le_of_ble_eq_true rfl) d_H_seed_22 ⟨Nat.le_of_ble_eq_true rfl, Nat.le_of_ble_eq_true rfl⟩) X Y hA S (by decide) (fun f105 H locs Y S s105 p105 => ?_)
    refine lv_aload_n X.1 X.2.1 d_H_seed_25 rfl (lv_at hl 0 rfl) ?_
    refine t_get0 (ci := 0) X Y S k0 rfl i_H 1 (by decide) rfl lk_H_21 (fun _ h9 => h9) d_H_seed_26 ((gF_same (s105.2.2.2 _ ⟨(t_obj S.1 k0).1, nM_of k0 (by decide), by simp⟩).1 1).trans e101) ?_
    refine t_nv (t_runV (As := []) (rest := []) (n := 0) X Y S k101 hml hl.1 (c_By_clear l D E T κ L f105 H.size b101 4000 k101 (by omega) S.1) (ok_k X Y hA KS KR) rfl kl_H_By_clear ks_By_clear kx_By_clear ki_By_clear ini_By ⟨rfl, rfl⟩ hd_By_clear ⟨Nat.le_of_ble_eq_true rfl, Nat.le_of_ble_eq_true rfl⟩ rfl (Nat.le_of_ble_eq_true rfl) d_H_seed_29 ⟨Nat.le_of_ble_eq_true rfl, Nat.le_of_ble_eq_true rfl⟩) X Y hA S (by decide) (fun f106 H locs Y S s106 p106 => ?_)
    refine lv_iconst (v := iI 1) X.1 X.2.1 d_H_seed_32 (by decide) ?_
    exact c_retz hQQ X Y hr hlk (iI_bool (by omega) (by omega)).1 ⟨rfl, S, 1, rfl, ⟨by omega, by omega⟩⟩ d_H_seed_33
  · refine lv_iconst (v := iI 0) X.1 X.2.1 d_H_seed_12 (by decide) ?_
    exact c_retz hQQ X Y hr hlk (iI_bool (by omega) (by omega)).1 ⟨rfl, S, 0, rfl, ⟨by omega, by omega⟩⟩ d_H_seed_13
set_option maxHeartbeats 4000000 in
set_option maxRecDepth 100000 in
theorem c_H_principal (l : Launch) (D : va_G) (E : cE) (T : cT) (κ : tK) (L : List Nat) (f : pF) (sz : Nat) (h : Nat) (k0 : κ h = (10, 0)) (a1 : Int) (l_a1 : (-2147483648) ≤ a1) (u_a1 : a1 ≤ 2147483647) (hw : tW E T κ L f) : Met l y_H_principal (k_H_principal :: lw_tg) (kRm 8 205 2 64) (va_Pc [.ref h, .int (iI a1)] (kPre D E T L f sz)) (va_Qi (aPi E T [1, 2, 3, 4, 11, 13, 16, 17] [] κ L f (fun (z : Int) (k : tK) (g : pF) => (-2147483648) ≤ z ∧ z ≤ 2147483647)) (cPost D E (pA L sz)) (pA L sz)) 2 64 (pA L sz) := by
  refine k_enter (own := R_H) (by decide) rfl (Nat.le_of_ble_eq_true rfl) (fun p e s m below meth c ls AV QQ H locs hQQ X Y hA hin hr hlk hml hl KS KR => ?_)
  have hl : lv_has ls 5 [(0, .ref h), (1, .int (iI a1))] := hl
  have S : tS E T (tFr κ L [1, 2, 3, 4, 11, 13, 16, 17] []) κ L f κ L f := tS_rf hw
  have hF0 : ∀ b, tFr κ L [1, 2, 3, 4, 11, 13, 16, 17] [] b → b ∈ L := fun b h9 => h9.1
  refine lv_iconst (v := iI 0) X.1 X.2.1 d_H_principal_0 (by decide) ?_
  have J102 : ∀ (n104 : Nat) (z101 : Int) (H : Heap) (locs : List Loc) (ls : Array Slot), (12 - z101).toNat = n104 → (0 ≤ z101) → (z101 ≤ 12) → pH D cCl (pA L sz) s.heap L f H locs → tS E T (tFr κ L [1, 2, 3, 4, 11, 13, 16, 17] []) κ L f κ L f → lv_has ls 5 [(0, .ref h), (1, .int (iI a1)), (2, .int (iI z101))] → W p l e (kRm 8 205 2 64) s m AV below meth c H locs 0 0 QQ (F0 m 2 ls []) := by
    intro n104
    induction n104 using Nat.strongRecOn with
    | ind n104 ih103 =>
      intro z101 H locs ls hm105 l101 u101 Y S hl
      refine lv_iload_n X.1 X.2.1 d_H_principal_2 rfl (lv_at hl 2 rfl) ?_
      refine lv_bipush (v := iI 12) X.1 X.2.1 d_H_principal_3 (by decide) ?_
      have J106 : ∀  (H : Heap) (locs : List Loc) (ls : Array Slot), pH D cCl (pA L sz) s.heap L f H locs → tS E T (tFr κ L [1, 2, 3, 4, 11, 13, 16, 17] []) κ L f κ L f → lv_has ls 5 [(0, .ref h), (1, .int (iI a1)), (2, .int (iI z101))] → W p l e (kRm 8 205 2 64) s m AV below meth c H locs 0 0 QQ (F0 m 26 ls []) := by
        intro  H locs ls  Y S hl
        refine lv_aload_n X.1 X.2.1 d_H_principal_26 rfl (lv_at hl 0 rfl) ?_
        refine t_ni (t_runV (As := []) (rest := []) (n := 0) X Y S k0 hml hl.1 (c_H_passwordPlace l D E T κ L f H.size h k0 S.1) (ok_k X Y hA KS KR) rfl kl_H_H_passwordPlace ks_H_passwordPlace kx_H_passwordPlace ki_H_passwordPlace ini_H ⟨rfl, rfl⟩ hd_H_passwordPlace ⟨Nat.le_of_ble_eq_true rfl, Nat.le_of_ble_eq_true rfl⟩ rfl (Nat.le_of_ble_eq_true rfl) d_H_principal_27 ⟨Nat.le_of_ble_eq_true rfl, Nat.le_of_ble_eq_true rfl⟩) X Y hA S (by decide) (fun z110 f110 H locs Y S s110 p110 => ?_)
        obtain ⟨l110, u110⟩ := p110
        refine lv_istore_n (lv' := [(3, .int (iI z110)), (0, .ref h), (1, .int (iI a1)), (2, .int (iI z101))]) X.1 X.2.1 d_H_principal_30 rfl hl (by decide) rfl (fun ls hl => ?_)
        refine lv_iload_n X.1 X.2.1 d_H_principal_31 rfl (lv_at hl 0 rfl) ?_
        have J111 : ∀  (H : Heap) (locs : List Loc) (ls : Array Slot), pH D cCl (pA L sz) s.heap L f110 H locs → tS E T (tFr κ L [1, 2, 3, 4, 11, 13, 16, 17] []) κ L f κ L f110 → lv_has ls 5 [(0, .ref h), (1, .int (iI a1)), (2, .int (iI z101)), (3, .int (iI z110))] → W p l e (kRm 8 205 2 64) s m AV below meth c H locs 0 0 QQ (F0 m 66 ls []) := by
          intro  H locs ls  Y S hl
          refine lv_iconst (v := iI 0) X.1 X.2.1 d_H_principal_66 (by decide) ?_
          refine lv_istore (lv' := [(4, .int (iI 0)), (0, .ref h), (1, .int (iI a1)), (2, .int (iI z101)), (3, .int (iI z110))]) X.1 X.2.1 d_H_principal_67 hl (by decide) rfl (fun ls hl => ?_)
          refine lv_iload X.1 X.2.1 d_H_principal_69 (lv_at hl 0 rfl) ?_
          have J115 : ∀  (H : Heap) (locs : List Loc) (ls : Array Slot), pH D cCl (pA L sz) s.heap L f110 H locs → tS E T (tFr κ L [1, 2, 3, 4, 11, 13, 16, 17] []) κ L f κ L f110 → lv_has ls 5 [(0, .ref h), (2, .int (iI z101)), (4, .int (iI 0))] → W p l e (kRm 8 205 2 64) s m AV below meth c H locs 0 0 QQ (F0 m 106 ls []) := by
            intro  H locs ls  Y S hl
            refine lv_aload_n X.1 X.2.1 d_H_principal_106 rfl (lv_at hl 0 rfl) ?_
            refine t_getr (ci := 0) X Y S k0 rfl i_H 1 (by decide) rfl (k1 := 13) (k2 := 4000) rfl rfl lk_H_21 (fun _ h9 => h9) d_H_principal_107 (fun b119 e119 k119 => ?_)
            refine t_nv (t_runV (As := []) (rest := []) (n := 0) X Y S k119 hml hl.1 (c_By_clear l D E T κ L f110 H.size b119 4000 k119 (by omega) S.1) (ok_k X Y hA KS KR) rfl kl_H_By_clear ks_By_clear kx_By_clear ki_By_clear ini_By ⟨rfl, rfl⟩ hd_By_clear ⟨Nat.le_of_ble_eq_true rfl, Nat.le_of_ble_eq_true rfl⟩ rfl (Nat.le_of_ble_eq_true rfl) d_H_principal_110 ⟨Nat.le_of_ble_eq_true rfl, Nat.le_of_ble_eq_true rfl⟩) X Y hA S (by decide) (fun f120 H locs Y S s120 p120 => ?_)
            refine lv_iload X.1 X.2.1 d_H_principal_113 (lv_at hl 2 rfl) ?_
            refine z_if_eq (tgt := 122) X.1 X.2.1 d_H_principal_115 (by decide) ⟨by omega, by omega⟩ (fun h121 => ?_) (fun h121 => False.elim (by omega))
            · refine lv_iconst (v := iI (-1)) X.1 X.2.1 d_H_principal_122 (by decide) ?_
              refine W.widen (k := 2) (n := 64) (Nat.le_of_ble_eq_true rfl) (Nat.le_of_ble_eq_true rfl) ?_
              exact c_reti hQQ X Y hr hlk ⟨κ, S, (-1), rfl, ⟨by omega, by omega⟩⟩ d_H_principal_123
          refine z_if_eq (tgt := 106) X.1 X.2.1 d_H_principal_71 (by decide) ⟨by omega, by omega⟩ (fun h122 => ?_) (fun h122 => False.elim (by omega))
          · exact J115  _ _ _  Y S (lv_sub hl [1, 3, 0] rfl)
        refine z_if_lt (tgt := 66) X.1 X.2.1 d_H_principal_32 (by decide) ⟨by omega, by omega⟩ (fun h123 => ?_) (fun h123 => ?_)
        · exact J111  _ _ _  Y S (lv_sub hl [1, 2, 3, 0] rfl)
        · refine lv_iload_n X.1 X.2.1 d_H_principal_35 rfl (lv_at hl 2 rfl) ?_
          refine t_ui (x_runS (As := [.int (iI a1)]) (rest := []) (n := 1) X hml hl.1 (c_H_isRounds l D E T κ L f110 H.size a1 (by omega) (by omega) S.1) (ok_k X Y hA KS KR) kl_H_H_isRounds ks_H_isRounds ki_H_isRounds ini_H ⟨rfl, rfl⟩ hd_H_isRounds.2 ⟨Nat.le_of_ble_eq_true rfl, Nat.le_of_ble_eq_true rfl⟩ rfl (Nat.le_of_ble_eq_true rfl) d_H_principal_36 ⟨Nat.le_of_ble_eq_true rfl, Nat.le_of_ble_eq_true rfl⟩) X Y hA (fun z124 H locs Y p124 => ?_)
          obtain ⟨l124, u124⟩ := p124
          refine z_if_eq (tgt := 66) X.1 X.2.1 d_H_principal_39 (by decide) ⟨by omega, by omega⟩ (fun h125 => ?_) (fun h125 => ?_)
          · exact J111  _ _ _  Y S (lv_sub hl [1, 2, 3, 0] rfl)
          · refine lv_iload_n X.1 X.2.1 d_H_principal_42 rfl (lv_at hl 3 rfl) ?_
            refine lv_bipush (v := iI 12) X.1 X.2.1 d_H_principal_43 (by decide) ?_
            refine z_icmp_ge (tgt := 66) X.1 X.2.1 d_H_principal_45 (by decide) ⟨by omega, by omega⟩ ⟨by omega, by omega⟩ (fun h126 => ?_) (fun h126 => ?_)
            · exact J111  _ _ _  Y S (lv_sub hl [1, 2, 3, 0] rfl)
            · refine lv_aload_n X.1 X.2.1 d_H_principal_48 rfl (lv_at hl 1 rfl) ?_
              refine t_getr (ci := 0) X Y S k0 rfl i_H 4 (by decide) rfl (k1 := 5) (k2 := 12) rfl rfl lk_H_42 (fun _ h9 => h9) d_H_principal_49 (fun b127 e127 k127 => ?_)
              refine lv_aload_n X.1 X.2.1 d_H_principal_52 rfl (lv_at hl 1 rfl) ?_
              refine t_getr (ci := 0) X Y S k0 rfl i_H 3 (by decide) rfl (k1 := 13) (k2 := 40) rfl rfl lk_H_28 (fun _ h9 => h9) d_H_principal_53 (fun b128 e128 k128 => ?_)
              refine t_ui (x_runS (As := [.ref b127, .ref b128]) (rest := []) (n := 2) X hml hl.1 (c_Pr_findParts l D E T κ L f110 H.size b127 k127 b128 40 k128 (by omega) S.1) (ok_k X Y hA KS KR) kl_H_Pr_findParts ks_Pr_findParts ki_Pr_findParts ini_Pr ⟨rfl, rfl⟩ hd_Pr_findParts.2 ⟨Nat.le_of_ble_eq_true rfl, Nat.le_of_ble_eq_true rfl⟩ rfl (Nat.le_of_ble_eq_true rfl) d_H_principal_56 ⟨Nat.le_of_ble_eq_true rfl, Nat.le_of_ble_eq_true rfl⟩) X Y hA (fun z129 H locs Y p129 => ?_)
              obtain ⟨l129, u129⟩ := p129
              refine z_if_ge (tgt := 66) X.1 X.2.1 d_H_principal_59 (by decide) ⟨by omega, by omega⟩ (fun h130 => ?_) (fun h130 => ?_)
              · exact J111  _ _ _  Y S (lv_sub hl [1, 2, 3, 0] rfl)
              · refine lv_iconst (v := iI 1) X.1 X.2.1 d_H_principal_62 (by decide) ?_
                refine lv_goto (tgt := 67) X.1 X.2.1 d_H_principal_63 (by decide) ?_
                refine lv_istore (lv' := [(4, .int (iI 1)), (3, .int (iI z110)), (0, .ref h), (1, .int (iI a1)), (2, .int (iI z101))]) X.1 X.2.1 d_H_principal_67 hl (by decide) rfl (fun ls hl => ?_)
                refine lv_iload X.1 X.2.1 d_H_principal_69 (lv_at hl 0 rfl) ?_
                have J135 : ∀ (κ132 : tK) (L133 : List Nat) (f131 : pF) (H : Heap) (locs : List Loc) (ls : Array Slot), (κ132 h = (10, 0)) → pH D cCl (pA L sz) s.heap L133 f131 H locs → tS E T (tFr κ L [1, 2, 3, 4, 11, 13, 16, 17] []) κ L f κ132 L133 f131 → lv_has ls 5 [(0, .ref h), (2, .int (iI z101)), (4, .int (iI 1))] → W p l e (kRm 8 205 2 64) s m AV below meth c H locs 2 64 QQ (F0 m 106 ls []) := by
                  intro κ132 L133 f131 H locs ls k134 Y S hl
                  refine lv_aload_n X.1 X.2.1 d_H_principal_106 rfl (lv_at hl 0 rfl) ?_
                  refine t_getr (ci := 0) X Y S k134 rfl i_H 1 (by decide) rfl (k1 := 13) (k2 := 4000) rfl rfl lk_H_21 (fun _ h9 => h9) d_H_principal_107 (fun b139 e139 k139 => ?_)
                  refine t_nv (t_runV (As := []) (rest := []) (n := 0) X Y S k139 hml hl.1 (c_By_clear l D E T κ132 L133 f131 H.size b139 4000 k139 (by omega) S.1) (ok_k X Y hA KS KR) rfl kl_H_By_clear ks_By_clear kx_By_clear ki_By_clear ini_By ⟨rfl, rfl⟩ hd_By_clear ⟨Nat.le_of_ble_eq_true rfl, Nat.le_of_ble_eq_true rfl⟩ rfl (Nat.le_of_ble_eq_true rfl) d_H_principal_110 ⟨Nat.le_of_ble_eq_true rfl, Nat.le_of_ble_eq_true rfl⟩) X Y hA S (by decide) (fun f140 H locs Y S s140 p140 => ?_)
                  refine lv_iload X.1 X.2.1 d_H_principal_113 (lv_at hl 2 rfl) ?_
                  refine z_if_eq (tgt := 122) X.1 X.2.1 d_H_principal_115 (by decide) ⟨by omega, by omega⟩ (fun h141 => False.elim (by omega)) (fun h141 => ?_)
                  · refine lv_iload_n X.1 X.2.1 d_H_principal_118 rfl (lv_at hl 1 rfl) ?_
                    refine lv_goto (tgt := 123) X.1 X.2.1 d_H_principal_119 (by decide) ?_
                    exact c_reti hQQ X Y hr hlk ⟨κ132, S, z101, rfl, ⟨by omega, by omega⟩⟩ d_H_principal_123
                refine z_if_eq (tgt := 106) X.1 X.2.1 d_H_principal_71 (by decide) ⟨by omega, by omega⟩ (fun h142 => False.elim (by omega)) (fun h142 => ?_)
                · refine lv_aload_n X.1 X.2.1 d_H_principal_74 rfl (lv_at hl 2 rfl) ?_
                  refine t_get0 (ci := 0) X Y S k0 rfl i_H 4 (by decide) rfl lk_H_42 (fun _ h9 => h9) d_H_principal_75 e127 ?_
                  refine lv_iload_n X.1 X.2.1 d_H_principal_78 rfl (lv_at hl 4 rfl) ?_
                  refine t_aald X Y S k127 (fun h9 => h9) (t0 := 2) rfl (by omega) (by omega) (by omega) d_H_principal_79 (fun b143 e143 k143 => ?_)
                  refine lv_aload_n X.1 X.2.1 d_H_principal_80 rfl (lv_at hl 2 rfl) ?_
                  refine t_get0 (ci := 0) X Y S k0 rfl i_H 3 (by decide) rfl lk_H_28 (fun _ h9 => h9) d_H_principal_81 e128 ?_
                  refine t_nv (t_runV (As := [.ref b128]) (rest := []) (n := 1) X Y S k143 hml hl.1 (c_Pr_begin l D E T κ L f110 H.size b143 k143 b128 40 k128 (by omega) S.1) (ok_k X Y hA KS KR) rfl kl_H_Pr_begin ks_Pr_begin kx_Pr_begin ki_Pr_begin ini_Pr ⟨rfl, rfl⟩ hd_Pr_begin ⟨Nat.le_of_ble_eq_true rfl, Nat.le_of_ble_eq_true rfl⟩ rfl (Nat.le_of_ble_eq_true rfl) d_H_principal_84 ⟨Nat.le_of_ble_eq_true rfl, Nat.le_of_ble_eq_true rfl⟩) X Y hA S (by decide) (fun f144 H locs Y S s144 p144 => ?_)
                  refine lv_aload_n X.1 X.2.1 d_H_principal_87 rfl (lv_at hl 2 rfl) ?_
                  refine t_get0 (ci := 0) X Y S k0 rfl i_H 4 (by decide) rfl lk_H_42 (fun _ h9 => h9) d_H_principal_88 ((gF_same (s144.2.2.2 _ ⟨(t_obj S.1 k0).1, nM_of k0 (by decide), by simp⟩).1 4).trans e127) ?_
                  refine lv_iload_n X.1 X.2.1 d_H_principal_91 rfl (lv_at hl 4 rfl) ?_
                  refine t_aald X Y S k127 (fun h9 => h9) (t0 := 2) rfl (by omega) (by omega) (by omega) d_H_principal_92 (fun b145 e145 k145 => ?_)
                  refine lv_aload_n X.1 X.2.1 d_H_principal_93 rfl (lv_at hl 2 rfl) ?_
                  refine t_getr (ci := 0) X Y S k0 rfl i_H 0 (by decide) rfl (k1 := 21) (k2 := 0) rfl rfl lk_H_12 (fun _ h9 => h9) d_H_principal_94 (fun b146 e146 k146 => ?_)
                  refine lv_aload_n X.1 X.2.1 d_H_principal_97 rfl (lv_at hl 2 rfl) ?_
                  refine t_getr (ci := 0) X Y S k0 rfl i_H 1 (by decide) rfl (k1 := 13) (k2 := 4000) rfl rfl lk_H_21 (fun _ h9 => h9) d_H_principal_98 (fun b147 e147 k147 => ?_)
                  refine lv_iload_n X.1 X.2.1 d_H_principal_101 rfl (lv_at hl 1 rfl) ?_
                  refine lv_iload_n X.1 X.2.1 d_H_principal_102 rfl (lv_at hl 3 rfl) ?_
                  refine t_av (t_runV (As := [.ref b146, .ref b147, .int (iI z110), .int (iI a1)]) (rest := []) (n := 4) X Y S k145 hml hl.1 (c_Pr_rekey l D E T κ L f144 H.size b145 k145 b146 k146 b147 4000 k147 (by omega) z110 (by omega) (by omega) a1 (by omega) (by omega) S.1) (ok_k X Y hA KS KR) rfl kl_H_Pr_rekey ks_Pr_rekey kx_Pr_rekey ki_Pr_rekey ini_Pr ⟨rfl, rfl⟩ hd_Pr_rekey ⟨Nat.le_of_ble_eq_true rfl, Nat.le_of_ble_eq_true rfl⟩ rfl (Nat.le_of_ble_eq_true rfl) d_H_principal_103 ⟨Nat.le_of_ble_eq_true rfl, Nat.le_of_ble_eq_true rfl⟩) X Y hA S (by decide) (fun κ148 L148 f148 H locs Y S s148 p148 => ?_)
                  have k149 : κ148 h = (10, 0) := tLe_k s148.2.2.1 k0
                  exact J135 κ148 L148 f148 _ _ _ k149 Y S (lv_sub hl [2, 4, 0] rfl)
      refine z_icmp_ge (tgt := 26) X.1 X.2.1 d_H_principal_5 (by decide) ⟨by omega, by omega⟩ ⟨by omega, by omega⟩ (fun h150 => ?_) (fun h150 => ?_)
      · exact J106  _ _ _  Y S (lv_sub hl [0, 1, 2] rfl)
      · refine lv_aload_n X.1 X.2.1 d_H_principal_8 rfl (lv_at hl 0 rfl) ?_
        refine t_getr (ci := 0) X Y S k0 rfl i_H 4 (by decide) rfl (k1 := 5) (k2 := 12) rfl rfl lk_H_42 (fun _ h9 => h9) d_H_principal_9 (fun b151 e151 k151 => ?_)
        refine lv_iload_n X.1 X.2.1 d_H_principal_12 rfl (lv_at hl 2 rfl) ?_
        refine t_aald X Y S k151 (fun h9 => h9) (t0 := 2) rfl (by omega) (by omega) (by omega) d_H_principal_13 (fun b152 e152 k152 => ?_)
        refine t_geti (ci := 7) X Y S k152 rfl i_Pr 2 (by decide) rfl lk_H_116 (fun _ h9 => h9) d_H_principal_14 (fun z153 e153 l153 u153 => ?_)
        refine z_if_eq (tgt := 26) X.1 X.2.1 d_H_principal_17 (by decide) ⟨by omega, by omega⟩ (fun h154 => ?_) (fun h154 => ?_)
        · exact J106  _ _ _  Y S (lv_sub hl [0, 1, 2] rfl)
        · refine lv_iinc (v := iI (z101 + 1)) (lv' := [(2, .int (iI (z101 + 1))), (0, .ref h), (1, .int (iI a1))]) X.1 X.2.1 d_H_principal_20 hl (k := 2) rfl ((iI_add _ _).trans (congrArg iI (by omega))) (by decide) rfl (fun ls hl => ?_)
          refine lv_goto (tgt := 2) X.1 X.2.1 d_H_principal_23 (by decide) ?_
          exact ih103 ((12 - (z101 + 1)).toNat) (by omega) (z101 + 1) _ _ _ rfl (by omega) (by omega) Y S (lv_sub hl [1, 2, 0] rfl)
  refine lv_istore_n (lv' := [(2, .int (iI 0)), (0, .ref h), (1, .int (iI a1))]) X.1 X.2.1 d_H_principal_1 rfl hl (by decide) rfl (fun ls hl => ?_)
  exact J102 _ 0 _ _ _ rfl (by omega) (by omega) Y S (lv_sub hl [1, 2, 0] rfl)
set_option maxHeartbeats 4000000 in
set_option maxRecDepth 100000 in
theorem c_H_change (l : Launch) (D : va_G) (E : cE) (T : cT) (κ : tK) (L : List Nat) (f : pF) (sz : Nat) (h : Nat) (k0 : κ h = (10, 0)) (a1 : Int) (l_a1 : (-2147483648) ≤ a1) (u_a1 : a1 ≤ 2147483647) (a2 : Int) (l_a2 : (-2147483648) ≤ a2) (u_a2 : a2 ≤ 2147483647) (hw : tW E T κ L f) : Met l y_H_change (k_H_change :: lw_tg) (kRm 8 205 2 64) (va_Pc [.ref h, .int (iI a1), .int (iI a2)] (kPre D E T L f sz)) (va_Qi (aPi E T [1, 2, 3, 4, 11, 13, 16, 17] [] κ L f (fun (z : Int) (k : tK) (g : pF) => (-2147483648) ≤ z ∧ z ≤ 2147483647)) (cPost D E (pA L sz)) (pA L sz)) 2 64 (pA L sz) := by
  refine k_enter (own := R_H) (by decide) rfl (Nat.le_of_ble_eq_true rfl) (fun p e s m below meth c ls AV QQ H locs hQQ X Y hA hin hr hlk hml hl KS KR => ?_)
  have hl : lv_has ls 4 [(0, .ref h), (1, .int (iI a1)), (2, .int (iI a2))] := hl
  have S : tS E T (tFr κ L [1, 2, 3, 4, 11, 13, 16, 17] []) κ L f κ L f := tS_rf hw
  have hF0 : ∀ b, tFr κ L [1, 2, 3, 4, 11, 13, 16, 17] [] b → b ∈ L := fun b h9 => h9.1
  refine lv_aload_n X.1 X.2.1 d_H_change_0 rfl (lv_at hl 0 rfl) ?_
  refine lv_iload_n X.1 X.2.1 d_H_change_1 rfl (lv_at hl 1 rfl) ?_
  refine t_ui (t_runV (As := [.int (iI a1)]) (rest := []) (n := 1) X Y S k0 hml hl.1 (c_H_isPrincipal l D E T κ L f H.size h k0 a1 (by omega) (by omega) S.1) (ok_k X Y hA KS KR) rfl kl_H_H_isPrincipal ks_H_isPrincipal kx_H_isPrincipal ki_H_isPrincipal ini_H ⟨rfl, rfl⟩ hd_H_isPrincipal ⟨Nat.le_of_ble_eq_true rfl, Nat.le_of_ble_eq_true rfl⟩ rfl (Nat.le_of_ble_eq_true rfl) d_H_change_2 ⟨Nat.le_of_ble_eq_true rfl, Nat.le_of_ble_eq_true rfl⟩) X Y hA (fun z101 H locs Y p101 => ?_)
  obtain ⟨l101, u101, x101⟩ := p101
  have J102 : ∀  (H : Heap) (locs : List Loc) (ls : Array Slot), pH D cCl (pA L sz) s.heap L f H locs → tS E T (tFr κ L [1, 2, 3, 4, 11, 13, 16, 17] []) κ L f κ L f → lv_has ls 4 [(0, .ref h), (1, .int (iI a1)), (2, .int (iI a2))] → W p l e (kRm 8 205 2 64) s m AV below meth c H locs 0 0 QQ (F0 m 27 ls []) := by
    intro  H locs ls  Y S hl
    refine lv_iconst (v := iI 0) X.1 X.2.1 d_H_change_27 (by decide) ?_
    refine lv_istore_n (lv' := [(3, .int (iI 0)), (0, .ref h), (1, .int (iI a1)), (2, .int (iI a2))]) X.1 X.2.1 d_H_change_28 rfl hl (by decide) rfl (fun ls hl => ?_)
    refine lv_iload_n X.1 X.2.1 d_H_change_29 rfl (lv_at hl 0 rfl) ?_
    have J106 : ∀  (H : Heap) (locs : List Loc) (ls : Array Slot), pH D cCl (pA L sz) s.heap L f H locs → tS E T (tFr κ L [1, 2, 3, 4, 11, 13, 16, 17] []) κ L f κ L f → lv_has ls 4 [(0, .ref h), (1, .int (iI a1)), (3, .int (iI 0))] → W p l e (kRm 8 205 2 64) s m AV below meth c H locs 0 0 QQ (F0 m 52 ls []) := by
      intro  H locs ls  Y S hl
      refine lv_aload_n X.1 X.2.1 d_H_change_52 rfl (lv_at hl 0 rfl) ?_
      refine t_getr (ci := 0) X Y S k0 rfl i_H 1 (by decide) rfl (k1 := 13) (k2 := 4000) rfl rfl lk_H_21 (fun _ h9 => h9) d_H_change_53 (fun b110 e110 k110 => ?_)
      refine t_nv (t_runV (As := []) (rest := []) (n := 0) X Y S k110 hml hl.1 (c_By_clear l D E T κ L f H.size b110 4000 k110 (by omega) S.1) (ok_k X Y hA KS KR) rfl kl_H_By_clear ks_By_clear kx_By_clear ki_By_clear ini_By ⟨rfl, rfl⟩ hd_By_clear ⟨Nat.le_of_ble_eq_true rfl, Nat.le_of_ble_eq_true rfl⟩ rfl (Nat.le_of_ble_eq_true rfl) d_H_change_56 ⟨Nat.le_of_ble_eq_true rfl, Nat.le_of_ble_eq_true rfl⟩) X Y hA S (by decide) (fun f111 H locs Y S s111 p111 => ?_)
      refine lv_iload_n X.1 X.2.1 d_H_change_59 rfl (lv_at hl 2 rfl) ?_
      refine z_if_eq (tgt := 75) X.1 X.2.1 d_H_change_60 (by decide) ⟨by omega, by omega⟩ (fun h112 => ?_) (fun h112 => False.elim (by omega))
      · refine lv_iconst (v := iI (-1)) X.1 X.2.1 d_H_change_75 (by decide) ?_
        refine W.widen (k := 2) (n := 64) (Nat.le_of_ble_eq_true rfl) (Nat.le_of_ble_eq_true rfl) ?_
        exact c_reti hQQ X Y hr hlk ⟨κ, S, (-1), rfl, ⟨by omega, by omega⟩⟩ d_H_change_76
    refine z_if_eq (tgt := 52) X.1 X.2.1 d_H_change_30 (by decide) ⟨by omega, by omega⟩ (fun h113 => ?_) (fun h113 => False.elim (by omega))
    · exact J106  _ _ _  Y S (lv_sub hl [1, 2, 0] rfl)
  refine z_if_eq (tgt := 27) X.1 X.2.1 d_H_change_5 (by decide) ⟨by omega, by omega⟩ (fun h114 => ?_) (fun h114 => ?_)
  · exact J102  _ _ _  Y S (lv_sub hl [0, 1, 2] rfl)
  · refine lv_iload_n X.1 X.2.1 d_H_change_8 rfl (lv_at hl 2 rfl) ?_
    refine t_ui (x_runS (As := [.int (iI a2)]) (rest := []) (n := 1) X hml hl.1 (c_H_isRounds l D E T κ L f H.size a2 (by omega) (by omega) S.1) (ok_k X Y hA KS KR) kl_H_H_isRounds ks_H_isRounds ki_H_isRounds ini_H ⟨rfl, rfl⟩ hd_H_isRounds.2 ⟨Nat.le_of_ble_eq_true rfl, Nat.le_of_ble_eq_true rfl⟩ rfl (Nat.le_of_ble_eq_true rfl) d_H_change_9 ⟨Nat.le_of_ble_eq_true rfl, Nat.le_of_ble_eq_true rfl⟩) X Y hA (fun z115 H locs Y p115 => ?_)
    obtain ⟨l115, u115⟩ := p115
    refine z_if_eq (tgt := 27) X.1 X.2.1 d_H_change_12 (by decide) ⟨by omega, by omega⟩ (fun h116 => ?_) (fun h116 => ?_)
    · exact J102  _ _ _  Y S (lv_sub hl [0, 1, 2] rfl)
    · refine lv_aload_n X.1 X.2.1 d_H_change_15 rfl (lv_at hl 0 rfl) ?_
      refine lv_iconst (v := iI 0) X.1 X.2.1 d_H_change_16 (by decide) ?_
      refine t_ui (t_runV (As := [.int (iI 0)]) (rest := []) (n := 1) X Y S k0 hml hl.1 (c_H_isPassword l D E T κ L f H.size h k0 0 (by omega) (by omega) S.1) (ok_k X Y hA KS KR) rfl kl_H_H_isPassword ks_H_isPassword kx_H_isPassword ki_H_isPassword ini_H ⟨rfl, rfl⟩ hd_H_isPassword ⟨Nat.le_of_ble_eq_true rfl, Nat.le_of_ble_eq_true rfl⟩ rfl (Nat.le_of_ble_eq_true rfl) d_H_change_17 ⟨Nat.le_of_ble_eq_true rfl, Nat.le_of_ble_eq_true rfl⟩) X Y hA (fun z117 H locs Y p117 => ?_)
      obtain ⟨l117, u117⟩ := p117
      refine z_if_eq (tgt := 27) X.1 X.2.1 d_H_change_20 (by decide) ⟨by omega, by omega⟩ (fun h118 => ?_) (fun h118 => ?_)
      · exact J102  _ _ _  Y S (lv_sub hl [0, 1, 2] rfl)
      · refine lv_iconst (v := iI 1) X.1 X.2.1 d_H_change_23 (by decide) ?_
        refine lv_goto (tgt := 28) X.1 X.2.1 d_H_change_24 (by decide) ?_
        refine lv_istore_n (lv' := [(3, .int (iI 1)), (0, .ref h), (1, .int (iI a1)), (2, .int (iI a2))]) X.1 X.2.1 d_H_change_28 rfl hl (by decide) rfl (fun ls hl => ?_)
        refine lv_iload_n X.1 X.2.1 d_H_change_29 rfl (lv_at hl 0 rfl) ?_
        have J123 : ∀ (κ120 : tK) (L121 : List Nat) (f119 : pF) (H : Heap) (locs : List Loc) (ls : Array Slot), (κ120 h = (10, 0)) → pH D cCl (pA L sz) s.heap L121 f119 H locs → tS E T (tFr κ L [1, 2, 3, 4, 11, 13, 16, 17] []) κ L f κ120 L121 f119 → lv_has ls 4 [(0, .ref h), (1, .int (iI a1)), (3, .int (iI 1))] → W p l e (kRm 8 205 2 64) s m AV below meth c H locs 2 64 QQ (F0 m 52 ls []) := by
          intro κ120 L121 f119 H locs ls k122 Y S hl
          refine lv_aload_n X.1 X.2.1 d_H_change_52 rfl (lv_at hl 0 rfl) ?_
          refine t_getr (ci := 0) X Y S k122 rfl i_H 1 (by decide) rfl (k1 := 13) (k2 := 4000) rfl rfl lk_H_21 (fun _ h9 => h9) d_H_change_53 (fun b127 e127 k127 => ?_)
          refine t_nv (t_runV (As := []) (rest := []) (n := 0) X Y S k127 hml hl.1 (c_By_clear l D E T κ120 L121 f119 H.size b127 4000 k127 (by omega) S.1) (ok_k X Y hA KS KR) rfl kl_H_By_clear ks_By_clear kx_By_clear ki_By_clear ini_By ⟨rfl, rfl⟩ hd_By_clear ⟨Nat.le_of_ble_eq_true rfl, Nat.le_of_ble_eq_true rfl⟩ rfl (Nat.le_of_ble_eq_true rfl) d_H_change_56 ⟨Nat.le_of_ble_eq_true rfl, Nat.le_of_ble_eq_true rfl⟩) X Y hA S (by decide) (fun f128 H locs Y S s128 p128 => ?_)
          refine lv_iload_n X.1 X.2.1 d_H_change_59 rfl (lv_at hl 2 rfl) ?_
          refine z_if_eq (tgt := 75) X.1 X.2.1 d_H_change_60 (by decide) ⟨by omega, by omega⟩ (fun h129 => False.elim (by omega)) (fun h129 => ?_)
          · refine lv_aload_n X.1 X.2.1 d_H_change_63 rfl (lv_at hl 0 rfl) ?_
            refine t_getr (ci := 0) X Y S k122 rfl i_H 4 (by decide) rfl (k1 := 5) (k2 := 12) rfl rfl lk_H_42 (fun _ h9 => h9) d_H_change_64 (fun b130 e130 k130 => ?_)
            refine lv_iload_n X.1 X.2.1 d_H_change_67 rfl (lv_at hl 1 rfl) ?_
            refine t_aald X Y S k130 (fun h9 => h9) (t0 := 2) rfl (by omega) (by omega) (by omega) d_H_change_68 (fun b131 e131 k131 => ?_)
            refine t_geti (ci := 7) X Y S k131 rfl i_Pr 3 (by decide) rfl lk_H_138 (fun _ h9 => h9) d_H_change_69 (fun z132 e132 l132 u132 => ?_)
            refine lv_goto (tgt := 76) X.1 X.2.1 d_H_change_72 (by decide) ?_
            exact c_reti hQQ X Y hr hlk ⟨κ120, S, z132, rfl, ⟨by omega, by omega⟩⟩ d_H_change_76
        refine z_if_eq (tgt := 52) X.1 X.2.1 d_H_change_30 (by decide) ⟨by omega, by omega⟩ (fun h133 => False.elim (by omega)) (fun h133 => ?_)
        · refine lv_aload_n X.1 X.2.1 d_H_change_33 rfl (lv_at hl 1 rfl) ?_
          refine t_getr (ci := 0) X Y S k0 rfl i_H 4 (by decide) rfl (k1 := 5) (k2 := 12) rfl rfl lk_H_42 (fun _ h9 => h9) d_H_change_34 (fun b134 e134 k134 => ?_)
          refine lv_iload_n X.1 X.2.1 d_H_change_37 rfl (lv_at hl 2 rfl) ?_
          refine t_aald X Y S k134 (fun h9 => h9) (t0 := 2) rfl (by omega) (by omega) (by omega) d_H_change_38 (fun b135 e135 k135 => ?_)
          refine lv_aload_n X.1 X.2.1 d_H_change_39 rfl (lv_at hl 1 rfl) ?_
          refine t_getr (ci := 0) X Y S k0 rfl i_H 0 (by decide) rfl (k1 := 21) (k2 := 0) rfl rfl lk_H_12 (fun _ h9 => h9) d_H_change_40 (fun b136 e136 k136 => ?_)
          refine lv_aload_n X.1 X.2.1 d_H_change_43 rfl (lv_at hl 1 rfl) ?_
          refine t_getr (ci := 0) X Y S k0 rfl i_H 1 (by decide) rfl (k1 := 13) (k2 := 4000) rfl rfl lk_H_21 (fun _ h9 => h9) d_H_change_44 (fun b137 e137 k137 => ?_)
          refine lv_iconst (v := iI 0) X.1 X.2.1 d_H_change_47 (by decide) ?_
          refine lv_iload_n X.1 X.2.1 d_H_change_48 rfl (lv_at hl 3 rfl) ?_
          refine t_av (t_runV (As := [.ref b136, .ref b137, .int (iI 0), .int (iI a2)]) (rest := []) (n := 4) X Y S k135 hml hl.1 (c_Pr_rekey l D E T κ L f H.size b135 k135 b136 k136 b137 4000 k137 (by omega) 0 (by omega) (by omega) a2 (by omega) (by omega) S.1) (ok_k X Y hA KS KR) rfl kl_H_Pr_rekey ks_Pr_rekey kx_Pr_rekey ki_Pr_rekey ini_Pr ⟨rfl, rfl⟩ hd_Pr_rekey ⟨Nat.le_of_ble_eq_true rfl, Nat.le_of_ble_eq_true rfl⟩ rfl (Nat.le_of_ble_eq_true rfl) d_H_change_49 ⟨Nat.le_of_ble_eq_true rfl, Nat.le_of_ble_eq_true rfl⟩) X Y hA S (by decide) (fun κ138 L138 f138 H locs Y S s138 p138 => ?_)
          have k139 : κ138 h = (10, 0) := tLe_k s138.2.2.1 k0
          exact J123 κ138 L138 f138 _ _ _ k139 Y S (lv_sub hl [1, 2, 0] rfl)
set_option maxHeartbeats 4000000 in
set_option maxRecDepth 100000 in
theorem c_H_policy (l : Launch) (D : va_G) (E : cE) (T : cT) (κ : tK) (L : List Nat) (f : pF) (sz : Nat) (h : Nat) (k0 : κ h = (10, 0)) (a1 : Int) (l_a1 : (-2147483648) ≤ a1) (u_a1 : a1 ≤ 2147483647) (a2 : Int) (l_a2 : (-2147483648) ≤ a2) (u_a2 : a2 ≤ 2147483647) (a3 : Int) (l_a3 : (-2147483648) ≤ a3) (u_a3 : a3 ≤ 2147483647) (hw : tW E T κ L f) : Met l y_H_policy (k_H_policy :: lw_tg) (kRm 2 82 0 0) (va_Pc [.ref h, .int (iI a1), .int (iI a2), .int (iI a3)] (kPre D E T L f sz)) (va_Qi (nPi E T [17] κ L f (fun (z : Int) (g : pF) => 0 ≤ z ∧ z ≤ 1)) (cPost D E (pA L sz)) (pA L sz)) 0 0 (pA L sz) := by
  refine k_enter (own := R_H) (by decide) rfl (Nat.le_of_ble_eq_true rfl) (fun p e s m below meth c ls AV QQ H locs hQQ X Y hA hin hr hlk hml hl KS KR => ?_)
  have hl : lv_has ls 4 [(0, .ref h), (1, .int (iI a1)), (2, .int (iI a2)), (3, .int (iI a3))] := hl
  have S : tS E T (tFr κ L [17] []) κ L f κ L f := tS_rf hw
  refine lv_aload_n X.1 X.2.1 d_H_policy_0 rfl (lv_at hl 0 rfl) ?_
  refine lv_iload_n X.1 X.2.1 d_H_policy_1 rfl (lv_at hl 1 rfl) ?_
  refine t_ui (t_runV (As := [.int (iI a1)]) (rest := []) (n := 1) X Y S k0 hml hl.1 (c_H_isPrincipal l D E T κ L f H.size h k0 a1 (by omega) (by omega) S.1) (ok_k X Y hA KS KR) rfl kl_H_H_isPrincipal ks_H_isPrincipal kx_H_isPrincipal ki_H_isPrincipal ini_H ⟨rfl, rfl⟩ hd_H_isPrincipal ⟨Nat.le_of_ble_eq_true rfl, Nat.le_of_ble_eq_true rfl⟩ rfl (Nat.le_of_ble_eq_true rfl) d_H_policy_2 ⟨Nat.le_of_ble_eq_true rfl, Nat.le_of_ble_eq_true rfl⟩) X Y hA (fun z101 H locs Y p101 => ?_)
  obtain ⟨l101, u101, x101⟩ := p101
  refine z_if_eq (tgt := 26) X.1 X.2.1 d_H_policy_5 (by decide) ⟨by omega, by omega⟩ (fun h102 => ?_) (fun h102 => ?_)
  · refine lv_iconst (v := iI 0) X.1 X.2.1 d_H_policy_26 (by decide) ?_
    exact c_retz hQQ X Y hr hlk (iI_bool (by omega) (by omega)).1 ⟨rfl, S, 0, rfl, ⟨by omega, by omega⟩⟩ d_H_policy_27
  · refine lv_aload_n X.1 X.2.1 d_H_policy_8 rfl (lv_at hl 0 rfl) ?_
    refine t_getr (ci := 0) X Y S k0 rfl i_H 4 (by decide) rfl (k1 := 5) (k2 := 12) rfl rfl lk_H_42 (fun _ h9 => h9) d_H_policy_9 (fun b103 e103 k103 => ?_)
    refine lv_iload_n X.1 X.2.1 d_H_policy_12 rfl (lv_at hl 1 rfl) ?_
    refine t_aald X Y S k103 (fun h9 => h9) (t0 := 2) rfl (by omega) (by omega) (by omega) d_H_policy_13 (fun b104 e104 k104 => ?_)
    refine lv_iload_n X.1 X.2.1 d_H_policy_14 rfl (lv_at hl 2 rfl) ?_
    refine lv_iload_n X.1 X.2.1 d_H_policy_15 rfl (lv_at hl 3 rfl) ?_
    refine t_ni (t_runV (As := [.int (iI a2), .int (iI a3)]) (rest := []) (n := 2) X Y S k104 hml hl.1 (c_Pr_rule l D E T κ L f H.size b104 k104 a2 (by omega) (by omega) a3 (by omega) (by omega) S.1) (ok_k X Y hA KS KR) rfl kl_H_Pr_rule ks_Pr_rule kx_Pr_rule ki_Pr_rule ini_Pr ⟨rfl, rfl⟩ hd_Pr_rule ⟨Nat.le_of_ble_eq_true rfl, Nat.le_of_ble_eq_true rfl⟩ rfl (Nat.le_of_ble_eq_true rfl) d_H_policy_16 ⟨Nat.le_of_ble_eq_true rfl, Nat.le_of_ble_eq_true rfl⟩) X Y hA S (by decide) (fun z105 f105 H locs Y S s105 p105 => ?_)
    obtain ⟨l105, u105⟩ := p105
    refine z_if_eq (tgt := 26) X.1 X.2.1 d_H_policy_19 (by decide) ⟨by omega, by omega⟩ (fun h106 => ?_) (fun h106 => ?_)
    · refine lv_iconst (v := iI 0) X.1 X.2.1 d_H_policy_26 (by decide) ?_
      exact c_retz hQQ X Y hr hlk (iI_bool (by omega) (by omega)).1 ⟨rfl, S, 0, rfl, ⟨by omega, by omega⟩⟩ d_H_policy_27
    · refine lv_iconst (v := iI 1) X.1 X.2.1 d_H_policy_22 (by decide) ?_
      refine lv_goto (tgt := 27) X.1 X.2.1 d_H_policy_23 (by decide) ?_
      exact c_retz hQQ X Y hr hlk (iI_bool (by omega) (by omega)).1 ⟨rfl, S, 1, rfl, ⟨by omega, by omega⟩⟩ d_H_policy_27
set_option maxHeartbeats 4000000 in
set_option maxRecDepth 100000 in
theorem c_H_room (l : Launch) (D : va_G) (E : cE) (T : cT) (κ : tK) (L : List Nat) (f : pF) (sz : Nat) (h : Nat) (k0 : κ h = (10, 0)) (a1 : Int) (l_a1 : (-2147483648) ≤ a1) (u_a1 : a1 ≤ 2147483647) (hw : tW E T κ L f) : Met l y_H_room (k_H_room :: lw_tg) (kRm 1 60 0 0) (va_Pc [.ref h, .int (iI a1)] (kPre D E T L f sz)) (va_Qi (nPi E T [15] κ L f (fun (z : Int) (g : pF) => 0 ≤ z ∧ z ≤ 1)) (cPost D E (pA L sz)) (pA L sz)) 0 0 (pA L sz) := by
  refine k_enter (own := R_H) (by decide) rfl (Nat.le_of_ble_eq_true rfl) (fun p e s m below meth c ls AV QQ H locs hQQ X Y hA hin hr hlk hml hl KS KR => ?_)
  have hl : lv_has ls 2 [(0, .ref h), (1, .int (iI a1))] := hl
  have S : tS E T (tFr κ L [15] []) κ L f κ L f := tS_rf hw
  refine lv_iload_n X.1 X.2.1 d_H_room_0 rfl (lv_at hl 1 rfl) ?_
  refine lv_iconst (v := iI 1) X.1 X.2.1 d_H_room_1 (by decide) ?_
  refine z_icmp_lt (tgt := 11) X.1 X.2.1 d_H_room_2 (by decide) ⟨by omega, by omega⟩ ⟨by omega, by omega⟩ (fun h101 => ?_) (fun h101 => ?_)
  · refine lv_iconst (v := iI 0) X.1 X.2.1 d_H_room_11 (by decide) ?_
    exact c_retz hQQ X Y hr hlk (iI_bool (by omega) (by omega)).1 ⟨rfl, S, 0, rfl, ⟨by omega, by omega⟩⟩ d_H_room_12
  · refine lv_iload_n X.1 X.2.1 d_H_room_5 rfl (lv_at hl 1 rfl) ?_
    refine lv_bipush (v := iI 32) X.1 X.2.1 d_H_room_6 (by decide) ?_
    refine z_icmp_le (tgt := 13) X.1 X.2.1 d_H_room_8 (by decide) ⟨by omega, by omega⟩ ⟨by omega, by omega⟩ (fun h102 => ?_) (fun h102 => ?_)
    · refine lv_aload_n X.1 X.2.1 d_H_room_13 rfl (lv_at hl 0 rfl) ?_
      refine t_getr (ci := 0) X Y S k0 rfl i_H 5 (by decide) rfl (k1 := 15) (k2 := 0) rfl rfl lk_H_36 (fun _ h9 => h9) d_H_room_14 (fun b103 e103 k103 => ?_)
      refine lv_iload_n X.1 X.2.1 d_H_room_17 rfl (lv_at hl 1 rfl) ?_
      refine t_put (ci := 5) X Y S k103 rfl i_Ga t_Ga t_Ga_ok n_Ga 4 (by decide) rfl lk_H_145 (fun _ h9 => h9) rfl (t_Ga_ok 4 (by decide)) rfl rfl ⟨_, rfl, (show ((-2147483648) : Int) ≤ a1 by omega), (show a1 ≤ (2147483647 : Int) by omega)⟩ (nF_of S k103 (by decide)) d_H_room_18 (fun f104 H locs Y S w104 => ?_)
      refine lv_iconst (v := iI 1) X.1 X.2.1 d_H_room_21 (by decide) ?_
      exact c_retz hQQ X Y hr hlk (iI_bool (by omega) (by omega)).1 ⟨rfl, S, 1, rfl, ⟨by omega, by omega⟩⟩ d_H_room_22
    · refine lv_iconst (v := iI 0) X.1 X.2.1 d_H_room_11 (by decide) ?_
      exact c_retz hQQ X Y hr hlk (iI_bool (by omega) (by omega)).1 ⟨rfl, S, 0, rfl, ⟨by omega, by omega⟩⟩ d_H_room_12
set_option maxHeartbeats 4000000 in
set_option maxRecDepth 100000 in
theorem c_H_agent (l : Launch) (D : va_G) (E : cE) (T : cT) (κ : tK) (L : List Nat) (f : pF) (sz : Nat) (h : Nat) (k0 : κ h = (10, 0)) (a1 : Int) (l_a1 : (-2147483648) ≤ a1) (u_a1 : a1 ≤ 2147483647) (a2 : Int) (l_a2 : (-2147483648) ≤ a2) (u_a2 : a2 ≤ 2147483647) (hw : tW E T κ L f) : Met l y_H_agent (k_H_agent :: lw_tg) (kRm 8 206 2 64) (va_Pc [.ref h, .int (iI a1), .int (iI a2)] (kPre D E T L f sz)) (va_Qi (aPi E T [1, 2, 3, 4, 11, 12, 13, 16, 19, 20] [] κ L f (fun (z : Int) (k : tK) (g : pF) => 0 ≤ z ∧ z ≤ 1)) (cPost D E (pA L sz)) (pA L sz)) 2 64 (pA L sz) := by
  refine k_enter (own := R_H) (by decide) rfl (Nat.le_of_ble_eq_true rfl) (fun p e s m below meth c ls AV QQ H locs hQQ X Y hA hin hr hlk hml hl KS KR => ?_)
  have hl : lv_has ls 6 [(0, .ref h), (1, .int (iI a1)), (2, .int (iI a2))] := hl
  have S : tS E T (tFr κ L [1, 2, 3, 4, 11, 12, 13, 16, 19, 20] []) κ L f κ L f := tS_rf hw
  have hF0 : ∀ b, tFr κ L [1, 2, 3, 4, 11, 12, 13, 16, 19, 20] [] b → b ∈ L := fun b h9 => h9.1
  refine lv_aload_n X.1 X.2.1 d_H_agent_0 rfl (lv_at hl 0 rfl) ?_
  refine t_ni (t_runV (As := []) (rest := []) (n := 0) X Y S k0 hml hl.1 (c_H_passwordPlace l D E T κ L f H.size h k0 S.1) (ok_k X Y hA KS KR) rfl kl_H_H_passwordPlace ks_H_passwordPlace kx_H_passwordPlace ki_H_passwordPlace ini_H ⟨rfl, rfl⟩ hd_H_passwordPlace ⟨Nat.le_of_ble_eq_true rfl, Nat.le_of_ble_eq_true rfl⟩ rfl (Nat.le_of_ble_eq_true rfl) d_H_agent_1 ⟨Nat.le_of_ble_eq_true rfl, Nat.le_of_ble_eq_true rfl⟩) X Y hA S (by decide) (fun z101 f101 H locs Y S s101 p101 => ?_)
  obtain ⟨l101, u101⟩ := p101
  refine lv_istore_n (lv' := [(3, .int (iI z101)), (0, .ref h), (1, .int (iI a1)), (2, .int (iI a2))]) X.1 X.2.1 d_H_agent_4 rfl hl (by decide) rfl (fun ls hl => ?_)
  refine lv_iload_n X.1 X.2.1 d_H_agent_5 rfl (lv_at hl 2 rfl) ?_
  have J102 : ∀  (H : Heap) (locs : List Loc) (ls : Array Slot), pH D cCl (pA L sz) s.heap L f101 H locs → tS E T (tFr κ L [1, 2, 3, 4, 11, 12, 13, 16, 19, 20] []) κ L f κ L f101 → lv_has ls 6 [(0, .ref h), (1, .int (iI a1)), (2, .int (iI a2)), (3, .int (iI z101))] → W p l e (kRm 8 206 2 64) s m AV below meth c H locs 0 0 QQ (F0 m 29 ls []) := by
    intro  H locs ls  Y S hl
    refine lv_iconst (v := iI 0) X.1 X.2.1 d_H_agent_29 (by decide) ?_
    refine lv_istore (lv' := [(4, .int (iI 0)), (0, .ref h), (1, .int (iI a1)), (2, .int (iI a2)), (3, .int (iI z101))]) X.1 X.2.1 d_H_agent_30 hl (by decide) rfl (fun ls hl => ?_)
    refine lv_iload X.1 X.2.1 d_H_agent_32 (lv_at hl 0 rfl) ?_
    have J106 : ∀  (H : Heap) (locs : List Loc) (ls : Array Slot), pH D cCl (pA L sz) s.heap L f101 H locs → tS E T (tFr κ L [1, 2, 3, 4, 11, 12, 13, 16, 19, 20] []) κ L f κ L f101 → lv_has ls 6 [(0, .ref h), (4, .int (iI 0))] → W p l e (kRm 8 206 2 64) s m AV below meth c H locs 0 0 QQ (F0 m 83 ls []) := by
      intro  H locs ls  Y S hl
      refine lv_aload_n X.1 X.2.1 d_H_agent_83 rfl (lv_at hl 0 rfl) ?_
      refine t_getr (ci := 0) X Y S k0 rfl i_H 1 (by decide) rfl (k1 := 13) (k2 := 4000) rfl rfl lk_H_21 (fun _ h9 => h9) d_H_agent_84 (fun b110 e110 k110 => ?_)
      refine t_nv (t_runV (As := []) (rest := []) (n := 0) X Y S k110 hml hl.1 (c_By_clear l D E T κ L f101 H.size b110 4000 k110 (by omega) S.1) (ok_k X Y hA KS KR) rfl kl_H_By_clear ks_By_clear kx_By_clear ki_By_clear ini_By ⟨rfl, rfl⟩ hd_By_clear ⟨Nat.le_of_ble_eq_true rfl, Nat.le_of_ble_eq_true rfl⟩ rfl (Nat.le_of_ble_eq_true rfl) d_H_agent_87 ⟨Nat.le_of_ble_eq_true rfl, Nat.le_of_ble_eq_true rfl⟩) X Y hA S (by decide) (fun f111 H locs Y S s111 p111 => ?_)
      refine lv_iload X.1 X.2.1 d_H_agent_90 (lv_at hl 1 rfl) ?_
      refine W.widen (k := 2) (n := 64) (Nat.le_of_ble_eq_true rfl) (Nat.le_of_ble_eq_true rfl) ?_
      exact c_retz hQQ X Y hr hlk (iI_bool (by omega) (by omega)).1 ⟨κ, S, 0, rfl, ⟨by omega, by omega⟩⟩ d_H_agent_92
    refine z_if_eq (tgt := 83) X.1 X.2.1 d_H_agent_34 (by decide) ⟨by omega, by omega⟩ (fun h112 => ?_) (fun h112 => False.elim (by omega))
    · exact J106  _ _ _  Y S (lv_sub hl [1, 0] rfl)
  refine z_if_lt (tgt := 29) X.1 X.2.1 d_H_agent_6 (by decide) ⟨by omega, by omega⟩ (fun h113 => ?_) (fun h113 => ?_)
  · exact J102  _ _ _  Y S (lv_sub hl [1, 2, 3, 0] rfl)
  · refine lv_iload_n X.1 X.2.1 d_H_agent_9 rfl (lv_at hl 2 rfl) ?_
    refine lv_iconst (v := iI 4) X.1 X.2.1 d_H_agent_10 (by decide) ?_
    refine z_icmp_ge (tgt := 29) X.1 X.2.1 d_H_agent_11 (by decide) ⟨by omega, by omega⟩ ⟨by omega, by omega⟩ (fun h114 => ?_) (fun h114 => ?_)
    · exact J102  _ _ _  Y S (lv_sub hl [1, 2, 3, 0] rfl)
    · refine lv_iload_n X.1 X.2.1 d_H_agent_14 rfl (lv_at hl 3 rfl) ?_
      refine t_ui (x_runS (As := [.int (iI a2)]) (rest := []) (n := 1) X hml hl.1 (c_H_isRounds l D E T κ L f101 H.size a2 (by omega) (by omega) S.1) (ok_k X Y hA KS KR) kl_H_H_isRounds ks_H_isRounds ki_H_isRounds ini_H ⟨rfl, rfl⟩ hd_H_isRounds.2 ⟨Nat.le_of_ble_eq_true rfl, Nat.le_of_ble_eq_true rfl⟩ rfl (Nat.le_of_ble_eq_true rfl) d_H_agent_15 ⟨Nat.le_of_ble_eq_true rfl, Nat.le_of_ble_eq_true rfl⟩) X Y hA (fun z115 H locs Y p115 => ?_)
      obtain ⟨l115, u115⟩ := p115
      refine z_if_eq (tgt := 29) X.1 X.2.1 d_H_agent_18 (by decide) ⟨by omega, by omega⟩ (fun h116 => ?_) (fun h116 => ?_)
      · exact J102  _ _ _  Y S (lv_sub hl [1, 2, 3, 0] rfl)
      · refine lv_iload_n X.1 X.2.1 d_H_agent_21 rfl (lv_at hl 0 rfl) ?_
        refine z_if_lt (tgt := 29) X.1 X.2.1 d_H_agent_22 (by decide) ⟨by omega, by omega⟩ (fun h117 => ?_) (fun h117 => ?_)
        · exact J102  _ _ _  Y S (lv_sub hl [1, 2, 3, 0] rfl)
        · refine lv_iconst (v := iI 1) X.1 X.2.1 d_H_agent_25 (by decide) ?_
          refine lv_goto (tgt := 30) X.1 X.2.1 d_H_agent_26 (by decide) ?_
          refine lv_istore (lv' := [(4, .int (iI 1)), (3, .int (iI z101)), (0, .ref h), (1, .int (iI a1)), (2, .int (iI a2))]) X.1 X.2.1 d_H_agent_30 hl (by decide) rfl (fun ls hl => ?_)
          refine lv_iload X.1 X.2.1 d_H_agent_32 (lv_at hl 0 rfl) ?_
          have J122 : ∀ (κ119 : tK) (L120 : List Nat) (f118 : pF) (H : Heap) (locs : List Loc) (ls : Array Slot), (κ119 h = (10, 0)) → pH D cCl (pA L sz) s.heap L120 f118 H locs → tS E T (tFr κ L [1, 2, 3, 4, 11, 12, 13, 16, 19, 20] []) κ L f κ119 L120 f118 → lv_has ls 6 [(0, .ref h), (4, .int (iI 1))] → W p l e (kRm 8 206 2 64) s m AV below meth c H locs 2 64 QQ (F0 m 83 ls []) := by
            intro κ119 L120 f118 H locs ls k121 Y S hl
            refine lv_aload_n X.1 X.2.1 d_H_agent_83 rfl (lv_at hl 0 rfl) ?_
            refine t_getr (ci := 0) X Y S k121 rfl i_H 1 (by decide) rfl (k1 := 13) (k2 := 4000) rfl rfl lk_H_21 (fun _ h9 => h9) d_H_agent_84 (fun b126 e126 k126 => ?_)
            refine t_nv (t_runV (As := []) (rest := []) (n := 0) X Y S k126 hml hl.1 (c_By_clear l D E T κ119 L120 f118 H.size b126 4000 k126 (by omega) S.1) (ok_k X Y hA KS KR) rfl kl_H_By_clear ks_By_clear kx_By_clear ki_By_clear ini_By ⟨rfl, rfl⟩ hd_By_clear ⟨Nat.le_of_ble_eq_true rfl, Nat.le_of_ble_eq_true rfl⟩ rfl (Nat.le_of_ble_eq_true rfl) d_H_agent_87 ⟨Nat.le_of_ble_eq_true rfl, Nat.le_of_ble_eq_true rfl⟩) X Y hA S (by decide) (fun f127 H locs Y S s127 p127 => ?_)
            refine lv_iload X.1 X.2.1 d_H_agent_90 (lv_at hl 1 rfl) ?_
            exact c_retz hQQ X Y hr hlk (iI_bool (by omega) (by omega)).1 ⟨κ119, S, 1, rfl, ⟨by omega, by omega⟩⟩ d_H_agent_92
          refine z_if_eq (tgt := 83) X.1 X.2.1 d_H_agent_34 (by decide) ⟨by omega, by omega⟩ (fun h128 => False.elim (by omega)) (fun h128 => ?_)
          · refine lv_aload_n X.1 X.2.1 d_H_agent_37 rfl (lv_at hl 2 rfl) ?_
            refine t_getr (ci := 0) X Y S k0 rfl i_H 7 (by decide) rfl (k1 := 6) (k2 := 4) rfl rfl lk_H_49 (fun _ h9 => h9) d_H_agent_38 (fun b129 e129 k129 => ?_)
            refine lv_iload_n X.1 X.2.1 d_H_agent_41 rfl (lv_at hl 3 rfl) ?_
            refine t_aald X Y S k129 (fun h9 => h9) (t0 := 3) rfl (by omega) (by omega) (by omega) d_H_agent_42 (fun b130 e130 k130 => ?_)
            refine lv_aload_n X.1 X.2.1 d_H_agent_43 rfl (lv_at hl 2 rfl) ?_
            refine t_getr (ci := 0) X Y S k0 rfl i_H 3 (by decide) rfl (k1 := 13) (k2 := 40) rfl rfl lk_H_28 (fun _ h9 => h9) d_H_agent_44 (fun b131 e131 k131 => ?_)
            refine lv_aload_n X.1 X.2.1 d_H_agent_47 rfl (lv_at hl 2 rfl) ?_
            refine t_getr (ci := 0) X Y S k0 rfl i_H 1 (by decide) rfl (k1 := 13) (k2 := 4000) rfl rfl lk_H_21 (fun _ h9 => h9) d_H_agent_48 (fun b132 e132 k132 => ?_)
            refine lv_iload_n X.1 X.2.1 d_H_agent_51 rfl (lv_at hl 1 rfl) ?_
            refine lv_iload_n X.1 X.2.1 d_H_agent_52 rfl (lv_at hl 4 rfl) ?_
            refine t_av (t_runV (As := [.ref b131, .ref b132, .int (iI z101), .int (iI a2)]) (rest := []) (n := 4) X Y S k130 hml hl.1 (c_Ag_begin l D E T κ L f101 H.size b130 k130 b131 40 k131 (by omega) b132 4000 k132 (by omega) z101 (by omega) (by omega) a2 (by omega) (by omega) S.1) (ok_k X Y hA KS KR) rfl kl_H_Ag_begin ks_Ag_begin kx_Ag_begin ki_Ag_begin ini_Ag ⟨rfl, rfl⟩ hd_Ag_begin ⟨Nat.le_of_ble_eq_true rfl, Nat.le_of_ble_eq_true rfl⟩ rfl (Nat.le_of_ble_eq_true rfl) d_H_agent_53 ⟨Nat.le_of_ble_eq_true rfl, Nat.le_of_ble_eq_true rfl⟩) X Y hA S (by decide) (fun κ133 L133 f133 H locs Y S s133 p133 => ?_)
            have k134 : κ133 h = (10, 0) := tLe_k s133.2.2.1 k0
            refine lv_iconst (v := iI 0) X.1 X.2.1 d_H_agent_56 (by decide) ?_
            have J137 : ∀ (n139 : Nat) (z136 : Int) (f135 : pF) (H : Heap) (locs : List Loc) (ls : Array Slot), (8 - z136).toNat = n139 → (0 ≤ z136) → (z136 ≤ 8) → pH D cCl (pA L sz) s.heap L133 f135 H locs → tS E T (tFr κ L [1, 2, 3, 4, 11, 12, 13, 16, 19, 20] []) κ L f κ133 L133 f135 → lv_has ls 6 [(0, .ref h), (1, .int (iI a1)), (4, .int (iI 1)), (5, .int (iI z136))] → W p l e (kRm 8 206 2 64) s m AV below meth c H locs 2 64 QQ (F0 m 59 ls []) := by
              intro n139
              induction n139 using Nat.strongRecOn with
              | ind n139 ih138 =>
                intro z136 f135 H locs ls hm140 l136 u136 Y S hl
                refine lv_iload X.1 X.2.1 d_H_agent_59 (lv_at hl 3 rfl) ?_
                refine lv_bipush (v := iI 8) X.1 X.2.1 d_H_agent_61 (by decide) ?_
                refine z_icmp_ge (tgt := 83) X.1 X.2.1 d_H_agent_63 (by decide) ⟨by omega, by omega⟩ ⟨by omega, by omega⟩ (fun h141 => ?_) (fun h141 => ?_)
                · exact J122 κ133 L133 f135 _ _ _ k134 Y S (lv_sub hl [0, 2] rfl)
                · refine lv_aload_n X.1 X.2.1 d_H_agent_66 rfl (lv_at hl 0 rfl) ?_
                  refine t_getr (ci := 0) X Y S k134 rfl i_H 8 (by decide) rfl (k1 := 7) (k2 := 8) rfl rfl lk_H_56 (fun _ h9 => h9) d_H_agent_67 (fun b142 e142 k142 => ?_)
                  refine lv_iload X.1 X.2.1 d_H_agent_70 (lv_at hl 3 rfl) ?_
                  refine t_aald X Y S k142 (fun h9 => h9) (t0 := 4) rfl (by omega) (by omega) (by omega) d_H_agent_72 (fun b143 e143 k143 => ?_)
                  refine lv_iload_n X.1 X.2.1 d_H_agent_73 rfl (lv_at hl 1 rfl) ?_
                  refine t_nv (t_runV (As := [.int (iI a1)]) (rest := []) (n := 1) X Y S k143 hml hl.1 (c_So_leave l D E T κ133 L133 f135 H.size b143 k143 a1 (by omega) (by omega) S.1) (ok_k X Y hA KS KR) rfl kl_H_So_leave ks_So_leave kx_So_leave ki_So_leave ini_So ⟨rfl, rfl⟩ hd_So_leave ⟨Nat.le_of_ble_eq_true rfl, Nat.le_of_ble_eq_true rfl⟩ rfl (Nat.le_of_ble_eq_true rfl) d_H_agent_74 ⟨Nat.le_of_ble_eq_true rfl, Nat.le_of_ble_eq_true rfl⟩) X Y hA S (by decide) (fun f144 H locs Y S s144 p144 => ?_)
                  refine lv_iinc (v := iI (z136 + 1)) (lv' := [(5, .int (iI (z136 + 1))), (0, .ref h), (1, .int (iI a1)), (4, .int (iI 1))]) X.1 X.2.1 d_H_agent_77 hl (k := 3) rfl ((iI_add _ _).trans (congrArg iI (by omega))) (by decide) rfl (fun ls hl => ?_)
                  refine lv_goto (tgt := 59) X.1 X.2.1 d_H_agent_80 (by decide) ?_
                  exact ih138 ((8 - (z136 + 1)).toNat) (by omega) (z136 + 1) f144 _ _ _ rfl (by omega) (by omega) Y S (lv_sub hl [1, 2, 3, 0] rfl)
            refine lv_istore (lv' := [(5, .int (iI 0)), (4, .int (iI 1)), (3, .int (iI z101)), (0, .ref h), (1, .int (iI a1)), (2, .int (iI a2))]) X.1 X.2.1 d_H_agent_57 hl (by decide) rfl (fun ls hl => ?_)
            exact J137 _ 0 f133 _ _ _ rfl (by omega) (by omega) Y S (lv_sub hl [3, 4, 1, 0] rfl)
set_option maxHeartbeats 4000000 in
set_option maxRecDepth 100000 in
theorem c_H_shift (l : Launch) (D : va_G) (E : cE) (T : cT) (κ : tK) (L : List Nat) (f : pF) (sz : Nat) (h : Nat) (k0 : κ h = (10, 0)) (a1 : Int) (l_a1 : (-2147483648) ≤ a1) (u_a1 : a1 ≤ 2147483647) (a2 : Int) (l_a2 : (-2147483648) ≤ a2) (u_a2 : a2 ≤ 2147483647) (hw : tW E T κ L f) : Met l y_H_shift (k_H_shift :: lw_tg) (kRm 2 81 0 0) (va_Pc [.ref h, .int (iI a1), .int (iI a2)] (kPre D E T L f sz)) (va_Qi (nPi E T [12] κ L f (fun (z : Int) (g : pF) => 0 ≤ z ∧ z ≤ 1)) (cPost D E (pA L sz)) (pA L sz)) 0 0 (pA L sz) := by
  refine k_enter (own := R_H) (by decide) rfl (Nat.le_of_ble_eq_true rfl) (fun p e s m below meth c ls AV QQ H locs hQQ X Y hA hin hr hlk hml hl KS KR => ?_)
  have hl : lv_has ls 3 [(0, .ref h), (1, .int (iI a1)), (2, .int (iI a2))] := hl
  have S : tS E T (tFr κ L [12] []) κ L f κ L f := tS_rf hw
  refine lv_aload_n X.1 X.2.1 d_H_shift_0 rfl (lv_at hl 0 rfl) ?_
  refine lv_iload_n X.1 X.2.1 d_H_shift_1 rfl (lv_at hl 1 rfl) ?_
  refine t_ui (t_runV (As := [.int (iI a1)]) (rest := []) (n := 1) X Y S k0 hml hl.1 (c_H_isAgent l D E T κ L f H.size h k0 a1 (by omega) (by omega) S.1) (ok_k X Y hA KS KR) rfl kl_H_H_isAgent ks_H_isAgent kx_H_isAgent ki_H_isAgent ini_H ⟨rfl, rfl⟩ hd_H_isAgent ⟨Nat.le_of_ble_eq_true rfl, Nat.le_of_ble_eq_true rfl⟩ rfl (Nat.le_of_ble_eq_true rfl) d_H_shift_2 ⟨Nat.le_of_ble_eq_true rfl, Nat.le_of_ble_eq_true rfl⟩) X Y hA (fun z101 H locs Y p101 => ?_)
  obtain ⟨l101, u101, x101⟩ := p101
  refine z_if_eq (tgt := 20) X.1 X.2.1 d_H_shift_5 (by decide) ⟨by omega, by omega⟩ (fun h102 => ?_) (fun h102 => ?_)
  · refine lv_iconst (v := iI 0) X.1 X.2.1 d_H_shift_20 (by decide) ?_
    exact c_retz hQQ X Y hr hlk (iI_bool (by omega) (by omega)).1 ⟨rfl, S, 0, rfl, ⟨by omega, by omega⟩⟩ d_H_shift_21
  · refine lv_iload_n X.1 X.2.1 d_H_shift_8 rfl (lv_at hl 2 rfl) ?_
    refine lv_ldc (v := (-100000)) X.1 X.2.1 X.2.2.2.1 (X.2.2.1 _ cn_H_191) d_H_shift_9 ?_
    refine t_eq (y := iI (-100000)) (by decide) ?_
    refine z_icmp_lt (tgt := 20) X.1 X.2.1 d_H_shift_11 (by decide) ⟨by omega, by omega⟩ ⟨by omega, by omega⟩ (fun h103 => ?_) (fun h103 => ?_)
    · refine lv_iconst (v := iI 0) X.1 X.2.1 d_H_shift_20 (by decide) ?_
      exact c_retz hQQ X Y hr hlk (iI_bool (by omega) (by omega)).1 ⟨rfl, S, 0, rfl, ⟨by omega, by omega⟩⟩ d_H_shift_21
    · refine lv_iload_n X.1 X.2.1 d_H_shift_14 rfl (lv_at hl 2 rfl) ?_
      refine lv_ldc (v := (100000)) X.1 X.2.1 X.2.2.2.1 (X.2.2.1 _ cn_H_192) d_H_shift_15 ?_
      refine t_eq (y := iI 100000) (by decide) ?_
      refine z_icmp_le (tgt := 22) X.1 X.2.1 d_H_shift_17 (by decide) ⟨by omega, by omega⟩ ⟨by omega, by omega⟩ (fun h104 => ?_) (fun h104 => ?_)
      · refine lv_aload_n X.1 X.2.1 d_H_shift_22 rfl (lv_at hl 0 rfl) ?_
        refine t_getr (ci := 0) X Y S k0 rfl i_H 7 (by decide) rfl (k1 := 6) (k2 := 4) rfl rfl lk_H_49 (fun _ h9 => h9) d_H_shift_23 (fun b105 e105 k105 => ?_)
        refine lv_iload_n X.1 X.2.1 d_H_shift_26 rfl (lv_at hl 1 rfl) ?_
        refine t_aald X Y S k105 (fun h9 => h9) (t0 := 3) rfl (by omega) (by omega) (by omega) d_H_shift_27 (fun b106 e106 k106 => ?_)
        refine lv_iload_n X.1 X.2.1 d_H_shift_28 rfl (lv_at hl 2 rfl) ?_
        refine t_put (ci := 2) X Y S k106 rfl i_Ag t_Ag t_Ag_ok n_Ag 3 (by decide) rfl lk_H_193 (fun _ h9 => h9) rfl (t_Ag_ok 3 (by decide)) rfl rfl ⟨_, rfl, (show ((-2147483648) : Int) ≤ a2 by omega), (show a2 ≤ (2147483647 : Int) by omega)⟩ (nF_of S k106 (by decide)) d_H_shift_29 (fun f107 H locs Y S w107 => ?_)
        refine lv_iconst (v := iI 1) X.1 X.2.1 d_H_shift_32 (by decide) ?_
        exact c_retz hQQ X Y hr hlk (iI_bool (by omega) (by omega)).1 ⟨rfl, S, 1, rfl, ⟨by omega, by omega⟩⟩ d_H_shift_33
      · refine lv_iconst (v := iI 0) X.1 X.2.1 d_H_shift_20 (by decide) ?_
        exact c_retz hQQ X Y hr hlk (iI_bool (by omega) (by omega)).1 ⟨rfl, S, 0, rfl, ⟨by omega, by omega⟩⟩ d_H_shift_21
set_option maxHeartbeats 4000000 in
set_option maxRecDepth 100000 in
theorem c_H_request (l : Launch) (D : va_G) (E : cE) (T : cT) (κ : tK) (L : List Nat) (f : pF) (sz : Nat) (h : Nat) (k0 : κ h = (10, 0)) (a1 : Int) (l_a1 : (-2147483648) ≤ a1) (u_a1 : a1 ≤ 2147483647) (a2 : Int) (l_a2 : (-2147483648) ≤ a2) (u_a2 : a2 ≤ 2147483647) (a3 : Int) (l_a3 : (-2147483648) ≤ a3) (u_a3 : a3 ≤ 2147483647) (a4 : Int) (l_a4 : (-2147483648) ≤ a4) (u_a4 : a4 ≤ 2147483647) (a5 : Int) (l_a5 : (-2147483648) ≤ a5) (u_a5 : a5 ≤ 2147483647) (a6 : Int) (l_a6 : (-2147483648) ≤ a6) (u_a6 : a6 ≤ 2147483647) (a7 : Int) (l_a7 : (-2147483648) ≤ a7) (u_a7 : a7 ≤ 2147483647) (hw : tW E T κ L f) : Met l y_H_request (k_H_request :: lw_tg) (kRm 9 244 1 32) (va_Pc [.ref h, .int (iI a1), .int (iI a2), .int (iI a3), .int (iI a4), .int (iI a5), .int (iI a6), .int (iI a7)] (kPre D E T L f sz)) (va_Qi (aPi E T [1, 2, 3, 4, 11, 12, 13, 16, 21] [] κ L f (fun (z : Int) (k : tK) (g : pF) => (-2147483648) ≤ z ∧ z ≤ 2147483647)) (cPost D E (pA L sz)) (pA L sz)) 1 32 (pA L sz) := by
  refine k_enter (own := R_H) (by decide) rfl (Nat.le_of_ble_eq_true rfl) (fun p e s m below meth c ls AV QQ H locs hQQ X Y hA hin hr hlk hml hl KS KR => ?_)
  have hl : lv_has ls 9 [(0, .ref h), (1, .int (iI a1)), (2, .int (iI a2)), (3, .int (iI a3)), (4, .int (iI a4)), (5, .int (iI a5)), (6, .int (iI a6)), (7, .int (iI a7))] := hl
  have S : tS E T (tFr κ L [1, 2, 3, 4, 11, 12, 13, 16, 21] []) κ L f κ L f := tS_rf hw
  have hF0 : ∀ b, tFr κ L [1, 2, 3, 4, 11, 12, 13, 16, 21] [] b → b ∈ L := fun b h9 => h9.1
  refine lv_aload_n X.1 X.2.1 d_H_request_0 rfl (lv_at hl 0 rfl) ?_
  refine lv_iload_n X.1 X.2.1 d_H_request_1 rfl (lv_at hl 1 rfl) ?_
  refine t_ui (t_runV (As := [.int (iI a1)]) (rest := []) (n := 1) X Y S k0 hml hl.1 (c_H_isAgent l D E T κ L f H.size h k0 a1 (by omega) (by omega) S.1) (ok_k X Y hA KS KR) rfl kl_H_H_isAgent ks_H_isAgent kx_H_isAgent ki_H_isAgent ini_H ⟨rfl, rfl⟩ hd_H_isAgent ⟨Nat.le_of_ble_eq_true rfl, Nat.le_of_ble_eq_true rfl⟩ rfl (Nat.le_of_ble_eq_true rfl) d_H_request_2 ⟨Nat.le_of_ble_eq_true rfl, Nat.le_of_ble_eq_true rfl⟩) X Y hA (fun z101 H locs Y p101 => ?_)
  obtain ⟨l101, u101, x101⟩ := p101
  have J103 : ∀ (f102 : pF) (H : Heap) (locs : List Loc) (ls : Array Slot), pH D cCl (pA L sz) s.heap L f102 H locs → tS E T (tFr κ L [1, 2, 3, 4, 11, 12, 13, 16, 21] []) κ L f κ L f102 → lv_has ls 9 [(0, .ref h), (1, .int (iI a1)), (2, .int (iI a2)), (3, .int (iI a3)), (4, .int (iI a4)), (5, .int (iI a5)), (6, .int (iI a6)), (7, .int (iI a7))] → W p l e (kRm 9 244 1 32) s m AV below meth c H locs 0 0 QQ (F0 m 74 ls []) := by
    intro f102 H locs ls  Y S hl
    refine lv_iconst (v := iI 0) X.1 X.2.1 d_H_request_74 (by decide) ?_
    refine lv_istore (lv' := [(8, .int (iI 0)), (0, .ref h), (1, .int (iI a1)), (2, .int (iI a2)), (3, .int (iI a3)), (4, .int (iI a4)), (5, .int (iI a5)), (6, .int (iI a6)), (7, .int (iI a7))]) X.1 X.2.1 d_H_request_75 hl (by decide) rfl (fun ls hl => ?_)
    refine lv_aload_n X.1 X.2.1 d_H_request_77 rfl (lv_at hl 1 rfl) ?_
    refine t_getr (ci := 0) X Y S k0 rfl i_H 1 (by decide) rfl (k1 := 13) (k2 := 4000) rfl rfl lk_H_21 (fun _ h9 => h9) d_H_request_78 (fun b107 e107 k107 => ?_)
    refine t_nv (t_runV (As := []) (rest := []) (n := 0) X Y S k107 hml hl.1 (c_By_clear l D E T κ L f102 H.size b107 4000 k107 (by omega) S.1) (ok_k X Y hA KS KR) rfl kl_H_By_clear ks_By_clear kx_By_clear ki_By_clear ini_By ⟨rfl, rfl⟩ hd_By_clear ⟨Nat.le_of_ble_eq_true rfl, Nat.le_of_ble_eq_true rfl⟩ rfl (Nat.le_of_ble_eq_true rfl) d_H_request_81 ⟨Nat.le_of_ble_eq_true rfl, Nat.le_of_ble_eq_true rfl⟩) X Y hA S (by decide) (fun f108 H locs Y S s108 p108 => ?_)
    refine lv_iload X.1 X.2.1 d_H_request_84 (lv_at hl 0 rfl) ?_
    refine z_if_ne (tgt := 91) X.1 X.2.1 d_H_request_86 (by decide) ⟨by omega, by omega⟩ (fun h109 => False.elim (by omega)) (fun h109 => ?_)
    · refine lv_iconst (v := iI (-1)) X.1 X.2.1 d_H_request_89 (by decide) ?_
      refine W.widen (k := 1) (n := 32) (Nat.le_of_ble_eq_true rfl) (Nat.le_of_ble_eq_true rfl) ?_
      exact c_reti hQQ X Y hr hlk ⟨κ, S, (-1), rfl, ⟨by omega, by omega⟩⟩ d_H_request_90
  refine z_if_eq (tgt := 74) X.1 X.2.1 d_H_request_5 (by decide) ⟨by omega, by omega⟩ (fun h110 => ?_) (fun h110 => ?_)
  · exact J103 f _ _ _  Y S (lv_sub hl [0, 1, 2, 3, 4, 5, 6, 7] rfl)
  · refine lv_iload_n X.1 X.2.1 d_H_request_8 rfl (lv_at hl 2 rfl) ?_
    refine z_if_lt (tgt := 74) X.1 X.2.1 d_H_request_9 (by decide) ⟨by omega, by omega⟩ (fun h111 => ?_) (fun h111 => ?_)
    · exact J103 f _ _ _  Y S (lv_sub hl [0, 1, 2, 3, 4, 5, 6, 7] rfl)
    · refine lv_iload_n X.1 X.2.1 d_H_request_12 rfl (lv_at hl 2 rfl) ?_
      refine lv_iconst (v := iI 2) X.1 X.2.1 d_H_request_13 (by decide) ?_
      refine z_icmp_gt (tgt := 74) X.1 X.2.1 d_H_request_14 (by decide) ⟨by omega, by omega⟩ ⟨by omega, by omega⟩ (fun h112 => ?_) (fun h112 => ?_)
      · exact J103 f _ _ _  Y S (lv_sub hl [0, 1, 2, 3, 4, 5, 6, 7] rfl)
      · refine lv_iload X.1 X.2.1 d_H_request_17 (lv_at hl 5 rfl) ?_
        refine lv_iconst (v := iI 1) X.1 X.2.1 d_H_request_19 (by decide) ?_
        refine z_icmp_lt (tgt := 74) X.1 X.2.1 d_H_request_20 (by decide) ⟨by omega, by omega⟩ ⟨by omega, by omega⟩ (fun h113 => ?_) (fun h113 => ?_)
        · exact J103 f _ _ _  Y S (lv_sub hl [0, 1, 2, 3, 4, 5, 6, 7] rfl)
        · refine lv_iload X.1 X.2.1 d_H_request_23 (lv_at hl 5 rfl) ?_
          refine lv_iconst (v := iI 4) X.1 X.2.1 d_H_request_25 (by decide) ?_
          refine z_icmp_gt (tgt := 74) X.1 X.2.1 d_H_request_26 (by decide) ⟨by omega, by omega⟩ ⟨by omega, by omega⟩ (fun h114 => ?_) (fun h114 => ?_)
          · exact J103 f _ _ _  Y S (lv_sub hl [0, 1, 2, 3, 4, 5, 6, 7] rfl)
          · refine lv_iload X.1 X.2.1 d_H_request_29 (lv_at hl 6 rfl) ?_
            refine t_ui (x_runS (As := [.int (iI a6)]) (rest := []) (n := 1) X hml hl.1 (c_H_isSpan l D E T κ L f H.size a6 (by omega) (by omega) S.1) (ok_k X Y hA KS KR) kl_H_H_isSpan ks_H_isSpan ki_H_isSpan ini_H ⟨rfl, rfl⟩ hd_H_isSpan.2 ⟨Nat.le_of_ble_eq_true rfl, Nat.le_of_ble_eq_true rfl⟩ rfl (Nat.le_of_ble_eq_true rfl) d_H_request_31 ⟨Nat.le_of_ble_eq_true rfl, Nat.le_of_ble_eq_true rfl⟩) X Y hA (fun z115 H locs Y p115 => ?_)
            obtain ⟨l115, u115, x115⟩ := p115
            refine z_if_eq (tgt := 74) X.1 X.2.1 d_H_request_34 (by decide) ⟨by omega, by omega⟩ (fun h116 => ?_) (fun h116 => ?_)
            · exact J103 f _ _ _  Y S (lv_sub hl [0, 1, 2, 3, 4, 5, 6, 7] rfl)
            · refine lv_iload X.1 X.2.1 d_H_request_37 (lv_at hl 7 rfl) ?_
              refine t_ui (x_runS (As := [.int (iI a7)]) (rest := []) (n := 1) X hml hl.1 (c_H_isSpan l D E T κ L f H.size a7 (by omega) (by omega) S.1) (ok_k X Y hA KS KR) kl_H_H_isSpan ks_H_isSpan ki_H_isSpan ini_H ⟨rfl, rfl⟩ hd_H_isSpan.2 ⟨Nat.le_of_ble_eq_true rfl, Nat.le_of_ble_eq_true rfl⟩ rfl (Nat.le_of_ble_eq_true rfl) d_H_request_39 ⟨Nat.le_of_ble_eq_true rfl, Nat.le_of_ble_eq_true rfl⟩) X Y hA (fun z117 H locs Y p117 => ?_)
              obtain ⟨l117, u117, x117⟩ := p117
              refine z_if_eq (tgt := 74) X.1 X.2.1 d_H_request_42 (by decide) ⟨by omega, by omega⟩ (fun h118 => ?_) (fun h118 => ?_)
              · exact J103 f _ _ _  Y S (lv_sub hl [0, 1, 2, 3, 4, 5, 6, 7] rfl)
              · refine lv_iload_n X.1 X.2.1 d_H_request_45 rfl (lv_at hl 2 rfl) ?_
                refine lv_iconst (v := iI 2) X.1 X.2.1 d_H_request_46 (by decide) ?_
                have J119 : ∀  (H : Heap) (locs : List Loc) (ls : Array Slot), pH D cCl (pA L sz) s.heap L f H locs → tS E T (tFr κ L [1, 2, 3, 4, 11, 12, 13, 16, 21] []) κ L f κ L f → lv_has ls 9 [(0, .ref h), (1, .int (iI a1)), (2, .int (iI a2)), (3, .int (iI a3)), (4, .int (iI a4)), (5, .int (iI a5)), (6, .int (iI a6)), (7, .int (iI a7))] → W p l e (kRm 9 244 1 32) s m AV below meth c H locs 0 0 QQ (F0 m 63 ls []) := by
                  intro  H locs ls  Y S hl
                  refine lv_aload_n X.1 X.2.1 d_H_request_63 rfl (lv_at hl 0 rfl) ?_
                  refine t_ni (t_runV (As := []) (rest := []) (n := 0) X Y S k0 hml hl.1 (c_H_readService l D E T κ L f H.size h k0 S.1) (ok_k X Y hA KS KR) rfl kl_H_H_readService ks_H_readService kx_H_readService ki_H_readService ini_H ⟨rfl, rfl⟩ hd_H_readService ⟨Nat.le_of_ble_eq_true rfl, Nat.le_of_ble_eq_true rfl⟩ rfl (Nat.le_of_ble_eq_true rfl) d_H_request_64 ⟨Nat.le_of_ble_eq_true rfl, Nat.le_of_ble_eq_true rfl⟩) X Y hA S (by decide) (fun z123 f123 H locs Y S s123 p123 => ?_)
                  obtain ⟨l123, u123⟩ := p123
                  refine z_if_eq (tgt := 74) X.1 X.2.1 d_H_request_67 (by decide) ⟨by omega, by omega⟩ (fun h124 => ?_) (fun h124 => ?_)
                  · exact J103 f123 _ _ _  Y S (lv_sub hl [0, 1, 2, 3, 4, 5, 6, 7] rfl)
                  · refine lv_iconst (v := iI 1) X.1 X.2.1 d_H_request_70 (by decide) ?_
                    refine lv_goto (tgt := 75) X.1 X.2.1 d_H_request_71 (by decide) ?_
                    refine lv_istore (lv' := [(8, .int (iI 1)), (0, .ref h), (1, .int (iI a1)), (2, .int (iI a2)), (3, .int (iI a3)), (4, .int (iI a4)), (5, .int (iI a5)), (6, .int (iI a6)), (7, .int (iI a7))]) X.1 X.2.1 d_H_request_75 hl (by decide) rfl (fun ls hl => ?_)
                    refine lv_aload_n X.1 X.2.1 d_H_request_77 rfl (lv_at hl 1 rfl) ?_
                    refine t_getr (ci := 0) X Y S k0 rfl i_H 1 (by decide) rfl (k1 := 13) (k2 := 4000) rfl rfl lk_H_21 (fun _ h9 => h9) d_H_request_78 (fun b125 e125 k125 => ?_)
                    refine t_nv (t_runV (As := []) (rest := []) (n := 0) X Y S k125 hml hl.1 (c_By_clear l D E T κ L f123 H.size b125 4000 k125 (by omega) S.1) (ok_k X Y hA KS KR) rfl kl_H_By_clear ks_By_clear kx_By_clear ki_By_clear ini_By ⟨rfl, rfl⟩ hd_By_clear ⟨Nat.le_of_ble_eq_true rfl, Nat.le_of_ble_eq_true rfl⟩ rfl (Nat.le_of_ble_eq_true rfl) d_H_request_81 ⟨Nat.le_of_ble_eq_true rfl, Nat.le_of_ble_eq_true rfl⟩) X Y hA S (by decide) (fun f126 H locs Y S s126 p126 => ?_)
                    refine lv_iload X.1 X.2.1 d_H_request_84 (lv_at hl 0 rfl) ?_
                    refine z_if_ne (tgt := 91) X.1 X.2.1 d_H_request_86 (by decide) ⟨by omega, by omega⟩ (fun h127 => ?_) (fun h127 => False.elim (by omega))
                    · refine lv_aload_n X.1 X.2.1 d_H_request_91 rfl (lv_at hl 1 rfl) ?_
                      refine t_getr (ci := 0) X Y S k0 rfl i_H 7 (by decide) rfl (k1 := 6) (k2 := 4) rfl rfl lk_H_49 (fun _ h9 => h9) d_H_request_92 (fun b128 e128 k128 => ?_)
                      refine lv_iload_n X.1 X.2.1 d_H_request_95 rfl (lv_at hl 2 rfl) ?_
                      refine t_aald X Y S k128 (fun h9 => h9) (t0 := 3) rfl (by omega) (by omega) (by omega) d_H_request_96 (fun b129 e129 k129 => ?_)
                      refine lv_iload_n X.1 X.2.1 d_H_request_97 rfl (lv_at hl 3 rfl) ?_
                      refine lv_iload_n X.1 X.2.1 d_H_request_98 rfl (lv_at hl 4 rfl) ?_
                      refine lv_iload X.1 X.2.1 d_H_request_99 (lv_at hl 5 rfl) ?_
                      refine lv_iload X.1 X.2.1 d_H_request_101 (lv_at hl 6 rfl) ?_
                      refine lv_aload_n X.1 X.2.1 d_H_request_103 rfl (lv_at hl 1 rfl) ?_
                      refine t_getr (ci := 0) X Y S k0 rfl i_H 3 (by decide) rfl (k1 := 13) (k2 := 40) rfl rfl lk_H_28 (fun _ h9 => h9) d_H_request_104 (fun b130 e130 k130 => ?_)
                      refine t_av (t_runV (As := [.int (iI a2), .int (iI a3), .int (iI a4), .int (iI a5), .ref b130]) (rest := []) (n := 5) X Y S k129 hml hl.1 (c_Ag_keepAsked l D E T κ L f126 H.size b129 k129 a2 (by omega) (by omega) a3 (by omega) (by omega) a4 (by omega) (by omega) a5 (by omega) (by omega) b130 40 k130 (by omega) S.1) (ok_k X Y hA KS KR) rfl kl_H_Ag_keepAsked ks_Ag_keepAsked kx_Ag_keepAsked ki_Ag_keepAsked ini_Ag ⟨rfl, rfl⟩ hd_Ag_keepAsked ⟨Nat.le_of_ble_eq_true rfl, Nat.le_of_ble_eq_true rfl⟩ rfl (Nat.le_of_ble_eq_true rfl) d_H_request_107 ⟨Nat.le_of_ble_eq_true rfl, Nat.le_of_ble_eq_true rfl⟩) X Y hA S (by decide) (fun κ131 L131 f131 H locs Y S s131 p131 => ?_)
                      have k132 : κ131 h = (10, 0) := tLe_k s131.2.2.1 k0
                      refine lv_aload_n X.1 X.2.1 d_H_request_110 rfl (lv_at hl 1 rfl) ?_
                      refine t_getr (ci := 0) X Y S k132 rfl i_H 7 (by decide) rfl (k1 := 6) (k2 := 4) rfl rfl lk_H_49 (fun _ h9 => h9) d_H_request_111 (fun b133 e133 k133 => ?_)
                      refine lv_iload_n X.1 X.2.1 d_H_request_114 rfl (lv_at hl 2 rfl) ?_
                      refine t_aald X Y S k133 (fun h9 => h9) (t0 := 3) rfl (by omega) (by omega) (by omega) d_H_request_115 (fun b134 e134 k134 => ?_)
                      refine lv_iload X.1 X.2.1 d_H_request_116 (lv_at hl 5 rfl) ?_
                      refine lv_iload X.1 X.2.1 d_H_request_118 (lv_at hl 7 rfl) ?_
                      refine lv_iload X.1 X.2.1 d_H_request_120 (lv_at hl 8 rfl) ?_
                      refine t_nv (t_runV (As := [.int (iI a4), .int (iI a6), .int (iI a7)]) (rest := []) (n := 3) X Y S k134 hml hl.1 (c_Ag_putBody l D E T κ131 L131 f131 H.size b134 k134 a4 (by omega) (by omega) a6 (by omega) (by omega) a7 (by omega) (by omega) S.1) (ok_k X Y hA KS KR) rfl kl_H_Ag_putBody ks_Ag_putBody kx_Ag_putBody ki_Ag_putBody ini_Ag ⟨rfl, rfl⟩ hd_Ag_putBody ⟨Nat.le_of_ble_eq_true rfl, Nat.le_of_ble_eq_true rfl⟩ rfl (Nat.le_of_ble_eq_true rfl) d_H_request_122 ⟨Nat.le_of_ble_eq_true rfl, Nat.le_of_ble_eq_true rfl⟩) X Y hA S (by decide) (fun f135 H locs Y S s135 p135 => ?_)
                      refine lv_aload_n X.1 X.2.1 d_H_request_125 rfl (lv_at hl 1 rfl) ?_
                      refine t_get0 (ci := 0) X Y S k132 rfl i_H 7 (by decide) rfl lk_H_49 (fun _ h9 => h9) d_H_request_126 ((gF_same (s135.2.2.2 _ ⟨(t_obj S.1 k132).1, nM_of k132 (by decide), by simp⟩).1 7).trans e133) ?_
                      refine lv_iload_n X.1 X.2.1 d_H_request_129 rfl (lv_at hl 2 rfl) ?_
                      refine t_aald X Y S k133 (fun h9 => h9) (t0 := 3) rfl (by omega) (by omega) (by omega) d_H_request_130 (fun b136 e136 k136 => ?_)
                      refine lv_iload_n X.1 X.2.1 d_H_request_131 rfl (lv_at hl 4 rfl) ?_
                      refine lv_aload_n X.1 X.2.1 d_H_request_132 rfl (lv_at hl 1 rfl) ?_
                      refine t_getr (ci := 0) X Y S k132 rfl i_H 2 (by decide) rfl (k1 := 13) (k2 := 12288) rfl rfl lk_H_25 (fun _ h9 => h9) d_H_request_133 (fun b137 e137 k137 => ?_)
                      refine t_nv (t_runV (As := [.int (iI a3), .ref b137]) (rest := []) (n := 2) X Y S k136 hml hl.1 (c_Ag_putRequest l D E T κ131 L131 f135 H.size b136 k136 a3 (by omega) (by omega) b137 12288 k137 (by omega) S.1) (ok_k X Y hA KS KR) rfl kl_H_Ag_putRequest ks_Ag_putRequest kx_Ag_putRequest ki_Ag_putRequest ini_Ag ⟨rfl, rfl⟩ hd_Ag_putRequest ⟨Nat.le_of_ble_eq_true rfl, Nat.le_of_ble_eq_true rfl⟩ rfl (Nat.le_of_ble_eq_true rfl) d_H_request_136 ⟨Nat.le_of_ble_eq_true rfl, Nat.le_of_ble_eq_true rfl⟩) X Y hA S (by decide) (fun f138 H locs Y S s138 p138 => ?_)
                      refine lv_aload_n X.1 X.2.1 d_H_request_139 rfl (lv_at hl 1 rfl) ?_
                      refine t_get0 (ci := 0) X Y S k132 rfl i_H 2 (by decide) rfl lk_H_25 (fun _ h9 => h9) d_H_request_140 ((gF_same (s138.2.2.2 _ ⟨(t_obj S.1 k132).1, nM_of k132 (by decide), by simp⟩).1 2).trans e137) ?_
                      refine t_gets (ci := 3) X Y S k137 rfl i_By 1 (by decide) rfl lk_H_81 (fun _ h9 => h9) d_H_request_143 (fun z139 e139 l139 u139 => ?_)
                      exact c_reti hQQ X Y hr hlk ⟨κ131, S, z139, rfl, ⟨by omega, by omega⟩⟩ d_H_request_146
                refine z_icmp_ne (tgt := 63) X.1 X.2.1 d_H_request_47 (by decide) ⟨by omega, by omega⟩ ⟨by omega, by omega⟩ (fun h140 => ?_) (fun h140 => ?_)
                · exact J119  _ _ _  Y S (lv_sub hl [0, 1, 2, 3, 4, 5, 6, 7] rfl)
                · refine lv_aload_n X.1 X.2.1 d_H_request_50 rfl (lv_at hl 0 rfl) ?_
                  refine t_getr (ci := 0) X Y S k0 rfl i_H 7 (by decide) rfl (k1 := 6) (k2 := 4) rfl rfl lk_H_49 (fun _ h9 => h9) d_H_request_51 (fun b141 e141 k141 => ?_)
                  refine lv_iload_n X.1 X.2.1 d_H_request_54 rfl (lv_at hl 1 rfl) ?_
                  refine t_aald X Y S k141 (fun h9 => h9) (t0 := 3) rfl (by omega) (by omega) (by omega) d_H_request_55 (fun b142 e142 k142 => ?_)
                  refine lv_iload_n X.1 X.2.1 d_H_request_56 rfl (lv_at hl 3 rfl) ?_
                  refine t_ui (t_runV (As := [.int (iI a3)]) (rest := []) (n := 1) X Y S k142 hml hl.1 (c_Ag_has l D E T κ L f H.size b142 k142 a3 (by omega) (by omega) S.1) (ok_k X Y hA KS KR) rfl kl_H_Ag_has ks_Ag_has kx_Ag_has ki_Ag_has ini_Ag ⟨rfl, rfl⟩ hd_Ag_has ⟨Nat.le_of_ble_eq_true rfl, Nat.le_of_ble_eq_true rfl⟩ rfl (Nat.le_of_ble_eq_true rfl) d_H_request_57 ⟨Nat.le_of_ble_eq_true rfl, Nat.le_of_ble_eq_true rfl⟩) X Y hA (fun z143 H locs Y p143 => ?_)
                  obtain ⟨l143, u143, x143⟩ := p143
                  refine z_if_eq (tgt := 74) X.1 X.2.1 d_H_request_60 (by decide) ⟨by omega, by omega⟩ (fun h144 => ?_) (fun h144 => ?_)
                  · exact J103 f _ _ _  Y S (lv_sub hl [0, 1, 2, 3, 4, 5, 6, 7] rfl)
                  · exact J119  _ _ _  Y S (lv_sub hl [0, 1, 2, 3, 4, 5, 6, 7] rfl)
set_option maxHeartbeats 4000000 in
set_option maxRecDepth 100000 in
theorem c_H_take (l : Launch) (D : va_G) (E : cE) (T : cT) (κ : tK) (L : List Nat) (f : pF) (sz : Nat) (h : Nat) (k0 : κ h = (10, 0)) (a1 : Int) (l_a1 : (-2147483648) ≤ a1) (u_a1 : a1 ≤ 2147483647) (hw : tW E T κ L f) : Met l y_H_take (k_H_take :: lw_tg) (kRm 73 2417 3 4035) (va_Pc [.ref h, .int (iI a1)] (kPre D E T L f sz)) (va_Qi (aPi E T [1, 2, 3, 4, 11, 12, 13, 16, 20] [] κ L f (fun (z : Int) (k : tK) (g : pF) => (-2147483648) ≤ z ∧ z ≤ 2147483647)) (cPost D E (pA L sz)) (pA L sz)) 3 4035 (pA L sz) := by
  refine k_enter (own := R_H) (by decide) rfl (Nat.le_of_ble_eq_true rfl) (fun p e s m below meth c ls AV QQ H locs hQQ X Y hA hin hr hlk hml hl KS KR => ?_)
  have hl : lv_has ls 3 [(0, .ref h), (1, .int (iI a1))] := hl
  have S : tS E T (tFr κ L [1, 2, 3, 4, 11, 12, 13, 16, 20] []) κ L f κ L f := tS_rf hw
  have hF0 : ∀ b, tFr κ L [1, 2, 3, 4, 11, 12, 13, 16, 20] [] b → b ∈ L := fun b h9 => h9.1
  refine lv_aload_n X.1 X.2.1 d_H_take_0 rfl (lv_at hl 0 rfl) ?_
  refine lv_iload_n X.1 X.2.1 d_H_take_1 rfl (lv_at hl 1 rfl) ?_
  refine t_ui (t_runV (As := [.int (iI a1)]) (rest := []) (n := 1) X Y S k0 hml hl.1 (c_H_isAgent l D E T κ L f H.size h k0 a1 (by omega) (by omega) S.1) (ok_k X Y hA KS KR) rfl kl_H_H_isAgent ks_H_isAgent kx_H_isAgent ki_H_isAgent ini_H ⟨rfl, rfl⟩ hd_H_isAgent ⟨Nat.le_of_ble_eq_true rfl, Nat.le_of_ble_eq_true rfl⟩ rfl (Nat.le_of_ble_eq_true rfl) d_H_take_2 ⟨Nat.le_of_ble_eq_true rfl, Nat.le_of_ble_eq_true rfl⟩) X Y hA (fun z101 H locs Y p101 => ?_)
  obtain ⟨l101, u101, x101⟩ := p101
  have J107 : ∀ (κ103 : tK) (L104 : List Nat) (z106 : Int) (f102 : pF) (H : Heap) (locs : List Loc) (ls : Array Slot), (κ103 h = (10, 0)) → ((-2147483648) ≤ z106) → (z106 ≤ 2147483647) → pH D cCl (pA L sz) s.heap L104 f102 H locs → tS E T (tFr κ L [1, 2, 3, 4, 11, 12, 13, 16, 20] []) κ L f κ103 L104 f102 → lv_has ls 3 [(0, .ref h)] → W p l e (kRm 73 2417 3 4035) s m AV below meth c H locs 3 4035 QQ (F0 m 25 ls [.int (iI z106)]) := by
    intro κ103 L104 z106 f102 H locs ls k105 l106 u106 Y S hl
    refine lv_istore_n (lv' := [(2, .int (iI z106)), (0, .ref h)]) X.1 X.2.1 d_H_take_25 rfl hl (by decide) rfl (fun ls hl => ?_)
    refine lv_aload_n X.1 X.2.1 d_H_take_26 rfl (lv_at hl 1 rfl) ?_
    refine t_getr (ci := 0) X Y S k105 rfl i_H 1 (by decide) rfl (k1 := 13) (k2 := 4000) rfl rfl lk_H_21 (fun _ h9 => h9) d_H_take_27 (fun b111 e111 k111 => ?_)
    refine t_nv (t_runV (As := []) (rest := []) (n := 0) X Y S k111 hml hl.1 (c_By_clear l D E T κ103 L104 f102 H.size b111 4000 k111 (by omega) S.1) (ok_k X Y hA KS KR) rfl kl_H_By_clear ks_By_clear kx_By_clear ki_By_clear ini_By ⟨rfl, rfl⟩ hd_By_clear ⟨Nat.le_of_ble_eq_true rfl, Nat.le_of_ble_eq_true rfl⟩ rfl (Nat.le_of_ble_eq_true rfl) d_H_take_30 ⟨Nat.le_of_ble_eq_true rfl, Nat.le_of_ble_eq_true rfl⟩) X Y hA S (by decide) (fun f112 H locs Y S s112 p112 => ?_)
    refine lv_iload_n X.1 X.2.1 d_H_take_33 rfl (lv_at hl 0 rfl) ?_
    exact c_reti hQQ X Y hr hlk ⟨κ103, S, z106, rfl, ⟨by omega, by omega⟩⟩ d_H_take_34
  refine z_if_eq (tgt := 24) X.1 X.2.1 d_H_take_5 (by decide) ⟨by omega, by omega⟩ (fun h113 => ?_) (fun h113 => ?_)
  · refine lv_iconst (v := iI (-1)) X.1 X.2.1 d_H_take_24 (by decide) ?_
    refine W.widen (k := 3) (n := 4035) (Nat.le_of_ble_eq_true rfl) (Nat.le_of_ble_eq_true rfl) ?_
    exact J107 κ L ((-1)) f _ _ _ k0 (by omega) (by omega) Y S (lv_sub hl [0] rfl)
  · refine lv_aload_n X.1 X.2.1 d_H_take_8 rfl (lv_at hl 0 rfl) ?_
    refine t_getr (ci := 0) X Y S k0 rfl i_H 7 (by decide) rfl (k1 := 6) (k2 := 4) rfl rfl lk_H_49 (fun _ h9 => h9) d_H_take_9 (fun b114 e114 k114 => ?_)
    refine lv_iload_n X.1 X.2.1 d_H_take_12 rfl (lv_at hl 1 rfl) ?_
    refine t_aald X Y S k114 (fun h9 => h9) (t0 := 3) rfl (by omega) (by omega) (by omega) d_H_take_13 (fun b115 e115 k115 => ?_)
    refine lv_aload_n X.1 X.2.1 d_H_take_14 rfl (lv_at hl 0 rfl) ?_
    refine t_getr (ci := 0) X Y S k0 rfl i_H 1 (by decide) rfl (k1 := 13) (k2 := 4000) rfl rfl lk_H_21 (fun _ h9 => h9) d_H_take_15 (fun b116 e116 k116 => ?_)
    refine t_ai (t_runV (As := [.ref b116]) (rest := []) (n := 1) X Y S k115 hml hl.1 (c_Ag_hearReply l D E T κ L f H.size b115 k115 b116 4000 k116 (by omega) S.1) (ok_k X Y hA KS KR) rfl kl_H_Ag_hearReply ks_Ag_hearReply kx_Ag_hearReply ki_Ag_hearReply ini_Ag ⟨rfl, rfl⟩ hd_Ag_hearReply ⟨Nat.le_of_ble_eq_true rfl, Nat.le_of_ble_eq_true rfl⟩ rfl (Nat.le_of_ble_eq_true rfl) d_H_take_18 ⟨Nat.le_of_ble_eq_true rfl, Nat.le_of_ble_eq_true rfl⟩) X Y hA S (by decide) (fun z117 κ117 L117 f117 H locs Y S s117 p117 => ?_)
    obtain ⟨l117, u117⟩ := p117
    have k118 : κ117 h = (10, 0) := tLe_k s117.2.2.1 k0
    refine lv_goto (tgt := 25) X.1 X.2.1 d_H_take_21 (by decide) ?_
    exact J107 κ117 L117 z117 f117 _ _ _ k118 (by omega) (by omega) Y S (lv_sub hl [0] rfl)
set_option maxHeartbeats 4000000 in
set_option maxRecDepth 100000 in
theorem c_H_ticket (l : Launch) (D : va_G) (E : cE) (T : cT) (κ : tK) (L : List Nat) (f : pF) (sz : Nat) (h : Nat) (k0 : κ h = (10, 0)) (a1 : Int) (l_a1 : (-2147483648) ≤ a1) (u_a1 : a1 ≤ 2147483647) (a2 : Int) (l_a2 : (-2147483648) ≤ a2) (u_a2 : a2 ≤ 2147483647) (a3 : Int) (l_a3 : (-2147483648) ≤ a3) (u_a3 : a3 ≤ 2147483647) (hw : tW E T κ L f) : Met l y_H_ticket (k_H_ticket :: lw_tg) (kRm 3 103 0 0) (va_Pc [.ref h, .int (iI a1), .int (iI a2), .int (iI a3)] (kPre D E T L f sz)) (va_Qi (uPi L f (fun (z : Int) => (-2147483648) ≤ z ∧ z ≤ 2147483647)) (cPost D E (pA L sz)) (pA L sz)) 0 0 (pA L sz) := by
  refine k_enter (own := R_H) (by decide) rfl (Nat.le_of_ble_eq_true rfl) (fun p e s m below meth c ls AV QQ H locs hQQ X Y hA hin hr hlk hml hl KS KR => ?_)
  have hl : lv_has ls 4 [(0, .ref h), (1, .int (iI a1)), (2, .int (iI a2)), (3, .int (iI a3))] := hl
  have S : tS E T (tFr κ L [] []) κ L f κ L f := tS_rf hw
  refine lv_aload_n X.1 X.2.1 d_H_ticket_0 rfl (lv_at hl 0 rfl) ?_
  refine lv_iload_n X.1 X.2.1 d_H_ticket_1 rfl (lv_at hl 1 rfl) ?_
  refine lv_iload_n X.1 X.2.1 d_H_ticket_2 rfl (lv_at hl 2 rfl) ?_
  refine t_ui (t_runV (As := [.int (iI a1), .int (iI a2)]) (rest := []) (n := 2) X Y S k0 hml hl.1 (c_H_hasTicket l D E T κ L f H.size h k0 a1 (by omega) (by omega) a2 (by omega) (by omega) S.1) (ok_k X Y hA KS KR) rfl kl_H_H_hasTicket ks_H_hasTicket kx_H_hasTicket ki_H_hasTicket ini_H ⟨rfl, rfl⟩ hd_H_hasTicket ⟨Nat.le_of_ble_eq_true rfl, Nat.le_of_ble_eq_true rfl⟩ rfl (Nat.le_of_ble_eq_true rfl) d_H_ticket_3 ⟨Nat.le_of_ble_eq_true rfl, Nat.le_of_ble_eq_true rfl⟩) X Y hA (fun z101 H locs Y p101 => ?_)
  obtain ⟨l101, u101, x101⟩ := p101
  refine z_if_eq (tgt := 27) X.1 X.2.1 d_H_ticket_6 (by decide) ⟨by omega, by omega⟩ (fun h102 => ?_) (fun h102 => ?_)
  · refine lv_iconst (v := iI (-1)) X.1 X.2.1 d_H_ticket_27 (by decide) ?_
    exact c_reti hQQ X Y hr hlk ⟨rfl, rfl, (-1), rfl, ⟨by omega, by omega⟩⟩ d_H_ticket_28
  · refine lv_aload_n X.1 X.2.1 d_H_ticket_9 rfl (lv_at hl 0 rfl) ?_
    refine t_getr (ci := 0) X Y S k0 rfl i_H 7 (by decide) rfl (k1 := 6) (k2 := 4) rfl rfl lk_H_49 (fun _ h9 => h9) d_H_ticket_10 (fun b103 e103 k103 => ?_)
    refine lv_iload_n X.1 X.2.1 d_H_ticket_13 rfl (lv_at hl 1 rfl) ?_
    refine t_aald X Y S k103 (fun h9 => h9) (t0 := 3) rfl (by omega) (by omega) (by omega) d_H_ticket_14 (fun b104 e104 k104 => ?_)
    refine t_getr (ci := 2) X Y S k104 rfl i_Ag 1 (by decide) rfl (k1 := 8) (k2 := 8) rfl rfl lk_H_225 (fun _ h9 => h9) d_H_ticket_15 (fun b105 e105 k105 => ?_)
    refine lv_iload_n X.1 X.2.1 d_H_ticket_18 rfl (lv_at hl 2 rfl) ?_
    refine t_aald X Y S k105 (fun h9 => h9) (t0 := 5) rfl (by omega) (by omega) (by omega) d_H_ticket_19 (fun b106 e106 k106 => ?_)
    refine lv_iload_n X.1 X.2.1 d_H_ticket_20 rfl (lv_at hl 3 rfl) ?_
    refine t_ui (t_runV (As := [.int (iI a3)]) (rest := []) (n := 1) X Y S k106 hml hl.1 (c_Ti_tell l D E T κ L f H.size b106 k106 a3 (by omega) (by omega) S.1) (ok_k X Y hA KS KR) rfl kl_H_Ti_tell ks_Ti_tell kx_Ti_tell ki_Ti_tell ini_Ti ⟨rfl, rfl⟩ hd_Ti_tell ⟨Nat.le_of_ble_eq_true rfl, Nat.le_of_ble_eq_true rfl⟩ rfl (Nat.le_of_ble_eq_true rfl) d_H_ticket_21 ⟨Nat.le_of_ble_eq_true rfl, Nat.le_of_ble_eq_true rfl⟩) X Y hA (fun z107 H locs Y p107 => ?_)
    obtain ⟨l107, u107⟩ := p107
    refine lv_goto (tgt := 28) X.1 X.2.1 d_H_ticket_24 (by decide) ?_
    exact c_reti hQQ X Y hr hlk ⟨rfl, rfl, z107, rfl, ⟨by omega, by omega⟩⟩ d_H_ticket_28
set_option maxHeartbeats 4000000 in
set_option maxRecDepth 100000 in
theorem c_H_drop (l : Launch) (D : va_G) (E : cE) (T : cT) (κ : tK) (L : List Nat) (f : pF) (sz : Nat) (h : Nat) (k0 : κ h = (10, 0)) (a1 : Int) (l_a1 : (-2147483648) ≤ a1) (u_a1 : a1 ≤ 2147483647) (a2 : Int) (l_a2 : (-2147483648) ≤ a2) (u_a2 : a2 ≤ 2147483647) (hw : tW E T κ L f) : Met l y_H_drop (k_H_drop :: lw_tg) (kRm 3 103 0 0) (va_Pc [.ref h, .int (iI a1), .int (iI a2)] (kPre D E T L f sz)) (va_Qi (nPi E T [20] κ L f (fun (z : Int) (g : pF) => 0 ≤ z ∧ z ≤ 1)) (cPost D E (pA L sz)) (pA L sz)) 0 0 (pA L sz) := by
  refine k_enter (own := R_H) (by decide) rfl (Nat.le_of_ble_eq_true rfl) (fun p e s m below meth c ls AV QQ H locs hQQ X Y hA hin hr hlk hml hl KS KR => ?_)
  have hl : lv_has ls 3 [(0, .ref h), (1, .int (iI a1)), (2, .int (iI a2))] := hl
  have S : tS E T (tFr κ L [20] []) κ L f κ L f := tS_rf hw
  refine lv_aload_n X.1 X.2.1 d_H_drop_0 rfl (lv_at hl 0 rfl) ?_
  refine lv_iload_n X.1 X.2.1 d_H_drop_1 rfl (lv_at hl 1 rfl) ?_
  refine lv_iload_n X.1 X.2.1 d_H_drop_2 rfl (lv_at hl 2 rfl) ?_
  refine t_ui (t_runV (As := [.int (iI a1), .int (iI a2)]) (rest := []) (n := 2) X Y S k0 hml hl.1 (c_H_hasTicket l D E T κ L f H.size h k0 a1 (by omega) (by omega) a2 (by omega) (by omega) S.1) (ok_k X Y hA KS KR) rfl kl_H_H_hasTicket ks_H_hasTicket kx_H_hasTicket ki_H_hasTicket ini_H ⟨rfl, rfl⟩ hd_H_hasTicket ⟨Nat.le_of_ble_eq_true rfl, Nat.le_of_ble_eq_true rfl⟩ rfl (Nat.le_of_ble_eq_true rfl) d_H_drop_3 ⟨Nat.le_of_ble_eq_true rfl, Nat.le_of_ble_eq_true rfl⟩) X Y hA (fun z101 H locs Y p101 => ?_)
  obtain ⟨l101, u101, x101⟩ := p101
  refine z_if_ne (tgt := 11) X.1 X.2.1 d_H_drop_6 (by decide) ⟨by omega, by omega⟩ (fun h102 => ?_) (fun h102 => ?_)
  · refine lv_aload_n X.1 X.2.1 d_H_drop_11 rfl (lv_at hl 0 rfl) ?_
    refine t_getr (ci := 0) X Y S k0 rfl i_H 7 (by decide) rfl (k1 := 6) (k2 := 4) rfl rfl lk_H_49 (fun _ h9 => h9) d_H_drop_12 (fun b103 e103 k103 => ?_)
    refine lv_iload_n X.1 X.2.1 d_H_drop_15 rfl (lv_at hl 1 rfl) ?_
    refine t_aald X Y S k103 (fun h9 => h9) (t0 := 3) rfl (by omega) (by omega) (by omega) d_H_drop_16 (fun b104 e104 k104 => ?_)
    refine t_getr (ci := 2) X Y S k104 rfl i_Ag 1 (by decide) rfl (k1 := 8) (k2 := 8) rfl rfl lk_H_225 (fun _ h9 => h9) d_H_drop_17 (fun b105 e105 k105 => ?_)
    refine lv_iload_n X.1 X.2.1 d_H_drop_20 rfl (lv_at hl 2 rfl) ?_
    refine t_aald X Y S k105 (fun h9 => h9) (t0 := 5) rfl (by omega) (by omega) (by omega) d_H_drop_21 (fun b106 e106 k106 => ?_)
    refine lv_iconst (v := iI 0) X.1 X.2.1 d_H_drop_22 (by decide) ?_
    refine t_put (ci := 10) X Y S k106 rfl i_Ti t_Ti t_Ti_ok n_Ti 3 (by decide) rfl lk_H_234 (fun _ h9 => h9) rfl (t_Ti_ok 3 (by decide)) (iI_bool (by omega) (by omega)).1 (iI_bool (by omega) (by omega)).2 ⟨_, rfl, (show (0 : Int) ≤ 0 by omega), (show 0 ≤ (1 : Int) by omega)⟩ (nF_of S k106 (by decide)) d_H_drop_23 (fun f107 H locs Y S w107 => ?_)
    refine lv_iconst (v := iI 1) X.1 X.2.1 d_H_drop_26 (by decide) ?_
    exact c_retz hQQ X Y hr hlk (iI_bool (by omega) (by omega)).1 ⟨rfl, S, 1, rfl, ⟨by omega, by omega⟩⟩ d_H_drop_27
  · refine lv_iconst (v := iI 0) X.1 X.2.1 d_H_drop_9 (by decide) ?_
    exact c_retz hQQ X Y hr hlk (iI_bool (by omega) (by omega)).1 ⟨rfl, S, 0, rfl, ⟨by omega, by omega⟩⟩ d_H_drop_10
set_option maxHeartbeats 4000000 in
set_option maxRecDepth 100000 in
theorem c_H_present (l : Launch) (D : va_G) (E : cE) (T : cT) (κ : tK) (L : List Nat) (f : pF) (sz : Nat) (h : Nat) (k0 : κ h = (10, 0)) (a1 : Int) (l_a1 : (-2147483648) ≤ a1) (u_a1 : a1 ≤ 2147483647) (a2 : Int) (l_a2 : (-2147483648) ≤ a2) (u_a2 : a2 ≤ 2147483647) (a3 : Int) (l_a3 : (-2147483648) ≤ a3) (u_a3 : a3 ≤ 2147483647) (hw : tW E T κ L f) : Met l y_H_present (k_H_present :: lw_tg) (kRm 9 238 1 32) (va_Pc [.ref h, .int (iI a1), .int (iI a2), .int (iI a3)] (kPre D E T L f sz)) (va_Qi (aPi E T [1, 2, 3, 4, 11, 12, 13, 16, 21] [] κ L f (fun (z : Int) (k : tK) (g : pF) => (-2147483648) ≤ z ∧ z ≤ 2147483647)) (cPost D E (pA L sz)) (pA L sz)) 1 32 (pA L sz) := by
  refine k_enter (own := R_H) (by decide) rfl (Nat.le_of_ble_eq_true rfl) (fun p e s m below meth c ls AV QQ H locs hQQ X Y hA hin hr hlk hml hl KS KR => ?_)
  have hl : lv_has ls 4 [(0, .ref h), (1, .int (iI a1)), (2, .int (iI a2)), (3, .int (iI a3))] := hl
  have S : tS E T (tFr κ L [1, 2, 3, 4, 11, 12, 13, 16, 21] []) κ L f κ L f := tS_rf hw
  have hF0 : ∀ b, tFr κ L [1, 2, 3, 4, 11, 12, 13, 16, 21] [] b → b ∈ L := fun b h9 => h9.1
  refine lv_aload_n X.1 X.2.1 d_H_present_0 rfl (lv_at hl 0 rfl) ?_
  refine lv_iload_n X.1 X.2.1 d_H_present_1 rfl (lv_at hl 1 rfl) ?_
  refine lv_iload_n X.1 X.2.1 d_H_present_2 rfl (lv_at hl 2 rfl) ?_
  refine t_ui (t_runV (As := [.int (iI a1), .int (iI a2)]) (rest := []) (n := 2) X Y S k0 hml hl.1 (c_H_hasTicket l D E T κ L f H.size h k0 a1 (by omega) (by omega) a2 (by omega) (by omega) S.1) (ok_k X Y hA KS KR) rfl kl_H_H_hasTicket ks_H_hasTicket kx_H_hasTicket ki_H_hasTicket ini_H ⟨rfl, rfl⟩ hd_H_hasTicket ⟨Nat.le_of_ble_eq_true rfl, Nat.le_of_ble_eq_true rfl⟩ rfl (Nat.le_of_ble_eq_true rfl) d_H_present_3 ⟨Nat.le_of_ble_eq_true rfl, Nat.le_of_ble_eq_true rfl⟩) X Y hA (fun z101 H locs Y p101 => ?_)
  obtain ⟨l101, u101, x101⟩ := p101
  refine z_if_eq (tgt := 18) X.1 X.2.1 d_H_present_6 (by decide) ⟨by omega, by omega⟩ (fun h102 => ?_) (fun h102 => ?_)
  · refine lv_iconst (v := iI (-1)) X.1 X.2.1 d_H_present_18 (by decide) ?_
    refine W.widen (k := 1) (n := 32) (Nat.le_of_ble_eq_true rfl) (Nat.le_of_ble_eq_true rfl) ?_
    exact c_reti hQQ X Y hr hlk ⟨κ, S, (-1), rfl, ⟨by omega, by omega⟩⟩ d_H_present_19
  · refine lv_iload_n X.1 X.2.1 d_H_present_9 rfl (lv_at hl 3 rfl) ?_
    refine z_if_lt (tgt := 18) X.1 X.2.1 d_H_present_10 (by decide) ⟨by omega, by omega⟩ (fun h103 => ?_) (fun h103 => ?_)
    · refine lv_iconst (v := iI (-1)) X.1 X.2.1 d_H_present_18 (by decide) ?_
      refine W.widen (k := 1) (n := 32) (Nat.le_of_ble_eq_true rfl) (Nat.le_of_ble_eq_true rfl) ?_
      exact c_reti hQQ X Y hr hlk ⟨κ, S, (-1), rfl, ⟨by omega, by omega⟩⟩ d_H_present_19
    · refine lv_iload_n X.1 X.2.1 d_H_present_13 rfl (lv_at hl 3 rfl) ?_
      refine lv_iconst (v := iI 3) X.1 X.2.1 d_H_present_14 (by decide) ?_
      refine z_icmp_le (tgt := 20) X.1 X.2.1 d_H_present_15 (by decide) ⟨by omega, by omega⟩ ⟨by omega, by omega⟩ (fun h104 => ?_) (fun h104 => ?_)
      · refine lv_aload_n X.1 X.2.1 d_H_present_20 rfl (lv_at hl 0 rfl) ?_
        refine t_getr (ci := 0) X Y S k0 rfl i_H 7 (by decide) rfl (k1 := 6) (k2 := 4) rfl rfl lk_H_49 (fun _ h9 => h9) d_H_present_21 (fun b105 e105 k105 => ?_)
        refine lv_iload_n X.1 X.2.1 d_H_present_24 rfl (lv_at hl 1 rfl) ?_
        refine t_aald X Y S k105 (fun h9 => h9) (t0 := 3) rfl (by omega) (by omega) (by omega) d_H_present_25 (fun b106 e106 k106 => ?_)
        refine lv_aload_n X.1 X.2.1 d_H_present_26 rfl (lv_at hl 0 rfl) ?_
        refine t_get0 (ci := 0) X Y S k0 rfl i_H 7 (by decide) rfl lk_H_49 (fun _ h9 => h9) d_H_present_27 e105 ?_
        refine lv_iload_n X.1 X.2.1 d_H_present_30 rfl (lv_at hl 1 rfl) ?_
        refine t_aald0 X Y S k105 (fun h9 => h9) (t0 := 3) rfl (by omega) (by omega) (by omega) d_H_present_31 e106 ?_
        refine t_getr (ci := 2) X Y S k106 rfl i_Ag 1 (by decide) rfl (k1 := 8) (k2 := 8) rfl rfl lk_H_225 (fun _ h9 => h9) d_H_present_32 (fun b107 e107 k107 => ?_)
        refine lv_iload_n X.1 X.2.1 d_H_present_35 rfl (lv_at hl 2 rfl) ?_
        refine t_aald X Y S k107 (fun h9 => h9) (t0 := 5) rfl (by omega) (by omega) (by omega) d_H_present_36 (fun b108 e108 k108 => ?_)
        refine lv_iload_n X.1 X.2.1 d_H_present_37 rfl (lv_at hl 3 rfl) ?_
        refine lv_aload_n X.1 X.2.1 d_H_present_38 rfl (lv_at hl 0 rfl) ?_
        refine t_getr (ci := 0) X Y S k0 rfl i_H 2 (by decide) rfl (k1 := 13) (k2 := 12288) rfl rfl lk_H_25 (fun _ h9 => h9) d_H_present_39 (fun b109 e109 k109 => ?_)
        refine t_av (t_runV (As := [.ref b108, .int (iI a3), .ref b109]) (rest := []) (n := 3) X Y S k106 hml hl.1 (c_Ag_goWith l D E T κ L f H.size b106 k106 b108 k108 a3 (by omega) (by omega) b109 12288 k109 (by omega) S.1) (ok_k X Y hA KS KR) rfl kl_H_Ag_goWith ks_Ag_goWith kx_Ag_goWith ki_Ag_goWith ini_Ag ⟨rfl, rfl⟩ hd_Ag_goWith ⟨Nat.le_of_ble_eq_true rfl, Nat.le_of_ble_eq_true rfl⟩ rfl (Nat.le_of_ble_eq_true rfl) d_H_present_42 ⟨Nat.le_of_ble_eq_true rfl, Nat.le_of_ble_eq_true rfl⟩) X Y hA S (by decide) (fun κ110 L110 f110 H locs Y S s110 p110 => ?_)
        have k111 : κ110 h = (10, 0) := tLe_k s110.2.2.1 k0
        refine lv_aload_n X.1 X.2.1 d_H_present_45 rfl (lv_at hl 0 rfl) ?_
        refine t_getr (ci := 0) X Y S k111 rfl i_H 2 (by decide) rfl (k1 := 13) (k2 := 12288) rfl rfl lk_H_25 (fun _ h9 => h9) d_H_present_46 (fun b112 e112 k112 => ?_)
        refine t_gets (ci := 3) X Y S k112 rfl i_By 1 (by decide) rfl lk_H_81 (fun _ h9 => h9) d_H_present_49 (fun z113 e113 l113 u113 => ?_)
        exact c_reti hQQ X Y hr hlk ⟨κ110, S, z113, rfl, ⟨by omega, by omega⟩⟩ d_H_present_52
      · refine lv_iconst (v := iI (-1)) X.1 X.2.1 d_H_present_18 (by decide) ?_
        refine W.widen (k := 1) (n := 32) (Nat.le_of_ble_eq_true rfl) (Nat.le_of_ble_eq_true rfl) ?_
        exact c_reti hQQ X Y hr hlk ⟨κ, S, (-1), rfl, ⟨by omega, by omega⟩⟩ d_H_present_19
set_option maxHeartbeats 4000000 in
set_option maxRecDepth 100000 in
theorem c_H_serve (l : Launch) (D : va_G) (E : cE) (T : cT) (κ : tK) (L : List Nat) (f : pF) (sz : Nat) (h : Nat) (k0 : κ h = (10, 0)) (a1 : Int) (l_a1 : (-2147483648) ≤ a1) (u_a1 : a1 ≤ 2147483647) (hw : tW E T κ L f) : Met l y_H_serve (k_H_serve :: lw_tg) (kRm 73 2420 3 96) (va_Pc [.ref h, .int (iI a1)] (kPre D E T L f sz)) (va_Qi (aPi E T [1, 2, 3, 4, 11, 13, 15, 16, 18, 19, 21] [] κ L f (fun (z : Int) (k : tK) (g : pF) => (-2147483648) ≤ z ∧ z ≤ 2147483647)) (cPost D E (pA L sz)) (pA L sz)) 3 96 (pA L sz) := by
  refine k_enter (own := R_H) (by decide) rfl (Nat.le_of_ble_eq_true rfl) (fun p e s m below meth c ls AV QQ H locs hQQ X Y hA hin hr hlk hml hl KS KR => ?_)
  have hl : lv_has ls 5 [(0, .ref h), (1, .int (iI a1))] := hl
  have S : tS E T (tFr κ L [1, 2, 3, 4, 11, 13, 15, 16, 18, 19, 21] []) κ L f κ L f := tS_rf hw
  have hF0 : ∀ b, tFr κ L [1, 2, 3, 4, 11, 13, 15, 16, 18, 19, 21] [] b → b ∈ L := fun b h9 => h9.1
  refine lv_aload_n X.1 X.2.1 d_H_serve_0 rfl (lv_at hl 0 rfl) ?_
  refine lv_iload_n X.1 X.2.1 d_H_serve_1 rfl (lv_at hl 1 rfl) ?_
  refine t_ui (t_runV (As := [.int (iI a1)]) (rest := []) (n := 1) X Y S k0 hml hl.1 (c_H_isPrincipal l D E T κ L f H.size h k0 a1 (by omega) (by omega) S.1) (ok_k X Y hA KS KR) rfl kl_H_H_isPrincipal ks_H_isPrincipal kx_H_isPrincipal ki_H_isPrincipal ini_H ⟨rfl, rfl⟩ hd_H_isPrincipal ⟨Nat.le_of_ble_eq_true rfl, Nat.le_of_ble_eq_true rfl⟩ rfl (Nat.le_of_ble_eq_true rfl) d_H_serve_2 ⟨Nat.le_of_ble_eq_true rfl, Nat.le_of_ble_eq_true rfl⟩) X Y hA (fun z101 H locs Y p101 => ?_)
  obtain ⟨l101, u101, x101⟩ := p101
  refine z_if_ne (tgt := 17) X.1 X.2.1 d_H_serve_5 (by decide) ⟨by omega, by omega⟩ (fun h102 => ?_) (fun h102 => ?_)
  · refine lv_aload_n X.1 X.2.1 d_H_serve_17 rfl (lv_at hl 0 rfl) ?_
    refine t_getr (ci := 0) X Y S k0 rfl i_H 4 (by decide) rfl (k1 := 5) (k2 := 12) rfl rfl lk_H_42 (fun _ h9 => h9) d_H_serve_18 (fun b103 e103 k103 => ?_)
    refine lv_iload_n X.1 X.2.1 d_H_serve_21 rfl (lv_at hl 1 rfl) ?_
    refine t_aald X Y S k103 (fun h9 => h9) (t0 := 2) rfl (by omega) (by omega) (by omega) d_H_serve_22 (fun b104 e104 k104 => ?_)
    refine lv_astore_n (lv' := [(2, .ref b104), (0, .ref h), (1, .int (iI a1))]) X.1 X.2.1 d_H_serve_23 rfl hl (by decide) rfl (fun ls hl => ?_)
    refine lv_iconst (v := iI 0) X.1 X.2.1 d_H_serve_24 (by decide) ?_
    have J106 : ∀ (n108 : Nat) (z105 : Int) (H : Heap) (locs : List Loc) (ls : Array Slot), (8 - z105).toNat = n108 → (0 ≤ z105) → (z105 ≤ 8) → pH D cCl (pA L sz) s.heap L f H locs → tS E T (tFr κ L [1, 2, 3, 4, 11, 13, 15, 16, 18, 19, 21] []) κ L f κ L f → lv_has ls 5 [(0, .ref h), (2, .ref b104), (3, .int (iI z105))] → W p l e (kRm 73 2420 3 96) s m AV below meth c H locs 0 0 QQ (F0 m 26 ls []) := by
      intro n108
      induction n108 using Nat.strongRecOn with
      | ind n108 ih107 =>
        intro z105 H locs ls hm109 l105 u105 Y S hl
        refine lv_iload_n X.1 X.2.1 d_H_serve_26 rfl (lv_at hl 2 rfl) ?_
        refine lv_bipush (v := iI 8) X.1 X.2.1 d_H_serve_27 (by decide) ?_
        have J110 : ∀  (H : Heap) (locs : List Loc) (ls : Array Slot), pH D cCl (pA L sz) s.heap L f H locs → tS E T (tFr κ L [1, 2, 3, 4, 11, 13, 15, 16, 18, 19, 21] []) κ L f κ L f → lv_has ls 5 [(0, .ref h), (2, .ref b104), (3, .int (iI z105))] → W p l e (kRm 73 2420 3 96) s m AV below meth c H locs 0 0 QQ (F0 m 50 ls []) := by
          intro  H locs ls  Y S hl
          refine lv_aload_n X.1 X.2.1 d_H_serve_50 rfl (lv_at hl 0 rfl) ?_
          refine t_getr (ci := 0) X Y S k0 rfl i_H 5 (by decide) rfl (k1 := 15) (k2 := 0) rfl rfl lk_H_36 (fun _ h9 => h9) d_H_serve_51 (fun b114 e114 k114 => ?_)
          refine lv_aload_n X.1 X.2.1 d_H_serve_54 rfl (lv_at hl 0 rfl) ?_
          refine t_getr (ci := 0) X Y S k0 rfl i_H 1 (by decide) rfl (k1 := 13) (k2 := 4000) rfl rfl lk_H_21 (fun _ h9 => h9) d_H_serve_55 (fun b115 e115 k115 => ?_)
          refine lv_iconst (v := iI 0) X.1 X.2.1 d_H_serve_58 (by decide) ?_
          refine lv_aload_n X.1 X.2.1 d_H_serve_59 rfl (lv_at hl 0 rfl) ?_
          refine t_get0 (ci := 0) X Y S k0 rfl i_H 1 (by decide) rfl lk_H_21 (fun _ h9 => h9) d_H_serve_60 e115 ?_
          refine t_gets (ci := 3) X Y S k115 rfl i_By 1 (by decide) rfl lk_H_81 (fun _ h9 => h9) d_H_serve_63 (fun z116 e116 l116 u116 => ?_)
          refine lv_aload_n X.1 X.2.1 d_H_serve_66 rfl (lv_at hl 1 rfl) ?_
          refine lv_aload_n X.1 X.2.1 d_H_serve_67 rfl (lv_at hl 1 rfl) ?_
          refine t_getr (ci := 7) X Y S k104 rfl i_Pr 1 (by decide) rfl (k1 := 18) (k2 := 0) rfl rfl lk_H_240 (fun _ h9 => h9) d_H_serve_68 (fun b117 e117 k117 => ?_)
          refine lv_bipush (v := iI 11) X.1 X.2.1 d_H_serve_71 (by decide) ?_
          refine t_ai (t_runV (As := [.ref b115, .int (iI 0), .int (iI z116), .ref b104, .ref b117, .int (iI 11)]) (rest := []) (n := 6) X Y S k114 hml hl.1 (c_Ga_judge l D E T κ L f H.size b114 k114 b115 4000 k115 (by omega) 0 (by omega) (by omega) z116 (by omega) (by omega) b104 k104 b117 k117 11 (by omega) (by omega) S.1) (ok_k X Y hA KS KR) rfl kl_H_Ga_judge ks_Ga_judge kx_Ga_judge ki_Ga_judge ini_Ga ⟨rfl, rfl⟩ hd_Ga_judge ⟨Nat.le_of_ble_eq_true rfl, Nat.le_of_ble_eq_true rfl⟩ rfl (Nat.le_of_ble_eq_true rfl) d_H_serve_73 ⟨Nat.le_of_ble_eq_true rfl, Nat.le_of_ble_eq_true rfl⟩) X Y hA S (by decide) (fun z118 κ118 L118 f118 H locs Y S s118 p118 => ?_)
          obtain ⟨l118, u118⟩ := p118
          have k119 : κ118 h = (10, 0) := tLe_k s118.2.2.1 k0
          have k120 : κ118 b104 = (17, 0) := tLe_k s118.2.2.1 k104
          refine lv_istore (lv' := [(4, .int (iI z118)), (0, .ref h), (2, .ref b104), (3, .int (iI z105))]) X.1 X.2.1 d_H_serve_76 hl (by decide) rfl (fun ls hl => ?_)
          refine lv_iload X.1 X.2.1 d_H_serve_78 (lv_at hl 0 rfl) ?_
          refine z_if_ne (tgt := 104) X.1 X.2.1 d_H_serve_80 (by decide) ⟨by omega, by omega⟩ (fun h121 => ?_) (fun h121 => ?_)
          · refine lv_aload_n X.1 X.2.1 d_H_serve_104 rfl (lv_at hl 1 rfl) ?_
            refine t_getr (ci := 0) X Y S k119 rfl i_H 2 (by decide) rfl (k1 := 13) (k2 := 12288) rfl rfl lk_H_25 (fun _ h9 => h9) d_H_serve_105 (fun b122 e122 k122 => ?_)
            refine t_nv (t_runV (As := []) (rest := []) (n := 0) X Y S k122 hml hl.1 (c_By_clear l D E T κ118 L118 f118 H.size b122 12288 k122 (by omega) S.1) (ok_k X Y hA KS KR) rfl kl_H_By_clear ks_By_clear kx_By_clear ki_By_clear ini_By ⟨rfl, rfl⟩ hd_By_clear ⟨Nat.le_of_ble_eq_true rfl, Nat.le_of_ble_eq_true rfl⟩ rfl (Nat.le_of_ble_eq_true rfl) d_H_serve_108 ⟨Nat.le_of_ble_eq_true rfl, Nat.le_of_ble_eq_true rfl⟩) X Y hA S (by decide) (fun f123 H locs Y S s123 p123 => ?_)
            refine lv_iload X.1 X.2.1 d_H_serve_111 (lv_at hl 0 rfl) ?_
            have J128 : ∀ (κ125 : tK) (L126 : List Nat) (f124 : pF) (H : Heap) (locs : List Loc) (ls : Array Slot), (κ125 h = (10, 0)) → pH D cCl (pA L sz) s.heap L126 f124 H locs → tS E T (tFr κ L [1, 2, 3, 4, 11, 13, 15, 16, 18, 19, 21] []) κ L f κ125 L126 f124 → lv_has ls 5 [(0, .ref h), (3, .int (iI z105)), (4, .int (iI z118))] → W p l e (kRm 73 2420 3 96) s m AV below meth c H locs 2 64 QQ (F0 m 170 ls []) := by
              intro κ125 L126 f124 H locs ls k127 Y S hl
              refine lv_aload_n X.1 X.2.1 d_H_serve_170 rfl (lv_at hl 0 rfl) ?_
              refine t_getr (ci := 0) X Y S k127 rfl i_H 1 (by decide) rfl (k1 := 13) (k2 := 4000) rfl rfl lk_H_21 (fun _ h9 => h9) d_H_serve_171 (fun b132 e132 k132 => ?_)
              refine t_nv (t_runV (As := []) (rest := []) (n := 0) X Y S k132 hml hl.1 (c_By_clear l D E T κ125 L126 f124 H.size b132 4000 k132 (by omega) S.1) (ok_k X Y hA KS KR) rfl kl_H_By_clear ks_By_clear kx_By_clear ki_By_clear ini_By ⟨rfl, rfl⟩ hd_By_clear ⟨Nat.le_of_ble_eq_true rfl, Nat.le_of_ble_eq_true rfl⟩ rfl (Nat.le_of_ble_eq_true rfl) d_H_serve_174 ⟨Nat.le_of_ble_eq_true rfl, Nat.le_of_ble_eq_true rfl⟩) X Y hA S (by decide) (fun f133 H locs Y S s133 p133 => ?_)
              refine lv_iload X.1 X.2.1 d_H_serve_177 (lv_at hl 2 rfl) ?_
              refine z_if_ne (tgt := 186) X.1 X.2.1 d_H_serve_179 (by decide) ⟨by omega, by omega⟩ (fun h134 => ?_) (fun h134 => ?_)
              · refine lv_iload X.1 X.2.1 d_H_serve_186 (lv_at hl 2 rfl) ?_
                refine lv_ineg X.1 X.2.1 d_H_serve_188 ?_
                refine t_u (fun z135 l135 u135 => ?_)
                refine W.widen (k := 3) (n := 96) (Nat.le_of_ble_eq_true rfl) (Nat.le_of_ble_eq_true rfl) ?_
                exact c_reti hQQ X Y hr hlk ⟨κ125, S, z135, rfl, ⟨by omega, by omega⟩⟩ d_H_serve_189
              · refine lv_iload_n X.1 X.2.1 d_H_serve_182 rfl (lv_at hl 1 rfl) ?_
                refine lv_goto (tgt := 189) X.1 X.2.1 d_H_serve_183 (by decide) ?_
                refine W.widen (k := 3) (n := 96) (Nat.le_of_ble_eq_true rfl) (Nat.le_of_ble_eq_true rfl) ?_
                exact c_reti hQQ X Y hr hlk ⟨κ125, S, z105, rfl, ⟨by omega, by omega⟩⟩ d_H_serve_189
            refine z_if_eq (tgt := 126) X.1 X.2.1 d_H_serve_113 (by decide) ⟨by omega, by omega⟩ (fun h136 => ?_) (fun h136 => ?_)
            · refine lv_aload_n X.1 X.2.1 d_H_serve_126 rfl (lv_at hl 1 rfl) ?_
              refine t_getr (ci := 0) X Y S k119 rfl i_H 8 (by decide) rfl (k1 := 7) (k2 := 8) rfl rfl lk_H_56 (fun _ h9 => h9) d_H_serve_127 (fun b137 e137 k137 => ?_)
              refine lv_iload_n X.1 X.2.1 d_H_serve_130 rfl (lv_at hl 3 rfl) ?_
              refine t_aald X Y S k137 (fun h9 => h9) (t0 := 4) rfl (by omega) (by omega) (by omega) d_H_serve_131 (fun b138 e138 k138 => ?_)
              refine lv_aload_n X.1 X.2.1 d_H_serve_132 rfl (lv_at hl 1 rfl) ?_
              refine t_getr (ci := 0) X Y S k119 rfl i_H 5 (by decide) rfl (k1 := 15) (k2 := 0) rfl rfl lk_H_36 (fun _ h9 => h9) d_H_serve_133 (fun b139 e139 k139 => ?_)
              refine lv_aload_n X.1 X.2.1 d_H_serve_136 rfl (lv_at hl 1 rfl) ?_
              refine t_getr (ci := 0) X Y S k119 rfl i_H 1 (by decide) rfl (k1 := 13) (k2 := 4000) rfl rfl lk_H_21 (fun _ h9 => h9) d_H_serve_137 (fun b140 e140 k140 => ?_)
              refine lv_aload_n X.1 X.2.1 d_H_serve_140 rfl (lv_at hl 1 rfl) ?_
              refine t_get0 (ci := 0) X Y S k119 rfl i_H 1 (by decide) rfl lk_H_21 (fun _ h9 => h9) d_H_serve_141 e140 ?_
              refine lv_iconst (v := iI 0) X.1 X.2.1 d_H_serve_144 (by decide) ?_
              refine lv_iconst (v := iI 2) X.1 X.2.1 d_H_serve_145 (by decide) ?_
              refine t_ui (t_runV (As := [.int (iI 0), .int (iI 2)]) (rest := [.ref b140, .ref b139, .ref b138]) (n := 2) X Y S k140 hml hl.1 (c_By_field l D E T κ118 L118 f123 H.size b140 4000 k140 (by omega) 0 (by omega) (by omega) 2 (by omega) (by omega) S.1) (ok_k X Y hA KS KR) rfl kl_H_By_field ks_By_field kx_By_field ki_By_field ini_By ⟨rfl, rfl⟩ hd_By_field ⟨Nat.le_of_ble_eq_true rfl, Nat.le_of_ble_eq_true rfl⟩ rfl (Nat.le_of_ble_eq_true rfl) d_H_serve_146 ⟨Nat.le_of_ble_eq_true rfl, Nat.le_of_ble_eq_true rfl⟩) X Y hA (fun z141 H locs Y p141 => ?_)
              obtain ⟨l141, u141⟩ := p141
              refine t_ui (t_runV (As := [.int (iI z141)]) (rest := [.ref b139, .ref b138]) (n := 1) X Y S k140 hml hl.1 (c_By_bitsAt l D E T κ118 L118 f123 H.size b140 4000 k140 (by omega) z141 (by omega) (by omega) S.1) (ok_k X Y hA KS KR) rfl kl_H_By_bitsAt ks_By_bitsAt kx_By_bitsAt ki_By_bitsAt ini_By ⟨rfl, rfl⟩ hd_By_bitsAt ⟨Nat.le_of_ble_eq_true rfl, Nat.le_of_ble_eq_true rfl⟩ rfl (Nat.le_of_ble_eq_true rfl) d_H_serve_149 ⟨Nat.le_of_ble_eq_true rfl, Nat.le_of_ble_eq_true rfl⟩) X Y hA (fun z142 H locs Y p142 => ?_)
              obtain ⟨l142, u142⟩ := p142
              refine lv_ldc (v := (536870912)) X.1 X.2.1 X.2.2.2.1 (X.2.2.1 _ cn_H_255) d_H_serve_152 ?_
              refine t_eq (y := iI 536870912) (by decide) ?_
              refine z_iand X.1 X.2.1 (by omega) (by omega) d_H_serve_154 (fun z143 l143 u143 => ?_)
              have J145 : ∀ (z144 : Int) (H : Heap) (locs : List Loc) (ls : Array Slot), (0 ≤ z144) → (z144 ≤ 1) → pH D cCl (pA L sz) s.heap L118 f123 H locs → tS E T (tFr κ L [1, 2, 3, 4, 11, 13, 15, 16, 18, 19, 21] []) κ L f κ118 L118 f123 → lv_has ls 5 [(0, .ref h), (3, .int (iI z105)), (4, .int (iI z118))] → W p l e (kRm 73 2420 3 96) s m AV below meth c H locs 1 32 QQ (F0 m 163 ls [.int (iI z144), .ref b139, .ref b138]) := by
                intro z144 H locs ls l144 u144 Y S hl
                refine lv_aload_n X.1 X.2.1 d_H_serve_163 rfl (lv_at hl 0 rfl) ?_
                refine t_get0 (ci := 0) X Y S k119 rfl i_H 2 (by decide) rfl lk_H_25 (fun _ h9 => h9) d_H_serve_164 ((gF_same (s123.2.2.2 _ ⟨(t_obj S.1 k119).1, nM_of k119 (by decide), by simp⟩).1 2).trans e122) ?_
                refine t_av (t_runV (As := [.ref b139, .int (iI z144), .ref b122]) (rest := []) (n := 3) X Y S k138 hml hl.1 (c_So_begin l D E T κ118 L118 f123 H.size b138 k138 b139 k139 z144 (by omega) (by omega) b122 12288 k122 (by omega) S.1) (ok_k X Y hA KS KR) rfl kl_H_So_begin ks_So_begin kx_So_begin ki_So_begin ini_So ⟨rfl, rfl⟩ hd_So_begin ⟨Nat.le_of_ble_eq_true rfl, Nat.le_of_ble_eq_true rfl⟩ rfl (Nat.le_of_ble_eq_true rfl) d_H_serve_167 ⟨Nat.le_of_ble_eq_true rfl, Nat.le_of_ble_eq_true rfl⟩) X Y hA S (by decide) (fun κ149 L149 f149 H locs Y S s149 p149 => ?_)
                have k150 : κ149 h = (10, 0) := tLe_k s149.2.2.1 k119
                exact J128 κ149 L149 f149 _ _ _ k150 Y S (lv_sub hl [0, 1, 2] rfl)
              refine z_if_eq (tgt := 162) X.1 X.2.1 d_H_serve_155 (by decide) ⟨by omega, by omega⟩ (fun h151 => ?_) (fun h151 => ?_)
              · refine lv_iconst (v := iI 0) X.1 X.2.1 d_H_serve_162 (by decide) ?_
                exact J145 0 _ _ _ (by omega) (by omega) Y S (lv_sub hl [1, 3, 0] rfl)
              · refine lv_iconst (v := iI 1) X.1 X.2.1 d_H_serve_158 (by decide) ?_
                refine lv_goto (tgt := 163) X.1 X.2.1 d_H_serve_159 (by decide) ?_
                exact J145 1 _ _ _ (by omega) (by omega) Y S (lv_sub hl [1, 3, 0] rfl)
            · refine lv_aload_n X.1 X.2.1 d_H_serve_116 rfl (lv_at hl 1 rfl) ?_
              refine lv_aload_n X.1 X.2.1 d_H_serve_117 rfl (lv_at hl 2 rfl) ?_
              refine lv_iload X.1 X.2.1 d_H_serve_118 (lv_at hl 0 rfl) ?_
              refine t_nv (t_runV (As := [.ref b104, .int (iI z118)]) (rest := []) (n := 2) X Y S k119 hml hl.1 (c_H_putRefusal l D E T κ118 L118 f123 H.size h k119 b104 k120 z118 (by omega) (by omega) S.1) (ok_k X Y hA KS KR) rfl kl_H_H_putRefusal ks_H_putRefusal kx_H_putRefusal ki_H_putRefusal ini_H ⟨rfl, rfl⟩ hd_H_putRefusal ⟨Nat.le_of_ble_eq_true rfl, Nat.le_of_ble_eq_true rfl⟩ rfl (Nat.le_of_ble_eq_true rfl) d_H_serve_120 ⟨Nat.le_of_ble_eq_true rfl, Nat.le_of_ble_eq_true rfl⟩) X Y hA S (by decide) (fun f152 H locs Y S s152 p152 => ?_)
              refine lv_goto (tgt := 170) X.1 X.2.1 d_H_serve_123 (by decide) ?_
              refine W.widen (k := 2) (n := 64) (Nat.le_of_ble_eq_true rfl) (Nat.le_of_ble_eq_true rfl) ?_
              exact J128 κ118 L118 f152 _ _ _ k119 Y S (lv_sub hl [1, 3, 0] rfl)
          · refine lv_aload_n X.1 X.2.1 d_H_serve_83 rfl (lv_at hl 1 rfl) ?_
            refine t_getr (ci := 0) X Y S k119 rfl i_H 5 (by decide) rfl (k1 := 15) (k2 := 0) rfl rfl lk_H_36 (fun _ h9 => h9) d_H_serve_84 (fun b153 e153 k153 => ?_)
            refine lv_aload_n X.1 X.2.1 d_H_serve_87 rfl (lv_at hl 2 rfl) ?_
            refine lv_iload_n X.1 X.2.1 d_H_serve_88 rfl (lv_at hl 3 rfl) ?_
            refine lv_bipush (v := iI 8) X.1 X.2.1 d_H_serve_89 (by decide) ?_
            refine z_icmp_ge (tgt := 98) X.1 X.2.1 d_H_serve_91 (by decide) ⟨by omega, by omega⟩ ⟨by omega, by omega⟩ (fun h154 => ?_) (fun h154 => ?_)
            · refine lv_iconst (v := iI 0) X.1 X.2.1 d_H_serve_98 (by decide) ?_
              refine t_ai (t_runV (As := [.ref b104, .int (iI 0)]) (rest := []) (n := 2) X Y S k153 hml hl.1 (c_Ga_judgeVisit l D E T κ118 L118 f118 H.size b153 k153 b104 k120 0 (by omega) (by omega) S.1) (ok_k X Y hA KS KR) rfl kl_H_Ga_judgeVisit ks_Ga_judgeVisit kx_Ga_judgeVisit ki_Ga_judgeVisit ini_Ga ⟨rfl, rfl⟩ hd_Ga_judgeVisit ⟨Nat.le_of_ble_eq_true rfl, Nat.le_of_ble_eq_true rfl⟩ rfl (Nat.le_of_ble_eq_true rfl) d_H_serve_99 ⟨Nat.le_of_ble_eq_true rfl, Nat.le_of_ble_eq_true rfl⟩) X Y hA S (by decide) (fun z155 κ155 L155 f155 H locs Y S s155 p155 => ?_)
              obtain ⟨l155, u155, x155⟩ := p155
              have k156 : κ155 h = (10, 0) := tLe_k s155.2.2.1 k119
              have k157 : κ155 b104 = (17, 0) := tLe_k s155.2.2.1 k120
              refine lv_istore (lv' := [(4, .int (iI z155)), (0, .ref h), (2, .ref b104), (3, .int (iI z105))]) X.1 X.2.1 d_H_serve_102 hl (by decide) rfl (fun ls hl => ?_)
              refine lv_aload_n X.1 X.2.1 d_H_serve_104 rfl (lv_at hl 1 rfl) ?_
              refine t_getr (ci := 0) X Y S k156 rfl i_H 2 (by decide) rfl (k1 := 13) (k2 := 12288) rfl rfl lk_H_25 (fun _ h9 => h9) d_H_serve_105 (fun b158 e158 k158 => ?_)
              refine t_nv (t_runV (As := []) (rest := []) (n := 0) X Y S k158 hml hl.1 (c_By_clear l D E T κ155 L155 f155 H.size b158 12288 k158 (by omega) S.1) (ok_k X Y hA KS KR) rfl kl_H_By_clear ks_By_clear kx_By_clear ki_By_clear ini_By ⟨rfl, rfl⟩ hd_By_clear ⟨Nat.le_of_ble_eq_true rfl, Nat.le_of_ble_eq_true rfl⟩ rfl (Nat.le_of_ble_eq_true rfl) d_H_serve_108 ⟨Nat.le_of_ble_eq_true rfl, Nat.le_of_ble_eq_true rfl⟩) X Y hA S (by decide) (fun f159 H locs Y S s159 p159 => ?_)
              refine lv_iload X.1 X.2.1 d_H_serve_111 (lv_at hl 0 rfl) ?_
              have J164 : ∀ (κ161 : tK) (L162 : List Nat) (f160 : pF) (H : Heap) (locs : List Loc) (ls : Array Slot), (κ161 h = (10, 0)) → pH D cCl (pA L sz) s.heap L162 f160 H locs → tS E T (tFr κ L [1, 2, 3, 4, 11, 13, 15, 16, 18, 19, 21] []) κ L f κ161 L162 f160 → lv_has ls 5 [(0, .ref h), (3, .int (iI z105)), (4, .int (iI z155))] → W p l e (kRm 73 2420 3 96) s m AV below meth c H locs 3 96 QQ (F0 m 170 ls []) := by
                intro κ161 L162 f160 H locs ls k163 Y S hl
                refine lv_aload_n X.1 X.2.1 d_H_serve_170 rfl (lv_at hl 0 rfl) ?_
                refine t_getr (ci := 0) X Y S k163 rfl i_H 1 (by decide) rfl (k1 := 13) (k2 := 4000) rfl rfl lk_H_21 (fun _ h9 => h9) d_H_serve_171 (fun b168 e168 k168 => ?_)
                refine t_nv (t_runV (As := []) (rest := []) (n := 0) X Y S k168 hml hl.1 (c_By_clear l D E T κ161 L162 f160 H.size b168 4000 k168 (by omega) S.1) (ok_k X Y hA KS KR) rfl kl_H_By_clear ks_By_clear kx_By_clear ki_By_clear ini_By ⟨rfl, rfl⟩ hd_By_clear ⟨Nat.le_of_ble_eq_true rfl, Nat.le_of_ble_eq_true rfl⟩ rfl (Nat.le_of_ble_eq_true rfl) d_H_serve_174 ⟨Nat.le_of_ble_eq_true rfl, Nat.le_of_ble_eq_true rfl⟩) X Y hA S (by decide) (fun f169 H locs Y S s169 p169 => ?_)
                refine lv_iload X.1 X.2.1 d_H_serve_177 (lv_at hl 2 rfl) ?_
                refine z_if_ne (tgt := 186) X.1 X.2.1 d_H_serve_179 (by decide) ⟨by omega, by omega⟩ (fun h170 => ?_) (fun h170 => ?_)
                · refine lv_iload X.1 X.2.1 d_H_serve_186 (lv_at hl 2 rfl) ?_
                  refine lv_ineg X.1 X.2.1 d_H_serve_188 ?_
                  refine t_u (fun z171 l171 u171 => ?_)
                  exact c_reti hQQ X Y hr hlk ⟨κ161, S, z171, rfl, ⟨by omega, by omega⟩⟩ d_H_serve_189
                · refine lv_iload_n X.1 X.2.1 d_H_serve_182 rfl (lv_at hl 1 rfl) ?_
                  refine lv_goto (tgt := 189) X.1 X.2.1 d_H_serve_183 (by decide) ?_
                  exact c_reti hQQ X Y hr hlk ⟨κ161, S, z105, rfl, ⟨by omega, by omega⟩⟩ d_H_serve_189
              refine z_if_eq (tgt := 126) X.1 X.2.1 d_H_serve_113 (by decide) ⟨by omega, by omega⟩ (fun h172 => ?_) (fun h172 => ?_)
              · refine lv_aload_n X.1 X.2.1 d_H_serve_126 rfl (lv_at hl 1 rfl) ?_
                refine t_getr (ci := 0) X Y S k156 rfl i_H 8 (by decide) rfl (k1 := 7) (k2 := 8) rfl rfl lk_H_56 (fun _ h9 => h9) d_H_serve_127 (fun b173 e173 k173 => ?_)
                refine lv_iload_n X.1 X.2.1 d_H_serve_130 rfl (lv_at hl 3 rfl) ?_
                refine t_aald X Y S k173 (fun h9 => h9) (t0 := 4) rfl (by omega) (by omega) (by omega) d_H_serve_131 (fun b174 e174 k174 => ?_)
                refine lv_aload_n X.1 X.2.1 d_H_serve_132 rfl (lv_at hl 1 rfl) ?_
                refine t_getr (ci := 0) X Y S k156 rfl i_H 5 (by decide) rfl (k1 := 15) (k2 := 0) rfl rfl lk_H_36 (fun _ h9 => h9) d_H_serve_133 (fun b175 e175 k175 => ?_)
                refine lv_aload_n X.1 X.2.1 d_H_serve_136 rfl (lv_at hl 1 rfl) ?_
                refine t_getr (ci := 0) X Y S k156 rfl i_H 1 (by decide) rfl (k1 := 13) (k2 := 4000) rfl rfl lk_H_21 (fun _ h9 => h9) d_H_serve_137 (fun b176 e176 k176 => ?_)
                refine lv_aload_n X.1 X.2.1 d_H_serve_140 rfl (lv_at hl 1 rfl) ?_
                refine t_get0 (ci := 0) X Y S k156 rfl i_H 1 (by decide) rfl lk_H_21 (fun _ h9 => h9) d_H_serve_141 e176 ?_
                refine lv_iconst (v := iI 0) X.1 X.2.1 d_H_serve_144 (by decide) ?_
                refine lv_iconst (v := iI 2) X.1 X.2.1 d_H_serve_145 (by decide) ?_
                refine t_ui (t_runV (As := [.int (iI 0), .int (iI 2)]) (rest := [.ref b176, .ref b175, .ref b174]) (n := 2) X Y S k176 hml hl.1 (c_By_field l D E T κ155 L155 f159 H.size b176 4000 k176 (by omega) 0 (by omega) (by omega) 2 (by omega) (by omega) S.1) (ok_k X Y hA KS KR) rfl kl_H_By_field ks_By_field kx_By_field ki_By_field ini_By ⟨rfl, rfl⟩ hd_By_field ⟨Nat.le_of_ble_eq_true rfl, Nat.le_of_ble_eq_true rfl⟩ rfl (Nat.le_of_ble_eq_true rfl) d_H_serve_146 ⟨Nat.le_of_ble_eq_true rfl, Nat.le_of_ble_eq_true rfl⟩) X Y hA (fun z177 H locs Y p177 => ?_)
                obtain ⟨l177, u177⟩ := p177
                refine t_ui (t_runV (As := [.int (iI z177)]) (rest := [.ref b175, .ref b174]) (n := 1) X Y S k176 hml hl.1 (c_By_bitsAt l D E T κ155 L155 f159 H.size b176 4000 k176 (by omega) z177 (by omega) (by omega) S.1) (ok_k X Y hA KS KR) rfl kl_H_By_bitsAt ks_By_bitsAt kx_By_bitsAt ki_By_bitsAt ini_By ⟨rfl, rfl⟩ hd_By_bitsAt ⟨Nat.le_of_ble_eq_true rfl, Nat.le_of_ble_eq_true rfl⟩ rfl (Nat.le_of_ble_eq_true rfl) d_H_serve_149 ⟨Nat.le_of_ble_eq_true rfl, Nat.le_of_ble_eq_true rfl⟩) X Y hA (fun z178 H locs Y p178 => ?_)
                obtain ⟨l178, u178⟩ := p178
                refine lv_ldc (v := (536870912)) X.1 X.2.1 X.2.2.2.1 (X.2.2.1 _ cn_H_255) d_H_serve_152 ?_
                refine t_eq (y := iI 536870912) (by decide) ?_
                refine z_iand X.1 X.2.1 (by omega) (by omega) d_H_serve_154 (fun z179 l179 u179 => ?_)
                have J181 : ∀ (z180 : Int) (H : Heap) (locs : List Loc) (ls : Array Slot), (0 ≤ z180) → (z180 ≤ 1) → pH D cCl (pA L sz) s.heap L155 f159 H locs → tS E T (tFr κ L [1, 2, 3, 4, 11, 13, 15, 16, 18, 19, 21] []) κ L f κ155 L155 f159 → lv_has ls 5 [(0, .ref h), (3, .int (iI z105)), (4, .int (iI z155))] → W p l e (kRm 73 2420 3 96) s m AV below meth c H locs 2 64 QQ (F0 m 163 ls [.int (iI z180), .ref b175, .ref b174]) := by
                  intro z180 H locs ls l180 u180 Y S hl
                  refine lv_aload_n X.1 X.2.1 d_H_serve_163 rfl (lv_at hl 0 rfl) ?_
                  refine t_get0 (ci := 0) X Y S k156 rfl i_H 2 (by decide) rfl lk_H_25 (fun _ h9 => h9) d_H_serve_164 ((gF_same (s159.2.2.2 _ ⟨(t_obj S.1 k156).1, nM_of k156 (by decide), by simp⟩).1 2).trans e158) ?_
                  refine t_av (t_runV (As := [.ref b175, .int (iI z180), .ref b158]) (rest := []) (n := 3) X Y S k174 hml hl.1 (c_So_begin l D E T κ155 L155 f159 H.size b174 k174 b175 k175 z180 (by omega) (by omega) b158 12288 k158 (by omega) S.1) (ok_k X Y hA KS KR) rfl kl_H_So_begin ks_So_begin kx_So_begin ki_So_begin ini_So ⟨rfl, rfl⟩ hd_So_begin ⟨Nat.le_of_ble_eq_true rfl, Nat.le_of_ble_eq_true rfl⟩ rfl (Nat.le_of_ble_eq_true rfl) d_H_serve_167 ⟨Nat.le_of_ble_eq_true rfl, Nat.le_of_ble_eq_true rfl⟩) X Y hA S (by decide) (fun κ185 L185 f185 H locs Y S s185 p185 => ?_)
                  have k186 : κ185 h = (10, 0) := tLe_k s185.2.2.1 k156
                  exact J164 κ185 L185 f185 _ _ _ k186 Y S (lv_sub hl [0, 1, 2] rfl)
                refine z_if_eq (tgt := 162) X.1 X.2.1 d_H_serve_155 (by decide) ⟨by omega, by omega⟩ (fun h187 => ?_) (fun h187 => ?_)
                · refine lv_iconst (v := iI 0) X.1 X.2.1 d_H_serve_162 (by decide) ?_
                  exact J181 0 _ _ _ (by omega) (by omega) Y S (lv_sub hl [1, 3, 0] rfl)
                · refine lv_iconst (v := iI 1) X.1 X.2.1 d_H_serve_158 (by decide) ?_
                  refine lv_goto (tgt := 163) X.1 X.2.1 d_H_serve_159 (by decide) ?_
                  exact J181 1 _ _ _ (by omega) (by omega) Y S (lv_sub hl [1, 3, 0] rfl)
              · refine lv_aload_n X.1 X.2.1 d_H_serve_116 rfl (lv_at hl 1 rfl) ?_
                refine lv_aload_n X.1 X.2.1 d_H_serve_117 rfl (lv_at hl 2 rfl) ?_
                refine lv_iload X.1 X.2.1 d_H_serve_118 (lv_at hl 0 rfl) ?_
                refine t_nv (t_runV (As := [.ref b104, .int (iI z155)]) (rest := []) (n := 2) X Y S k156 hml hl.1 (c_H_putRefusal l D E T κ155 L155 f159 H.size h k156 b104 k157 z155 (by omega) (by omega) S.1) (ok_k X Y hA KS KR) rfl kl_H_H_putRefusal ks_H_putRefusal kx_H_putRefusal ki_H_putRefusal ini_H ⟨rfl, rfl⟩ hd_H_putRefusal ⟨Nat.le_of_ble_eq_true rfl, Nat.le_of_ble_eq_true rfl⟩ rfl (Nat.le_of_ble_eq_true rfl) d_H_serve_120 ⟨Nat.le_of_ble_eq_true rfl, Nat.le_of_ble_eq_true rfl⟩) X Y hA S (by decide) (fun f188 H locs Y S s188 p188 => ?_)
                refine lv_goto (tgt := 170) X.1 X.2.1 d_H_serve_123 (by decide) ?_
                refine W.widen (k := 3) (n := 96) (Nat.le_of_ble_eq_true rfl) (Nat.le_of_ble_eq_true rfl) ?_
                exact J164 κ155 L155 f188 _ _ _ k156 Y S (lv_sub hl [1, 3, 0] rfl)
            · refine lv_iconst (v := iI 1) X.1 X.2.1 d_H_serve_94 (by decide) ?_
              refine lv_goto (tgt := 99) X.1 X.2.1 d_H_serve_95 (by decide) ?_
              refine t_ai (t_runV (As := [.ref b104, .int (iI 1)]) (rest := []) (n := 2) X Y S k153 hml hl.1 (c_Ga_judgeVisit l D E T κ118 L118 f118 H.size b153 k153 b104 k120 1 (by omega) (by omega) S.1) (ok_k X Y hA KS KR) rfl kl_H_Ga_judgeVisit ks_Ga_judgeVisit kx_Ga_judgeVisit ki_Ga_judgeVisit ini_Ga ⟨rfl, rfl⟩ hd_Ga_judgeVisit ⟨Nat.le_of_ble_eq_true rfl, Nat.le_of_ble_eq_true rfl⟩ rfl (Nat.le_of_ble_eq_true rfl) d_H_serve_99 ⟨Nat.le_of_ble_eq_true rfl, Nat.le_of_ble_eq_true rfl⟩) X Y hA S (by decide) (fun z189 κ189 L189 f189 H locs Y S s189 p189 => ?_)
              obtain ⟨l189, u189, x189⟩ := p189
              have k190 : κ189 h = (10, 0) := tLe_k s189.2.2.1 k119
              have k191 : κ189 b104 = (17, 0) := tLe_k s189.2.2.1 k120
              refine lv_istore (lv' := [(4, .int (iI z189)), (0, .ref h), (2, .ref b104), (3, .int (iI z105))]) X.1 X.2.1 d_H_serve_102 hl (by decide) rfl (fun ls hl => ?_)
              refine lv_aload_n X.1 X.2.1 d_H_serve_104 rfl (lv_at hl 1 rfl) ?_
              refine t_getr (ci := 0) X Y S k190 rfl i_H 2 (by decide) rfl (k1 := 13) (k2 := 12288) rfl rfl lk_H_25 (fun _ h9 => h9) d_H_serve_105 (fun b192 e192 k192 => ?_)
              refine t_nv (t_runV (As := []) (rest := []) (n := 0) X Y S k192 hml hl.1 (c_By_clear l D E T κ189 L189 f189 H.size b192 12288 k192 (by omega) S.1) (ok_k X Y hA KS KR) rfl kl_H_By_clear ks_By_clear kx_By_clear ki_By_clear ini_By ⟨rfl, rfl⟩ hd_By_clear ⟨Nat.le_of_ble_eq_true rfl, Nat.le_of_ble_eq_true rfl⟩ rfl (Nat.le_of_ble_eq_true rfl) d_H_serve_108 ⟨Nat.le_of_ble_eq_true rfl, Nat.le_of_ble_eq_true rfl⟩) X Y hA S (by decide) (fun f193 H locs Y S s193 p193 => ?_)
              refine lv_iload X.1 X.2.1 d_H_serve_111 (lv_at hl 0 rfl) ?_
              have J198 : ∀ (κ195 : tK) (L196 : List Nat) (f194 : pF) (H : Heap) (locs : List Loc) (ls : Array Slot), (κ195 h = (10, 0)) → pH D cCl (pA L sz) s.heap L196 f194 H locs → tS E T (tFr κ L [1, 2, 3, 4, 11, 13, 15, 16, 18, 19, 21] []) κ L f κ195 L196 f194 → lv_has ls 5 [(0, .ref h), (3, .int (iI z105)), (4, .int (iI z189))] → W p l e (kRm 73 2420 3 96) s m AV below meth c H locs 3 96 QQ (F0 m 170 ls []) := by
                intro κ195 L196 f194 H locs ls k197 Y S hl
                refine lv_aload_n X.1 X.2.1 d_H_serve_170 rfl (lv_at hl 0 rfl) ?_
                refine t_getr (ci := 0) X Y S k197 rfl i_H 1 (by decide) rfl (k1 := 13) (k2 := 4000) rfl rfl lk_H_21 (fun _ h9 => h9) d_H_serve_171 (fun b202 e202 k202 => ?_)
                refine t_nv (t_runV (As := []) (rest := []) (n := 0) X Y S k202 hml hl.1 (c_By_clear l D E T κ195 L196 f194 H.size b202 4000 k202 (by omega) S.1) (ok_k X Y hA KS KR) rfl kl_H_By_clear ks_By_clear kx_By_clear ki_By_clear ini_By ⟨rfl, rfl⟩ hd_By_clear ⟨Nat.le_of_ble_eq_true rfl, Nat.le_of_ble_eq_true rfl⟩ rfl (Nat.le_of_ble_eq_true rfl) d_H_serve_174 ⟨Nat.le_of_ble_eq_true rfl, Nat.le_of_ble_eq_true rfl⟩) X Y hA S (by decide) (fun f203 H locs Y S s203 p203 => ?_)
                refine lv_iload X.1 X.2.1 d_H_serve_177 (lv_at hl 2 rfl) ?_
                refine z_if_ne (tgt := 186) X.1 X.2.1 d_H_serve_179 (by decide) ⟨by omega, by omega⟩ (fun h204 => ?_) (fun h204 => ?_)
                · refine lv_iload X.1 X.2.1 d_H_serve_186 (lv_at hl 2 rfl) ?_
                  refine lv_ineg X.1 X.2.1 d_H_serve_188 ?_
                  refine t_u (fun z205 l205 u205 => ?_)
                  exact c_reti hQQ X Y hr hlk ⟨κ195, S, z205, rfl, ⟨by omega, by omega⟩⟩ d_H_serve_189
                · refine lv_iload_n X.1 X.2.1 d_H_serve_182 rfl (lv_at hl 1 rfl) ?_
                  refine lv_goto (tgt := 189) X.1 X.2.1 d_H_serve_183 (by decide) ?_
                  exact c_reti hQQ X Y hr hlk ⟨κ195, S, z105, rfl, ⟨by omega, by omega⟩⟩ d_H_serve_189
              refine z_if_eq (tgt := 126) X.1 X.2.1 d_H_serve_113 (by decide) ⟨by omega, by omega⟩ (fun h206 => ?_) (fun h206 => ?_)
              · refine lv_aload_n X.1 X.2.1 d_H_serve_126 rfl (lv_at hl 1 rfl) ?_
                refine t_getr (ci := 0) X Y S k190 rfl i_H 8 (by decide) rfl (k1 := 7) (k2 := 8) rfl rfl lk_H_56 (fun _ h9 => h9) d_H_serve_127 (fun b207 e207 k207 => ?_)
                refine lv_iload_n X.1 X.2.1 d_H_serve_130 rfl (lv_at hl 3 rfl) ?_
                refine t_aald X Y S k207 (fun h9 => h9) (t0 := 4) rfl (by omega) (by omega) (by omega) d_H_serve_131 (fun b208 e208 k208 => ?_)
                refine lv_aload_n X.1 X.2.1 d_H_serve_132 rfl (lv_at hl 1 rfl) ?_
                refine t_getr (ci := 0) X Y S k190 rfl i_H 5 (by decide) rfl (k1 := 15) (k2 := 0) rfl rfl lk_H_36 (fun _ h9 => h9) d_H_serve_133 (fun b209 e209 k209 => ?_)
                refine lv_aload_n X.1 X.2.1 d_H_serve_136 rfl (lv_at hl 1 rfl) ?_
                refine t_getr (ci := 0) X Y S k190 rfl i_H 1 (by decide) rfl (k1 := 13) (k2 := 4000) rfl rfl lk_H_21 (fun _ h9 => h9) d_H_serve_137 (fun b210 e210 k210 => ?_)
                refine lv_aload_n X.1 X.2.1 d_H_serve_140 rfl (lv_at hl 1 rfl) ?_
                refine t_get0 (ci := 0) X Y S k190 rfl i_H 1 (by decide) rfl lk_H_21 (fun _ h9 => h9) d_H_serve_141 e210 ?_
                refine lv_iconst (v := iI 0) X.1 X.2.1 d_H_serve_144 (by decide) ?_
                refine lv_iconst (v := iI 2) X.1 X.2.1 d_H_serve_145 (by decide) ?_
                refine t_ui (t_runV (As := [.int (iI 0), .int (iI 2)]) (rest := [.ref b210, .ref b209, .ref b208]) (n := 2) X Y S k210 hml hl.1 (c_By_field l D E T κ189 L189 f193 H.size b210 4000 k210 (by omega) 0 (by omega) (by omega) 2 (by omega) (by omega) S.1) (ok_k X Y hA KS KR) rfl kl_H_By_field ks_By_field kx_By_field ki_By_field ini_By ⟨rfl, rfl⟩ hd_By_field ⟨Nat.le_of_ble_eq_true rfl, Nat.le_of_ble_eq_true rfl⟩ rfl (Nat.le_of_ble_eq_true rfl) d_H_serve_146 ⟨Nat.le_of_ble_eq_true rfl, Nat.le_of_ble_eq_true rfl⟩) X Y hA (fun z211 H locs Y p211 => ?_)
                obtain ⟨l211, u211⟩ := p211
                refine t_ui (t_runV (As := [.int (iI z211)]) (rest := [.ref b209, .ref b208]) (n := 1) X Y S k210 hml hl.1 (c_By_bitsAt l D E T κ189 L189 f193 H.size b210 4000 k210 (by omega) z211 (by omega) (by omega) S.1) (ok_k X Y hA KS KR) rfl kl_H_By_bitsAt ks_By_bitsAt kx_By_bitsAt ki_By_bitsAt ini_By ⟨rfl, rfl⟩ hd_By_bitsAt ⟨Nat.le_of_ble_eq_true rfl, Nat.le_of_ble_eq_true rfl⟩ rfl (Nat.le_of_ble_eq_true rfl) d_H_serve_149 ⟨Nat.le_of_ble_eq_true rfl, Nat.le_of_ble_eq_true rfl⟩) X Y hA (fun z212 H locs Y p212 => ?_)
                obtain ⟨l212, u212⟩ := p212
                refine lv_ldc (v := (536870912)) X.1 X.2.1 X.2.2.2.1 (X.2.2.1 _ cn_H_255) d_H_serve_152 ?_
                refine t_eq (y := iI 536870912) (by decide) ?_
                refine z_iand X.1 X.2.1 (by omega) (by omega) d_H_serve_154 (fun z213 l213 u213 => ?_)
                have J215 : ∀ (z214 : Int) (H : Heap) (locs : List Loc) (ls : Array Slot), (0 ≤ z214) → (z214 ≤ 1) → pH D cCl (pA L sz) s.heap L189 f193 H locs → tS E T (tFr κ L [1, 2, 3, 4, 11, 13, 15, 16, 18, 19, 21] []) κ L f κ189 L189 f193 → lv_has ls 5 [(0, .ref h), (3, .int (iI z105)), (4, .int (iI z189))] → W p l e (kRm 73 2420 3 96) s m AV below meth c H locs 2 64 QQ (F0 m 163 ls [.int (iI z214), .ref b209, .ref b208]) := by
                  intro z214 H locs ls l214 u214 Y S hl
                  refine lv_aload_n X.1 X.2.1 d_H_serve_163 rfl (lv_at hl 0 rfl) ?_
                  refine t_get0 (ci := 0) X Y S k190 rfl i_H 2 (by decide) rfl lk_H_25 (fun _ h9 => h9) d_H_serve_164 ((gF_same (s193.2.2.2 _ ⟨(t_obj S.1 k190).1, nM_of k190 (by decide), by simp⟩).1 2).trans e192) ?_
                  refine t_av (t_runV (As := [.ref b209, .int (iI z214), .ref b192]) (rest := []) (n := 3) X Y S k208 hml hl.1 (c_So_begin l D E T κ189 L189 f193 H.size b208 k208 b209 k209 z214 (by omega) (by omega) b192 12288 k192 (by omega) S.1) (ok_k X Y hA KS KR) rfl kl_H_So_begin ks_So_begin kx_So_begin ki_So_begin ini_So ⟨rfl, rfl⟩ hd_So_begin ⟨Nat.le_of_ble_eq_true rfl, Nat.le_of_ble_eq_true rfl⟩ rfl (Nat.le_of_ble_eq_true rfl) d_H_serve_167 ⟨Nat.le_of_ble_eq_true rfl, Nat.le_of_ble_eq_true rfl⟩) X Y hA S (by decide) (fun κ219 L219 f219 H locs Y S s219 p219 => ?_)
                  have k220 : κ219 h = (10, 0) := tLe_k s219.2.2.1 k190
                  exact J198 κ219 L219 f219 _ _ _ k220 Y S (lv_sub hl [0, 1, 2] rfl)
                refine z_if_eq (tgt := 162) X.1 X.2.1 d_H_serve_155 (by decide) ⟨by omega, by omega⟩ (fun h221 => ?_) (fun h221 => ?_)
                · refine lv_iconst (v := iI 0) X.1 X.2.1 d_H_serve_162 (by decide) ?_
                  exact J215 0 _ _ _ (by omega) (by omega) Y S (lv_sub hl [1, 3, 0] rfl)
                · refine lv_iconst (v := iI 1) X.1 X.2.1 d_H_serve_158 (by decide) ?_
                  refine lv_goto (tgt := 163) X.1 X.2.1 d_H_serve_159 (by decide) ?_
                  exact J215 1 _ _ _ (by omega) (by omega) Y S (lv_sub hl [1, 3, 0] rfl)
              · refine lv_aload_n X.1 X.2.1 d_H_serve_116 rfl (lv_at hl 1 rfl) ?_
                refine lv_aload_n X.1 X.2.1 d_H_serve_117 rfl (lv_at hl 2 rfl) ?_
                refine lv_iload X.1 X.2.1 d_H_serve_118 (lv_at hl 0 rfl) ?_
                refine t_nv (t_runV (As := [.ref b104, .int (iI z189)]) (rest := []) (n := 2) X Y S k190 hml hl.1 (c_H_putRefusal l D E T κ189 L189 f193 H.size h k190 b104 k191 z189 (by omega) (by omega) S.1) (ok_k X Y hA KS KR) rfl kl_H_H_putRefusal ks_H_putRefusal kx_H_putRefusal ki_H_putRefusal ini_H ⟨rfl, rfl⟩ hd_H_putRefusal ⟨Nat.le_of_ble_eq_true rfl, Nat.le_of_ble_eq_true rfl⟩ rfl (Nat.le_of_ble_eq_true rfl) d_H_serve_120 ⟨Nat.le_of_ble_eq_true rfl, Nat.le_of_ble_eq_true rfl⟩) X Y hA S (by decide) (fun f222 H locs Y S s222 p222 => ?_)
                refine lv_goto (tgt := 170) X.1 X.2.1 d_H_serve_123 (by decide) ?_
                refine W.widen (k := 3) (n := 96) (Nat.le_of_ble_eq_true rfl) (Nat.le_of_ble_eq_true rfl) ?_
                exact J198 κ189 L189 f222 _ _ _ k190 Y S (lv_sub hl [1, 3, 0] rfl)
        refine z_icmp_ge (tgt := 50) X.1 X.2.1 d_H_serve_29 (by decide) ⟨by omega, by omega⟩ ⟨by omega, by omega⟩ (fun h223 => ?_) (fun h223 => ?_)
        · exact J110  _ _ _  Y S (lv_sub hl [0, 1, 2] rfl)
        · refine lv_aload_n X.1 X.2.1 d_H_serve_32 rfl (lv_at hl 0 rfl) ?_
          refine t_getr (ci := 0) X Y S k0 rfl i_H 8 (by decide) rfl (k1 := 7) (k2 := 8) rfl rfl lk_H_56 (fun _ h9 => h9) d_H_serve_33 (fun b224 e224 k224 => ?_)
          refine lv_iload_n X.1 X.2.1 d_H_serve_36 rfl (lv_at hl 2 rfl) ?_
          refine t_aald X Y S k224 (fun h9 => h9) (t0 := 4) rfl (by omega) (by omega) (by omega) d_H_serve_37 (fun b225 e225 k225 => ?_)
          refine t_geti (ci := 9) X Y S k225 rfl i_So 1 (by decide) rfl lk_H_239 (fun _ h9 => h9) d_H_serve_38 (fun z226 e226 l226 u226 => ?_)
          refine z_if_eq (tgt := 50) X.1 X.2.1 d_H_serve_41 (by decide) ⟨by omega, by omega⟩ (fun h227 => ?_) (fun h227 => ?_)
          · exact J110  _ _ _  Y S (lv_sub hl [0, 1, 2] rfl)
          · refine lv_iinc (v := iI (z105 + 1)) (lv' := [(3, .int (iI (z105 + 1))), (0, .ref h), (2, .ref b104)]) X.1 X.2.1 d_H_serve_44 hl (k := 2) rfl ((iI_add _ _).trans (congrArg iI (by omega))) (by decide) rfl (fun ls hl => ?_)
            refine lv_goto (tgt := 26) X.1 X.2.1 d_H_serve_47 (by decide) ?_
            exact ih107 ((8 - (z105 + 1)).toNat) (by omega) (z105 + 1) _ _ _ rfl (by omega) (by omega) Y S (lv_sub hl [1, 2, 0] rfl)
    refine lv_istore_n (lv' := [(3, .int (iI 0)), (2, .ref b104), (0, .ref h), (1, .int (iI a1))]) X.1 X.2.1 d_H_serve_25 rfl hl (by decide) rfl (fun ls hl => ?_)
    exact J106 _ 0 _ _ _ rfl (by omega) (by omega) Y S (lv_sub hl [2, 1, 0] rfl)
  · refine lv_aload_n X.1 X.2.1 d_H_serve_8 rfl (lv_at hl 0 rfl) ?_
    refine t_getr (ci := 0) X Y S k0 rfl i_H 1 (by decide) rfl (k1 := 13) (k2 := 4000) rfl rfl lk_H_21 (fun _ h9 => h9) d_H_serve_9 (fun b228 e228 k228 => ?_)
    refine t_nv (t_runV (As := []) (rest := []) (n := 0) X Y S k228 hml hl.1 (c_By_clear l D E T κ L f H.size b228 4000 k228 (by omega) S.1) (ok_k X Y hA KS KR) rfl kl_H_By_clear ks_By_clear kx_By_clear ki_By_clear ini_By ⟨rfl, rfl⟩ hd_By_clear ⟨Nat.le_of_ble_eq_true rfl, Nat.le_of_ble_eq_true rfl⟩ rfl (Nat.le_of_ble_eq_true rfl) d_H_serve_12 ⟨Nat.le_of_ble_eq_true rfl, Nat.le_of_ble_eq_true rfl⟩) X Y hA S (by decide) (fun f229 H locs Y S s229 p229 => ?_)
    refine lv_iconst (v := iI (-1)) X.1 X.2.1 d_H_serve_15 (by decide) ?_
    refine W.widen (k := 3) (n := 96) (Nat.le_of_ble_eq_true rfl) (Nat.le_of_ble_eq_true rfl) ?_
    exact c_reti hQQ X Y hr hlk ⟨κ, S, (-1), rfl, ⟨by omega, by omega⟩⟩ d_H_serve_16
set_option maxHeartbeats 4000000 in
set_option maxRecDepth 100000 in
theorem c_H_met (l : Launch) (D : va_G) (E : cE) (T : cT) (κ : tK) (L : List Nat) (f : pF) (sz : Nat) (h : Nat) (k0 : κ h = (10, 0)) (a1 : Int) (l_a1 : (-2147483648) ≤ a1) (u_a1 : a1 ≤ 2147483647) (hw : tW E T κ L f) : Met l y_H_met (k_H_met :: lw_tg) (kRm 72 2385 0 0) (va_Pc [.ref h, .int (iI a1)] (kPre D E T L f sz)) (va_Qi (nPi E T [1, 2, 3, 4, 11, 12, 13, 16] κ L f (fun (z : Int) (g : pF) => (-2147483648) ≤ z ∧ z ≤ 2147483647)) (cPost D E (pA L sz)) (pA L sz)) 0 0 (pA L sz) := by
  refine k_enter (own := R_H) (by decide) rfl (Nat.le_of_ble_eq_true rfl) (fun p e s m below meth c ls AV QQ H locs hQQ X Y hA hin hr hlk hml hl KS KR => ?_)
  have hl : lv_has ls 3 [(0, .ref h), (1, .int (iI a1))] := hl
  have S : tS E T (tFr κ L [1, 2, 3, 4, 11, 12, 13, 16] []) κ L f κ L f := tS_rf hw
  refine lv_aload_n X.1 X.2.1 d_H_met_0 rfl (lv_at hl 0 rfl) ?_
  refine lv_iload_n X.1 X.2.1 d_H_met_1 rfl (lv_at hl 1 rfl) ?_
  refine t_ui (t_runV (As := [.int (iI a1)]) (rest := []) (n := 1) X Y S k0 hml hl.1 (c_H_isAgent l D E T κ L f H.size h k0 a1 (by omega) (by omega) S.1) (ok_k X Y hA KS KR) rfl kl_H_H_isAgent ks_H_isAgent kx_H_isAgent ki_H_isAgent ini_H ⟨rfl, rfl⟩ hd_H_isAgent ⟨Nat.le_of_ble_eq_true rfl, Nat.le_of_ble_eq_true rfl⟩ rfl (Nat.le_of_ble_eq_true rfl) d_H_met_2 ⟨Nat.le_of_ble_eq_true rfl, Nat.le_of_ble_eq_true rfl⟩) X Y hA (fun z101 H locs Y p101 => ?_)
  obtain ⟨l101, u101, x101⟩ := p101
  have J104 : ∀ (z103 : Int) (f102 : pF) (H : Heap) (locs : List Loc) (ls : Array Slot), ((-2147483648) ≤ z103) → (z103 ≤ 2147483647) → pH D cCl (pA L sz) s.heap L f102 H locs → tS E T (tFr κ L [1, 2, 3, 4, 11, 12, 13, 16] []) κ L f κ L f102 → lv_has ls 3 [(0, .ref h)] → W p l e (kRm 72 2385 0 0) s m AV below meth c H locs 0 0 QQ (F0 m 25 ls [.int (iI z103)]) := by
    intro z103 f102 H locs ls l103 u103 Y S hl
    refine lv_istore_n (lv' := [(2, .int (iI z103)), (0, .ref h)]) X.1 X.2.1 d_H_met_25 rfl hl (by decide) rfl (fun ls hl => ?_)
    refine lv_aload_n X.1 X.2.1 d_H_met_26 rfl (lv_at hl 1 rfl) ?_
    refine t_getr (ci := 0) X Y S k0 rfl i_H 1 (by decide) rfl (k1 := 13) (k2 := 4000) rfl rfl lk_H_21 (fun _ h9 => h9) d_H_met_27 (fun b108 e108 k108 => ?_)
    refine t_nv (t_runV (As := []) (rest := []) (n := 0) X Y S k108 hml hl.1 (c_By_clear l D E T κ L f102 H.size b108 4000 k108 (by omega) S.1) (ok_k X Y hA KS KR) rfl kl_H_By_clear ks_By_clear kx_By_clear ki_By_clear ini_By ⟨rfl, rfl⟩ hd_By_clear ⟨Nat.le_of_ble_eq_true rfl, Nat.le_of_ble_eq_true rfl⟩ rfl (Nat.le_of_ble_eq_true rfl) d_H_met_30 ⟨Nat.le_of_ble_eq_true rfl, Nat.le_of_ble_eq_true rfl⟩) X Y hA S (by decide) (fun f109 H locs Y S s109 p109 => ?_)
    refine lv_iload_n X.1 X.2.1 d_H_met_33 rfl (lv_at hl 0 rfl) ?_
    exact c_reti hQQ X Y hr hlk ⟨rfl, S, z103, rfl, ⟨by omega, by omega⟩⟩ d_H_met_34
  refine z_if_eq (tgt := 24) X.1 X.2.1 d_H_met_5 (by decide) ⟨by omega, by omega⟩ (fun h110 => ?_) (fun h110 => ?_)
  · refine lv_iconst (v := iI (-1)) X.1 X.2.1 d_H_met_24 (by decide) ?_
    exact J104 ((-1)) f _ _ _ (by omega) (by omega) Y S (lv_sub hl [0] rfl)
  · refine lv_aload_n X.1 X.2.1 d_H_met_8 rfl (lv_at hl 0 rfl) ?_
    refine t_getr (ci := 0) X Y S k0 rfl i_H 7 (by decide) rfl (k1 := 6) (k2 := 4) rfl rfl lk_H_49 (fun _ h9 => h9) d_H_met_9 (fun b111 e111 k111 => ?_)
    refine lv_iload_n X.1 X.2.1 d_H_met_12 rfl (lv_at hl 1 rfl) ?_
    refine t_aald X Y S k111 (fun h9 => h9) (t0 := 3) rfl (by omega) (by omega) (by omega) d_H_met_13 (fun b112 e112 k112 => ?_)
    refine lv_aload_n X.1 X.2.1 d_H_met_14 rfl (lv_at hl 0 rfl) ?_
    refine t_getr (ci := 0) X Y S k0 rfl i_H 1 (by decide) rfl (k1 := 13) (k2 := 4000) rfl rfl lk_H_21 (fun _ h9 => h9) d_H_met_15 (fun b113 e113 k113 => ?_)
    refine t_ni (t_runV (As := [.ref b113]) (rest := []) (n := 1) X Y S k112 hml hl.1 (c_Ag_hearService l D E T κ L f H.size b112 k112 b113 4000 k113 (by omega) S.1) (ok_k X Y hA KS KR) rfl kl_H_Ag_hearService ks_Ag_hearService kx_Ag_hearService ki_Ag_hearService ini_Ag ⟨rfl, rfl⟩ hd_Ag_hearService ⟨Nat.le_of_ble_eq_true rfl, Nat.le_of_ble_eq_true rfl⟩ rfl (Nat.le_of_ble_eq_true rfl) d_H_met_18 ⟨Nat.le_of_ble_eq_true rfl, Nat.le_of_ble_eq_true rfl⟩) X Y hA S (by decide) (fun z114 f114 H locs Y S s114 p114 => ?_)
    obtain ⟨l114, u114⟩ := p114
    refine lv_goto (tgt := 25) X.1 X.2.1 d_H_met_21 (by decide) ?_
    exact J104 z114 f114 _ _ _ (by omega) (by omega) Y S (lv_sub hl [0] rfl)
set_option maxHeartbeats 4000000 in
set_option maxRecDepth 100000 in
theorem c_H_joins (l : Launch) (D : va_G) (E : cE) (T : cT) (κ : tK) (L : List Nat) (f : pF) (sz : Nat) (h : Nat) (k0 : κ h = (10, 0)) (a1 : Int) (l_a1 : (-2147483648) ≤ a1) (u_a1 : a1 ≤ 2147483647) (a2 : Int) (l_a2 : (-2147483648) ≤ a2) (u_a2 : a2 ≤ 2147483647) (hw : tW E T κ L f) : Met l y_H_joins (k_H_joins :: lw_tg) (kRm 3 104 0 0) (va_Pc [.ref h, .int (iI a1), .int (iI a2)] (kPre D E T L f sz)) (va_Qi (nPi E T [2, 3, 4, 19] κ L f (fun (z : Int) (g : pF) => 0 ≤ z ∧ z ≤ 1)) (cPost D E (pA L sz)) (pA L sz)) 0 0 (pA L sz) := by
  refine k_enter (own := R_H) (by decide) rfl (Nat.le_of_ble_eq_true rfl) (fun p e s m below meth c ls AV QQ H locs hQQ X Y hA hin hr hlk hml hl KS KR => ?_)
  have hl : lv_has ls 3 [(0, .ref h), (1, .int (iI a1)), (2, .int (iI a2))] := hl
  have S : tS E T (tFr κ L [2, 3, 4, 19] []) κ L f κ L f := tS_rf hw
  refine lv_aload_n X.1 X.2.1 d_H_joins_0 rfl (lv_at hl 0 rfl) ?_
  refine lv_iload_n X.1 X.2.1 d_H_joins_1 rfl (lv_at hl 1 rfl) ?_
  refine t_ui (t_runV (As := [.int (iI a1)]) (rest := []) (n := 1) X Y S k0 hml hl.1 (c_H_isSession l D E T κ L f H.size h k0 a1 (by omega) (by omega) S.1) (ok_k X Y hA KS KR) rfl kl_H_H_isSession ks_H_isSession kx_H_isSession ki_H_isSession ini_H ⟨rfl, rfl⟩ hd_H_isSession ⟨Nat.le_of_ble_eq_true rfl, Nat.le_of_ble_eq_true rfl⟩ rfl (Nat.le_of_ble_eq_true rfl) d_H_joins_2 ⟨Nat.le_of_ble_eq_true rfl, Nat.le_of_ble_eq_true rfl⟩) X Y hA (fun z101 H locs Y p101 => ?_)
  obtain ⟨l101, u101, x101⟩ := p101
  refine z_if_eq (tgt := 39) X.1 X.2.1 d_H_joins_5 (by decide) ⟨by omega, by omega⟩ (fun h102 => ?_) (fun h102 => ?_)
  · refine lv_iconst (v := iI 0) X.1 X.2.1 d_H_joins_39 (by decide) ?_
    exact c_retz hQQ X Y hr hlk (iI_bool (by omega) (by omega)).1 ⟨rfl, S, 0, rfl, ⟨by omega, by omega⟩⟩ d_H_joins_40
  · refine lv_aload_n X.1 X.2.1 d_H_joins_8 rfl (lv_at hl 0 rfl) ?_
    refine lv_iload_n X.1 X.2.1 d_H_joins_9 rfl (lv_at hl 2 rfl) ?_
    refine t_ui (t_runV (As := [.int (iI a2)]) (rest := []) (n := 1) X Y S k0 hml hl.1 (c_H_isAgent l D E T κ L f H.size h k0 a2 (by omega) (by omega) S.1) (ok_k X Y hA KS KR) rfl kl_H_H_isAgent ks_H_isAgent kx_H_isAgent ki_H_isAgent ini_H ⟨rfl, rfl⟩ hd_H_isAgent ⟨Nat.le_of_ble_eq_true rfl, Nat.le_of_ble_eq_true rfl⟩ rfl (Nat.le_of_ble_eq_true rfl) d_H_joins_10 ⟨Nat.le_of_ble_eq_true rfl, Nat.le_of_ble_eq_true rfl⟩) X Y hA (fun z103 H locs Y p103 => ?_)
    obtain ⟨l103, u103, x103⟩ := p103
    refine z_if_eq (tgt := 39) X.1 X.2.1 d_H_joins_13 (by decide) ⟨by omega, by omega⟩ (fun h104 => ?_) (fun h104 => ?_)
    · refine lv_iconst (v := iI 0) X.1 X.2.1 d_H_joins_39 (by decide) ?_
      exact c_retz hQQ X Y hr hlk (iI_bool (by omega) (by omega)).1 ⟨rfl, S, 0, rfl, ⟨by omega, by omega⟩⟩ d_H_joins_40
    · refine lv_aload_n X.1 X.2.1 d_H_joins_16 rfl (lv_at hl 0 rfl) ?_
      refine t_getr (ci := 0) X Y S k0 rfl i_H 8 (by decide) rfl (k1 := 7) (k2 := 8) rfl rfl lk_H_56 (fun _ h9 => h9) d_H_joins_17 (fun b105 e105 k105 => ?_)
      refine lv_iload_n X.1 X.2.1 d_H_joins_20 rfl (lv_at hl 1 rfl) ?_
      refine t_aald X Y S k105 (fun h9 => h9) (t0 := 4) rfl (by omega) (by omega) (by omega) d_H_joins_21 (fun b106 e106 k106 => ?_)
      refine lv_iload_n X.1 X.2.1 d_H_joins_22 rfl (lv_at hl 2 rfl) ?_
      refine lv_aload_n X.1 X.2.1 d_H_joins_23 rfl (lv_at hl 0 rfl) ?_
      refine t_getr (ci := 0) X Y S k0 rfl i_H 7 (by decide) rfl (k1 := 6) (k2 := 4) rfl rfl lk_H_49 (fun _ h9 => h9) d_H_joins_24 (fun b107 e107 k107 => ?_)
      refine lv_iload_n X.1 X.2.1 d_H_joins_27 rfl (lv_at hl 2 rfl) ?_
      refine t_aald X Y S k107 (fun h9 => h9) (t0 := 3) rfl (by omega) (by omega) (by omega) d_H_joins_28 (fun b108 e108 k108 => ?_)
      refine t_ni (t_runV (As := [.int (iI a2), .ref b108]) (rest := []) (n := 2) X Y S k106 hml hl.1 (c_So_join l D E T κ L f H.size b106 k106 a2 (by omega) (by omega) b108 k108 S.1) (ok_k X Y hA KS KR) rfl kl_H_So_join ks_So_join kx_So_join ki_So_join ini_So ⟨rfl, rfl⟩ hd_So_join ⟨Nat.le_of_ble_eq_true rfl, Nat.le_of_ble_eq_true rfl⟩ rfl (Nat.le_of_ble_eq_true rfl) d_H_joins_29 ⟨Nat.le_of_ble_eq_true rfl, Nat.le_of_ble_eq_true rfl⟩) X Y hA S (by decide) (fun z109 f109 H locs Y S s109 p109 => ?_)
      obtain ⟨l109, u109⟩ := p109
      refine z_if_eq (tgt := 39) X.1 X.2.1 d_H_joins_32 (by decide) ⟨by omega, by omega⟩ (fun h110 => ?_) (fun h110 => ?_)
      · refine lv_iconst (v := iI 0) X.1 X.2.1 d_H_joins_39 (by decide) ?_
        exact c_retz hQQ X Y hr hlk (iI_bool (by omega) (by omega)).1 ⟨rfl, S, 0, rfl, ⟨by omega, by omega⟩⟩ d_H_joins_40
      · refine lv_iconst (v := iI 1) X.1 X.2.1 d_H_joins_35 (by decide) ?_
        refine lv_goto (tgt := 40) X.1 X.2.1 d_H_joins_36 (by decide) ?_
        exact c_retz hQQ X Y hr hlk (iI_bool (by omega) (by omega)).1 ⟨rfl, S, 1, rfl, ⟨by omega, by omega⟩⟩ d_H_joins_40
set_option maxHeartbeats 4000000 in
set_option maxRecDepth 100000 in
theorem c_H_send (l : Launch) (D : va_G) (E : cE) (T : cT) (κ : tK) (L : List Nat) (f : pF) (sz : Nat) (h : Nat) (k0 : κ h = (10, 0)) (a1 : Int) (l_a1 : (-2147483648) ≤ a1) (u_a1 : a1 ≤ 2147483647) (a2 : Int) (l_a2 : (-2147483648) ≤ a2) (u_a2 : a2 ≤ 2147483647) (hw : tW E T κ L f) : Met l y_H_send (k_H_send :: lw_tg) (kRm 7 216 0 0) (va_Pc [.ref h, .int (iI a1), .int (iI a2)] (kPre D E T L f sz)) (va_Qi (nPi E T [1, 2, 3, 4, 11, 13, 16, 21] κ L f (fun (z : Int) (g : pF) => (-2147483648) ≤ z ∧ z ≤ 2147483647)) (cPost D E (pA L sz)) (pA L sz)) 0 0 (pA L sz) := by
  refine k_enter (own := R_H) (by decide) rfl (Nat.le_of_ble_eq_true rfl) (fun p e s m below meth c ls AV QQ H locs hQQ X Y hA hin hr hlk hml hl KS KR => ?_)
  have hl : lv_has ls 4 [(0, .ref h), (1, .int (iI a1)), (2, .int (iI a2))] := hl
  have S : tS E T (tFr κ L [1, 2, 3, 4, 11, 13, 16, 21] []) κ L f κ L f := tS_rf hw
  refine lv_aload_n X.1 X.2.1 d_H_send_0 rfl (lv_at hl 0 rfl) ?_
  refine lv_iload_n X.1 X.2.1 d_H_send_1 rfl (lv_at hl 1 rfl) ?_
  refine lv_iload_n X.1 X.2.1 d_H_send_2 rfl (lv_at hl 2 rfl) ?_
  refine t_ui (t_runV (As := [.int (iI a1), .int (iI a2)]) (rest := []) (n := 2) X Y S k0 hml hl.1 (c_H_isSide l D E T κ L f H.size h k0 a1 (by omega) (by omega) a2 (by omega) (by omega) S.1) (ok_k X Y hA KS KR) rfl kl_H_H_isSide ks_H_isSide kx_H_isSide ki_H_isSide ini_H ⟨rfl, rfl⟩ hd_H_isSide ⟨Nat.le_of_ble_eq_true rfl, Nat.le_of_ble_eq_true rfl⟩ rfl (Nat.le_of_ble_eq_true rfl) d_H_send_3 ⟨Nat.le_of_ble_eq_true rfl, Nat.le_of_ble_eq_true rfl⟩) X Y hA (fun z101 H locs Y p101 => ?_)
  obtain ⟨l101, u101, x101⟩ := p101
  have J102 : ∀  (H : Heap) (locs : List Loc) (ls : Array Slot), pH D cCl (pA L sz) s.heap L f H locs → tS E T (tFr κ L [1, 2, 3, 4, 11, 13, 16, 21] []) κ L f κ L f → lv_has ls 4 [(0, .ref h), (1, .int (iI a1)), (2, .int (iI a2))] → W p l e (kRm 7 216 0 0) s m AV below meth c H locs 0 0 QQ (F0 m 26 ls []) := by
    intro  H locs ls  Y S hl
    refine lv_iconst (v := iI 0) X.1 X.2.1 d_H_send_26 (by decide) ?_
    refine lv_istore_n (lv' := [(3, .int (iI 0)), (0, .ref h), (1, .int (iI a1)), (2, .int (iI a2))]) X.1 X.2.1 d_H_send_27 rfl hl (by decide) rfl (fun ls hl => ?_)
    refine lv_iload_n X.1 X.2.1 d_H_send_28 rfl (lv_at hl 0 rfl) ?_
    have J106 : ∀  (H : Heap) (locs : List Loc) (ls : Array Slot), pH D cCl (pA L sz) s.heap L f H locs → tS E T (tFr κ L [1, 2, 3, 4, 11, 13, 16, 21] []) κ L f κ L f → lv_has ls 4 [(0, .ref h), (3, .int (iI 0))] → W p l e (kRm 7 216 0 0) s m AV below meth c H locs 0 0 QQ (F0 m 56 ls []) := by
      intro  H locs ls  Y S hl
      refine lv_aload_n X.1 X.2.1 d_H_send_56 rfl (lv_at hl 0 rfl) ?_
      refine t_getr (ci := 0) X Y S k0 rfl i_H 1 (by decide) rfl (k1 := 13) (k2 := 4000) rfl rfl lk_H_21 (fun _ h9 => h9) d_H_send_57 (fun b110 e110 k110 => ?_)
      refine t_nv (t_runV (As := []) (rest := []) (n := 0) X Y S k110 hml hl.1 (c_By_clear l D E T κ L f H.size b110 4000 k110 (by omega) S.1) (ok_k X Y hA KS KR) rfl kl_H_By_clear ks_By_clear kx_By_clear ki_By_clear ini_By ⟨rfl, rfl⟩ hd_By_clear ⟨Nat.le_of_ble_eq_true rfl, Nat.le_of_ble_eq_true rfl⟩ rfl (Nat.le_of_ble_eq_true rfl) d_H_send_60 ⟨Nat.le_of_ble_eq_true rfl, Nat.le_of_ble_eq_true rfl⟩) X Y hA S (by decide) (fun f111 H locs Y S s111 p111 => ?_)
      refine lv_iload_n X.1 X.2.1 d_H_send_63 rfl (lv_at hl 1 rfl) ?_
      refine z_if_eq (tgt := 77) X.1 X.2.1 d_H_send_64 (by decide) ⟨by omega, by omega⟩ (fun h112 => ?_) (fun h112 => False.elim (by omega))
      · refine lv_iconst (v := iI (-1)) X.1 X.2.1 d_H_send_77 (by decide) ?_
        exact c_reti hQQ X Y hr hlk ⟨rfl, S, (-1), rfl, ⟨by omega, by omega⟩⟩ d_H_send_78
    refine z_if_eq (tgt := 56) X.1 X.2.1 d_H_send_29 (by decide) ⟨by omega, by omega⟩ (fun h113 => ?_) (fun h113 => False.elim (by omega))
    · exact J106  _ _ _  Y S (lv_sub hl [1, 0] rfl)
  refine z_if_eq (tgt := 26) X.1 X.2.1 d_H_send_6 (by decide) ⟨by omega, by omega⟩ (fun h114 => ?_) (fun h114 => ?_)
  · exact J102  _ _ _  Y S (lv_sub hl [0, 1, 2] rfl)
  · refine lv_aload_n X.1 X.2.1 d_H_send_9 rfl (lv_at hl 0 rfl) ?_
    refine t_getr (ci := 0) X Y S k0 rfl i_H 1 (by decide) rfl (k1 := 13) (k2 := 4000) rfl rfl lk_H_21 (fun _ h9 => h9) d_H_send_10 (fun b115 e115 k115 => ?_)
    refine t_gets (ci := 3) X Y S k115 rfl i_By 1 (by decide) rfl lk_H_81 (fun _ h9 => h9) d_H_send_13 (fun z116 e116 l116 u116 => ?_)
    refine lv_sipush (v := iI 1000) X.1 X.2.1 d_H_send_16 (by decide) ?_
    refine z_icmp_gt (tgt := 26) X.1 X.2.1 d_H_send_19 (by decide) ⟨by omega, by omega⟩ ⟨by omega, by omega⟩ (fun h117 => ?_) (fun h117 => ?_)
    · exact J102  _ _ _  Y S (lv_sub hl [0, 1, 2] rfl)
    · refine lv_iconst (v := iI 1) X.1 X.2.1 d_H_send_22 (by decide) ?_
      refine lv_goto (tgt := 27) X.1 X.2.1 d_H_send_23 (by decide) ?_
      refine lv_istore_n (lv' := [(3, .int (iI 1)), (0, .ref h), (1, .int (iI a1)), (2, .int (iI a2))]) X.1 X.2.1 d_H_send_27 rfl hl (by decide) rfl (fun ls hl => ?_)
      refine lv_iload_n X.1 X.2.1 d_H_send_28 rfl (lv_at hl 0 rfl) ?_
      have J119 : ∀ (f118 : pF) (H : Heap) (locs : List Loc) (ls : Array Slot), pH D cCl (pA L sz) s.heap L f118 H locs → tS E T (tFr κ L [1, 2, 3, 4, 11, 13, 16, 21] []) κ L f κ L f118 → lv_has ls 4 [(0, .ref h), (3, .int (iI 1))] → W p l e (kRm 7 216 0 0) s m AV below meth c H locs 0 0 QQ (F0 m 56 ls []) := by
        intro f118 H locs ls  Y S hl
        refine lv_aload_n X.1 X.2.1 d_H_send_56 rfl (lv_at hl 0 rfl) ?_
        refine t_getr (ci := 0) X Y S k0 rfl i_H 1 (by decide) rfl (k1 := 13) (k2 := 4000) rfl rfl lk_H_21 (fun _ h9 => h9) d_H_send_57 (fun b123 e123 k123 => ?_)
        refine t_nv (t_runV (As := []) (rest := []) (n := 0) X Y S k123 hml hl.1 (c_By_clear l D E T κ L f118 H.size b123 4000 k123 (by omega) S.1) (ok_k X Y hA KS KR) rfl kl_H_By_clear ks_By_clear kx_By_clear ki_By_clear ini_By ⟨rfl, rfl⟩ hd_By_clear ⟨Nat.le_of_ble_eq_true rfl, Nat.le_of_ble_eq_true rfl⟩ rfl (Nat.le_of_ble_eq_true rfl) d_H_send_60 ⟨Nat.le_of_ble_eq_true rfl, Nat.le_of_ble_eq_true rfl⟩) X Y hA S (by decide) (fun f124 H locs Y S s124 p124 => ?_)
        refine lv_iload_n X.1 X.2.1 d_H_send_63 rfl (lv_at hl 1 rfl) ?_
        refine z_if_eq (tgt := 77) X.1 X.2.1 d_H_send_64 (by decide) ⟨by omega, by omega⟩ (fun h125 => False.elim (by omega)) (fun h125 => ?_)
        · refine lv_aload_n X.1 X.2.1 d_H_send_67 rfl (lv_at hl 0 rfl) ?_
          refine t_getr (ci := 0) X Y S k0 rfl i_H 2 (by decide) rfl (k1 := 13) (k2 := 12288) rfl rfl lk_H_25 (fun _ h9 => h9) d_H_send_68 (fun b126 e126 k126 => ?_)
          refine t_gets (ci := 3) X Y S k126 rfl i_By 1 (by decide) rfl lk_H_81 (fun _ h9 => h9) d_H_send_71 (fun z127 e127 l127 u127 => ?_)
          refine lv_goto (tgt := 78) X.1 X.2.1 d_H_send_74 (by decide) ?_
          exact c_reti hQQ X Y hr hlk ⟨rfl, S, z127, rfl, ⟨by omega, by omega⟩⟩ d_H_send_78
      refine z_if_eq (tgt := 56) X.1 X.2.1 d_H_send_29 (by decide) ⟨by omega, by omega⟩ (fun h128 => False.elim (by omega)) (fun h128 => ?_)
      · refine lv_aload_n X.1 X.2.1 d_H_send_32 rfl (lv_at hl 1 rfl) ?_
        refine t_getr (ci := 0) X Y S k0 rfl i_H 8 (by decide) rfl (k1 := 7) (k2 := 8) rfl rfl lk_H_56 (fun _ h9 => h9) d_H_send_33 (fun b129 e129 k129 => ?_)
        refine lv_iload_n X.1 X.2.1 d_H_send_36 rfl (lv_at hl 2 rfl) ?_
        refine t_aald X Y S k129 (fun h9 => h9) (t0 := 4) rfl (by omega) (by omega) (by omega) d_H_send_37 (fun b130 e130 k130 => ?_)
        refine lv_iload_n X.1 X.2.1 d_H_send_38 rfl (lv_at hl 3 rfl) ?_
        refine lv_aload_n X.1 X.2.1 d_H_send_39 rfl (lv_at hl 1 rfl) ?_
        refine lv_iload_n X.1 X.2.1 d_H_send_40 rfl (lv_at hl 2 rfl) ?_
        refine lv_iload_n X.1 X.2.1 d_H_send_41 rfl (lv_at hl 3 rfl) ?_
        refine t_ui (t_runV (As := [.int (iI a1), .int (iI a2)]) (rest := [.int (iI a2), .ref b130]) (n := 2) X Y S k0 hml hl.1 (c_H_timeOf l D E T κ L f H.size h k0 a1 (by omega) (by omega) a2 (by omega) (by omega) S.1) (ok_k X Y hA KS KR) rfl kl_H_H_timeOf ks_H_timeOf kx_H_timeOf ki_H_timeOf ini_H ⟨rfl, rfl⟩ hd_H_timeOf ⟨Nat.le_of_ble_eq_true rfl, Nat.le_of_ble_eq_true rfl⟩ rfl (Nat.le_of_ble_eq_true rfl) d_H_send_42 ⟨Nat.le_of_ble_eq_true rfl, Nat.le_of_ble_eq_true rfl⟩) X Y hA (fun z131 H locs Y p131 => ?_)
        obtain ⟨l131, u131⟩ := p131
        refine lv_aload_n X.1 X.2.1 d_H_send_45 rfl (lv_at hl 1 rfl) ?_
        refine t_get0 (ci := 0) X Y S k0 rfl i_H 1 (by decide) rfl lk_H_21 (fun _ h9 => h9) d_H_send_46 e115 ?_
        refine lv_aload_n X.1 X.2.1 d_H_send_49 rfl (lv_at hl 1 rfl) ?_
        refine t_getr (ci := 0) X Y S k0 rfl i_H 2 (by decide) rfl (k1 := 13) (k2 := 12288) rfl rfl lk_H_25 (fun _ h9 => h9) d_H_send_50 (fun b132 e132 k132 => ?_)
        refine t_nv (t_runV (As := [.int (iI a2), .int (iI z131), .ref b115, .ref b132]) (rest := []) (n := 4) X Y S k130 hml hl.1 (c_So_putPrivate l D E T κ L f H.size b130 k130 a2 (by omega) (by omega) z131 (by omega) (by omega) b115 4000 k115 (by omega) b132 12288 k132 (by omega) S.1) (ok_k X Y hA KS KR) rfl kl_H_So_putPrivate ks_So_putPrivate kx_So_putPrivate ki_So_putPrivate ini_So ⟨rfl, rfl⟩ hd_So_putPrivate ⟨Nat.le_of_ble_eq_true rfl, Nat.le_of_ble_eq_true rfl⟩ rfl (Nat.le_of_ble_eq_true rfl) d_H_send_53 ⟨Nat.le_of_ble_eq_true rfl, Nat.le_of_ble_eq_true rfl⟩) X Y hA S (by decide) (fun f133 H locs Y S s133 p133 => ?_)
        exact J119 f133 _ _ _  Y S (lv_sub hl [1, 0] rfl)
set_option maxHeartbeats 4000000 in
set_option maxRecDepth 100000 in
theorem c_H_receive (l : Launch) (D : va_G) (E : cE) (T : cT) (κ : tK) (L : List Nat) (f : pF) (sz : Nat) (h : Nat) (k0 : κ h = (10, 0)) (a1 : Int) (l_a1 : (-2147483648) ≤ a1) (u_a1 : a1 ≤ 2147483647) (a2 : Int) (l_a2 : (-2147483648) ≤ a2) (u_a2 : a2 ≤ 2147483647) (hw : tW E T κ L f) : Met l y_H_receive (k_H_receive :: lw_tg) (kRm 73 2411 0 0) (va_Pc [.ref h, .int (iI a1), .int (iI a2)] (kPre D E T L f sz)) (va_Qi (nPi E T [1, 2, 3, 4, 11, 13, 16] κ L f (fun (z : Int) (g : pF) => (-2147483648) ≤ z ∧ z ≤ 2147483647)) (cPost D E (pA L sz)) (pA L sz)) 0 0 (pA L sz) := by
  refine k_enter (own := R_H) (by decide) rfl (Nat.le_of_ble_eq_true rfl) (fun p e s m below meth c ls AV QQ H locs hQQ X Y hA hin hr hlk hml hl KS KR => ?_)
  have hl : lv_has ls 4 [(0, .ref h), (1, .int (iI a1)), (2, .int (iI a2))] := hl
  have S : tS E T (tFr κ L [1, 2, 3, 4, 11, 13, 16] []) κ L f κ L f := tS_rf hw
  refine lv_aload_n X.1 X.2.1 d_H_receive_0 rfl (lv_at hl 0 rfl) ?_
  refine lv_iload_n X.1 X.2.1 d_H_receive_1 rfl (lv_at hl 1 rfl) ?_
  refine lv_iload_n X.1 X.2.1 d_H_receive_2 rfl (lv_at hl 2 rfl) ?_
  refine t_ui (t_runV (As := [.int (iI a1), .int (iI a2)]) (rest := []) (n := 2) X Y S k0 hml hl.1 (c_H_isSide l D E T κ L f H.size h k0 a1 (by omega) (by omega) a2 (by omega) (by omega) S.1) (ok_k X Y hA KS KR) rfl kl_H_H_isSide ks_H_isSide kx_H_isSide ki_H_isSide ini_H ⟨rfl, rfl⟩ hd_H_isSide ⟨Nat.le_of_ble_eq_true rfl, Nat.le_of_ble_eq_true rfl⟩ rfl (Nat.le_of_ble_eq_true rfl) d_H_receive_3 ⟨Nat.le_of_ble_eq_true rfl, Nat.le_of_ble_eq_true rfl⟩) X Y hA (fun z101 H locs Y p101 => ?_)
  obtain ⟨l101, u101, x101⟩ := p101
  have J104 : ∀ (z103 : Int) (f102 : pF) (H : Heap) (locs : List Loc) (ls : Array Slot), ((-2147483648) ≤ z103) → (z103 ≤ 2147483647) → pH D cCl (pA L sz) s.heap L f102 H locs → tS E T (tFr κ L [1, 2, 3, 4, 11, 13, 16] []) κ L f κ L f102 → lv_has ls 4 [(0, .ref h)] → W p l e (kRm 73 2411 0 0) s m AV below meth c H locs 0 0 QQ (F0 m 37 ls [.int (iI z103)]) := by
    intro z103 f102 H locs ls l103 u103 Y S hl
    refine lv_istore_n (lv' := [(3, .int (iI z103)), (0, .ref h)]) X.1 X.2.1 d_H_receive_37 rfl hl (by decide) rfl (fun ls hl => ?_)
    refine lv_aload_n X.1 X.2.1 d_H_receive_38 rfl (lv_at hl 1 rfl) ?_
    refine t_getr (ci := 0) X Y S k0 rfl i_H 1 (by decide) rfl (k1 := 13) (k2 := 4000) rfl rfl lk_H_21 (fun _ h9 => h9) d_H_receive_39 (fun b108 e108 k108 => ?_)
    refine t_nv (t_runV (As := []) (rest := []) (n := 0) X Y S k108 hml hl.1 (c_By_clear l D E T κ L f102 H.size b108 4000 k108 (by omega) S.1) (ok_k X Y hA KS KR) rfl kl_H_By_clear ks_By_clear kx_By_clear ki_By_clear ini_By ⟨rfl, rfl⟩ hd_By_clear ⟨Nat.le_of_ble_eq_true rfl, Nat.le_of_ble_eq_true rfl⟩ rfl (Nat.le_of_ble_eq_true rfl) d_H_receive_42 ⟨Nat.le_of_ble_eq_true rfl, Nat.le_of_ble_eq_true rfl⟩) X Y hA S (by decide) (fun f109 H locs Y S s109 p109 => ?_)
    refine lv_iload_n X.1 X.2.1 d_H_receive_45 rfl (lv_at hl 0 rfl) ?_
    exact c_reti hQQ X Y hr hlk ⟨rfl, S, z103, rfl, ⟨by omega, by omega⟩⟩ d_H_receive_46
  refine z_if_eq (tgt := 36) X.1 X.2.1 d_H_receive_6 (by decide) ⟨by omega, by omega⟩ (fun h110 => ?_) (fun h110 => ?_)
  · refine lv_iconst (v := iI (-1)) X.1 X.2.1 d_H_receive_36 (by decide) ?_
    exact J104 ((-1)) f _ _ _ (by omega) (by omega) Y S (lv_sub hl [0] rfl)
  · refine lv_aload_n X.1 X.2.1 d_H_receive_9 rfl (lv_at hl 0 rfl) ?_
    refine t_getr (ci := 0) X Y S k0 rfl i_H 8 (by decide) rfl (k1 := 7) (k2 := 8) rfl rfl lk_H_56 (fun _ h9 => h9) d_H_receive_10 (fun b111 e111 k111 => ?_)
    refine lv_iload_n X.1 X.2.1 d_H_receive_13 rfl (lv_at hl 1 rfl) ?_
    refine t_aald X Y S k111 (fun h9 => h9) (t0 := 4) rfl (by omega) (by omega) (by omega) d_H_receive_14 (fun b112 e112 k112 => ?_)
    refine lv_iload_n X.1 X.2.1 d_H_receive_15 rfl (lv_at hl 2 rfl) ?_
    refine lv_aload_n X.1 X.2.1 d_H_receive_16 rfl (lv_at hl 0 rfl) ?_
    refine lv_iload_n X.1 X.2.1 d_H_receive_17 rfl (lv_at hl 1 rfl) ?_
    refine lv_iload_n X.1 X.2.1 d_H_receive_18 rfl (lv_at hl 2 rfl) ?_
    refine t_ui (t_runV (As := [.int (iI a1), .int (iI a2)]) (rest := [.int (iI a2), .ref b112]) (n := 2) X Y S k0 hml hl.1 (c_H_timeOf l D E T κ L f H.size h k0 a1 (by omega) (by omega) a2 (by omega) (by omega) S.1) (ok_k X Y hA KS KR) rfl kl_H_H_timeOf ks_H_timeOf kx_H_timeOf ki_H_timeOf ini_H ⟨rfl, rfl⟩ hd_H_timeOf ⟨Nat.le_of_ble_eq_true rfl, Nat.le_of_ble_eq_true rfl⟩ rfl (Nat.le_of_ble_eq_true rfl) d_H_receive_19 ⟨Nat.le_of_ble_eq_true rfl, Nat.le_of_ble_eq_true rfl⟩) X Y hA (fun z113 H locs Y p113 => ?_)
    obtain ⟨l113, u113⟩ := p113
    refine lv_aload_n X.1 X.2.1 d_H_receive_22 rfl (lv_at hl 0 rfl) ?_
    refine t_getr (ci := 0) X Y S k0 rfl i_H 1 (by decide) rfl (k1 := 13) (k2 := 4000) rfl rfl lk_H_21 (fun _ h9 => h9) d_H_receive_23 (fun b114 e114 k114 => ?_)
    refine lv_aload_n X.1 X.2.1 d_H_receive_26 rfl (lv_at hl 0 rfl) ?_
    refine t_getr (ci := 0) X Y S k0 rfl i_H 2 (by decide) rfl (k1 := 13) (k2 := 12288) rfl rfl lk_H_25 (fun _ h9 => h9) d_H_receive_27 (fun b115 e115 k115 => ?_)
    refine t_ni (t_runV (As := [.int (iI a2), .int (iI z113), .ref b114, .ref b115]) (rest := []) (n := 4) X Y S k112 hml hl.1 (c_So_hearPrivate l D E T κ L f H.size b112 k112 a2 (by omega) (by omega) z113 (by omega) (by omega) b114 4000 k114 (by omega) b115 12288 k115 (by omega) S.1) (ok_k X Y hA KS KR) rfl kl_H_So_hearPrivate ks_So_hearPrivate kx_So_hearPrivate ki_So_hearPrivate ini_So ⟨rfl, rfl⟩ hd_So_hearPrivate ⟨Nat.le_of_ble_eq_true rfl, Nat.le_of_ble_eq_true rfl⟩ rfl (Nat.le_of_ble_eq_true rfl) d_H_receive_30 ⟨Nat.le_of_ble_eq_true rfl, Nat.le_of_ble_eq_true rfl⟩) X Y hA S (by decide) (fun z116 f116 H locs Y S s116 p116 => ?_)
    obtain ⟨l116, u116⟩ := p116
    refine lv_goto (tgt := 37) X.1 X.2.1 d_H_receive_33 (by decide) ?_
    exact J104 z116 f116 _ _ _ (by omega) (by omega) Y S (lv_sub hl [0] rfl)
set_option maxHeartbeats 4000000 in
set_option maxRecDepth 100000 in
theorem c_H_ends (l : Launch) (D : va_G) (E : cE) (T : cT) (κ : tK) (L : List Nat) (f : pF) (sz : Nat) (h : Nat) (k0 : κ h = (10, 0)) (a1 : Int) (l_a1 : (-2147483648) ≤ a1) (u_a1 : a1 ≤ 2147483647) (hw : tW E T κ L f) : Met l y_H_ends (k_H_ends :: lw_tg) (kRm 2 81 0 0) (va_Pc [.ref h, .int (iI a1)] (kPre D E T L f sz)) (va_Qi (nPi E T [19] κ L f (fun (z : Int) (g : pF) => 0 ≤ z ∧ z ≤ 1)) (cPost D E (pA L sz)) (pA L sz)) 0 0 (pA L sz) := by
  refine k_enter (own := R_H) (by decide) rfl (Nat.le_of_ble_eq_true rfl) (fun p e s m below meth c ls AV QQ H locs hQQ X Y hA hin hr hlk hml hl KS KR => ?_)
  have hl : lv_has ls 2 [(0, .ref h), (1, .int (iI a1))] := hl
  have S : tS E T (tFr κ L [19] []) κ L f κ L f := tS_rf hw
  refine lv_aload_n X.1 X.2.1 d_H_ends_0 rfl (lv_at hl 0 rfl) ?_
  refine lv_iload_n X.1 X.2.1 d_H_ends_1 rfl (lv_at hl 1 rfl) ?_
  refine t_ui (t_runV (As := [.int (iI a1)]) (rest := []) (n := 1) X Y S k0 hml hl.1 (c_H_isSession l D E T κ L f H.size h k0 a1 (by omega) (by omega) S.1) (ok_k X Y hA KS KR) rfl kl_H_H_isSession ks_H_isSession kx_H_isSession ki_H_isSession ini_H ⟨rfl, rfl⟩ hd_H_isSession ⟨Nat.le_of_ble_eq_true rfl, Nat.le_of_ble_eq_true rfl⟩ rfl (Nat.le_of_ble_eq_true rfl) d_H_ends_2 ⟨Nat.le_of_ble_eq_true rfl, Nat.le_of_ble_eq_true rfl⟩) X Y hA (fun z101 H locs Y p101 => ?_)
  obtain ⟨l101, u101, x101⟩ := p101
  refine z_if_ne (tgt := 10) X.1 X.2.1 d_H_ends_5 (by decide) ⟨by omega, by omega⟩ (fun h102 => ?_) (fun h102 => ?_)
  · refine lv_aload_n X.1 X.2.1 d_H_ends_10 rfl (lv_at hl 0 rfl) ?_
    refine t_getr (ci := 0) X Y S k0 rfl i_H 8 (by decide) rfl (k1 := 7) (k2 := 8) rfl rfl lk_H_56 (fun _ h9 => h9) d_H_ends_11 (fun b103 e103 k103 => ?_)
    refine lv_iload_n X.1 X.2.1 d_H_ends_14 rfl (lv_at hl 1 rfl) ?_
    refine t_aald X Y S k103 (fun h9 => h9) (t0 := 4) rfl (by omega) (by omega) (by omega) d_H_ends_15 (fun b104 e104 k104 => ?_)
    refine lv_iconst (v := iI 0) X.1 X.2.1 d_H_ends_16 (by decide) ?_
    refine t_put (ci := 9) X Y S k104 rfl i_So t_So t_So_ok n_So 1 (by decide) rfl lk_H_239 (fun _ h9 => h9) rfl (t_So_ok 1 (by decide)) (iI_bool (by omega) (by omega)).1 (iI_bool (by omega) (by omega)).2 ⟨_, rfl, (show (0 : Int) ≤ 0 by omega), (show 0 ≤ (1 : Int) by omega)⟩ (nF_of S k104 (by decide)) d_H_ends_17 (fun f105 H locs Y S w105 => ?_)
    refine lv_iconst (v := iI 1) X.1 X.2.1 d_H_ends_20 (by decide) ?_
    exact c_retz hQQ X Y hr hlk (iI_bool (by omega) (by omega)).1 ⟨rfl, S, 1, rfl, ⟨by omega, by omega⟩⟩ d_H_ends_21
  · refine lv_iconst (v := iI 0) X.1 X.2.1 d_H_ends_8 (by decide) ?_
    exact c_retz hQQ X Y hr hlk (iI_bool (by omega) (by omega)).1 ⟨rfl, S, 0, rfl, ⟨by omega, by omega⟩⟩ d_H_ends_9
set_option maxHeartbeats 4000000 in
set_option maxRecDepth 100000 in
theorem c_H_assure (l : Launch) (D : va_G) (E : cE) (T : cT) (κ : tK) (L : List Nat) (f : pF) (sz : Nat) (h : Nat) (k0 : κ h = (10, 0)) (a1 : Int) (l_a1 : (-2147483648) ≤ a1) (u_a1 : a1 ≤ 2147483647) (a2 : Int) (l_a2 : (-2147483648) ≤ a2) (u_a2 : a2 ≤ 2147483647) (hw : tW E T κ L f) : Met l y_H_assure (k_H_assure :: lw_tg) (kRm 7 211 0 0) (va_Pc [.ref h, .int (iI a1), .int (iI a2)] (kPre D E T L f sz)) (va_Qi (nPi E T [1, 2, 3, 4, 11, 13, 16] κ L f (fun (z : Int) (g : pF) => (-2147483648) ≤ z ∧ z ≤ 2147483647)) (cPost D E (pA L sz)) (pA L sz)) 0 0 (pA L sz) := by
  refine k_enter (own := R_H) (by decide) rfl (Nat.le_of_ble_eq_true rfl) (fun p e s m below meth c ls AV QQ H locs hQQ X Y hA hin hr hlk hml hl KS KR => ?_)
  have hl : lv_has ls 4 [(0, .ref h), (1, .int (iI a1)), (2, .int (iI a2))] := hl
  have S : tS E T (tFr κ L [1, 2, 3, 4, 11, 13, 16] []) κ L f κ L f := tS_rf hw
  refine lv_aload_n X.1 X.2.1 d_H_assure_0 rfl (lv_at hl 0 rfl) ?_
  refine lv_iload_n X.1 X.2.1 d_H_assure_1 rfl (lv_at hl 1 rfl) ?_
  refine lv_iload_n X.1 X.2.1 d_H_assure_2 rfl (lv_at hl 2 rfl) ?_
  refine t_ui (t_runV (As := [.int (iI a1), .int (iI a2)]) (rest := []) (n := 2) X Y S k0 hml hl.1 (c_H_isSide l D E T κ L f H.size h k0 a1 (by omega) (by omega) a2 (by omega) (by omega) S.1) (ok_k X Y hA KS KR) rfl kl_H_H_isSide ks_H_isSide kx_H_isSide ki_H_isSide ini_H ⟨rfl, rfl⟩ hd_H_isSide ⟨Nat.le_of_ble_eq_true rfl, Nat.le_of_ble_eq_true rfl⟩ rfl (Nat.le_of_ble_eq_true rfl) d_H_assure_3 ⟨Nat.le_of_ble_eq_true rfl, Nat.le_of_ble_eq_true rfl⟩) X Y hA (fun z101 H locs Y p101 => ?_)
  obtain ⟨l101, u101, x101⟩ := p101
  have J102 : ∀  (H : Heap) (locs : List Loc) (ls : Array Slot), pH D cCl (pA L sz) s.heap L f H locs → tS E T (tFr κ L [1, 2, 3, 4, 11, 13, 16] []) κ L f κ L f → lv_has ls 4 [(0, .ref h), (1, .int (iI a1)), (2, .int (iI a2))] → W p l e (kRm 7 211 0 0) s m AV below meth c H locs 0 0 QQ (F0 m 26 ls []) := by
    intro  H locs ls  Y S hl
    refine lv_iconst (v := iI 0) X.1 X.2.1 d_H_assure_26 (by decide) ?_
    refine lv_istore_n (lv' := [(3, .int (iI 0)), (0, .ref h), (1, .int (iI a1)), (2, .int (iI a2))]) X.1 X.2.1 d_H_assure_27 rfl hl (by decide) rfl (fun ls hl => ?_)
    refine lv_iload_n X.1 X.2.1 d_H_assure_28 rfl (lv_at hl 0 rfl) ?_
    have J106 : ∀  (H : Heap) (locs : List Loc) (ls : Array Slot), pH D cCl (pA L sz) s.heap L f H locs → tS E T (tFr κ L [1, 2, 3, 4, 11, 13, 16] []) κ L f κ L f → lv_has ls 4 [(0, .ref h), (3, .int (iI 0))] → W p l e (kRm 7 211 0 0) s m AV below meth c H locs 0 0 QQ (F0 m 56 ls []) := by
      intro  H locs ls  Y S hl
      refine lv_aload_n X.1 X.2.1 d_H_assure_56 rfl (lv_at hl 0 rfl) ?_
      refine t_getr (ci := 0) X Y S k0 rfl i_H 1 (by decide) rfl (k1 := 13) (k2 := 4000) rfl rfl lk_H_21 (fun _ h9 => h9) d_H_assure_57 (fun b110 e110 k110 => ?_)
      refine t_nv (t_runV (As := []) (rest := []) (n := 0) X Y S k110 hml hl.1 (c_By_clear l D E T κ L f H.size b110 4000 k110 (by omega) S.1) (ok_k X Y hA KS KR) rfl kl_H_By_clear ks_By_clear kx_By_clear ki_By_clear ini_By ⟨rfl, rfl⟩ hd_By_clear ⟨Nat.le_of_ble_eq_true rfl, Nat.le_of_ble_eq_true rfl⟩ rfl (Nat.le_of_ble_eq_true rfl) d_H_assure_60 ⟨Nat.le_of_ble_eq_true rfl, Nat.le_of_ble_eq_true rfl⟩) X Y hA S (by decide) (fun f111 H locs Y S s111 p111 => ?_)
      refine lv_iload_n X.1 X.2.1 d_H_assure_63 rfl (lv_at hl 1 rfl) ?_
      refine z_if_eq (tgt := 77) X.1 X.2.1 d_H_assure_64 (by decide) ⟨by omega, by omega⟩ (fun h112 => ?_) (fun h112 => False.elim (by omega))
      · refine lv_iconst (v := iI (-1)) X.1 X.2.1 d_H_assure_77 (by decide) ?_
        exact c_reti hQQ X Y hr hlk ⟨rfl, S, (-1), rfl, ⟨by omega, by omega⟩⟩ d_H_assure_78
    refine z_if_eq (tgt := 56) X.1 X.2.1 d_H_assure_29 (by decide) ⟨by omega, by omega⟩ (fun h113 => ?_) (fun h113 => False.elim (by omega))
    · exact J106  _ _ _  Y S (lv_sub hl [1, 0] rfl)
  refine z_if_eq (tgt := 26) X.1 X.2.1 d_H_assure_6 (by decide) ⟨by omega, by omega⟩ (fun h114 => ?_) (fun h114 => ?_)
  · exact J102  _ _ _  Y S (lv_sub hl [0, 1, 2] rfl)
  · refine lv_aload_n X.1 X.2.1 d_H_assure_9 rfl (lv_at hl 0 rfl) ?_
    refine t_getr (ci := 0) X Y S k0 rfl i_H 1 (by decide) rfl (k1 := 13) (k2 := 4000) rfl rfl lk_H_21 (fun _ h9 => h9) d_H_assure_10 (fun b115 e115 k115 => ?_)
    refine t_gets (ci := 3) X Y S k115 rfl i_By 1 (by decide) rfl lk_H_81 (fun _ h9 => h9) d_H_assure_13 (fun z116 e116 l116 u116 => ?_)
    refine lv_sipush (v := iI 1000) X.1 X.2.1 d_H_assure_16 (by decide) ?_
    refine z_icmp_gt (tgt := 26) X.1 X.2.1 d_H_assure_19 (by decide) ⟨by omega, by omega⟩ ⟨by omega, by omega⟩ (fun h117 => ?_) (fun h117 => ?_)
    · exact J102  _ _ _  Y S (lv_sub hl [0, 1, 2] rfl)
    · refine lv_iconst (v := iI 1) X.1 X.2.1 d_H_assure_22 (by decide) ?_
      refine lv_goto (tgt := 27) X.1 X.2.1 d_H_assure_23 (by decide) ?_
      refine lv_istore_n (lv' := [(3, .int (iI 1)), (0, .ref h), (1, .int (iI a1)), (2, .int (iI a2))]) X.1 X.2.1 d_H_assure_27 rfl hl (by decide) rfl (fun ls hl => ?_)
      refine lv_iload_n X.1 X.2.1 d_H_assure_28 rfl (lv_at hl 0 rfl) ?_
      have J119 : ∀ (f118 : pF) (H : Heap) (locs : List Loc) (ls : Array Slot), pH D cCl (pA L sz) s.heap L f118 H locs → tS E T (tFr κ L [1, 2, 3, 4, 11, 13, 16] []) κ L f κ L f118 → lv_has ls 4 [(0, .ref h), (3, .int (iI 1))] → W p l e (kRm 7 211 0 0) s m AV below meth c H locs 0 0 QQ (F0 m 56 ls []) := by
        intro f118 H locs ls  Y S hl
        refine lv_aload_n X.1 X.2.1 d_H_assure_56 rfl (lv_at hl 0 rfl) ?_
        refine t_getr (ci := 0) X Y S k0 rfl i_H 1 (by decide) rfl (k1 := 13) (k2 := 4000) rfl rfl lk_H_21 (fun _ h9 => h9) d_H_assure_57 (fun b123 e123 k123 => ?_)
        refine t_nv (t_runV (As := []) (rest := []) (n := 0) X Y S k123 hml hl.1 (c_By_clear l D E T κ L f118 H.size b123 4000 k123 (by omega) S.1) (ok_k X Y hA KS KR) rfl kl_H_By_clear ks_By_clear kx_By_clear ki_By_clear ini_By ⟨rfl, rfl⟩ hd_By_clear ⟨Nat.le_of_ble_eq_true rfl, Nat.le_of_ble_eq_true rfl⟩ rfl (Nat.le_of_ble_eq_true rfl) d_H_assure_60 ⟨Nat.le_of_ble_eq_true rfl, Nat.le_of_ble_eq_true rfl⟩) X Y hA S (by decide) (fun f124 H locs Y S s124 p124 => ?_)
        refine lv_iload_n X.1 X.2.1 d_H_assure_63 rfl (lv_at hl 1 rfl) ?_
        refine z_if_eq (tgt := 77) X.1 X.2.1 d_H_assure_64 (by decide) ⟨by omega, by omega⟩ (fun h125 => False.elim (by omega)) (fun h125 => ?_)
        · refine lv_aload_n X.1 X.2.1 d_H_assure_67 rfl (lv_at hl 0 rfl) ?_
          refine t_getr (ci := 0) X Y S k0 rfl i_H 2 (by decide) rfl (k1 := 13) (k2 := 12288) rfl rfl lk_H_25 (fun _ h9 => h9) d_H_assure_68 (fun b126 e126 k126 => ?_)
          refine t_gets (ci := 3) X Y S k126 rfl i_By 1 (by decide) rfl lk_H_81 (fun _ h9 => h9) d_H_assure_71 (fun z127 e127 l127 u127 => ?_)
          refine lv_goto (tgt := 78) X.1 X.2.1 d_H_assure_74 (by decide) ?_
          exact c_reti hQQ X Y hr hlk ⟨rfl, S, z127, rfl, ⟨by omega, by omega⟩⟩ d_H_assure_78
      refine z_if_eq (tgt := 56) X.1 X.2.1 d_H_assure_29 (by decide) ⟨by omega, by omega⟩ (fun h128 => False.elim (by omega)) (fun h128 => ?_)
      · refine lv_aload_n X.1 X.2.1 d_H_assure_32 rfl (lv_at hl 1 rfl) ?_
        refine t_getr (ci := 0) X Y S k0 rfl i_H 8 (by decide) rfl (k1 := 7) (k2 := 8) rfl rfl lk_H_56 (fun _ h9 => h9) d_H_assure_33 (fun b129 e129 k129 => ?_)
        refine lv_iload_n X.1 X.2.1 d_H_assure_36 rfl (lv_at hl 2 rfl) ?_
        refine t_aald X Y S k129 (fun h9 => h9) (t0 := 4) rfl (by omega) (by omega) (by omega) d_H_assure_37 (fun b130 e130 k130 => ?_)
        refine lv_iload_n X.1 X.2.1 d_H_assure_38 rfl (lv_at hl 3 rfl) ?_
        refine lv_aload_n X.1 X.2.1 d_H_assure_39 rfl (lv_at hl 1 rfl) ?_
        refine lv_iload_n X.1 X.2.1 d_H_assure_40 rfl (lv_at hl 2 rfl) ?_
        refine lv_iload_n X.1 X.2.1 d_H_assure_41 rfl (lv_at hl 3 rfl) ?_
        refine t_ui (t_runV (As := [.int (iI a1), .int (iI a2)]) (rest := [.int (iI a2), .ref b130]) (n := 2) X Y S k0 hml hl.1 (c_H_timeOf l D E T κ L f H.size h k0 a1 (by omega) (by omega) a2 (by omega) (by omega) S.1) (ok_k X Y hA KS KR) rfl kl_H_H_timeOf ks_H_timeOf kx_H_timeOf ki_H_timeOf ini_H ⟨rfl, rfl⟩ hd_H_timeOf ⟨Nat.le_of_ble_eq_true rfl, Nat.le_of_ble_eq_true rfl⟩ rfl (Nat.le_of_ble_eq_true rfl) d_H_assure_42 ⟨Nat.le_of_ble_eq_true rfl, Nat.le_of_ble_eq_true rfl⟩) X Y hA (fun z131 H locs Y p131 => ?_)
        obtain ⟨l131, u131⟩ := p131
        refine lv_aload_n X.1 X.2.1 d_H_assure_45 rfl (lv_at hl 1 rfl) ?_
        refine t_get0 (ci := 0) X Y S k0 rfl i_H 1 (by decide) rfl lk_H_21 (fun _ h9 => h9) d_H_assure_46 e115 ?_
        refine lv_aload_n X.1 X.2.1 d_H_assure_49 rfl (lv_at hl 1 rfl) ?_
        refine t_getr (ci := 0) X Y S k0 rfl i_H 2 (by decide) rfl (k1 := 13) (k2 := 12288) rfl rfl lk_H_25 (fun _ h9 => h9) d_H_assure_50 (fun b132 e132 k132 => ?_)
        refine t_nv (t_runV (As := [.int (iI a2), .int (iI z131), .ref b115, .ref b132]) (rest := []) (n := 4) X Y S k130 hml hl.1 (c_So_putSafe l D E T κ L f H.size b130 k130 a2 (by omega) (by omega) z131 (by omega) (by omega) b115 4000 k115 (by omega) b132 12288 k132 (by omega) S.1) (ok_k X Y hA KS KR) rfl kl_H_So_putSafe ks_So_putSafe kx_So_putSafe ki_So_putSafe ini_So ⟨rfl, rfl⟩ hd_So_putSafe ⟨Nat.le_of_ble_eq_true rfl, Nat.le_of_ble_eq_true rfl⟩ rfl (Nat.le_of_ble_eq_true rfl) d_H_assure_53 ⟨Nat.le_of_ble_eq_true rfl, Nat.le_of_ble_eq_true rfl⟩) X Y hA S (by decide) (fun f133 H locs Y S s133 p133 => ?_)
        exact J119 f133 _ _ _  Y S (lv_sub hl [1, 0] rfl)
set_option maxHeartbeats 4000000 in
set_option maxRecDepth 100000 in
theorem c_H_assured (l : Launch) (D : va_G) (E : cE) (T : cT) (κ : tK) (L : List Nat) (f : pF) (sz : Nat) (h : Nat) (k0 : κ h = (10, 0)) (a1 : Int) (l_a1 : (-2147483648) ≤ a1) (u_a1 : a1 ≤ 2147483647) (a2 : Int) (l_a2 : (-2147483648) ≤ a2) (u_a2 : a2 ≤ 2147483647) (hw : tW E T κ L f) : Met l y_H_assured (k_H_assured :: lw_tg) (kRm 73 2412 0 0) (va_Pc [.ref h, .int (iI a1), .int (iI a2)] (kPre D E T L f sz)) (va_Qi (nPi E T [1, 2, 3, 4, 11, 13, 16] κ L f (fun (z : Int) (g : pF) => (-2147483648) ≤ z ∧ z ≤ 2147483647)) (cPost D E (pA L sz)) (pA L sz)) 0 0 (pA L sz) := by
  refine k_enter (own := R_H) (by decide) rfl (Nat.le_of_ble_eq_true rfl) (fun p e s m below meth c ls AV QQ H locs hQQ X Y hA hin hr hlk hml hl KS KR => ?_)
  have hl : lv_has ls 4 [(0, .ref h), (1, .int (iI a1)), (2, .int (iI a2))] := hl
  have S : tS E T (tFr κ L [1, 2, 3, 4, 11, 13, 16] []) κ L f κ L f := tS_rf hw
  refine lv_aload_n X.1 X.2.1 d_H_assured_0 rfl (lv_at hl 0 rfl) ?_
  refine lv_iload_n X.1 X.2.1 d_H_assured_1 rfl (lv_at hl 1 rfl) ?_
  refine lv_iload_n X.1 X.2.1 d_H_assured_2 rfl (lv_at hl 2 rfl) ?_
  refine t_ui (t_runV (As := [.int (iI a1), .int (iI a2)]) (rest := []) (n := 2) X Y S k0 hml hl.1 (c_H_isSide l D E T κ L f H.size h k0 a1 (by omega) (by omega) a2 (by omega) (by omega) S.1) (ok_k X Y hA KS KR) rfl kl_H_H_isSide ks_H_isSide kx_H_isSide ki_H_isSide ini_H ⟨rfl, rfl⟩ hd_H_isSide ⟨Nat.le_of_ble_eq_true rfl, Nat.le_of_ble_eq_true rfl⟩ rfl (Nat.le_of_ble_eq_true rfl) d_H_assured_3 ⟨Nat.le_of_ble_eq_true rfl, Nat.le_of_ble_eq_true rfl⟩) X Y hA (fun z101 H locs Y p101 => ?_)
  obtain ⟨l101, u101, x101⟩ := p101
  have J104 : ∀ (z103 : Int) (f102 : pF) (H : Heap) (locs : List Loc) (ls : Array Slot), ((-2147483648) ≤ z103) → (z103 ≤ 2147483647) → pH D cCl (pA L sz) s.heap L f102 H locs → tS E T (tFr κ L [1, 2, 3, 4, 11, 13, 16] []) κ L f κ L f102 → lv_has ls 4 [(0, .ref h)] → W p l e (kRm 73 2412 0 0) s m AV below meth c H locs 0 0 QQ (F0 m 37 ls [.int (iI z103)]) := by
    intro z103 f102 H locs ls l103 u103 Y S hl
    refine lv_istore_n (lv' := [(3, .int (iI z103)), (0, .ref h)]) X.1 X.2.1 d_H_assured_37 rfl hl (by decide) rfl (fun ls hl => ?_)
    refine lv_aload_n X.1 X.2.1 d_H_assured_38 rfl (lv_at hl 1 rfl) ?_
    refine t_getr (ci := 0) X Y S k0 rfl i_H 1 (by decide) rfl (k1 := 13) (k2 := 4000) rfl rfl lk_H_21 (fun _ h9 => h9) d_H_assured_39 (fun b108 e108 k108 => ?_)
    refine t_nv (t_runV (As := []) (rest := []) (n := 0) X Y S k108 hml hl.1 (c_By_clear l D E T κ L f102 H.size b108 4000 k108 (by omega) S.1) (ok_k X Y hA KS KR) rfl kl_H_By_clear ks_By_clear kx_By_clear ki_By_clear ini_By ⟨rfl, rfl⟩ hd_By_clear ⟨Nat.le_of_ble_eq_true rfl, Nat.le_of_ble_eq_true rfl⟩ rfl (Nat.le_of_ble_eq_true rfl) d_H_assured_42 ⟨Nat.le_of_ble_eq_true rfl, Nat.le_of_ble_eq_true rfl⟩) X Y hA S (by decide) (fun f109 H locs Y S s109 p109 => ?_)
    refine lv_iload_n X.1 X.2.1 d_H_assured_45 rfl (lv_at hl 0 rfl) ?_
    exact c_reti hQQ X Y hr hlk ⟨rfl, S, z103, rfl, ⟨by omega, by omega⟩⟩ d_H_assured_46
  refine z_if_eq (tgt := 36) X.1 X.2.1 d_H_assured_6 (by decide) ⟨by omega, by omega⟩ (fun h110 => ?_) (fun h110 => ?_)
  · refine lv_iconst (v := iI (-1)) X.1 X.2.1 d_H_assured_36 (by decide) ?_
    exact J104 ((-1)) f _ _ _ (by omega) (by omega) Y S (lv_sub hl [0] rfl)
  · refine lv_aload_n X.1 X.2.1 d_H_assured_9 rfl (lv_at hl 0 rfl) ?_
    refine t_getr (ci := 0) X Y S k0 rfl i_H 8 (by decide) rfl (k1 := 7) (k2 := 8) rfl rfl lk_H_56 (fun _ h9 => h9) d_H_assured_10 (fun b111 e111 k111 => ?_)
    refine lv_iload_n X.1 X.2.1 d_H_assured_13 rfl (lv_at hl 1 rfl) ?_
    refine t_aald X Y S k111 (fun h9 => h9) (t0 := 4) rfl (by omega) (by omega) (by omega) d_H_assured_14 (fun b112 e112 k112 => ?_)
    refine lv_iload_n X.1 X.2.1 d_H_assured_15 rfl (lv_at hl 2 rfl) ?_
    refine lv_aload_n X.1 X.2.1 d_H_assured_16 rfl (lv_at hl 0 rfl) ?_
    refine lv_iload_n X.1 X.2.1 d_H_assured_17 rfl (lv_at hl 1 rfl) ?_
    refine lv_iload_n X.1 X.2.1 d_H_assured_18 rfl (lv_at hl 2 rfl) ?_
    refine t_ui (t_runV (As := [.int (iI a1), .int (iI a2)]) (rest := [.int (iI a2), .ref b112]) (n := 2) X Y S k0 hml hl.1 (c_H_timeOf l D E T κ L f H.size h k0 a1 (by omega) (by omega) a2 (by omega) (by omega) S.1) (ok_k X Y hA KS KR) rfl kl_H_H_timeOf ks_H_timeOf kx_H_timeOf ki_H_timeOf ini_H ⟨rfl, rfl⟩ hd_H_timeOf ⟨Nat.le_of_ble_eq_true rfl, Nat.le_of_ble_eq_true rfl⟩ rfl (Nat.le_of_ble_eq_true rfl) d_H_assured_19 ⟨Nat.le_of_ble_eq_true rfl, Nat.le_of_ble_eq_true rfl⟩) X Y hA (fun z113 H locs Y p113 => ?_)
    obtain ⟨l113, u113⟩ := p113
    refine lv_aload_n X.1 X.2.1 d_H_assured_22 rfl (lv_at hl 0 rfl) ?_
    refine t_getr (ci := 0) X Y S k0 rfl i_H 1 (by decide) rfl (k1 := 13) (k2 := 4000) rfl rfl lk_H_21 (fun _ h9 => h9) d_H_assured_23 (fun b114 e114 k114 => ?_)
    refine lv_aload_n X.1 X.2.1 d_H_assured_26 rfl (lv_at hl 0 rfl) ?_
    refine t_getr (ci := 0) X Y S k0 rfl i_H 2 (by decide) rfl (k1 := 13) (k2 := 12288) rfl rfl lk_H_25 (fun _ h9 => h9) d_H_assured_27 (fun b115 e115 k115 => ?_)
    refine t_ni (t_runV (As := [.int (iI a2), .int (iI z113), .ref b114, .ref b115]) (rest := []) (n := 4) X Y S k112 hml hl.1 (c_So_hearSafe l D E T κ L f H.size b112 k112 a2 (by omega) (by omega) z113 (by omega) (by omega) b114 4000 k114 (by omega) b115 12288 k115 (by omega) S.1) (ok_k X Y hA KS KR) rfl kl_H_So_hearSafe ks_So_hearSafe kx_So_hearSafe ki_So_hearSafe ini_So ⟨rfl, rfl⟩ hd_So_hearSafe ⟨Nat.le_of_ble_eq_true rfl, Nat.le_of_ble_eq_true rfl⟩ rfl (Nat.le_of_ble_eq_true rfl) d_H_assured_30 ⟨Nat.le_of_ble_eq_true rfl, Nat.le_of_ble_eq_true rfl⟩) X Y hA S (by decide) (fun z116 f116 H locs Y S s116 p116 => ?_)
    obtain ⟨l116, u116⟩ := p116
    refine lv_goto (tgt := 37) X.1 X.2.1 d_H_assured_33 (by decide) ?_
    exact J104 z116 f116 _ _ _ (by omega) (by omega) Y S (lv_sub hl [0] rfl)
set_option maxHeartbeats 4000000 in
set_option maxRecDepth 100000 in
theorem c_H_hand (l : Launch) (D : va_G) (E : cE) (T : cT) (κ : tK) (L : List Nat) (f : pF) (sz : Nat) (h : Nat) (k0 : κ h = (10, 0)) (a1 : Int) (l_a1 : (-2147483648) ≤ a1) (u_a1 : a1 ≤ 2147483647) (a2 : Int) (l_a2 : (-2147483648) ≤ a2) (u_a2 : a2 ≤ 2147483647) (hw : tW E T κ L f) : Met l y_H_hand (k_H_hand :: lw_tg) (kRm 9 235 0 0) (va_Pc [.ref h, .int (iI a1), .int (iI a2)] (kPre D E T L f sz)) (va_Qi (nPi E T [1, 2, 3, 4, 11, 13, 16, 21] κ L f (fun (z : Int) (g : pF) => (-2147483648) ≤ z ∧ z ≤ 2147483647)) (cPost D E (pA L sz)) (pA L sz)) 0 0 (pA L sz) := by
  refine k_enter (own := R_H) (by decide) rfl (Nat.le_of_ble_eq_true rfl) (fun p e s m below meth c ls AV QQ H locs hQQ X Y hA hin hr hlk hml hl KS KR => ?_)
  have hl : lv_has ls 4 [(0, .ref h), (1, .int (iI a1)), (2, .int (iI a2))] := hl
  have S : tS E T (tFr κ L [1, 2, 3, 4, 11, 13, 16, 21] []) κ L f κ L f := tS_rf hw
  refine lv_aload_n X.1 X.2.1 d_H_hand_0 rfl (lv_at hl 0 rfl) ?_
  refine lv_iload_n X.1 X.2.1 d_H_hand_1 rfl (lv_at hl 1 rfl) ?_
  refine lv_iconst (v := iI 0) X.1 X.2.1 d_H_hand_2 (by decide) ?_
  refine t_ui (t_runV (As := [.int (iI a1), .int (iI 0)]) (rest := []) (n := 2) X Y S k0 hml hl.1 (c_H_isSide l D E T κ L f H.size h k0 a1 (by omega) (by omega) 0 (by omega) (by omega) S.1) (ok_k X Y hA KS KR) rfl kl_H_H_isSide ks_H_isSide kx_H_isSide ki_H_isSide ini_H ⟨rfl, rfl⟩ hd_H_isSide ⟨Nat.le_of_ble_eq_true rfl, Nat.le_of_ble_eq_true rfl⟩ rfl (Nat.le_of_ble_eq_true rfl) d_H_hand_3 ⟨Nat.le_of_ble_eq_true rfl, Nat.le_of_ble_eq_true rfl⟩) X Y hA (fun z101 H locs Y p101 => ?_)
  obtain ⟨l101, u101, x101⟩ := p101
  refine z_if_eq (tgt := 26) X.1 X.2.1 d_H_hand_6 (by decide) ⟨by omega, by omega⟩ (fun h102 => ?_) (fun h102 => ?_)
  · refine lv_iconst (v := iI (-1)) X.1 X.2.1 d_H_hand_26 (by decide) ?_
    exact c_reti hQQ X Y hr hlk ⟨rfl, S, (-1), rfl, ⟨by omega, by omega⟩⟩ d_H_hand_27
  · refine lv_aload_n X.1 X.2.1 d_H_hand_9 rfl (lv_at hl 0 rfl) ?_
    refine lv_aload_n X.1 X.2.1 d_H_hand_10 rfl (lv_at hl 0 rfl) ?_
    refine t_getr (ci := 0) X Y S k0 rfl i_H 8 (by decide) rfl (k1 := 7) (k2 := 8) rfl rfl lk_H_56 (fun _ h9 => h9) d_H_hand_11 (fun b103 e103 k103 => ?_)
    refine lv_iload_n X.1 X.2.1 d_H_hand_14 rfl (lv_at hl 1 rfl) ?_
    refine t_aald X Y S k103 (fun h9 => h9) (t0 := 4) rfl (by omega) (by omega) (by omega) d_H_hand_15 (fun b104 e104 k104 => ?_)
    refine t_geti (ci := 9) X Y S k104 rfl i_So 2 (by decide) rfl lk_H_289 (fun _ h9 => h9) d_H_hand_16 (fun z105 e105 l105 u105 => ?_)
    refine lv_iload_n X.1 X.2.1 d_H_hand_19 rfl (lv_at hl 2 rfl) ?_
    refine t_ui (t_runV (As := [.int (iI z105), .int (iI a2)]) (rest := []) (n := 2) X Y S k0 hml hl.1 (c_H_hasTicket l D E T κ L f H.size h k0 z105 (by omega) (by omega) a2 (by omega) (by omega) S.1) (ok_k X Y hA KS KR) rfl kl_H_H_hasTicket ks_H_hasTicket kx_H_hasTicket ki_H_hasTicket ini_H ⟨rfl, rfl⟩ hd_H_hasTicket ⟨Nat.le_of_ble_eq_true rfl, Nat.le_of_ble_eq_true rfl⟩ rfl (Nat.le_of_ble_eq_true rfl) d_H_hand_20 ⟨Nat.le_of_ble_eq_true rfl, Nat.le_of_ble_eq_true rfl⟩) X Y hA (fun z106 H locs Y p106 => ?_)
    obtain ⟨l106, u106, x106⟩ := p106
    refine z_if_ne (tgt := 28) X.1 X.2.1 d_H_hand_23 (by decide) ⟨by omega, by omega⟩ (fun h107 => ?_) (fun h107 => ?_)
    · refine lv_aload_n X.1 X.2.1 d_H_hand_28 rfl (lv_at hl 0 rfl) ?_
      refine t_getr (ci := 0) X Y S k0 rfl i_H 7 (by decide) rfl (k1 := 6) (k2 := 4) rfl rfl lk_H_49 (fun _ h9 => h9) d_H_hand_29 (fun b108 e108 k108 => ?_)
      refine lv_aload_n X.1 X.2.1 d_H_hand_32 rfl (lv_at hl 0 rfl) ?_
      refine t_get0 (ci := 0) X Y S k0 rfl i_H 8 (by decide) rfl lk_H_56 (fun _ h9 => h9) d_H_hand_33 e103 ?_
      refine lv_iload_n X.1 X.2.1 d_H_hand_36 rfl (lv_at hl 1 rfl) ?_
      refine t_aald0 X Y S k103 (fun h9 => h9) (t0 := 4) rfl (by omega) (by omega) (by omega) d_H_hand_37 e104 ?_
      refine t_get0 (ci := 9) X Y S k104 rfl i_So 2 (by decide) rfl lk_H_289 (fun _ h9 => h9) d_H_hand_38 e105 ?_
      refine t_aald X Y S k108 (fun h9 => h9) (t0 := 3) rfl (by omega) (by omega) (by omega) d_H_hand_41 (fun b109 e109 k109 => ?_)
      refine lv_astore_n (lv' := [(3, .ref b109), (0, .ref h), (1, .int (iI a1)), (2, .int (iI a2))]) X.1 X.2.1 d_H_hand_42 rfl hl (by decide) rfl (fun ls hl => ?_)
      refine lv_aload_n X.1 X.2.1 d_H_hand_43 rfl (lv_at hl 1 rfl) ?_
      refine t_get0 (ci := 0) X Y S k0 rfl i_H 8 (by decide) rfl lk_H_56 (fun _ h9 => h9) d_H_hand_44 e103 ?_
      refine lv_iload_n X.1 X.2.1 d_H_hand_47 rfl (lv_at hl 2 rfl) ?_
      refine t_aald0 X Y S k103 (fun h9 => h9) (t0 := 4) rfl (by omega) (by omega) (by omega) d_H_hand_48 e104 ?_
      refine lv_aload_n X.1 X.2.1 d_H_hand_49 rfl (lv_at hl 0 rfl) ?_
      refine t_getr (ci := 2) X Y S k109 rfl i_Ag 1 (by decide) rfl (k1 := 8) (k2 := 8) rfl rfl lk_H_225 (fun _ h9 => h9) d_H_hand_50 (fun b110 e110 k110 => ?_)
      refine lv_iload_n X.1 X.2.1 d_H_hand_53 rfl (lv_at hl 3 rfl) ?_
      refine t_aald X Y S k110 (fun h9 => h9) (t0 := 5) rfl (by omega) (by omega) (by omega) d_H_hand_54 (fun b111 e111 k111 => ?_)
      refine lv_aload_n X.1 X.2.1 d_H_hand_55 rfl (lv_at hl 0 rfl) ?_
      refine t_ui (t_runV (As := []) (rest := [.ref b111, .ref b104]) (n := 0) X Y S k109 hml hl.1 (c_Ag_time l D E T κ L f H.size b109 k109 S.1) (ok_k X Y hA KS KR) rfl kl_H_Ag_time ks_Ag_time kx_Ag_time ki_Ag_time ini_Ag ⟨rfl, rfl⟩ hd_Ag_time ⟨Nat.le_of_ble_eq_true rfl, Nat.le_of_ble_eq_true rfl⟩ rfl (Nat.le_of_ble_eq_true rfl) d_H_hand_56 ⟨Nat.le_of_ble_eq_true rfl, Nat.le_of_ble_eq_true rfl⟩) X Y hA (fun z112 H locs Y p112 => ?_)
      obtain ⟨l112, u112⟩ := p112
      refine lv_aload_n X.1 X.2.1 d_H_hand_59 rfl (lv_at hl 1 rfl) ?_
      refine t_getr (ci := 0) X Y S k0 rfl i_H 2 (by decide) rfl (k1 := 13) (k2 := 12288) rfl rfl lk_H_25 (fun _ h9 => h9) d_H_hand_60 (fun b113 e113 k113 => ?_)
      refine t_nv (t_runV (As := [.ref b111, .int (iI z112), .ref b113]) (rest := []) (n := 3) X Y S k104 hml hl.1 (c_So_putCred l D E T κ L f H.size b104 k104 b111 k111 z112 (by omega) (by omega) b113 12288 k113 (by omega) S.1) (ok_k X Y hA KS KR) rfl kl_H_So_putCred ks_So_putCred kx_So_putCred ki_So_putCred ini_So ⟨rfl, rfl⟩ hd_So_putCred ⟨Nat.le_of_ble_eq_true rfl, Nat.le_of_ble_eq_true rfl⟩ rfl (Nat.le_of_ble_eq_true rfl) d_H_hand_63 ⟨Nat.le_of_ble_eq_true rfl, Nat.le_of_ble_eq_true rfl⟩) X Y hA S (by decide) (fun f114 H locs Y S s114 p114 => ?_)
      refine lv_aload_n X.1 X.2.1 d_H_hand_66 rfl (lv_at hl 1 rfl) ?_
      refine t_get0 (ci := 0) X Y S k0 rfl i_H 2 (by decide) rfl lk_H_25 (fun _ h9 => h9) d_H_hand_67 ((gF_same (s114.2.2.2 _ ⟨(t_obj S.1 k0).1, nM_of k0 (by decide), by simp⟩).1 2).trans e113) ?_
      refine t_gets (ci := 3) X Y S k113 rfl i_By 1 (by decide) rfl lk_H_81 (fun _ h9 => h9) d_H_hand_70 (fun z115 e115 l115 u115 => ?_)
      exact c_reti hQQ X Y hr hlk ⟨rfl, S, z115, rfl, ⟨by omega, by omega⟩⟩ d_H_hand_73
    · refine lv_iconst (v := iI (-1)) X.1 X.2.1 d_H_hand_26 (by decide) ?_
      exact c_reti hQQ X Y hr hlk ⟨rfl, S, (-1), rfl, ⟨by omega, by omega⟩⟩ d_H_hand_27
set_option maxHeartbeats 4000000 in
set_option maxRecDepth 100000 in
theorem c_H_handed (l : Launch) (D : va_G) (E : cE) (T : cT) (κ : tK) (L : List Nat) (f : pF) (sz : Nat) (h : Nat) (k0 : κ h = (10, 0)) (a1 : Int) (l_a1 : (-2147483648) ≤ a1) (u_a1 : a1 ≤ 2147483647) (a2 : Int) (l_a2 : (-2147483648) ≤ a2) (u_a2 : a2 ≤ 2147483647) (hw : tW E T κ L f) : Met l y_H_handed (k_H_handed :: lw_tg) (kRm 73 2411 3 4035) (va_Pc [.ref h, .int (iI a1), .int (iI a2)] (kPre D E T L f sz)) (va_Qi (aPi E T [1, 2, 3, 4, 11, 13, 16, 20] [] κ L f (fun (z : Int) (k : tK) (g : pF) => (-2147483648) ≤ z ∧ z ≤ 2147483647)) (cPost D E (pA L sz)) (pA L sz)) 3 4035 (pA L sz) := by
  refine k_enter (own := R_H) (by decide) rfl (Nat.le_of_ble_eq_true rfl) (fun p e s m below meth c ls AV QQ H locs hQQ X Y hA hin hr hlk hml hl KS KR => ?_)
  have hl : lv_has ls 4 [(0, .ref h), (1, .int (iI a1)), (2, .int (iI a2))] := hl
  have S : tS E T (tFr κ L [1, 2, 3, 4, 11, 13, 16, 20] []) κ L f κ L f := tS_rf hw
  have hF0 : ∀ b, tFr κ L [1, 2, 3, 4, 11, 13, 16, 20] [] b → b ∈ L := fun b h9 => h9.1
  refine lv_iconst (v := iI (-1)) X.1 X.2.1 d_H_handed_0 (by decide) ?_
  refine lv_istore_n (lv' := [(3, .int (iI ((-1)))), (0, .ref h), (1, .int (iI a1)), (2, .int (iI a2))]) X.1 X.2.1 d_H_handed_1 rfl hl (by decide) rfl (fun ls hl => ?_)
  refine lv_aload_n X.1 X.2.1 d_H_handed_2 rfl (lv_at hl 1 rfl) ?_
  refine lv_iload_n X.1 X.2.1 d_H_handed_3 rfl (lv_at hl 2 rfl) ?_
  refine t_ui (t_runV (As := [.int (iI a1)]) (rest := []) (n := 1) X Y S k0 hml hl.1 (c_H_isSession l D E T κ L f H.size h k0 a1 (by omega) (by omega) S.1) (ok_k X Y hA KS KR) rfl kl_H_H_isSession ks_H_isSession kx_H_isSession ki_H_isSession ini_H ⟨rfl, rfl⟩ hd_H_isSession ⟨Nat.le_of_ble_eq_true rfl, Nat.le_of_ble_eq_true rfl⟩ rfl (Nat.le_of_ble_eq_true rfl) d_H_handed_4 ⟨Nat.le_of_ble_eq_true rfl, Nat.le_of_ble_eq_true rfl⟩) X Y hA (fun z101 H locs Y p101 => ?_)
  obtain ⟨l101, u101, x101⟩ := p101
  have J107 : ∀ (κ103 : tK) (L104 : List Nat) (z106 : Int) (f102 : pF) (H : Heap) (locs : List Loc) (ls : Array Slot), (κ103 h = (10, 0)) → ((-2147483648) ≤ z106) → (z106 ≤ 2147483647) → pH D cCl (pA L sz) s.heap L104 f102 H locs → tS E T (tFr κ L [1, 2, 3, 4, 11, 13, 16, 20] []) κ L f κ103 L104 f102 → lv_has ls 4 [(0, .ref h), (3, .int (iI z106))] → W p l e (kRm 73 2411 3 4035) s m AV below meth c H locs 3 4035 QQ (F0 m 50 ls []) := by
    intro κ103 L104 z106 f102 H locs ls k105 l106 u106 Y S hl
    refine lv_aload_n X.1 X.2.1 d_H_handed_50 rfl (lv_at hl 0 rfl) ?_
    refine t_getr (ci := 0) X Y S k105 rfl i_H 1 (by decide) rfl (k1 := 13) (k2 := 4000) rfl rfl lk_H_21 (fun _ h9 => h9) d_H_handed_51 (fun b111 e111 k111 => ?_)
    refine t_nv (t_runV (As := []) (rest := []) (n := 0) X Y S k111 hml hl.1 (c_By_clear l D E T κ103 L104 f102 H.size b111 4000 k111 (by omega) S.1) (ok_k X Y hA KS KR) rfl kl_H_By_clear ks_By_clear kx_By_clear ki_By_clear ini_By ⟨rfl, rfl⟩ hd_By_clear ⟨Nat.le_of_ble_eq_true rfl, Nat.le_of_ble_eq_true rfl⟩ rfl (Nat.le_of_ble_eq_true rfl) d_H_handed_54 ⟨Nat.le_of_ble_eq_true rfl, Nat.le_of_ble_eq_true rfl⟩) X Y hA S (by decide) (fun f112 H locs Y S s112 p112 => ?_)
    refine lv_iload_n X.1 X.2.1 d_H_handed_57 rfl (lv_at hl 1 rfl) ?_
    exact c_reti hQQ X Y hr hlk ⟨κ103, S, z106, rfl, ⟨by omega, by omega⟩⟩ d_H_handed_58
  refine z_if_eq (tgt := 50) X.1 X.2.1 d_H_handed_7 (by decide) ⟨by omega, by omega⟩ (fun h113 => ?_) (fun h113 => ?_)
  · refine W.widen (k := 3) (n := 4035) (Nat.le_of_ble_eq_true rfl) (Nat.le_of_ble_eq_true rfl) ?_
    exact J107 κ L ((-1)) f _ _ _ k0 (by omega) (by omega) Y S (lv_sub hl [1, 0] rfl)
  · refine lv_aload_n X.1 X.2.1 d_H_handed_10 rfl (lv_at hl 1 rfl) ?_
    refine lv_iload_n X.1 X.2.1 d_H_handed_11 rfl (lv_at hl 3 rfl) ?_
    refine t_ui (t_runV (As := [.int (iI a2)]) (rest := []) (n := 1) X Y S k0 hml hl.1 (c_H_isAgent l D E T κ L f H.size h k0 a2 (by omega) (by omega) S.1) (ok_k X Y hA KS KR) rfl kl_H_H_isAgent ks_H_isAgent kx_H_isAgent ki_H_isAgent ini_H ⟨rfl, rfl⟩ hd_H_isAgent ⟨Nat.le_of_ble_eq_true rfl, Nat.le_of_ble_eq_true rfl⟩ rfl (Nat.le_of_ble_eq_true rfl) d_H_handed_12 ⟨Nat.le_of_ble_eq_true rfl, Nat.le_of_ble_eq_true rfl⟩) X Y hA (fun z114 H locs Y p114 => ?_)
    obtain ⟨l114, u114, x114⟩ := p114
    refine z_if_eq (tgt := 50) X.1 X.2.1 d_H_handed_15 (by decide) ⟨by omega, by omega⟩ (fun h115 => ?_) (fun h115 => ?_)
    · refine W.widen (k := 3) (n := 4035) (Nat.le_of_ble_eq_true rfl) (Nat.le_of_ble_eq_true rfl) ?_
      exact J107 κ L ((-1)) f _ _ _ k0 (by omega) (by omega) Y S (lv_sub hl [1, 0] rfl)
    · refine lv_aload_n X.1 X.2.1 d_H_handed_18 rfl (lv_at hl 1 rfl) ?_
      refine t_getr (ci := 0) X Y S k0 rfl i_H 8 (by decide) rfl (k1 := 7) (k2 := 8) rfl rfl lk_H_56 (fun _ h9 => h9) d_H_handed_19 (fun b116 e116 k116 => ?_)
      refine lv_iload_n X.1 X.2.1 d_H_handed_22 rfl (lv_at hl 2 rfl) ?_
      refine t_aald X Y S k116 (fun h9 => h9) (t0 := 4) rfl (by omega) (by omega) (by omega) d_H_handed_23 (fun b117 e117 k117 => ?_)
      refine lv_aload_n X.1 X.2.1 d_H_handed_24 rfl (lv_at hl 1 rfl) ?_
      refine t_getr (ci := 0) X Y S k0 rfl i_H 1 (by decide) rfl (k1 := 13) (k2 := 4000) rfl rfl lk_H_21 (fun _ h9 => h9) d_H_handed_25 (fun b118 e118 k118 => ?_)
      refine t_ni (t_runV (As := [.ref b118]) (rest := []) (n := 1) X Y S k117 hml hl.1 (c_So_judgeCred l D E T κ L f H.size b117 k117 b118 4000 k118 (by omega) S.1) (ok_k X Y hA KS KR) rfl kl_H_So_judgeCred ks_So_judgeCred kx_So_judgeCred ki_So_judgeCred ini_So ⟨rfl, rfl⟩ hd_So_judgeCred ⟨Nat.le_of_ble_eq_true rfl, Nat.le_of_ble_eq_true rfl⟩ rfl (Nat.le_of_ble_eq_true rfl) d_H_handed_28 ⟨Nat.le_of_ble_eq_true rfl, Nat.le_of_ble_eq_true rfl⟩) X Y hA S (by decide) (fun z119 f119 H locs Y S s119 p119 => ?_)
      obtain ⟨l119, u119⟩ := p119
      refine lv_istore_n (lv' := [(3, .int (iI z119)), (0, .ref h), (1, .int (iI a1)), (2, .int (iI a2))]) X.1 X.2.1 d_H_handed_31 rfl hl (by decide) rfl (fun ls hl => ?_)
      refine lv_iload_n X.1 X.2.1 d_H_handed_32 rfl (lv_at hl 0 rfl) ?_
      refine z_if_ne (tgt := 50) X.1 X.2.1 d_H_handed_33 (by decide) ⟨by omega, by omega⟩ (fun h120 => ?_) (fun h120 => ?_)
      · refine W.widen (k := 3) (n := 4035) (Nat.le_of_ble_eq_true rfl) (Nat.le_of_ble_eq_true rfl) ?_
        exact J107 κ L z119 f119 _ _ _ k0 (by omega) (by omega) Y S (lv_sub hl [1, 0] rfl)
      · refine lv_aload_n X.1 X.2.1 d_H_handed_36 rfl (lv_at hl 1 rfl) ?_
        refine t_getr (ci := 0) X Y S k0 rfl i_H 7 (by decide) rfl (k1 := 6) (k2 := 4) rfl rfl lk_H_49 (fun _ h9 => h9) d_H_handed_37 (fun b121 e121 k121 => ?_)
        refine lv_iload_n X.1 X.2.1 d_H_handed_40 rfl (lv_at hl 3 rfl) ?_
        refine t_aald X Y S k121 (fun h9 => h9) (t0 := 3) rfl (by omega) (by omega) (by omega) d_H_handed_41 (fun b122 e122 k122 => ?_)
        refine lv_aload_n X.1 X.2.1 d_H_handed_42 rfl (lv_at hl 1 rfl) ?_
        refine t_get0 (ci := 0) X Y S k0 rfl i_H 1 (by decide) rfl lk_H_21 (fun _ h9 => h9) d_H_handed_43 ((gF_same (s119.2.2.2 _ ⟨(t_obj S.1 k0).1, nM_of k0 (by decide), by simp⟩).1 1).trans e118) ?_
        refine t_ai (t_runV (As := [.ref b118]) (rest := []) (n := 1) X Y S k122 hml hl.1 (c_Ag_keepHanded l D E T κ L f119 H.size b122 k122 b118 4000 k118 (by omega) S.1) (ok_k X Y hA KS KR) rfl kl_H_Ag_keepHanded ks_Ag_keepHanded kx_Ag_keepHanded ki_Ag_keepHanded ini_Ag ⟨rfl, rfl⟩ hd_Ag_keepHanded ⟨Nat.le_of_ble_eq_true rfl, Nat.le_of_ble_eq_true rfl⟩ rfl (Nat.le_of_ble_eq_true rfl) d_H_handed_46 ⟨Nat.le_of_ble_eq_true rfl, Nat.le_of_ble_eq_true rfl⟩) X Y hA S (by decide) (fun z123 κ123 L123 f123 H locs Y S s123 p123 => ?_)
        obtain ⟨l123, u123⟩ := p123
        have k124 : κ123 h = (10, 0) := tLe_k s123.2.2.1 k0
        refine lv_istore_n (lv' := [(3, .int (iI z123)), (0, .ref h), (1, .int (iI a1)), (2, .int (iI a2))]) X.1 X.2.1 d_H_handed_49 rfl hl (by decide) rfl (fun ls hl => ?_)
        exact J107 κ123 L123 z123 f123 _ _ _ k124 (by omega) (by omega) Y S (lv_sub hl [1, 0] rfl)
