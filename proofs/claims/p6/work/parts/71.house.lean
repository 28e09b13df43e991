set_option maxHeartbeats 4000000 in
set_option maxRecDepth 100000 in
theorem c_H_isPrincipal (l : Launch) (D : va_G) (E : cE) (T : cT) (κ : tK) (L : List Nat) (f : pF) (sz : Nat) (h : Nat) (k0 : κ h = (10, 0)) (a1 : Int) (l_a1 : (-2147483648) ≤ a1) (u_a1 : a1 ≤ 2147483647) (hw : tW E T κ L f) : Met l y_H_isPrincipal (k_H_isPrincipal :: lw_tg) (kRm 1 60 0 0) (va_Pc [.ref h, .int (iI a1)] (kPre D E T L f sz)) (va_Qi (uPi L f (fun (z : Int) => 0 ≤ z ∧ z ≤ 1 ∧ (z = 1 → 0 ≤ a1 ∧ a1 ≤ 11))) (cPost D E (pA L sz)) (pA L sz)) 0 0 (pA L sz) := by
  refine k_enter (own := R_H) (by decide) rfl (Nat.le_of_ble_eq_true rfl) (fun p e s m below meth c ls AV QQ H locs hQQ X Y hA hin hr hlk hml hl KS KR => ?_)
  have hl : lv_has ls 2 [(0, .ref h), (1, .int (iI a1))] := hl
  have S : tS E T (tFr κ L [] []) κ L f κ L f := tS_rf hw
  refine lv_iload_n X.1 X.2.1 d_H_isPrincipal_0 rfl (lv_at hl 1 rfl) ?_
  refine z_if_lt (tgt := 26) X.1 X.2.1 d_H_isPrincipal_1 (by decide) ⟨by omega, by omega⟩ (fun h1 => ?_) (fun h1 => ?_)
  · refine lv_iconst (v := iI 0) X.1 X.2.1 d_H_isPrincipal_26 (by decide) ?_
    exact c_retz hQQ X Y hr hlk (iI_bool (by omega) (by omega)).1 ⟨rfl, rfl, 0, rfl, ⟨by omega, by omega, by omega⟩⟩ d_H_isPrincipal_27
  · refine lv_iload_n X.1 X.2.1 d_H_isPrincipal_4 rfl (lv_at hl 1 rfl) ?_
    refine lv_bipush (v := iI 12) X.1 X.2.1 d_H_isPrincipal_5 (by decide) ?_
    refine z_icmp_ge (tgt := 26) X.1 X.2.1 d_H_isPrincipal_7 (by decide) ⟨by omega, by omega⟩ ⟨by omega, by omega⟩ (fun h2 => ?_) (fun h2 => ?_)
    · refine lv_iconst (v := iI 0) X.1 X.2.1 d_H_isPrincipal_26 (by decide) ?_
      exact c_retz hQQ X Y hr hlk (iI_bool (by omega) (by omega)).1 ⟨rfl, rfl, 0, rfl, ⟨by omega, by omega, by omega⟩⟩ d_H_isPrincipal_27
    · refine lv_aload_n X.1 X.2.1 d_H_isPrincipal_10 rfl (lv_at hl 0 rfl) ?_
      refine t_getr (ci := 0) X Y S k0 rfl i_H 4 (by decide) rfl (k1 := 5) (k2 := 12) rfl rfl lk_H_42 (fun _ h9 => h9) d_H_isPrincipal_11 (fun b3 e3 k3 => ?_)
      refine lv_iload_n X.1 X.2.1 d_H_isPrincipal_14 rfl (lv_at hl 1 rfl) ?_
      refine t_aald X Y S k3 (fun h9 => h9) (t0 := 2) rfl (by omega) (by omega) (by omega) d_H_isPrincipal_15 (fun b4 e4 k4 => ?_)
      refine t_geti (ci := 7) X Y S k4 rfl i_Pr 2 (by decide) rfl lk_H_116 (fun _ h9 => h9) d_H_isPrincipal_16 (fun z5 e5 l5 u5 => ?_)
      refine z_if_eq (tgt := 26) X.1 X.2.1 d_H_isPrincipal_19 (by decide) ⟨by omega, by omega⟩ (fun h6 => ?_) (fun h6 => ?_)
      · refine lv_iconst (v := iI 0) X.1 X.2.1 d_H_isPrincipal_26 (by decide) ?_
        exact c_retz hQQ X Y hr hlk (iI_bool (by omega) (by omega)).1 ⟨rfl, rfl, 0, rfl, ⟨by omega, by omega, by omega⟩⟩ d_H_isPrincipal_27
      · refine lv_iconst (v := iI 1) X.1 X.2.1 d_H_isPrincipal_22 (by decide) ?_
        refine lv_goto (tgt := 27) X.1 X.2.1 d_H_isPrincipal_23 (by decide) ?_
        exact c_retz hQQ X Y hr hlk (iI_bool (by omega) (by omega)).1 ⟨rfl, rfl, 1, rfl, ⟨by omega, by omega, by omega⟩⟩ d_H_isPrincipal_27
set_option maxHeartbeats 4000000 in
set_option maxRecDepth 100000 in
theorem c_H_isAgent (l : Launch) (D : va_G) (E : cE) (T : cT) (κ : tK) (L : List Nat) (f : pF) (sz : Nat) (h : Nat) (k0 : κ h = (10, 0)) (a1 : Int) (l_a1 : (-2147483648) ≤ a1) (u_a1 : a1 ≤ 2147483647) (hw : tW E T κ L f) : Met l y_H_isAgent (k_H_isAgent :: lw_tg) (kRm 1 60 0 0) (va_Pc [.ref h, .int (iI a1)] (kPre D E T L f sz)) (va_Qi (uPi L f (fun (z : Int) => 0 ≤ z ∧ z ≤ 1 ∧ (z = 1 → 0 ≤ a1 ∧ a1 ≤ 3))) (cPost D E (pA L sz)) (pA L sz)) 0 0 (pA L sz) := by
  refine k_enter (own := R_H) (by decide) rfl (Nat.le_of_ble_eq_true rfl) (fun p e s m below meth c ls AV QQ H locs hQQ X Y hA hin hr hlk hml hl KS KR => ?_)
  have hl : lv_has ls 2 [(0, .ref h), (1, .int (iI a1))] := hl
  have S : tS E T (tFr κ L [] []) κ L f κ L f := tS_rf hw
  refine lv_iload_n X.1 X.2.1 d_H_isAgent_0 rfl (lv_at hl 1 rfl) ?_
  refine z_if_lt (tgt := 25) X.1 X.2.1 d_H_isAgent_1 (by decide) ⟨by omega, by omega⟩ (fun h1 => ?_) (fun h1 => ?_)
  · refine lv_iconst (v := iI 0) X.1 X.2.1 d_H_isAgent_25 (by decide) ?_
    exact c_retz hQQ X Y hr hlk (iI_bool (by omega) (by omega)).1 ⟨rfl, rfl, 0, rfl, ⟨by omega, by omega, by omega⟩⟩ d_H_isAgent_26
  · refine lv_iload_n X.1 X.2.1 d_H_isAgent_4 rfl (lv_at hl 1 rfl) ?_
    refine lv_iconst (v := iI 4) X.1 X.2.1 d_H_isAgent_5 (by decide) ?_
    refine z_icmp_ge (tgt := 25) X.1 X.2.1 d_H_isAgent_6 (by decide) ⟨by omega, by omega⟩ ⟨by omega, by omega⟩ (fun h2 => ?_) (fun h2 => ?_)
    · refine lv_iconst (v := iI 0) X.1 X.2.1 d_H_isAgent_25 (by decide) ?_
      exact c_retz hQQ X Y hr hlk (iI_bool (by omega) (by omega)).1 ⟨rfl, rfl, 0, rfl, ⟨by omega, by omega, by omega⟩⟩ d_H_isAgent_26
    · refine lv_aload_n X.1 X.2.1 d_H_isAgent_9 rfl (lv_at hl 0 rfl) ?_
      refine t_getr (ci := 0) X Y S k0 rfl i_H 7 (by decide) rfl (k1 := 6) (k2 := 4) rfl rfl lk_H_49 (fun _ h9 => h9) d_H_isAgent_10 (fun b3 e3 k3 => ?_)
      refine lv_iload_n X.1 X.2.1 d_H_isAgent_13 rfl (lv_at hl 1 rfl) ?_
      refine t_aald X Y S k3 (fun h9 => h9) (t0 := 3) rfl (by omega) (by omega) (by omega) d_H_isAgent_14 (fun b4 e4 k4 => ?_)
      refine t_geti (ci := 2) X Y S k4 rfl i_Ag 2 (by decide) rfl lk_H_304 (fun _ h9 => h9) d_H_isAgent_15 (fun z5 e5 l5 u5 => ?_)
      refine z_if_eq (tgt := 25) X.1 X.2.1 d_H_isAgent_18 (by decide) ⟨by omega, by omega⟩ (fun h6 => ?_) (fun h6 => ?_)
      · refine lv_iconst (v := iI 0) X.1 X.2.1 d_H_isAgent_25 (by decide) ?_
        exact c_retz hQQ X Y hr hlk (iI_bool (by omega) (by omega)).1 ⟨rfl, rfl, 0, rfl, ⟨by omega, by omega, by omega⟩⟩ d_H_isAgent_26
      · refine lv_iconst (v := iI 1) X.1 X.2.1 d_H_isAgent_21 (by decide) ?_
        refine lv_goto (tgt := 26) X.1 X.2.1 d_H_isAgent_22 (by decide) ?_
        exact c_retz hQQ X Y hr hlk (iI_bool (by omega) (by omega)).1 ⟨rfl, rfl, 1, rfl, ⟨by omega, by omega, by omega⟩⟩ d_H_isAgent_26
set_option maxHeartbeats 4000000 in
set_option maxRecDepth 100000 in
theorem c_H_hasTicket (l : Launch) (D : va_G) (E : cE) (T : cT) (κ : tK) (L : List Nat) (f : pF) (sz : Nat) (h : Nat) (k0 : κ h = (10, 0)) (a1 : Int) (l_a1 : (-2147483648) ≤ a1) (u_a1 : a1 ≤ 2147483647) (a2 : Int) (l_a2 : (-2147483648) ≤ a2) (u_a2 : a2 ≤ 2147483647) (hw : tW E T κ L f) : Met l y_H_hasTicket (k_H_hasTicket :: lw_tg) (kRm 2 81 0 0) (va_Pc [.ref h, .int (iI a1), .int (iI a2)] (kPre D E T L f sz)) (va_Qi (uPi L f (fun (z : Int) => 0 ≤ z ∧ z ≤ 1 ∧ (z = 1 → 0 ≤ a1 ∧ a1 ≤ 3 ∧ 0 ≤ a2 ∧ a2 ≤ 7))) (cPost D E (pA L sz)) (pA L sz)) 0 0 (pA L sz) := by
  refine k_enter (own := R_H) (by decide) rfl (Nat.le_of_ble_eq_true rfl) (fun p e s m below meth c ls AV QQ H locs hQQ X Y hA hin hr hlk hml hl KS KR => ?_)
  have hl : lv_has ls 3 [(0, .ref h), (1, .int (iI a1)), (2, .int (iI a2))] := hl
  have S : tS E T (tFr κ L [] []) κ L f κ L f := tS_rf hw
  refine lv_aload_n X.1 X.2.1 d_H_hasTicket_0 rfl (lv_at hl 0 rfl) ?_
  refine lv_iload_n X.1 X.2.1 d_H_hasTicket_1 rfl (lv_at hl 1 rfl) ?_
  refine t_ui (t_runV (As := [.int (iI a1)]) (rest := []) (n := 1) X Y S k0 hml hl.1 (c_H_isAgent l D E T κ L f H.size h k0 a1 (by omega) (by omega) S.1) (ok_k X Y hA KS KR) rfl kl_H_H_isAgent ks_H_isAgent kx_H_isAgent ki_H_isAgent ini_H ⟨rfl, rfl⟩ hd_H_isAgent ⟨Nat.le_of_ble_eq_true rfl, Nat.le_of_ble_eq_true rfl⟩ rfl (Nat.le_of_ble_eq_true rfl) d_H_hasTicket_2 ⟨Nat.le_of_ble_eq_true rfl, Nat.le_of_ble_eq_true rfl⟩) X Y hA (fun z1 H locs Y p1 => ?_)
  obtain ⟨l1, u1, x1⟩ := p1
  refine z_if_eq (tgt := 25) X.1 X.2.1 d_H_hasTicket_5 (by decide) ⟨by omega, by omega⟩ (fun h2 => ?_) (fun h2 => ?_)
  · refine lv_iconst (v := iI 0) X.1 X.2.1 d_H_hasTicket_25 (by decide) ?_
    exact c_retz hQQ X Y hr hlk (iI_bool (by omega) (by omega)).1 ⟨rfl, rfl, 0, rfl, ⟨by omega, by omega, by omega⟩⟩ d_H_hasTicket_26
  · refine lv_aload_n X.1 X.2.1 d_H_hasTicket_8 rfl (lv_at hl 0 rfl) ?_
    refine t_getr (ci := 0) X Y S k0 rfl i_H 7 (by decide) rfl (k1 := 6) (k2 := 4) rfl rfl lk_H_49 (fun _ h9 => h9) d_H_hasTicket_9 (fun b3 e3 k3 => ?_)
    refine lv_iload_n X.1 X.2.1 d_H_hasTicket_12 rfl (lv_at hl 1 rfl) ?_
    refine t_aald X Y S k3 (fun h9 => h9) (t0 := 3) rfl (by omega) (by omega) (by omega) d_H_hasTicket_13 (fun b4 e4 k4 => ?_)
    refine lv_iload_n X.1 X.2.1 d_H_hasTicket_14 rfl (lv_at hl 2 rfl) ?_
    refine t_ui (t_runV (As := [.int (iI a2)]) (rest := []) (n := 1) X Y S k4 hml hl.1 (c_Ag_has l D E T κ L f H.size b4 k4 a2 (by omega) (by omega) S.1) (ok_k X Y hA KS KR) rfl kl_H_Ag_has ks_Ag_has kx_Ag_has ki_Ag_has ini_Ag ⟨rfl, rfl⟩ hd_Ag_has ⟨Nat.le_of_ble_eq_true rfl, Nat.le_of_ble_eq_true rfl⟩ rfl (Nat.le_of_ble_eq_true rfl) d_H_hasTicket_15 ⟨Nat.le_of_ble_eq_true rfl, Nat.le_of_ble_eq_true rfl⟩) X Y hA (fun z5 H locs Y p5 => ?_)
    obtain ⟨l5, u5, x5⟩ := p5
    refine z_if_eq (tgt := 25) X.1 X.2.1 d_H_hasTicket_18 (by decide) ⟨by omega, by omega⟩ (fun h6 => ?_) (fun h6 => ?_)
    · refine lv_iconst (v := iI 0) X.1 X.2.1 d_H_hasTicket_25 (by decide) ?_
      exact c_retz hQQ X Y hr hlk (iI_bool (by omega) (by omega)).1 ⟨rfl, rfl, 0, rfl, ⟨by omega, by omega, by omega⟩⟩ d_H_hasTicket_26
    · refine lv_iconst (v := iI 1) X.1 X.2.1 d_H_hasTicket_21 (by decide) ?_
      refine lv_goto (tgt := 26) X.1 X.2.1 d_H_hasTicket_22 (by decide) ?_
      exact c_retz hQQ X Y hr hlk (iI_bool (by omega) (by omega)).1 ⟨rfl, rfl, 1, rfl, ⟨by omega, by omega, by omega⟩⟩ d_H_hasTicket_26
set_option maxHeartbeats 4000000 in
set_option maxRecDepth 100000 in
theorem c_H_isSession (l : Launch) (D : va_G) (E : cE) (T : cT) (κ : tK) (L : List Nat) (f : pF) (sz : Nat) (h : Nat) (k0 : κ h = (10, 0)) (a1 : Int) (l_a1 : (-2147483648) ≤ a1) (u_a1 : a1 ≤ 2147483647) (hw : tW E T κ L f) : Met l y_H_isSession (k_H_isSession :: lw_tg) (kRm 1 60 0 0) (va_Pc [.ref h, .int (iI a1)] (kPre D E T L f sz)) (va_Qi (uPi L f (fun (z : Int) => 0 ≤ z ∧ z ≤ 1 ∧ (z = 1 → 0 ≤ a1 ∧ a1 ≤ 7))) (cPost D E (pA L sz)) (pA L sz)) 0 0 (pA L sz) := by
  refine k_enter (own := R_H) (by decide) rfl (Nat.le_of_ble_eq_true rfl) (fun p e s m below meth c ls AV QQ H locs hQQ X Y hA hin hr hlk hml hl KS KR => ?_)
  have hl : lv_has ls 2 [(0, .ref h), (1, .int (iI a1))] := hl
  have S : tS E T (tFr κ L [] []) κ L f κ L f := tS_rf hw
  refine lv_iload_n X.1 X.2.1 d_H_isSession_0 rfl (lv_at hl 1 rfl) ?_
  refine z_if_lt (tgt := 26) X.1 X.2.1 d_H_isSession_1 (by decide) ⟨by omega, by omega⟩ (fun h1 => ?_) (fun h1 => ?_)
  · refine lv_iconst (v := iI 0) X.1 X.2.1 d_H_isSession_26 (by decide) ?_
    exact c_retz hQQ X Y hr hlk (iI_bool (by omega) (by omega)).1 ⟨rfl, rfl, 0, rfl, ⟨by omega, by omega, by omega⟩⟩ d_H_isSession_27
  · refine lv_iload_n X.1 X.2.1 d_H_isSession_4 rfl (lv_at hl 1 rfl) ?_
    refine lv_bipush (v := iI 8) X.1 X.2.1 d_H_isSession_5 (by decide) ?_
    refine z_icmp_ge (tgt := 26) X.1 X.2.1 d_H_isSession_7 (by decide) ⟨by omega, by omega⟩ ⟨by omega, by omega⟩ (fun h2 => ?_) (fun h2 => ?_)
    · refine lv_iconst (v := iI 0) X.1 X.2.1 d_H_isSession_26 (by decide) ?_
      exact c_retz hQQ X Y hr hlk (iI_bool (by omega) (by omega)).1 ⟨rfl, rfl, 0, rfl, ⟨by omega, by omega, by omega⟩⟩ d_H_isSession_27
    · refine lv_aload_n X.1 X.2.1 d_H_isSession_10 rfl (lv_at hl 0 rfl) ?_
      refine t_getr (ci := 0) X Y S k0 rfl i_H 8 (by decide) rfl (k1 := 7) (k2 := 8) rfl rfl lk_H_56 (fun _ h9 => h9) d_H_isSession_11 (fun b3 e3 k3 => ?_)
      refine lv_iload_n X.1 X.2.1 d_H_isSession_14 rfl (lv_at hl 1 rfl) ?_
      refine t_aald X Y S k3 (fun h9 => h9) (t0 := 4) rfl (by omega) (by omega) (by omega) d_H_isSession_15 (fun b4 e4 k4 => ?_)
      refine t_geti (ci := 9) X Y S k4 rfl i_So 1 (by decide) rfl lk_H_239 (fun _ h9 => h9) d_H_isSession_16 (fun z5 e5 l5 u5 => ?_)
      refine z_if_eq (tgt := 26) X.1 X.2.1 d_H_isSession_19 (by decide) ⟨by omega, by omega⟩ (fun h6 => ?_) (fun h6 => ?_)
      · refine lv_iconst (v := iI 0) X.1 X.2.1 d_H_isSession_26 (by decide) ?_
        exact c_retz hQQ X Y hr hlk (iI_bool (by omega) (by omega)).1 ⟨rfl, rfl, 0, rfl, ⟨by omega, by omega, by omega⟩⟩ d_H_isSession_27
      · refine lv_iconst (v := iI 1) X.1 X.2.1 d_H_isSession_22 (by decide) ?_
        refine lv_goto (tgt := 27) X.1 X.2.1 d_H_isSession_23 (by decide) ?_
        exact c_retz hQQ X Y hr hlk (iI_bool (by omega) (by omega)).1 ⟨rfl, rfl, 1, rfl, ⟨by omega, by omega, by omega⟩⟩ d_H_isSession_27
set_option maxHeartbeats 4000000 in
set_option maxRecDepth 100000 in
theorem c_H_isSide (l : Launch) (D : va_G) (E : cE) (T : cT) (κ : tK) (L : List Nat) (f : pF) (sz : Nat) (h : Nat) (k0 : κ h = (10, 0)) (a1 : Int) (l_a1 : (-2147483648) ≤ a1) (u_a1 : a1 ≤ 2147483647) (a2 : Int) (l_a2 : (-2147483648) ≤ a2) (u_a2 : a2 ≤ 2147483647) (hw : tW E T κ L f) : Met l y_H_isSide (k_H_isSide :: lw_tg) (kRm 2 81 0 0) (va_Pc [.ref h, .int (iI a1), .int (iI a2)] (kPre D E T L f sz)) (va_Qi (uPi L f (fun (z : Int) => 0 ≤ z ∧ z ≤ 1 ∧ (z = 1 → 0 ≤ a1 ∧ a1 ≤ 7 ∧ 0 ≤ a2 ∧ a2 ≤ 1))) (cPost D E (pA L sz)) (pA L sz)) 0 0 (pA L sz) := by
  refine k_enter (own := R_H) (by decide) rfl (Nat.le_of_ble_eq_true rfl) (fun p e s m below meth c ls AV QQ H locs hQQ X Y hA hin hr hlk hml hl KS KR => ?_)
  have hl : lv_has ls 3 [(0, .ref h), (1, .int (iI a1)), (2, .int (iI a2))] := hl
  have S : tS E T (tFr κ L [] []) κ L f κ L f := tS_rf hw
  refine lv_aload_n X.1 X.2.1 d_H_isSide_0 rfl (lv_at hl 0 rfl) ?_
  refine lv_iload_n X.1 X.2.1 d_H_isSide_1 rfl (lv_at hl 1 rfl) ?_
  refine t_ui (t_runV (As := [.int (iI a1)]) (rest := []) (n := 1) X Y S k0 hml hl.1 (c_H_isSession l D E T κ L f H.size h k0 a1 (by omega) (by omega) S.1) (ok_k X Y hA KS KR) rfl kl_H_H_isSession ks_H_isSession kx_H_isSession ki_H_isSession ini_H ⟨rfl, rfl⟩ hd_H_isSession ⟨Nat.le_of_ble_eq_true rfl, Nat.le_of_ble_eq_true rfl⟩ rfl (Nat.le_of_ble_eq_true rfl) d_H_isSide_2 ⟨Nat.le_of_ble_eq_true rfl, Nat.le_of_ble_eq_true rfl⟩) X Y hA (fun z1 H locs Y p1 => ?_)
  obtain ⟨l1, u1, x1⟩ := p1
  refine z_if_eq (tgt := 37) X.1 X.2.1 d_H_isSide_5 (by decide) ⟨by omega, by omega⟩ (fun h2 => ?_) (fun h2 => ?_)
  · refine lv_iconst (v := iI 0) X.1 X.2.1 d_H_isSide_37 (by decide) ?_
    exact c_retz hQQ X Y hr hlk (iI_bool (by omega) (by omega)).1 ⟨rfl, rfl, 0, rfl, ⟨by omega, by omega, by omega⟩⟩ d_H_isSide_38
  · refine lv_iload_n X.1 X.2.1 d_H_isSide_8 rfl (lv_at hl 2 rfl) ?_
    refine lv_iconst (v := iI 1) X.1 X.2.1 d_H_isSide_9 (by decide) ?_
    refine z_icmp_eq (tgt := 33) X.1 X.2.1 d_H_isSide_10 (by decide) ⟨by omega, by omega⟩ ⟨by omega, by omega⟩ (fun h3 => ?_) (fun h3 => ?_)
    · refine lv_iconst (v := iI 1) X.1 X.2.1 d_H_isSide_33 (by decide) ?_
      refine lv_goto (tgt := 38) X.1 X.2.1 d_H_isSide_34 (by decide) ?_
      exact c_retz hQQ X Y hr hlk (iI_bool (by omega) (by omega)).1 ⟨rfl, rfl, 1, rfl, ⟨by omega, by omega, by omega⟩⟩ d_H_isSide_38
    · refine lv_iload_n X.1 X.2.1 d_H_isSide_13 rfl (lv_at hl 2 rfl) ?_
      refine z_if_ne (tgt := 37) X.1 X.2.1 d_H_isSide_14 (by decide) ⟨by omega, by omega⟩ (fun h4 => ?_) (fun h4 => ?_)
      · refine lv_iconst (v := iI 0) X.1 X.2.1 d_H_isSide_37 (by decide) ?_
        exact c_retz hQQ X Y hr hlk (iI_bool (by omega) (by omega)).1 ⟨rfl, rfl, 0, rfl, ⟨by omega, by omega, by omega⟩⟩ d_H_isSide_38
      · refine lv_aload_n X.1 X.2.1 d_H_isSide_17 rfl (lv_at hl 0 rfl) ?_
        refine lv_aload_n X.1 X.2.1 d_H_isSide_18 rfl (lv_at hl 0 rfl) ?_
        refine t_getr (ci := 0) X Y S k0 rfl i_H 8 (by decide) rfl (k1 := 7) (k2 := 8) rfl rfl lk_H_56 (fun _ h9 => h9) d_H_isSide_19 (fun b5 e5 k5 => ?_)
        refine lv_iload_n X.1 X.2.1 d_H_isSide_22 rfl (lv_at hl 1 rfl) ?_
        refine t_aald X Y S k5 (fun h9 => h9) (t0 := 4) rfl (by omega) (by omega) (by omega) d_H_isSide_23 (fun b6 e6 k6 => ?_)
        refine t_geti (ci := 9) X Y S k6 rfl i_So 2 (by decide) rfl lk_H_289 (fun _ h9 => h9) d_H_isSide_24 (fun z7 e7 l7 u7 => ?_)
        refine t_ui (t_runV (As := [.int (iI z7)]) (rest := []) (n := 1) X Y S k0 hml hl.1 (c_H_isAgent l D E T κ L f H.size h k0 z7 (by omega) (by omega) S.1) (ok_k X Y hA KS KR) rfl kl_H_H_isAgent ks_H_isAgent kx_H_isAgent ki_H_isAgent ini_H ⟨rfl, rfl⟩ hd_H_isAgent ⟨Nat.le_of_ble_eq_true rfl, Nat.le_of_ble_eq_true rfl⟩ rfl (Nat.le_of_ble_eq_true rfl) d_H_isSide_27 ⟨Nat.le_of_ble_eq_true rfl, Nat.le_of_ble_eq_true rfl⟩) X Y hA (fun z8 H locs Y p8 => ?_)
        obtain ⟨l8, u8, x8⟩ := p8
        refine z_if_eq (tgt := 37) X.1 X.2.1 d_H_isSide_30 (by decide) ⟨by omega, by omega⟩ (fun h9 => ?_) (fun h9 => ?_)
        · refine lv_iconst (v := iI 0) X.1 X.2.1 d_H_isSide_37 (by decide) ?_
          exact c_retz hQQ X Y hr hlk (iI_bool (by omega) (by omega)).1 ⟨rfl, rfl, 0, rfl, ⟨by omega, by omega, by omega⟩⟩ d_H_isSide_38
        · refine lv_iconst (v := iI 1) X.1 X.2.1 d_H_isSide_33 (by decide) ?_
          refine lv_goto (tgt := 38) X.1 X.2.1 d_H_isSide_34 (by decide) ?_
          exact c_retz hQQ X Y hr hlk (iI_bool (by omega) (by omega)).1 ⟨rfl, rfl, 1, rfl, ⟨by omega, by omega, by omega⟩⟩ d_H_isSide_38
set_option maxHeartbeats 4000000 in
set_option maxRecDepth 100000 in
theorem c_H_timeOf (l : Launch) (D : va_G) (E : cE) (T : cT) (κ : tK) (L : List Nat) (f : pF) (sz : Nat) (h : Nat) (k0 : κ h = (10, 0)) (a1 : Int) (l_a1 : 0 ≤ a1) (u_a1 : a1 ≤ 7) (a2 : Int) (l_a2 : (-2147483648) ≤ a2) (u_a2 : a2 ≤ 2147483647) (hw : tW E T κ L f) : Met l y_H_timeOf (k_H_timeOf :: lw_tg) (kRm 2 81 0 0) (va_Pc [.ref h, .int (iI a1), .int (iI a2)] (kPre D E T L f sz)) (va_Qi (uPi L f (fun (z : Int) => (-2147483648) ≤ z ∧ z ≤ 2147483647)) (cPost D E (pA L sz)) (pA L sz)) 0 0 (pA L sz) := by
  refine k_enter (own := R_H) (by decide) rfl (Nat.le_of_ble_eq_true rfl) (fun p e s m below meth c ls AV QQ H locs hQQ X Y hA hin hr hlk hml hl KS KR => ?_)
  have hl : lv_has ls 4 [(0, .ref h), (1, .int (iI a1)), (2, .int (iI a2))] := hl
  have S : tS E T (tFr κ L [] []) κ L f κ L f := tS_rf hw
  refine lv_aload_n X.1 X.2.1 d_H_timeOf_0 rfl (lv_at hl 0 rfl) ?_
  refine t_getr (ci := 0) X Y S k0 rfl i_H 8 (by decide) rfl (k1 := 7) (k2 := 8) rfl rfl lk_H_56 (fun _ h9 => h9) d_H_timeOf_1 (fun b1 e1 k1 => ?_)
  refine lv_iload_n X.1 X.2.1 d_H_timeOf_4 rfl (lv_at hl 1 rfl) ?_
  refine t_aald X Y S k1 (fun h9 => h9) (t0 := 4) rfl (by omega) (by omega) (by omega) d_H_timeOf_5 (fun b2 e2 k2 => ?_)
  refine t_geti (ci := 9) X Y S k2 rfl i_So 2 (by decide) rfl lk_H_289 (fun _ h9 => h9) d_H_timeOf_6 (fun z3 e3 l3 u3 => ?_)
  refine lv_istore_n (lv' := [(3, .int (iI z3)), (0, .ref h), (1, .int (iI a1)), (2, .int (iI a2))]) X.1 X.2.1 d_H_timeOf_9 rfl hl (by decide) rfl (fun ls hl => ?_)
  refine lv_iload_n X.1 X.2.1 d_H_timeOf_10 rfl (lv_at hl 3 rfl) ?_
  refine z_if_ne (tgt := 34) X.1 X.2.1 d_H_timeOf_11 (by decide) ⟨by omega, by omega⟩ (fun h4 => ?_) (fun h4 => ?_)
  · refine lv_aload_n X.1 X.2.1 d_H_timeOf_34 rfl (lv_at hl 1 rfl) ?_
    refine t_getr (ci := 0) X Y S k0 rfl i_H 0 (by decide) rfl (k1 := 21) (k2 := 0) rfl rfl lk_H_12 (fun _ h9 => h9) d_H_timeOf_35 (fun b5 e5 k5 => ?_)
    refine t_geti (ci := 11) X Y S k5 rfl i_Va 0 (by decide) rfl lk_H_110 (fun _ h9 => h9) d_H_timeOf_38 (fun z6 e6 l6 u6 => ?_)
    exact c_reti hQQ X Y hr hlk ⟨rfl, rfl, z6, rfl, ⟨by omega, by omega⟩⟩ d_H_timeOf_41
  · refine lv_aload_n X.1 X.2.1 d_H_timeOf_14 rfl (lv_at hl 1 rfl) ?_
    refine lv_iload_n X.1 X.2.1 d_H_timeOf_15 rfl (lv_at hl 0 rfl) ?_
    refine t_ui (t_runV (As := [.int (iI z3)]) (rest := []) (n := 1) X Y S k0 hml hl.1 (c_H_isAgent l D E T κ L f H.size h k0 z3 (by omega) (by omega) S.1) (ok_k X Y hA KS KR) rfl kl_H_H_isAgent ks_H_isAgent kx_H_isAgent ki_H_isAgent ini_H ⟨rfl, rfl⟩ hd_H_isAgent ⟨Nat.le_of_ble_eq_true rfl, Nat.le_of_ble_eq_true rfl⟩ rfl (Nat.le_of_ble_eq_true rfl) d_H_timeOf_16 ⟨Nat.le_of_ble_eq_true rfl, Nat.le_of_ble_eq_true rfl⟩) X Y hA (fun z7 H locs Y p7 => ?_)
    obtain ⟨l7, u7, x7⟩ := p7
    refine z_if_eq (tgt := 34) X.1 X.2.1 d_H_timeOf_19 (by decide) ⟨by omega, by omega⟩ (fun h8 => ?_) (fun h8 => ?_)
    · refine lv_aload_n X.1 X.2.1 d_H_timeOf_34 rfl (lv_at hl 1 rfl) ?_
      refine t_getr (ci := 0) X Y S k0 rfl i_H 0 (by decide) rfl (k1 := 21) (k2 := 0) rfl rfl lk_H_12 (fun _ h9 => h9) d_H_timeOf_35 (fun b9 e9 k9 => ?_)
      refine t_geti (ci := 11) X Y S k9 rfl i_Va 0 (by decide) rfl lk_H_110 (fun _ h9 => h9) d_H_timeOf_38 (fun z10 e10 l10 u10 => ?_)
      exact c_reti hQQ X Y hr hlk ⟨rfl, rfl, z10, rfl, ⟨by omega, by omega⟩⟩ d_H_timeOf_41
    · refine lv_aload_n X.1 X.2.1 d_H_timeOf_22 rfl (lv_at hl 1 rfl) ?_
      refine t_getr (ci := 0) X Y S k0 rfl i_H 7 (by decide) rfl (k1 := 6) (k2 := 4) rfl rfl lk_H_49 (fun _ h9 => h9) d_H_timeOf_23 (fun b11 e11 k11 => ?_)
      refine lv_iload_n X.1 X.2.1 d_H_timeOf_26 rfl (lv_at hl 0 rfl) ?_
      refine t_aald X Y S k11 (fun h9 => h9) (t0 := 3) rfl (by omega) (by omega) (by omega) d_H_timeOf_27 (fun b12 e12 k12 => ?_)
      refine t_ui (t_runV (As := []) (rest := []) (n := 0) X Y S k12 hml hl.1 (c_Ag_time l D E T κ L f H.size b12 k12 S.1) (ok_k X Y hA KS KR) rfl kl_H_Ag_time ks_Ag_time kx_Ag_time ki_Ag_time ini_Ag ⟨rfl, rfl⟩ hd_Ag_time ⟨Nat.le_of_ble_eq_true rfl, Nat.le_of_ble_eq_true rfl⟩ rfl (Nat.le_of_ble_eq_true rfl) d_H_timeOf_28 ⟨Nat.le_of_ble_eq_true rfl, Nat.le_of_ble_eq_true rfl⟩) X Y hA (fun z13 H locs Y p13 => ?_)
      obtain ⟨l13, u13⟩ := p13
      refine lv_goto (tgt := 41) X.1 X.2.1 d_H_timeOf_31 (by decide) ?_
      exact c_reti hQQ X Y hr hlk ⟨rfl, rfl, z13, rfl, ⟨by omega, by omega⟩⟩ d_H_timeOf_41
set_option maxHeartbeats 4000000 in
set_option maxRecDepth 100000 in
theorem c_H_isRounds (l : Launch) (D : va_G) (E : cE) (T : cT) (κ : tK) (L : List Nat) (f : pF) (sz : Nat) (a1 : Int) (l_a1 : (-2147483648) ≤ a1) (u_a1 : a1 ≤ 2147483647) (hw : tW E T κ L f) : Met l y_H_isRounds (k_H_isRounds :: lw_tg) (kRm 1 60 0 0) (va_Pc [.int (iI a1)] (kPre D E T L f sz)) (va_Qi (uPi L f (fun (z : Int) => 0 ≤ z ∧ z ≤ 1)) (cPost D E (pA L sz)) (pA L sz)) 0 0 (pA L sz) := by
  refine k_enter (own := R_H) (by decide) rfl (Nat.le_of_ble_eq_true rfl) (fun p e s m below meth c ls AV QQ H locs hQQ X Y hA hin hr hlk hml hl KS KR => ?_)
  have hl : lv_has ls 1 [(0, .int (iI a1))] := hl
  have S : tS E T (tFr κ L [] []) κ L f κ L f := tS_rf hw
  refine lv_iload_n X.1 X.2.1 d_H_isRounds_0 rfl (lv_at hl 0 rfl) ?_
  refine lv_iconst (v := iI 1) X.1 X.2.1 d_H_isRounds_1 (by decide) ?_
  refine z_icmp_lt (tgt := 16) X.1 X.2.1 d_H_isRounds_2 (by decide) ⟨by omega, by omega⟩ ⟨by omega, by omega⟩ (fun h1 => ?_) (fun h1 => ?_)
  · refine lv_iconst (v := iI 0) X.1 X.2.1 d_H_isRounds_16 (by decide) ?_
    exact c_retz hQQ X Y hr hlk (iI_bool (by omega) (by omega)).1 ⟨rfl, rfl, 0, rfl, ⟨by omega, by omega⟩⟩ d_H_isRounds_17
  · refine lv_iload_n X.1 X.2.1 d_H_isRounds_5 rfl (lv_at hl 0 rfl) ?_
    refine lv_sipush (v := iI 200) X.1 X.2.1 d_H_isRounds_6 (by decide) ?_
    refine z_icmp_gt (tgt := 16) X.1 X.2.1 d_H_isRounds_9 (by decide) ⟨by omega, by omega⟩ ⟨by omega, by omega⟩ (fun h2 => ?_) (fun h2 => ?_)
    · refine lv_iconst (v := iI 0) X.1 X.2.1 d_H_isRounds_16 (by decide) ?_
      exact c_retz hQQ X Y hr hlk (iI_bool (by omega) (by omega)).1 ⟨rfl, rfl, 0, rfl, ⟨by omega, by omega⟩⟩ d_H_isRounds_17
    · refine lv_iconst (v := iI 1) X.1 X.2.1 d_H_isRounds_12 (by decide) ?_
      refine lv_goto (tgt := 17) X.1 X.2.1 d_H_isRounds_13 (by decide) ?_
      exact c_retz hQQ X Y hr hlk (iI_bool (by omega) (by omega)).1 ⟨rfl, rfl, 1, rfl, ⟨by omega, by omega⟩⟩ d_H_isRounds_17
set_option maxHeartbeats 4000000 in
set_option maxRecDepth 100000 in
theorem c_H_isSpan (l : Launch) (D : va_G) (E : cE) (T : cT) (κ : tK) (L : List Nat) (f : pF) (sz : Nat) (a1 : Int) (l_a1 : (-2147483648) ≤ a1) (u_a1 : a1 ≤ 2147483647) (hw : tW E T κ L f) : Met l y_H_isSpan (k_H_isSpan :: lw_tg) (kRm 1 60 0 0) (va_Pc [.int (iI a1)] (kPre D E T L f sz)) (va_Qi (uPi L f (fun (z : Int) => 0 ≤ z ∧ z ≤ 1)) (cPost D E (pA L sz)) (pA L sz)) 0 0 (pA L sz) := by
  refine k_enter (own := R_H) (by decide) rfl (Nat.le_of_ble_eq_true rfl) (fun p e s m below meth c ls AV QQ H locs hQQ X Y hA hin hr hlk hml hl KS KR => ?_)
  have hl : lv_has ls 1 [(0, .int (iI a1))] := hl
  have S : tS E T (tFr κ L [] []) κ L f κ L f := tS_rf hw
  refine lv_iload_n X.1 X.2.1 d_H_isSpan_0 rfl (lv_at hl 0 rfl) ?_
  refine z_if_lt (tgt := 15) X.1 X.2.1 d_H_isSpan_1 (by decide) ⟨by omega, by omega⟩ (fun h1 => ?_) (fun h1 => ?_)
  · refine lv_iconst (v := iI 0) X.1 X.2.1 d_H_isSpan_15 (by decide) ?_
    exact c_retz hQQ X Y hr hlk (iI_bool (by omega) (by omega)).1 ⟨rfl, rfl, 0, rfl, ⟨by omega, by omega⟩⟩ d_H_isSpan_16
  · refine lv_iload_n X.1 X.2.1 d_H_isSpan_4 rfl (lv_at hl 0 rfl) ?_
    refine lv_ldcw (v := (100000000)) X.1 X.2.1 X.2.2.2.1 (X.2.2.1 _ cn_H_305) d_H_isSpan_5 ?_
    refine t_eq (y := iI 100000000) (by decide) ?_
    refine z_icmp_gt (tgt := 15) X.1 X.2.1 d_H_isSpan_8 (by decide) ⟨by omega, by omega⟩ ⟨by omega, by omega⟩ (fun h2 => ?_) (fun h2 => ?_)
    · refine lv_iconst (v := iI 0) X.1 X.2.1 d_H_isSpan_15 (by decide) ?_
      exact c_retz hQQ X Y hr hlk (iI_bool (by omega) (by omega)).1 ⟨rfl, rfl, 0, rfl, ⟨by omega, by omega⟩⟩ d_H_isSpan_16
    · refine lv_iconst (v := iI 1) X.1 X.2.1 d_H_isSpan_11 (by decide) ?_
      refine lv_goto (tgt := 16) X.1 X.2.1 d_H_isSpan_12 (by decide) ?_
      exact c_retz hQQ X Y hr hlk (iI_bool (by omega) (by omega)).1 ⟨rfl, rfl, 1, rfl, ⟨by omega, by omega⟩⟩ d_H_isSpan_16
set_option maxHeartbeats 4000000 in
set_option maxRecDepth 100000 in
theorem c_H_isPassword (l : Launch) (D : va_G) (E : cE) (T : cT) (κ : tK) (L : List Nat) (f : pF) (sz : Nat) (h : Nat) (k0 : κ h = (10, 0)) (a1 : Int) (l_a1 : (-1) ≤ a1) (u_a1 : a1 ≤ 4001) (hw : tW E T κ L f) : Met l y_H_isPassword (k_H_isPassword :: lw_tg) (kRm 3 105 0 0) (va_Pc [.ref h, .int (iI a1)] (kPre D E T L f sz)) (va_Qi (uPi L f (fun (z : Int) => 0 ≤ z ∧ z ≤ 1)) (cPost D E (pA L sz)) (pA L sz)) 0 0 (pA L sz) := by
  refine k_enter (own := R_H) (by decide) rfl (Nat.le_of_ble_eq_true rfl) (fun p e s m below meth c ls AV QQ H locs hQQ X Y hA hin hr hlk hml hl KS KR => ?_)
  have hl : lv_has ls 2 [(0, .ref h), (1, .int (iI a1))] := hl
  have S : tS E T (tFr κ L [] []) κ L f κ L f := tS_rf hw
  refine lv_aload_n X.1 X.2.1 d_H_isPassword_0 rfl (lv_at hl 0 rfl) ?_
  refine t_getr (ci := 0) X Y S k0 rfl i_H 1 (by decide) rfl (k1 := 13) (k2 := 4000) rfl rfl lk_H_21 (fun _ h9 => h9) d_H_isPassword_1 (fun b1 e1 k1 => ?_)
  refine t_gets (ci := 3) X Y S k1 rfl i_By 1 (by decide) rfl lk_H_81 (fun _ h9 => h9) d_H_isPassword_4 (fun z2 e2 l2 u2 => ?_)
  refine lv_iload_n X.1 X.2.1 d_H_isPassword_7 rfl (lv_at hl 1 rfl) ?_
  refine z_isub X.1 X.2.1 d_H_isPassword_8 ?_
  refine lv_bipush (v := iI 20) X.1 X.2.1 d_H_isPassword_9 (by decide) ?_
  refine z_icmp_le (tgt := 16) X.1 X.2.1 d_H_isPassword_11 (by decide) ⟨by omega, by omega⟩ ⟨by omega, by omega⟩ (fun h3 => ?_) (fun h3 => ?_)
  · refine lv_aload_n X.1 X.2.1 d_H_isPassword_16 rfl (lv_at hl 0 rfl) ?_
    refine t_get0 (ci := 0) X Y S k0 rfl i_H 1 (by decide) rfl lk_H_21 (fun _ h9 => h9) d_H_isPassword_17 e1 ?_
    refine lv_iload_n X.1 X.2.1 d_H_isPassword_20 rfl (lv_at hl 1 rfl) ?_
    refine lv_aload_n X.1 X.2.1 d_H_isPassword_21 rfl (lv_at hl 0 rfl) ?_
    refine t_get0 (ci := 0) X Y S k0 rfl i_H 1 (by decide) rfl lk_H_21 (fun _ h9 => h9) d_H_isPassword_22 e1 ?_
    refine t_get0 (ci := 3) X Y S k1 rfl i_By 1 (by decide) rfl lk_H_81 (fun _ h9 => h9) d_H_isPassword_25 e2 ?_
    refine t_ui (t_runV (As := [.int (iI a1), .int (iI z2)]) (rest := []) (n := 2) X Y S k1 hml hl.1 (c_By_isPrintable l D E T κ L f H.size b1 4000 k1 (by omega) a1 (by omega) (by omega) z2 (by omega) (by omega) S.1) (ok_k X Y hA KS KR) rfl kl_H_By_isPrintable ks_By_isPrintable kx_By_isPrintable ki_By_isPrintable ini_By ⟨rfl, rfl⟩ hd_By_isPrintable ⟨Nat.le_of_ble_eq_true rfl, Nat.le_of_ble_eq_true rfl⟩ rfl (Nat.le_of_ble_eq_true rfl) d_H_isPassword_28 ⟨Nat.le_of_ble_eq_true rfl, Nat.le_of_ble_eq_true rfl⟩) X Y hA (fun z4 H locs Y p4 => ?_)
    obtain ⟨l4, u4⟩ := p4
    exact c_retz hQQ X Y hr hlk (iI_bool (by omega) (by omega)).1 ⟨rfl, rfl, z4, rfl, ⟨by omega, by omega⟩⟩ d_H_isPassword_31
  · refine lv_iconst (v := iI 0) X.1 X.2.1 d_H_isPassword_14 (by decide) ?_
    exact c_retz hQQ X Y hr hlk (iI_bool (by omega) (by omega)).1 ⟨rfl, rfl, 0, rfl, ⟨by omega, by omega⟩⟩ d_H_isPassword_15
set_option maxHeartbeats 4000000 in
set_option maxRecDepth 100000 in
theorem c_H_readName (l : Launch) (D : va_G) (E : cE) (T : cT) (κ : tK) (L : List Nat) (f : pF) (sz : Nat) (h : Nat) (k0 : κ h = (10, 0)) (a1 : Int) (l_a1 : 0 ≤ a1) (u_a1 : a1 ≤ 4000) (hw : tW E T κ L f) : Met l y_H_readName (k_H_readName :: lw_tg) (kRm 3 108 0 0) (va_Pc [.ref h, .int (iI a1)] (kPre D E T L f sz)) (va_Qi (nPi E T [1, 13] κ L f (fun (z : Int) (g : pF) => 0 ≤ z ∧ z ≤ 1)) (cPost D E (pA L sz)) (pA L sz)) 0 0 (pA L sz) := by
  refine k_enter (own := R_H) (by decide) rfl (Nat.le_of_ble_eq_true rfl) (fun p e s m below meth c ls AV QQ H locs hQQ X Y hA hin hr hlk hml hl KS KR => ?_)
  have hl : lv_has ls 8 [(0, .ref h), (1, .int (iI a1))] := hl
  have S : tS E T (tFr κ L [1, 13] []) κ L f κ L f := tS_rf hw
  refine lv_aload_n X.1 X.2.1 d_H_readName_0 rfl (lv_at hl 0 rfl) ?_
  refine t_getr (ci := 0) X Y S k0 rfl i_H 3 (by decide) rfl (k1 := 13) (k2 := 40) rfl rfl lk_H_28 (fun _ h9 => h9) d_H_readName_1 (fun b1 e1 k1 => ?_)
  refine t_nv (t_runV (As := []) (rest := []) (n := 0) X Y S k1 hml hl.1 (c_By_clear l D E T κ L f H.size b1 40 k1 (by omega) S.1) (ok_k X Y hA KS KR) rfl kl_H_By_clear ks_By_clear kx_By_clear ki_By_clear ini_By ⟨rfl, rfl⟩ hd_By_clear ⟨Nat.le_of_ble_eq_true rfl, Nat.le_of_ble_eq_true rfl⟩ rfl (Nat.le_of_ble_eq_true rfl) d_H_readName_4 ⟨Nat.le_of_ble_eq_true rfl, Nat.le_of_ble_eq_true rfl⟩) X Y hA S (by decide) (fun f2 H locs Y S s2 p2 => ?_)
  refine lv_iconst (v := iI 0) X.1 X.2.1 d_H_readName_7 (by decide) ?_
  refine lv_istore_n (lv' := [(2, .int (iI 0)), (0, .ref h), (1, .int (iI a1))]) X.1 X.2.1 d_H_readName_8 rfl hl (by decide) rfl (fun ls hl => ?_)
  refine lv_iconst (v := iI 0) X.1 X.2.1 d_H_readName_9 (by decide) ?_
  refine lv_istore_n (lv' := [(3, .int (iI 0)), (2, .int (iI 0)), (0, .ref h), (1, .int (iI a1))]) X.1 X.2.1 d_H_readName_10 rfl hl (by decide) rfl (fun ls hl => ?_)
  refine lv_iconst (v := iI 0) X.1 X.2.1 d_H_readName_11 (by decide) ?_
  have J7 : ∀ (n9 : Nat) (z4 : Int) (z5 : Int) (z6 : Int) (f3 : pF) (H : Heap) (locs : List Loc) (ls : Array Slot), (4001 - z6).toNat = n9 → (0 ≤ z4) → (z4 ≤ 4096) → (0 ≤ z5) → (z5 ≤ 2) → (0 ≤ z6) → (z6 ≤ 4001) → pH D cCl (pA L sz) s.heap L f3 H locs → tS E T (tFr κ L [1, 13] []) κ L f κ L f3 → lv_has ls 8 [(0, .ref h), (1, .int (iI a1)), (2, .int (iI z4)), (3, .int (iI z5)), (4, .int (iI z6))] → W p l e (kRm 3 108 0 0) s m AV below meth c H locs 0 0 QQ (F0 m 14 ls []) := by
    intro n9
    induction n9 using Nat.strongRecOn with
    | ind n9 ih8 =>
      intro z4 z5 z6 f3 H locs ls hm10 l4 u4 l5 u5 l6 u6 Y S hl
      refine lv_iload X.1 X.2.1 d_H_readName_14 (lv_at hl 4 rfl) ?_
      refine lv_iload_n X.1 X.2.1 d_H_readName_16 rfl (lv_at hl 1 rfl) ?_
      refine z_icmp_gt (tgt := 170) X.1 X.2.1 d_H_readName_17 (by decide) ⟨by omega, by omega⟩ ⟨by omega, by omega⟩ (fun h11 => ?_) (fun h11 => ?_)
      · refine lv_iconst (v := iI 1) X.1 X.2.1 d_H_readName_170 (by decide) ?_
        exact c_retz hQQ X Y hr hlk (iI_bool (by omega) (by omega)).1 ⟨rfl, S, 1, rfl, ⟨by omega, by omega⟩⟩ d_H_readName_171
      · refine lv_iload X.1 X.2.1 d_H_readName_20 (lv_at hl 4 rfl) ?_
        refine lv_iload_n X.1 X.2.1 d_H_readName_22 rfl (lv_at hl 1 rfl) ?_
        have J13 : ∀ (z12 : Int) (H : Heap) (locs : List Loc) (ls : Array Slot), ((-1) ≤ z12) → (z12 ≤ 255) → pH D cCl (pA L sz) s.heap L f3 H locs → tS E T (tFr κ L [1, 13] []) κ L f κ L f3 → lv_has ls 8 [(0, .ref h), (1, .int (iI a1)), (2, .int (iI z1148)), (3, .int (iI z1149)), (4, .int (iI z1150))] → W p l e (kRm 3 108 0 0) s m AV below meth c H locs 0 0 QQ (F0 m 40 ls [.int (iI z12)]) := by
          intro z12 H locs ls l12 u12 Y S hl
          refine lv_istore (lv' := [(5, .int (iI z12)), (0, .ref h), (1, .int (iI a1)), (2, .int (iI z1148)), (3, .int (iI z1149)), (4, .int (iI z1150))]) X.1 X.2.1 d_H_readName_40 hl (by decide) rfl (fun ls hl => ?_)
          refine lv_iload X.1 X.2.1 d_H_readName_42 (lv_at hl 0 rfl) ?_
          refine lv_bipush (v := iI 97) X.1 X.2.1 d_H_readName_44 (by decide) ?_
          have J18 : ∀ (z17 : Int) (H : Heap) (locs : List Loc) (ls : Array Slot), (0 ≤ z17) → (z17 ≤ 1) → pH D cCl (pA L sz) s.heap L f3 H locs → tS E T (tFr κ L [1, 13] []) κ L f κ L f3 → lv_has ls 8 [(0, .ref h), (1, .int (iI a1)), (2, .int (iI z1148)), (3, .int (iI z1149)), (4, .int (iI z1150)), (5, .int (iI z1155))] → W p l e (kRm 3 108 0 0) s m AV below meth c H locs 0 0 QQ (F0 m 61 ls [.int (iI z17)]) := by
            intro z17 H locs ls l17 u17 Y S hl
            refine lv_istore (lv' := [(6, .int (iI z17)), (0, .ref h), (1, .int (iI a1)), (2, .int (iI z1148)), (3, .int (iI z1149)), (4, .int (iI z1150)), (5, .int (iI z1155))]) X.1 X.2.1 d_H_readName_61 hl (by decide) rfl (fun ls hl => ?_)
            refine lv_iload X.1 X.2.1 d_H_readName_63 (lv_at hl 6 rfl) ?_
            refine lv_bipush (v := iI 48) X.1 X.2.1 d_H_readName_65 (by decide) ?_
            have J23 : ∀ (z22 : Int) (H : Heap) (locs : List Loc) (ls : Array Slot), (0 ≤ z22) → (z22 ≤ 1) → pH D cCl (pA L sz) s.heap L f3 H locs → tS E T (tFr κ L [1, 13] []) κ L f κ L f3 → lv_has ls 8 [(0, .ref h), (1, .int (iI a1)), (2, .int (iI z1148)), (3, .int (iI z1149)), (4, .int (iI z1150)), (5, .int (iI z1155)), (6, .int (iI z1158))] → W p l e (kRm 3 108 0 0) s m AV below meth c H locs 0 0 QQ (F0 m 82 ls [.int (iI z22)]) := by
              intro z22 H locs ls l22 u22 Y S hl
              refine lv_istore (lv' := [(7, .int (iI z22)), (0, .ref h), (1, .int (iI a1)), (2, .int (iI z1148)), (3, .int (iI z1149)), (4, .int (iI z1150)), (5, .int (iI z1155)), (6, .int (iI z1158))]) X.1 X.2.1 d_H_readName_82 hl (by decide) rfl (fun ls hl => ?_)
              refine lv_iload X.1 X.2.1 d_H_readName_84 (lv_at hl 6 rfl) ?_
              refine lv_bipush (v := iI 47) X.1 X.2.1 d_H_readName_86 (by decide) ?_
              have J30 : ∀ (z28 : Int) (z29 : Int) (f27 : pF) (H : Heap) (locs : List Loc) (ls : Array Slot), (0 ≤ z28) → (z28 ≤ 4096) → (0 ≤ z29) → (z29 ≤ 2) → pH D cCl (pA L sz) s.heap L f27 H locs → tS E T (tFr κ L [1, 13] []) κ L f κ L f27 → lv_has ls 8 [(0, .ref h), (1, .int (iI a1)), (2, .int (iI z28)), (3, .int (iI z29)), (4, .int (iI z1150))] → W p l e (kRm 3 108 0 0) s m AV below meth c H locs 0 0 QQ (F0 m 164 ls []) := by
                intro z28 z29 f27 H locs ls l28 u28 l29 u29 Y S hl
                refine lv_iinc (v := iI (z1150 + 1)) (lv' := [(4, .int (iI (z1150 + 1))), (0, .ref h), (1, .int (iI a1)), (2, .int (iI z28)), (3, .int (iI z29))]) X.1 X.2.1 d_H_readName_164 hl (k := 4) rfl ((iI_add _ _).trans (congrArg iI (by omega))) (by decide) rfl (fun ls hl => ?_)
                refine lv_goto (tgt := 14) X.1 X.2.1 d_H_readName_167 (by decide) ?_
                exact ih8 ((4001 - (z1150 + 1)).toNat) (by omega) z28 z29 (z1150 + 1) f27 _ _ _ rfl (by omega) (by omega) (by omega) (by omega) (by omega) (by omega) Y S (lv_sub hl [1, 2, 3, 4, 0] rfl)
              refine z_icmp_ne (tgt := 147) X.1 X.2.1 d_H_readName_88 (by decide) ⟨by omega, by omega⟩ ⟨by omega, by omega⟩ (fun h34 => ?_) (fun h34 => ?_)
              · refine lv_iload X.1 X.2.1 d_H_readName_147 (lv_at hl 7 rfl) ?_
                refine z_if_ne (tgt := 164) X.1 X.2.1 d_H_readName_149 (by decide) ⟨by omega, by omega⟩ (fun h35 => ?_) (fun h35 => ?_)
                · exact J30 z1148 z1149 f3 _ _ _ (by omega) (by omega) (by omega) (by omega) Y S (lv_sub hl [1, 2, 3, 4, 5] rfl)
                · refine lv_iload X.1 X.2.1 d_H_readName_152 (lv_at hl 0 rfl) ?_
                  refine z_if_eq (tgt := 162) X.1 X.2.1 d_H_readName_154 (by decide) ⟨by omega, by omega⟩ (fun h36 => ?_) (fun h36 => ?_)
                  · refine lv_iconst (v := iI 0) X.1 X.2.1 d_H_readName_162 (by decide) ?_
                    exact c_retz hQQ X Y hr hlk (iI_bool (by omega) (by omega)).1 ⟨rfl, S, 0, rfl, ⟨by omega, by omega⟩⟩ d_H_readName_163
                  · refine lv_iload X.1 X.2.1 d_H_readName_157 (lv_at hl 5 rfl) ?_
                    refine z_if_ne (tgt := 164) X.1 X.2.1 d_H_readName_159 (by decide) ⟨by omega, by omega⟩ (fun h37 => ?_) (fun h37 => ?_)
                    · exact J30 z1148 z1149 f3 _ _ _ (by omega) (by omega) (by omega) (by omega) Y S (lv_sub hl [1, 2, 3, 4, 5] rfl)
                    · refine lv_iconst (v := iI 0) X.1 X.2.1 d_H_readName_162 (by decide) ?_
                      exact c_retz hQQ X Y hr hlk (iI_bool (by omega) (by omega)).1 ⟨rfl, S, 0, rfl, ⟨by omega, by omega⟩⟩ d_H_readName_163
              · refine lv_iload X.1 X.2.1 d_H_readName_91 (lv_at hl 5 rfl) ?_
                refine lv_iload_n X.1 X.2.1 d_H_readName_93 rfl (lv_at hl 3 rfl) ?_
                refine z_isub X.1 X.2.1 d_H_readName_94 ?_
                refine lv_iconst (v := iI 1) X.1 X.2.1 d_H_readName_95 (by decide) ?_
                refine z_icmp_lt (tgt := 113) X.1 X.2.1 d_H_readName_96 (by decide) ⟨by omega, by omega⟩ ⟨by omega, by omega⟩ (fun h38 => ?_) (fun h38 => ?_)
                · refine lv_iconst (v := iI 0) X.1 X.2.1 d_H_readName_113 (by decide) ?_
                  exact c_retz hQQ X Y hr hlk (iI_bool (by omega) (by omega)).1 ⟨rfl, S, 0, rfl, ⟨by omega, by omega⟩⟩ d_H_readName_114
                · refine lv_iload X.1 X.2.1 d_H_readName_99 (lv_at hl 5 rfl) ?_
                  refine lv_iload_n X.1 X.2.1 d_H_readName_101 rfl (lv_at hl 3 rfl) ?_
                  refine z_isub X.1 X.2.1 d_H_readName_102 ?_
                  refine lv_bipush (v := iI 16) X.1 X.2.1 d_H_readName_103 (by decide) ?_
                  refine z_icmp_gt (tgt := 113) X.1 X.2.1 d_H_readName_105 (by decide) ⟨by omega, by omega⟩ ⟨by omega, by omega⟩ (fun h39 => ?_) (fun h39 => ?_)
                  · refine lv_iconst (v := iI 0) X.1 X.2.1 d_H_readName_113 (by decide) ?_
                    exact c_retz hQQ X Y hr hlk (iI_bool (by omega) (by omega)).1 ⟨rfl, S, 0, rfl, ⟨by omega, by omega⟩⟩ d_H_readName_114
                  · refine lv_iload_n X.1 X.2.1 d_H_readName_108 rfl (lv_at hl 4 rfl) ?_
                    refine lv_iconst (v := iI 2) X.1 X.2.1 d_H_readName_109 (by decide) ?_
                    refine z_icmp_ne (tgt := 115) X.1 X.2.1 d_H_readName_110 (by decide) ⟨by omega, by omega⟩ ⟨by omega, by omega⟩ (fun h40 => ?_) (fun h40 => ?_)
                    · refine lv_aload_n X.1 X.2.1 d_H_readName_115 rfl (lv_at hl 1 rfl) ?_
                      refine t_getr (ci := 0) X Y S k0 rfl i_H 3 (by decide) rfl (k1 := 13) (k2 := 40) rfl rfl lk_H_28 (fun _ h9 => h9) d_H_readName_116 (fun b41 e41 k41 => ?_)
                      refine lv_bipush (v := iI 27) X.1 X.2.1 d_H_readName_119 (by decide) ?_
                      refine lv_aload_n X.1 X.2.1 d_H_readName_121 rfl (lv_at hl 1 rfl) ?_
                      refine t_getr (ci := 0) X Y S k0 rfl i_H 1 (by decide) rfl (k1 := 13) (k2 := 4000) rfl rfl lk_H_21 (fun _ h9 => h9) d_H_readName_122 (fun b42 e42 k42 => ?_)
                      refine t_getrow (ci := 3) X Y S k42 rfl i_By 0 (by decide) rfl lk_H_97 (fun _ h9 => h9) d_H_readName_125 (fun b43 e43 k43 => ?_)
                      refine lv_iload_n X.1 X.2.1 d_H_readName_128 rfl (lv_at hl 3 rfl) ?_
                      refine lv_iload X.1 X.2.1 d_H_readName_129 (lv_at hl 5 rfl) ?_
                      refine lv_iload_n X.1 X.2.1 d_H_readName_131 rfl (lv_at hl 3 rfl) ?_
                      refine z_isub X.1 X.2.1 d_H_readName_132 ?_
                      refine t_nv (t_runV (As := [.int (iI 27), .ref b43, .int (iI z1148), .int (iI (z1150 - z1148))]) (rest := []) (n := 4) X Y S k41 hml hl.1 (c_By_putValue l D E T κ L f3 H.size b41 40 k41 (by omega) 27 (by omega) (by omega) b43 4000 (Or.inl k43) (by omega) z1148 (by omega) (by omega) (z1150 - z1148) (by omega) (by omega) S.1) (ok_k X Y hA KS KR) rfl kl_H_By_putValue ks_By_putValue kx_By_putValue ki_By_putValue ini_By ⟨rfl, rfl⟩ hd_By_putValue ⟨Nat.le_of_ble_eq_true rfl, Nat.le_of_ble_eq_true rfl⟩ rfl (Nat.le_of_ble_eq_true rfl) d_H_readName_133 ⟨Nat.le_of_ble_eq_true rfl, Nat.le_of_ble_eq_true rfl⟩) X Y hA S (by decide) (fun f44 H locs Y S s44 p44 => ?_)
                      refine lv_iload X.1 X.2.1 d_H_readName_136 (lv_at hl 5 rfl) ?_
                      refine lv_iconst (v := iI 1) X.1 X.2.1 d_H_readName_138 (by decide) ?_
                      refine z_iadd X.1 X.2.1 d_H_readName_139 ?_
                      refine lv_istore_n (lv' := [(2, .int (iI (z1150 + 1))), (7, .int (iI z22)), (0, .ref h), (1, .int (iI a1)), (3, .int (iI z1149)), (4, .int (iI z1150)), (5, .int (iI z1155)), (6, .int (iI z1158))]) X.1 X.2.1 d_H_readName_140 rfl hl (by decide) rfl (fun ls hl => ?_)
                      refine lv_iinc (v := iI (z1149 + 1)) (lv' := [(3, .int (iI (z1149 + 1))), (2, .int (iI (z1150 + 1))), (7, .int (iI z22)), (0, .ref h), (1, .int (iI a1)), (4, .int (iI z1150)), (5, .int (iI z1155)), (6, .int (iI z1158))]) X.1 X.2.1 d_H_readName_141 hl (k := 4) rfl ((iI_add _ _).trans (congrArg iI (by omega))) (by decide) rfl (fun ls hl => ?_)
                      refine lv_goto (tgt := 164) X.1 X.2.1 d_H_readName_144 (by decide) ?_
                      exact J30 (z1150 + 1) (z1149 + 1) f44 _ _ _ (by omega) (by omega) (by omega) (by omega) Y S (lv_sub hl [3, 4, 1, 0, 5] rfl)
                    · refine lv_iconst (v := iI 0) X.1 X.2.1 d_H_readName_113 (by decide) ?_
                      exact c_retz hQQ X Y hr hlk (iI_bool (by omega) (by omega)).1 ⟨rfl, S, 0, rfl, ⟨by omega, by omega⟩⟩ d_H_readName_114
            have J45 : ∀  (H : Heap) (locs : List Loc) (ls : Array Slot), pH D cCl (pA L sz) s.heap L f3 H locs → tS E T (tFr κ L [1, 13] []) κ L f κ L f3 → lv_has ls 8 [(0, .ref h), (1, .int (iI a1)), (2, .int (iI z1148)), (3, .int (iI z1149)), (4, .int (iI z1150)), (5, .int (iI z1155)), (6, .int (iI z1158))] → W p l e (kRm 3 108 0 0) s m AV below meth c H locs 0 0 QQ (F0 m 81 ls []) := by
              intro  H locs ls  Y S hl
              refine lv_iconst (v := iI 0) X.1 X.2.1 d_H_readName_81 (by decide) ?_
              exact J23 0 _ _ _ (by omega) (by omega) Y S (lv_sub hl [0, 1, 2, 3, 4, 5, 6] rfl)
            refine z_icmp_lt (tgt := 81) X.1 X.2.1 d_H_readName_67 (by decide) ⟨by omega, by omega⟩ ⟨by omega, by omega⟩ (fun h49 => ?_) (fun h49 => ?_)
            · exact J45  _ _ _  Y S (lv_sub hl [1, 2, 3, 4, 5, 6, 0] rfl)
            · refine lv_iload X.1 X.2.1 d_H_readName_70 (lv_at hl 6 rfl) ?_
              refine lv_bipush (v := iI 57) X.1 X.2.1 d_H_readName_72 (by decide) ?_
              refine z_icmp_gt (tgt := 81) X.1 X.2.1 d_H_readName_74 (by decide) ⟨by omega, by omega⟩ ⟨by omega, by omega⟩ (fun h50 => ?_) (fun h50 => ?_)
              · exact J45  _ _ _  Y S (lv_sub hl [1, 2, 3, 4, 5, 6, 0] rfl)
              · refine lv_iconst (v := iI 1) X.1 X.2.1 d_H_readName_77 (by decide) ?_
                refine lv_goto (tgt := 82) X.1 X.2.1 d_H_readName_78 (by decide) ?_
                exact J23 1 _ _ _ (by omega) (by omega) Y S (lv_sub hl [1, 2, 3, 4, 5, 6, 0] rfl)
          have J51 : ∀  (H : Heap) (locs : List Loc) (ls : Array Slot), pH D cCl (pA L sz) s.heap L f3 H locs → tS E T (tFr κ L [1, 13] []) κ L f κ L f3 → lv_has ls 8 [(0, .ref h), (1, .int (iI a1)), (2, .int (iI z1148)), (3, .int (iI z1149)), (4, .int (iI z1150)), (5, .int (iI z1155))] → W p l e (kRm 3 108 0 0) s m AV below meth c H locs 0 0 QQ (F0 m 60 ls []) := by
            intro  H locs ls  Y S hl
            refine lv_iconst (v := iI 0) X.1 X.2.1 d_H_readName_60 (by decide) ?_
            exact J18 0 _ _ _ (by omega) (by omega) Y S (lv_sub hl [0, 1, 2, 3, 4, 5] rfl)
          refine z_icmp_lt (tgt := 60) X.1 X.2.1 d_H_readName_46 (by decide) ⟨by omega, by omega⟩ ⟨by omega, by omega⟩ (fun h55 => ?_) (fun h55 => ?_)
          · exact J51  _ _ _  Y S (lv_sub hl [1, 2, 3, 4, 5, 0] rfl)
          · refine lv_iload X.1 X.2.1 d_H_readName_49 (lv_at hl 0 rfl) ?_
            refine lv_bipush (v := iI 122) X.1 X.2.1 d_H_readName_51 (by decide) ?_
            refine z_icmp_gt (tgt := 60) X.1 X.2.1 d_H_readName_53 (by decide) ⟨by omega, by omega⟩ ⟨by omega, by omega⟩ (fun h56 => ?_) (fun h56 => ?_)
            · exact J51  _ _ _  Y S (lv_sub hl [1, 2, 3, 4, 5, 0] rfl)
            · refine lv_iconst (v := iI 1) X.1 X.2.1 d_H_readName_56 (by decide) ?_
              refine lv_goto (tgt := 61) X.1 X.2.1 d_H_readName_57 (by decide) ?_
              exact J18 1 _ _ _ (by omega) (by omega) Y S (lv_sub hl [1, 2, 3, 4, 5, 0] rfl)
        refine z_icmp_ge (tgt := 38) X.1 X.2.1 d_H_readName_23 (by decide) ⟨by omega, by omega⟩ ⟨by omega, by omega⟩ (fun h57 => ?_) (fun h57 => ?_)
        · refine lv_bipush (v := iI 47) X.1 X.2.1 d_H_readName_38 (by decide) ?_
          exact J13 47 _ _ _ (by omega) (by omega) Y S (lv_sub hl [0, 1, 2, 3, 4] rfl)
        · refine lv_aload_n X.1 X.2.1 d_H_readName_26 rfl (lv_at hl 0 rfl) ?_
          refine t_getr (ci := 0) X Y S k0 rfl i_H 1 (by decide) rfl (k1 := 13) (k2 := 4000) rfl rfl lk_H_21 (fun _ h9 => h9) d_H_readName_27 (fun b58 e58 k58 => ?_)
          refine lv_iload X.1 X.2.1 d_H_readName_30 (lv_at hl 4 rfl) ?_
          refine t_ui (t_runV (As := [.int (iI z6)]) (rest := []) (n := 1) X Y S k58 hml hl.1 (c_By_at l D E T κ L f3 H.size b58 4000 k58 (by omega) z6 (by omega) (by omega) S.1) (ok_k X Y hA KS KR) rfl kl_H_By_at ks_By_at kx_By_at ki_By_at ini_By ⟨rfl, rfl⟩ hd_By_at ⟨Nat.le_of_ble_eq_true rfl, Nat.le_of_ble_eq_true rfl⟩ rfl (Nat.le_of_ble_eq_true rfl) d_H_readName_32 ⟨Nat.le_of_ble_eq_true rfl, Nat.le_of_ble_eq_true rfl⟩) X Y hA (fun z59 H locs Y p59 => ?_)
          obtain ⟨l59, u59⟩ := p59
          refine lv_goto (tgt := 40) X.1 X.2.1 d_H_readName_35 (by decide) ?_
          exact J13 z59 _ _ _ (by omega) (by omega) Y S (lv_sub hl [0, 1, 2, 3, 4] rfl)
  refine lv_istore (lv' := [(4, .int (iI 0)), (3, .int (iI 0)), (2, .int (iI 0)), (0, .ref h), (1, .int (iI a1))]) X.1 X.2.1 d_H_readName_12 hl (by decide) rfl (fun ls hl => ?_)
  exact J7 _ 0 0 0 f2 _ _ _ rfl (by omega) (by omega) (by omega) (by omega) (by omega) (by omega) Y S (lv_sub hl [3, 4, 2, 1, 0] rfl)
set_option maxHeartbeats 4000000 in
set_option maxRecDepth 100000 in
theorem c_H_passwordPlace (l : Launch) (D : va_G) (E : cE) (T : cT) (κ : tK) (L : List Nat) (f : pF) (sz : Nat) (h : Nat) (k0 : κ h = (10, 0)) (hw : tW E T κ L f) : Met l y_H_passwordPlace (k_H_passwordPlace :: lw_tg) (kRm 4 135 0 0) (va_Pc [.ref h] (kPre D E T L f sz)) (va_Qi (nPi E T [1, 13] κ L f (fun (z : Int) (g : pF) => (-1) ≤ z ∧ z ≤ 4001)) (cPost D E (pA L sz)) (pA L sz)) 0 0 (pA L sz) := by
  refine k_enter (own := R_H) (by decide) rfl (Nat.le_of_ble_eq_true rfl) (fun p e s m below meth c ls AV QQ H locs hQQ X Y hA hin hr hlk hml hl KS KR => ?_)
  have hl : lv_has ls 3 [(0, .ref h)] := hl
  have S : tS E T (tFr κ L [1, 13] []) κ L f κ L f := tS_rf hw
  refine lv_iconst (v := iI 0) X.1 X.2.1 d_H_passwordPlace_0 (by decide) ?_
  have J2 : ∀ (n4 : Nat) (z1 : Int) (H : Heap) (locs : List Loc) (ls : Array Slot), (4000 - z1).toNat = n4 → (0 ≤ z1) → (z1 ≤ 4000) → pH D cCl (pA L sz) s.heap L f H locs → tS E T (tFr κ L [1, 13] []) κ L f κ L f → lv_has ls 3 [(0, .ref h), (1, .int (iI z1))] → W p l e (kRm 4 135 0 0) s m AV below meth c H locs 0 0 QQ (F0 m 2 ls []) := by
    intro n4
    induction n4 using Nat.strongRecOn with
    | ind n4 ih3 =>
      intro z1 H locs ls hm5 l1 u1 Y S hl
      refine lv_iload_n X.1 X.2.1 d_H_passwordPlace_2 rfl (lv_at hl 1 rfl) ?_
      refine lv_aload_n X.1 X.2.1 d_H_passwordPlace_3 rfl (lv_at hl 0 rfl) ?_
      refine t_getr (ci := 0) X Y S k0 rfl i_H 1 (by decide) rfl (k1 := 13) (k2 := 4000) rfl rfl lk_H_21 (fun _ h9 => h9) d_H_passwordPlace_4 (fun b6 e6 k6 => ?_)
      refine t_gets (ci := 3) X Y S k6 rfl i_By 1 (by decide) rfl lk_H_81 (fun _ h9 => h9) d_H_passwordPlace_7 (fun z7 e7 l7 u7 => ?_)
      have J8 : ∀  (H : Heap) (locs : List Loc) (ls : Array Slot), pH D cCl (pA L sz) s.heap L f H locs → tS E T (tFr κ L [1, 13] []) κ L f κ L f → lv_has ls 3 [(0, .ref h), (1, .int (iI z586))] → W p l e (kRm 4 135 0 0) s m AV below meth c H locs 0 0 QQ (F0 m 32 ls []) := by
        intro  H locs ls  Y S hl
        refine lv_iload_n X.1 X.2.1 d_H_passwordPlace_32 rfl (lv_at hl 1 rfl) ?_
        refine lv_aload_n X.1 X.2.1 d_H_passwordPlace_33 rfl (lv_at hl 0 rfl) ?_
        refine t_get0 (ci := 0) X Y S k0 rfl i_H 1 (by decide) rfl lk_H_21 (fun _ h9 => h9) d_H_passwordPlace_34 e6 ?_
        refine t_get0 (ci := 3) X Y S k6 rfl i_By 1 (by decide) rfl lk_H_81 (fun _ h9 => h9) d_H_passwordPlace_37 e7 ?_
        have J14 : ∀ (z13 : Int) (f12 : pF) (H : Heap) (locs : List Loc) (ls : Array Slot), (0 ≤ z13) → (z13 ≤ 1) → pH D cCl (pA L sz) s.heap L f12 H locs → tS E T (tFr κ L [1, 13] []) κ L f κ L f12 → lv_has ls 3 [(1, .int (iI z586))] → W p l e (kRm 4 135 0 0) s m AV below meth c H locs 0 0 QQ (F0 m 66 ls [.int (iI z13)]) := by
          intro z13 f12 H locs ls l13 u13 Y S hl
          refine lv_istore_n (lv' := [(2, .int (iI z13)), (1, .int (iI z586))]) X.1 X.2.1 d_H_passwordPlace_66 rfl hl (by decide) rfl (fun ls hl => ?_)
          refine lv_iload_n X.1 X.2.1 d_H_passwordPlace_67 rfl (lv_at hl 0 rfl) ?_
          refine z_if_eq (tgt := 77) X.1 X.2.1 d_H_passwordPlace_68 (by decide) ⟨by omega, by omega⟩ (fun h18 => ?_) (fun h18 => ?_)
          · refine lv_iconst (v := iI (-1)) X.1 X.2.1 d_H_passwordPlace_77 (by decide) ?_
            exact c_reti hQQ X Y hr hlk ⟨rfl, S, (-1), rfl, ⟨by omega, by omega⟩⟩ d_H_passwordPlace_78
          · refine lv_iload_n X.1 X.2.1 d_H_passwordPlace_71 rfl (lv_at hl 1 rfl) ?_
            refine lv_iconst (v := iI 1) X.1 X.2.1 d_H_passwordPlace_72 (by decide) ?_
            refine z_iadd X.1 X.2.1 d_H_passwordPlace_73 ?_
            refine lv_goto (tgt := 78) X.1 X.2.1 d_H_passwordPlace_74 (by decide) ?_
            exact c_reti hQQ X Y hr hlk ⟨rfl, S, z586 + 1, rfl, ⟨by omega, by omega⟩⟩ d_H_passwordPlace_78
        have J20 : ∀ (f19 : pF) (H : Heap) (locs : List Loc) (ls : Array Slot), pH D cCl (pA L sz) s.heap L f19 H locs → tS E T (tFr κ L [1, 13] []) κ L f κ L f19 → lv_has ls 3 [(1, .int (iI z586))] → W p l e (kRm 4 135 0 0) s m AV below meth c H locs 0 0 QQ (F0 m 65 ls []) := by
          intro f19 H locs ls  Y S hl
          refine lv_iconst (v := iI 0) X.1 X.2.1 d_H_passwordPlace_65 (by decide) ?_
          exact J14 0 f19 _ _ _ (by omega) (by omega) Y S (lv_sub hl [0] rfl)
        refine z_icmp_ge (tgt := 65) X.1 X.2.1 d_H_passwordPlace_40 (by decide) ⟨by omega, by omega⟩ ⟨by omega, by omega⟩ (fun h24 => ?_) (fun h24 => ?_)
        · exact J20 f _ _ _  Y S (lv_sub hl [1] rfl)
        · refine lv_aload_n X.1 X.2.1 d_H_passwordPlace_43 rfl (lv_at hl 0 rfl) ?_
          refine lv_iload_n X.1 X.2.1 d_H_passwordPlace_44 rfl (lv_at hl 1 rfl) ?_
          refine t_ni (t_runV (As := [.int (iI z586)]) (rest := []) (n := 1) X Y S k0 hml hl.1 (c_H_readName l D E T κ L f H.size h k0 z586 (by omega) (by omega) S.1) (ok_k X Y hA KS KR) rfl kl_H_H_readName ks_H_readName kx_H_readName ki_H_readName ini_H ⟨rfl, rfl⟩ hd_H_readName ⟨Nat.le_of_ble_eq_true rfl, Nat.le_of_ble_eq_true rfl⟩ rfl (Nat.le_of_ble_eq_true rfl) d_H_passwordPlace_45 ⟨Nat.le_of_ble_eq_true rfl, Nat.le_of_ble_eq_true rfl⟩) X Y hA S (by decide) (fun z25 f25 H locs Y S s25 p25 => ?_)
          obtain ⟨l25, u25⟩ := p25
          refine z_if_eq (tgt := 65) X.1 X.2.1 d_H_passwordPlace_48 (by decide) ⟨by omega, by omega⟩ (fun h26 => ?_) (fun h26 => ?_)
          · exact J20 f25 _ _ _  Y S (lv_sub hl [1] rfl)
          · refine lv_aload_n X.1 X.2.1 d_H_passwordPlace_51 rfl (lv_at hl 0 rfl) ?_
            refine lv_iload_n X.1 X.2.1 d_H_passwordPlace_52 rfl (lv_at hl 1 rfl) ?_
            refine lv_iconst (v := iI 1) X.1 X.2.1 d_H_passwordPlace_53 (by decide) ?_
            refine z_iadd X.1 X.2.1 d_H_passwordPlace_54 ?_
            refine t_ui (t_runV (As := [.int (iI (z586 + 1))]) (rest := []) (n := 1) X Y S k0 hml hl.1 (c_H_isPassword l D E T κ L f25 H.size h k0 (z586 + 1) (by omega) (by omega) S.1) (ok_k X Y hA KS KR) rfl kl_H_H_isPassword ks_H_isPassword kx_H_isPassword ki_H_isPassword ini_H ⟨rfl, rfl⟩ hd_H_isPassword ⟨Nat.le_of_ble_eq_true rfl, Nat.le_of_ble_eq_true rfl⟩ rfl (Nat.le_of_ble_eq_true rfl) d_H_passwordPlace_55 ⟨Nat.le_of_ble_eq_true rfl, Nat.le_of_ble_eq_true rfl⟩) X Y hA (fun z27 H locs Y p27 => ?_)
            obtain ⟨l27, u27⟩ := p27
            refine z_if_eq (tgt := 65) X.1 X.2.1 d_H_passwordPlace_58 (by decide) ⟨by omega, by omega⟩ (fun h28 => ?_) (fun h28 => ?_)
            · exact J20 f25 _ _ _  Y S (lv_sub hl [1] rfl)
            · refine lv_iconst (v := iI 1) X.1 X.2.1 d_H_passwordPlace_61 (by decide) ?_
              refine lv_goto (tgt := 66) X.1 X.2.1 d_H_passwordPlace_62 (by decide) ?_
              exact J14 1 f25 _ _ _ (by omega) (by omega) Y S (lv_sub hl [1] rfl)
      refine z_icmp_ge (tgt := 32) X.1 X.2.1 d_H_passwordPlace_10 (by decide) ⟨by omega, by omega⟩ ⟨by omega, by omega⟩ (fun h29 => ?_) (fun h29 => ?_)
      · exact J8  _ _ _  Y S (lv_sub hl [0, 1] rfl)
      · refine lv_aload_n X.1 X.2.1 d_H_passwordPlace_13 rfl (lv_at hl 0 rfl) ?_
        refine t_get0 (ci := 0) X Y S k0 rfl i_H 1 (by decide) rfl lk_H_21 (fun _ h9 => h9) d_H_passwordPlace_14 e6 ?_
        refine lv_iload_n X.1 X.2.1 d_H_passwordPlace_17 rfl (lv_at hl 1 rfl) ?_
        refine t_ui (t_runV (As := [.int (iI z1)]) (rest := []) (n := 1) X Y S k6 hml hl.1 (c_By_at l D E T κ L f H.size b6 4000 k6 (by omega) z1 (by omega) (by omega) S.1) (ok_k X Y hA KS KR) rfl kl_H_By_at ks_By_at kx_By_at ki_By_at ini_By ⟨rfl, rfl⟩ hd_By_at ⟨Nat.le_of_ble_eq_true rfl, Nat.le_of_ble_eq_true rfl⟩ rfl (Nat.le_of_ble_eq_true rfl) d_H_passwordPlace_18 ⟨Nat.le_of_ble_eq_true rfl, Nat.le_of_ble_eq_true rfl⟩) X Y hA (fun z30 H locs Y p30 => ?_)
        obtain ⟨l30, u30⟩ := p30
        refine lv_bipush (v := iI 58) X.1 X.2.1 d_H_passwordPlace_21 (by decide) ?_
        refine z_icmp_eq (tgt := 32) X.1 X.2.1 d_H_passwordPlace_23 (by decide) ⟨by omega, by omega⟩ ⟨by omega, by omega⟩ (fun h31 => ?_) (fun h31 => ?_)
        · exact J8  _ _ _  Y S (lv_sub hl [0, 1] rfl)
        · refine lv_iinc (v := iI (z1 + 1)) (lv' := [(1, .int (iI (z1 + 1))), (0, .ref h)]) X.1 X.2.1 d_H_passwordPlace_26 hl (k := 1) rfl ((iI_add _ _).trans (congrArg iI (by omega))) (by decide) rfl (fun ls hl => ?_)
          refine lv_goto (tgt := 2) X.1 X.2.1 d_H_passwordPlace_29 (by decide) ?_
          exact ih3 ((4000 - (z1 + 1)).toNat) (by omega) (z1 + 1) _ _ _ rfl (by omega) (by omega) Y S (lv_sub hl [1, 0] rfl)
  refine lv_istore_n (lv' := [(1, .int (iI 0)), (0, .ref h)]) X.1 X.2.1 d_H_passwordPlace_1 rfl hl (by decide) rfl (fun ls hl => ?_)
  exact J2 _ 0 _ _ _ rfl (by omega) (by omega) Y S (lv_sub hl [1, 0] rfl)
set_option maxHeartbeats 4000000 in
set_option maxRecDepth 100000 in
theorem c_H_putCentreName (l : Launch) (D : va_G) (E : cE) (T : cT) (κ : tK) (L : List Nat) (f : pF) (sz : Nat) (a1 n1 : Nat) (k1 : κ a1 = (13, n1)) (x1 : n1 ≤ 12288) (hw : tW E T κ L f) : Met l y_H_putCentreName (k_H_putCentreName :: lw_tg) (kRm 6 134 0 0) (va_Pc [.ref a1] (kPre D E T L f sz)) (va_Qv (nPv E T [1, 13] κ L f (fun (g : pF) => True)) (cPost D E (pA L sz)) (pA L sz)) 0 0 (pA L sz) := by
  refine k_enter (own := R_H) (by decide) rfl (Nat.le_of_ble_eq_true rfl) (fun p e s m below meth c ls AV QQ H locs hQQ X Y hA hin hr hlk hml hl KS KR => ?_)
  have hl : lv_has ls 1 [(0, .ref a1)] := hl
  have S : tS E T (tFr κ L [1, 13] []) κ L f κ L f := tS_rf hw
  refine lv_aload_n X.1 X.2.1 d_H_putCentreName_0 rfl (lv_at hl 0 rfl) ?_
  refine t_nv (t_runV (As := []) (rest := []) (n := 0) X Y S k1 hml hl.1 (c_By_clear l D E T κ L f H.size a1 n1 k1 (by omega) S.1) (ok_k X Y hA KS KR) rfl kl_H_By_clear ks_By_clear kx_By_clear ki_By_clear ini_By ⟨rfl, rfl⟩ hd_By_clear ⟨Nat.le_of_ble_eq_true rfl, Nat.le_of_ble_eq_true rfl⟩ rfl (Nat.le_of_ble_eq_true rfl) d_H_putCentreName_1 ⟨Nat.le_of_ble_eq_true rfl, Nat.le_of_ble_eq_true rfl⟩) X Y hA S (by decide) (fun f1 H locs Y S s1 p1 => ?_)
  refine lv_aload_n X.1 X.2.1 d_H_putCentreName_4 rfl (lv_at hl 0 rfl) ?_
  refine k_ldcSW (i := 0) X KR (by decide) ⟨by decide, by decide⟩ d_H_putCentreName_5 ?_
  refine t_nv (t_runV (As := [.ref ((T.2.1 0))]) (rest := []) (n := 1) X Y S k1 hml hl.1 (c_By_putText l D E T κ L f1 H.size a1 n1 k1 (by omega) 0 (show 0 < nY by decide) S.1) (ok_k X Y hA KS KR) rfl kl_H_By_putText ks_By_putText kx_By_putText ki_By_putText ini_By ⟨rfl, rfl⟩ hd_By_putText ⟨Nat.le_of_ble_eq_true rfl, Nat.le_of_ble_eq_true rfl⟩ rfl (Nat.le_of_ble_eq_true rfl) d_H_putCentreName_8 ⟨Nat.le_of_ble_eq_true rfl, Nat.le_of_ble_eq_true rfl⟩) X Y hA S (by decide) (fun f2 H locs Y S s2 p2 => ?_)
  refine lv_aload_n X.1 X.2.1 d_H_putCentreName_11 rfl (lv_at hl 0 rfl) ?_
  refine k_ldcSW (i := 1) X KR (by decide) ⟨by decide, by decide⟩ d_H_putCentreName_12 ?_
  refine t_nv (t_runV (As := [.ref ((T.2.1 1))]) (rest := []) (n := 1) X Y S k1 hml hl.1 (c_By_putText l D E T κ L f2 H.size a1 n1 k1 (by omega) 1 (show 1 < nY by decide) S.1) (ok_k X Y hA KS KR) rfl kl_H_By_putText ks_By_putText kx_By_putText ki_By_putText ini_By ⟨rfl, rfl⟩ hd_By_putText ⟨Nat.le_of_ble_eq_true rfl, Nat.le_of_ble_eq_true rfl⟩ rfl (Nat.le_of_ble_eq_true rfl) d_H_putCentreName_15 ⟨Nat.le_of_ble_eq_true rfl, Nat.le_of_ble_eq_true rfl⟩) X Y hA S (by decide) (fun f3 H locs Y S s3 p3 => ?_)
  exact c_retv hQQ X Y hr hlk ⟨rfl, S, trivial⟩ d_H_putCentreName_18
set_option maxHeartbeats 4000000 in
set_option maxRecDepth 100000 in
theorem c_H_readService (l : Launch) (D : va_G) (E : cE) (T : cT) (κ : tK) (L : List Nat) (f : pF) (sz : Nat) (h : Nat) (k0 : κ h = (10, 0)) (hw : tW E T κ L f) : Met l y_H_readService (k_H_readService :: lw_tg) (kRm 7 154 0 0) (va_Pc [.ref h] (kPre D E T L f sz)) (va_Qi (nPi E T [1, 13] κ L f (fun (z : Int) (g : pF) => 0 ≤ z ∧ z ≤ 1)) (cPost D E (pA L sz)) (pA L sz)) 0 0 (pA L sz) := by
  refine k_enter (own := R_H) (by decide) rfl (Nat.le_of_ble_eq_true rfl) (fun p e s m below meth c ls AV QQ H locs hQQ X Y hA hin hr hlk hml hl KS KR => ?_)
  have hl : lv_has ls 1 [(0, .ref h)] := hl
  have S : tS E T (tFr κ L [1, 13] []) κ L f κ L f := tS_rf hw
  refine lv_aload_n X.1 X.2.1 d_H_readService_0 rfl (lv_at hl 0 rfl) ?_
  refine t_getr (ci := 0) X Y S k0 rfl i_H 1 (by decide) rfl (k1 := 13) (k2 := 4000) rfl rfl lk_H_21 (fun _ h9 => h9) d_H_readService_1 (fun b1 e1 k1 => ?_)
  refine lv_iconst (v := iI 0) X.1 X.2.1 d_H_readService_4 (by decide) ?_
  refine lv_aload_n X.1 X.2.1 d_H_readService_5 rfl (lv_at hl 0 rfl) ?_
  refine t_get0 (ci := 0) X Y S k0 rfl i_H 1 (by decide) rfl lk_H_21 (fun _ h9 => h9) d_H_readService_6 e1 ?_
  refine t_gets (ci := 3) X Y S k1 rfl i_By 1 (by decide) rfl lk_H_81 (fun _ h9 => h9) d_H_readService_9 (fun z2 e2 l2 u2 => ?_)
  refine k_ldcSW (i := 28) X KR (by decide) ⟨by decide, by decide⟩ d_H_readService_12 ?_
  refine t_ui (t_runV (As := [.int (iI 0), .int (iI z2), .ref ((T.2.1 28))]) (rest := []) (n := 3) X Y S k1 hml hl.1 (c_By_isText l D E T κ L f H.size b1 4000 k1 (by omega) 0 (by omega) (by omega) z2 (by omega) (by omega) 28 (show 28 < nY by decide) S.1) (ok_k X Y hA KS KR) rfl kl_H_By_isText ks_By_isText kx_By_isText ki_By_isText ini_By ⟨rfl, rfl⟩ hd_By_isText ⟨Nat.le_of_ble_eq_true rfl, Nat.le_of_ble_eq_true rfl⟩ rfl (Nat.le_of_ble_eq_true rfl) d_H_readService_15 ⟨Nat.le_of_ble_eq_true rfl, Nat.le_of_ble_eq_true rfl⟩) X Y hA (fun z3 H locs Y p3 => ?_)
  obtain ⟨l3, u3⟩ := p3
  refine z_if_eq (tgt := 30) X.1 X.2.1 d_H_readService_18 (by decide) ⟨by omega, by omega⟩ (fun h4 => ?_) (fun h4 => ?_)
  · refine lv_aload_n X.1 X.2.1 d_H_readService_30 rfl (lv_at hl 0 rfl) ?_
    refine lv_aload_n X.1 X.2.1 d_H_readService_31 rfl (lv_at hl 0 rfl) ?_
    refine t_get0 (ci := 0) X Y S k0 rfl i_H 1 (by decide) rfl lk_H_21 (fun _ h9 => h9) d_H_readService_32 e1 ?_
    refine t_get0 (ci := 3) X Y S k1 rfl i_By 1 (by decide) rfl lk_H_81 (fun _ h9 => h9) d_H_readService_35 e2 ?_
    refine t_ni (t_runV (As := [.int (iI z2)]) (rest := []) (n := 1) X Y S k0 hml hl.1 (c_H_readName l D E T κ L f H.size h k0 z2 (by omega) (by omega) S.1) (ok_k X Y hA KS KR) rfl kl_H_H_readName ks_H_readName kx_H_readName ki_H_readName ini_H ⟨rfl, rfl⟩ hd_H_readName ⟨Nat.le_of_ble_eq_true rfl, Nat.le_of_ble_eq_true rfl⟩ rfl (Nat.le_of_ble_eq_true rfl) d_H_readService_38 ⟨Nat.le_of_ble_eq_true rfl, Nat.le_of_ble_eq_true rfl⟩) X Y hA S (by decide) (fun z5 f5 H locs Y S s5 p5 => ?_)
    obtain ⟨l5, u5⟩ := p5
    exact c_retz hQQ X Y hr hlk (iI_bool (by omega) (by omega)).1 ⟨rfl, S, z5, rfl, ⟨by omega, by omega⟩⟩ d_H_readService_41
  · refine lv_aload_n X.1 X.2.1 d_H_readService_21 rfl (lv_at hl 0 rfl) ?_
    refine t_getr (ci := 0) X Y S k0 rfl i_H 3 (by decide) rfl (k1 := 13) (k2 := 40) rfl rfl lk_H_28 (fun _ h9 => h9) d_H_readService_22 (fun b6 e6 k6 => ?_)
    refine t_nv (x_runS (As := [.ref b6]) (rest := []) (n := 1) X hml hl.1 (c_H_putCentreName l D E T κ L f H.size b6 40 k6 (by omega) S.1) (ok_k X Y hA KS KR) kl_H_H_putCentreName ks_H_putCentreName ki_H_putCentreName ini_H ⟨rfl, rfl⟩ hd_H_putCentreName.2 ⟨Nat.le_of_ble_eq_true rfl, Nat.le_of_ble_eq_true rfl⟩ rfl (Nat.le_of_ble_eq_true rfl) d_H_readService_25 ⟨Nat.le_of_ble_eq_true rfl, Nat.le_of_ble_eq_true rfl⟩) X Y hA S (by decide) (fun f7 H locs Y S s7 p7 => ?_)
    refine lv_iconst (v := iI 1) X.1 X.2.1 d_H_readService_28 (by decide) ?_
    exact c_retz hQQ X Y hr hlk (iI_bool (by omega) (by omega)).1 ⟨rfl, S, 1, rfl, ⟨by omega, by omega⟩⟩ d_H_readService_29
set_option maxHeartbeats 4000000 in
set_option maxRecDepth 100000 in
theorem c_H_putRefusal (l : Launch) (D : va_G) (E : cE) (T : cT) (κ : tK) (L : List Nat) (f : pF) (sz : Nat) (h : Nat) (k0 : κ h = (10, 0)) (a1 : Nat) (k1 : κ a1 = (17, 0)) (a2 : Int) (l_a2 : (-2147483648) ≤ a2) (u_a2 : a2 ≤ 2147483647) (hw : tW E T κ L f) : Met l y_H_putRefusal (k_H_putRefusal :: lw_tg) (kRm 7 156 0 0) (va_Pc [.ref h, .ref a1, .int (iI a2)] (kPre D E T L f sz)) (va_Qv (nPv E T [1, 13] κ L f (fun (g : pF) => True)) (cPost D E (pA L sz)) (pA L sz)) 0 0 (pA L sz) := by
  refine k_enter (own := R_H) (by decide) rfl (Nat.le_of_ble_eq_true rfl) (fun p e s m below meth c ls AV QQ H locs hQQ X Y hA hin hr hlk hml hl KS KR => ?_)
  have hl : lv_has ls 5 [(0, .ref h), (1, .ref a1), (2, .int (iI a2))] := hl
  have S : tS E T (tFr κ L [1, 13] []) κ L f κ L f := tS_rf hw
  refine lv_aload_n X.1 X.2.1 d_H_putRefusal_0 rfl (lv_at hl 0 rfl) ?_
  refine t_getr (ci := 0) X Y S k0 rfl i_H 2 (by decide) rfl (k1 := 13) (k2 := 12288) rfl rfl lk_H_25 (fun _ h9 => h9) d_H_putRefusal_1 (fun b1 e1 k1 => ?_)
  refine lv_bipush (v := iI 126) X.1 X.2.1 d_H_putRefusal_4 (by decide) ?_
  refine t_ni (t_runV (As := [.int (iI 126)]) (rest := []) (n := 1) X Y S k1 hml hl.1 (c_By_open l D E T κ L f H.size b1 12288 k1 (by omega) 126 (by omega) (by omega) S.1) (ok_k X Y hA KS KR) rfl kl_H_By_open ks_By_open kx_By_open ki_By_open ini_By ⟨rfl, rfl⟩ hd_By_open ⟨Nat.le_of_ble_eq_true rfl, Nat.le_of_ble_eq_true rfl⟩ rfl (Nat.le_of_ble_eq_true rfl) d_H_putRefusal_6 ⟨Nat.le_of_ble_eq_true rfl, Nat.le_of_ble_eq_true rfl⟩) X Y hA S (by decide) (fun z2 f2 H locs Y S s2 p2 => ?_)
  obtain ⟨l2, u2⟩ := p2
  refine lv_istore_n (lv' := [(3, .int (iI z2)), (0, .ref h), (1, .ref a1), (2, .int (iI a2))]) X.1 X.2.1 d_H_putRefusal_9 rfl hl (by decide) rfl (fun ls hl => ?_)
  refine lv_aload_n X.1 X.2.1 d_H_putRefusal_10 rfl (lv_at hl 1 rfl) ?_
  refine t_get0 (ci := 0) X Y S k0 rfl i_H 2 (by decide) rfl lk_H_25 (fun _ h9 => h9) d_H_putRefusal_11 ((gF_same (s2.2.2.2 _ ⟨(t_obj S.1 k0).1, by rw [k0]; decide, by simp⟩).1 2).trans e1) ?_
  refine lv_bipush (v := iI 48) X.1 X.2.1 d_H_putRefusal_14 (by decide) ?_
  refine t_ni (t_runV (As := [.int (iI 48)]) (rest := []) (n := 1) X Y S k1 hml hl.1 (c_By_open l D E T κ L f2 H.size b1 12288 k1 (by omega) 48 (by omega) (by omega) S.1) (ok_k X Y hA KS KR) rfl kl_H_By_open ks_By_open kx_By_open ki_By_open ini_By ⟨rfl, rfl⟩ hd_By_open ⟨Nat.le_of_ble_eq_true rfl, Nat.le_of_ble_eq_true rfl⟩ rfl (Nat.le_of_ble_eq_true rfl) d_H_putRefusal_16 ⟨Nat.le_of_ble_eq_true rfl, Nat.le_of_ble_eq_true rfl⟩) X Y hA S (by decide) (fun z3 f3 H locs Y S s3 p3 => ?_)
  obtain ⟨l3, u3⟩ := p3
  refine lv_istore (lv' := [(4, .int (iI z3)), (3, .int (iI z2)), (0, .ref h), (1, .ref a1), (2, .int (iI a2))]) X.1 X.2.1 d_H_putRefusal_19 hl (by decide) rfl (fun ls hl => ?_)
  refine lv_aload_n X.1 X.2.1 d_H_putRefusal_21 rfl (lv_at hl 2 rfl) ?_
  refine t_get0 (ci := 0) X Y S k0 rfl i_H 2 (by decide) rfl lk_H_25 (fun _ h9 => h9) d_H_putRefusal_22 ((gF_same (s3.2.2.2 _ ⟨(t_obj S.1 k0).1, by rw [k0]; decide, by simp⟩).1 2).trans ((gF_same (s2.2.2.2 _ ⟨(t_obj S.1 k0).1, by rw [k0]; decide, by simp⟩).1 2).trans e1)) ?_
  refine lv_aload_n X.1 X.2.1 d_H_putRefusal_25 rfl (lv_at hl 2 rfl) ?_
  refine t_getr (ci := 0) X Y S k0 rfl i_H 0 (by decide) rfl (k1 := 21) (k2 := 0) rfl rfl lk_H_12 (fun _ h9 => h9) d_H_putRefusal_26 (fun b4 e4 k4 => ?_)
  refine t_geti (ci := 11) X Y S k4 rfl i_Va 0 (by decide) rfl lk_H_110 (fun _ h9 => h9) d_H_putRefusal_29 (fun z5 e5 l5 u5 => ?_)
  refine lv_iload_n X.1 X.2.1 d_H_putRefusal_32 rfl (lv_at hl 4 rfl) ?_
  refine t_nv (t_runV (As := [.int (iI z5), .int (iI a2)]) (rest := []) (n := 2) X Y S k1 hml hl.1 (c_By_putErrorHead l D E T κ L f3 H.size b1 12288 k1 (by omega) z5 (by omega) (by omega) a2 (by omega) (by omega) S.1) (ok_k X Y hA KS KR) rfl kl_H_By_putErrorHead ks_By_putErrorHead kx_By_putErrorHead ki_By_putErrorHead ini_By ⟨rfl, rfl⟩ hd_By_putErrorHead ⟨Nat.le_of_ble_eq_true rfl, Nat.le_of_ble_eq_true rfl⟩ rfl (Nat.le_of_ble_eq_true rfl) d_H_putRefusal_33 ⟨Nat.le_of_ble_eq_true rfl, Nat.le_of_ble_eq_true rfl⟩) X Y hA S (by decide) (fun f6 H locs Y S s6 p6 => ?_)
  refine lv_aload_n X.1 X.2.1 d_H_putRefusal_36 rfl (lv_at hl 2 rfl) ?_
  refine t_get0 (ci := 0) X Y S k0 rfl i_H 2 (by decide) rfl lk_H_25 (fun _ h9 => h9) d_H_putRefusal_37 ((gF_same (s6.2.2.2 _ ⟨(t_obj S.1 k0).1, by rw [k0]; decide, by simp⟩).1 2).trans ((gF_same (s3.2.2.2 _ ⟨(t_obj S.1 k0).1, by rw [k0]; decide, by simp⟩).1 2).trans ((gF_same (s2.2.2.2 _ ⟨(t_obj S.1 k0).1, by rw [k0]; decide, by simp⟩).1 2).trans e1))) ?_
  refine lv_bipush (v := iI 9) X.1 X.2.1 d_H_putRefusal_40 (by decide) ?_
  refine t_nv (t_runV (As := [.int (iI 9)]) (rest := []) (n := 1) X Y S k1 hml hl.1 (c_By_putRealm l D E T κ L f6 H.size b1 12288 k1 (by omega) 9 (by omega) (by omega) S.1) (ok_k X Y hA KS KR) rfl kl_H_By_putRealm ks_By_putRealm kx_By_putRealm ki_By_putRealm ini_By ⟨rfl, rfl⟩ hd_By_putRealm ⟨Nat.le_of_ble_eq_true rfl, Nat.le_of_ble_eq_true rfl⟩ rfl (Nat.le_of_ble_eq_true rfl) d_H_putRefusal_42 ⟨Nat.le_of_ble_eq_true rfl, Nat.le_of_ble_eq_true rfl⟩) X Y hA S (by decide) (fun f7 H locs Y S s7 p7 => ?_)
  refine lv_aload_n X.1 X.2.1 d_H_putRefusal_45 rfl (lv_at hl 2 rfl) ?_
  refine t_get0 (ci := 0) X Y S k0 rfl i_H 2 (by decide) rfl lk_H_25 (fun _ h9 => h9) d_H_putRefusal_46 ((gF_same (s7.2.2.2 _ ⟨(t_obj S.1 k0).1, by rw [k0]; decide, by simp⟩).1 2).trans ((gF_same (s6.2.2.2 _ ⟨(t_obj S.1 k0).1, by rw [k0]; decide, by simp⟩).1 2).trans ((gF_same (s3.2.2.2 _ ⟨(t_obj S.1 k0).1, by rw [k0]; decide, by simp⟩).1 2).trans ((gF_same (s2.2.2.2 _ ⟨(t_obj S.1 k0).1, by rw [k0]; decide, by simp⟩).1 2).trans e1)))) ?_
  refine lv_bipush (v := iI 10) X.1 X.2.1 d_H_putRefusal_49 (by decide) ?_
  refine lv_iconst (v := iI 2) X.1 X.2.1 d_H_putRefusal_51 (by decide) ?_
  refine lv_aload_n X.1 X.2.1 d_H_putRefusal_52 rfl (lv_at hl 3 rfl) ?_
  refine t_getr (ci := 7) X Y S k1 rfl i_Pr 0 (by decide) rfl (k1 := 13) (k2 := 40) rfl rfl lk_H_340 (fun _ h9 => h9) d_H_putRefusal_53 (fun b8 e8 k8 => ?_)
  refine t_nv (t_runV (As := [.int (iI 10), .int (iI 2), .ref b8]) (rest := []) (n := 3) X Y S k1 hml hl.1 (c_By_putName l D E T κ L f7 H.size b1 12288 k1 (by omega) 10 (by omega) (by omega) 2 (by omega) (by omega) b8 40 k8 (by omega) S.1) (ok_k X Y hA KS KR) rfl kl_H_By_putName ks_By_putName kx_By_putName ki_By_putName ini_By ⟨rfl, rfl⟩ hd_By_putName ⟨Nat.le_of_ble_eq_true rfl, Nat.le_of_ble_eq_true rfl⟩ rfl (Nat.le_of_ble_eq_true rfl) d_H_putRefusal_56 ⟨Nat.le_of_ble_eq_true rfl, Nat.le_of_ble_eq_true rfl⟩) X Y hA S (by decide) (fun f9 H locs Y S s9 p9 => ?_)
  refine lv_aload_n X.1 X.2.1 d_H_putRefusal_59 rfl (lv_at hl 2 rfl) ?_
  refine t_get0 (ci := 0) X Y S k0 rfl i_H 2 (by decide) rfl lk_H_25 (fun _ h9 => h9) d_H_putRefusal_60 ((gF_same (s9.2.2.2 _ ⟨(t_obj S.1 k0).1, by rw [k0]; decide, by simp⟩).1 2).trans ((gF_same (s7.2.2.2 _ ⟨(t_obj S.1 k0).1, by rw [k0]; decide, by simp⟩).1 2).trans ((gF_same (s6.2.2.2 _ ⟨(t_obj S.1 k0).1, by rw [k0]; decide, by simp⟩).1 2).trans ((gF_same (s3.2.2.2 _ ⟨(t_obj S.1 k0).1, by rw [k0]; decide, by simp⟩).1 2).trans ((gF_same (s2.2.2.2 _ ⟨(t_obj S.1 k0).1, by rw [k0]; decide, by simp⟩).1 2).trans e1))))) ?_
  refine lv_iload X.1 X.2.1 d_H_putRefusal_63 (lv_at hl 0 rfl) ?_
  refine t_nv (t_runV (As := [.int (iI z3)]) (rest := []) (n := 1) X Y S k1 hml hl.1 (c_By_close l D E T κ L f9 H.size b1 12288 k1 (by omega) z3 (by omega) (by omega) S.1) (ok_k X Y hA KS KR) rfl kl_H_By_close ks_By_close kx_By_close ki_By_close ini_By ⟨rfl, rfl⟩ hd_By_close ⟨Nat.le_of_ble_eq_true rfl, Nat.le_of_ble_eq_true rfl⟩ rfl (Nat.le_of_ble_eq_true rfl) d_H_putRefusal_65 ⟨Nat.le_of_ble_eq_true rfl, Nat.le_of_ble_eq_true rfl⟩) X Y hA S (by decide) (fun f10 H locs Y S s10 p10 => ?_)
  refine lv_aload_n X.1 X.2.1 d_H_putRefusal_68 rfl (lv_at hl 2 rfl) ?_
  refine t_get0 (ci := 0) X Y S k0 rfl i_H 2 (by decide) rfl lk_H_25 (fun _ h9 => h9) d_H_putRefusal_69 ((gF_same (s10.2.2.2 _ ⟨(t_obj S.1 k0).1, by rw [k0]; decide, by simp⟩).1 2).trans ((gF_same (s9.2.2.2 _ ⟨(t_obj S.1 k0).1, by rw [k0]; decide, by simp⟩).1 2).trans ((gF_same (s7.2.2.2 _ ⟨(t_obj S.1 k0).1, by rw [k0]; decide, by simp⟩).1 2).trans ((gF_same (s6.2.2.2 _ ⟨(t_obj S.1 k0).1, by rw [k0]; decide, by simp⟩).1 2).trans ((gF_same (s3.2.2.2 _ ⟨(t_obj S.1 k0).1, by rw [k0]; decide, by simp⟩).1 2).trans ((gF_same (s2.2.2.2 _ ⟨(t_obj S.1 k0).1, by rw [k0]; decide, by simp⟩).1 2).trans e1)))))) ?_
  refine lv_iload_n X.1 X.2.1 d_H_putRefusal_72 rfl (lv_at hl 1 rfl) ?_
  refine t_nv (t_runV (As := [.int (iI z2)]) (rest := []) (n := 1) X Y S k1 hml hl.1 (c_By_close l D E T κ L f10 H.size b1 12288 k1 (by omega) z2 (by omega) (by omega) S.1) (ok_k X Y hA KS KR) rfl kl_H_By_close ks_By_close kx_By_close ki_By_close ini_By ⟨rfl, rfl⟩ hd_By_close ⟨Nat.le_of_ble_eq_true rfl, Nat.le_of_ble_eq_true rfl⟩ rfl (Nat.le_of_ble_eq_true rfl) d_H_putRefusal_73 ⟨Nat.le_of_ble_eq_true rfl, Nat.le_of_ble_eq_true rfl⟩) X Y hA S (by decide) (fun f11 H locs Y S s11 p11 => ?_)
  exact c_retv hQQ X Y hr hlk ⟨rfl, S, trivial⟩ d_H_putRefusal_76
set_option maxHeartbeats 4000000 in
set_option maxRecDepth 100000 in
theorem c_H_feed (l : Launch) (D : va_G) (E : cE) (T : cT) (κ : tK) (L : List Nat) (f : pF) (sz : Nat) (h : Nat) (k0 : κ h = (10, 0)) (a1 : Int) (l_a1 : (-2147483648) ≤ a1) (u_a1 : a1 ≤ 2147483647) (a2 : Int) (l_a2 : (-2147483648) ≤ a2) (u_a2 : a2 ≤ 2147483647) (a3 : Int) (l_a3 : (-2147483648) ≤ a3) (u_a3 : a3 ≤ 2147483647) (a4 : Int) (l_a4 : (-2147483648) ≤ a4) (u_a4 : a4 ≤ 2147483647) (a5 : Int) (l_a5 : (-2147483648) ≤ a5) (u_a5 : a5 ≤ 2147483647) (hw : tW E T κ L f) : Met l y_H_feed (k_H_feed :: lw_tg) (kRm 3 102 0 0) (va_Pc [.ref h, .int (iI a1), .int (iI a2), .int (iI a3), .int (iI a4), .int (iI a5)] (kPre D E T L f sz)) (va_Qi (nPi E T [1, 13] κ L f (fun (z : Int) (g : pF) => 0 ≤ z ∧ z ≤ 1)) (cPost D E (pA L sz)) (pA L sz)) 0 0 (pA L sz) := by
  refine k_enter (own := R_H) (by decide) rfl (Nat.le_of_ble_eq_true rfl) (fun p e s m below meth c ls AV QQ H locs hQQ X Y hA hin hr hlk hml hl KS KR => ?_)
  have hl : lv_has ls 6 [(0, .ref h), (1, .int (iI a1)), (2, .int (iI a2)), (3, .int (iI a3)), (4, .int (iI a4)), (5, .int (iI a5))] := hl
  have S : tS E T (tFr κ L [1, 13] []) κ L f κ L f := tS_rf hw
  refine lv_aload_n X.1 X.2.1 d_H_feed_0 rfl (lv_at hl 0 rfl) ?_
  refine t_getr (ci := 0) X Y S k0 rfl i_H 1 (by decide) rfl (k1 := 13) (k2 := 4000) rfl rfl lk_H_21 (fun _ h9 => h9) d_H_feed_1 (fun b1 e1 k1 => ?_)
  refine t_gets (ci := 3) X Y S k1 rfl i_By 1 (by decide) rfl lk_H_81 (fun _ h9 => h9) d_H_feed_4 (fun z2 e2 l2 u2 => ?_)
  refine lv_bipush (v := iI 20) X.1 X.2.1 d_H_feed_7 (by decide) ?_
  refine z_iadd X.1 X.2.1 d_H_feed_9 ?_
  refine lv_sipush (v := iI 4000) X.1 X.2.1 d_H_feed_10 (by decide) ?_
  refine z_icmp_le (tgt := 18) X.1 X.2.1 d_H_feed_13 (by decide) ⟨by omega, by omega⟩ ⟨by omega, by omega⟩ (fun h3 => ?_) (fun h3 => ?_)
  · refine lv_aload_n X.1 X.2.1 d_H_feed_18 rfl (lv_at hl 0 rfl) ?_
    refine t_get0 (ci := 0) X Y S k0 rfl i_H 1 (by decide) rfl lk_H_21 (fun _ h9 => h9) d_H_feed_19 e1 ?_
    refine lv_iload_n X.1 X.2.1 d_H_feed_22 rfl (lv_at hl 1 rfl) ?_
    refine t_nv (t_runV (As := [.int (iI a1)]) (rest := []) (n := 1) X Y S k1 hml hl.1 (c_By_putWord l D E T κ L f H.size b1 4000 k1 (by omega) a1 (by omega) (by omega) S.1) (ok_k X Y hA KS KR) rfl kl_H_By_putWord ks_By_putWord kx_By_putWord ki_By_putWord ini_By ⟨rfl, rfl⟩ hd_By_putWord ⟨Nat.le_of_ble_eq_true rfl, Nat.le_of_ble_eq_true rfl⟩ rfl (Nat.le_of_ble_eq_true rfl) d_H_feed_23 ⟨Nat.le_of_ble_eq_true rfl, Nat.le_of_ble_eq_true rfl⟩) X Y hA S (by decide) (fun f4 H locs Y S s4 p4 => ?_)
    refine lv_aload_n X.1 X.2.1 d_H_feed_26 rfl (lv_at hl 0 rfl) ?_
    refine t_get0 (ci := 0) X Y S k0 rfl i_H 1 (by decide) rfl lk_H_21 (fun _ h9 => h9) d_H_feed_27 ((gF_same (s4.2.2.2 _ ⟨(t_obj S.1 k0).1, by rw [k0]; decide, by simp⟩).1 1).trans e1) ?_
    refine lv_iload_n X.1 X.2.1 d_H_feed_30 rfl (lv_at hl 2 rfl) ?_
    refine t_nv (t_runV (As := [.int (iI a2)]) (rest := []) (n := 1) X Y S k1 hml hl.1 (c_By_putWord l D E T κ L f4 H.size b1 4000 k1 (by omega) a2 (by omega) (by omega) S.1) (ok_k X Y hA KS KR) rfl kl_H_By_putWord ks_By_putWord kx_By_putWord ki_By_putWord ini_By ⟨rfl, rfl⟩ hd_By_putWord ⟨Nat.le_of_ble_eq_true rfl, Nat.le_of_ble_eq_true rfl⟩ rfl (Nat.le_of_ble_eq_true rfl) d_H_feed_31 ⟨Nat.le_of_ble_eq_true rfl, Nat.le_of_ble_eq_true rfl⟩) X Y hA S (by decide) (fun f5 H locs Y S s5 p5 => ?_)
    refine lv_aload_n X.1 X.2.1 d_H_feed_34 rfl (lv_at hl 0 rfl) ?_
    refine t_get0 (ci := 0) X Y S k0 rfl i_H 1 (by decide) rfl lk_H_21 (fun _ h9 => h9) d_H_feed_35 ((gF_same (s5.2.2.2 _ ⟨(t_obj S.1 k0).1, by rw [k0]; decide, by simp⟩).1 1).trans ((gF_same (s4.2.2.2 _ ⟨(t_obj S.1 k0).1, by rw [k0]; decide, by simp⟩).1 1).trans e1)) ?_
    refine lv_iload_n X.1 X.2.1 d_H_feed_38 rfl (lv_at hl 3 rfl) ?_
    refine t_nv (t_runV (As := [.int (iI a3)]) (rest := []) (n := 1) X Y S k1 hml hl.1 (c_By_putWord l D E T κ L f5 H.size b1 4000 k1 (by omega) a3 (by omega) (by omega) S.1) (ok_k X Y hA KS KR) rfl kl_H_By_putWord ks_By_putWord kx_By_putWord ki_By_putWord ini_By ⟨rfl, rfl⟩ hd_By_putWord ⟨Nat.le_of_ble_eq_true rfl, Nat.le_of_ble_eq_true rfl⟩ rfl (Nat.le_of_ble_eq_true rfl) d_H_feed_39 ⟨Nat.le_of_ble_eq_true rfl, Nat.le_of_ble_eq_true rfl⟩) X Y hA S (by decide) (fun f6 H locs Y S s6 p6 => ?_)
    refine lv_aload_n X.1 X.2.1 d_H_feed_42 rfl (lv_at hl 0 rfl) ?_
    refine t_get0 (ci := 0) X Y S k0 rfl i_H 1 (by decide) rfl lk_H_21 (fun _ h9 => h9) d_H_feed_43 ((gF_same (s6.2.2.2 _ ⟨(t_obj S.1 k0).1, by rw [k0]; decide, by simp⟩).1 1).trans ((gF_same (s5.2.2.2 _ ⟨(t_obj S.1 k0).1, by rw [k0]; decide, by simp⟩).1 1).trans ((gF_same (s4.2.2.2 _ ⟨(t_obj S.1 k0).1, by rw [k0]; decide, by simp⟩).1 1).trans e1))) ?_
    refine lv_iload X.1 X.2.1 d_H_feed_46 (lv_at hl 4 rfl) ?_
    refine t_nv (t_runV (As := [.int (iI a4)]) (rest := []) (n := 1) X Y S k1 hml hl.1 (c_By_putWord l D E T κ L f6 H.size b1 4000 k1 (by omega) a4 (by omega) (by omega) S.1) (ok_k X Y hA KS KR) rfl kl_H_By_putWord ks_By_putWord kx_By_putWord ki_By_putWord ini_By ⟨rfl, rfl⟩ hd_By_putWord ⟨Nat.le_of_ble_eq_true rfl, Nat.le_of_ble_eq_true rfl⟩ rfl (Nat.le_of_ble_eq_true rfl) d_H_feed_48 ⟨Nat.le_of_ble_eq_true rfl, Nat.le_of_ble_eq_true rfl⟩) X Y hA S (by decide) (fun f7 H locs Y S s7 p7 => ?_)
    refine lv_aload_n X.1 X.2.1 d_H_feed_51 rfl (lv_at hl 0 rfl) ?_
    refine t_get0 (ci := 0) X Y S k0 rfl i_H 1 (by decide) rfl lk_H_21 (fun _ h9 => h9) d_H_feed_52 ((gF_same (s7.2.2.2 _ ⟨(t_obj S.1 k0).1, by rw [k0]; decide, by simp⟩).1 1).trans ((gF_same (s6.2.2.2 _ ⟨(t_obj S.1 k0).1, by rw [k0]; decide, by simp⟩).1 1).trans ((gF_same (s5.2.2.2 _ ⟨(t_obj S.1 k0).1, by rw [k0]; decide, by simp⟩).1 1).trans ((gF_same (s4.2.2.2 _ ⟨(t_obj S.1 k0).1, by rw [k0]; decide, by simp⟩).1 1).trans e1)))) ?_
    refine lv_iload X.1 X.2.1 d_H_feed_55 (lv_at hl 5 rfl) ?_
    refine t_nv (t_runV (As := [.int (iI a5)]) (rest := []) (n := 1) X Y S k1 hml hl.1 (c_By_putWord l D E T κ L f7 H.size b1 4000 k1 (by omega) a5 (by omega) (by omega) S.1) (ok_k X Y hA KS KR) rfl kl_H_By_putWord ks_By_putWord kx_By_putWord ki_By_putWord ini_By ⟨rfl, rfl⟩ hd_By_putWord ⟨Nat.le_of_ble_eq_true rfl, Nat.le_of_ble_eq_true rfl⟩ rfl (Nat.le_of_ble_eq_true rfl) d_H_feed_57 ⟨Nat.le_of_ble_eq_true rfl, Nat.le_of_ble_eq_true rfl⟩) X Y hA S (by decide) (fun f8 H locs Y S s8 p8 => ?_)
    refine lv_iconst (v := iI 1) X.1 X.2.1 d_H_feed_60 (by decide) ?_
    exact c_retz hQQ X Y hr hlk (iI_bool (by omega) (by omega)).1 ⟨rfl, S, 1, rfl, ⟨by omega, by omega⟩⟩ d_H_feed_61
  · refine lv_iconst (v := iI 0) X.1 X.2.1 d_H_feed_16 (by decide) ?_
    exact c_retz hQQ X Y hr hlk (iI_bool (by omega) (by omega)).1 ⟨rfl, S, 0, rfl, ⟨by omega, by omega⟩⟩ d_H_feed_17
set_option maxHeartbeats 4000000 in
set_option maxRecDepth 100000 in
theorem c_H_end (l : Launch) (D : va_G) (E : cE) (T : cT) (κ : tK) (L : List Nat) (f : pF) (sz : Nat) (h : Nat) (k0 : κ h = (10, 0)) (a1 : Int) (l_a1 : (-2147483648) ≤ a1) (u_a1 : a1 ≤ 2147483647) (hw : tW E T κ L f) : Met l y_H_end (k_H_end :: lw_tg) (kRm 1 60 0 0) (va_Pc [.ref h, .int (iI a1)] (kPre D E T L f sz)) (va_Qi (nPi E T [13] κ L f (fun (z : Int) (g : pF) => 0 ≤ z ∧ z ≤ 1)) (cPost D E (pA L sz)) (pA L sz)) 0 0 (pA L sz) := by
  refine k_enter (own := R_H) (by decide) rfl (Nat.le_of_ble_eq_true rfl) (fun p e s m below meth c ls AV QQ H locs hQQ X Y hA hin hr hlk hml hl KS KR => ?_)
  have hl : lv_has ls 2 [(0, .ref h), (1, .int (iI a1))] := hl
  have S : tS E T (tFr κ L [13] []) κ L f κ L f := tS_rf hw
  refine lv_iload_n X.1 X.2.1 d_H_end_0 rfl (lv_at hl 1 rfl) ?_
  refine z_if_lt (tgt := 15) X.1 X.2.1 d_H_end_1 (by decide) ⟨by omega, by omega⟩ (fun h1 => ?_) (fun h1 => ?_)
  · refine lv_iconst (v := iI 0) X.1 X.2.1 d_H_end_15 (by decide) ?_
    exact c_retz hQQ X Y hr hlk (iI_bool (by omega) (by omega)).1 ⟨rfl, S, 0, rfl, ⟨by omega, by omega⟩⟩ d_H_end_16
  · refine lv_iload_n X.1 X.2.1 d_H_end_4 rfl (lv_at hl 1 rfl) ?_
    refine lv_aload_n X.1 X.2.1 d_H_end_5 rfl (lv_at hl 0 rfl) ?_
    refine t_getr (ci := 0) X Y S k0 rfl i_H 1 (by decide) rfl (k1 := 13) (k2 := 4000) rfl rfl lk_H_21 (fun _ h9 => h9) d_H_end_6 (fun b2 e2 k2 => ?_)
    refine t_gets (ci := 3) X Y S k2 rfl i_By 1 (by decide) rfl lk_H_81 (fun _ h9 => h9) d_H_end_9 (fun z3 e3 l3 u3 => ?_)
    refine z_icmp_le (tgt := 17) X.1 X.2.1 d_H_end_12 (by decide) ⟨by omega, by omega⟩ ⟨by omega, by omega⟩ (fun h4 => ?_) (fun h4 => ?_)
    · refine lv_aload_n X.1 X.2.1 d_H_end_17 rfl (lv_at hl 0 rfl) ?_
      refine t_get0 (ci := 0) X Y S k0 rfl i_H 1 (by decide) rfl lk_H_21 (fun _ h9 => h9) d_H_end_18 e2 ?_
      refine lv_iload_n X.1 X.2.1 d_H_end_21 rfl (lv_at hl 1 rfl) ?_
      refine t_put (ci := 3) X Y S k2 rfl i_By t_By t_By_ok n_By 1 (by decide) rfl lk_H_81 (fun _ h9 => h9) rfl (t_By_ok 1 (by decide)) rfl rfl ⟨_, rfl, by omega, by omega⟩ (fun h9 => h9.2.1 (by rw [← (S.2.2.2 _ h9).2, k2]; decide)) d_H_end_22 (fun f5 H locs Y S w5 => ?_)
      refine lv_iconst (v := iI 1) X.1 X.2.1 d_H_end_25 (by decide) ?_
      exact c_retz hQQ X Y hr hlk (iI_bool (by omega) (by omega)).1 ⟨rfl, S, 1, rfl, ⟨by omega, by omega⟩⟩ d_H_end_26
    · refine lv_iconst (v := iI 0) X.1 X.2.1 d_H_end_15 (by decide) ?_
      exact c_retz hQQ X Y hr hlk (iI_bool (by omega) (by omega)).1 ⟨rfl, S, 0, rfl, ⟨by omega, by omega⟩⟩ d_H_end_16
set_option maxHeartbeats 4000000 in
set_option maxRecDepth 100000 in
theorem c_H_carry (l : Launch) (D : va_G) (E : cE) (T : cT) (κ : tK) (L : List Nat) (f : pF) (sz : Nat) (h : Nat) (k0 : κ h = (10, 0)) (a1 : Int) (l_a1 : (-2147483648) ≤ a1) (u_a1 : a1 ≤ 2147483647) (a2 : Int) (l_a2 : (-2147483648) ≤ a2) (u_a2 : a2 ≤ 2147483647) (hw : tW E T κ L f) : Met l y_H_carry (k_H_carry :: lw_tg) (kRm 2 83 0 0) (va_Pc [.ref h, .int (iI a1), .int (iI a2)] (kPre D E T L f sz)) (va_Qi (nPi E T [1, 13] κ L f (fun (z : Int) (g : pF) => (-2147483648) ≤ z ∧ z ≤ 2147483647)) (cPost D E (pA L sz)) (pA L sz)) 0 0 (pA L sz) := by
  refine k_enter (own := R_H) (by decide) rfl (Nat.le_of_ble_eq_true rfl) (fun p e s m below meth c ls AV QQ H locs hQQ X Y hA hin hr hlk hml hl KS KR => ?_)
  have hl : lv_has ls 4 [(0, .ref h), (1, .int (iI a1)), (2, .int (iI a2))] := hl
  have S : tS E T (tFr κ L [1, 13] []) κ L f κ L f := tS_rf hw
  refine lv_aload_n X.1 X.2.1 d_H_carry_0 rfl (lv_at hl 0 rfl) ?_
  refine t_getr (ci := 0) X Y S k0 rfl i_H 1 (by decide) rfl (k1 := 13) (k2 := 4000) rfl rfl lk_H_21 (fun _ h9 => h9) d_H_carry_1 (fun b1 e1 k1 => ?_)
  refine t_nv (t_runV (As := []) (rest := []) (n := 0) X Y S k1 hml hl.1 (c_By_clear l D E T κ L f H.size b1 4000 k1 (by omega) S.1) (ok_k X Y hA KS KR) rfl kl_H_By_clear ks_By_clear kx_By_clear ki_By_clear ini_By ⟨rfl, rfl⟩ hd_By_clear ⟨Nat.le_of_ble_eq_true rfl, Nat.le_of_ble_eq_true rfl⟩ rfl (Nat.le_of_ble_eq_true rfl) d_H_carry_4 ⟨Nat.le_of_ble_eq_true rfl, Nat.le_of_ble_eq_true rfl⟩) X Y hA S (by decide) (fun f2 H locs Y S s2 p2 => ?_)
  refine lv_aload_n X.1 X.2.1 d_H_carry_7 rfl (lv_at hl 0 rfl) ?_
  refine t_getr (ci := 0) X Y S k0 rfl i_H 2 (by decide) rfl (k1 := 13) (k2 := 12288) rfl rfl lk_H_25 (fun _ h9 => h9) d_H_carry_8 (fun b3 e3 k3 => ?_)
  refine t_gets (ci := 3) X Y S k3 rfl i_By 1 (by decide) rfl lk_H_81 (fun _ h9 => h9) d_H_carry_11 (fun z4 e4 l4 u4 => ?_)
  refine lv_sipush (v := iI 4000) X.1 X.2.1 d_H_carry_14 (by decide) ?_
  refine z_min X.1 X.2.1 (hml.trans hl.1.symm) X.2.2.2.1 (X.2.2.1 _ kl_H_mmin) (X.2.2.1 _ ks_mmin) (X.2.2.1 _ ini_Math) (X.2.2.1 _ ki_mmin) (Nat.le_of_ble_eq_true rfl) (Nat.le_of_ble_eq_true rfl) (Nat.le_of_ble_eq_true rfl) (Nat.le_of_ble_eq_true rfl) ⟨by omega, by omega⟩ ⟨by omega, by omega⟩ d_H_carry_17 (fun z5 l5 u5 x5 => ?_)
  refine lv_istore_n (lv' := [(3, .int (iI z5)), (0, .ref h), (1, .int (iI a1)), (2, .int (iI a2))]) X.1 X.2.1 d_H_carry_20 rfl hl (by decide) rfl (fun ls hl => ?_)
  refine lv_aload_n X.1 X.2.1 d_H_carry_21 rfl (lv_at hl 1 rfl) ?_
  refine t_get0 (ci := 0) X Y S k0 rfl i_H 1 (by decide) rfl lk_H_21 (fun _ h9 => h9) d_H_carry_22 ((gF_same (s2.2.2.2 _ ⟨(t_obj S.1 k0).1, by rw [k0]; decide, by simp⟩).1 1).trans e1) ?_
  refine lv_aload_n X.1 X.2.1 d_H_carry_25 rfl (lv_at hl 1 rfl) ?_
  refine t_get0 (ci := 0) X Y S k0 rfl i_H 2 (by decide) rfl lk_H_25 (fun _ h9 => h9) d_H_carry_26 e3 ?_
  refine t_getrow (ci := 3) X Y S k3 rfl i_By 0 (by decide) rfl lk_H_97 (fun _ h9 => h9) d_H_carry_29 (fun b6 e6 k6 => ?_)
  refine lv_iconst (v := iI 0) X.1 X.2.1 d_H_carry_32 (by decide) ?_
  refine lv_iload_n X.1 X.2.1 d_H_carry_33 rfl (lv_at hl 0 rfl) ?_
  refine t_nv (t_runV (As := [.ref b6, .int (iI 0), .int (iI z5)]) (rest := []) (n := 3) X Y S k1 hml hl.1 (c_By_append l D E T κ L f2 H.size b1 4000 k1 (by omega) b6 12288 (Or.inl k6) (by omega) 0 (by omega) (by omega) z5 (by omega) (by omega) S.1) (ok_k X Y hA KS KR) rfl kl_H_By_append ks_By_append kx_By_append ki_By_append ini_By ⟨rfl, rfl⟩ hd_By_append ⟨Nat.le_of_ble_eq_true rfl, Nat.le_of_ble_eq_true rfl⟩ rfl (Nat.le_of_ble_eq_true rfl) d_H_carry_34 ⟨Nat.le_of_ble_eq_true rfl, Nat.le_of_ble_eq_true rfl⟩) X Y hA S (by decide) (fun f7 H locs Y S s7 p7 => ?_)
  refine lv_iload_n X.1 X.2.1 d_H_carry_37 rfl (lv_at hl 2 rfl) ?_
  refine z_if_lt (tgt := 67) X.1 X.2.1 d_H_carry_38 (by decide) ⟨by omega, by omega⟩ (fun h8 => ?_) (fun h8 => ?_)
  · refine lv_iload_n X.1 X.2.1 d_H_carry_67 rfl (lv_at hl 0 rfl) ?_
    exact c_reti hQQ X Y hr hlk ⟨rfl, S, z5, rfl, ⟨by omega, by omega⟩⟩ d_H_carry_68
  · refine lv_iload_n X.1 X.2.1 d_H_carry_41 rfl (lv_at hl 2 rfl) ?_
    refine lv_iload_n X.1 X.2.1 d_H_carry_42 rfl (lv_at hl 0 rfl) ?_
    refine z_icmp_ge (tgt := 67) X.1 X.2.1 d_H_carry_43 (by decide) ⟨by omega, by omega⟩ ⟨by omega, by omega⟩ (fun h9 => ?_) (fun h9 => ?_)
    · refine lv_iload_n X.1 X.2.1 d_H_carry_67 rfl (lv_at hl 0 rfl) ?_
      exact c_reti hQQ X Y hr hlk ⟨rfl, S, z5, rfl, ⟨by omega, by omega⟩⟩ d_H_carry_68
    · refine lv_aload_n X.1 X.2.1 d_H_carry_46 rfl (lv_at hl 1 rfl) ?_
      refine t_get0 (ci := 0) X Y S k0 rfl i_H 1 (by decide) rfl lk_H_21 (fun _ h9 => h9) d_H_carry_47 ((gF_same (s7.2.2.2 _ ⟨(t_obj S.1 k0).1, by rw [k0]; decide, by simp⟩).1 1).trans ((gF_same (s2.2.2.2 _ ⟨(t_obj S.1 k0).1, by rw [k0]; decide, by simp⟩).1 1).trans e1)) ?_
      refine t_getrow (ci := 3) X Y S k1 rfl i_By 0 (by decide) rfl lk_H_97 (fun _ h9 => h9) d_H_carry_50 (fun b10 e10 k10 => ?_)
      refine lv_iload_n X.1 X.2.1 d_H_carry_53 rfl (lv_at hl 2 rfl) ?_
      refine lv_aload_n X.1 X.2.1 d_H_carry_54 rfl (lv_at hl 1 rfl) ?_
      refine t_get0 (ci := 0) X Y S k0 rfl i_H 1 (by decide) rfl lk_H_21 (fun _ h9 => h9) d_H_carry_55 ((gF_same (s7.2.2.2 _ ⟨(t_obj S.1 k0).1, by rw [k0]; decide, by simp⟩).1 1).trans ((gF_same (s2.2.2.2 _ ⟨(t_obj S.1 k0).1, by rw [k0]; decide, by simp⟩).1 1).trans e1)) ?_
      refine t_get0 (ci := 3) X Y S k1 rfl i_By 0 (by decide) rfl lk_H_97 (fun _ h9 => h9) d_H_carry_58 e10 ?_
      refine lv_iload_n X.1 X.2.1 d_H_carry_61 rfl (lv_at hl 2 rfl) ?_
      refine t_bald X Y S (Or.inl k10) (by omega) (by omega) (by omega) d_H_carry_62 (fun z11 l11 u11 => ?_)
      refine lv_iload_n X.1 X.2.1 d_H_carry_63 rfl (lv_at hl 3 rfl) ?_
      refine lv_ixor X.1 X.2.1 d_H_carry_64 ?_
      refine t_u (fun z12 l12 u12 => ?_)
      refine lv_i2b X.1 X.2.1 d_H_carry_65 rfl ?_
      refine t_u (fun z13 l13 u13 => ?_)
      refine t_bast X Y S k10 (by omega) (by omega) (by omega) (fun h9 => h9.2.1 (by rw [← (S.2.2.2 _ h9).2, k10]; decide)) d_H_carry_66 (fun f14 H locs Y S w14 => ?_)
      refine lv_iload_n X.1 X.2.1 d_H_carry_67 rfl (lv_at hl 0 rfl) ?_
      exact c_reti hQQ X Y hr hlk ⟨rfl, S, z5, rfl, ⟨by omega, by omega⟩⟩ d_H_carry_68
set_option maxHeartbeats 4000000 in
set_option maxRecDepth 100000 in
theorem c_H_out (l : Launch) (D : va_G) (E : cE) (T : cT) (κ : tK) (L : List Nat) (f : pF) (sz : Nat) (h : Nat) (k0 : κ h = (10, 0)) (a1 : Int) (l_a1 : (-2147483648) ≤ a1) (u_a1 : a1 ≤ 2147483647) (hw : tW E T κ L f) : Met l y_H_out (k_H_out :: lw_tg) (kRm 2 81 0 0) (va_Pc [.ref h, .int (iI a1)] (kPre D E T L f sz)) (va_Qi (uPi L f (fun (z : Int) => (-2147483648) ≤ z ∧ z ≤ 2147483647)) (cPost D E (pA L sz)) (pA L sz)) 0 0 (pA L sz) := by
  refine k_enter (own := R_H) (by decide) rfl (Nat.le_of_ble_eq_true rfl) (fun p e s m below meth c ls AV QQ H locs hQQ X Y hA hin hr hlk hml hl KS KR => ?_)
  have hl : lv_has ls 2 [(0, .ref h), (1, .int (iI a1))] := hl
  have S : tS E T (tFr κ L [] []) κ L f κ L f := tS_rf hw
  refine lv_iload_n X.1 X.2.1 d_H_out_0 rfl (lv_at hl 1 rfl) ?_
  refine lv_iconst (v := iI (-1)) X.1 X.2.1 d_H_out_1 (by decide) ?_
  refine z_icmp_ne (tgt := 15) X.1 X.2.1 d_H_out_2 (by decide) ⟨by omega, by omega⟩ ⟨by omega, by omega⟩ (fun h1 => ?_) (fun h1 => ?_)
  · refine lv_aload_n X.1 X.2.1 d_H_out_15 rfl (lv_at hl 0 rfl) ?_
    refine t_getr (ci := 0) X Y S k0 rfl i_H 2 (by decide) rfl (k1 := 13) (k2 := 12288) rfl rfl lk_H_25 (fun _ h9 => h9) d_H_out_16 (fun b2 e2 k2 => ?_)
    refine lv_iload_n X.1 X.2.1 d_H_out_19 rfl (lv_at hl 1 rfl) ?_
    refine t_ui (t_runV (As := [.int (iI a1)]) (rest := []) (n := 1) X Y S k2 hml hl.1 (c_By_at l D E T κ L f H.size b2 12288 k2 (by omega) a1 (by omega) (by omega) S.1) (ok_k X Y hA KS KR) rfl kl_H_By_at ks_By_at kx_By_at ki_By_at ini_By ⟨rfl, rfl⟩ hd_By_at ⟨Nat.le_of_ble_eq_true rfl, Nat.le_of_ble_eq_true rfl⟩ rfl (Nat.le_of_ble_eq_true rfl) d_H_out_20 ⟨Nat.le_of_ble_eq_true rfl, Nat.le_of_ble_eq_true rfl⟩) X Y hA (fun z3 H locs Y p3 => ?_)
    obtain ⟨l3, u3⟩ := p3
    exact c_reti hQQ X Y hr hlk ⟨rfl, rfl, z3, rfl, ⟨by omega, by omega⟩⟩ d_H_out_23
  · refine lv_aload_n X.1 X.2.1 d_H_out_5 rfl (lv_at hl 0 rfl) ?_
    refine t_getr (ci := 0) X Y S k0 rfl i_H 2 (by decide) rfl (k1 := 13) (k2 := 12288) rfl rfl lk_H_25 (fun _ h9 => h9) d_H_out_6 (fun b4 e4 k4 => ?_)
    refine t_gets (ci := 3) X Y S k4 rfl i_By 1 (by decide) rfl lk_H_81 (fun _ h9 => h9) d_H_out_9 (fun z5 e5 l5 u5 => ?_)
    refine lv_goto (tgt := 23) X.1 X.2.1 d_H_out_12 (by decide) ?_
    exact c_reti hQQ X Y hr hlk ⟨rfl, rfl, z5, rfl, ⟨by omega, by omega⟩⟩ d_H_out_23
set_option maxHeartbeats 4000000 in
set_option maxRecDepth 100000 in
theorem c_H_clock (l : Launch) (D : va_G) (E : cE) (T : cT) (κ : tK) (L : List Nat) (f : pF) (sz : Nat) (h : Nat) (k0 : κ h = (10, 0)) (a1 : Int) (l_a1 : (-2147483648) ≤ a1) (u_a1 : a1 ≤ 2147483647) (hw : tW E T κ L f) : Met l y_H_clock (k_H_clock :: lw_tg) (kRm 1 60 0 0) (va_Pc [.ref h, .int (iI a1)] (kPre D E T L f sz)) (va_Qi (nPi E T [21] κ L f (fun (z : Int) (g : pF) => 0 ≤ z ∧ z ≤ 1)) (cPost D E (pA L sz)) (pA L sz)) 0 0 (pA L sz) := by
  refine k_enter (own := R_H) (by decide) rfl (Nat.le_of_ble_eq_true rfl) (fun p e s m below meth c ls AV QQ H locs hQQ X Y hA hin hr hlk hml hl KS KR => ?_)
  have hl : lv_has ls 2 [(0, .ref h), (1, .int (iI a1))] := hl
  have S : tS E T (tFr κ L [21] []) κ L f κ L f := tS_rf hw
  refine lv_iload_n X.1 X.2.1 d_H_clock_0 rfl (lv_at hl 1 rfl) ?_
  refine z_if_lt (tgt := 10) X.1 X.2.1 d_H_clock_1 (by decide) ⟨by omega, by omega⟩ (fun h1 => ?_) (fun h1 => ?_)
  · refine lv_iconst (v := iI 0) X.1 X.2.1 d_H_clock_10 (by decide) ?_
    exact c_retz hQQ X Y hr hlk (iI_bool (by omega) (by omega)).1 ⟨rfl, S, 0, rfl, ⟨by omega, by omega⟩⟩ d_H_clock_11
  · refine lv_iload_n X.1 X.2.1 d_H_clock_4 rfl (lv_at hl 1 rfl) ?_
    refine lv_ldc (v := (2000000000)) X.1 X.2.1 X.2.2.2.1 (X.2.2.1 _ cn_H_109) d_H_clock_5 ?_
    refine t_eq (y := iI 2000000000) (by decide) ?_
    refine z_icmp_le (tgt := 12) X.1 X.2.1 d_H_clock_7 (by decide) ⟨by omega, by omega⟩ ⟨by omega, by omega⟩ (fun h2 => ?_) (fun h2 => ?_)
    · refine lv_aload_n X.1 X.2.1 d_H_clock_12 rfl (lv_at hl 0 rfl) ?_
      refine t_getr (ci := 0) X Y S k0 rfl i_H 0 (by decide) rfl (k1 := 21) (k2 := 0) rfl rfl lk_H_12 (fun _ h9 => h9) d_H_clock_13 (fun b3 e3 k3 => ?_)
      refine lv_iload_n X.1 X.2.1 d_H_clock_16 rfl (lv_at hl 1 rfl) ?_
      refine t_put (ci := 11) X Y S k3 rfl i_Va t_Va t_Va_ok n_Va 0 (by decide) rfl lk_H_110 (fun _ h9 => h9) rfl (t_Va_ok 0 (by decide)) rfl rfl ⟨_, rfl, by omega, by omega⟩ (fun h9 => h9.2.1 (by rw [← (S.2.2.2 _ h9).2, k3]; decide)) d_H_clock_17 (fun f4 H locs Y S w4 => ?_)
      refine lv_iconst (v := iI 1) X.1 X.2.1 d_H_clock_20 (by decide) ?_
      exact c_retz hQQ X Y hr hlk (iI_bool (by omega) (by omega)).1 ⟨rfl, S, 1, rfl, ⟨by omega, by omega⟩⟩ d_H_clock_21
    · refine lv_iconst (v := iI 0) X.1 X.2.1 d_H_clock_10 (by decide) ?_
      exact c_retz hQQ X Y hr hlk (iI_bool (by omega) (by omega)).1 ⟨rfl, S, 0, rfl, ⟨by omega, by omega⟩⟩ d_H_clock_11
set_option maxHeartbeats 4000000 in
set_option maxRecDepth 100000 in
theorem c_H_seed (l : Launch) (D : va_G) (E : cE) (T : cT) (κ : tK) (L : List Nat) (f : pF) (sz : Nat) (h : Nat) (k0 : κ h = (10, 0)) (hw : tW E T κ L f) : Met l y_H_seed (k_H_seed :: lw_tg) (kRm 2 81 0 0) (va_Pc [.ref h] (kPre D E T L f sz)) (va_Qi (nPi E T [1, 13, 21] κ L f (fun (z : Int) (g : pF) => 0 ≤ z ∧ z ≤ 1)) (cPost D E (pA L sz)) (pA L sz)) 0 0 (pA L sz) := by
  refine k_enter (own := R_H) (by decide) rfl (Nat.le_of_ble_eq_true rfl) (fun p e s m below meth c ls AV QQ H locs hQQ X Y hA hin hr hlk hml hl KS KR => ?_)
  have hl : lv_has ls 1 [(0, .ref h)] := hl
  have S : tS E T (tFr κ L [1, 13, 21] []) κ L f κ L f := tS_rf hw
  refine lv_aload_n X.1 X.2.1 d_H_seed_0 rfl (lv_at hl 0 rfl) ?_
  refine t_getr (ci := 0) X Y S k0 rfl i_H 1 (by decide) rfl (k1 := 13) (k2 := 4000) rfl rfl lk_H_21 (fun _ h9 => h9) d_H_seed_1 (fun b1 e1 k1 => ?_)
  refine t_gets (ci := 3) X Y S k1 rfl i_By 1 (by decide) rfl lk_H_81 (fun _ h9 => h9) d_H_seed_4 (fun z2 e2 l2 u2 => ?_)
  refine lv_bipush (v := iI 64) X.1 X.2.1 d_H_seed_7 (by decide) ?_
  refine z_icmp_le (tgt := 14) X.1 X.2.1 d_H_seed_9 (by decide) ⟨by omega, by omega⟩ ⟨by omega, by omega⟩ (fun h3 => ?_) (fun h3 => ?_)
  · refine lv_aload_n X.1 X.2.1 d_H_seed_14 rfl (lv_at hl 0 rfl) ?_
    refine t_getr (ci := 0) X Y S k0 rfl i_H 0 (by decide) rfl (k1 := 21) (k2 := 0) rfl rfl lk_H_12 (fun _ h9 => h9) d_H_seed_15 (fun b4 e4 k4 => ?_)
    refine lv_aload_n X.1 X.2.1 d_H_seed_18 rfl (lv_at hl 0 rfl) ?_
    refine t_get0 (ci := 0) X Y S k0 rfl i_H 1 (by decide) rfl lk_H_21 (fun _ h9 => h9) d_H_seed_19 e1 ?_
    refine t_nv (t_runV (As := [.ref b1]) (rest := []) (n := 1) X Y S k4 hml hl.1 (c_Va_sow l D E T κ L f H.size b4 k4 b1 4000 k1 (by omega) S.1) (ok_k X Y hA KS KR) rfl kl_H_Va_sow ks_Va_sow kx_Va_sow ki_Va_sow ini_Va ⟨rfl, rfl⟩ hd_Va_sow ⟨Nat.le_of_ble_eq_true rfl, Nat.le_of_ble_eq_true rfl⟩ rfl (Nat.le_of_ble_eq_true rfl) d_H_seed_22 ⟨Nat.le_of_ble_eq_true rfl, Nat.le_of_ble_eq_true rfl⟩) X Y hA S (by decide) (fun f5 H locs Y S s5 p5 => ?_)
    refine lv_aload_n X.1 X.2.1 d_H_seed_25 rfl (lv_at hl 0 rfl) ?_
    refine t_get0 (ci := 0) X Y S k0 rfl i_H 1 (by decide) rfl lk_H_21 (fun _ h9 => h9) d_H_seed_26 ((gF_same (s5.2.2.2 _ ⟨(t_obj S.1 k0).1, by rw [k0]; decide, by simp⟩).1 1).trans e1) ?_
    refine t_nv (t_runV (As := []) (rest := []) (n := 0) X Y S k1 hml hl.1 (c_By_clear l D E T κ L f5 H.size b1 4000 k1 (by omega) S.1) (ok_k X Y hA KS KR) rfl kl_H_By_clear ks_By_clear kx_By_clear ki_By_clear ini_By ⟨rfl, rfl⟩ hd_By_clear ⟨Nat.le_of_ble_eq_true rfl, Nat.le_of_ble_eq_true rfl⟩ rfl (Nat.le_of_ble_eq_true rfl) d_H_seed_29 ⟨Nat.le_of_ble_eq_true rfl, Nat.le_of_ble_eq_true rfl⟩) X Y hA S (by decide) (fun f6 H locs Y S s6 p6 => ?_)
    refine lv_iconst (v := iI 1) X.1 X.2.1 d_H_seed_32 (by decide) ?_
    exact c_retz hQQ X Y hr hlk (iI_bool (by omega) (by omega)).1 ⟨rfl, S, 1, rfl, ⟨by omega, by omega⟩⟩ d_H_seed_33
  · refine lv_iconst (v := iI 0) X.1 X.2.1 d_H_seed_12 (by decide) ?_
    exact c_retz hQQ X Y hr hlk (iI_bool (by omega) (by omega)).1 ⟨rfl, S, 0, rfl, ⟨by omega, by omega⟩⟩ d_H_seed_13
set_option maxHeartbeats 4000000 in
set_option maxRecDepth 100000 in
theorem c_H_principal (l : Launch) (D : va_G) (E : cE) (T : cT) (κ : tK) (L : List Nat) (f : pF) (sz : Nat) (h : Nat) (k0 : κ h = (10, 0)) (a1 : Int) (l_a1 : (-2147483648) ≤ a1) (u_a1 : a1 ≤ 2147483647) (hw : tW E T κ L f) : Met l y_H_principal (k_H_principal :: lw_tg) (kRm 8 205 2 64) (va_Pc [.ref h, .int (iI a1)] (kPre D E T L f sz)) (va_Qi (aPi E T [1, 2, 3, 4, 5, 6, 7, 8, 9, 10, 11, 12, 13, 14, 15, 16, 17, 18, 19, 20, 21] [] κ L f (fun (z : Int) (k : tK) (g : pF) => (-2147483648) ≤ z ∧ z ≤ 2147483647)) (cPost D E (pA L sz)) (pA L sz)) 2 64 (pA L sz) := by
  refine k_enter (own := R_H) (by decide) rfl (Nat.le_of_ble_eq_true rfl) (fun p e s m below meth c ls AV QQ H locs hQQ X Y hA hin hr hlk hml hl KS KR => ?_)
  have hl : lv_has ls 5 [(0, .ref h), (1, .int (iI a1))] := hl
  have S : tS E T (tFr κ L [1, 2, 3, 4, 5, 6, 7, 8, 9, 10, 11, 12, 13, 14, 15, 16, 17, 18, 19, 20, 21] []) κ L f κ L f := tS_rf hw
  have hF0 : ∀ b, tFr κ L [1, 2, 3, 4, 5, 6, 7, 8, 9, 10, 11, 12, 13, 14, 15, 16, 17, 18, 19, 20, 21] [] b → b ∈ L := fun b h9 => h9.1
  refine lv_iconst (v := iI 0) X.1 X.2.1 d_H_principal_0 (by decide) ?_
  have J2 : ∀ (n4 : Nat) (z1 : Int) (H : Heap) (locs : List Loc) (ls : Array Slot), (12 - z1).toNat = n4 → (0 ≤ z1) → (z1 ≤ 12) → pH D cCl (pA L sz) s.heap L f H locs → tS E T (tFr κ L [1, 2, 3, 4, 5, 6, 7, 8, 9, 10, 11, 12, 13, 14, 15, 16, 17, 18, 19, 20, 21] []) κ L f κ L f → lv_has ls 5 [(0, .ref h), (1, .int (iI a1)), (2, .int (iI z1))] → W p l e (kRm 8 205 2 64) s m AV below meth c H locs 0 0 QQ (F0 m 2 ls []) := by
    intro n4
    induction n4 using Nat.strongRecOn with
    | ind n4 ih3 =>
      intro z1 H locs ls hm5 l1 u1 Y S hl
      refine lv_iload_n X.1 X.2.1 d_H_principal_2 rfl (lv_at hl 2 rfl) ?_
      refine lv_bipush (v := iI 12) X.1 X.2.1 d_H_principal_3 (by decide) ?_
      have J6 : ∀  (H : Heap) (locs : List Loc) (ls : Array Slot), pH D cCl (pA L sz) s.heap L f H locs → tS E T (tFr κ L [1, 2, 3, 4, 5, 6, 7, 8, 9, 10, 11, 12, 13, 14, 15, 16, 17, 18, 19, 20, 21] []) κ L f κ L f → lv_has ls 5 [(0, .ref h), (1, .int (iI a1)), (2, .int (iI z430))] → W p l e (kRm 8 205 2 64) s m AV below meth c H locs 0 0 QQ (F0 m 26 ls []) := by
        intro  H locs ls  Y S hl
        refine lv_aload_n X.1 X.2.1 d_H_principal_26 rfl (lv_at hl 0 rfl) ?_
        refine t_ni (t_runV (As := []) (rest := []) (n := 0) X Y S k0 hml hl.1 (c_H_passwordPlace l D E T κ L f H.size h k0 S.1) (ok_k X Y hA KS KR) rfl kl_H_H_passwordPlace ks_H_passwordPlace kx_H_passwordPlace ki_H_passwordPlace ini_H ⟨rfl, rfl⟩ hd_H_passwordPlace ⟨Nat.le_of_ble_eq_true rfl, Nat.le_of_ble_eq_true rfl⟩ rfl (Nat.le_of_ble_eq_true rfl) d_H_principal_27 ⟨Nat.le_of_ble_eq_true rfl, Nat.le_of_ble_eq_true rfl⟩) X Y hA S (by decide) (fun z10 f10 H locs Y S s10 p10 => ?_)
        obtain ⟨l10, u10⟩ := p10
        refine lv_istore_n (lv' := [(3, .int (iI z10)), (0, .ref h), (1, .int (iI a1)), (2, .int (iI z430))]) X.1 X.2.1 d_H_principal_30 rfl hl (by decide) rfl (fun ls hl => ?_)
        refine lv_iload_n X.1 X.2.1 d_H_principal_31 rfl (lv_at hl 0 rfl) ?_
        have J11 : ∀  (H : Heap) (locs : List Loc) (ls : Array Slot), pH D cCl (pA L sz) s.heap L f10 H locs → tS E T (tFr κ L [1, 2, 3, 4, 5, 6, 7, 8, 9, 10, 11, 12, 13, 14, 15, 16, 17, 18, 19, 20, 21] []) κ L f κ L f10 → lv_has ls 5 [(0, .ref h), (1, .int (iI a1)), (2, .int (iI z430)), (3, .int (iI z436))] → W p l e (kRm 8 205 2 64) s m AV below meth c H locs 0 0 QQ (F0 m 66 ls []) := by
          intro  H locs ls  Y S hl
          refine lv_iconst (v := iI 0) X.1 X.2.1 d_H_principal_66 (by decide) ?_
          refine lv_istore (lv' := [(4, .int (iI 0)), (0, .ref h), (1, .int (iI a1)), (2, .int (iI z430)), (3, .int (iI z436))]) X.1 X.2.1 d_H_principal_67 hl (by decide) rfl (fun ls hl => ?_)
          refine lv_iload X.1 X.2.1 d_H_principal_69 (lv_at hl 0 rfl) ?_
          have J20 : ∀ (κ16 : tK) (L17 : List Nat) (z19 : Int) (f15 : pF) (H : Heap) (locs : List Loc) (ls : Array Slot), (κ16 h = (10, 0)) → (0 ≤ z19) → (z19 ≤ 1) → pH D cCl (pA L sz) s.heap L17 f15 H locs → tS E T (tFr κ L [1, 2, 3, 4, 5, 6, 7, 8, 9, 10, 11, 12, 13, 14, 15, 16, 17, 18, 19, 20, 21] []) κ L f κ16 L17 f15 → lv_has ls 5 [(0, .ref h), (2, .int (iI z430)), (4, .int (iI z19))] → W p l e (kRm 8 205 2 64) s m AV below meth c H locs 2 64 QQ (F0 m 106 ls []) := by
            intro κ16 L17 z19 f15 H locs ls k18 l19 u19 Y S hl
            refine lv_aload_n X.1 X.2.1 d_H_principal_106 rfl (lv_at hl 0 rfl) ?_
            refine t_getr (ci := 0) X Y S k18 rfl i_H 1 (by decide) rfl (k1 := 13) (k2 := 4000) rfl rfl lk_H_21 (fun _ h9 => h9) d_H_principal_107 (fun b24 e24 k24 => ?_)
            refine t_nv (t_runV (As := []) (rest := []) (n := 0) X Y S k24 hml hl.1 (c_By_clear l D E T κ16 L17 f15 H.size b24 4000 k24 (by omega) S.1) (ok_k X Y hA KS KR) rfl kl_H_By_clear ks_By_clear kx_By_clear ki_By_clear ini_By ⟨rfl, rfl⟩ hd_By_clear ⟨Nat.le_of_ble_eq_true rfl, Nat.le_of_ble_eq_true rfl⟩ rfl (Nat.le_of_ble_eq_true rfl) d_H_principal_110 ⟨Nat.le_of_ble_eq_true rfl, Nat.le_of_ble_eq_true rfl⟩) X Y hA S (by decide) (fun f25 H locs Y S s25 p25 => ?_)
            refine lv_iload X.1 X.2.1 d_H_principal_113 (lv_at hl 2 rfl) ?_
            refine z_if_eq (tgt := 122) X.1 X.2.1 d_H_principal_115 (by decide) ⟨by omega, by omega⟩ (fun h26 => ?_) (fun h26 => ?_)
            · refine lv_iconst (v := iI (-1)) X.1 X.2.1 d_H_principal_122 (by decide) ?_
              exact c_reti hQQ X Y hr hlk ⟨κ16, S, (-1), rfl, ⟨by omega, by omega⟩⟩ d_H_principal_123
            · refine lv_iload_n X.1 X.2.1 d_H_principal_118 rfl (lv_at hl 1 rfl) ?_
              refine lv_goto (tgt := 123) X.1 X.2.1 d_H_principal_119 (by decide) ?_
              exact c_reti hQQ X Y hr hlk ⟨κ16, S, z430, rfl, ⟨by omega, by omega⟩⟩ d_H_principal_123
          refine z_if_eq (tgt := 106) X.1 X.2.1 d_H_principal_71 (by decide) ⟨by omega, by omega⟩ (fun h27 => ?_) (fun h27 => False.elim (by omega))
          · refine W.widen (k := 2) (n := 64) (Nat.le_of_ble_eq_true rfl) (Nat.le_of_ble_eq_true rfl) ?_
            exact J20 κ L 0 f10 _ _ _ k0 (by omega) (by omega) Y S (lv_sub hl [1, 3, 0] rfl)
        refine z_if_lt (tgt := 66) X.1 X.2.1 d_H_principal_32 (by decide) ⟨by omega, by omega⟩ (fun h28 => ?_) (fun h28 => ?_)
        · exact J11  _ _ _  Y S (lv_sub hl [1, 2, 3, 0] rfl)
        · refine lv_iload_n X.1 X.2.1 d_H_principal_35 rfl (lv_at hl 2 rfl) ?_
          refine t_ui (x_runS (As := [.int (iI a1)]) (rest := []) (n := 1) X hml hl.1 (c_H_isRounds l D E T κ L f10 H.size a1 (by omega) (by omega) S.1) (ok_k X Y hA KS KR) kl_H_H_isRounds ks_H_isRounds ki_H_isRounds ini_H ⟨rfl, rfl⟩ hd_H_isRounds.2 ⟨Nat.le_of_ble_eq_true rfl, Nat.le_of_ble_eq_true rfl⟩ rfl (Nat.le_of_ble_eq_true rfl) d_H_principal_36 ⟨Nat.le_of_ble_eq_true rfl, Nat.le_of_ble_eq_true rfl⟩) X Y hA (fun z29 H locs Y p29 => ?_)
          obtain ⟨l29, u29⟩ := p29
          refine z_if_eq (tgt := 66) X.1 X.2.1 d_H_principal_39 (by decide) ⟨by omega, by omega⟩ (fun h30 => ?_) (fun h30 => ?_)
          · exact J11  _ _ _  Y S (lv_sub hl [1, 2, 3, 0] rfl)
          · refine lv_iload_n X.1 X.2.1 d_H_principal_42 rfl (lv_at hl 3 rfl) ?_
            refine lv_bipush (v := iI 12) X.1 X.2.1 d_H_principal_43 (by decide) ?_
            refine z_icmp_ge (tgt := 66) X.1 X.2.1 d_H_principal_45 (by decide) ⟨by omega, by omega⟩ ⟨by omega, by omega⟩ (fun h31 => ?_) (fun h31 => ?_)
            · exact J11  _ _ _  Y S (lv_sub hl [1, 2, 3, 0] rfl)
            · refine lv_aload_n X.1 X.2.1 d_H_principal_48 rfl (lv_at hl 1 rfl) ?_
              refine t_getr (ci := 0) X Y S k0 rfl i_H 4 (by decide) rfl (k1 := 5) (k2 := 12) rfl rfl lk_H_42 (fun _ h9 => h9) d_H_principal_49 (fun b32 e32 k32 => ?_)
              refine lv_aload_n X.1 X.2.1 d_H_principal_52 rfl (lv_at hl 1 rfl) ?_
              refine t_getr (ci := 0) X Y S k0 rfl i_H 3 (by decide) rfl (k1 := 13) (k2 := 40) rfl rfl lk_H_28 (fun _ h9 => h9) d_H_principal_53 (fun b33 e33 k33 => ?_)
              refine t_ui (x_runS (As := [.ref b32, .ref b33]) (rest := []) (n := 2) X hml hl.1 (c_Pr_findParts l D E T κ L f10 H.size b32 k32 b33 40 k33 (by omega) S.1) (ok_k X Y hA KS KR) kl_H_Pr_findParts ks_Pr_findParts ki_Pr_findParts ini_Pr ⟨rfl, rfl⟩ hd_Pr_findParts.2 ⟨Nat.le_of_ble_eq_true rfl, Nat.le_of_ble_eq_true rfl⟩ rfl (Nat.le_of_ble_eq_true rfl) d_H_principal_56 ⟨Nat.le_of_ble_eq_true rfl, Nat.le_of_ble_eq_true rfl⟩) X Y hA (fun z34 H locs Y p34 => ?_)
              obtain ⟨l34, u34⟩ := p34
              refine z_if_ge (tgt := 66) X.1 X.2.1 d_H_principal_59 (by decide) ⟨by omega, by omega⟩ (fun h35 => ?_) (fun h35 => ?_)
              · exact J11  _ _ _  Y S (lv_sub hl [1, 2, 3, 0] rfl)
              · refine lv_iconst (v := iI 1) X.1 X.2.1 d_H_principal_62 (by decide) ?_
                refine lv_goto (tgt := 67) X.1 X.2.1 d_H_principal_63 (by decide) ?_
                refine lv_istore (lv' := [(4, .int (iI 1)), (3, .int (iI z10)), (0, .ref h), (1, .int (iI a1)), (2, .int (iI z430))]) X.1 X.2.1 d_H_principal_67 hl (by decide) rfl (fun ls hl => ?_)
                refine lv_iload X.1 X.2.1 d_H_principal_69 (lv_at hl 0 rfl) ?_
                have J41 : ∀ (κ37 : tK) (L38 : List Nat) (z40 : Int) (f36 : pF) (H : Heap) (locs : List Loc) (ls : Array Slot), (κ37 h = (10, 0)) → (0 ≤ z40) → (z40 ≤ 1) → pH D cCl (pA L sz) s.heap L38 f36 H locs → tS E T (tFr κ L [1, 2, 3, 4, 5, 6, 7, 8, 9, 10, 11, 12, 13, 14, 15, 16, 17, 18, 19, 20, 21] []) κ L f κ37 L38 f36 → lv_has ls 5 [(0, .ref h), (2, .int (iI z430)), (4, .int (iI z40))] → W p l e (kRm 8 205 2 64) s m AV below meth c H locs 2 64 QQ (F0 m 106 ls []) := by
                  intro κ37 L38 z40 f36 H locs ls k39 l40 u40 Y S hl
                  refine lv_aload_n X.1 X.2.1 d_H_principal_106 rfl (lv_at hl 0 rfl) ?_
                  refine t_getr (ci := 0) X Y S k39 rfl i_H 1 (by decide) rfl (k1 := 13) (k2 := 4000) rfl rfl lk_H_21 (fun _ h9 => h9) d_H_principal_107 (fun b45 e45 k45 => ?_)
                  refine t_nv (t_runV (As := []) (rest := []) (n := 0) X Y S k45 hml hl.1 (c_By_clear l D E T κ37 L38 f36 H.size b45 4000 k45 (by omega) S.1) (ok_k X Y hA KS KR) rfl kl_H_By_clear ks_By_clear kx_By_clear ki_By_clear ini_By ⟨rfl, rfl⟩ hd_By_clear ⟨Nat.le_of_ble_eq_true rfl, Nat.le_of_ble_eq_true rfl⟩ rfl (Nat.le_of_ble_eq_true rfl) d_H_principal_110 ⟨Nat.le_of_ble_eq_true rfl, Nat.le_of_ble_eq_true rfl⟩) X Y hA S (by decide) (fun f46 H locs Y S s46 p46 => ?_)
                  refine lv_iload X.1 X.2.1 d_H_principal_113 (lv_at hl 2 rfl) ?_
                  refine z_if_eq (tgt := 122) X.1 X.2.1 d_H_principal_115 (by decide) ⟨by omega, by omega⟩ (fun h47 => ?_) (fun h47 => ?_)
                  · refine lv_iconst (v := iI (-1)) X.1 X.2.1 d_H_principal_122 (by decide) ?_
                    exact c_reti hQQ X Y hr hlk ⟨κ37, S, (-1), rfl, ⟨by omega, by omega⟩⟩ d_H_principal_123
                  · refine lv_iload_n X.1 X.2.1 d_H_principal_118 rfl (lv_at hl 1 rfl) ?_
                    refine lv_goto (tgt := 123) X.1 X.2.1 d_H_principal_119 (by decide) ?_
                    exact c_reti hQQ X Y hr hlk ⟨κ37, S, z430, rfl, ⟨by omega, by omega⟩⟩ d_H_principal_123
                refine z_if_eq (tgt := 106) X.1 X.2.1 d_H_principal_71 (by decide) ⟨by omega, by omega⟩ (fun h48 => False.elim (by omega)) (fun h48 => ?_)
                · refine lv_aload_n X.1 X.2.1 d_H_principal_74 rfl (lv_at hl 2 rfl) ?_
                  refine t_get0 (ci := 0) X Y S k0 rfl i_H 4 (by decide) rfl lk_H_42 (fun _ h9 => h9) d_H_principal_75 e32 ?_
                  refine lv_iload_n X.1 X.2.1 d_H_principal_78 rfl (lv_at hl 4 rfl) ?_
                  refine t_aald X Y S k32 (fun h9 => h9) (t0 := 2) rfl (by omega) (by omega) (by omega) d_H_principal_79 (fun b49 e49 k49 => ?_)
                  refine lv_aload_n X.1 X.2.1 d_H_principal_80 rfl (lv_at hl 2 rfl) ?_
                  refine t_get0 (ci := 0) X Y S k0 rfl i_H 3 (by decide) rfl lk_H_28 (fun _ h9 => h9) d_H_principal_81 e33 ?_
                  refine t_nv (t_runV (As := [.ref b33]) (rest := []) (n := 1) X Y S k49 hml hl.1 (c_Pr_begin l D E T κ L f10 H.size b49 k49 b33 40 k33 (by omega) S.1) (ok_k X Y hA KS KR) rfl kl_H_Pr_begin ks_Pr_begin kx_Pr_begin ki_Pr_begin ini_Pr ⟨rfl, rfl⟩ hd_Pr_begin ⟨Nat.le_of_ble_eq_true rfl, Nat.le_of_ble_eq_true rfl⟩ rfl (Nat.le_of_ble_eq_true rfl) d_H_principal_84 ⟨Nat.le_of_ble_eq_true rfl, Nat.le_of_ble_eq_true rfl⟩) X Y hA S (by decide) (fun f50 H locs Y S s50 p50 => ?_)
                  refine lv_aload_n X.1 X.2.1 d_H_principal_87 rfl (lv_at hl 2 rfl) ?_
                  refine t_get0 (ci := 0) X Y S k0 rfl i_H 4 (by decide) rfl lk_H_42 (fun _ h9 => h9) d_H_principal_88 ((gF_same (s50.2.2.2 _ ⟨(t_obj S.1 k0).1, by rw [k0]; decide, by simp⟩).1 4).trans e32) ?_
                  refine lv_iload_n X.1 X.2.1 d_H_principal_91 rfl (lv_at hl 4 rfl) ?_
                  refine t_aald X Y S k32 (fun h9 => h9) (t0 := 2) rfl (by omega) (by omega) (by omega) d_H_principal_92 (fun b51 e51 k51 => ?_)
                  refine lv_aload_n X.1 X.2.1 d_H_principal_93 rfl (lv_at hl 2 rfl) ?_
                  refine t_getr (ci := 0) X Y S k0 rfl i_H 0 (by decide) rfl (k1 := 21) (k2 := 0) rfl rfl lk_H_12 (fun _ h9 => h9) d_H_principal_94 (fun b52 e52 k52 => ?_)
                  refine lv_aload_n X.1 X.2.1 d_H_principal_97 rfl (lv_at hl 2 rfl) ?_
                  refine t_getr (ci := 0) X Y S k0 rfl i_H 1 (by decide) rfl (k1 := 13) (k2 := 4000) rfl rfl lk_H_21 (fun _ h9 => h9) d_H_principal_98 (fun b53 e53 k53 => ?_)
                  refine lv_iload_n X.1 X.2.1 d_H_principal_101 rfl (lv_at hl 1 rfl) ?_
                  refine lv_iload_n X.1 X.2.1 d_H_principal_102 rfl (lv_at hl 3 rfl) ?_
                  refine t_av (t_runV (As := [.ref b52, .ref b53, .int (iI z10), .int (iI a1)]) (rest := []) (n := 4) X Y S k51 hml hl.1 (c_Pr_rekey l D E T κ L f50 H.size b51 k51 b52 k52 b53 4000 k53 (by omega) z10 (by omega) (by omega) a1 (by omega) (by omega) S.1) (ok_k X Y hA KS KR) rfl kl_H_Pr_rekey ks_Pr_rekey kx_Pr_rekey ki_Pr_rekey ini_Pr ⟨rfl, rfl⟩ hd_Pr_rekey ⟨Nat.le_of_ble_eq_true rfl, Nat.le_of_ble_eq_true rfl⟩ rfl (Nat.le_of_ble_eq_true rfl) d_H_principal_103 ⟨Nat.le_of_ble_eq_true rfl, Nat.le_of_ble_eq_true rfl⟩) X Y hA S (by decide) (fun κ54 L54 f54 H locs Y S s54 p54 => ?_)
                  have k55 : κ54 h = (10, 0) := tLe_k s54.2.2.1 k0
                  exact J41 κ54 L54 1 f54 _ _ _ k55 (by omega) (by omega) Y S (lv_sub hl [2, 4, 0] rfl)
      refine z_icmp_ge (tgt := 26) X.1 X.2.1 d_H_principal_5 (by decide) ⟨by omega, by omega⟩ ⟨by omega, by omega⟩ (fun h56 => ?_) (fun h56 => ?_)
      · exact J6  _ _ _  Y S (lv_sub hl [0, 1, 2] rfl)
      · refine lv_aload_n X.1 X.2.1 d_H_principal_8 rfl (lv_at hl 0 rfl) ?_
        refine t_getr (ci := 0) X Y S k0 rfl i_H 4 (by decide) rfl (k1 := 5) (k2 := 12) rfl rfl lk_H_42 (fun _ h9 => h9) d_H_principal_9 (fun b57 e57 k57 => ?_)
        refine lv_iload_n X.1 X.2.1 d_H_principal_12 rfl (lv_at hl 2 rfl) ?_
        refine t_aald X Y S k57 (fun h9 => h9) (t0 := 2) rfl (by omega) (by omega) (by omega) d_H_principal_13 (fun b58 e58 k58 => ?_)
        refine t_geti (ci := 7) X Y S k58 rfl i_Pr 2 (by decide) rfl lk_H_116 (fun _ h9 => h9) d_H_principal_14 (fun z59 e59 l59 u59 => ?_)
        refine z_if_eq (tgt := 26) X.1 X.2.1 d_H_principal_17 (by decide) ⟨by omega, by omega⟩ (fun h60 => ?_) (fun h60 => ?_)
        · exact J6  _ _ _  Y S (lv_sub hl [0, 1, 2] rfl)
        · refine lv_iinc (v := iI (z1 + 1)) (lv' := [(2, .int (iI (z1 + 1))), (0, .ref h), (1, .int (iI a1))]) X.1 X.2.1 d_H_principal_20 hl (k := 2) rfl ((iI_add _ _).trans (congrArg iI (by omega))) (by decide) rfl (fun ls hl => ?_)
          refine lv_goto (tgt := 2) X.1 X.2.1 d_H_principal_23 (by decide) ?_
          exact ih3 ((12 - (z1 + 1)).toNat) (by omega) (z1 + 1) _ _ _ rfl (by omega) (by omega) Y S (lv_sub hl [1, 2, 0] rfl)
  refine lv_istore_n (lv' := [(2, .int (iI 0)), (0, .ref h), (1, .int (iI a1))]) X.1 X.2.1 d_H_principal_1 rfl hl (by decide) rfl (fun ls hl => ?_)
  exact J2 _ 0 _ _ _ rfl (by omega) (by omega) Y S (lv_sub hl [1, 2, 0] rfl)
set_option maxHeartbeats 4000000 in
set_option maxRecDepth 100000 in
theorem c_H_change (l : Launch) (D : va_G) (E : cE) (T : cT) (κ : tK) (L : List Nat) (f : pF) (sz : Nat) (h : Nat) (k0 : κ h = (10, 0)) (a1 : Int) (l_a1 : (-2147483648) ≤ a1) (u_a1 : a1 ≤ 2147483647) (a2 : Int) (l_a2 : (-2147483648) ≤ a2) (u_a2 : a2 ≤ 2147483647) (hw : tW E T κ L f) : Met l y_H_change (k_H_change :: lw_tg) (kRm 8 205 2 64) (va_Pc [.ref h, .int (iI a1), .int (iI a2)] (kPre D E T L f sz)) (va_Qi (aPi E T [1, 2, 3, 4, 5, 6, 7, 8, 9, 10, 11, 12, 13, 14, 15, 16, 17, 18, 19, 20, 21] [] κ L f (fun (z : Int) (k : tK) (g : pF) => (-2147483648) ≤ z ∧ z ≤ 2147483647)) (cPost D E (pA L sz)) (pA L sz)) 2 64 (pA L sz) := by
  refine k_enter (own := R_H) (by decide) rfl (Nat.le_of_ble_eq_true rfl) (fun p e s m below meth c ls AV QQ H locs hQQ X Y hA hin hr hlk hml hl KS KR => ?_)
  have hl : lv_has ls 4 [(0, .ref h), (1, .int (iI a1)), (2, .int (iI a2))] := hl
  have S : tS E T (tFr κ L [1, 2, 3, 4, 5, 6, 7, 8, 9, 10, 11, 12, 13, 14, 15, 16, 17, 18, 19, 20, 21] []) κ L f κ L f := tS_rf hw
  have hF0 : ∀ b, tFr κ L [1, 2, 3, 4, 5, 6, 7, 8, 9, 10, 11, 12, 13, 14, 15, 16, 17, 18, 19, 20, 21] [] b → b ∈ L := fun b h9 => h9.1
  refine lv_aload_n X.1 X.2.1 d_H_change_0 rfl (lv_at hl 0 rfl) ?_
  refine lv_iload_n X.1 X.2.1 d_H_change_1 rfl (lv_at hl 1 rfl) ?_
  refine t_ui (t_runV (As := [.int (iI a1)]) (rest := []) (n := 1) X Y S k0 hml hl.1 (c_H_isPrincipal l D E T κ L f H.size h k0 a1 (by omega) (by omega) S.1) (ok_k X Y hA KS KR) rfl kl_H_H_isPrincipal ks_H_isPrincipal kx_H_isPrincipal ki_H_isPrincipal ini_H ⟨rfl, rfl⟩ hd_H_isPrincipal ⟨Nat.le_of_ble_eq_true rfl, Nat.le_of_ble_eq_true rfl⟩ rfl (Nat.le_of_ble_eq_true rfl) d_H_change_2 ⟨Nat.le_of_ble_eq_true rfl, Nat.le_of_ble_eq_true rfl⟩) X Y hA (fun z1 H locs Y p1 => ?_)
  obtain ⟨l1, u1, x1⟩ := p1
  have J2 : ∀  (H : Heap) (locs : List Loc) (ls : Array Slot), pH D cCl (pA L sz) s.heap L f H locs → tS E T (tFr κ L [1, 2, 3, 4, 5, 6, 7, 8, 9, 10, 11, 12, 13, 14, 15, 16, 17, 18, 19, 20, 21] []) κ L f κ L f → lv_has ls 4 [(0, .ref h), (1, .int (iI a1)), (2, .int (iI a2))] → W p l e (kRm 8 205 2 64) s m AV below meth c H locs 0 0 QQ (F0 m 27 ls []) := by
    intro  H locs ls  Y S hl
    refine lv_iconst (v := iI 0) X.1 X.2.1 d_H_change_27 (by decide) ?_
    refine lv_istore_n (lv' := [(3, .int (iI 0)), (0, .ref h), (1, .int (iI a1)), (2, .int (iI a2))]) X.1 X.2.1 d_H_change_28 rfl hl (by decide) rfl (fun ls hl => ?_)
    refine lv_iload_n X.1 X.2.1 d_H_change_29 rfl (lv_at hl 0 rfl) ?_
    have J11 : ∀ (κ7 : tK) (L8 : List Nat) (z10 : Int) (f6 : pF) (H : Heap) (locs : List Loc) (ls : Array Slot), (κ7 h = (10, 0)) → (0 ≤ z10) → (z10 ≤ 1) → pH D cCl (pA L sz) s.heap L8 f6 H locs → tS E T (tFr κ L [1, 2, 3, 4, 5, 6, 7, 8, 9, 10, 11, 12, 13, 14, 15, 16, 17, 18, 19, 20, 21] []) κ L f κ7 L8 f6 → lv_has ls 4 [(0, .ref h), (1, .int (iI a1)), (3, .int (iI z10))] → W p l e (kRm 8 205 2 64) s m AV below meth c H locs 2 64 QQ (F0 m 52 ls []) := by
      intro κ7 L8 z10 f6 H locs ls k9 l10 u10 Y S hl
      refine lv_aload_n X.1 X.2.1 d_H_change_52 rfl (lv_at hl 0 rfl) ?_
      refine t_getr (ci := 0) X Y S k9 rfl i_H 1 (by decide) rfl (k1 := 13) (k2 := 4000) rfl rfl lk_H_21 (fun _ h9 => h9) d_H_change_53 (fun b15 e15 k15 => ?_)
      refine t_nv (t_runV (As := []) (rest := []) (n := 0) X Y S k15 hml hl.1 (c_By_clear l D E T κ7 L8 f6 H.size b15 4000 k15 (by omega) S.1) (ok_k X Y hA KS KR) rfl kl_H_By_clear ks_By_clear kx_By_clear ki_By_clear ini_By ⟨rfl, rfl⟩ hd_By_clear ⟨Nat.le_of_ble_eq_true rfl, Nat.le_of_ble_eq_true rfl⟩ rfl (Nat.le_of_ble_eq_true rfl) d_H_change_56 ⟨Nat.le_of_ble_eq_true rfl, Nat.le_of_ble_eq_true rfl⟩) X Y hA S (by decide) (fun f16 H locs Y S s16 p16 => ?_)
      refine lv_iload_n X.1 X.2.1 d_H_change_59 rfl (lv_at hl 2 rfl) ?_
      refine z_if_eq (tgt := 75) X.1 X.2.1 d_H_change_60 (by decide) ⟨by omega, by omega⟩ (fun h17 => ?_) (fun h17 => ?_)
      · refine lv_iconst (v := iI (-1)) X.1 X.2.1 d_H_change_75 (by decide) ?_
        exact c_reti hQQ X Y hr hlk ⟨κ7, S, (-1), rfl, ⟨by omega, by omega⟩⟩ d_H_change_76
      · refine lv_aload_n X.1 X.2.1 d_H_change_63 rfl (lv_at hl 0 rfl) ?_
        refine t_getr (ci := 0) X Y S k9 rfl i_H 4 (by decide) rfl (k1 := 5) (k2 := 12) rfl rfl lk_H_42 (fun _ h9 => h9) d_H_change_64 (fun b18 e18 k18 => ?_)
        refine lv_iload_n X.1 X.2.1 d_H_change_67 rfl (lv_at hl 1 rfl) ?_
        refine t_aald X Y S k18 (fun h9 => h9) (t0 := 2) rfl (by omega) (by omega) (by omega) d_H_change_68 (fun b19 e19 k19 => ?_)
        refine t_geti (ci := 7) X Y S k19 rfl i_Pr 3 (by decide) rfl lk_H_138 (fun _ h9 => h9) d_H_change_69 (fun z20 e20 l20 u20 => ?_)
        refine lv_goto (tgt := 76) X.1 X.2.1 d_H_change_72 (by decide) ?_
        exact c_reti hQQ X Y hr hlk ⟨κ7, S, z20, rfl, ⟨by omega, by omega⟩⟩ d_H_change_76
    refine z_if_eq (tgt := 52) X.1 X.2.1 d_H_change_30 (by decide) ⟨by omega, by omega⟩ (fun h21 => ?_) (fun h21 => False.elim (by omega))
    · refine W.widen (k := 2) (n := 64) (Nat.le_of_ble_eq_true rfl) (Nat.le_of_ble_eq_true rfl) ?_
      exact J11 κ L 0 f _ _ _ k0 (by omega) (by omega) Y S (lv_sub hl [1, 2, 0] rfl)
  refine z_if_eq (tgt := 27) X.1 X.2.1 d_H_change_5 (by decide) ⟨by omega, by omega⟩ (fun h22 => ?_) (fun h22 => ?_)
  · exact J2  _ _ _  Y S (lv_sub hl [0, 1, 2] rfl)
  · refine lv_iload_n X.1 X.2.1 d_H_change_8 rfl (lv_at hl 2 rfl) ?_
    refine t_ui (x_runS (As := [.int (iI a2)]) (rest := []) (n := 1) X hml hl.1 (c_H_isRounds l D E T κ L f H.size a2 (by omega) (by omega) S.1) (ok_k X Y hA KS KR) kl_H_H_isRounds ks_H_isRounds ki_H_isRounds ini_H ⟨rfl, rfl⟩ hd_H_isRounds.2 ⟨Nat.le_of_ble_eq_true rfl, Nat.le_of_ble_eq_true rfl⟩ rfl (Nat.le_of_ble_eq_true rfl) d_H_change_9 ⟨Nat.le_of_ble_eq_true rfl, Nat.le_of_ble_eq_true rfl⟩) X Y hA (fun z23 H locs Y p23 => ?_)
    obtain ⟨l23, u23⟩ := p23
    refine z_if_eq (tgt := 27) X.1 X.2.1 d_H_change_12 (by decide) ⟨by omega, by omega⟩ (fun h24 => ?_) (fun h24 => ?_)
    · exact J2  _ _ _  Y S (lv_sub hl [0, 1, 2] rfl)
    · refine lv_aload_n X.1 X.2.1 d_H_change_15 rfl (lv_at hl 0 rfl) ?_
      refine lv_iconst (v := iI 0) X.1 X.2.1 d_H_change_16 (by decide) ?_
      refine t_ui (t_runV (As := [.int (iI 0)]) (rest := []) (n := 1) X Y S k0 hml hl.1 (c_H_isPassword l D E T κ L f H.size h k0 0 (by omega) (by omega) S.1) (ok_k X Y hA KS KR) rfl kl_H_H_isPassword ks_H_isPassword kx_H_isPassword ki_H_isPassword ini_H ⟨rfl, rfl⟩ hd_H_isPassword ⟨Nat.le_of_ble_eq_true rfl, Nat.le_of_ble_eq_true rfl⟩ rfl (Nat.le_of_ble_eq_true rfl) d_H_change_17 ⟨Nat.le_of_ble_eq_true rfl, Nat.le_of_ble_eq_true rfl⟩) X Y hA (fun z25 H locs Y p25 => ?_)
      obtain ⟨l25, u25⟩ := p25
      refine z_if_eq (tgt := 27) X.1 X.2.1 d_H_change_20 (by decide) ⟨by omega, by omega⟩ (fun h26 => ?_) (fun h26 => ?_)
      · exact J2  _ _ _  Y S (lv_sub hl [0, 1, 2] rfl)
      · refine lv_iconst (v := iI 1) X.1 X.2.1 d_H_change_23 (by decide) ?_
        refine lv_goto (tgt := 28) X.1 X.2.1 d_H_change_24 (by decide) ?_
        refine lv_istore_n (lv' := [(3, .int (iI 1)), (0, .ref h), (1, .int (iI a1)), (2, .int (iI a2))]) X.1 X.2.1 d_H_change_28 rfl hl (by decide) rfl (fun ls hl => ?_)
        refine lv_iload_n X.1 X.2.1 d_H_change_29 rfl (lv_at hl 0 rfl) ?_
        have J32 : ∀ (κ28 : tK) (L29 : List Nat) (z31 : Int) (f27 : pF) (H : Heap) (locs : List Loc) (ls : Array Slot), (κ28 h = (10, 0)) → (0 ≤ z31) → (z31 ≤ 1) → pH D cCl (pA L sz) s.heap L29 f27 H locs → tS E T (tFr κ L [1, 2, 3, 4, 5, 6, 7, 8, 9, 10, 11, 12, 13, 14, 15, 16, 17, 18, 19, 20, 21] []) κ L f κ28 L29 f27 → lv_has ls 4 [(0, .ref h), (1, .int (iI a1)), (3, .int (iI z31))] → W p l e (kRm 8 205 2 64) s m AV below meth c H locs 2 64 QQ (F0 m 52 ls []) := by
          intro κ28 L29 z31 f27 H locs ls k30 l31 u31 Y S hl
          refine lv_aload_n X.1 X.2.1 d_H_change_52 rfl (lv_at hl 0 rfl) ?_
          refine t_getr (ci := 0) X Y S k30 rfl i_H 1 (by decide) rfl (k1 := 13) (k2 := 4000) rfl rfl lk_H_21 (fun _ h9 => h9) d_H_change_53 (fun b36 e36 k36 => ?_)
          refine t_nv (t_runV (As := []) (rest := []) (n := 0) X Y S k36 hml hl.1 (c_By_clear l D E T κ28 L29 f27 H.size b36 4000 k36 (by omega) S.1) (ok_k X Y hA KS KR) rfl kl_H_By_clear ks_By_clear kx_By_clear ki_By_clear ini_By ⟨rfl, rfl⟩ hd_By_clear ⟨Nat.le_of_ble_eq_true rfl, Nat.le_of_ble_eq_true rfl⟩ rfl (Nat.le_of_ble_eq_true rfl) d_H_change_56 ⟨Nat.le_of_ble_eq_true rfl, Nat.le_of_ble_eq_true rfl⟩) X Y hA S (by decide) (fun f37 H locs Y S s37 p37 => ?_)
          refine lv_iload_n X.1 X.2.1 d_H_change_59 rfl (lv_at hl 2 rfl) ?_
          refine z_if_eq (tgt := 75) X.1 X.2.1 d_H_change_60 (by decide) ⟨by omega, by omega⟩ (fun h38 => ?_) (fun h38 => ?_)
          · refine lv_iconst (v := iI (-1)) X.1 X.2.1 d_H_change_75 (by decide) ?_
            exact c_reti hQQ X Y hr hlk ⟨κ28, S, (-1), rfl, ⟨by omega, by omega⟩⟩ d_H_change_76
          · refine lv_aload_n X.1 X.2.1 d_H_change_63 rfl (lv_at hl 0 rfl) ?_
            refine t_getr (ci := 0) X Y S k30 rfl i_H 4 (by decide) rfl (k1 := 5) (k2 := 12) rfl rfl lk_H_42 (fun _ h9 => h9) d_H_change_64 (fun b39 e39 k39 => ?_)
            refine lv_iload_n X.1 X.2.1 d_H_change_67 rfl (lv_at hl 1 rfl) ?_
            refine t_aald X Y S k39 (fun h9 => h9) (t0 := 2) rfl (by omega) (by omega) (by omega) d_H_change_68 (fun b40 e40 k40 => ?_)
            refine t_geti (ci := 7) X Y S k40 rfl i_Pr 3 (by decide) rfl lk_H_138 (fun _ h9 => h9) d_H_change_69 (fun z41 e41 l41 u41 => ?_)
            refine lv_goto (tgt := 76) X.1 X.2.1 d_H_change_72 (by decide) ?_
            exact c_reti hQQ X Y hr hlk ⟨κ28, S, z41, rfl, ⟨by omega, by omega⟩⟩ d_H_change_76
        refine z_if_eq (tgt := 52) X.1 X.2.1 d_H_change_30 (by decide) ⟨by omega, by omega⟩ (fun h42 => False.elim (by omega)) (fun h42 => ?_)
        · refine lv_aload_n X.1 X.2.1 d_H_change_33 rfl (lv_at hl 1 rfl) ?_
          refine t_getr (ci := 0) X Y S k0 rfl i_H 4 (by decide) rfl (k1 := 5) (k2 := 12) rfl rfl lk_H_42 (fun _ h9 => h9) d_H_change_34 (fun b43 e43 k43 => ?_)
          refine lv_iload_n X.1 X.2.1 d_H_change_37 rfl (lv_at hl 2 rfl) ?_
          refine t_aald X Y S k43 (fun h9 => h9) (t0 := 2) rfl (by omega) (by omega) (by omega) d_H_change_38 (fun b44 e44 k44 => ?_)
          refine lv_aload_n X.1 X.2.1 d_H_change_39 rfl (lv_at hl 1 rfl) ?_
          refine t_getr (ci := 0) X Y S k0 rfl i_H 0 (by decide) rfl (k1 := 21) (k2 := 0) rfl rfl lk_H_12 (fun _ h9 => h9) d_H_change_40 (fun b45 e45 k45 => ?_)
          refine lv_aload_n X.1 X.2.1 d_H_change_43 rfl (lv_at hl 1 rfl) ?_
          refine t_getr (ci := 0) X Y S k0 rfl i_H 1 (by decide) rfl (k1 := 13) (k2 := 4000) rfl rfl lk_H_21 (fun _ h9 => h9) d_H_change_44 (fun b46 e46 k46 => ?_)
          refine lv_iconst (v := iI 0) X.1 X.2.1 d_H_change_47 (by decide) ?_
          refine lv_iload_n X.1 X.2.1 d_H_change_48 rfl (lv_at hl 3 rfl) ?_
          refine t_av (t_runV (As := [.ref b45, .ref b46, .int (iI 0), .int (iI a2)]) (rest := []) (n := 4) X Y S k44 hml hl.1 (c_Pr_rekey l D E T κ L f H.size b44 k44 b45 k45 b46 4000 k46 (by omega) 0 (by omega) (by omega) a2 (by omega) (by omega) S.1) (ok_k X Y hA KS KR) rfl kl_H_Pr_rekey ks_Pr_rekey kx_Pr_rekey ki_Pr_rekey ini_Pr ⟨rfl, rfl⟩ hd_Pr_rekey ⟨Nat.le_of_ble_eq_true rfl, Nat.le_of_ble_eq_true rfl⟩ rfl (Nat.le_of_ble_eq_true rfl) d_H_change_49 ⟨Nat.le_of_ble_eq_true rfl, Nat.le_of_ble_eq_true rfl⟩) X Y hA S (by decide) (fun κ47 L47 f47 H locs Y S s47 p47 => ?_)
          have k48 : κ47 h = (10, 0) := tLe_k s47.2.2.1 k0
          exact J32 κ47 L47 1 f47 _ _ _ k48 (by omega) (by omega) Y S (lv_sub hl [1, 2, 0] rfl)
set_option maxHeartbeats 4000000 in
set_option maxRecDepth 100000 in
theorem c_H_policy (l : Launch) (D : va_G) (E : cE) (T : cT) (κ : tK) (L : List Nat) (f : pF) (sz : Nat) (h : Nat) (k0 : κ h = (10, 0)) (a1 : Int) (l_a1 : (-2147483648) ≤ a1) (u_a1 : a1 ≤ 2147483647) (a2 : Int) (l_a2 : (-2147483648) ≤ a2) (u_a2 : a2 ≤ 2147483647) (a3 : Int) (l_a3 : (-2147483648) ≤ a3) (u_a3 : a3 ≤ 2147483647) (hw : tW E T κ L f) : Met l y_H_policy (k_H_policy :: lw_tg) (kRm 2 82 0 0) (va_Pc [.ref h, .int (iI a1), .int (iI a2), .int (iI a3)] (kPre D E T L f sz)) (va_Qi (nPi E T [17] κ L f (fun (z : Int) (g : pF) => 0 ≤ z ∧ z ≤ 1)) (cPost D E (pA L sz)) (pA L sz)) 0 0 (pA L sz) := by
  refine k_enter (own := R_H) (by decide) rfl (Nat.le_of_ble_eq_true rfl) (fun p e s m below meth c ls AV QQ H locs hQQ X Y hA hin hr hlk hml hl KS KR => ?_)
  have hl : lv_has ls 4 [(0, .ref h), (1, .int (iI a1)), (2, .int (iI a2)), (3, .int (iI a3))] := hl
  have S : tS E T (tFr κ L [17] []) κ L f κ L f := tS_rf hw
  refine lv_aload_n X.1 X.2.1 d_H_policy_0 rfl (lv_at hl 0 rfl) ?_
  refine lv_iload_n X.1 X.2.1 d_H_policy_1 rfl (lv_at hl 1 rfl) ?_
  refine t_ui (t_runV (As := [.int (iI a1)]) (rest := []) (n := 1) X Y S k0 hml hl.1 (c_H_isPrincipal l D E T κ L f H.size h k0 a1 (by omega) (by omega) S.1) (ok_k X Y hA KS KR) rfl kl_H_H_isPrincipal ks_H_isPrincipal kx_H_isPrincipal ki_H_isPrincipal ini_H ⟨rfl, rfl⟩ hd_H_isPrincipal ⟨Nat.le_of_ble_eq_true rfl, Nat.le_of_ble_eq_true rfl⟩ rfl (Nat.le_of_ble_eq_true rfl) d_H_policy_2 ⟨Nat.le_of_ble_eq_true rfl, Nat.le_of_ble_eq_true rfl⟩) X Y hA (fun z1 H locs Y p1 => ?_)
  obtain ⟨l1, u1, x1⟩ := p1
  refine z_if_eq (tgt := 26) X.1 X.2.1 d_H_policy_5 (by decide) ⟨by omega, by omega⟩ (fun h2 => ?_) (fun h2 => ?_)
  · refine lv_iconst (v := iI 0) X.1 X.2.1 d_H_policy_26 (by decide) ?_
    exact c_retz hQQ X Y hr hlk (iI_bool (by omega) (by omega)).1 ⟨rfl, S, 0, rfl, ⟨by omega, by omega⟩⟩ d_H_policy_27
  · refine lv_aload_n X.1 X.2.1 d_H_policy_8 rfl (lv_at hl 0 rfl) ?_
    refine t_getr (ci := 0) X Y S k0 rfl i_H 4 (by decide) rfl (k1 := 5) (k2 := 12) rfl rfl lk_H_42 (fun _ h9 => h9) d_H_policy_9 (fun b3 e3 k3 => ?_)
    refine lv_iload_n X.1 X.2.1 d_H_policy_12 rfl (lv_at hl 1 rfl) ?_
    refine t_aald X Y S k3 (fun h9 => h9) (t0 := 2) rfl (by omega) (by omega) (by omega) d_H_policy_13 (fun b4 e4 k4 => ?_)
    refine lv_iload_n X.1 X.2.1 d_H_policy_14 rfl (lv_at hl 2 rfl) ?_
    refine lv_iload_n X.1 X.2.1 d_H_policy_15 rfl (lv_at hl 3 rfl) ?_
    refine t_ni (t_runV (As := [.int (iI a2), .int (iI a3)]) (rest := []) (n := 2) X Y S k4 hml hl.1 (c_Pr_rule l D E T κ L f H.size b4 k4 a2 (by omega) (by omega) a3 (by omega) (by omega) S.1) (ok_k X Y hA KS KR) rfl kl_H_Pr_rule ks_Pr_rule kx_Pr_rule ki_Pr_rule ini_Pr ⟨rfl, rfl⟩ hd_Pr_rule ⟨Nat.le_of_ble_eq_true rfl, Nat.le_of_ble_eq_true rfl⟩ rfl (Nat.le_of_ble_eq_true rfl) d_H_policy_16 ⟨Nat.le_of_ble_eq_true rfl, Nat.le_of_ble_eq_true rfl⟩) X Y hA S (by decide) (fun z5 f5 H locs Y S s5 p5 => ?_)
    obtain ⟨l5, u5⟩ := p5
    refine z_if_eq (tgt := 26) X.1 X.2.1 d_H_policy_19 (by decide) ⟨by omega, by omega⟩ (fun h6 => ?_) (fun h6 => ?_)
    · refine lv_iconst (v := iI 0) X.1 X.2.1 d_H_policy_26 (by decide) ?_
      exact c_retz hQQ X Y hr hlk (iI_bool (by omega) (by omega)).1 ⟨rfl, S, 0, rfl, ⟨by omega, by omega⟩⟩ d_H_policy_27
    · refine lv_iconst (v := iI 1) X.1 X.2.1 d_H_policy_22 (by decide) ?_
      refine lv_goto (tgt := 27) X.1 X.2.1 d_H_policy_23 (by decide) ?_
      exact c_retz hQQ X Y hr hlk (iI_bool (by omega) (by omega)).1 ⟨rfl, S, 1, rfl, ⟨by omega, by omega⟩⟩ d_H_policy_27
set_option maxHeartbeats 4000000 in
set_option maxRecDepth 100000 in
theorem c_H_room (l : Launch) (D : va_G) (E : cE) (T : cT) (κ : tK) (L : List Nat) (f : pF) (sz : Nat) (h : Nat) (k0 : κ h = (10, 0)) (a1 : Int) (l_a1 : (-2147483648) ≤ a1) (u_a1 : a1 ≤ 2147483647) (hw : tW E T κ L f) : Met l y_H_room (k_H_room :: lw_tg) (kRm 1 60 0 0) (va_Pc [.ref h, .int (iI a1)] (kPre D E T L f sz)) (va_Qi (nPi E T [15] κ L f (fun (z : Int) (g : pF) => 0 ≤ z ∧ z ≤ 1)) (cPost D E (pA L sz)) (pA L sz)) 0 0 (pA L sz) := by
  refine k_enter (own := R_H) (by decide) rfl (Nat.le_of_ble_eq_true rfl) (fun p e s m below meth c ls AV QQ H locs hQQ X Y hA hin hr hlk hml hl KS KR => ?_)
  have hl : lv_has ls 2 [(0, .ref h), (1, .int (iI a1))] := hl
  have S : tS E T (tFr κ L [15] []) κ L f κ L f := tS_rf hw
  refine lv_iload_n X.1 X.2.1 d_H_room_0 rfl (lv_at hl 1 rfl) ?_
  refine lv_iconst (v := iI 1) X.1 X.2.1 d_H_room_1 (by decide) ?_
  refine z_icmp_lt (tgt := 11) X.1 X.2.1 d_H_room_2 (by decide) ⟨by omega, by omega⟩ ⟨by omega, by omega⟩ (fun h1 => ?_) (fun h1 => ?_)
  · refine lv_iconst (v := iI 0) X.1 X.2.1 d_H_room_11 (by decide) ?_
    exact c_retz hQQ X Y hr hlk (iI_bool (by omega) (by omega)).1 ⟨rfl, S, 0, rfl, ⟨by omega, by omega⟩⟩ d_H_room_12
  · refine lv_iload_n X.1 X.2.1 d_H_room_5 rfl (lv_at hl 1 rfl) ?_
    refine lv_bipush (v := iI 32) X.1 X.2.1 d_H_room_6 (by decide) ?_
    refine z_icmp_le (tgt := 13) X.1 X.2.1 d_H_room_8 (by decide) ⟨by omega, by omega⟩ ⟨by omega, by omega⟩ (fun h2 => ?_) (fun h2 => ?_)
    · refine lv_aload_n X.1 X.2.1 d_H_room_13 rfl (lv_at hl 0 rfl) ?_
      refine t_getr (ci := 0) X Y S k0 rfl i_H 5 (by decide) rfl (k1 := 15) (k2 := 0) rfl rfl lk_H_36 (fun _ h9 => h9) d_H_room_14 (fun b3 e3 k3 => ?_)
      refine lv_iload_n X.1 X.2.1 d_H_room_17 rfl (lv_at hl 1 rfl) ?_
      refine t_put (ci := 5) X Y S k3 rfl i_Ga t_Ga t_Ga_ok n_Ga 4 (by decide) rfl lk_H_145 (fun _ h9 => h9) rfl (t_Ga_ok 4 (by decide)) rfl rfl ⟨_, rfl, by omega, by omega⟩ (fun h9 => h9.2.1 (by rw [← (S.2.2.2 _ h9).2, k3]; decide)) d_H_room_18 (fun f4 H locs Y S w4 => ?_)
      refine lv_iconst (v := iI 1) X.1 X.2.1 d_H_room_21 (by decide) ?_
      exact c_retz hQQ X Y hr hlk (iI_bool (by omega) (by omega)).1 ⟨rfl, S, 1, rfl, ⟨by omega, by omega⟩⟩ d_H_room_22
    · refine lv_iconst (v := iI 0) X.1 X.2.1 d_H_room_11 (by decide) ?_
      exact c_retz hQQ X Y hr hlk (iI_bool (by omega) (by omega)).1 ⟨rfl, S, 0, rfl, ⟨by omega, by omega⟩⟩ d_H_room_12
set_option maxHeartbeats 4000000 in
set_option maxRecDepth 100000 in
theorem c_H_kdc (l : Launch) (D : va_G) (E : cE) (T : cT) (κ : tK) (L : List Nat) (f : pF) (sz : Nat) (h : Nat) (k0 : κ h = (10, 0)) (hw : tW E T κ L f) : Met l y_H_kdc (k_H_kdc :: lw_tg) (kRm 73 2420 3 96) (va_Pc [.ref h] (kPre D E T L f sz)) (va_Qi (aPi E T [1, 2, 3, 4, 5, 6, 7, 8, 9, 10, 11, 12, 13, 14, 15, 16, 17, 18, 19, 20, 21] [] κ L f (fun (z : Int) (k : tK) (g : pF) => (-2147483648) ≤ z ∧ z ≤ 2147483647)) (cPost D E (pA L sz)) (pA L sz)) 3 96 (pA L sz) := by
  refine k_enter (own := R_H) (by decide) rfl (Nat.le_of_ble_eq_true rfl) (fun p e s m below meth c ls AV QQ H locs hQQ X Y hA hin hr hlk hml hl KS KR => ?_)
  have hl : lv_has ls 4 [(0, .ref h)] := hl
  have S : tS E T (tFr κ L [1, 2, 3, 4, 5, 6, 7, 8, 9, 10, 11, 12, 13, 14, 15, 16, 17, 18, 19, 20, 21] []) κ L f κ L f := tS_rf hw
  have hF0 : ∀ b, tFr κ L [1, 2, 3, 4, 5, 6, 7, 8, 9, 10, 11, 12, 13, 14, 15, 16, 17, 18, 19, 20, 21] [] b → b ∈ L := fun b h9 => h9.1
  refine lv_aload_n X.1 X.2.1 d_H_kdc_0 rfl (lv_at hl 0 rfl) ?_
  refine t_getr (ci := 0) X Y S k0 rfl i_H 6 (by decide) rfl (k1 := 14) (k2 := 0) rfl rfl lk_H_77 (fun _ h9 => h9) d_H_kdc_1 (fun b1 e1 k1 => ?_)
  refine t_ni (t_runV (As := []) (rest := []) (n := 0) X Y S k1 hml hl.1 (c_Ce_judge l D E T κ L f H.size b1 k1 S.1) (ok_k X Y hA KS KR) rfl kl_H_Ce_judge ks_Ce_judge kx_Ce_judge ki_Ce_judge ini_Ce ⟨rfl, rfl⟩ hd_Ce_judge ⟨Nat.le_of_ble_eq_true rfl, Nat.le_of_ble_eq_true rfl⟩ rfl (Nat.le_of_ble_eq_true rfl) d_H_kdc_4 ⟨Nat.le_of_ble_eq_true rfl, Nat.le_of_ble_eq_true rfl⟩) X Y hA S (by decide) (fun z2 f2 H locs Y S s2 p2 => ?_)
  obtain ⟨l2, u2⟩ := p2
  refine lv_istore_n (lv' := [(1, .int (iI z2)), (0, .ref h)]) X.1 X.2.1 d_H_kdc_7 rfl hl (by decide) rfl (fun ls hl => ?_)
  refine lv_iload_n X.1 X.2.1 d_H_kdc_8 rfl (lv_at hl 0 rfl) ?_
  have J8 : ∀ (κ4 : tK) (L5 : List Nat) (z7 : Int) (f3 : pF) (H : Heap) (locs : List Loc) (ls : Array Slot), (κ4 h = (10, 0)) → ((-2147483648) ≤ z7) → (z7 ≤ 2147483647) → pH D cCl (pA L sz) s.heap L5 f3 H locs → tS E T (tFr κ L [1, 2, 3, 4, 5, 6, 7, 8, 9, 10, 11, 12, 13, 14, 15, 16, 17, 18, 19, 20, 21] []) κ L f κ4 L5 f3 → lv_has ls 4 [(0, .ref h), (1, .int (iI z7))] → W p l e (kRm 73 2420 3 96) s m AV below meth c H locs 1 32 QQ (F0 m 83 ls []) := by
    intro κ4 L5 z7 f3 H locs ls k6 l7 u7 Y S hl
    refine lv_iload_n X.1 X.2.1 d_H_kdc_83 rfl (lv_at hl 1 rfl) ?_
    have J14 : ∀ (z13 : Int) (f12 : pF) (H : Heap) (locs : List Loc) (ls : Array Slot), ((-2147483648) ≤ z13) → (z13 ≤ 2147483647) → pH D cCl (pA L sz) s.heap L5 f12 H locs → tS E T (tFr κ L [1, 2, 3, 4, 5, 6, 7, 8, 9, 10, 11, 12, 13, 14, 15, 16, 17, 18, 19, 20, 21] []) κ L f κ4 L5 f12 → lv_has ls 4 [(0, .ref h), (1, .int (iI z13))] → W p l e (kRm 73 2420 3 96) s m AV below meth c H locs 1 32 QQ (F0 m 115 ls []) := by
      intro z13 f12 H locs ls l13 u13 Y S hl
      refine lv_iload_n X.1 X.2.1 d_H_kdc_115 rfl (lv_at hl 1 rfl) ?_
      have J22 : ∀ (κ19 : tK) (L20 : List Nat) (f18 : pF) (H : Heap) (locs : List Loc) (ls : Array Slot), (κ19 h = (10, 0)) → pH D cCl (pA L sz) s.heap L20 f18 H locs → tS E T (tFr κ L [1, 2, 3, 4, 5, 6, 7, 8, 9, 10, 11, 12, 13, 14, 15, 16, 17, 18, 19, 20, 21] []) κ L f κ19 L20 f18 → lv_has ls 4 [(0, .ref h), (1, .int (iI z31))] → W p l e (kRm 73 2420 3 96) s m AV below meth c H locs 3 96 QQ (F0 m 137 ls []) := by
        intro κ19 L20 f18 H locs ls k21 Y S hl
        refine lv_aload_n X.1 X.2.1 d_H_kdc_137 rfl (lv_at hl 0 rfl) ?_
        refine t_getr (ci := 0) X Y S k21 rfl i_H 1 (by decide) rfl (k1 := 13) (k2 := 4000) rfl rfl lk_H_21 (fun _ h9 => h9) d_H_kdc_138 (fun b26 e26 k26 => ?_)
        refine t_nv (t_runV (As := []) (rest := []) (n := 0) X Y S k26 hml hl.1 (c_By_clear l D E T κ19 L20 f18 H.size b26 4000 k26 (by omega) S.1) (ok_k X Y hA KS KR) rfl kl_H_By_clear ks_By_clear kx_By_clear ki_By_clear ini_By ⟨rfl, rfl⟩ hd_By_clear ⟨Nat.le_of_ble_eq_true rfl, Nat.le_of_ble_eq_true rfl⟩ rfl (Nat.le_of_ble_eq_true rfl) d_H_kdc_141 ⟨Nat.le_of_ble_eq_true rfl, Nat.le_of_ble_eq_true rfl⟩) X Y hA S (by decide) (fun f27 H locs Y S s27 p27 => ?_)
        refine lv_iload_n X.1 X.2.1 d_H_kdc_144 rfl (lv_at hl 1 rfl) ?_
        exact c_reti hQQ X Y hr hlk ⟨κ19, S, z31, rfl, ⟨by omega, by omega⟩⟩ d_H_kdc_145
      refine z_if_ne (tgt := 129) X.1 X.2.1 d_H_kdc_116 (by decide) ⟨by omega, by omega⟩ (fun h28 => ?_) (fun h28 => ?_)
      · refine lv_aload_n X.1 X.2.1 d_H_kdc_129 rfl (lv_at hl 0 rfl) ?_
        refine t_getr (ci := 0) X Y S k20 rfl i_H 6 (by decide) rfl (k1 := 14) (k2 := 0) rfl rfl lk_H_77 (fun _ h9 => h9) d_H_kdc_130 (fun b29 e29 k29 => ?_)
        refine lv_iload_n X.1 X.2.1 d_H_kdc_133 rfl (lv_at hl 1 rfl) ?_
        refine t_nv (t_runV (As := [.int (iI z13)]) (rest := []) (n := 1) X Y S k29 hml hl.1 (c_Ce_putError l D E T κ4 L5 f12 H.size b29 k29 z13 (by omega) (by omega) S.1) (ok_k X Y hA KS KR) rfl kl_H_Ce_putError ks_Ce_putError kx_Ce_putError ki_Ce_putError ini_Ce ⟨rfl, rfl⟩ hd_Ce_putError ⟨Nat.le_of_ble_eq_true rfl, Nat.le_of_ble_eq_true rfl⟩ rfl (Nat.le_of_ble_eq_true rfl) d_H_kdc_134 ⟨Nat.le_of_ble_eq_true rfl, Nat.le_of_ble_eq_true rfl⟩) X Y hA S (by decide) (fun f30 H locs Y S s30 p30 => ?_)
        refine W.widen (k := 3) (n := 96) (Nat.le_of_ble_eq_true rfl) (Nat.le_of_ble_eq_true rfl) ?_
        exact J22 κ4 L5 f30 _ _ _ k20 Y S (lv_sub hl [0, 1] rfl)
      · refine lv_aload_n X.1 X.2.1 d_H_kdc_119 rfl (lv_at hl 0 rfl) ?_
        refine t_getr (ci := 0) X Y S k20 rfl i_H 6 (by decide) rfl (k1 := 14) (k2 := 0) rfl rfl lk_H_77 (fun _ h9 => h9) d_H_kdc_120 (fun b31 e31 k31 => ?_)
        refine t_av (t_runV (As := []) (rest := []) (n := 0) X Y S k31 hml hl.1 (c_Ce_putReply l D E T κ4 L5 f12 H.size b31 k31 S.1) (ok_k X Y hA KS KR) rfl kl_H_Ce_putReply ks_Ce_putReply kx_Ce_putReply ki_Ce_putReply ini_Ce ⟨rfl, rfl⟩ hd_Ce_putReply ⟨Nat.le_of_ble_eq_true rfl, Nat.le_of_ble_eq_true rfl⟩ rfl (Nat.le_of_ble_eq_true rfl) d_H_kdc_123 ⟨Nat.le_of_ble_eq_true rfl, Nat.le_of_ble_eq_true rfl⟩) X Y hA S (by decide) (fun κ32 L32 f32 H locs Y S s32 p32 => ?_)
        have k33 : κ32 h = (10, 0) := tLe_k s32.2.2.1 k20
        refine lv_goto (tgt := 137) X.1 X.2.1 d_H_kdc_126 (by decide) ?_
        exact J22 κ32 L32 f32 _ _ _ k33 Y S (lv_sub hl [0, 1] rfl)
    refine z_if_ne (tgt := 115) X.1 X.2.1 d_H_kdc_84 (by decide) ⟨by omega, by omega⟩ (fun h34 => ?_) (fun h34 => ?_)
    · exact J14 z7 f3 _ _ _ (by omega) (by omega) Y S (lv_sub hl [0, 1] rfl)
    · refine lv_aload_n X.1 X.2.1 d_H_kdc_87 rfl (lv_at hl 0 rfl) ?_
      refine t_getr (ci := 0) X Y S k6 rfl i_H 6 (by decide) rfl (k1 := 14) (k2 := 0) rfl rfl lk_H_77 (fun _ h9 => h9) d_H_kdc_88 (fun b35 e35 k35 => ?_)
      refine t_geti (ci := 4) X Y S k35 rfl i_Ce 6 (by decide) rfl lk_H_151 (fun _ h9 => h9) d_H_kdc_91 (fun z36 e36 l36 u36 => ?_)
      have J39 : ∀ (z38 : Int) (f37 : pF) (H : Heap) (locs : List Loc) (ls : Array Slot), ((-2147483648) ≤ z38) → (z38 ≤ 2147483647) → pH D cCl (pA L sz) s.heap L5 f37 H locs → tS E T (tFr κ L [1, 2, 3, 4, 5, 6, 7, 8, 9, 10, 11, 12, 13, 14, 15, 16, 17, 18, 19, 20, 21] []) κ L f κ4 L5 f37 → lv_has ls 4 [(0, .ref h)] → W p l e (kRm 73 2420 3 96) s m AV below meth c H locs 1 32 QQ (F0 m 114 ls [.int (iI z38)]) := by
        intro z38 f37 H locs ls l38 u38 Y S hl
        refine lv_istore_n (lv' := [(1, .int (iI z38)), (0, .ref h)]) X.1 X.2.1 d_H_kdc_114 rfl hl (by decide) rfl (fun ls hl => ?_)
        exact J14 z38 f37 _ _ _ (by omega) (by omega) Y S (lv_sub hl [1, 0] rfl)
      refine z_if_eq (tgt := 107) X.1 X.2.1 d_H_kdc_94 (by decide) ⟨by omega, by omega⟩ (fun h43 => ?_) (fun h43 => ?_)
      · refine lv_aload_n X.1 X.2.1 d_H_kdc_107 rfl (lv_at hl 0 rfl) ?_
        refine t_get0 (ci := 0) X Y S k6 rfl i_H 6 (by decide) rfl lk_H_77 (fun _ h9 => h9) d_H_kdc_108 e35 ?_
        refine t_ni (t_runV (As := []) (rest := []) (n := 0) X Y S k35 hml hl.1 (c_Ce_judgeTgs l D E T κ4 L5 f3 H.size b35 k35 S.1) (ok_k X Y hA KS KR) rfl kl_H_Ce_judgeTgs ks_Ce_judgeTgs kx_Ce_judgeTgs ki_Ce_judgeTgs ini_Ce ⟨rfl, rfl⟩ hd_Ce_judgeTgs ⟨Nat.le_of_ble_eq_true rfl, Nat.le_of_ble_eq_true rfl⟩ rfl (Nat.le_of_ble_eq_true rfl) d_H_kdc_111 ⟨Nat.le_of_ble_eq_true rfl, Nat.le_of_ble_eq_true rfl⟩) X Y hA S (by decide) (fun z44 f44 H locs Y S s44 p44 => ?_)
        obtain ⟨l44, u44⟩ := p44
        exact J39 z44 f44 _ _ _ (by omega) (by omega) Y S (lv_sub hl [0] rfl)
      · refine lv_aload_n X.1 X.2.1 d_H_kdc_97 rfl (lv_at hl 0 rfl) ?_
        refine t_get0 (ci := 0) X Y S k6 rfl i_H 6 (by decide) rfl lk_H_77 (fun _ h9 => h9) d_H_kdc_98 e35 ?_
        refine t_ni (t_runV (As := []) (rest := []) (n := 0) X Y S k35 hml hl.1 (c_Ce_judgeAs l D E T κ4 L5 f3 H.size b35 k35 S.1) (ok_k X Y hA KS KR) rfl kl_H_Ce_judgeAs ks_Ce_judgeAs kx_Ce_judgeAs ki_Ce_judgeAs ini_Ce ⟨rfl, rfl⟩ hd_Ce_judgeAs ⟨Nat.le_of_ble_eq_true rfl, Nat.le_of_ble_eq_true rfl⟩ rfl (Nat.le_of_ble_eq_true rfl) d_H_kdc_101 ⟨Nat.le_of_ble_eq_true rfl, Nat.le_of_ble_eq_true rfl⟩) X Y hA S (by decide) (fun z45 f45 H locs Y S s45 p45 => ?_)
        obtain ⟨l45, u45⟩ := p45
        refine lv_goto (tgt := 114) X.1 X.2.1 d_H_kdc_104 (by decide) ?_
        exact J39 z45 f45 _ _ _ (by omega) (by omega) Y S (lv_sub hl [0] rfl)
  refine z_if_ne (tgt := 83) X.1 X.2.1 d_H_kdc_9 (by decide) ⟨by omega, by omega⟩ (fun h46 => ?_) (fun h46 => ?_)
  · refine W.widen (k := 1) (n := 32) (Nat.le_of_ble_eq_true rfl) (Nat.le_of_ble_eq_true rfl) ?_
    exact J8 κ L z2 f2 _ _ _ k0 (by omega) (by omega) Y S (lv_sub hl [1, 0] rfl)
  · refine lv_aload_n X.1 X.2.1 d_H_kdc_12 rfl (lv_at hl 1 rfl) ?_
    refine t_get0 (ci := 0) X Y S k0 rfl i_H 6 (by decide) rfl lk_H_77 (fun _ h9 => h9) d_H_kdc_13 ((gF_same (s2.2.2.2 _ ⟨(t_obj S.1 k0).1, by rw [k0]; decide, by simp⟩).1 6).trans e1) ?_
    refine t_geti (ci := 4) X Y S k1 rfl i_Ce 6 (by decide) rfl lk_H_151 (fun _ h9 => h9) d_H_kdc_16 (fun z47 e47 l47 u47 => ?_)
    refine z_if_ne (tgt := 83) X.1 X.2.1 d_H_kdc_19 (by decide) ⟨by omega, by omega⟩ (fun h48 => ?_) (fun h48 => ?_)
    · refine W.widen (k := 1) (n := 32) (Nat.le_of_ble_eq_true rfl) (Nat.le_of_ble_eq_true rfl) ?_
      exact J8 κ L z2 f2 _ _ _ k0 (by omega) (by omega) Y S (lv_sub hl [1, 0] rfl)
    · refine lv_aload_n X.1 X.2.1 d_H_kdc_22 rfl (lv_at hl 1 rfl) ?_
      refine t_get0 (ci := 0) X Y S k0 rfl i_H 6 (by decide) rfl lk_H_77 (fun _ h9 => h9) d_H_kdc_23 ((gF_same (s2.2.2.2 _ ⟨(t_obj S.1 k0).1, by rw [k0]; decide, by simp⟩).1 6).trans e1) ?_
      refine lv_iconst (v := iI 1) X.1 X.2.1 d_H_kdc_26 (by decide) ?_
      refine t_ui (t_runV (As := [.int (iI 1)]) (rest := []) (n := 1) X Y S k1 hml hl.1 (c_Ce_shown l D E T κ L f2 H.size b1 k1 1 (by omega) (by omega) S.1) (ok_k X Y hA KS KR) rfl kl_H_Ce_shown ks_Ce_shown kx_Ce_shown ki_Ce_shown ini_Ce ⟨rfl, rfl⟩ hd_Ce_shown ⟨Nat.le_of_ble_eq_true rfl, Nat.le_of_ble_eq_true rfl⟩ rfl (Nat.le_of_ble_eq_true rfl) d_H_kdc_27 ⟨Nat.le_of_ble_eq_true rfl, Nat.le_of_ble_eq_true rfl⟩) X Y hA (fun z49 H locs Y p49 => ?_)
      obtain ⟨l49, u49⟩ := p49
      refine lv_istore_n (lv' := [(2, .int (iI z49)), (1, .int (iI z2)), (0, .ref h)]) X.1 X.2.1 d_H_kdc_30 rfl hl (by decide) rfl (fun ls hl => ?_)
      refine lv_aload_n X.1 X.2.1 d_H_kdc_31 rfl (lv_at hl 2 rfl) ?_
      refine t_getr (ci := 0) X Y S k0 rfl i_H 1 (by decide) rfl (k1 := 13) (k2 := 4000) rfl rfl lk_H_21 (fun _ h9 => h9) d_H_kdc_32 (fun b50 e50 k50 => ?_)
      refine lv_iload_n X.1 X.2.1 d_H_kdc_35 rfl (lv_at hl 0 rfl) ?_
      refine lv_aload_n X.1 X.2.1 d_H_kdc_36 rfl (lv_at hl 2 rfl) ?_
      refine t_get0 (ci := 0) X Y S k0 rfl i_H 1 (by decide) rfl lk_H_21 (fun _ h9 => h9) d_H_kdc_37 e50 ?_
      refine t_gets (ci := 3) X Y S k50 rfl i_By 1 (by decide) rfl lk_H_81 (fun _ h9 => h9) d_H_kdc_40 (fun z51 e51 l51 u51 => ?_)
      refine t_ui (t_runV (As := [.int (iI z49), .int (iI z51)]) (rest := []) (n := 2) X Y S k50 hml hl.1 (c_By_stop l D E T κ L f2 H.size b50 4000 k50 (by omega) z49 (by omega) (by omega) z51 (by omega) (by omega) S.1 z51 e51 (by omega) (by omega)) (ok_k X Y hA KS KR) rfl kl_H_By_stop ks_By_stop kx_By_stop ki_By_stop ini_By ⟨rfl, rfl⟩ hd_By_stop ⟨Nat.le_of_ble_eq_true rfl, Nat.le_of_ble_eq_true rfl⟩ rfl (Nat.le_of_ble_eq_true rfl) d_H_kdc_43 ⟨Nat.le_of_ble_eq_true rfl, Nat.le_of_ble_eq_true rfl⟩) X Y hA (fun z52 H locs Y p52 => ?_)
      obtain ⟨l52, u52, x52⟩ := p52
      refine lv_istore_n (lv' := [(3, .int (iI z52)), (2, .int (iI z49)), (1, .int (iI z2)), (0, .ref h)]) X.1 X.2.1 d_H_kdc_46 rfl hl (by decide) rfl (fun ls hl => ?_)
      refine lv_aload_n X.1 X.2.1 d_H_kdc_47 rfl (lv_at hl 3 rfl) ?_
      refine t_getr (ci := 0) X Y S k0 rfl i_H 5 (by decide) rfl (k1 := 15) (k2 := 0) rfl rfl lk_H_36 (fun _ h9 => h9) d_H_kdc_48 (fun b53 e53 k53 => ?_)
      refine lv_aload_n X.1 X.2.1 d_H_kdc_51 rfl (lv_at hl 3 rfl) ?_
      refine t_get0 (ci := 0) X Y S k0 rfl i_H 1 (by decide) rfl lk_H_21 (fun _ h9 => h9) d_H_kdc_52 e50 ?_
      refine lv_aload_n X.1 X.2.1 d_H_kdc_55 rfl (lv_at hl 3 rfl) ?_
      refine t_get0 (ci := 0) X Y S k0 rfl i_H 1 (by decide) rfl lk_H_21 (fun _ h9 => h9) d_H_kdc_56 e50 ?_
      refine lv_iload_n X.1 X.2.1 d_H_kdc_59 rfl (lv_at hl 1 rfl) ?_
      refine t_ui (t_runV (As := [.int (iI z49)]) (rest := [.ref b50, .ref b53]) (n := 1) X Y S k50 hml hl.1 (c_By_body l D E T κ L f2 H.size b50 4000 k50 (by omega) z49 (by omega) (by omega) S.1 z51 e51 (by omega) (by omega)) (ok_k X Y hA KS KR) rfl kl_H_By_body ks_By_body kx_By_body ki_By_body ini_By ⟨rfl, rfl⟩ hd_By_body ⟨Nat.le_of_ble_eq_true rfl, Nat.le_of_ble_eq_true rfl⟩ rfl (Nat.le_of_ble_eq_true rfl) d_H_kdc_60 ⟨Nat.le_of_ble_eq_true rfl, Nat.le_of_ble_eq_true rfl⟩) X Y hA (fun z54 H locs Y p54 => ?_)
      obtain ⟨l54, u54, x54⟩ := p54
      refine lv_iload_n X.1 X.2.1 d_H_kdc_63 rfl (lv_at hl 0 rfl) ?_
      refine lv_aload_n X.1 X.2.1 d_H_kdc_64 rfl (lv_at hl 3 rfl) ?_
      refine t_getr (ci := 0) X Y S k0 rfl i_H 4 (by decide) rfl (k1 := 5) (k2 := 12) rfl rfl lk_H_42 (fun _ h9 => h9) d_H_kdc_65 (fun b55 e55 k55 => ?_)
      refine lv_iconst (v := iI 0) X.1 X.2.1 d_H_kdc_68 (by decide) ?_
      refine t_aald X Y S k55 (fun h9 => h9) (t0 := 2) rfl (by omega) (by omega) (by omega) d_H_kdc_69 (fun b56 e56 k56 => ?_)
      refine lv_aload_n X.1 X.2.1 d_H_kdc_70 rfl (lv_at hl 3 rfl) ?_
      refine t_get0 (ci := 0) X Y S k0 rfl i_H 6 (by decide) rfl lk_H_77 (fun _ h9 => h9) d_H_kdc_71 ((gF_same (s2.2.2.2 _ ⟨(t_obj S.1 k0).1, by rw [k0]; decide, by simp⟩).1 6).trans e1) ?_
      refine t_getr (ci := 4) X Y S k1 rfl i_Ce 5 (by decide) rfl (k1 := 18) (k2 := 0) rfl rfl lk_H_163 (fun _ h9 => h9) d_H_kdc_74 (fun b57 e57 k57 => ?_)
      refine lv_bipush (v := iI 7) X.1 X.2.1 d_H_kdc_77 (by decide) ?_
      refine t_ai (t_runV (As := [.ref b50, .int (iI z54), .int (iI z52), .ref b56, .ref b57, .int (iI 7)]) (rest := []) (n := 6) X Y S k53 hml hl.1 (c_Ga_judge l D E T κ L f2 H.size b53 k53 b50 4000 k50 (by omega) z54 (by omega) (by omega) z52 (by omega) (by omega) b56 k56 b57 k57 7 (by omega) (by omega) S.1) (ok_k X Y hA KS KR) rfl kl_H_Ga_judge ks_Ga_judge kx_Ga_judge ki_Ga_judge ini_Ga ⟨rfl, rfl⟩ hd_Ga_judge ⟨Nat.le_of_ble_eq_true rfl, Nat.le_of_ble_eq_true rfl⟩ rfl (Nat.le_of_ble_eq_true rfl) d_H_kdc_79 ⟨Nat.le_of_ble_eq_true rfl, Nat.le_of_ble_eq_true rfl⟩) X Y hA S (by decide) (fun z58 κ58 L58 f58 H locs Y S s58 p58 => ?_)
      obtain ⟨l58, u58⟩ := p58
      have k59 : κ58 h = (10, 0) := tLe_k s58.2.2.1 k0
      refine lv_istore_n (lv' := [(1, .int (iI z58)), (3, .int (iI z52)), (2, .int (iI z49)), (0, .ref h)]) X.1 X.2.1 d_H_kdc_82 rfl hl (by decide) rfl (fun ls hl => ?_)
      exact J8 κ58 L58 z58 f58 _ _ _ k59 (by omega) (by omega) Y S (lv_sub hl [3, 0] rfl)
set_option maxHeartbeats 4000000 in
set_option maxRecDepth 100000 in
theorem c_H_agent (l : Launch) (D : va_G) (E : cE) (T : cT) (κ : tK) (L : List Nat) (f : pF) (sz : Nat) (h : Nat) (k0 : κ h = (10, 0)) (a1 : Int) (l_a1 : (-2147483648) ≤ a1) (u_a1 : a1 ≤ 2147483647) (a2 : Int) (l_a2 : (-2147483648) ≤ a2) (u_a2 : a2 ≤ 2147483647) (hw : tW E T κ L f) : Met l y_H_agent (k_H_agent :: lw_tg) (kRm 8 206 2 64) (va_Pc [.ref h, .int (iI a1), .int (iI a2)] (kPre D E T L f sz)) (va_Qi (aPi E T [1, 2, 3, 4, 5, 6, 7, 8, 9, 10, 11, 12, 13, 14, 15, 16, 17, 18, 19, 20, 21] [] κ L f (fun (z : Int) (k : tK) (g : pF) => 0 ≤ z ∧ z ≤ 1)) (cPost D E (pA L sz)) (pA L sz)) 2 64 (pA L sz) := by
  refine k_enter (own := R_H) (by decide) rfl (Nat.le_of_ble_eq_true rfl) (fun p e s m below meth c ls AV QQ H locs hQQ X Y hA hin hr hlk hml hl KS KR => ?_)
  have hl : lv_has ls 6 [(0, .ref h), (1, .int (iI a1)), (2, .int (iI a2))] := hl
  have S : tS E T (tFr κ L [1, 2, 3, 4, 5, 6, 7, 8, 9, 10, 11, 12, 13, 14, 15, 16, 17, 18, 19, 20, 21] []) κ L f κ L f := tS_rf hw
  have hF0 : ∀ b, tFr κ L [1, 2, 3, 4, 5, 6, 7, 8, 9, 10, 11, 12, 13, 14, 15, 16, 17, 18, 19, 20, 21] [] b → b ∈ L := fun b h9 => h9.1
  refine lv_aload_n X.1 X.2.1 d_H_agent_0 rfl (lv_at hl 0 rfl) ?_
  refine t_ni (t_runV (As := []) (rest := []) (n := 0) X Y S k0 hml hl.1 (c_H_passwordPlace l D E T κ L f H.size h k0 S.1) (ok_k X Y hA KS KR) rfl kl_H_H_passwordPlace ks_H_passwordPlace kx_H_passwordPlace ki_H_passwordPlace ini_H ⟨rfl, rfl⟩ hd_H_passwordPlace ⟨Nat.le_of_ble_eq_true rfl, Nat.le_of_ble_eq_true rfl⟩ rfl (Nat.le_of_ble_eq_true rfl) d_H_agent_1 ⟨Nat.le_of_ble_eq_true rfl, Nat.le_of_ble_eq_true rfl⟩) X Y hA S (by decide) (fun z1 f1 H locs Y S s1 p1 => ?_)
  obtain ⟨l1, u1⟩ := p1
  refine lv_istore_n (lv' := [(3, .int (iI z1)), (0, .ref h), (1, .int (iI a1)), (2, .int (iI a2))]) X.1 X.2.1 d_H_agent_4 rfl hl (by decide) rfl (fun ls hl => ?_)
  refine lv_iload_n X.1 X.2.1 d_H_agent_5 rfl (lv_at hl 2 rfl) ?_
  have J2 : ∀  (H : Heap) (locs : List Loc) (ls : Array Slot), pH D cCl (pA L sz) s.heap L f1 H locs → tS E T (tFr κ L [1, 2, 3, 4, 5, 6, 7, 8, 9, 10, 11, 12, 13, 14, 15, 16, 17, 18, 19, 20, 21] []) κ L f κ L f1 → lv_has ls 6 [(0, .ref h), (1, .int (iI a1)), (2, .int (iI a2)), (3, .int (iI z1))] → W p l e (kRm 8 206 2 64) s m AV below meth c H locs 0 0 QQ (F0 m 29 ls []) := by
    intro  H locs ls  Y S hl
    refine lv_iconst (v := iI 0) X.1 X.2.1 d_H_agent_29 (by decide) ?_
    refine lv_istore (lv' := [(4, .int (iI 0)), (0, .ref h), (1, .int (iI a1)), (2, .int (iI a2)), (3, .int (iI z1))]) X.1 X.2.1 d_H_agent_30 hl (by decide) rfl (fun ls hl => ?_)
    refine lv_iload X.1 X.2.1 d_H_agent_32 (lv_at hl 0 rfl) ?_
    have J11 : ∀ (κ7 : tK) (L8 : List Nat) (z10 : Int) (f6 : pF) (H : Heap) (locs : List Loc) (ls : Array Slot), (κ7 h = (10, 0)) → (0 ≤ z10) → (z10 ≤ 1) → pH D cCl (pA L sz) s.heap L8 f6 H locs → tS E T (tFr κ L [1, 2, 3, 4, 5, 6, 7, 8, 9, 10, 11, 12, 13, 14, 15, 16, 17, 18, 19, 20, 21] []) κ L f κ7 L8 f6 → lv_has ls 6 [(0, .ref h), (4, .int (iI z10))] → W p l e (kRm 8 206 2 64) s m AV below meth c H locs 2 64 QQ (F0 m 83 ls []) := by
      intro κ7 L8 z10 f6 H locs ls k9 l10 u10 Y S hl
      refine lv_aload_n X.1 X.2.1 d_H_agent_83 rfl (lv_at hl 0 rfl) ?_
      refine t_getr (ci := 0) X Y S k9 rfl i_H 1 (by decide) rfl (k1 := 13) (k2 := 4000) rfl rfl lk_H_21 (fun _ h9 => h9) d_H_agent_84 (fun b15 e15 k15 => ?_)
      refine t_nv (t_runV (As := []) (rest := []) (n := 0) X Y S k15 hml hl.1 (c_By_clear l D E T κ7 L8 f6 H.size b15 4000 k15 (by omega) S.1) (ok_k X Y hA KS KR) rfl kl_H_By_clear ks_By_clear kx_By_clear ki_By_clear ini_By ⟨rfl, rfl⟩ hd_By_clear ⟨Nat.le_of_ble_eq_true rfl, Nat.le_of_ble_eq_true rfl⟩ rfl (Nat.le_of_ble_eq_true rfl) d_H_agent_87 ⟨Nat.le_of_ble_eq_true rfl, Nat.le_of_ble_eq_true rfl⟩) X Y hA S (by decide) (fun f16 H locs Y S s16 p16 => ?_)
      refine lv_iload X.1 X.2.1 d_H_agent_90 (lv_at hl 1 rfl) ?_
      exact c_retz hQQ X Y hr hlk (iI_bool (by omega) (by omega)).1 ⟨κ7, S, z10, rfl, ⟨by omega, by omega⟩⟩ d_H_agent_92
    refine z_if_eq (tgt := 83) X.1 X.2.1 d_H_agent_34 (by decide) ⟨by omega, by omega⟩ (fun h17 => ?_) (fun h17 => False.elim (by omega))
    · refine W.widen (k := 2) (n := 64) (Nat.le_of_ble_eq_true rfl) (Nat.le_of_ble_eq_true rfl) ?_
      exact J11 κ L 0 f1 _ _ _ k0 (by omega) (by omega) Y S (lv_sub hl [1, 0] rfl)
  refine z_if_lt (tgt := 29) X.1 X.2.1 d_H_agent_6 (by decide) ⟨by omega, by omega⟩ (fun h18 => ?_) (fun h18 => ?_)
  · exact J2  _ _ _  Y S (lv_sub hl [1, 2, 3, 0] rfl)
  · refine lv_iload_n X.1 X.2.1 d_H_agent_9 rfl (lv_at hl 2 rfl) ?_
    refine lv_iconst (v := iI 4) X.1 X.2.1 d_H_agent_10 (by decide) ?_
    refine z_icmp_ge (tgt := 29) X.1 X.2.1 d_H_agent_11 (by decide) ⟨by omega, by omega⟩ ⟨by omega, by omega⟩ (fun h19 => ?_) (fun h19 => ?_)
    · exact J2  _ _ _  Y S (lv_sub hl [1, 2, 3, 0] rfl)
    · refine lv_iload_n X.1 X.2.1 d_H_agent_14 rfl (lv_at hl 3 rfl) ?_
      refine t_ui (x_runS (As := [.int (iI a2)]) (rest := []) (n := 1) X hml hl.1 (c_H_isRounds l D E T κ L f1 H.size a2 (by omega) (by omega) S.1) (ok_k X Y hA KS KR) kl_H_H_isRounds ks_H_isRounds ki_H_isRounds ini_H ⟨rfl, rfl⟩ hd_H_isRounds.2 ⟨Nat.le_of_ble_eq_true rfl, Nat.le_of_ble_eq_true rfl⟩ rfl (Nat.le_of_ble_eq_true rfl) d_H_agent_15 ⟨Nat.le_of_ble_eq_true rfl, Nat.le_of_ble_eq_true rfl⟩) X Y hA (fun z20 H locs Y p20 => ?_)
      obtain ⟨l20, u20⟩ := p20
      refine z_if_eq (tgt := 29) X.1 X.2.1 d_H_agent_18 (by decide) ⟨by omega, by omega⟩ (fun h21 => ?_) (fun h21 => ?_)
      · exact J2  _ _ _  Y S (lv_sub hl [1, 2, 3, 0] rfl)
      · refine lv_iload_n X.1 X.2.1 d_H_agent_21 rfl (lv_at hl 0 rfl) ?_
        refine z_if_lt (tgt := 29) X.1 X.2.1 d_H_agent_22 (by decide) ⟨by omega, by omega⟩ (fun h22 => ?_) (fun h22 => ?_)
        · exact J2  _ _ _  Y S (lv_sub hl [1, 2, 3, 0] rfl)
        · refine lv_iconst (v := iI 1) X.1 X.2.1 d_H_agent_25 (by decide) ?_
          refine lv_goto (tgt := 30) X.1 X.2.1 d_H_agent_26 (by decide) ?_
          refine lv_istore (lv' := [(4, .int (iI 1)), (3, .int (iI z1)), (0, .ref h), (1, .int (iI a1)), (2, .int (iI a2))]) X.1 X.2.1 d_H_agent_30 hl (by decide) rfl (fun ls hl => ?_)
          refine lv_iload X.1 X.2.1 d_H_agent_32 (lv_at hl 0 rfl) ?_
          have J28 : ∀ (κ24 : tK) (L25 : List Nat) (z27 : Int) (f23 : pF) (H : Heap) (locs : List Loc) (ls : Array Slot), (κ24 h = (10, 0)) → (0 ≤ z27) → (z27 ≤ 1) → pH D cCl (pA L sz) s.heap L25 f23 H locs → tS E T (tFr κ L [1, 2, 3, 4, 5, 6, 7, 8, 9, 10, 11, 12, 13, 14, 15, 16, 17, 18, 19, 20, 21] []) κ L f κ24 L25 f23 → lv_has ls 6 [(0, .ref h), (4, .int (iI z27))] → W p l e (kRm 8 206 2 64) s m AV below meth c H locs 2 64 QQ (F0 m 83 ls []) := by
            intro κ24 L25 z27 f23 H locs ls k26 l27 u27 Y S hl
            refine lv_aload_n X.1 X.2.1 d_H_agent_83 rfl (lv_at hl 0 rfl) ?_
            refine t_getr (ci := 0) X Y S k26 rfl i_H 1 (by decide) rfl (k1 := 13) (k2 := 4000) rfl rfl lk_H_21 (fun _ h9 => h9) d_H_agent_84 (fun b32 e32 k32 => ?_)
            refine t_nv (t_runV (As := []) (rest := []) (n := 0) X Y S k32 hml hl.1 (c_By_clear l D E T κ24 L25 f23 H.size b32 4000 k32 (by omega) S.1) (ok_k X Y hA KS KR) rfl kl_H_By_clear ks_By_clear kx_By_clear ki_By_clear ini_By ⟨rfl, rfl⟩ hd_By_clear ⟨Nat.le_of_ble_eq_true rfl, Nat.le_of_ble_eq_true rfl⟩ rfl (Nat.le_of_ble_eq_true rfl) d_H_agent_87 ⟨Nat.le_of_ble_eq_true rfl, Nat.le_of_ble_eq_true rfl⟩) X Y hA S (by decide) (fun f33 H locs Y S s33 p33 => ?_)
            refine lv_iload X.1 X.2.1 d_H_agent_90 (lv_at hl 1 rfl) ?_
            exact c_retz hQQ X Y hr hlk (iI_bool (by omega) (by omega)).1 ⟨κ24, S, z27, rfl, ⟨by omega, by omega⟩⟩ d_H_agent_92
          refine z_if_eq (tgt := 83) X.1 X.2.1 d_H_agent_34 (by decide) ⟨by omega, by omega⟩ (fun h34 => False.elim (by omega)) (fun h34 => ?_)
          · refine lv_aload_n X.1 X.2.1 d_H_agent_37 rfl (lv_at hl 2 rfl) ?_
            refine t_getr (ci := 0) X Y S k0 rfl i_H 7 (by decide) rfl (k1 := 6) (k2 := 4) rfl rfl lk_H_49 (fun _ h9 => h9) d_H_agent_38 (fun b35 e35 k35 => ?_)
            refine lv_iload_n X.1 X.2.1 d_H_agent_41 rfl (lv_at hl 3 rfl) ?_
            refine t_aald X Y S k35 (fun h9 => h9) (t0 := 3) rfl (by omega) (by omega) (by omega) d_H_agent_42 (fun b36 e36 k36 => ?_)
            refine lv_aload_n X.1 X.2.1 d_H_agent_43 rfl (lv_at hl 2 rfl) ?_
            refine t_getr (ci := 0) X Y S k0 rfl i_H 3 (by decide) rfl (k1 := 13) (k2 := 40) rfl rfl lk_H_28 (fun _ h9 => h9) d_H_agent_44 (fun b37 e37 k37 => ?_)
            refine lv_aload_n X.1 X.2.1 d_H_agent_47 rfl (lv_at hl 2 rfl) ?_
            refine t_getr (ci := 0) X Y S k0 rfl i_H 1 (by decide) rfl (k1 := 13) (k2 := 4000) rfl rfl lk_H_21 (fun _ h9 => h9) d_H_agent_48 (fun b38 e38 k38 => ?_)
            refine lv_iload_n X.1 X.2.1 d_H_agent_51 rfl (lv_at hl 1 rfl) ?_
            refine lv_iload_n X.1 X.2.1 d_H_agent_52 rfl (lv_at hl 4 rfl) ?_
            refine t_av (t_runV (As := [.ref b37, .ref b38, .int (iI z1), .int (iI a2)]) (rest := []) (n := 4) X Y S k36 hml hl.1 (c_Ag_begin l D E T κ L f1 H.size b36 k36 b37 40 k37 (by omega) b38 4000 k38 (by omega) z1 (by omega) (by omega) a2 (by omega) (by omega) S.1) (ok_k X Y hA KS KR) rfl kl_H_Ag_begin ks_Ag_begin kx_Ag_begin ki_Ag_begin ini_Ag ⟨rfl, rfl⟩ hd_Ag_begin ⟨Nat.le_of_ble_eq_true rfl, Nat.le_of_ble_eq_true rfl⟩ rfl (Nat.le_of_ble_eq_true rfl) d_H_agent_53 ⟨Nat.le_of_ble_eq_true rfl, Nat.le_of_ble_eq_true rfl⟩) X Y hA S (by decide) (fun κ39 L39 f39 H locs Y S s39 p39 => ?_)
            have k40 : κ39 h = (10, 0) := tLe_k s39.2.2.1 k0
            refine lv_iconst (v := iI 0) X.1 X.2.1 d_H_agent_56 (by decide) ?_
            have J43 : ∀ (n45 : Nat) (z42 : Int) (f41 : pF) (H : Heap) (locs : List Loc) (ls : Array Slot), (8 - z42).toNat = n45 → (0 ≤ z42) → (z42 ≤ 8) → pH D cCl (pA L sz) s.heap L39 f41 H locs → tS E T (tFr κ L [1, 2, 3, 4, 5, 6, 7, 8, 9, 10, 11, 12, 13, 14, 15, 16, 17, 18, 19, 20, 21] []) κ L f κ39 L39 f41 → lv_has ls 6 [(0, .ref h), (1, .int (iI a1)), (4, .int (iI 1)), (5, .int (iI z42))] → W p l e (kRm 8 206 2 64) s m AV below meth c H locs 2 64 QQ (F0 m 59 ls []) := by
              intro n45
              induction n45 using Nat.strongRecOn with
              | ind n45 ih44 =>
                intro z42 f41 H locs ls hm46 l42 u42 Y S hl
                refine lv_iload X.1 X.2.1 d_H_agent_59 (lv_at hl 3 rfl) ?_
                refine lv_bipush (v := iI 8) X.1 X.2.1 d_H_agent_61 (by decide) ?_
                refine z_icmp_ge (tgt := 83) X.1 X.2.1 d_H_agent_63 (by decide) ⟨by omega, by omega⟩ ⟨by omega, by omega⟩ (fun h47 => ?_) (fun h47 => ?_)
                · exact J28 κ39 L39 1 f41 _ _ _ k13 (by omega) (by omega) Y S (lv_sub hl [0, 2] rfl)
                · refine lv_aload_n X.1 X.2.1 d_H_agent_66 rfl (lv_at hl 0 rfl) ?_
                  refine t_getr (ci := 0) X Y S k13 rfl i_H 8 (by decide) rfl (k1 := 7) (k2 := 8) rfl rfl lk_H_56 (fun _ h9 => h9) d_H_agent_67 (fun b48 e48 k48 => ?_)
                  refine lv_iload X.1 X.2.1 d_H_agent_70 (lv_at hl 3 rfl) ?_
                  refine t_aald X Y S k48 (fun h9 => h9) (t0 := 4) rfl (by omega) (by omega) (by omega) d_H_agent_72 (fun b49 e49 k49 => ?_)
                  refine lv_iload_n X.1 X.2.1 d_H_agent_73 rfl (lv_at hl 1 rfl) ?_
                  refine t_nv (t_runV (As := [.int (iI a1)]) (rest := []) (n := 1) X Y S k49 hml hl.1 (c_So_leave l D E T κ39 L39 f41 H.size b49 k49 a1 (by omega) (by omega) S.1) (ok_k X Y hA KS KR) rfl kl_H_So_leave ks_So_leave kx_So_leave ki_So_leave ini_So ⟨rfl, rfl⟩ hd_So_leave ⟨Nat.le_of_ble_eq_true rfl, Nat.le_of_ble_eq_true rfl⟩ rfl (Nat.le_of_ble_eq_true rfl) d_H_agent_74 ⟨Nat.le_of_ble_eq_true rfl, Nat.le_of_ble_eq_true rfl⟩) X Y hA S (by decide) (fun f50 H locs Y S s50 p50 => ?_)
                  refine lv_iinc (v := iI (z42 + 1)) (lv' := [(5, .int (iI (z42 + 1))), (0, .ref h), (1, .int (iI a1)), (4, .int (iI 1))]) X.1 X.2.1 d_H_agent_77 hl (k := 3) rfl ((iI_add _ _).trans (congrArg iI (by omega))) (by decide) rfl (fun ls hl => ?_)
                  refine lv_goto (tgt := 59) X.1 X.2.1 d_H_agent_80 (by decide) ?_
                  exact ih44 ((8 - (z42 + 1)).toNat) (by omega) (z42 + 1) f50 _ _ _ rfl (by omega) (by omega) Y S (lv_sub hl [1, 2, 3, 0] rfl)
            refine lv_istore (lv' := [(5, .int (iI 0)), (4, .int (iI 1)), (3, .int (iI z1)), (0, .ref h), (1, .int (iI a1)), (2, .int (iI a2))]) X.1 X.2.1 d_H_agent_57 hl (by decide) rfl (fun ls hl => ?_)
            exact J43 _ 0 f39 _ _ _ rfl (by omega) (by omega) Y S (lv_sub hl [3, 4, 1, 0] rfl)
set_option maxHeartbeats 4000000 in
set_option maxRecDepth 100000 in
theorem c_H_shift (l : Launch) (D : va_G) (E : cE) (T : cT) (κ : tK) (L : List Nat) (f : pF) (sz : Nat) (h : Nat) (k0 : κ h = (10, 0)) (a1 : Int) (l_a1 : (-2147483648) ≤ a1) (u_a1 : a1 ≤ 2147483647) (a2 : Int) (l_a2 : (-2147483648) ≤ a2) (u_a2 : a2 ≤ 2147483647) (hw : tW E T κ L f) : Met l y_H_shift (k_H_shift :: lw_tg) (kRm 2 81 0 0) (va_Pc [.ref h, .int (iI a1), .int (iI a2)] (kPre D E T L f sz)) (va_Qi (nPi E T [12] κ L f (fun (z : Int) (g : pF) => 0 ≤ z ∧ z ≤ 1)) (cPost D E (pA L sz)) (pA L sz)) 0 0 (pA L sz) := by
  refine k_enter (own := R_H) (by decide) rfl (Nat.le_of_ble_eq_true rfl) (fun p e s m below meth c ls AV QQ H locs hQQ X Y hA hin hr hlk hml hl KS KR => ?_)
  have hl : lv_has ls 3 [(0, .ref h), (1, .int (iI a1)), (2, .int (iI a2))] := hl
  have S : tS E T (tFr κ L [12] []) κ L f κ L f := tS_rf hw
  refine lv_aload_n X.1 X.2.1 d_H_shift_0 rfl (lv_at hl 0 rfl) ?_
  refine lv_iload_n X.1 X.2.1 d_H_shift_1 rfl (lv_at hl 1 rfl) ?_
  refine t_ui (t_runV (As := [.int (iI a1)]) (rest := []) (n := 1) X Y S k0 hml hl.1 (c_H_isAgent l D E T κ L f H.size h k0 a1 (by omega) (by omega) S.1) (ok_k X Y hA KS KR) rfl kl_H_H_isAgent ks_H_isAgent kx_H_isAgent ki_H_isAgent ini_H ⟨rfl, rfl⟩ hd_H_isAgent ⟨Nat.le_of_ble_eq_true rfl, Nat.le_of_ble_eq_true rfl⟩ rfl (Nat.le_of_ble_eq_true rfl) d_H_shift_2 ⟨Nat.le_of_ble_eq_true rfl, Nat.le_of_ble_eq_true rfl⟩) X Y hA (fun z1 H locs Y p1 => ?_)
  obtain ⟨l1, u1, x1⟩ := p1
  refine z_if_eq (tgt := 20) X.1 X.2.1 d_H_shift_5 (by decide) ⟨by omega, by omega⟩ (fun h2 => ?_) (fun h2 => ?_)
  · refine lv_iconst (v := iI 0) X.1 X.2.1 d_H_shift_20 (by decide) ?_
    exact c_retz hQQ X Y hr hlk (iI_bool (by omega) (by omega)).1 ⟨rfl, S, 0, rfl, ⟨by omega, by omega⟩⟩ d_H_shift_21
  · refine lv_iload_n X.1 X.2.1 d_H_shift_8 rfl (lv_at hl 2 rfl) ?_
    refine lv_ldc (v := (-100000)) X.1 X.2.1 X.2.2.2.1 (X.2.2.1 _ cn_H_191) d_H_shift_9 ?_
    refine t_eq (y := iI (-100000)) (by decide) ?_
    refine z_icmp_lt (tgt := 20) X.1 X.2.1 d_H_shift_11 (by decide) ⟨by omega, by omega⟩ ⟨by omega, by omega⟩ (fun h3 => ?_) (fun h3 => ?_)
    · refine lv_iconst (v := iI 0) X.1 X.2.1 d_H_shift_20 (by decide) ?_
      exact c_retz hQQ X Y hr hlk (iI_bool (by omega) (by omega)).1 ⟨rfl, S, 0, rfl, ⟨by omega, by omega⟩⟩ d_H_shift_21
    · refine lv_iload_n X.1 X.2.1 d_H_shift_14 rfl (lv_at hl 2 rfl) ?_
      refine lv_ldc (v := (100000)) X.1 X.2.1 X.2.2.2.1 (X.2.2.1 _ cn_H_192) d_H_shift_15 ?_
      refine t_eq (y := iI 100000) (by decide) ?_
      refine z_icmp_le (tgt := 22) X.1 X.2.1 d_H_shift_17 (by decide) ⟨by omega, by omega⟩ ⟨by omega, by omega⟩ (fun h4 => ?_) (fun h4 => ?_)
      · refine lv_aload_n X.1 X.2.1 d_H_shift_22 rfl (lv_at hl 0 rfl) ?_
        refine t_getr (ci := 0) X Y S k0 rfl i_H 7 (by decide) rfl (k1 := 6) (k2 := 4) rfl rfl lk_H_49 (fun _ h9 => h9) d_H_shift_23 (fun b5 e5 k5 => ?_)
        refine lv_iload_n X.1 X.2.1 d_H_shift_26 rfl (lv_at hl 1 rfl) ?_
        refine t_aald X Y S k5 (fun h9 => h9) (t0 := 3) rfl (by omega) (by omega) (by omega) d_H_shift_27 (fun b6 e6 k6 => ?_)
        refine lv_iload_n X.1 X.2.1 d_H_shift_28 rfl (lv_at hl 2 rfl) ?_
        refine t_put (ci := 2) X Y S k6 rfl i_Ag t_Ag t_Ag_ok n_Ag 3 (by decide) rfl lk_H_193 (fun _ h9 => h9) rfl (t_Ag_ok 3 (by decide)) rfl rfl ⟨_, rfl, by omega, by omega⟩ (fun h9 => h9.2.1 (by rw [← (S.2.2.2 _ h9).2, k6]; decide)) d_H_shift_29 (fun f7 H locs Y S w7 => ?_)
        refine lv_iconst (v := iI 1) X.1 X.2.1 d_H_shift_32 (by decide) ?_
        exact c_retz hQQ X Y hr hlk (iI_bool (by omega) (by omega)).1 ⟨rfl, S, 1, rfl, ⟨by omega, by omega⟩⟩ d_H_shift_33
      · refine lv_iconst (v := iI 0) X.1 X.2.1 d_H_shift_20 (by decide) ?_
        exact c_retz hQQ X Y hr hlk (iI_bool (by omega) (by omega)).1 ⟨rfl, S, 0, rfl, ⟨by omega, by omega⟩⟩ d_H_shift_21
set_option maxHeartbeats 4000000 in
set_option maxRecDepth 100000 in
theorem c_H_request (l : Launch) (D : va_G) (E : cE) (T : cT) (κ : tK) (L : List Nat) (f : pF) (sz : Nat) (h : Nat) (k0 : κ h = (10, 0)) (a1 : Int) (l_a1 : (-2147483648) ≤ a1) (u_a1 : a1 ≤ 2147483647) (a2 : Int) (l_a2 : (-2147483648) ≤ a2) (u_a2 : a2 ≤ 2147483647) (a3 : Int) (l_a3 : (-2147483648) ≤ a3) (u_a3 : a3 ≤ 2147483647) (a4 : Int) (l_a4 : (-2147483648) ≤ a4) (u_a4 : a4 ≤ 2147483647) (a5 : Int) (l_a5 : (-2147483648) ≤ a5) (u_a5 : a5 ≤ 2147483647) (a6 : Int) (l_a6 : (-2147483648) ≤ a6) (u_a6 : a6 ≤ 2147483647) (a7 : Int) (l_a7 : (-2147483648) ≤ a7) (u_a7 : a7 ≤ 2147483647) (hw : tW E T κ L f) : Met l y_H_request (k_H_request :: lw_tg) (kRm 9 244 1 32) (va_Pc [.ref h, .int (iI a1), .int (iI a2), .int (iI a3), .int (iI a4), .int (iI a5), .int (iI a6), .int (iI a7)] (kPre D E T L f sz)) (va_Qi (aPi E T [1, 2, 3, 4, 5, 6, 7, 8, 9, 10, 11, 12, 13, 14, 15, 16, 17, 18, 19, 20, 21] [] κ L f (fun (z : Int) (k : tK) (g : pF) => (-2147483648) ≤ z ∧ z ≤ 2147483647)) (cPost D E (pA L sz)) (pA L sz)) 1 32 (pA L sz) := by
  refine k_enter (own := R_H) (by decide) rfl (Nat.le_of_ble_eq_true rfl) (fun p e s m below meth c ls AV QQ H locs hQQ X Y hA hin hr hlk hml hl KS KR => ?_)
  have hl : lv_has ls 9 [(0, .ref h), (1, .int (iI a1)), (2, .int (iI a2)), (3, .int (iI a3)), (4, .int (iI a4)), (5, .int (iI a5)), (6, .int (iI a6)), (7, .int (iI a7))] := hl
  have S : tS E T (tFr κ L [1, 2, 3, 4, 5, 6, 7, 8, 9, 10, 11, 12, 13, 14, 15, 16, 17, 18, 19, 20, 21] []) κ L f κ L f := tS_rf hw
  have hF0 : ∀ b, tFr κ L [1, 2, 3, 4, 5, 6, 7, 8, 9, 10, 11, 12, 13, 14, 15, 16, 17, 18, 19, 20, 21] [] b → b ∈ L := fun b h9 => h9.1
  refine lv_aload_n X.1 X.2.1 d_H_request_0 rfl (lv_at hl 0 rfl) ?_
  refine lv_iload_n X.1 X.2.1 d_H_request_1 rfl (lv_at hl 1 rfl) ?_
  refine t_ui (t_runV (As := [.int (iI a1)]) (rest := []) (n := 1) X Y S k0 hml hl.1 (c_H_isAgent l D E T κ L f H.size h k0 a1 (by omega) (by omega) S.1) (ok_k X Y hA KS KR) rfl kl_H_H_isAgent ks_H_isAgent kx_H_isAgent ki_H_isAgent ini_H ⟨rfl, rfl⟩ hd_H_isAgent ⟨Nat.le_of_ble_eq_true rfl, Nat.le_of_ble_eq_true rfl⟩ rfl (Nat.le_of_ble_eq_true rfl) d_H_request_2 ⟨Nat.le_of_ble_eq_true rfl, Nat.le_of_ble_eq_true rfl⟩) X Y hA (fun z1 H locs Y p1 => ?_)
  obtain ⟨l1, u1, x1⟩ := p1
  have J3 : ∀ (f2 : pF) (H : Heap) (locs : List Loc) (ls : Array Slot), pH D cCl (pA L sz) s.heap L f2 H locs → tS E T (tFr κ L [1, 2, 3, 4, 5, 6, 7, 8, 9, 10, 11, 12, 13, 14, 15, 16, 17, 18, 19, 20, 21] []) κ L f κ L f2 → lv_has ls 9 [(0, .ref h), (1, .int (iI a1)), (2, .int (iI a2)), (3, .int (iI a3)), (4, .int (iI a4)), (5, .int (iI a5)), (6, .int (iI a6)), (7, .int (iI a7))] → W p l e (kRm 9 244 1 32) s m AV below meth c H locs 0 0 QQ (F0 m 74 ls []) := by
    intro f2 H locs ls  Y S hl
    refine lv_iconst (v := iI 0) X.1 X.2.1 d_H_request_74 (by decide) ?_
    refine lv_istore (lv' := [(8, .int (iI 0)), (0, .ref h), (1, .int (iI a1)), (2, .int (iI a2)), (3, .int (iI a3)), (4, .int (iI a4)), (5, .int (iI a5)), (6, .int (iI a6)), (7, .int (iI a7))]) X.1 X.2.1 d_H_request_75 hl (by decide) rfl (fun ls hl => ?_)
    refine lv_aload_n X.1 X.2.1 d_H_request_77 rfl (lv_at hl 1 rfl) ?_
    refine t_getr (ci := 0) X Y S k0 rfl i_H 1 (by decide) rfl (k1 := 13) (k2 := 4000) rfl rfl lk_H_21 (fun _ h9 => h9) d_H_request_78 (fun b7 e7 k7 => ?_)
    refine t_nv (t_runV (As := []) (rest := []) (n := 0) X Y S k7 hml hl.1 (c_By_clear l D E T κ L f2 H.size b7 4000 k7 (by omega) S.1) (ok_k X Y hA KS KR) rfl kl_H_By_clear ks_By_clear kx_By_clear ki_By_clear ini_By ⟨rfl, rfl⟩ hd_By_clear ⟨Nat.le_of_ble_eq_true rfl, Nat.le_of_ble_eq_true rfl⟩ rfl (Nat.le_of_ble_eq_true rfl) d_H_request_81 ⟨Nat.le_of_ble_eq_true rfl, Nat.le_of_ble_eq_true rfl⟩) X Y hA S (by decide) (fun f8 H locs Y S s8 p8 => ?_)
    refine lv_iload X.1 X.2.1 d_H_request_84 (lv_at hl 0 rfl) ?_
    refine z_if_ne (tgt := 91) X.1 X.2.1 d_H_request_86 (by decide) ⟨by omega, by omega⟩ (fun h9 => False.elim (by omega)) (fun h9 => ?_)
    · refine lv_iconst (v := iI (-1)) X.1 X.2.1 d_H_request_89 (by decide) ?_
      refine W.widen (k := 1) (n := 32) (Nat.le_of_ble_eq_true rfl) (Nat.le_of_ble_eq_true rfl) ?_
      exact c_reti hQQ X Y hr hlk ⟨κ, S, (-1), rfl, ⟨by omega, by omega⟩⟩ d_H_request_90
  refine z_if_eq (tgt := 74) X.1 X.2.1 d_H_request_5 (by decide) ⟨by omega, by omega⟩ (fun h10 => ?_) (fun h10 => ?_)
  · exact J3 f _ _ _  Y S (lv_sub hl [0, 1, 2, 3, 4, 5, 6, 7] rfl)
  · refine lv_iload_n X.1 X.2.1 d_H_request_8 rfl (lv_at hl 2 rfl) ?_
    refine z_if_lt (tgt := 74) X.1 X.2.1 d_H_request_9 (by decide) ⟨by omega, by omega⟩ (fun h11 => ?_) (fun h11 => ?_)
    · exact J3 f _ _ _  Y S (lv_sub hl [0, 1, 2, 3, 4, 5, 6, 7] rfl)
    · refine lv_iload_n X.1 X.2.1 d_H_request_12 rfl (lv_at hl 2 rfl) ?_
      refine lv_iconst (v := iI 2) X.1 X.2.1 d_H_request_13 (by decide) ?_
      refine z_icmp_gt (tgt := 74) X.1 X.2.1 d_H_request_14 (by decide) ⟨by omega, by omega⟩ ⟨by omega, by omega⟩ (fun h12 => ?_) (fun h12 => ?_)
      · exact J3 f _ _ _  Y S (lv_sub hl [0, 1, 2, 3, 4, 5, 6, 7] rfl)
      · refine lv_iload X.1 X.2.1 d_H_request_17 (lv_at hl 5 rfl) ?_
        refine lv_iconst (v := iI 1) X.1 X.2.1 d_H_request_19 (by decide) ?_
        refine z_icmp_lt (tgt := 74) X.1 X.2.1 d_H_request_20 (by decide) ⟨by omega, by omega⟩ ⟨by omega, by omega⟩ (fun h13 => ?_) (fun h13 => ?_)
        · exact J3 f _ _ _  Y S (lv_sub hl [0, 1, 2, 3, 4, 5, 6, 7] rfl)
        · refine lv_iload X.1 X.2.1 d_H_request_23 (lv_at hl 5 rfl) ?_
          refine lv_iconst (v := iI 4) X.1 X.2.1 d_H_request_25 (by decide) ?_
          refine z_icmp_gt (tgt := 74) X.1 X.2.1 d_H_request_26 (by decide) ⟨by omega, by omega⟩ ⟨by omega, by omega⟩ (fun h14 => ?_) (fun h14 => ?_)
          · exact J3 f _ _ _  Y S (lv_sub hl [0, 1, 2, 3, 4, 5, 6, 7] rfl)
          · refine lv_iload X.1 X.2.1 d_H_request_29 (lv_at hl 6 rfl) ?_
            refine t_ui (x_runS (As := [.int (iI a6)]) (rest := []) (n := 1) X hml hl.1 (c_H_isSpan l D E T κ L f H.size a6 (by omega) (by omega) S.1) (ok_k X Y hA KS KR) kl_H_H_isSpan ks_H_isSpan ki_H_isSpan ini_H ⟨rfl, rfl⟩ hd_H_isSpan.2 ⟨Nat.le_of_ble_eq_true rfl, Nat.le_of_ble_eq_true rfl⟩ rfl (Nat.le_of_ble_eq_true rfl) d_H_request_31 ⟨Nat.le_of_ble_eq_true rfl, Nat.le_of_ble_eq_true rfl⟩) X Y hA (fun z15 H locs Y p15 => ?_)
            obtain ⟨l15, u15⟩ := p15
            refine z_if_eq (tgt := 74) X.1 X.2.1 d_H_request_34 (by decide) ⟨by omega, by omega⟩ (fun h16 => ?_) (fun h16 => ?_)
            · exact J3 f _ _ _  Y S (lv_sub hl [0, 1, 2, 3, 4, 5, 6, 7] rfl)
            · refine lv_iload X.1 X.2.1 d_H_request_37 (lv_at hl 7 rfl) ?_
              refine t_ui (x_runS (As := [.int (iI a7)]) (rest := []) (n := 1) X hml hl.1 (c_H_isSpan l D E T κ L f H.size a7 (by omega) (by omega) S.1) (ok_k X Y hA KS KR) kl_H_H_isSpan ks_H_isSpan ki_H_isSpan ini_H ⟨rfl, rfl⟩ hd_H_isSpan.2 ⟨Nat.le_of_ble_eq_true rfl, Nat.le_of_ble_eq_true rfl⟩ rfl (Nat.le_of_ble_eq_true rfl) d_H_request_39 ⟨Nat.le_of_ble_eq_true rfl, Nat.le_of_ble_eq_true rfl⟩) X Y hA (fun z17 H locs Y p17 => ?_)
              obtain ⟨l17, u17⟩ := p17
              refine z_if_eq (tgt := 74) X.1 X.2.1 d_H_request_42 (by decide) ⟨by omega, by omega⟩ (fun h18 => ?_) (fun h18 => ?_)
              · exact J3 f _ _ _  Y S (lv_sub hl [0, 1, 2, 3, 4, 5, 6, 7] rfl)
              · refine lv_iload_n X.1 X.2.1 d_H_request_45 rfl (lv_at hl 2 rfl) ?_
                refine lv_iconst (v := iI 2) X.1 X.2.1 d_H_request_46 (by decide) ?_
                have J19 : ∀  (H : Heap) (locs : List Loc) (ls : Array Slot), pH D cCl (pA L sz) s.heap L f H locs → tS E T (tFr κ L [1, 2, 3, 4, 5, 6, 7, 8, 9, 10, 11, 12, 13, 14, 15, 16, 17, 18, 19, 20, 21] []) κ L f κ L f → lv_has ls 9 [(0, .ref h), (1, .int (iI a1)), (2, .int (iI a2)), (3, .int (iI a3)), (4, .int (iI a4)), (5, .int (iI a5)), (6, .int (iI a6)), (7, .int (iI a7))] → W p l e (kRm 9 244 1 32) s m AV below meth c H locs 0 0 QQ (F0 m 63 ls []) := by
                  intro  H locs ls  Y S hl
                  refine lv_aload_n X.1 X.2.1 d_H_request_63 rfl (lv_at hl 0 rfl) ?_
                  refine t_ni (t_runV (As := []) (rest := []) (n := 0) X Y S k0 hml hl.1 (c_H_readService l D E T κ L f H.size h k0 S.1) (ok_k X Y hA KS KR) rfl kl_H_H_readService ks_H_readService kx_H_readService ki_H_readService ini_H ⟨rfl, rfl⟩ hd_H_readService ⟨Nat.le_of_ble_eq_true rfl, Nat.le_of_ble_eq_true rfl⟩ rfl (Nat.le_of_ble_eq_true rfl) d_H_request_64 ⟨Nat.le_of_ble_eq_true rfl, Nat.le_of_ble_eq_true rfl⟩) X Y hA S (by decide) (fun z23 f23 H locs Y S s23 p23 => ?_)
                  obtain ⟨l23, u23⟩ := p23
                  refine z_if_eq (tgt := 74) X.1 X.2.1 d_H_request_67 (by decide) ⟨by omega, by omega⟩ (fun h24 => ?_) (fun h24 => ?_)
                  · exact J3 f23 _ _ _  Y S (lv_sub hl [0, 1, 2, 3, 4, 5, 6, 7] rfl)
                  · refine lv_iconst (v := iI 1) X.1 X.2.1 d_H_request_70 (by decide) ?_
                    refine lv_goto (tgt := 75) X.1 X.2.1 d_H_request_71 (by decide) ?_
                    refine lv_istore (lv' := [(8, .int (iI 1)), (0, .ref h), (1, .int (iI a1)), (2, .int (iI a2)), (3, .int (iI a3)), (4, .int (iI a4)), (5, .int (iI a5)), (6, .int (iI a6)), (7, .int (iI a7))]) X.1 X.2.1 d_H_request_75 hl (by decide) rfl (fun ls hl => ?_)
                    refine lv_aload_n X.1 X.2.1 d_H_request_77 rfl (lv_at hl 1 rfl) ?_
                    refine t_getr (ci := 0) X Y S k0 rfl i_H 1 (by decide) rfl (k1 := 13) (k2 := 4000) rfl rfl lk_H_21 (fun _ h9 => h9) d_H_request_78 (fun b25 e25 k25 => ?_)
                    refine t_nv (t_runV (As := []) (rest := []) (n := 0) X Y S k25 hml hl.1 (c_By_clear l D E T κ L f23 H.size b25 4000 k25 (by omega) S.1) (ok_k X Y hA KS KR) rfl kl_H_By_clear ks_By_clear kx_By_clear ki_By_clear ini_By ⟨rfl, rfl⟩ hd_By_clear ⟨Nat.le_of_ble_eq_true rfl, Nat.le_of_ble_eq_true rfl⟩ rfl (Nat.le_of_ble_eq_true rfl) d_H_request_81 ⟨Nat.le_of_ble_eq_true rfl, Nat.le_of_ble_eq_true rfl⟩) X Y hA S (by decide) (fun f26 H locs Y S s26 p26 => ?_)
                    refine lv_iload X.1 X.2.1 d_H_request_84 (lv_at hl 0 rfl) ?_
                    refine z_if_ne (tgt := 91) X.1 X.2.1 d_H_request_86 (by decide) ⟨by omega, by omega⟩ (fun h27 => ?_) (fun h27 => False.elim (by omega))
                    · refine lv_aload_n X.1 X.2.1 d_H_request_91 rfl (lv_at hl 1 rfl) ?_
                      refine t_getr (ci := 0) X Y S k0 rfl i_H 7 (by decide) rfl (k1 := 6) (k2 := 4) rfl rfl lk_H_49 (fun _ h9 => h9) d_H_request_92 (fun b28 e28 k28 => ?_)
                      refine lv_iload_n X.1 X.2.1 d_H_request_95 rfl (lv_at hl 2 rfl) ?_
                      refine t_aald X Y S k28 (fun h9 => h9) (t0 := 3) rfl (by omega) (by omega) (by omega) d_H_request_96 (fun b29 e29 k29 => ?_)
                      refine lv_iload_n X.1 X.2.1 d_H_request_97 rfl (lv_at hl 3 rfl) ?_
                      refine lv_iload_n X.1 X.2.1 d_H_request_98 rfl (lv_at hl 4 rfl) ?_
                      refine lv_iload X.1 X.2.1 d_H_request_99 (lv_at hl 5 rfl) ?_
                      refine lv_iload X.1 X.2.1 d_H_request_101 (lv_at hl 6 rfl) ?_
                      refine lv_aload_n X.1 X.2.1 d_H_request_103 rfl (lv_at hl 1 rfl) ?_
                      refine t_getr (ci := 0) X Y S k0 rfl i_H 3 (by decide) rfl (k1 := 13) (k2 := 40) rfl rfl lk_H_28 (fun _ h9 => h9) d_H_request_104 (fun b30 e30 k30 => ?_)
                      refine t_av (t_runV (As := [.int (iI a2), .int (iI a3), .int (iI a4), .int (iI a5), .ref b30]) (rest := []) (n := 5) X Y S k29 hml hl.1 (c_Ag_keepAsked l D E T κ L f26 H.size b29 k29 a2 (by omega) (by omega) a3 (by omega) (by omega) a4 (by omega) (by omega) a5 (by omega) (by omega) b30 40 k30 (by omega) S.1) (ok_k X Y hA KS KR) rfl kl_H_Ag_keepAsked ks_Ag_keepAsked kx_Ag_keepAsked ki_Ag_keepAsked ini_Ag ⟨rfl, rfl⟩ hd_Ag_keepAsked ⟨Nat.le_of_ble_eq_true rfl, Nat.le_of_ble_eq_true rfl⟩ rfl (Nat.le_of_ble_eq_true rfl) d_H_request_107 ⟨Nat.le_of_ble_eq_true rfl, Nat.le_of_ble_eq_true rfl⟩) X Y hA S (by decide) (fun κ31 L31 f31 H locs Y S s31 p31 => ?_)
                      have k32 : κ31 h = (10, 0) := tLe_k s31.2.2.1 k0
                      refine lv_aload_n X.1 X.2.1 d_H_request_110 rfl (lv_at hl 1 rfl) ?_
                      refine t_getr (ci := 0) X Y S k32 rfl i_H 7 (by decide) rfl (k1 := 6) (k2 := 4) rfl rfl lk_H_49 (fun _ h9 => h9) d_H_request_111 (fun b33 e33 k33 => ?_)
                      refine lv_iload_n X.1 X.2.1 d_H_request_114 rfl (lv_at hl 2 rfl) ?_
                      refine t_aald X Y S k33 (fun h9 => h9) (t0 := 3) rfl (by omega) (by omega) (by omega) d_H_request_115 (fun b34 e34 k34 => ?_)
                      refine lv_iload X.1 X.2.1 d_H_request_116 (lv_at hl 5 rfl) ?_
                      refine lv_iload X.1 X.2.1 d_H_request_118 (lv_at hl 7 rfl) ?_
                      refine lv_iload X.1 X.2.1 d_H_request_120 (lv_at hl 8 rfl) ?_
                      refine t_nv (t_runV (As := [.int (iI a4), .int (iI a6), .int (iI a7)]) (rest := []) (n := 3) X Y S k34 hml hl.1 (c_Ag_putBody l D E T κ31 L31 f31 H.size b34 k34 a4 (by omega) (by omega) a6 (by omega) (by omega) a7 (by omega) (by omega) S.1) (ok_k X Y hA KS KR) rfl kl_H_Ag_putBody ks_Ag_putBody kx_Ag_putBody ki_Ag_putBody ini_Ag ⟨rfl, rfl⟩ hd_Ag_putBody ⟨Nat.le_of_ble_eq_true rfl, Nat.le_of_ble_eq_true rfl⟩ rfl (Nat.le_of_ble_eq_true rfl) d_H_request_122 ⟨Nat.le_of_ble_eq_true rfl, Nat.le_of_ble_eq_true rfl⟩) X Y hA S (by decide) (fun f35 H locs Y S s35 p35 => ?_)
                      refine lv_aload_n X.1 X.2.1 d_H_request_125 rfl (lv_at hl 1 rfl) ?_
                      refine t_get0 (ci := 0) X Y S k32 rfl i_H 7 (by decide) rfl lk_H_49 (fun _ h9 => h9) d_H_request_126 ((gF_same (s35.2.2.2 _ ⟨(t_obj S.1 k32).1, by rw [k32]; decide, by simp⟩).1 7).trans e33) ?_
                      refine lv_iload_n X.1 X.2.1 d_H_request_129 rfl (lv_at hl 2 rfl) ?_
                      refine t_aald X Y S k33 (fun h9 => h9) (t0 := 3) rfl (by omega) (by omega) (by omega) d_H_request_130 (fun b36 e36 k36 => ?_)
                      refine lv_iload_n X.1 X.2.1 d_H_request_131 rfl (lv_at hl 4 rfl) ?_
                      refine lv_aload_n X.1 X.2.1 d_H_request_132 rfl (lv_at hl 1 rfl) ?_
                      refine t_getr (ci := 0) X Y S k32 rfl i_H 2 (by decide) rfl (k1 := 13) (k2 := 12288) rfl rfl lk_H_25 (fun _ h9 => h9) d_H_request_133 (fun b37 e37 k37 => ?_)
                      refine t_nv (t_runV (As := [.int (iI a3), .ref b37]) (rest := []) (n := 2) X Y S k36 hml hl.1 (c_Ag_putRequest l D E T κ31 L31 f35 H.size b36 k36 a3 (by omega) (by omega) b37 12288 k37 (by omega) S.1) (ok_k X Y hA KS KR) rfl kl_H_Ag_putRequest ks_Ag_putRequest kx_Ag_putRequest ki_Ag_putRequest ini_Ag ⟨rfl, rfl⟩ hd_Ag_putRequest ⟨Nat.le_of_ble_eq_true rfl, Nat.le_of_ble_eq_true rfl⟩ rfl (Nat.le_of_ble_eq_true rfl) d_H_request_136 ⟨Nat.le_of_ble_eq_true rfl, Nat.le_of_ble_eq_true rfl⟩) X Y hA S (by decide) (fun f38 H locs Y S s38 p38 => ?_)
                      refine lv_aload_n X.1 X.2.1 d_H_request_139 rfl (lv_at hl 1 rfl) ?_
                      refine t_get0 (ci := 0) X Y S k32 rfl i_H 2 (by decide) rfl lk_H_25 (fun _ h9 => h9) d_H_request_140 ((gF_same (s38.2.2.2 _ ⟨(t_obj S.1 k32).1, by rw [k32]; decide, by simp⟩).1 2).trans e37) ?_
                      refine t_gets (ci := 3) X Y S k37 rfl i_By 1 (by decide) rfl lk_H_81 (fun _ h9 => h9) d_H_request_143 (fun z39 e39 l39 u39 => ?_)
                      exact c_reti hQQ X Y hr hlk ⟨κ31, S, z39, rfl, ⟨by omega, by omega⟩⟩ d_H_request_146
                refine z_icmp_ne (tgt := 63) X.1 X.2.1 d_H_request_47 (by decide) ⟨by omega, by omega⟩ ⟨by omega, by omega⟩ (fun h40 => ?_) (fun h40 => ?_)
                · exact J19  _ _ _  Y S (lv_sub hl [0, 1, 2, 3, 4, 5, 6, 7] rfl)
                · refine lv_aload_n X.1 X.2.1 d_H_request_50 rfl (lv_at hl 0 rfl) ?_
                  refine t_getr (ci := 0) X Y S k0 rfl i_H 7 (by decide) rfl (k1 := 6) (k2 := 4) rfl rfl lk_H_49 (fun _ h9 => h9) d_H_request_51 (fun b41 e41 k41 => ?_)
                  refine lv_iload_n X.1 X.2.1 d_H_request_54 rfl (lv_at hl 1 rfl) ?_
                  refine t_aald X Y S k41 (fun h9 => h9) (t0 := 3) rfl (by omega) (by omega) (by omega) d_H_request_55 (fun b42 e42 k42 => ?_)
                  refine lv_iload_n X.1 X.2.1 d_H_request_56 rfl (lv_at hl 3 rfl) ?_
                  refine t_ui (t_runV (As := [.int (iI a3)]) (rest := []) (n := 1) X Y S k42 hml hl.1 (c_Ag_has l D E T κ L f H.size b42 k42 a3 (by omega) (by omega) S.1) (ok_k X Y hA KS KR) rfl kl_H_Ag_has ks_Ag_has kx_Ag_has ki_Ag_has ini_Ag ⟨rfl, rfl⟩ hd_Ag_has ⟨Nat.le_of_ble_eq_true rfl, Nat.le_of_ble_eq_true rfl⟩ rfl (Nat.le_of_ble_eq_true rfl) d_H_request_57 ⟨Nat.le_of_ble_eq_true rfl, Nat.le_of_ble_eq_true rfl⟩) X Y hA (fun z43 H locs Y p43 => ?_)
                  obtain ⟨l43, u43, x43⟩ := p43
                  refine z_if_eq (tgt := 74) X.1 X.2.1 d_H_request_60 (by decide) ⟨by omega, by omega⟩ (fun h44 => ?_) (fun h44 => ?_)
                  · exact J3 f _ _ _  Y S (lv_sub hl [0, 1, 2, 3, 4, 5, 6, 7] rfl)
                  · exact J19  _ _ _  Y S (lv_sub hl [0, 1, 2, 3, 4, 5, 6, 7] rfl)
set_option maxHeartbeats 4000000 in
set_option maxRecDepth 100000 in
theorem c_H_take (l : Launch) (D : va_G) (E : cE) (T : cT) (κ : tK) (L : List Nat) (f : pF) (sz : Nat) (h : Nat) (k0 : κ h = (10, 0)) (a1 : Int) (l_a1 : (-2147483648) ≤ a1) (u_a1 : a1 ≤ 2147483647) (hw : tW E T κ L f) : Met l y_H_take (k_H_take :: lw_tg) (kRm 73 2417 3 4035) (va_Pc [.ref h, .int (iI a1)] (kPre D E T L f sz)) (va_Qi (aPi E T [1, 2, 3, 4, 5, 6, 7, 8, 9, 10, 11, 12, 13, 14, 15, 16, 17, 18, 19, 20, 21] [] κ L f (fun (z : Int) (k : tK) (g : pF) => (-2147483648) ≤ z ∧ z ≤ 2147483647)) (cPost D E (pA L sz)) (pA L sz)) 3 4035 (pA L sz) := by
  refine k_enter (own := R_H) (by decide) rfl (Nat.le_of_ble_eq_true rfl) (fun p e s m below meth c ls AV QQ H locs hQQ X Y hA hin hr hlk hml hl KS KR => ?_)
  have hl : lv_has ls 3 [(0, .ref h), (1, .int (iI a1))] := hl
  have S : tS E T (tFr κ L [1, 2, 3, 4, 5, 6, 7, 8, 9, 10, 11, 12, 13, 14, 15, 16, 17, 18, 19, 20, 21] []) κ L f κ L f := tS_rf hw
  have hF0 : ∀ b, tFr κ L [1, 2, 3, 4, 5, 6, 7, 8, 9, 10, 11, 12, 13, 14, 15, 16, 17, 18, 19, 20, 21] [] b → b ∈ L := fun b h9 => h9.1
  refine lv_aload_n X.1 X.2.1 d_H_take_0 rfl (lv_at hl 0 rfl) ?_
  refine lv_iload_n X.1 X.2.1 d_H_take_1 rfl (lv_at hl 1 rfl) ?_
  refine t_ui (t_runV (As := [.int (iI a1)]) (rest := []) (n := 1) X Y S k0 hml hl.1 (c_H_isAgent l D E T κ L f H.size h k0 a1 (by omega) (by omega) S.1) (ok_k X Y hA KS KR) rfl kl_H_H_isAgent ks_H_isAgent kx_H_isAgent ki_H_isAgent ini_H ⟨rfl, rfl⟩ hd_H_isAgent ⟨Nat.le_of_ble_eq_true rfl, Nat.le_of_ble_eq_true rfl⟩ rfl (Nat.le_of_ble_eq_true rfl) d_H_take_2 ⟨Nat.le_of_ble_eq_true rfl, Nat.le_of_ble_eq_true rfl⟩) X Y hA (fun z1 H locs Y p1 => ?_)
  obtain ⟨l1, u1, x1⟩ := p1
  have J7 : ∀ (κ3 : tK) (L4 : List Nat) (z6 : Int) (f2 : pF) (H : Heap) (locs : List Loc) (ls : Array Slot), (κ3 h = (10, 0)) → ((-2147483648) ≤ z6) → (z6 ≤ 2147483647) → pH D cCl (pA L sz) s.heap L4 f2 H locs → tS E T (tFr κ L [1, 2, 3, 4, 5, 6, 7, 8, 9, 10, 11, 12, 13, 14, 15, 16, 17, 18, 19, 20, 21] []) κ L f κ3 L4 f2 → lv_has ls 3 [(0, .ref h)] → W p l e (kRm 73 2417 3 4035) s m AV below meth c H locs 3 4035 QQ (F0 m 25 ls [.int (iI z6)]) := by
    intro κ3 L4 z6 f2 H locs ls k5 l6 u6 Y S hl
    refine lv_istore_n (lv' := [(2, .int (iI z6)), (0, .ref h)]) X.1 X.2.1 d_H_take_25 rfl hl (by decide) rfl (fun ls hl => ?_)
    refine lv_aload_n X.1 X.2.1 d_H_take_26 rfl (lv_at hl 1 rfl) ?_
    refine t_getr (ci := 0) X Y S k5 rfl i_H 1 (by decide) rfl (k1 := 13) (k2 := 4000) rfl rfl lk_H_21 (fun _ h9 => h9) d_H_take_27 (fun b11 e11 k11 => ?_)
    refine t_nv (t_runV (As := []) (rest := []) (n := 0) X Y S k11 hml hl.1 (c_By_clear l D E T κ3 L4 f2 H.size b11 4000 k11 (by omega) S.1) (ok_k X Y hA KS KR) rfl kl_H_By_clear ks_By_clear kx_By_clear ki_By_clear ini_By ⟨rfl, rfl⟩ hd_By_clear ⟨Nat.le_of_ble_eq_true rfl, Nat.le_of_ble_eq_true rfl⟩ rfl (Nat.le_of_ble_eq_true rfl) d_H_take_30 ⟨Nat.le_of_ble_eq_true rfl, Nat.le_of_ble_eq_true rfl⟩) X Y hA S (by decide) (fun f12 H locs Y S s12 p12 => ?_)
    refine lv_iload_n X.1 X.2.1 d_H_take_33 rfl (lv_at hl 0 rfl) ?_
    exact c_reti hQQ X Y hr hlk ⟨κ3, S, z6, rfl, ⟨by omega, by omega⟩⟩ d_H_take_34
  refine z_if_eq (tgt := 24) X.1 X.2.1 d_H_take_5 (by decide) ⟨by omega, by omega⟩ (fun h13 => ?_) (fun h13 => ?_)
  · refine lv_iconst (v := iI (-1)) X.1 X.2.1 d_H_take_24 (by decide) ?_
    refine W.widen (k := 3) (n := 4035) (Nat.le_of_ble_eq_true rfl) (Nat.le_of_ble_eq_true rfl) ?_
    exact J7 κ L ((-1)) f _ _ _ k0 (by omega) (by omega) Y S (lv_sub hl [0] rfl)
  · refine lv_aload_n X.1 X.2.1 d_H_take_8 rfl (lv_at hl 0 rfl) ?_
    refine t_getr (ci := 0) X Y S k0 rfl i_H 7 (by decide) rfl (k1 := 6) (k2 := 4) rfl rfl lk_H_49 (fun _ h9 => h9) d_H_take_9 (fun b14 e14 k14 => ?_)
    refine lv_iload_n X.1 X.2.1 d_H_take_12 rfl (lv_at hl 1 rfl) ?_
    refine t_aald X Y S k14 (fun h9 => h9) (t0 := 3) rfl (by omega) (by omega) (by omega) d_H_take_13 (fun b15 e15 k15 => ?_)
    refine lv_aload_n X.1 X.2.1 d_H_take_14 rfl (lv_at hl 0 rfl) ?_
    refine t_getr (ci := 0) X Y S k0 rfl i_H 1 (by decide) rfl (k1 := 13) (k2 := 4000) rfl rfl lk_H_21 (fun _ h9 => h9) d_H_take_15 (fun b16 e16 k16 => ?_)
    refine t_ai (t_runV (As := [.ref b16]) (rest := []) (n := 1) X Y S k15 hml hl.1 (c_Ag_hearReply l D E T κ L f H.size b15 k15 b16 4000 k16 (by omega) S.1) (ok_k X Y hA KS KR) rfl kl_H_Ag_hearReply ks_Ag_hearReply kx_Ag_hearReply ki_Ag_hearReply ini_Ag ⟨rfl, rfl⟩ hd_Ag_hearReply ⟨Nat.le_of_ble_eq_true rfl, Nat.le_of_ble_eq_true rfl⟩ rfl (Nat.le_of_ble_eq_true rfl) d_H_take_18 ⟨Nat.le_of_ble_eq_true rfl, Nat.le_of_ble_eq_true rfl⟩) X Y hA S (by decide) (fun z17 κ17 L17 f17 H locs Y S s17 p17 => ?_)
    obtain ⟨l17, u17⟩ := p17
    have k18 : κ17 h = (10, 0) := tLe_k s17.2.2.1 k0
    refine lv_goto (tgt := 25) X.1 X.2.1 d_H_take_21 (by decide) ?_
    exact J7 κ17 L17 z17 f17 _ _ _ k18 (by omega) (by omega) Y S (lv_sub hl [0] rfl)
set_option maxHeartbeats 4000000 in
set_option maxRecDepth 100000 in
theorem c_H_ticket (l : Launch) (D : va_G) (E : cE) (T : cT) (κ : tK) (L : List Nat) (f : pF) (sz : Nat) (h : Nat) (k0 : κ h = (10, 0)) (a1 : Int) (l_a1 : (-2147483648) ≤ a1) (u_a1 : a1 ≤ 2147483647) (a2 : Int) (l_a2 : (-2147483648) ≤ a2) (u_a2 : a2 ≤ 2147483647) (a3 : Int) (l_a3 : (-2147483648) ≤ a3) (u_a3 : a3 ≤ 2147483647) (hw : tW E T κ L f) : Met l y_H_ticket (k_H_ticket :: lw_tg) (kRm 3 103 0 0) (va_Pc [.ref h, .int (iI a1), .int (iI a2), .int (iI a3)] (kPre D E T L f sz)) (va_Qi (uPi L f (fun (z : Int) => (-2147483648) ≤ z ∧ z ≤ 2147483647)) (cPost D E (pA L sz)) (pA L sz)) 0 0 (pA L sz) := by
  refine k_enter (own := R_H) (by decide) rfl (Nat.le_of_ble_eq_true rfl) (fun p e s m below meth c ls AV QQ H locs hQQ X Y hA hin hr hlk hml hl KS KR => ?_)
  have hl : lv_has ls 4 [(0, .ref h), (1, .int (iI a1)), (2, .int (iI a2)), (3, .int (iI a3))] := hl
  have S : tS E T (tFr κ L [] []) κ L f κ L f := tS_rf hw
  refine lv_aload_n X.1 X.2.1 d_H_ticket_0 rfl (lv_at hl 0 rfl) ?_
  refine lv_iload_n X.1 X.2.1 d_H_ticket_1 rfl (lv_at hl 1 rfl) ?_
  refine lv_iload_n X.1 X.2.1 d_H_ticket_2 rfl (lv_at hl 2 rfl) ?_
  refine t_ui (t_runV (As := [.int (iI a1), .int (iI a2)]) (rest := []) (n := 2) X Y S k0 hml hl.1 (c_H_hasTicket l D E T κ L f H.size h k0 a1 (by omega) (by omega) a2 (by omega) (by omega) S.1) (ok_k X Y hA KS KR) rfl kl_H_H_hasTicket ks_H_hasTicket kx_H_hasTicket ki_H_hasTicket ini_H ⟨rfl, rfl⟩ hd_H_hasTicket ⟨Nat.le_of_ble_eq_true rfl, Nat.le_of_ble_eq_true rfl⟩ rfl (Nat.le_of_ble_eq_true rfl) d_H_ticket_3 ⟨Nat.le_of_ble_eq_true rfl, Nat.le_of_ble_eq_true rfl⟩) X Y hA (fun z1 H locs Y p1 => ?_)
  obtain ⟨l1, u1, x1⟩ := p1
  refine z_if_eq (tgt := 27) X.1 X.2.1 d_H_ticket_6 (by decide) ⟨by omega, by omega⟩ (fun h2 => ?_) (fun h2 => ?_)
  · refine lv_iconst (v := iI (-1)) X.1 X.2.1 d_H_ticket_27 (by decide) ?_
    exact c_reti hQQ X Y hr hlk ⟨rfl, rfl, (-1), rfl, ⟨by omega, by omega⟩⟩ d_H_ticket_28
  · refine lv_aload_n X.1 X.2.1 d_H_ticket_9 rfl (lv_at hl 0 rfl) ?_
    refine t_getr (ci := 0) X Y S k0 rfl i_H 7 (by decide) rfl (k1 := 6) (k2 := 4) rfl rfl lk_H_49 (fun _ h9 => h9) d_H_ticket_10 (fun b3 e3 k3 => ?_)
    refine lv_iload_n X.1 X.2.1 d_H_ticket_13 rfl (lv_at hl 1 rfl) ?_
    refine t_aald X Y S k3 (fun h9 => h9) (t0 := 3) rfl (by omega) (by omega) (by omega) d_H_ticket_14 (fun b4 e4 k4 => ?_)
    refine t_getr (ci := 2) X Y S k4 rfl i_Ag 1 (by decide) rfl (k1 := 8) (k2 := 8) rfl rfl lk_H_225 (fun _ h9 => h9) d_H_ticket_15 (fun b5 e5 k5 => ?_)
    refine lv_iload_n X.1 X.2.1 d_H_ticket_18 rfl (lv_at hl 2 rfl) ?_
    refine t_aald X Y S k5 (fun h9 => h9) (t0 := 5) rfl (by omega) (by omega) (by omega) d_H_ticket_19 (fun b6 e6 k6 => ?_)
    refine lv_iload_n X.1 X.2.1 d_H_ticket_20 rfl (lv_at hl 3 rfl) ?_
    refine t_ui (t_runV (As := [.int (iI a3)]) (rest := []) (n := 1) X Y S k6 hml hl.1 (c_Ti_tell l D E T κ L f H.size b6 k6 a3 (by omega) (by omega) S.1) (ok_k X Y hA KS KR) rfl kl_H_Ti_tell ks_Ti_tell kx_Ti_tell ki_Ti_tell ini_Ti ⟨rfl, rfl⟩ hd_Ti_tell ⟨Nat.le_of_ble_eq_true rfl, Nat.le_of_ble_eq_true rfl⟩ rfl (Nat.le_of_ble_eq_true rfl) d_H_ticket_21 ⟨Nat.le_of_ble_eq_true rfl, Nat.le_of_ble_eq_true rfl⟩) X Y hA (fun z7 H locs Y p7 => ?_)
    obtain ⟨l7, u7⟩ := p7
    refine lv_goto (tgt := 28) X.1 X.2.1 d_H_ticket_24 (by decide) ?_
    exact c_reti hQQ X Y hr hlk ⟨rfl, rfl, z7, rfl, ⟨by omega, by omega⟩⟩ d_H_ticket_28
set_option maxHeartbeats 4000000 in
set_option maxRecDepth 100000 in
theorem c_H_drop (l : Launch) (D : va_G) (E : cE) (T : cT) (κ : tK) (L : List Nat) (f : pF) (sz : Nat) (h : Nat) (k0 : κ h = (10, 0)) (a1 : Int) (l_a1 : (-2147483648) ≤ a1) (u_a1 : a1 ≤ 2147483647) (a2 : Int) (l_a2 : (-2147483648) ≤ a2) (u_a2 : a2 ≤ 2147483647) (hw : tW E T κ L f) : Met l y_H_drop (k_H_drop :: lw_tg) (kRm 3 103 0 0) (va_Pc [.ref h, .int (iI a1), .int (iI a2)] (kPre D E T L f sz)) (va_Qi (nPi E T [20] κ L f (fun (z : Int) (g : pF) => 0 ≤ z ∧ z ≤ 1)) (cPost D E (pA L sz)) (pA L sz)) 0 0 (pA L sz) := by
  refine k_enter (own := R_H) (by decide) rfl (Nat.le_of_ble_eq_true rfl) (fun p e s m below meth c ls AV QQ H locs hQQ X Y hA hin hr hlk hml hl KS KR => ?_)
  have hl : lv_has ls 3 [(0, .ref h), (1, .int (iI a1)), (2, .int (iI a2))] := hl
  have S : tS E T (tFr κ L [20] []) κ L f κ L f := tS_rf hw
  refine lv_aload_n X.1 X.2.1 d_H_drop_0 rfl (lv_at hl 0 rfl) ?_
  refine lv_iload_n X.1 X.2.1 d_H_drop_1 rfl (lv_at hl 1 rfl) ?_
  refine lv_iload_n X.1 X.2.1 d_H_drop_2 rfl (lv_at hl 2 rfl) ?_
  refine t_ui (t_runV (As := [.int (iI a1), .int (iI a2)]) (rest := []) (n := 2) X Y S k0 hml hl.1 (c_H_hasTicket l D E T κ L f H.size h k0 a1 (by omega) (by omega) a2 (by omega) (by omega) S.1) (ok_k X Y hA KS KR) rfl kl_H_H_hasTicket ks_H_hasTicket kx_H_hasTicket ki_H_hasTicket ini_H ⟨rfl, rfl⟩ hd_H_hasTicket ⟨Nat.le_of_ble_eq_true rfl, Nat.le_of_ble_eq_true rfl⟩ rfl (Nat.le_of_ble_eq_true rfl) d_H_drop_3 ⟨Nat.le_of_ble_eq_true rfl, Nat.le_of_ble_eq_true rfl⟩) X Y hA (fun z1 H locs Y p1 => ?_)
  obtain ⟨l1, u1, x1⟩ := p1
  refine z_if_ne (tgt := 11) X.1 X.2.1 d_H_drop_6 (by decide) ⟨by omega, by omega⟩ (fun h2 => ?_) (fun h2 => ?_)
  · refine lv_aload_n X.1 X.2.1 d_H_drop_11 rfl (lv_at hl 0 rfl) ?_
    refine t_getr (ci := 0) X Y S k0 rfl i_H 7 (by decide) rfl (k1 := 6) (k2 := 4) rfl rfl lk_H_49 (fun _ h9 => h9) d_H_drop_12 (fun b3 e3 k3 => ?_)
    refine lv_iload_n X.1 X.2.1 d_H_drop_15 rfl (lv_at hl 1 rfl) ?_
    refine t_aald X Y S k3 (fun h9 => h9) (t0 := 3) rfl (by omega) (by omega) (by omega) d_H_drop_16 (fun b4 e4 k4 => ?_)
    refine t_getr (ci := 2) X Y S k4 rfl i_Ag 1 (by decide) rfl (k1 := 8) (k2 := 8) rfl rfl lk_H_225 (fun _ h9 => h9) d_H_drop_17 (fun b5 e5 k5 => ?_)
    refine lv_iload_n X.1 X.2.1 d_H_drop_20 rfl (lv_at hl 2 rfl) ?_
    refine t_aald X Y S k5 (fun h9 => h9) (t0 := 5) rfl (by omega) (by omega) (by omega) d_H_drop_21 (fun b6 e6 k6 => ?_)
    refine lv_iconst (v := iI 0) X.1 X.2.1 d_H_drop_22 (by decide) ?_
    refine t_put (ci := 10) X Y S k6 rfl i_Ti t_Ti t_Ti_ok n_Ti 3 (by decide) rfl lk_H_234 (fun _ h9 => h9) rfl (t_Ti_ok 3 (by decide)) (iI_bool (by omega) (by omega)).1 (iI_bool (by omega) (by omega)).2 ⟨_, rfl, by omega, by omega⟩ (fun h9 => h9.2.1 (by rw [← (S.2.2.2 _ h9).2, k6]; decide)) d_H_drop_23 (fun f7 H locs Y S w7 => ?_)
    refine lv_iconst (v := iI 1) X.1 X.2.1 d_H_drop_26 (by decide) ?_
    exact c_retz hQQ X Y hr hlk (iI_bool (by omega) (by omega)).1 ⟨rfl, S, 1, rfl, ⟨by omega, by omega⟩⟩ d_H_drop_27
  · refine lv_iconst (v := iI 0) X.1 X.2.1 d_H_drop_9 (by decide) ?_
    exact c_retz hQQ X Y hr hlk (iI_bool (by omega) (by omega)).1 ⟨rfl, S, 0, rfl, ⟨by omega, by omega⟩⟩ d_H_drop_10
set_option maxHeartbeats 4000000 in
set_option maxRecDepth 100000 in
theorem c_H_present (l : Launch) (D : va_G) (E : cE) (T : cT) (κ : tK) (L : List Nat) (f : pF) (sz : Nat) (h : Nat) (k0 : κ h = (10, 0)) (a1 : Int) (l_a1 : (-2147483648) ≤ a1) (u_a1 : a1 ≤ 2147483647) (a2 : Int) (l_a2 : (-2147483648) ≤ a2) (u_a2 : a2 ≤ 2147483647) (a3 : Int) (l_a3 : (-2147483648) ≤ a3) (u_a3 : a3 ≤ 2147483647) (hw : tW E T κ L f) : Met l y_H_present (k_H_present :: lw_tg) (kRm 9 238 1 32) (va_Pc [.ref h, .int (iI a1), .int (iI a2), .int (iI a3)] (kPre D E T L f sz)) (va_Qi (aPi E T [1, 2, 3, 4, 5, 6, 7, 8, 9, 10, 11, 12, 13, 14, 15, 16, 17, 18, 19, 20, 21] [] κ L f (fun (z : Int) (k : tK) (g : pF) => (-2147483648) ≤ z ∧ z ≤ 2147483647)) (cPost D E (pA L sz)) (pA L sz)) 1 32 (pA L sz) := by
  refine k_enter (own := R_H) (by decide) rfl (Nat.le_of_ble_eq_true rfl) (fun p e s m below meth c ls AV QQ H locs hQQ X Y hA hin hr hlk hml hl KS KR => ?_)
  have hl : lv_has ls 4 [(0, .ref h), (1, .int (iI a1)), (2, .int (iI a2)), (3, .int (iI a3))] := hl
  have S : tS E T (tFr κ L [1, 2, 3, 4, 5, 6, 7, 8, 9, 10, 11, 12, 13, 14, 15, 16, 17, 18, 19, 20, 21] []) κ L f κ L f := tS_rf hw
  have hF0 : ∀ b, tFr κ L [1, 2, 3, 4, 5, 6, 7, 8, 9, 10, 11, 12, 13, 14, 15, 16, 17, 18, 19, 20, 21] [] b → b ∈ L := fun b h9 => h9.1
  refine lv_aload_n X.1 X.2.1 d_H_present_0 rfl (lv_at hl 0 rfl) ?_
  refine lv_iload_n X.1 X.2.1 d_H_present_1 rfl (lv_at hl 1 rfl) ?_
  refine lv_iload_n X.1 X.2.1 d_H_present_2 rfl (lv_at hl 2 rfl) ?_
  refine t_ui (t_runV (As := [.int (iI a1), .int (iI a2)]) (rest := []) (n := 2) X Y S k0 hml hl.1 (c_H_hasTicket l D E T κ L f H.size h k0 a1 (by omega) (by omega) a2 (by omega) (by omega) S.1) (ok_k X Y hA KS KR) rfl kl_H_H_hasTicket ks_H_hasTicket kx_H_hasTicket ki_H_hasTicket ini_H ⟨rfl, rfl⟩ hd_H_hasTicket ⟨Nat.le_of_ble_eq_true rfl, Nat.le_of_ble_eq_true rfl⟩ rfl (Nat.le_of_ble_eq_true rfl) d_H_present_3 ⟨Nat.le_of_ble_eq_true rfl, Nat.le_of_ble_eq_true rfl⟩) X Y hA (fun z1 H locs Y p1 => ?_)
  obtain ⟨l1, u1, x1⟩ := p1
  refine z_if_eq (tgt := 18) X.1 X.2.1 d_H_present_6 (by decide) ⟨by omega, by omega⟩ (fun h2 => ?_) (fun h2 => ?_)
  · refine lv_iconst (v := iI (-1)) X.1 X.2.1 d_H_present_18 (by decide) ?_
    refine W.widen (k := 1) (n := 32) (Nat.le_of_ble_eq_true rfl) (Nat.le_of_ble_eq_true rfl) ?_
    exact c_reti hQQ X Y hr hlk ⟨κ, S, (-1), rfl, ⟨by omega, by omega⟩⟩ d_H_present_19
  · refine lv_iload_n X.1 X.2.1 d_H_present_9 rfl (lv_at hl 3 rfl) ?_
    refine z_if_lt (tgt := 18) X.1 X.2.1 d_H_present_10 (by decide) ⟨by omega, by omega⟩ (fun h3 => ?_) (fun h3 => ?_)
    · refine lv_iconst (v := iI (-1)) X.1 X.2.1 d_H_present_18 (by decide) ?_
      refine W.widen (k := 1) (n := 32) (Nat.le_of_ble_eq_true rfl) (Nat.le_of_ble_eq_true rfl) ?_
      exact c_reti hQQ X Y hr hlk ⟨κ, S, (-1), rfl, ⟨by omega, by omega⟩⟩ d_H_present_19
    · refine lv_iload_n X.1 X.2.1 d_H_present_13 rfl (lv_at hl 3 rfl) ?_
      refine lv_iconst (v := iI 3) X.1 X.2.1 d_H_present_14 (by decide) ?_
      refine z_icmp_le (tgt := 20) X.1 X.2.1 d_H_present_15 (by decide) ⟨by omega, by omega⟩ ⟨by omega, by omega⟩ (fun h4 => ?_) (fun h4 => ?_)
      · refine lv_aload_n X.1 X.2.1 d_H_present_20 rfl (lv_at hl 0 rfl) ?_
        refine t_getr (ci := 0) X Y S k0 rfl i_H 7 (by decide) rfl (k1 := 6) (k2 := 4) rfl rfl lk_H_49 (fun _ h9 => h9) d_H_present_21 (fun b5 e5 k5 => ?_)
        refine lv_iload_n X.1 X.2.1 d_H_present_24 rfl (lv_at hl 1 rfl) ?_
        refine t_aald X Y S k5 (fun h9 => h9) (t0 := 3) rfl (by omega) (by omega) (by omega) d_H_present_25 (fun b6 e6 k6 => ?_)
        refine lv_aload_n X.1 X.2.1 d_H_present_26 rfl (lv_at hl 0 rfl) ?_
        refine t_get0 (ci := 0) X Y S k0 rfl i_H 7 (by decide) rfl lk_H_49 (fun _ h9 => h9) d_H_present_27 e5 ?_
        refine lv_iload_n X.1 X.2.1 d_H_present_30 rfl (lv_at hl 1 rfl) ?_
        refine t_aald0 X Y S k5 (fun h9 => h9) (t0 := 3) rfl (by omega) (by omega) (by omega) d_H_present_31 e6 ?_
        refine t_getr (ci := 2) X Y S k6 rfl i_Ag 1 (by decide) rfl (k1 := 8) (k2 := 8) rfl rfl lk_H_225 (fun _ h9 => h9) d_H_present_32 (fun b7 e7 k7 => ?_)
        refine lv_iload_n X.1 X.2.1 d_H_present_35 rfl (lv_at hl 2 rfl) ?_
        refine t_aald X Y S k7 (fun h9 => h9) (t0 := 5) rfl (by omega) (by omega) (by omega) d_H_present_36 (fun b8 e8 k8 => ?_)
        refine lv_iload_n X.1 X.2.1 d_H_present_37 rfl (lv_at hl 3 rfl) ?_
        refine lv_aload_n X.1 X.2.1 d_H_present_38 rfl (lv_at hl 0 rfl) ?_
        refine t_getr (ci := 0) X Y S k0 rfl i_H 2 (by decide) rfl (k1 := 13) (k2 := 12288) rfl rfl lk_H_25 (fun _ h9 => h9) d_H_present_39 (fun b9 e9 k9 => ?_)
        refine t_av (t_runV (As := [.ref b8, .int (iI a3), .ref b9]) (rest := []) (n := 3) X Y S k6 hml hl.1 (c_Ag_goWith l D E T κ L f H.size b6 k6 b8 k8 a3 (by omega) (by omega) b9 12288 k9 (by omega) S.1) (ok_k X Y hA KS KR) rfl kl_H_Ag_goWith ks_Ag_goWith kx_Ag_goWith ki_Ag_goWith ini_Ag ⟨rfl, rfl⟩ hd_Ag_goWith ⟨Nat.le_of_ble_eq_true rfl, Nat.le_of_ble_eq_true rfl⟩ rfl (Nat.le_of_ble_eq_true rfl) d_H_present_42 ⟨Nat.le_of_ble_eq_true rfl, Nat.le_of_ble_eq_true rfl⟩) X Y hA S (by decide) (fun κ10 L10 f10 H locs Y S s10 p10 => ?_)
        have k11 : κ10 h = (10, 0) := tLe_k s10.2.2.1 k0
        refine lv_aload_n X.1 X.2.1 d_H_present_45 rfl (lv_at hl 0 rfl) ?_
        refine t_getr (ci := 0) X Y S k11 rfl i_H 2 (by decide) rfl (k1 := 13) (k2 := 12288) rfl rfl lk_H_25 (fun _ h9 => h9) d_H_present_46 (fun b12 e12 k12 => ?_)
        refine t_gets (ci := 3) X Y S k12 rfl i_By 1 (by decide) rfl lk_H_81 (fun _ h9 => h9) d_H_present_49 (fun z13 e13 l13 u13 => ?_)
        exact c_reti hQQ X Y hr hlk ⟨κ10, S, z13, rfl, ⟨by omega, by omega⟩⟩ d_H_present_52
      · refine lv_iconst (v := iI (-1)) X.1 X.2.1 d_H_present_18 (by decide) ?_
        refine W.widen (k := 1) (n := 32) (Nat.le_of_ble_eq_true rfl) (Nat.le_of_ble_eq_true rfl) ?_
        exact c_reti hQQ X Y hr hlk ⟨κ, S, (-1), rfl, ⟨by omega, by omega⟩⟩ d_H_present_19
set_option maxHeartbeats 4000000 in
set_option maxRecDepth 100000 in
theorem c_H_serve (l : Launch) (D : va_G) (E : cE) (T : cT) (κ : tK) (L : List Nat) (f : pF) (sz : Nat) (h : Nat) (k0 : κ h = (10, 0)) (a1 : Int) (l_a1 : (-2147483648) ≤ a1) (u_a1 : a1 ≤ 2147483647) (hw : tW E T κ L f) : Met l y_H_serve (k_H_serve :: lw_tg) (kRm 73 2420 3 96) (va_Pc [.ref h, .int (iI a1)] (kPre D E T L f sz)) (va_Qi (aPi E T [1, 2, 3, 4, 5, 6, 7, 8, 9, 10, 11, 12, 13, 14, 15, 16, 17, 18, 19, 20, 21] [] κ L f (fun (z : Int) (k : tK) (g : pF) => (-2147483648) ≤ z ∧ z ≤ 2147483647)) (cPost D E (pA L sz)) (pA L sz)) 3 96 (pA L sz) := by
  refine k_enter (own := R_H) (by decide) rfl (Nat.le_of_ble_eq_true rfl) (fun p e s m below meth c ls AV QQ H locs hQQ X Y hA hin hr hlk hml hl KS KR => ?_)
  have hl : lv_has ls 5 [(0, .ref h), (1, .int (iI a1))] := hl
  have S : tS E T (tFr κ L [1, 2, 3, 4, 5, 6, 7, 8, 9, 10, 11, 12, 13, 14, 15, 16, 17, 18, 19, 20, 21] []) κ L f κ L f := tS_rf hw
  have hF0 : ∀ b, tFr κ L [1, 2, 3, 4, 5, 6, 7, 8, 9, 10, 11, 12, 13, 14, 15, 16, 17, 18, 19, 20, 21] [] b → b ∈ L := fun b h9 => h9.1
  refine lv_aload_n X.1 X.2.1 d_H_serve_0 rfl (lv_at hl 0 rfl) ?_
  refine lv_iload_n X.1 X.2.1 d_H_serve_1 rfl (lv_at hl 1 rfl) ?_
  refine t_ui (t_runV (As := [.int (iI a1)]) (rest := []) (n := 1) X Y S k0 hml hl.1 (c_H_isPrincipal l D E T κ L f H.size h k0 a1 (by omega) (by omega) S.1) (ok_k X Y hA KS KR) rfl kl_H_H_isPrincipal ks_H_isPrincipal kx_H_isPrincipal ki_H_isPrincipal ini_H ⟨rfl, rfl⟩ hd_H_isPrincipal ⟨Nat.le_of_ble_eq_true rfl, Nat.le_of_ble_eq_true rfl⟩ rfl (Nat.le_of_ble_eq_true rfl) d_H_serve_2 ⟨Nat.le_of_ble_eq_true rfl, Nat.le_of_ble_eq_true rfl⟩) X Y hA (fun z1 H locs Y p1 => ?_)
  obtain ⟨l1, u1, x1⟩ := p1
  refine z_if_ne (tgt := 17) X.1 X.2.1 d_H_serve_5 (by decide) ⟨by omega, by omega⟩ (fun h2 => ?_) (fun h2 => ?_)
  · refine lv_aload_n X.1 X.2.1 d_H_serve_17 rfl (lv_at hl 0 rfl) ?_
    refine t_getr (ci := 0) X Y S k0 rfl i_H 4 (by decide) rfl (k1 := 5) (k2 := 12) rfl rfl lk_H_42 (fun _ h9 => h9) d_H_serve_18 (fun b3 e3 k3 => ?_)
    refine lv_iload_n X.1 X.2.1 d_H_serve_21 rfl (lv_at hl 1 rfl) ?_
    refine t_aald X Y S k3 (fun h9 => h9) (t0 := 2) rfl (by omega) (by omega) (by omega) d_H_serve_22 (fun b4 e4 k4 => ?_)
    refine lv_astore_n (lv' := [(2, .ref b4), (0, .ref h), (1, .int (iI a1))]) X.1 X.2.1 d_H_serve_23 rfl hl (by decide) rfl (fun ls hl => ?_)
    refine lv_iconst (v := iI 0) X.1 X.2.1 d_H_serve_24 (by decide) ?_
    have J6 : ∀ (n8 : Nat) (z5 : Int) (H : Heap) (locs : List Loc) (ls : Array Slot), (8 - z5).toNat = n8 → (0 ≤ z5) → (z5 ≤ 8) → pH D cCl (pA L sz) s.heap L f H locs → tS E T (tFr κ L [1, 2, 3, 4, 5, 6, 7, 8, 9, 10, 11, 12, 13, 14, 15, 16, 17, 18, 19, 20, 21] []) κ L f κ L f → lv_has ls 5 [(0, .ref h), (2, .ref b4), (3, .int (iI z5))] → W p l e (kRm 73 2420 3 96) s m AV below meth c H locs 0 0 QQ (F0 m 26 ls []) := by
      intro n8
      induction n8 using Nat.strongRecOn with
      | ind n8 ih7 =>
        intro z5 H locs ls hm9 l5 u5 Y S hl
        refine lv_iload_n X.1 X.2.1 d_H_serve_26 rfl (lv_at hl 2 rfl) ?_
        refine lv_bipush (v := iI 8) X.1 X.2.1 d_H_serve_27 (by decide) ?_
        have J10 : ∀  (H : Heap) (locs : List Loc) (ls : Array Slot), pH D cCl (pA L sz) s.heap L f H locs → tS E T (tFr κ L [1, 2, 3, 4, 5, 6, 7, 8, 9, 10, 11, 12, 13, 14, 15, 16, 17, 18, 19, 20, 21] []) κ L f κ L f → lv_has ls 5 [(0, .ref h), (2, .ref b4), (3, .int (iI z811))] → W p l e (kRm 73 2420 3 96) s m AV below meth c H locs 0 0 QQ (F0 m 50 ls []) := by
          intro  H locs ls  Y S hl
          refine lv_aload_n X.1 X.2.1 d_H_serve_50 rfl (lv_at hl 0 rfl) ?_
          refine t_getr (ci := 0) X Y S k0 rfl i_H 5 (by decide) rfl (k1 := 15) (k2 := 0) rfl rfl lk_H_36 (fun _ h9 => h9) d_H_serve_51 (fun b14 e14 k14 => ?_)
          refine lv_aload_n X.1 X.2.1 d_H_serve_54 rfl (lv_at hl 0 rfl) ?_
          refine t_getr (ci := 0) X Y S k0 rfl i_H 1 (by decide) rfl (k1 := 13) (k2 := 4000) rfl rfl lk_H_21 (fun _ h9 => h9) d_H_serve_55 (fun b15 e15 k15 => ?_)
          refine lv_iconst (v := iI 0) X.1 X.2.1 d_H_serve_58 (by decide) ?_
          refine lv_aload_n X.1 X.2.1 d_H_serve_59 rfl (lv_at hl 0 rfl) ?_
          refine t_get0 (ci := 0) X Y S k0 rfl i_H 1 (by decide) rfl lk_H_21 (fun _ h9 => h9) d_H_serve_60 e15 ?_
          refine t_gets (ci := 3) X Y S k15 rfl i_By 1 (by decide) rfl lk_H_81 (fun _ h9 => h9) d_H_serve_63 (fun z16 e16 l16 u16 => ?_)
          refine lv_aload_n X.1 X.2.1 d_H_serve_66 rfl (lv_at hl 1 rfl) ?_
          refine lv_aload_n X.1 X.2.1 d_H_serve_67 rfl (lv_at hl 1 rfl) ?_
          refine t_getr (ci := 7) X Y S k4 rfl i_Pr 1 (by decide) rfl (k1 := 18) (k2 := 0) rfl rfl lk_H_240 (fun _ h9 => h9) d_H_serve_68 (fun b17 e17 k17 => ?_)
          refine lv_bipush (v := iI 11) X.1 X.2.1 d_H_serve_71 (by decide) ?_
          refine t_ai (t_runV (As := [.ref b15, .int (iI 0), .int (iI z16), .ref b4, .ref b17, .int (iI 11)]) (rest := []) (n := 6) X Y S k14 hml hl.1 (c_Ga_judge l D E T κ L f H.size b14 k14 b15 4000 k15 (by omega) 0 (by omega) (by omega) z16 (by omega) (by omega) b4 k4 b17 k17 11 (by omega) (by omega) S.1) (ok_k X Y hA KS KR) rfl kl_H_Ga_judge ks_Ga_judge kx_Ga_judge ki_Ga_judge ini_Ga ⟨rfl, rfl⟩ hd_Ga_judge ⟨Nat.le_of_ble_eq_true rfl, Nat.le_of_ble_eq_true rfl⟩ rfl (Nat.le_of_ble_eq_true rfl) d_H_serve_73 ⟨Nat.le_of_ble_eq_true rfl, Nat.le_of_ble_eq_true rfl⟩) X Y hA S (by decide) (fun z18 κ18 L18 f18 H locs Y S s18 p18 => ?_)
          obtain ⟨l18, u18⟩ := p18
          have k19 : κ18 h = (10, 0) := tLe_k s18.2.2.1 k0
          have k20 : κ18 b4 = (17, 0) := tLe_k s18.2.2.1 k4
          refine lv_istore (lv' := [(4, .int (iI z18)), (0, .ref h), (2, .ref b4), (3, .int (iI z811))]) X.1 X.2.1 d_H_serve_76 hl (by decide) rfl (fun ls hl => ?_)
          refine lv_iload X.1 X.2.1 d_H_serve_78 (lv_at hl 0 rfl) ?_
          refine z_if_ne (tgt := 104) X.1 X.2.1 d_H_serve_80 (by decide) ⟨by omega, by omega⟩ (fun h21 => ?_) (fun h21 => ?_)
          · refine lv_aload_n X.1 X.2.1 d_H_serve_104 rfl (lv_at hl 1 rfl) ?_
            refine t_getr (ci := 0) X Y S k19 rfl i_H 2 (by decide) rfl (k1 := 13) (k2 := 12288) rfl rfl lk_H_25 (fun _ h9 => h9) d_H_serve_105 (fun b22 e22 k22 => ?_)
            refine t_nv (t_runV (As := []) (rest := []) (n := 0) X Y S k22 hml hl.1 (c_By_clear l D E T κ18 L18 f18 H.size b22 12288 k22 (by omega) S.1) (ok_k X Y hA KS KR) rfl kl_H_By_clear ks_By_clear kx_By_clear ki_By_clear ini_By ⟨rfl, rfl⟩ hd_By_clear ⟨Nat.le_of_ble_eq_true rfl, Nat.le_of_ble_eq_true rfl⟩ rfl (Nat.le_of_ble_eq_true rfl) d_H_serve_108 ⟨Nat.le_of_ble_eq_true rfl, Nat.le_of_ble_eq_true rfl⟩) X Y hA S (by decide) (fun f23 H locs Y S s23 p23 => ?_)
            refine lv_iload X.1 X.2.1 d_H_serve_111 (lv_at hl 0 rfl) ?_
            have J29 : ∀ (κ25 : tK) (L26 : List Nat) (z28 : Int) (f24 : pF) (H : Heap) (locs : List Loc) (ls : Array Slot), (κ25 h = (10, 0)) → ((-2147483648) ≤ z28) → (z28 ≤ 2147483647) → pH D cCl (pA L sz) s.heap L26 f24 H locs → tS E T (tFr κ L [1, 2, 3, 4, 5, 6, 7, 8, 9, 10, 11, 12, 13, 14, 15, 16, 17, 18, 19, 20, 21] []) κ L f κ25 L26 f24 → lv_has ls 5 [(0, .ref h), (3, .int (iI z811)), (4, .int (iI z28))] → W p l e (kRm 73 2420 3 96) s m AV below meth c H locs 3 96 QQ (F0 m 170 ls []) := by
              intro κ25 L26 z28 f24 H locs ls k27 l28 u28 Y S hl
              refine lv_aload_n X.1 X.2.1 d_H_serve_170 rfl (lv_at hl 0 rfl) ?_
              refine t_getr (ci := 0) X Y S k27 rfl i_H 1 (by decide) rfl (k1 := 13) (k2 := 4000) rfl rfl lk_H_21 (fun _ h9 => h9) d_H_serve_171 (fun b33 e33 k33 => ?_)
              refine t_nv (t_runV (As := []) (rest := []) (n := 0) X Y S k33 hml hl.1 (c_By_clear l D E T κ25 L26 f24 H.size b33 4000 k33 (by omega) S.1) (ok_k X Y hA KS KR) rfl kl_H_By_clear ks_By_clear kx_By_clear ki_By_clear ini_By ⟨rfl, rfl⟩ hd_By_clear ⟨Nat.le_of_ble_eq_true rfl, Nat.le_of_ble_eq_true rfl⟩ rfl (Nat.le_of_ble_eq_true rfl) d_H_serve_174 ⟨Nat.le_of_ble_eq_true rfl, Nat.le_of_ble_eq_true rfl⟩) X Y hA S (by decide) (fun f34 H locs Y S s34 p34 => ?_)
              refine lv_iload X.1 X.2.1 d_H_serve_177 (lv_at hl 2 rfl) ?_
              refine z_if_ne (tgt := 186) X.1 X.2.1 d_H_serve_179 (by decide) ⟨by omega, by omega⟩ (fun h35 => ?_) (fun h35 => ?_)
              · refine lv_iload X.1 X.2.1 d_H_serve_186 (lv_at hl 2 rfl) ?_
                refine lv_ineg X.1 X.2.1 d_H_serve_188 ?_
                refine t_u (fun z36 l36 u36 => ?_)
                exact c_reti hQQ X Y hr hlk ⟨κ25, S, z36, rfl, ⟨by omega, by omega⟩⟩ d_H_serve_189
              · refine lv_iload_n X.1 X.2.1 d_H_serve_182 rfl (lv_at hl 1 rfl) ?_
                refine lv_goto (tgt := 189) X.1 X.2.1 d_H_serve_183 (by decide) ?_
                exact c_reti hQQ X Y hr hlk ⟨κ25, S, z811, rfl, ⟨by omega, by omega⟩⟩ d_H_serve_189
            refine z_if_eq (tgt := 126) X.1 X.2.1 d_H_serve_113 (by decide) ⟨by omega, by omega⟩ (fun h37 => ?_) (fun h37 => ?_)
            · refine lv_aload_n X.1 X.2.1 d_H_serve_126 rfl (lv_at hl 1 rfl) ?_
              refine t_getr (ci := 0) X Y S k19 rfl i_H 8 (by decide) rfl (k1 := 7) (k2 := 8) rfl rfl lk_H_56 (fun _ h9 => h9) d_H_serve_127 (fun b38 e38 k38 => ?_)
              refine lv_iload_n X.1 X.2.1 d_H_serve_130 rfl (lv_at hl 3 rfl) ?_
              refine t_aald X Y S k38 (fun h9 => h9) (t0 := 4) rfl (by omega) (by omega) (by omega) d_H_serve_131 (fun b39 e39 k39 => ?_)
              refine lv_aload_n X.1 X.2.1 d_H_serve_132 rfl (lv_at hl 1 rfl) ?_
              refine t_getr (ci := 0) X Y S k19 rfl i_H 5 (by decide) rfl (k1 := 15) (k2 := 0) rfl rfl lk_H_36 (fun _ h9 => h9) d_H_serve_133 (fun b40 e40 k40 => ?_)
              refine lv_aload_n X.1 X.2.1 d_H_serve_136 rfl (lv_at hl 1 rfl) ?_
              refine t_getr (ci := 0) X Y S k19 rfl i_H 1 (by decide) rfl (k1 := 13) (k2 := 4000) rfl rfl lk_H_21 (fun _ h9 => h9) d_H_serve_137 (fun b41 e41 k41 => ?_)
              refine lv_aload_n X.1 X.2.1 d_H_serve_140 rfl (lv_at hl 1 rfl) ?_
              refine t_get0 (ci := 0) X Y S k19 rfl i_H 1 (by decide) rfl lk_H_21 (fun _ h9 => h9) d_H_serve_141 e41 ?_
              refine lv_iconst (v := iI 0) X.1 X.2.1 d_H_serve_144 (by decide) ?_
              refine lv_iconst (v := iI 2) X.1 X.2.1 d_H_serve_145 (by decide) ?_
              refine t_ui (t_runV (As := [.int (iI 0), .int (iI 2)]) (rest := [.ref b41, .ref b40, .ref b39]) (n := 2) X Y S k41 hml hl.1 (c_By_field l D E T κ18 L18 f23 H.size b41 4000 k41 (by omega) 0 (by omega) (by omega) 2 (by omega) (by omega) S.1) (ok_k X Y hA KS KR) rfl kl_H_By_field ks_By_field kx_By_field ki_By_field ini_By ⟨rfl, rfl⟩ hd_By_field ⟨Nat.le_of_ble_eq_true rfl, Nat.le_of_ble_eq_true rfl⟩ rfl (Nat.le_of_ble_eq_true rfl) d_H_serve_146 ⟨Nat.le_of_ble_eq_true rfl, Nat.le_of_ble_eq_true rfl⟩) X Y hA (fun z42 H locs Y p42 => ?_)
              obtain ⟨l42, u42⟩ := p42
              refine t_ui (t_runV (As := [.int (iI z42)]) (rest := [.ref b40, .ref b39]) (n := 1) X Y S k41 hml hl.1 (c_By_bitsAt l D E T κ18 L18 f23 H.size b41 4000 k41 (by omega) z42 (by omega) (by omega) S.1) (ok_k X Y hA KS KR) rfl kl_H_By_bitsAt ks_By_bitsAt kx_By_bitsAt ki_By_bitsAt ini_By ⟨rfl, rfl⟩ hd_By_bitsAt ⟨Nat.le_of_ble_eq_true rfl, Nat.le_of_ble_eq_true rfl⟩ rfl (Nat.le_of_ble_eq_true rfl) d_H_serve_149 ⟨Nat.le_of_ble_eq_true rfl, Nat.le_of_ble_eq_true rfl⟩) X Y hA (fun z43 H locs Y p43 => ?_)
              obtain ⟨l43, u43⟩ := p43
              refine lv_ldc (v := (536870912)) X.1 X.2.1 X.2.2.2.1 (X.2.2.1 _ cn_H_255) d_H_serve_152 ?_
              refine t_eq (y := iI 536870912) (by decide) ?_
              refine z_iand X.1 X.2.1 (by omega) (by omega) d_H_serve_154 (fun z44 l44 u44 => ?_)
              have J51 : ∀ (z45 : Int) (b46 : Nat) (b48 : Nat) (z50 : Int) (H : Heap) (locs : List Loc) (ls : Array Slot), (0 ≤ z45) → (z45 ≤ 0) → (κ18 b46 = (19, 0)) → (κ18 b48 = (15, 0)) → (0 ≤ z50) → (z50 ≤ 1) → pH D cCl (pA L sz) s.heap L18 f23 H locs → tS E T (tFr κ L [1, 2, 3, 4, 5, 6, 7, 8, 9, 10, 11, 12, 13, 14, 15, 16, 17, 18, 19, 20, 21] []) κ L f κ18 L18 f23 → lv_has ls 5 [(0, .ref h), (3, .int (iI z811)), (4, .int (iI z45))] → W p l e (kRm 73 2420 3 96) s m AV below meth c H locs 2 64 QQ (F0 m 163 ls [.int (iI z50), .ref b48, .ref b46]) := by
                intro z45 b46 b48 z50 H locs ls l45 u45 k47 k49 l50 u50 Y S hl
                refine lv_aload_n X.1 X.2.1 d_H_serve_163 rfl (lv_at hl 0 rfl) ?_
                refine t_get0 (ci := 0) X Y S k822 rfl i_H 2 (by decide) rfl lk_H_25 (fun _ h9 => h9) d_H_serve_164 ((gF_same (s23.2.2.2 _ ⟨(t_obj S.1 k19).1, by rw [k19]; decide, by simp⟩).1 2).trans e22) ?_
                refine t_av (t_runV (As := [.ref b48, .int (iI z50), .ref b22]) (rest := []) (n := 3) X Y S k47 hml hl.1 (c_So_begin l D E T κ18 L18 f23 H.size b46 k47 b48 k49 z50 (by omega) (by omega) b22 12288 k22 (by omega) S.1) (ok_k X Y hA KS KR) rfl kl_H_So_begin ks_So_begin kx_So_begin ki_So_begin ini_So ⟨rfl, rfl⟩ hd_So_begin ⟨Nat.le_of_ble_eq_true rfl, Nat.le_of_ble_eq_true rfl⟩ rfl (Nat.le_of_ble_eq_true rfl) d_H_serve_167 ⟨Nat.le_of_ble_eq_true rfl, Nat.le_of_ble_eq_true rfl⟩) X Y hA S (by decide) (fun κ55 L55 f55 H locs Y S s55 p55 => ?_)
                have k56 : κ55 h = (10, 0) := tLe_k s55.2.2.1 k822
                exact J29 κ55 L55 z45 f55 _ _ _ k56 (by omega) (by omega) Y S (lv_sub hl [0, 1, 2] rfl)
              refine z_if_eq (tgt := 162) X.1 X.2.1 d_H_serve_155 (by decide) ⟨by omega, by omega⟩ (fun h57 => ?_) (fun h57 => ?_)
              · refine lv_iconst (v := iI 0) X.1 X.2.1 d_H_serve_162 (by decide) ?_
                refine W.widen (k := 2) (n := 64) (Nat.le_of_ble_eq_true rfl) (Nat.le_of_ble_eq_true rfl) ?_
                exact J51 z18 b39 b40 0 _ _ _ (by omega) (by omega) k39 k40 (by omega) (by omega) Y S (lv_sub hl [1, 3, 0] rfl)
              · refine lv_iconst (v := iI 1) X.1 X.2.1 d_H_serve_158 (by decide) ?_
                refine lv_goto (tgt := 163) X.1 X.2.1 d_H_serve_159 (by decide) ?_
                refine W.widen (k := 2) (n := 64) (Nat.le_of_ble_eq_true rfl) (Nat.le_of_ble_eq_true rfl) ?_
                exact J51 z18 b39 b40 1 _ _ _ (by omega) (by omega) k39 k40 (by omega) (by omega) Y S (lv_sub hl [1, 3, 0] rfl)
            · refine lv_aload_n X.1 X.2.1 d_H_serve_116 rfl (lv_at hl 1 rfl) ?_
              refine lv_aload_n X.1 X.2.1 d_H_serve_117 rfl (lv_at hl 2 rfl) ?_
              refine lv_iload X.1 X.2.1 d_H_serve_118 (lv_at hl 0 rfl) ?_
              refine t_nv (t_runV (As := [.ref b4, .int (iI z18)]) (rest := []) (n := 2) X Y S k19 hml hl.1 (c_H_putRefusal l D E T κ18 L18 f23 H.size h k19 b4 k20 z18 (by omega) (by omega) S.1) (ok_k X Y hA KS KR) rfl kl_H_H_putRefusal ks_H_putRefusal kx_H_putRefusal ki_H_putRefusal ini_H ⟨rfl, rfl⟩ hd_H_putRefusal ⟨Nat.le_of_ble_eq_true rfl, Nat.le_of_ble_eq_true rfl⟩ rfl (Nat.le_of_ble_eq_true rfl) d_H_serve_120 ⟨Nat.le_of_ble_eq_true rfl, Nat.le_of_ble_eq_true rfl⟩) X Y hA S (by decide) (fun f58 H locs Y S s58 p58 => ?_)
              refine lv_goto (tgt := 170) X.1 X.2.1 d_H_serve_123 (by decide) ?_
              refine W.widen (k := 3) (n := 96) (Nat.le_of_ble_eq_true rfl) (Nat.le_of_ble_eq_true rfl) ?_
              exact J29 κ18 L18 z18 f58 _ _ _ k19 (by omega) (by omega) Y S (lv_sub hl [1, 3, 0] rfl)
          · refine lv_aload_n X.1 X.2.1 d_H_serve_83 rfl (lv_at hl 1 rfl) ?_
            refine t_getr (ci := 0) X Y S k19 rfl i_H 5 (by decide) rfl (k1 := 15) (k2 := 0) rfl rfl lk_H_36 (fun _ h9 => h9) d_H_serve_84 (fun b59 e59 k59 => ?_)
            refine lv_aload_n X.1 X.2.1 d_H_serve_87 rfl (lv_at hl 2 rfl) ?_
            refine lv_iload_n X.1 X.2.1 d_H_serve_88 rfl (lv_at hl 3 rfl) ?_
            refine lv_bipush (v := iI 8) X.1 X.2.1 d_H_serve_89 (by decide) ?_
            refine z_icmp_ge (tgt := 98) X.1 X.2.1 d_H_serve_91 (by decide) ⟨by omega, by omega⟩ ⟨by omega, by omega⟩ (fun h60 => ?_) (fun h60 => ?_)
            · refine lv_iconst (v := iI 0) X.1 X.2.1 d_H_serve_98 (by decide) ?_
              refine t_ai (t_runV (As := [.ref b4, .int (iI 0)]) (rest := []) (n := 2) X Y S k59 hml hl.1 (c_Ga_judgeVisit l D E T κ18 L18 f18 H.size b59 k59 b4 k20 0 (by omega) (by omega) S.1) (ok_k X Y hA KS KR) rfl kl_H_Ga_judgeVisit ks_Ga_judgeVisit kx_Ga_judgeVisit ki_Ga_judgeVisit ini_Ga ⟨rfl, rfl⟩ hd_Ga_judgeVisit ⟨Nat.le_of_ble_eq_true rfl, Nat.le_of_ble_eq_true rfl⟩ rfl (Nat.le_of_ble_eq_true rfl) d_H_serve_99 ⟨Nat.le_of_ble_eq_true rfl, Nat.le_of_ble_eq_true rfl⟩) X Y hA S (by decide) (fun z61 κ61 L61 f61 H locs Y S s61 p61 => ?_)
              obtain ⟨l61, u61, x61⟩ := p61
              have k62 : κ61 h = (10, 0) := tLe_k s61.2.2.1 k19
              have k63 : κ61 b4 = (17, 0) := tLe_k s61.2.2.1 k20
              refine lv_istore (lv' := [(4, .int (iI z61)), (0, .ref h), (2, .ref b4), (3, .int (iI z811))]) X.1 X.2.1 d_H_serve_102 hl (by decide) rfl (fun ls hl => ?_)
              refine lv_aload_n X.1 X.2.1 d_H_serve_104 rfl (lv_at hl 1 rfl) ?_
              refine t_getr (ci := 0) X Y S k62 rfl i_H 2 (by decide) rfl (k1 := 13) (k2 := 12288) rfl rfl lk_H_25 (fun _ h9 => h9) d_H_serve_105 (fun b64 e64 k64 => ?_)
              refine t_nv (t_runV (As := []) (rest := []) (n := 0) X Y S k64 hml hl.1 (c_By_clear l D E T κ61 L61 f61 H.size b64 12288 k64 (by omega) S.1) (ok_k X Y hA KS KR) rfl kl_H_By_clear ks_By_clear kx_By_clear ki_By_clear ini_By ⟨rfl, rfl⟩ hd_By_clear ⟨Nat.le_of_ble_eq_true rfl, Nat.le_of_ble_eq_true rfl⟩ rfl (Nat.le_of_ble_eq_true rfl) d_H_serve_108 ⟨Nat.le_of_ble_eq_true rfl, Nat.le_of_ble_eq_true rfl⟩) X Y hA S (by decide) (fun f65 H locs Y S s65 p65 => ?_)
              refine lv_iload X.1 X.2.1 d_H_serve_111 (lv_at hl 0 rfl) ?_
              have J71 : ∀ (κ67 : tK) (L68 : List Nat) (z70 : Int) (f66 : pF) (H : Heap) (locs : List Loc) (ls : Array Slot), (κ67 h = (10, 0)) → ((-2147483648) ≤ z70) → (z70 ≤ 2147483647) → pH D cCl (pA L sz) s.heap L68 f66 H locs → tS E T (tFr κ L [1, 2, 3, 4, 5, 6, 7, 8, 9, 10, 11, 12, 13, 14, 15, 16, 17, 18, 19, 20, 21] []) κ L f κ67 L68 f66 → lv_has ls 5 [(0, .ref h), (3, .int (iI z811)), (4, .int (iI z70))] → W p l e (kRm 73 2420 3 96) s m AV below meth c H locs 3 96 QQ (F0 m 170 ls []) := by
                intro κ67 L68 z70 f66 H locs ls k69 l70 u70 Y S hl
                refine lv_aload_n X.1 X.2.1 d_H_serve_170 rfl (lv_at hl 0 rfl) ?_
                refine t_getr (ci := 0) X Y S k69 rfl i_H 1 (by decide) rfl (k1 := 13) (k2 := 4000) rfl rfl lk_H_21 (fun _ h9 => h9) d_H_serve_171 (fun b75 e75 k75 => ?_)
                refine t_nv (t_runV (As := []) (rest := []) (n := 0) X Y S k75 hml hl.1 (c_By_clear l D E T κ67 L68 f66 H.size b75 4000 k75 (by omega) S.1) (ok_k X Y hA KS KR) rfl kl_H_By_clear ks_By_clear kx_By_clear ki_By_clear ini_By ⟨rfl, rfl⟩ hd_By_clear ⟨Nat.le_of_ble_eq_true rfl, Nat.le_of_ble_eq_true rfl⟩ rfl (Nat.le_of_ble_eq_true rfl) d_H_serve_174 ⟨Nat.le_of_ble_eq_true rfl, Nat.le_of_ble_eq_true rfl⟩) X Y hA S (by decide) (fun f76 H locs Y S s76 p76 => ?_)
                refine lv_iload X.1 X.2.1 d_H_serve_177 (lv_at hl 2 rfl) ?_
                refine z_if_ne (tgt := 186) X.1 X.2.1 d_H_serve_179 (by decide) ⟨by omega, by omega⟩ (fun h77 => ?_) (fun h77 => ?_)
                · refine lv_iload X.1 X.2.1 d_H_serve_186 (lv_at hl 2 rfl) ?_
                  refine lv_ineg X.1 X.2.1 d_H_serve_188 ?_
                  refine t_u (fun z78 l78 u78 => ?_)
                  exact c_reti hQQ X Y hr hlk ⟨κ67, S, z78, rfl, ⟨by omega, by omega⟩⟩ d_H_serve_189
                · refine lv_iload_n X.1 X.2.1 d_H_serve_182 rfl (lv_at hl 1 rfl) ?_
                  refine lv_goto (tgt := 189) X.1 X.2.1 d_H_serve_183 (by decide) ?_
                  exact c_reti hQQ X Y hr hlk ⟨κ67, S, z811, rfl, ⟨by omega, by omega⟩⟩ d_H_serve_189
              refine z_if_eq (tgt := 126) X.1 X.2.1 d_H_serve_113 (by decide) ⟨by omega, by omega⟩ (fun h79 => ?_) (fun h79 => ?_)
              · refine lv_aload_n X.1 X.2.1 d_H_serve_126 rfl (lv_at hl 1 rfl) ?_
                refine t_getr (ci := 0) X Y S k62 rfl i_H 8 (by decide) rfl (k1 := 7) (k2 := 8) rfl rfl lk_H_56 (fun _ h9 => h9) d_H_serve_127 (fun b80 e80 k80 => ?_)
                refine lv_iload_n X.1 X.2.1 d_H_serve_130 rfl (lv_at hl 3 rfl) ?_
                refine t_aald X Y S k80 (fun h9 => h9) (t0 := 4) rfl (by omega) (by omega) (by omega) d_H_serve_131 (fun b81 e81 k81 => ?_)
                refine lv_aload_n X.1 X.2.1 d_H_serve_132 rfl (lv_at hl 1 rfl) ?_
                refine t_getr (ci := 0) X Y S k62 rfl i_H 5 (by decide) rfl (k1 := 15) (k2 := 0) rfl rfl lk_H_36 (fun _ h9 => h9) d_H_serve_133 (fun b82 e82 k82 => ?_)
                refine lv_aload_n X.1 X.2.1 d_H_serve_136 rfl (lv_at hl 1 rfl) ?_
                refine t_getr (ci := 0) X Y S k62 rfl i_H 1 (by decide) rfl (k1 := 13) (k2 := 4000) rfl rfl lk_H_21 (fun _ h9 => h9) d_H_serve_137 (fun b83 e83 k83 => ?_)
                refine lv_aload_n X.1 X.2.1 d_H_serve_140 rfl (lv_at hl 1 rfl) ?_
                refine t_get0 (ci := 0) X Y S k62 rfl i_H 1 (by decide) rfl lk_H_21 (fun _ h9 => h9) d_H_serve_141 e83 ?_
                refine lv_iconst (v := iI 0) X.1 X.2.1 d_H_serve_144 (by decide) ?_
                refine lv_iconst (v := iI 2) X.1 X.2.1 d_H_serve_145 (by decide) ?_
                refine t_ui (t_runV (As := [.int (iI 0), .int (iI 2)]) (rest := [.ref b83, .ref b82, .ref b81]) (n := 2) X Y S k83 hml hl.1 (c_By_field l D E T κ61 L61 f65 H.size b83 4000 k83 (by omega) 0 (by omega) (by omega) 2 (by omega) (by omega) S.1) (ok_k X Y hA KS KR) rfl kl_H_By_field ks_By_field kx_By_field ki_By_field ini_By ⟨rfl, rfl⟩ hd_By_field ⟨Nat.le_of_ble_eq_true rfl, Nat.le_of_ble_eq_true rfl⟩ rfl (Nat.le_of_ble_eq_true rfl) d_H_serve_146 ⟨Nat.le_of_ble_eq_true rfl, Nat.le_of_ble_eq_true rfl⟩) X Y hA (fun z84 H locs Y p84 => ?_)
                obtain ⟨l84, u84⟩ := p84
                refine t_ui (t_runV (As := [.int (iI z84)]) (rest := [.ref b82, .ref b81]) (n := 1) X Y S k83 hml hl.1 (c_By_bitsAt l D E T κ61 L61 f65 H.size b83 4000 k83 (by omega) z84 (by omega) (by omega) S.1) (ok_k X Y hA KS KR) rfl kl_H_By_bitsAt ks_By_bitsAt kx_By_bitsAt ki_By_bitsAt ini_By ⟨rfl, rfl⟩ hd_By_bitsAt ⟨Nat.le_of_ble_eq_true rfl, Nat.le_of_ble_eq_true rfl⟩ rfl (Nat.le_of_ble_eq_true rfl) d_H_serve_149 ⟨Nat.le_of_ble_eq_true rfl, Nat.le_of_ble_eq_true rfl⟩) X Y hA (fun z85 H locs Y p85 => ?_)
                obtain ⟨l85, u85⟩ := p85
                refine lv_ldc (v := (536870912)) X.1 X.2.1 X.2.2.2.1 (X.2.2.1 _ cn_H_255) d_H_serve_152 ?_
                refine t_eq (y := iI 536870912) (by decide) ?_
                refine z_iand X.1 X.2.1 (by omega) (by omega) d_H_serve_154 (fun z86 l86 u86 => ?_)
                have J93 : ∀ (z87 : Int) (b88 : Nat) (b90 : Nat) (z92 : Int) (H : Heap) (locs : List Loc) (ls : Array Slot), (0 ≤ z87) → (z87 ≤ 0) → (κ61 b88 = (19, 0)) → (κ61 b90 = (15, 0)) → (0 ≤ z92) → (z92 ≤ 1) → pH D cCl (pA L sz) s.heap L61 f65 H locs → tS E T (tFr κ L [1, 2, 3, 4, 5, 6, 7, 8, 9, 10, 11, 12, 13, 14, 15, 16, 17, 18, 19, 20, 21] []) κ L f κ61 L61 f65 → lv_has ls 5 [(0, .ref h), (3, .int (iI z811)), (4, .int (iI z87))] → W p l e (kRm 73 2420 3 96) s m AV below meth c H locs 2 64 QQ (F0 m 163 ls [.int (iI z92), .ref b90, .ref b88]) := by
                  intro z87 b88 b90 z92 H locs ls l87 u87 k89 k91 l92 u92 Y S hl
                  refine lv_aload_n X.1 X.2.1 d_H_serve_163 rfl (lv_at hl 0 rfl) ?_
                  refine t_get0 (ci := 0) X Y S k822 rfl i_H 2 (by decide) rfl lk_H_25 (fun _ h9 => h9) d_H_serve_164 ((gF_same (s65.2.2.2 _ ⟨(t_obj S.1 k62).1, by rw [k62]; decide, by simp⟩).1 2).trans e64) ?_
                  refine t_av (t_runV (As := [.ref b90, .int (iI z92), .ref b64]) (rest := []) (n := 3) X Y S k89 hml hl.1 (c_So_begin l D E T κ61 L61 f65 H.size b88 k89 b90 k91 z92 (by omega) (by omega) b64 12288 k64 (by omega) S.1) (ok_k X Y hA KS KR) rfl kl_H_So_begin ks_So_begin kx_So_begin ki_So_begin ini_So ⟨rfl, rfl⟩ hd_So_begin ⟨Nat.le_of_ble_eq_true rfl, Nat.le_of_ble_eq_true rfl⟩ rfl (Nat.le_of_ble_eq_true rfl) d_H_serve_167 ⟨Nat.le_of_ble_eq_true rfl, Nat.le_of_ble_eq_true rfl⟩) X Y hA S (by decide) (fun κ97 L97 f97 H locs Y S s97 p97 => ?_)
                  have k98 : κ97 h = (10, 0) := tLe_k s97.2.2.1 k822
                  exact J71 κ97 L97 z87 f97 _ _ _ k98 (by omega) (by omega) Y S (lv_sub hl [0, 1, 2] rfl)
                refine z_if_eq (tgt := 162) X.1 X.2.1 d_H_serve_155 (by decide) ⟨by omega, by omega⟩ (fun h99 => ?_) (fun h99 => ?_)
                · refine lv_iconst (v := iI 0) X.1 X.2.1 d_H_serve_162 (by decide) ?_
                  exact J93 z61 b81 b82 0 _ _ _ (by omega) (by omega) k81 k82 (by omega) (by omega) Y S (lv_sub hl [1, 3, 0] rfl)
                · refine lv_iconst (v := iI 1) X.1 X.2.1 d_H_serve_158 (by decide) ?_
                  refine lv_goto (tgt := 163) X.1 X.2.1 d_H_serve_159 (by decide) ?_
                  exact J93 z61 b81 b82 1 _ _ _ (by omega) (by omega) k81 k82 (by omega) (by omega) Y S (lv_sub hl [1, 3, 0] rfl)
              · refine lv_aload_n X.1 X.2.1 d_H_serve_116 rfl (lv_at hl 1 rfl) ?_
                refine lv_aload_n X.1 X.2.1 d_H_serve_117 rfl (lv_at hl 2 rfl) ?_
                refine lv_iload X.1 X.2.1 d_H_serve_118 (lv_at hl 0 rfl) ?_
                refine t_nv (t_runV (As := [.ref b4, .int (iI z61)]) (rest := []) (n := 2) X Y S k62 hml hl.1 (c_H_putRefusal l D E T κ61 L61 f65 H.size h k62 b4 k63 z61 (by omega) (by omega) S.1) (ok_k X Y hA KS KR) rfl kl_H_H_putRefusal ks_H_putRefusal kx_H_putRefusal ki_H_putRefusal ini_H ⟨rfl, rfl⟩ hd_H_putRefusal ⟨Nat.le_of_ble_eq_true rfl, Nat.le_of_ble_eq_true rfl⟩ rfl (Nat.le_of_ble_eq_true rfl) d_H_serve_120 ⟨Nat.le_of_ble_eq_true rfl, Nat.le_of_ble_eq_true rfl⟩) X Y hA S (by decide) (fun f100 H locs Y S s100 p100 => ?_)
                refine lv_goto (tgt := 170) X.1 X.2.1 d_H_serve_123 (by decide) ?_
                refine W.widen (k := 3) (n := 96) (Nat.le_of_ble_eq_true rfl) (Nat.le_of_ble_eq_true rfl) ?_
                exact J71 κ61 L61 z61 f100 _ _ _ k62 (by omega) (by omega) Y S (lv_sub hl [1, 3, 0] rfl)
            · refine lv_iconst (v := iI 1) X.1 X.2.1 d_H_serve_94 (by decide) ?_
              refine lv_goto (tgt := 99) X.1 X.2.1 d_H_serve_95 (by decide) ?_
              refine t_ai (t_runV (As := [.ref b4, .int (iI 1)]) (rest := []) (n := 2) X Y S k59 hml hl.1 (c_Ga_judgeVisit l D E T κ18 L18 f18 H.size b59 k59 b4 k20 1 (by omega) (by omega) S.1) (ok_k X Y hA KS KR) rfl kl_H_Ga_judgeVisit ks_Ga_judgeVisit kx_Ga_judgeVisit ki_Ga_judgeVisit ini_Ga ⟨rfl, rfl⟩ hd_Ga_judgeVisit ⟨Nat.le_of_ble_eq_true rfl, Nat.le_of_ble_eq_true rfl⟩ rfl (Nat.le_of_ble_eq_true rfl) d_H_serve_99 ⟨Nat.le_of_ble_eq_true rfl, Nat.le_of_ble_eq_true rfl⟩) X Y hA S (by decide) (fun z101 κ101 L101 f101 H locs Y S s101 p101 => ?_)
              obtain ⟨l101, u101, x101⟩ := p101
              have k102 : κ101 h = (10, 0) := tLe_k s101.2.2.1 k19
              have k103 : κ101 b4 = (17, 0) := tLe_k s101.2.2.1 k20
              refine lv_istore (lv' := [(4, .int (iI z101)), (0, .ref h), (2, .ref b4), (3, .int (iI z811))]) X.1 X.2.1 d_H_serve_102 hl (by decide) rfl (fun ls hl => ?_)
              refine lv_aload_n X.1 X.2.1 d_H_serve_104 rfl (lv_at hl 1 rfl) ?_
              refine t_getr (ci := 0) X Y S k102 rfl i_H 2 (by decide) rfl (k1 := 13) (k2 := 12288) rfl rfl lk_H_25 (fun _ h9 => h9) d_H_serve_105 (fun b104 e104 k104 => ?_)
              refine t_nv (t_runV (As := []) (rest := []) (n := 0) X Y S k104 hml hl.1 (c_By_clear l D E T κ101 L101 f101 H.size b104 12288 k104 (by omega) S.1) (ok_k X Y hA KS KR) rfl kl_H_By_clear ks_By_clear kx_By_clear ki_By_clear ini_By ⟨rfl, rfl⟩ hd_By_clear ⟨Nat.le_of_ble_eq_true rfl, Nat.le_of_ble_eq_true rfl⟩ rfl (Nat.le_of_ble_eq_true rfl) d_H_serve_108 ⟨Nat.le_of_ble_eq_true rfl, Nat.le_of_ble_eq_true rfl⟩) X Y hA S (by decide) (fun f105 H locs Y S s105 p105 => ?_)
              refine lv_iload X.1 X.2.1 d_H_serve_111 (lv_at hl 0 rfl) ?_
              have J111 : ∀ (κ107 : tK) (L108 : List Nat) (z110 : Int) (f106 : pF) (H : Heap) (locs : List Loc) (ls : Array Slot), (κ107 h = (10, 0)) → ((-2147483648) ≤ z110) → (z110 ≤ 2147483647) → pH D cCl (pA L sz) s.heap L108 f106 H locs → tS E T (tFr κ L [1, 2, 3, 4, 5, 6, 7, 8, 9, 10, 11, 12, 13, 14, 15, 16, 17, 18, 19, 20, 21] []) κ L f κ107 L108 f106 → lv_has ls 5 [(0, .ref h), (3, .int (iI z811)), (4, .int (iI z110))] → W p l e (kRm 73 2420 3 96) s m AV below meth c H locs 3 96 QQ (F0 m 170 ls []) := by
                intro κ107 L108 z110 f106 H locs ls k109 l110 u110 Y S hl
                refine lv_aload_n X.1 X.2.1 d_H_serve_170 rfl (lv_at hl 0 rfl) ?_
                refine t_getr (ci := 0) X Y S k109 rfl i_H 1 (by decide) rfl (k1 := 13) (k2 := 4000) rfl rfl lk_H_21 (fun _ h9 => h9) d_H_serve_171 (fun b115 e115 k115 => ?_)
                refine t_nv (t_runV (As := []) (rest := []) (n := 0) X Y S k115 hml hl.1 (c_By_clear l D E T κ107 L108 f106 H.size b115 4000 k115 (by omega) S.1) (ok_k X Y hA KS KR) rfl kl_H_By_clear ks_By_clear kx_By_clear ki_By_clear ini_By ⟨rfl, rfl⟩ hd_By_clear ⟨Nat.le_of_ble_eq_true rfl, Nat.le_of_ble_eq_true rfl⟩ rfl (Nat.le_of_ble_eq_true rfl) d_H_serve_174 ⟨Nat.le_of_ble_eq_true rfl, Nat.le_of_ble_eq_true rfl⟩) X Y hA S (by decide) (fun f116 H locs Y S s116 p116 => ?_)
                refine lv_iload X.1 X.2.1 d_H_serve_177 (lv_at hl 2 rfl) ?_
                refine z_if_ne (tgt := 186) X.1 X.2.1 d_H_serve_179 (by decide) ⟨by omega, by omega⟩ (fun h117 => ?_) (fun h117 => ?_)
                · refine lv_iload X.1 X.2.1 d_H_serve_186 (lv_at hl 2 rfl) ?_
                  refine lv_ineg X.1 X.2.1 d_H_serve_188 ?_
                  refine t_u (fun z118 l118 u118 => ?_)
                  exact c_reti hQQ X Y hr hlk ⟨κ107, S, z118, rfl, ⟨by omega, by omega⟩⟩ d_H_serve_189
                · refine lv_iload_n X.1 X.2.1 d_H_serve_182 rfl (lv_at hl 1 rfl) ?_
                  refine lv_goto (tgt := 189) X.1 X.2.1 d_H_serve_183 (by decide) ?_
                  exact c_reti hQQ X Y hr hlk ⟨κ107, S, z811, rfl, ⟨by omega, by omega⟩⟩ d_H_serve_189
              refine z_if_eq (tgt := 126) X.1 X.2.1 d_H_serve_113 (by decide) ⟨by omega, by omega⟩ (fun h119 => ?_) (fun h119 => ?_)
              · refine lv_aload_n X.1 X.2.1 d_H_serve_126 rfl (lv_at hl 1 rfl) ?_
                refine t_getr (ci := 0) X Y S k102 rfl i_H 8 (by decide) rfl (k1 := 7) (k2 := 8) rfl rfl lk_H_56 (fun _ h9 => h9) d_H_serve_127 (fun b120 e120 k120 => ?_)
                refine lv_iload_n X.1 X.2.1 d_H_serve_130 rfl (lv_at hl 3 rfl) ?_
                refine t_aald X Y S k120 (fun h9 => h9) (t0 := 4) rfl (by omega) (by omega) (by omega) d_H_serve_131 (fun b121 e121 k121 => ?_)
                refine lv_aload_n X.1 X.2.1 d_H_serve_132 rfl (lv_at hl 1 rfl) ?_
                refine t_getr (ci := 0) X Y S k102 rfl i_H 5 (by decide) rfl (k1 := 15) (k2 := 0) rfl rfl lk_H_36 (fun _ h9 => h9) d_H_serve_133 (fun b122 e122 k122 => ?_)
                refine lv_aload_n X.1 X.2.1 d_H_serve_136 rfl (lv_at hl 1 rfl) ?_
                refine t_getr (ci := 0) X Y S k102 rfl i_H 1 (by decide) rfl (k1 := 13) (k2 := 4000) rfl rfl lk_H_21 (fun _ h9 => h9) d_H_serve_137 (fun b123 e123 k123 => ?_)
                refine lv_aload_n X.1 X.2.1 d_H_serve_140 rfl (lv_at hl 1 rfl) ?_
                refine t_get0 (ci := 0) X Y S k102 rfl i_H 1 (by decide) rfl lk_H_21 (fun _ h9 => h9) d_H_serve_141 e123 ?_
                refine lv_iconst (v := iI 0) X.1 X.2.1 d_H_serve_144 (by decide) ?_
                refine lv_iconst (v := iI 2) X.1 X.2.1 d_H_serve_145 (by decide) ?_
                refine t_ui (t_runV (As := [.int (iI 0), .int (iI 2)]) (rest := [.ref b123, .ref b122, .ref b121]) (n := 2) X Y S k123 hml hl.1 (c_By_field l D E T κ101 L101 f105 H.size b123 4000 k123 (by omega) 0 (by omega) (by omega) 2 (by omega) (by omega) S.1) (ok_k X Y hA KS KR) rfl kl_H_By_field ks_By_field kx_By_field ki_By_field ini_By ⟨rfl, rfl⟩ hd_By_field ⟨Nat.le_of_ble_eq_true rfl, Nat.le_of_ble_eq_true rfl⟩ rfl (Nat.le_of_ble_eq_true rfl) d_H_serve_146 ⟨Nat.le_of_ble_eq_true rfl, Nat.le_of_ble_eq_true rfl⟩) X Y hA (fun z124 H locs Y p124 => ?_)
                obtain ⟨l124, u124⟩ := p124
                refine t_ui (t_runV (As := [.int (iI z124)]) (rest := [.ref b122, .ref b121]) (n := 1) X Y S k123 hml hl.1 (c_By_bitsAt l D E T κ101 L101 f105 H.size b123 4000 k123 (by omega) z124 (by omega) (by omega) S.1) (ok_k X Y hA KS KR) rfl kl_H_By_bitsAt ks_By_bitsAt kx_By_bitsAt ki_By_bitsAt ini_By ⟨rfl, rfl⟩ hd_By_bitsAt ⟨Nat.le_of_ble_eq_true rfl, Nat.le_of_ble_eq_true rfl⟩ rfl (Nat.le_of_ble_eq_true rfl) d_H_serve_149 ⟨Nat.le_of_ble_eq_true rfl, Nat.le_of_ble_eq_true rfl⟩) X Y hA (fun z125 H locs Y p125 => ?_)
                obtain ⟨l125, u125⟩ := p125
                refine lv_ldc (v := (536870912)) X.1 X.2.1 X.2.2.2.1 (X.2.2.1 _ cn_H_255) d_H_serve_152 ?_
                refine t_eq (y := iI 536870912) (by decide) ?_
                refine z_iand X.1 X.2.1 (by omega) (by omega) d_H_serve_154 (fun z126 l126 u126 => ?_)
                have J133 : ∀ (z127 : Int) (b128 : Nat) (b130 : Nat) (z132 : Int) (H : Heap) (locs : List Loc) (ls : Array Slot), (0 ≤ z127) → (z127 ≤ 0) → (κ101 b128 = (19, 0)) → (κ101 b130 = (15, 0)) → (0 ≤ z132) → (z132 ≤ 1) → pH D cCl (pA L sz) s.heap L101 f105 H locs → tS E T (tFr κ L [1, 2, 3, 4, 5, 6, 7, 8, 9, 10, 11, 12, 13, 14, 15, 16, 17, 18, 19, 20, 21] []) κ L f κ101 L101 f105 → lv_has ls 5 [(0, .ref h), (3, .int (iI z811)), (4, .int (iI z127))] → W p l e (kRm 73 2420 3 96) s m AV below meth c H locs 2 64 QQ (F0 m 163 ls [.int (iI z132), .ref b130, .ref b128]) := by
                  intro z127 b128 b130 z132 H locs ls l127 u127 k129 k131 l132 u132 Y S hl
                  refine lv_aload_n X.1 X.2.1 d_H_serve_163 rfl (lv_at hl 0 rfl) ?_
                  refine t_get0 (ci := 0) X Y S k822 rfl i_H 2 (by decide) rfl lk_H_25 (fun _ h9 => h9) d_H_serve_164 ((gF_same (s105.2.2.2 _ ⟨(t_obj S.1 k102).1, by rw [k102]; decide, by simp⟩).1 2).trans e104) ?_
                  refine t_av (t_runV (As := [.ref b130, .int (iI z132), .ref b104]) (rest := []) (n := 3) X Y S k129 hml hl.1 (c_So_begin l D E T κ101 L101 f105 H.size b128 k129 b130 k131 z132 (by omega) (by omega) b104 12288 k104 (by omega) S.1) (ok_k X Y hA KS KR) rfl kl_H_So_begin ks_So_begin kx_So_begin ki_So_begin ini_So ⟨rfl, rfl⟩ hd_So_begin ⟨Nat.le_of_ble_eq_true rfl, Nat.le_of_ble_eq_true rfl⟩ rfl (Nat.le_of_ble_eq_true rfl) d_H_serve_167 ⟨Nat.le_of_ble_eq_true rfl, Nat.le_of_ble_eq_true rfl⟩) X Y hA S (by decide) (fun κ137 L137 f137 H locs Y S s137 p137 => ?_)
                  have k138 : κ137 h = (10, 0) := tLe_k s137.2.2.1 k822
                  exact J111 κ137 L137 z127 f137 _ _ _ k138 (by omega) (by omega) Y S (lv_sub hl [0, 1, 2] rfl)
                refine z_if_eq (tgt := 162) X.1 X.2.1 d_H_serve_155 (by decide) ⟨by omega, by omega⟩ (fun h139 => ?_) (fun h139 => ?_)
                · refine lv_iconst (v := iI 0) X.1 X.2.1 d_H_serve_162 (by decide) ?_
                  exact J133 z101 b121 b122 0 _ _ _ (by omega) (by omega) k121 k122 (by omega) (by omega) Y S (lv_sub hl [1, 3, 0] rfl)
                · refine lv_iconst (v := iI 1) X.1 X.2.1 d_H_serve_158 (by decide) ?_
                  refine lv_goto (tgt := 163) X.1 X.2.1 d_H_serve_159 (by decide) ?_
                  exact J133 z101 b121 b122 1 _ _ _ (by omega) (by omega) k121 k122 (by omega) (by omega) Y S (lv_sub hl [1, 3, 0] rfl)
              · refine lv_aload_n X.1 X.2.1 d_H_serve_116 rfl (lv_at hl 1 rfl) ?_
                refine lv_aload_n X.1 X.2.1 d_H_serve_117 rfl (lv_at hl 2 rfl) ?_
                refine lv_iload X.1 X.2.1 d_H_serve_118 (lv_at hl 0 rfl) ?_
                refine t_nv (t_runV (As := [.ref b4, .int (iI z101)]) (rest := []) (n := 2) X Y S k102 hml hl.1 (c_H_putRefusal l D E T κ101 L101 f105 H.size h k102 b4 k103 z101 (by omega) (by omega) S.1) (ok_k X Y hA KS KR) rfl kl_H_H_putRefusal ks_H_putRefusal kx_H_putRefusal ki_H_putRefusal ini_H ⟨rfl, rfl⟩ hd_H_putRefusal ⟨Nat.le_of_ble_eq_true rfl, Nat.le_of_ble_eq_true rfl⟩ rfl (Nat.le_of_ble_eq_true rfl) d_H_serve_120 ⟨Nat.le_of_ble_eq_true rfl, Nat.le_of_ble_eq_true rfl⟩) X Y hA S (by decide) (fun f140 H locs Y S s140 p140 => ?_)
                refine lv_goto (tgt := 170) X.1 X.2.1 d_H_serve_123 (by decide) ?_
                refine W.widen (k := 3) (n := 96) (Nat.le_of_ble_eq_true rfl) (Nat.le_of_ble_eq_true rfl) ?_
                exact J111 κ101 L101 z101 f140 _ _ _ k102 (by omega) (by omega) Y S (lv_sub hl [1, 3, 0] rfl)
        refine z_icmp_ge (tgt := 50) X.1 X.2.1 d_H_serve_29 (by decide) ⟨by omega, by omega⟩ ⟨by omega, by omega⟩ (fun h141 => ?_) (fun h141 => ?_)
        · exact J10  _ _ _  Y S (lv_sub hl [0, 1, 2] rfl)
        · refine lv_aload_n X.1 X.2.1 d_H_serve_32 rfl (lv_at hl 0 rfl) ?_
          refine t_getr (ci := 0) X Y S k0 rfl i_H 8 (by decide) rfl (k1 := 7) (k2 := 8) rfl rfl lk_H_56 (fun _ h9 => h9) d_H_serve_33 (fun b142 e142 k142 => ?_)
          refine lv_iload_n X.1 X.2.1 d_H_serve_36 rfl (lv_at hl 2 rfl) ?_
          refine t_aald X Y S k142 (fun h9 => h9) (t0 := 4) rfl (by omega) (by omega) (by omega) d_H_serve_37 (fun b143 e143 k143 => ?_)
          refine t_geti (ci := 9) X Y S k143 rfl i_So 1 (by decide) rfl lk_H_239 (fun _ h9 => h9) d_H_serve_38 (fun z144 e144 l144 u144 => ?_)
          refine z_if_eq (tgt := 50) X.1 X.2.1 d_H_serve_41 (by decide) ⟨by omega, by omega⟩ (fun h145 => ?_) (fun h145 => ?_)
          · exact J10  _ _ _  Y S (lv_sub hl [0, 1, 2] rfl)
          · refine lv_iinc (v := iI (z5 + 1)) (lv' := [(3, .int (iI (z5 + 1))), (0, .ref h), (2, .ref b4)]) X.1 X.2.1 d_H_serve_44 hl (k := 2) rfl ((iI_add _ _).trans (congrArg iI (by omega))) (by decide) rfl (fun ls hl => ?_)
            refine lv_goto (tgt := 26) X.1 X.2.1 d_H_serve_47 (by decide) ?_
            exact ih7 ((8 - (z5 + 1)).toNat) (by omega) (z5 + 1) _ _ _ rfl (by omega) (by omega) Y S (lv_sub hl [1, 2, 0] rfl)
    refine lv_istore_n (lv' := [(3, .int (iI 0)), (2, .ref b4), (0, .ref h), (1, .int (iI a1))]) X.1 X.2.1 d_H_serve_25 rfl hl (by decide) rfl (fun ls hl => ?_)
    exact J6 _ 0 _ _ _ rfl (by omega) (by omega) Y S (lv_sub hl [2, 1, 0] rfl)
  · refine lv_aload_n X.1 X.2.1 d_H_serve_8 rfl (lv_at hl 0 rfl) ?_
    refine t_getr (ci := 0) X Y S k0 rfl i_H 1 (by decide) rfl (k1 := 13) (k2 := 4000) rfl rfl lk_H_21 (fun _ h9 => h9) d_H_serve_9 (fun b146 e146 k146 => ?_)
    refine t_nv (t_runV (As := []) (rest := []) (n := 0) X Y S k146 hml hl.1 (c_By_clear l D E T κ L f H.size b146 4000 k146 (by omega) S.1) (ok_k X Y hA KS KR) rfl kl_H_By_clear ks_By_clear kx_By_clear ki_By_clear ini_By ⟨rfl, rfl⟩ hd_By_clear ⟨Nat.le_of_ble_eq_true rfl, Nat.le_of_ble_eq_true rfl⟩ rfl (Nat.le_of_ble_eq_true rfl) d_H_serve_12 ⟨Nat.le_of_ble_eq_true rfl, Nat.le_of_ble_eq_true rfl⟩) X Y hA S (by decide) (fun f147 H locs Y S s147 p147 => ?_)
    refine lv_iconst (v := iI (-1)) X.1 X.2.1 d_H_serve_15 (by decide) ?_
    refine W.widen (k := 3) (n := 96) (Nat.le_of_ble_eq_true rfl) (Nat.le_of_ble_eq_true rfl) ?_
    exact c_reti hQQ X Y hr hlk ⟨κ, S, (-1), rfl, ⟨by omega, by omega⟩⟩ d_H_serve_16
set_option maxHeartbeats 4000000 in
set_option maxRecDepth 100000 in
theorem c_H_met (l : Launch) (D : va_G) (E : cE) (T : cT) (κ : tK) (L : List Nat) (f : pF) (sz : Nat) (h : Nat) (k0 : κ h = (10, 0)) (a1 : Int) (l_a1 : (-2147483648) ≤ a1) (u_a1 : a1 ≤ 2147483647) (hw : tW E T κ L f) : Met l y_H_met (k_H_met :: lw_tg) (kRm 72 2385 0 0) (va_Pc [.ref h, .int (iI a1)] (kPre D E T L f sz)) (va_Qi (nPi E T [1, 2, 3, 4, 11, 12, 13, 16] κ L f (fun (z : Int) (g : pF) => (-2147483648) ≤ z ∧ z ≤ 2147483647)) (cPost D E (pA L sz)) (pA L sz)) 0 0 (pA L sz) := by
  refine k_enter (own := R_H) (by decide) rfl (Nat.le_of_ble_eq_true rfl) (fun p e s m below meth c ls AV QQ H locs hQQ X Y hA hin hr hlk hml hl KS KR => ?_)
  have hl : lv_has ls 3 [(0, .ref h), (1, .int (iI a1))] := hl
  have S : tS E T (tFr κ L [1, 2, 3, 4, 11, 12, 13, 16] []) κ L f κ L f := tS_rf hw
  refine lv_aload_n X.1 X.2.1 d_H_met_0 rfl (lv_at hl 0 rfl) ?_
  refine lv_iload_n X.1 X.2.1 d_H_met_1 rfl (lv_at hl 1 rfl) ?_
  refine t_ui (t_runV (As := [.int (iI a1)]) (rest := []) (n := 1) X Y S k0 hml hl.1 (c_H_isAgent l D E T κ L f H.size h k0 a1 (by omega) (by omega) S.1) (ok_k X Y hA KS KR) rfl kl_H_H_isAgent ks_H_isAgent kx_H_isAgent ki_H_isAgent ini_H ⟨rfl, rfl⟩ hd_H_isAgent ⟨Nat.le_of_ble_eq_true rfl, Nat.le_of_ble_eq_true rfl⟩ rfl (Nat.le_of_ble_eq_true rfl) d_H_met_2 ⟨Nat.le_of_ble_eq_true rfl, Nat.le_of_ble_eq_true rfl⟩) X Y hA (fun z1 H locs Y p1 => ?_)
  obtain ⟨l1, u1, x1⟩ := p1
  have J4 : ∀ (z3 : Int) (f2 : pF) (H : Heap) (locs : List Loc) (ls : Array Slot), ((-2147483648) ≤ z3) → (z3 ≤ 2147483647) → pH D cCl (pA L sz) s.heap L f2 H locs → tS E T (tFr κ L [1, 2, 3, 4, 11, 12, 13, 16] []) κ L f κ L f2 → lv_has ls 3 [(0, .ref h)] → W p l e (kRm 72 2385 0 0) s m AV below meth c H locs 0 0 QQ (F0 m 25 ls [.int (iI z3)]) := by
    intro z3 f2 H locs ls l3 u3 Y S hl
    refine lv_istore_n (lv' := [(2, .int (iI z3)), (0, .ref h)]) X.1 X.2.1 d_H_met_25 rfl hl (by decide) rfl (fun ls hl => ?_)
    refine lv_aload_n X.1 X.2.1 d_H_met_26 rfl (lv_at hl 1 rfl) ?_
    refine t_getr (ci := 0) X Y S k0 rfl i_H 1 (by decide) rfl (k1 := 13) (k2 := 4000) rfl rfl lk_H_21 (fun _ h9 => h9) d_H_met_27 (fun b8 e8 k8 => ?_)
    refine t_nv (t_runV (As := []) (rest := []) (n := 0) X Y S k8 hml hl.1 (c_By_clear l D E T κ L f2 H.size b8 4000 k8 (by omega) S.1) (ok_k X Y hA KS KR) rfl kl_H_By_clear ks_By_clear kx_By_clear ki_By_clear ini_By ⟨rfl, rfl⟩ hd_By_clear ⟨Nat.le_of_ble_eq_true rfl, Nat.le_of_ble_eq_true rfl⟩ rfl (Nat.le_of_ble_eq_true rfl) d_H_met_30 ⟨Nat.le_of_ble_eq_true rfl, Nat.le_of_ble_eq_true rfl⟩) X Y hA S (by decide) (fun f9 H locs Y S s9 p9 => ?_)
    refine lv_iload_n X.1 X.2.1 d_H_met_33 rfl (lv_at hl 0 rfl) ?_
    exact c_reti hQQ X Y hr hlk ⟨rfl, S, z3, rfl, ⟨by omega, by omega⟩⟩ d_H_met_34
  refine z_if_eq (tgt := 24) X.1 X.2.1 d_H_met_5 (by decide) ⟨by omega, by omega⟩ (fun h10 => ?_) (fun h10 => ?_)
  · refine lv_iconst (v := iI (-1)) X.1 X.2.1 d_H_met_24 (by decide) ?_
    exact J4 ((-1)) f _ _ _ (by omega) (by omega) Y S (lv_sub hl [0] rfl)
  · refine lv_aload_n X.1 X.2.1 d_H_met_8 rfl (lv_at hl 0 rfl) ?_
    refine t_getr (ci := 0) X Y S k0 rfl i_H 7 (by decide) rfl (k1 := 6) (k2 := 4) rfl rfl lk_H_49 (fun _ h9 => h9) d_H_met_9 (fun b11 e11 k11 => ?_)
    refine lv_iload_n X.1 X.2.1 d_H_met_12 rfl (lv_at hl 1 rfl) ?_
    refine t_aald X Y S k11 (fun h9 => h9) (t0 := 3) rfl (by omega) (by omega) (by omega) d_H_met_13 (fun b12 e12 k12 => ?_)
    refine lv_aload_n X.1 X.2.1 d_H_met_14 rfl (lv_at hl 0 rfl) ?_
    refine t_getr (ci := 0) X Y S k0 rfl i_H 1 (by decide) rfl (k1 := 13) (k2 := 4000) rfl rfl lk_H_21 (fun _ h9 => h9) d_H_met_15 (fun b13 e13 k13 => ?_)
    refine t_ni (t_runV (As := [.ref b13]) (rest := []) (n := 1) X Y S k12 hml hl.1 (c_Ag_hearService l D E T κ L f H.size b12 k12 b13 4000 k13 (by omega) S.1) (ok_k X Y hA KS KR) rfl kl_H_Ag_hearService ks_Ag_hearService kx_Ag_hearService ki_Ag_hearService ini_Ag ⟨rfl, rfl⟩ hd_Ag_hearService ⟨Nat.le_of_ble_eq_true rfl, Nat.le_of_ble_eq_true rfl⟩ rfl (Nat.le_of_ble_eq_true rfl) d_H_met_18 ⟨Nat.le_of_ble_eq_true rfl, Nat.le_of_ble_eq_true rfl⟩) X Y hA S (by decide) (fun z14 f14 H locs Y S s14 p14 => ?_)
    obtain ⟨l14, u14⟩ := p14
    refine lv_goto (tgt := 25) X.1 X.2.1 d_H_met_21 (by decide) ?_
    exact J4 z14 f14 _ _ _ (by omega) (by omega) Y S (lv_sub hl [0] rfl)
set_option maxHeartbeats 4000000 in
set_option maxRecDepth 100000 in
theorem c_H_joins (l : Launch) (D : va_G) (E : cE) (T : cT) (κ : tK) (L : List Nat) (f : pF) (sz : Nat) (h : Nat) (k0 : κ h = (10, 0)) (a1 : Int) (l_a1 : (-2147483648) ≤ a1) (u_a1 : a1 ≤ 2147483647) (a2 : Int) (l_a2 : (-2147483648) ≤ a2) (u_a2 : a2 ≤ 2147483647) (hw : tW E T κ L f) : Met l y_H_joins (k_H_joins :: lw_tg) (kRm 3 104 0 0) (va_Pc [.ref h, .int (iI a1), .int (iI a2)] (kPre D E T L f sz)) (va_Qi (nPi E T [2, 3, 4, 19] κ L f (fun (z : Int) (g : pF) => 0 ≤ z ∧ z ≤ 1)) (cPost D E (pA L sz)) (pA L sz)) 0 0 (pA L sz) := by
  refine k_enter (own := R_H) (by decide) rfl (Nat.le_of_ble_eq_true rfl) (fun p e s m below meth c ls AV QQ H locs hQQ X Y hA hin hr hlk hml hl KS KR => ?_)
  have hl : lv_has ls 3 [(0, .ref h), (1, .int (iI a1)), (2, .int (iI a2))] := hl
  have S : tS E T (tFr κ L [2, 3, 4, 19] []) κ L f κ L f := tS_rf hw
  refine lv_aload_n X.1 X.2.1 d_H_joins_0 rfl (lv_at hl 0 rfl) ?_
  refine lv_iload_n X.1 X.2.1 d_H_joins_1 rfl (lv_at hl 1 rfl) ?_
  refine t_ui (t_runV (As := [.int (iI a1)]) (rest := []) (n := 1) X Y S k0 hml hl.1 (c_H_isSession l D E T κ L f H.size h k0 a1 (by omega) (by omega) S.1) (ok_k X Y hA KS KR) rfl kl_H_H_isSession ks_H_isSession kx_H_isSession ki_H_isSession ini_H ⟨rfl, rfl⟩ hd_H_isSession ⟨Nat.le_of_ble_eq_true rfl, Nat.le_of_ble_eq_true rfl⟩ rfl (Nat.le_of_ble_eq_true rfl) d_H_joins_2 ⟨Nat.le_of_ble_eq_true rfl, Nat.le_of_ble_eq_true rfl⟩) X Y hA (fun z1 H locs Y p1 => ?_)
  obtain ⟨l1, u1, x1⟩ := p1
  refine z_if_eq (tgt := 39) X.1 X.2.1 d_H_joins_5 (by decide) ⟨by omega, by omega⟩ (fun h2 => ?_) (fun h2 => ?_)
  · refine lv_iconst (v := iI 0) X.1 X.2.1 d_H_joins_39 (by decide) ?_
    exact c_retz hQQ X Y hr hlk (iI_bool (by omega) (by omega)).1 ⟨rfl, S, 0, rfl, ⟨by omega, by omega⟩⟩ d_H_joins_40
  · refine lv_aload_n X.1 X.2.1 d_H_joins_8 rfl (lv_at hl 0 rfl) ?_
    refine lv_iload_n X.1 X.2.1 d_H_joins_9 rfl (lv_at hl 2 rfl) ?_
    refine t_ui (t_runV (As := [.int (iI a2)]) (rest := []) (n := 1) X Y S k0 hml hl.1 (c_H_isAgent l D E T κ L f H.size h k0 a2 (by omega) (by omega) S.1) (ok_k X Y hA KS KR) rfl kl_H_H_isAgent ks_H_isAgent kx_H_isAgent ki_H_isAgent ini_H ⟨rfl, rfl⟩ hd_H_isAgent ⟨Nat.le_of_ble_eq_true rfl, Nat.le_of_ble_eq_true rfl⟩ rfl (Nat.le_of_ble_eq_true rfl) d_H_joins_10 ⟨Nat.le_of_ble_eq_true rfl, Nat.le_of_ble_eq_true rfl⟩) X Y hA (fun z3 H locs Y p3 => ?_)
    obtain ⟨l3, u3, x3⟩ := p3
    refine z_if_eq (tgt := 39) X.1 X.2.1 d_H_joins_13 (by decide) ⟨by omega, by omega⟩ (fun h4 => ?_) (fun h4 => ?_)
    · refine lv_iconst (v := iI 0) X.1 X.2.1 d_H_joins_39 (by decide) ?_
      exact c_retz hQQ X Y hr hlk (iI_bool (by omega) (by omega)).1 ⟨rfl, S, 0, rfl, ⟨by omega, by omega⟩⟩ d_H_joins_40
    · refine lv_aload_n X.1 X.2.1 d_H_joins_16 rfl (lv_at hl 0 rfl) ?_
      refine t_getr (ci := 0) X Y S k0 rfl i_H 8 (by decide) rfl (k1 := 7) (k2 := 8) rfl rfl lk_H_56 (fun _ h9 => h9) d_H_joins_17 (fun b5 e5 k5 => ?_)
      refine lv_iload_n X.1 X.2.1 d_H_joins_20 rfl (lv_at hl 1 rfl) ?_
      refine t_aald X Y S k5 (fun h9 => h9) (t0 := 4) rfl (by omega) (by omega) (by omega) d_H_joins_21 (fun b6 e6 k6 => ?_)
      refine lv_iload_n X.1 X.2.1 d_H_joins_22 rfl (lv_at hl 2 rfl) ?_
      refine lv_aload_n X.1 X.2.1 d_H_joins_23 rfl (lv_at hl 0 rfl) ?_
      refine t_getr (ci := 0) X Y S k0 rfl i_H 7 (by decide) rfl (k1 := 6) (k2 := 4) rfl rfl lk_H_49 (fun _ h9 => h9) d_H_joins_24 (fun b7 e7 k7 => ?_)
      refine lv_iload_n X.1 X.2.1 d_H_joins_27 rfl (lv_at hl 2 rfl) ?_
      refine t_aald X Y S k7 (fun h9 => h9) (t0 := 3) rfl (by omega) (by omega) (by omega) d_H_joins_28 (fun b8 e8 k8 => ?_)
      refine t_ni (t_runV (As := [.int (iI a2), .ref b8]) (rest := []) (n := 2) X Y S k6 hml hl.1 (c_So_join l D E T κ L f H.size b6 k6 a2 (by omega) (by omega) b8 k8 S.1) (ok_k X Y hA KS KR) rfl kl_H_So_join ks_So_join kx_So_join ki_So_join ini_So ⟨rfl, rfl⟩ hd_So_join ⟨Nat.le_of_ble_eq_true rfl, Nat.le_of_ble_eq_true rfl⟩ rfl (Nat.le_of_ble_eq_true rfl) d_H_joins_29 ⟨Nat.le_of_ble_eq_true rfl, Nat.le_of_ble_eq_true rfl⟩) X Y hA S (by decide) (fun z9 f9 H locs Y S s9 p9 => ?_)
      obtain ⟨l9, u9⟩ := p9
      refine z_if_eq (tgt := 39) X.1 X.2.1 d_H_joins_32 (by decide) ⟨by omega, by omega⟩ (fun h10 => ?_) (fun h10 => ?_)
      · refine lv_iconst (v := iI 0) X.1 X.2.1 d_H_joins_39 (by decide) ?_
        exact c_retz hQQ X Y hr hlk (iI_bool (by omega) (by omega)).1 ⟨rfl, S, 0, rfl, ⟨by omega, by omega⟩⟩ d_H_joins_40
      · refine lv_iconst (v := iI 1) X.1 X.2.1 d_H_joins_35 (by decide) ?_
        refine lv_goto (tgt := 40) X.1 X.2.1 d_H_joins_36 (by decide) ?_
        exact c_retz hQQ X Y hr hlk (iI_bool (by omega) (by omega)).1 ⟨rfl, S, 1, rfl, ⟨by omega, by omega⟩⟩ d_H_joins_40
set_option maxHeartbeats 4000000 in
set_option maxRecDepth 100000 in
theorem c_H_send (l : Launch) (D : va_G) (E : cE) (T : cT) (κ : tK) (L : List Nat) (f : pF) (sz : Nat) (h : Nat) (k0 : κ h = (10, 0)) (a1 : Int) (l_a1 : (-2147483648) ≤ a1) (u_a1 : a1 ≤ 2147483647) (a2 : Int) (l_a2 : (-2147483648) ≤ a2) (u_a2 : a2 ≤ 2147483647) (hw : tW E T κ L f) : Met l y_H_send (k_H_send :: lw_tg) (kRm 7 216 0 0) (va_Pc [.ref h, .int (iI a1), .int (iI a2)] (kPre D E T L f sz)) (va_Qi (nPi E T [1, 2, 3, 4, 11, 13, 16, 21] κ L f (fun (z : Int) (g : pF) => (-2147483648) ≤ z ∧ z ≤ 2147483647)) (cPost D E (pA L sz)) (pA L sz)) 0 0 (pA L sz) := by
  refine k_enter (own := R_H) (by decide) rfl (Nat.le_of_ble_eq_true rfl) (fun p e s m below meth c ls AV QQ H locs hQQ X Y hA hin hr hlk hml hl KS KR => ?_)
  have hl : lv_has ls 4 [(0, .ref h), (1, .int (iI a1)), (2, .int (iI a2))] := hl
  have S : tS E T (tFr κ L [1, 2, 3, 4, 11, 13, 16, 21] []) κ L f κ L f := tS_rf hw
  refine lv_aload_n X.1 X.2.1 d_H_send_0 rfl (lv_at hl 0 rfl) ?_
  refine lv_iload_n X.1 X.2.1 d_H_send_1 rfl (lv_at hl 1 rfl) ?_
  refine lv_iload_n X.1 X.2.1 d_H_send_2 rfl (lv_at hl 2 rfl) ?_
  refine t_ui (t_runV (As := [.int (iI a1), .int (iI a2)]) (rest := []) (n := 2) X Y S k0 hml hl.1 (c_H_isSide l D E T κ L f H.size h k0 a1 (by omega) (by omega) a2 (by omega) (by omega) S.1) (ok_k X Y hA KS KR) rfl kl_H_H_isSide ks_H_isSide kx_H_isSide ki_H_isSide ini_H ⟨rfl, rfl⟩ hd_H_isSide ⟨Nat.le_of_ble_eq_true rfl, Nat.le_of_ble_eq_true rfl⟩ rfl (Nat.le_of_ble_eq_true rfl) d_H_send_3 ⟨Nat.le_of_ble_eq_true rfl, Nat.le_of_ble_eq_true rfl⟩) X Y hA (fun z1 H locs Y p1 => ?_)
  obtain ⟨l1, u1, x1⟩ := p1
  have J2 : ∀  (H : Heap) (locs : List Loc) (ls : Array Slot), pH D cCl (pA L sz) s.heap L f H locs → tS E T (tFr κ L [1, 2, 3, 4, 11, 13, 16, 21] []) κ L f κ L f → lv_has ls 4 [(0, .ref h), (1, .int (iI a1)), (2, .int (iI a2))] → W p l e (kRm 7 216 0 0) s m AV below meth c H locs 0 0 QQ (F0 m 26 ls []) := by
    intro  H locs ls  Y S hl
    refine lv_iconst (v := iI 0) X.1 X.2.1 d_H_send_26 (by decide) ?_
    refine lv_istore_n (lv' := [(3, .int (iI 0)), (0, .ref h), (1, .int (iI a1)), (2, .int (iI a2))]) X.1 X.2.1 d_H_send_27 rfl hl (by decide) rfl (fun ls hl => ?_)
    refine lv_iload_n X.1 X.2.1 d_H_send_28 rfl (lv_at hl 0 rfl) ?_
    have J8 : ∀ (z7 : Int) (f6 : pF) (H : Heap) (locs : List Loc) (ls : Array Slot), (0 ≤ z7) → (z7 ≤ 1) → pH D cCl (pA L sz) s.heap L f6 H locs → tS E T (tFr κ L [1, 2, 3, 4, 11, 13, 16, 21] []) κ L f κ L f6 → lv_has ls 4 [(0, .ref h), (3, .int (iI z7))] → W p l e (kRm 7 216 0 0) s m AV below meth c H locs 0 0 QQ (F0 m 56 ls []) := by
      intro z7 f6 H locs ls l7 u7 Y S hl
      refine lv_aload_n X.1 X.2.1 d_H_send_56 rfl (lv_at hl 0 rfl) ?_
      refine t_getr (ci := 0) X Y S k0 rfl i_H 1 (by decide) rfl (k1 := 13) (k2 := 4000) rfl rfl lk_H_21 (fun _ h9 => h9) d_H_send_57 (fun b12 e12 k12 => ?_)
      refine t_nv (t_runV (As := []) (rest := []) (n := 0) X Y S k12 hml hl.1 (c_By_clear l D E T κ L f6 H.size b12 4000 k12 (by omega) S.1) (ok_k X Y hA KS KR) rfl kl_H_By_clear ks_By_clear kx_By_clear ki_By_clear ini_By ⟨rfl, rfl⟩ hd_By_clear ⟨Nat.le_of_ble_eq_true rfl, Nat.le_of_ble_eq_true rfl⟩ rfl (Nat.le_of_ble_eq_true rfl) d_H_send_60 ⟨Nat.le_of_ble_eq_true rfl, Nat.le_of_ble_eq_true rfl⟩) X Y hA S (by decide) (fun f13 H locs Y S s13 p13 => ?_)
      refine lv_iload_n X.1 X.2.1 d_H_send_63 rfl (lv_at hl 1 rfl) ?_
      refine z_if_eq (tgt := 77) X.1 X.2.1 d_H_send_64 (by decide) ⟨by omega, by omega⟩ (fun h14 => ?_) (fun h14 => ?_)
      · refine lv_iconst (v := iI (-1)) X.1 X.2.1 d_H_send_77 (by decide) ?_
        exact c_reti hQQ X Y hr hlk ⟨rfl, S, (-1), rfl, ⟨by omega, by omega⟩⟩ d_H_send_78
      · refine lv_aload_n X.1 X.2.1 d_H_send_67 rfl (lv_at hl 0 rfl) ?_
        refine t_getr (ci := 0) X Y S k0 rfl i_H 2 (by decide) rfl (k1 := 13) (k2 := 12288) rfl rfl lk_H_25 (fun _ h9 => h9) d_H_send_68 (fun b15 e15 k15 => ?_)
        refine t_gets (ci := 3) X Y S k15 rfl i_By 1 (by decide) rfl lk_H_81 (fun _ h9 => h9) d_H_send_71 (fun z16 e16 l16 u16 => ?_)
        refine lv_goto (tgt := 78) X.1 X.2.1 d_H_send_74 (by decide) ?_
        exact c_reti hQQ X Y hr hlk ⟨rfl, S, z16, rfl, ⟨by omega, by omega⟩⟩ d_H_send_78
    refine z_if_eq (tgt := 56) X.1 X.2.1 d_H_send_29 (by decide) ⟨by omega, by omega⟩ (fun h17 => ?_) (fun h17 => False.elim (by omega))
    · exact J8 0 f _ _ _ (by omega) (by omega) Y S (lv_sub hl [1, 0] rfl)
  refine z_if_eq (tgt := 26) X.1 X.2.1 d_H_send_6 (by decide) ⟨by omega, by omega⟩ (fun h18 => ?_) (fun h18 => ?_)
  · exact J2  _ _ _  Y S (lv_sub hl [0, 1, 2] rfl)
  · refine lv_aload_n X.1 X.2.1 d_H_send_9 rfl (lv_at hl 0 rfl) ?_
    refine t_getr (ci := 0) X Y S k0 rfl i_H 1 (by decide) rfl (k1 := 13) (k2 := 4000) rfl rfl lk_H_21 (fun _ h9 => h9) d_H_send_10 (fun b19 e19 k19 => ?_)
    refine t_gets (ci := 3) X Y S k19 rfl i_By 1 (by decide) rfl lk_H_81 (fun _ h9 => h9) d_H_send_13 (fun z20 e20 l20 u20 => ?_)
    refine lv_sipush (v := iI 1000) X.1 X.2.1 d_H_send_16 (by decide) ?_
    refine z_icmp_gt (tgt := 26) X.1 X.2.1 d_H_send_19 (by decide) ⟨by omega, by omega⟩ ⟨by omega, by omega⟩ (fun h21 => ?_) (fun h21 => ?_)
    · exact J2  _ _ _  Y S (lv_sub hl [0, 1, 2] rfl)
    · refine lv_iconst (v := iI 1) X.1 X.2.1 d_H_send_22 (by decide) ?_
      refine lv_goto (tgt := 27) X.1 X.2.1 d_H_send_23 (by decide) ?_
      refine lv_istore_n (lv' := [(3, .int (iI 1)), (0, .ref h), (1, .int (iI a1)), (2, .int (iI a2))]) X.1 X.2.1 d_H_send_27 rfl hl (by decide) rfl (fun ls hl => ?_)
      refine lv_iload_n X.1 X.2.1 d_H_send_28 rfl (lv_at hl 0 rfl) ?_
      have J24 : ∀ (z23 : Int) (f22 : pF) (H : Heap) (locs : List Loc) (ls : Array Slot), (0 ≤ z23) → (z23 ≤ 1) → pH D cCl (pA L sz) s.heap L f22 H locs → tS E T (tFr κ L [1, 2, 3, 4, 11, 13, 16, 21] []) κ L f κ L f22 → lv_has ls 4 [(0, .ref h), (3, .int (iI z23))] → W p l e (kRm 7 216 0 0) s m AV below meth c H locs 0 0 QQ (F0 m 56 ls []) := by
        intro z23 f22 H locs ls l23 u23 Y S hl
        refine lv_aload_n X.1 X.2.1 d_H_send_56 rfl (lv_at hl 0 rfl) ?_
        refine t_getr (ci := 0) X Y S k0 rfl i_H 1 (by decide) rfl (k1 := 13) (k2 := 4000) rfl rfl lk_H_21 (fun _ h9 => h9) d_H_send_57 (fun b28 e28 k28 => ?_)
        refine t_nv (t_runV (As := []) (rest := []) (n := 0) X Y S k28 hml hl.1 (c_By_clear l D E T κ L f22 H.size b28 4000 k28 (by omega) S.1) (ok_k X Y hA KS KR) rfl kl_H_By_clear ks_By_clear kx_By_clear ki_By_clear ini_By ⟨rfl, rfl⟩ hd_By_clear ⟨Nat.le_of_ble_eq_true rfl, Nat.le_of_ble_eq_true rfl⟩ rfl (Nat.le_of_ble_eq_true rfl) d_H_send_60 ⟨Nat.le_of_ble_eq_true rfl, Nat.le_of_ble_eq_true rfl⟩) X Y hA S (by decide) (fun f29 H locs Y S s29 p29 => ?_)
        refine lv_iload_n X.1 X.2.1 d_H_send_63 rfl (lv_at hl 1 rfl) ?_
        refine z_if_eq (tgt := 77) X.1 X.2.1 d_H_send_64 (by decide) ⟨by omega, by omega⟩ (fun h30 => ?_) (fun h30 => ?_)
        · refine lv_iconst (v := iI (-1)) X.1 X.2.1 d_H_send_77 (by decide) ?_
          exact c_reti hQQ X Y hr hlk ⟨rfl, S, (-1), rfl, ⟨by omega, by omega⟩⟩ d_H_send_78
        · refine lv_aload_n X.1 X.2.1 d_H_send_67 rfl (lv_at hl 0 rfl) ?_
          refine t_getr (ci := 0) X Y S k0 rfl i_H 2 (by decide) rfl (k1 := 13) (k2 := 12288) rfl rfl lk_H_25 (fun _ h9 => h9) d_H_send_68 (fun b31 e31 k31 => ?_)
          refine t_gets (ci := 3) X Y S k31 rfl i_By 1 (by decide) rfl lk_H_81 (fun _ h9 => h9) d_H_send_71 (fun z32 e32 l32 u32 => ?_)
          refine lv_goto (tgt := 78) X.1 X.2.1 d_H_send_74 (by decide) ?_
          exact c_reti hQQ X Y hr hlk ⟨rfl, S, z32, rfl, ⟨by omega, by omega⟩⟩ d_H_send_78
      refine z_if_eq (tgt := 56) X.1 X.2.1 d_H_send_29 (by decide) ⟨by omega, by omega⟩ (fun h33 => False.elim (by omega)) (fun h33 => ?_)
      · refine lv_aload_n X.1 X.2.1 d_H_send_32 rfl (lv_at hl 1 rfl) ?_
        refine t_getr (ci := 0) X Y S k0 rfl i_H 8 (by decide) rfl (k1 := 7) (k2 := 8) rfl rfl lk_H_56 (fun _ h9 => h9) d_H_send_33 (fun b34 e34 k34 => ?_)
        refine lv_iload_n X.1 X.2.1 d_H_send_36 rfl (lv_at hl 2 rfl) ?_
        refine t_aald X Y S k34 (fun h9 => h9) (t0 := 4) rfl (by omega) (by omega) (by omega) d_H_send_37 (fun b35 e35 k35 => ?_)
        refine lv_iload_n X.1 X.2.1 d_H_send_38 rfl (lv_at hl 3 rfl) ?_
        refine lv_aload_n X.1 X.2.1 d_H_send_39 rfl (lv_at hl 1 rfl) ?_
        refine lv_iload_n X.1 X.2.1 d_H_send_40 rfl (lv_at hl 2 rfl) ?_
        refine lv_iload_n X.1 X.2.1 d_H_send_41 rfl (lv_at hl 3 rfl) ?_
        refine t_ui (t_runV (As := [.int (iI a1), .int (iI a2)]) (rest := [.int (iI a2), .ref b35]) (n := 2) X Y S k0 hml hl.1 (c_H_timeOf l D E T κ L f H.size h k0 a1 (by omega) (by omega) a2 (by omega) (by omega) S.1) (ok_k X Y hA KS KR) rfl kl_H_H_timeOf ks_H_timeOf kx_H_timeOf ki_H_timeOf ini_H ⟨rfl, rfl⟩ hd_H_timeOf ⟨Nat.le_of_ble_eq_true rfl, Nat.le_of_ble_eq_true rfl⟩ rfl (Nat.le_of_ble_eq_true rfl) d_H_send_42 ⟨Nat.le_of_ble_eq_true rfl, Nat.le_of_ble_eq_true rfl⟩) X Y hA (fun z36 H locs Y p36 => ?_)
        obtain ⟨l36, u36⟩ := p36
        refine lv_aload_n X.1 X.2.1 d_H_send_45 rfl (lv_at hl 1 rfl) ?_
        refine t_get0 (ci := 0) X Y S k0 rfl i_H 1 (by decide) rfl lk_H_21 (fun _ h9 => h9) d_H_send_46 e19 ?_
        refine lv_aload_n X.1 X.2.1 d_H_send_49 rfl (lv_at hl 1 rfl) ?_
        refine t_getr (ci := 0) X Y S k0 rfl i_H 2 (by decide) rfl (k1 := 13) (k2 := 12288) rfl rfl lk_H_25 (fun _ h9 => h9) d_H_send_50 (fun b37 e37 k37 => ?_)
        refine t_nv (t_runV (As := [.int (iI a2), .int (iI z36), .ref b19, .ref b37]) (rest := []) (n := 4) X Y S k35 hml hl.1 (c_So_putPrivate l D E T κ L f H.size b35 k35 a2 (by omega) (by omega) z36 (by omega) (by omega) b19 4000 k19 (by omega) b37 12288 k37 (by omega) S.1) (ok_k X Y hA KS KR) rfl kl_H_So_putPrivate ks_So_putPrivate kx_So_putPrivate ki_So_putPrivate ini_So ⟨rfl, rfl⟩ hd_So_putPrivate ⟨Nat.le_of_ble_eq_true rfl, Nat.le_of_ble_eq_true rfl⟩ rfl (Nat.le_of_ble_eq_true rfl) d_H_send_53 ⟨Nat.le_of_ble_eq_true rfl, Nat.le_of_ble_eq_true rfl⟩) X Y hA S (by decide) (fun f38 H locs Y S s38 p38 => ?_)
        exact J24 1 f38 _ _ _ (by omega) (by omega) Y S (lv_sub hl [1, 0] rfl)
set_option maxHeartbeats 4000000 in
set_option maxRecDepth 100000 in
theorem c_H_receive (l : Launch) (D : va_G) (E : cE) (T : cT) (κ : tK) (L : List Nat) (f : pF) (sz : Nat) (h : Nat) (k0 : κ h = (10, 0)) (a1 : Int) (l_a1 : (-2147483648) ≤ a1) (u_a1 : a1 ≤ 2147483647) (a2 : Int) (l_a2 : (-2147483648) ≤ a2) (u_a2 : a2 ≤ 2147483647) (hw : tW E T κ L f) : Met l y_H_receive (k_H_receive :: lw_tg) (kRm 73 2411 0 0) (va_Pc [.ref h, .int (iI a1), .int (iI a2)] (kPre D E T L f sz)) (va_Qi (nPi E T [1, 2, 3, 4, 11, 13, 16] κ L f (fun (z : Int) (g : pF) => (-2147483648) ≤ z ∧ z ≤ 2147483647)) (cPost D E (pA L sz)) (pA L sz)) 0 0 (pA L sz) := by
  refine k_enter (own := R_H) (by decide) rfl (Nat.le_of_ble_eq_true rfl) (fun p e s m below meth c ls AV QQ H locs hQQ X Y hA hin hr hlk hml hl KS KR => ?_)
  have hl : lv_has ls 4 [(0, .ref h), (1, .int (iI a1)), (2, .int (iI a2))] := hl
  have S : tS E T (tFr κ L [1, 2, 3, 4, 11, 13, 16] []) κ L f κ L f := tS_rf hw
  refine lv_aload_n X.1 X.2.1 d_H_receive_0 rfl (lv_at hl 0 rfl) ?_
  refine lv_iload_n X.1 X.2.1 d_H_receive_1 rfl (lv_at hl 1 rfl) ?_
  refine lv_iload_n X.1 X.2.1 d_H_receive_2 rfl (lv_at hl 2 rfl) ?_
  refine t_ui (t_runV (As := [.int (iI a1), .int (iI a2)]) (rest := []) (n := 2) X Y S k0 hml hl.1 (c_H_isSide l D E T κ L f H.size h k0 a1 (by omega) (by omega) a2 (by omega) (by omega) S.1) (ok_k X Y hA KS KR) rfl kl_H_H_isSide ks_H_isSide kx_H_isSide ki_H_isSide ini_H ⟨rfl, rfl⟩ hd_H_isSide ⟨Nat.le_of_ble_eq_true rfl, Nat.le_of_ble_eq_true rfl⟩ rfl (Nat.le_of_ble_eq_true rfl) d_H_receive_3 ⟨Nat.le_of_ble_eq_true rfl, Nat.le_of_ble_eq_true rfl⟩) X Y hA (fun z1 H locs Y p1 => ?_)
  obtain ⟨l1, u1, x1⟩ := p1
  have J4 : ∀ (z3 : Int) (f2 : pF) (H : Heap) (locs : List Loc) (ls : Array Slot), ((-2147483648) ≤ z3) → (z3 ≤ 2147483647) → pH D cCl (pA L sz) s.heap L f2 H locs → tS E T (tFr κ L [1, 2, 3, 4, 11, 13, 16] []) κ L f κ L f2 → lv_has ls 4 [(0, .ref h)] → W p l e (kRm 73 2411 0 0) s m AV below meth c H locs 0 0 QQ (F0 m 37 ls [.int (iI z3)]) := by
    intro z3 f2 H locs ls l3 u3 Y S hl
    refine lv_istore_n (lv' := [(3, .int (iI z3)), (0, .ref h)]) X.1 X.2.1 d_H_receive_37 rfl hl (by decide) rfl (fun ls hl => ?_)
    refine lv_aload_n X.1 X.2.1 d_H_receive_38 rfl (lv_at hl 1 rfl) ?_
    refine t_getr (ci := 0) X Y S k0 rfl i_H 1 (by decide) rfl (k1 := 13) (k2 := 4000) rfl rfl lk_H_21 (fun _ h9 => h9) d_H_receive_39 (fun b8 e8 k8 => ?_)
    refine t_nv (t_runV (As := []) (rest := []) (n := 0) X Y S k8 hml hl.1 (c_By_clear l D E T κ L f2 H.size b8 4000 k8 (by omega) S.1) (ok_k X Y hA KS KR) rfl kl_H_By_clear ks_By_clear kx_By_clear ki_By_clear ini_By ⟨rfl, rfl⟩ hd_By_clear ⟨Nat.le_of_ble_eq_true rfl, Nat.le_of_ble_eq_true rfl⟩ rfl (Nat.le_of_ble_eq_true rfl) d_H_receive_42 ⟨Nat.le_of_ble_eq_true rfl, Nat.le_of_ble_eq_true rfl⟩) X Y hA S (by decide) (fun f9 H locs Y S s9 p9 => ?_)
    refine lv_iload_n X.1 X.2.1 d_H_receive_45 rfl (lv_at hl 0 rfl) ?_
    exact c_reti hQQ X Y hr hlk ⟨rfl, S, z3, rfl, ⟨by omega, by omega⟩⟩ d_H_receive_46
  refine z_if_eq (tgt := 36) X.1 X.2.1 d_H_receive_6 (by decide) ⟨by omega, by omega⟩ (fun h10 => ?_) (fun h10 => ?_)
  · refine lv_iconst (v := iI (-1)) X.1 X.2.1 d_H_receive_36 (by decide) ?_
    exact J4 ((-1)) f _ _ _ (by omega) (by omega) Y S (lv_sub hl [0] rfl)
  · refine lv_aload_n X.1 X.2.1 d_H_receive_9 rfl (lv_at hl 0 rfl) ?_
    refine t_getr (ci := 0) X Y S k0 rfl i_H 8 (by decide) rfl (k1 := 7) (k2 := 8) rfl rfl lk_H_56 (fun _ h9 => h9) d_H_receive_10 (fun b11 e11 k11 => ?_)
    refine lv_iload_n X.1 X.2.1 d_H_receive_13 rfl (lv_at hl 1 rfl) ?_
    refine t_aald X Y S k11 (fun h9 => h9) (t0 := 4) rfl (by omega) (by omega) (by omega) d_H_receive_14 (fun b12 e12 k12 => ?_)
    refine lv_iload_n X.1 X.2.1 d_H_receive_15 rfl (lv_at hl 2 rfl) ?_
    refine lv_aload_n X.1 X.2.1 d_H_receive_16 rfl (lv_at hl 0 rfl) ?_
    refine lv_iload_n X.1 X.2.1 d_H_receive_17 rfl (lv_at hl 1 rfl) ?_
    refine lv_iload_n X.1 X.2.1 d_H_receive_18 rfl (lv_at hl 2 rfl) ?_
    refine t_ui (t_runV (As := [.int (iI a1), .int (iI a2)]) (rest := [.int (iI a2), .ref b12]) (n := 2) X Y S k0 hml hl.1 (c_H_timeOf l D E T κ L f H.size h k0 a1 (by omega) (by omega) a2 (by omega) (by omega) S.1) (ok_k X Y hA KS KR) rfl kl_H_H_timeOf ks_H_timeOf kx_H_timeOf ki_H_timeOf ini_H ⟨rfl, rfl⟩ hd_H_timeOf ⟨Nat.le_of_ble_eq_true rfl, Nat.le_of_ble_eq_true rfl⟩ rfl (Nat.le_of_ble_eq_true rfl) d_H_receive_19 ⟨Nat.le_of_ble_eq_true rfl, Nat.le_of_ble_eq_true rfl⟩) X Y hA (fun z13 H locs Y p13 => ?_)
    obtain ⟨l13, u13⟩ := p13
    refine lv_aload_n X.1 X.2.1 d_H_receive_22 rfl (lv_at hl 0 rfl) ?_
    refine t_getr (ci := 0) X Y S k0 rfl i_H 1 (by decide) rfl (k1 := 13) (k2 := 4000) rfl rfl lk_H_21 (fun _ h9 => h9) d_H_receive_23 (fun b14 e14 k14 => ?_)
    refine lv_aload_n X.1 X.2.1 d_H_receive_26 rfl (lv_at hl 0 rfl) ?_
    refine t_getr (ci := 0) X Y S k0 rfl i_H 2 (by decide) rfl (k1 := 13) (k2 := 12288) rfl rfl lk_H_25 (fun _ h9 => h9) d_H_receive_27 (fun b15 e15 k15 => ?_)
    refine t_ni (t_runV (As := [.int (iI a2), .int (iI z13), .ref b14, .ref b15]) (rest := []) (n := 4) X Y S k12 hml hl.1 (c_So_hearPrivate l D E T κ L f H.size b12 k12 a2 (by omega) (by omega) z13 (by omega) (by omega) b14 4000 k14 (by omega) b15 12288 k15 (by omega) S.1) (ok_k X Y hA KS KR) rfl kl_H_So_hearPrivate ks_So_hearPrivate kx_So_hearPrivate ki_So_hearPrivate ini_So ⟨rfl, rfl⟩ hd_So_hearPrivate ⟨Nat.le_of_ble_eq_true rfl, Nat.le_of_ble_eq_true rfl⟩ rfl (Nat.le_of_ble_eq_true rfl) d_H_receive_30 ⟨Nat.le_of_ble_eq_true rfl, Nat.le_of_ble_eq_true rfl⟩) X Y hA S (by decide) (fun z16 f16 H locs Y S s16 p16 => ?_)
    obtain ⟨l16, u16⟩ := p16
    refine lv_goto (tgt := 37) X.1 X.2.1 d_H_receive_33 (by decide) ?_
    exact J4 z16 f16 _ _ _ (by omega) (by omega) Y S (lv_sub hl [0] rfl)
set_option maxHeartbeats 4000000 in
set_option maxRecDepth 100000 in
theorem c_H_ends (l : Launch) (D : va_G) (E : cE) (T : cT) (κ : tK) (L : List Nat) (f : pF) (sz : Nat) (h : Nat) (k0 : κ h = (10, 0)) (a1 : Int) (l_a1 : (-2147483648) ≤ a1) (u_a1 : a1 ≤ 2147483647) (hw : tW E T κ L f) : Met l y_H_ends (k_H_ends :: lw_tg) (kRm 2 81 0 0) (va_Pc [.ref h, .int (iI a1)] (kPre D E T L f sz)) (va_Qi (nPi E T [19] κ L f (fun (z : Int) (g : pF) => 0 ≤ z ∧ z ≤ 1)) (cPost D E (pA L sz)) (pA L sz)) 0 0 (pA L sz) := by
  refine k_enter (own := R_H) (by decide) rfl (Nat.le_of_ble_eq_true rfl) (fun p e s m below meth c ls AV QQ H locs hQQ X Y hA hin hr hlk hml hl KS KR => ?_)
  have hl : lv_has ls 2 [(0, .ref h), (1, .int (iI a1))] := hl
  have S : tS E T (tFr κ L [19] []) κ L f κ L f := tS_rf hw
  refine lv_aload_n X.1 X.2.1 d_H_ends_0 rfl (lv_at hl 0 rfl) ?_
  refine lv_iload_n X.1 X.2.1 d_H_ends_1 rfl (lv_at hl 1 rfl) ?_
  refine t_ui (t_runV (As := [.int (iI a1)]) (rest := []) (n := 1) X Y S k0 hml hl.1 (c_H_isSession l D E T κ L f H.size h k0 a1 (by omega) (by omega) S.1) (ok_k X Y hA KS KR) rfl kl_H_H_isSession ks_H_isSession kx_H_isSession ki_H_isSession ini_H ⟨rfl, rfl⟩ hd_H_isSession ⟨Nat.le_of_ble_eq_true rfl, Nat.le_of_ble_eq_true rfl⟩ rfl (Nat.le_of_ble_eq_true rfl) d_H_ends_2 ⟨Nat.le_of_ble_eq_true rfl, Nat.le_of_ble_eq_true rfl⟩) X Y hA (fun z1 H locs Y p1 => ?_)
  obtain ⟨l1, u1, x1⟩ := p1
  refine z_if_ne (tgt := 10) X.1 X.2.1 d_H_ends_5 (by decide) ⟨by omega, by omega⟩ (fun h2 => ?_) (fun h2 => ?_)
  · refine lv_aload_n X.1 X.2.1 d_H_ends_10 rfl (lv_at hl 0 rfl) ?_
    refine t_getr (ci := 0) X Y S k0 rfl i_H 8 (by decide) rfl (k1 := 7) (k2 := 8) rfl rfl lk_H_56 (fun _ h9 => h9) d_H_ends_11 (fun b3 e3 k3 => ?_)
    refine lv_iload_n X.1 X.2.1 d_H_ends_14 rfl (lv_at hl 1 rfl) ?_
    refine t_aald X Y S k3 (fun h9 => h9) (t0 := 4) rfl (by omega) (by omega) (by omega) d_H_ends_15 (fun b4 e4 k4 => ?_)
    refine lv_iconst (v := iI 0) X.1 X.2.1 d_H_ends_16 (by decide) ?_
    refine t_put (ci := 9) X Y S k4 rfl i_So t_So t_So_ok n_So 1 (by decide) rfl lk_H_239 (fun _ h9 => h9) rfl (t_So_ok 1 (by decide)) (iI_bool (by omega) (by omega)).1 (iI_bool (by omega) (by omega)).2 ⟨_, rfl, by omega, by omega⟩ (fun h9 => h9.2.1 (by rw [← (S.2.2.2 _ h9).2, k4]; decide)) d_H_ends_17 (fun f5 H locs Y S w5 => ?_)
    refine lv_iconst (v := iI 1) X.1 X.2.1 d_H_ends_20 (by decide) ?_
    exact c_retz hQQ X Y hr hlk (iI_bool (by omega) (by omega)).1 ⟨rfl, S, 1, rfl, ⟨by omega, by omega⟩⟩ d_H_ends_21
  · refine lv_iconst (v := iI 0) X.1 X.2.1 d_H_ends_8 (by decide) ?_
    exact c_retz hQQ X Y hr hlk (iI_bool (by omega) (by omega)).1 ⟨rfl, S, 0, rfl, ⟨by omega, by omega⟩⟩ d_H_ends_9
set_option maxHeartbeats 4000000 in
set_option maxRecDepth 100000 in
theorem c_H_assure (l : Launch) (D : va_G) (E : cE) (T : cT) (κ : tK) (L : List Nat) (f : pF) (sz : Nat) (h : Nat) (k0 : κ h = (10, 0)) (a1 : Int) (l_a1 : (-2147483648) ≤ a1) (u_a1 : a1 ≤ 2147483647) (a2 : Int) (l_a2 : (-2147483648) ≤ a2) (u_a2 : a2 ≤ 2147483647) (hw : tW E T κ L f) : Met l y_H_assure (k_H_assure :: lw_tg) (kRm 7 211 0 0) (va_Pc [.ref h, .int (iI a1), .int (iI a2)] (kPre D E T L f sz)) (va_Qi (nPi E T [1, 2, 3, 4, 11, 13, 16] κ L f (fun (z : Int) (g : pF) => (-2147483648) ≤ z ∧ z ≤ 2147483647)) (cPost D E (pA L sz)) (pA L sz)) 0 0 (pA L sz) := by
  refine k_enter (own := R_H) (by decide) rfl (Nat.le_of_ble_eq_true rfl) (fun p e s m below meth c ls AV QQ H locs hQQ X Y hA hin hr hlk hml hl KS KR => ?_)
  have hl : lv_has ls 4 [(0, .ref h), (1, .int (iI a1)), (2, .int (iI a2))] := hl
  have S : tS E T (tFr κ L [1, 2, 3, 4, 11, 13, 16] []) κ L f κ L f := tS_rf hw
  refine lv_aload_n X.1 X.2.1 d_H_assure_0 rfl (lv_at hl 0 rfl) ?_
  refine lv_iload_n X.1 X.2.1 d_H_assure_1 rfl (lv_at hl 1 rfl) ?_
  refine lv_iload_n X.1 X.2.1 d_H_assure_2 rfl (lv_at hl 2 rfl) ?_
  refine t_ui (t_runV (As := [.int (iI a1), .int (iI a2)]) (rest := []) (n := 2) X Y S k0 hml hl.1 (c_H_isSide l D E T κ L f H.size h k0 a1 (by omega) (by omega) a2 (by omega) (by omega) S.1) (ok_k X Y hA KS KR) rfl kl_H_H_isSide ks_H_isSide kx_H_isSide ki_H_isSide ini_H ⟨rfl, rfl⟩ hd_H_isSide ⟨Nat.le_of_ble_eq_true rfl, Nat.le_of_ble_eq_true rfl⟩ rfl (Nat.le_of_ble_eq_true rfl) d_H_assure_3 ⟨Nat.le_of_ble_eq_true rfl, Nat.le_of_ble_eq_true rfl⟩) X Y hA (fun z1 H locs Y p1 => ?_)
  obtain ⟨l1, u1, x1⟩ := p1
  have J2 : ∀  (H : Heap) (locs : List Loc) (ls : Array Slot), pH D cCl (pA L sz) s.heap L f H locs → tS E T (tFr κ L [1, 2, 3, 4, 11, 13, 16] []) κ L f κ L f → lv_has ls 4 [(0, .ref h), (1, .int (iI a1)), (2, .int (iI a2))] → W p l e (kRm 7 211 0 0) s m AV below meth c H locs 0 0 QQ (F0 m 26 ls []) := by
    intro  H locs ls  Y S hl
    refine lv_iconst (v := iI 0) X.1 X.2.1 d_H_assure_26 (by decide) ?_
    refine lv_istore_n (lv' := [(3, .int (iI 0)), (0, .ref h), (1, .int (iI a1)), (2, .int (iI a2))]) X.1 X.2.1 d_H_assure_27 rfl hl (by decide) rfl (fun ls hl => ?_)
    refine lv_iload_n X.1 X.2.1 d_H_assure_28 rfl (lv_at hl 0 rfl) ?_
    have J8 : ∀ (z7 : Int) (f6 : pF) (H : Heap) (locs : List Loc) (ls : Array Slot), (0 ≤ z7) → (z7 ≤ 1) → pH D cCl (pA L sz) s.heap L f6 H locs → tS E T (tFr κ L [1, 2, 3, 4, 11, 13, 16] []) κ L f κ L f6 → lv_has ls 4 [(0, .ref h), (3, .int (iI z7))] → W p l e (kRm 7 211 0 0) s m AV below meth c H locs 0 0 QQ (F0 m 56 ls []) := by
      intro z7 f6 H locs ls l7 u7 Y S hl
      refine lv_aload_n X.1 X.2.1 d_H_assure_56 rfl (lv_at hl 0 rfl) ?_
      refine t_getr (ci := 0) X Y S k0 rfl i_H 1 (by decide) rfl (k1 := 13) (k2 := 4000) rfl rfl lk_H_21 (fun _ h9 => h9) d_H_assure_57 (fun b12 e12 k12 => ?_)
      refine t_nv (t_runV (As := []) (rest := []) (n := 0) X Y S k12 hml hl.1 (c_By_clear l D E T κ L f6 H.size b12 4000 k12 (by omega) S.1) (ok_k X Y hA KS KR) rfl kl_H_By_clear ks_By_clear kx_By_clear ki_By_clear ini_By ⟨rfl, rfl⟩ hd_By_clear ⟨Nat.le_of_ble_eq_true rfl, Nat.le_of_ble_eq_true rfl⟩ rfl (Nat.le_of_ble_eq_true rfl) d_H_assure_60 ⟨Nat.le_of_ble_eq_true rfl, Nat.le_of_ble_eq_true rfl⟩) X Y hA S (by decide) (fun f13 H locs Y S s13 p13 => ?_)
      refine lv_iload_n X.1 X.2.1 d_H_assure_63 rfl (lv_at hl 1 rfl) ?_
      refine z_if_eq (tgt := 77) X.1 X.2.1 d_H_assure_64 (by decide) ⟨by omega, by omega⟩ (fun h14 => ?_) (fun h14 => ?_)
      · refine lv_iconst (v := iI (-1)) X.1 X.2.1 d_H_assure_77 (by decide) ?_
        exact c_reti hQQ X Y hr hlk ⟨rfl, S, (-1), rfl, ⟨by omega, by omega⟩⟩ d_H_assure_78
      · refine lv_aload_n X.1 X.2.1 d_H_assure_67 rfl (lv_at hl 0 rfl) ?_
        refine t_getr (ci := 0) X Y S k0 rfl i_H 2 (by decide) rfl (k1 := 13) (k2 := 12288) rfl rfl lk_H_25 (fun _ h9 => h9) d_H_assure_68 (fun b15 e15 k15 => ?_)
        refine t_gets (ci := 3) X Y S k15 rfl i_By 1 (by decide) rfl lk_H_81 (fun _ h9 => h9) d_H_assure_71 (fun z16 e16 l16 u16 => ?_)
        refine lv_goto (tgt := 78) X.1 X.2.1 d_H_assure_74 (by decide) ?_
        exact c_reti hQQ X Y hr hlk ⟨rfl, S, z16, rfl, ⟨by omega, by omega⟩⟩ d_H_assure_78
    refine z_if_eq (tgt := 56) X.1 X.2.1 d_H_assure_29 (by decide) ⟨by omega, by omega⟩ (fun h17 => ?_) (fun h17 => False.elim (by omega))
    · exact J8 0 f _ _ _ (by omega) (by omega) Y S (lv_sub hl [1, 0] rfl)
  refine z_if_eq (tgt := 26) X.1 X.2.1 d_H_assure_6 (by decide) ⟨by omega, by omega⟩ (fun h18 => ?_) (fun h18 => ?_)
  · exact J2  _ _ _  Y S (lv_sub hl [0, 1, 2] rfl)
  · refine lv_aload_n X.1 X.2.1 d_H_assure_9 rfl (lv_at hl 0 rfl) ?_
    refine t_getr (ci := 0) X Y S k0 rfl i_H 1 (by decide) rfl (k1 := 13) (k2 := 4000) rfl rfl lk_H_21 (fun _ h9 => h9) d_H_assure_10 (fun b19 e19 k19 => ?_)
    refine t_gets (ci := 3) X Y S k19 rfl i_By 1 (by decide) rfl lk_H_81 (fun _ h9 => h9) d_H_assure_13 (fun z20 e20 l20 u20 => ?_)
    refine lv_sipush (v := iI 1000) X.1 X.2.1 d_H_assure_16 (by decide) ?_
    refine z_icmp_gt (tgt := 26) X.1 X.2.1 d_H_assure_19 (by decide) ⟨by omega, by omega⟩ ⟨by omega, by omega⟩ (fun h21 => ?_) (fun h21 => ?_)
    · exact J2  _ _ _  Y S (lv_sub hl [0, 1, 2] rfl)
    · refine lv_iconst (v := iI 1) X.1 X.2.1 d_H_assure_22 (by decide) ?_
      refine lv_goto (tgt := 27) X.1 X.2.1 d_H_assure_23 (by decide) ?_
      refine lv_istore_n (lv' := [(3, .int (iI 1)), (0, .ref h), (1, .int (iI a1)), (2, .int (iI a2))]) X.1 X.2.1 d_H_assure_27 rfl hl (by decide) rfl (fun ls hl => ?_)
      refine lv_iload_n X.1 X.2.1 d_H_assure_28 rfl (lv_at hl 0 rfl) ?_
      have J24 : ∀ (z23 : Int) (f22 : pF) (H : Heap) (locs : List Loc) (ls : Array Slot), (0 ≤ z23) → (z23 ≤ 1) → pH D cCl (pA L sz) s.heap L f22 H locs → tS E T (tFr κ L [1, 2, 3, 4, 11, 13, 16] []) κ L f κ L f22 → lv_has ls 4 [(0, .ref h), (3, .int (iI z23))] → W p l e (kRm 7 211 0 0) s m AV below meth c H locs 0 0 QQ (F0 m 56 ls []) := by
        intro z23 f22 H locs ls l23 u23 Y S hl
        refine lv_aload_n X.1 X.2.1 d_H_assure_56 rfl (lv_at hl 0 rfl) ?_
        refine t_getr (ci := 0) X Y S k0 rfl i_H 1 (by decide) rfl (k1 := 13) (k2 := 4000) rfl rfl lk_H_21 (fun _ h9 => h9) d_H_assure_57 (fun b28 e28 k28 => ?_)
        refine t_nv (t_runV (As := []) (rest := []) (n := 0) X Y S k28 hml hl.1 (c_By_clear l D E T κ L f22 H.size b28 4000 k28 (by omega) S.1) (ok_k X Y hA KS KR) rfl kl_H_By_clear ks_By_clear kx_By_clear ki_By_clear ini_By ⟨rfl, rfl⟩ hd_By_clear ⟨Nat.le_of_ble_eq_true rfl, Nat.le_of_ble_eq_true rfl⟩ rfl (Nat.le_of_ble_eq_true rfl) d_H_assure_60 ⟨Nat.le_of_ble_eq_true rfl, Nat.le_of_ble_eq_true rfl⟩) X Y hA S (by decide) (fun f29 H locs Y S s29 p29 => ?_)
        refine lv_iload_n X.1 X.2.1 d_H_assure_63 rfl (lv_at hl 1 rfl) ?_
        refine z_if_eq (tgt := 77) X.1 X.2.1 d_H_assure_64 (by decide) ⟨by omega, by omega⟩ (fun h30 => ?_) (fun h30 => ?_)
        · refine lv_iconst (v := iI (-1)) X.1 X.2.1 d_H_assure_77 (by decide) ?_
          exact c_reti hQQ X Y hr hlk ⟨rfl, S, (-1), rfl, ⟨by omega, by omega⟩⟩ d_H_assure_78
        · refine lv_aload_n X.1 X.2.1 d_H_assure_67 rfl (lv_at hl 0 rfl) ?_
          refine t_getr (ci := 0) X Y S k0 rfl i_H 2 (by decide) rfl (k1 := 13) (k2 := 12288) rfl rfl lk_H_25 (fun _ h9 => h9) d_H_assure_68 (fun b31 e31 k31 => ?_)
          refine t_gets (ci := 3) X Y S k31 rfl i_By 1 (by decide) rfl lk_H_81 (fun _ h9 => h9) d_H_assure_71 (fun z32 e32 l32 u32 => ?_)
          refine lv_goto (tgt := 78) X.1 X.2.1 d_H_assure_74 (by decide) ?_
          exact c_reti hQQ X Y hr hlk ⟨rfl, S, z32, rfl, ⟨by omega, by omega⟩⟩ d_H_assure_78
      refine z_if_eq (tgt := 56) X.1 X.2.1 d_H_assure_29 (by decide) ⟨by omega, by omega⟩ (fun h33 => False.elim (by omega)) (fun h33 => ?_)
      · refine lv_aload_n X.1 X.2.1 d_H_assure_32 rfl (lv_at hl 1 rfl) ?_
        refine t_getr (ci := 0) X Y S k0 rfl i_H 8 (by decide) rfl (k1 := 7) (k2 := 8) rfl rfl lk_H_56 (fun _ h9 => h9) d_H_assure_33 (fun b34 e34 k34 => ?_)
        refine lv_iload_n X.1 X.2.1 d_H_assure_36 rfl (lv_at hl 2 rfl) ?_
        refine t_aald X Y S k34 (fun h9 => h9) (t0 := 4) rfl (by omega) (by omega) (by omega) d_H_assure_37 (fun b35 e35 k35 => ?_)
        refine lv_iload_n X.1 X.2.1 d_H_assure_38 rfl (lv_at hl 3 rfl) ?_
        refine lv_aload_n X.1 X.2.1 d_H_assure_39 rfl (lv_at hl 1 rfl) ?_
        refine lv_iload_n X.1 X.2.1 d_H_assure_40 rfl (lv_at hl 2 rfl) ?_
        refine lv_iload_n X.1 X.2.1 d_H_assure_41 rfl (lv_at hl 3 rfl) ?_
        refine t_ui (t_runV (As := [.int (iI a1), .int (iI a2)]) (rest := [.int (iI a2), .ref b35]) (n := 2) X Y S k0 hml hl.1 (c_H_timeOf l D E T κ L f H.size h k0 a1 (by omega) (by omega) a2 (by omega) (by omega) S.1) (ok_k X Y hA KS KR) rfl kl_H_H_timeOf ks_H_timeOf kx_H_timeOf ki_H_timeOf ini_H ⟨rfl, rfl⟩ hd_H_timeOf ⟨Nat.le_of_ble_eq_true rfl, Nat.le_of_ble_eq_true rfl⟩ rfl (Nat.le_of_ble_eq_true rfl) d_H_assure_42 ⟨Nat.le_of_ble_eq_true rfl, Nat.le_of_ble_eq_true rfl⟩) X Y hA (fun z36 H locs Y p36 => ?_)
        obtain ⟨l36, u36⟩ := p36
        refine lv_aload_n X.1 X.2.1 d_H_assure_45 rfl (lv_at hl 1 rfl) ?_
        refine t_get0 (ci := 0) X Y S k0 rfl i_H 1 (by decide) rfl lk_H_21 (fun _ h9 => h9) d_H_assure_46 e19 ?_
        refine lv_aload_n X.1 X.2.1 d_H_assure_49 rfl (lv_at hl 1 rfl) ?_
        refine t_getr (ci := 0) X Y S k0 rfl i_H 2 (by decide) rfl (k1 := 13) (k2 := 12288) rfl rfl lk_H_25 (fun _ h9 => h9) d_H_assure_50 (fun b37 e37 k37 => ?_)
        refine t_nv (t_runV (As := [.int (iI a2), .int (iI z36), .ref b19, .ref b37]) (rest := []) (n := 4) X Y S k35 hml hl.1 (c_So_putSafe l D E T κ L f H.size b35 k35 a2 (by omega) (by omega) z36 (by omega) (by omega) b19 4000 k19 (by omega) b37 12288 k37 (by omega) S.1) (ok_k X Y hA KS KR) rfl kl_H_So_putSafe ks_So_putSafe kx_So_putSafe ki_So_putSafe ini_So ⟨rfl, rfl⟩ hd_So_putSafe ⟨Nat.le_of_ble_eq_true rfl, Nat.le_of_ble_eq_true rfl⟩ rfl (Nat.le_of_ble_eq_true rfl) d_H_assure_53 ⟨Nat.le_of_ble_eq_true rfl, Nat.le_of_ble_eq_true rfl⟩) X Y hA S (by decide) (fun f38 H locs Y S s38 p38 => ?_)
        exact J24 1 f38 _ _ _ (by omega) (by omega) Y S (lv_sub hl [1, 0] rfl)
set_option maxHeartbeats 4000000 in
set_option maxRecDepth 100000 in
theorem c_H_assured (l : Launch) (D : va_G) (E : cE) (T : cT) (κ : tK) (L : List Nat) (f : pF) (sz : Nat) (h : Nat) (k0 : κ h = (10, 0)) (a1 : Int) (l_a1 : (-2147483648) ≤ a1) (u_a1 : a1 ≤ 2147483647) (a2 : Int) (l_a2 : (-2147483648) ≤ a2) (u_a2 : a2 ≤ 2147483647) (hw : tW E T κ L f) : Met l y_H_assured (k_H_assured :: lw_tg) (kRm 73 2412 0 0) (va_Pc [.ref h, .int (iI a1), .int (iI a2)] (kPre D E T L f sz)) (va_Qi (nPi E T [1, 2, 3, 4, 11, 13, 16] κ L f (fun (z : Int) (g : pF) => (-2147483648) ≤ z ∧ z ≤ 2147483647)) (cPost D E (pA L sz)) (pA L sz)) 0 0 (pA L sz) := by
  refine k_enter (own := R_H) (by decide) rfl (Nat.le_of_ble_eq_true rfl) (fun p e s m below meth c ls AV QQ H locs hQQ X Y hA hin hr hlk hml hl KS KR => ?_)
  have hl : lv_has ls 4 [(0, .ref h), (1, .int (iI a1)), (2, .int (iI a2))] := hl
  have S : tS E T (tFr κ L [1, 2, 3, 4, 11, 13, 16] []) κ L f κ L f := tS_rf hw
  refine lv_aload_n X.1 X.2.1 d_H_assured_0 rfl (lv_at hl 0 rfl) ?_
  refine lv_iload_n X.1 X.2.1 d_H_assured_1 rfl (lv_at hl 1 rfl) ?_
  refine lv_iload_n X.1 X.2.1 d_H_assured_2 rfl (lv_at hl 2 rfl) ?_
  refine t_ui (t_runV (As := [.int (iI a1), .int (iI a2)]) (rest := []) (n := 2) X Y S k0 hml hl.1 (c_H_isSide l D E T κ L f H.size h k0 a1 (by omega) (by omega) a2 (by omega) (by omega) S.1) (ok_k X Y hA KS KR) rfl kl_H_H_isSide ks_H_isSide kx_H_isSide ki_H_isSide ini_H ⟨rfl, rfl⟩ hd_H_isSide ⟨Nat.le_of_ble_eq_true rfl, Nat.le_of_ble_eq_true rfl⟩ rfl (Nat.le_of_ble_eq_true rfl) d_H_assured_3 ⟨Nat.le_of_ble_eq_true rfl, Nat.le_of_ble_eq_true rfl⟩) X Y hA (fun z1 H locs Y p1 => ?_)
  obtain ⟨l1, u1, x1⟩ := p1
  have J4 : ∀ (z3 : Int) (f2 : pF) (H : Heap) (locs : List Loc) (ls : Array Slot), ((-2147483648) ≤ z3) → (z3 ≤ 2147483647) → pH D cCl (pA L sz) s.heap L f2 H locs → tS E T (tFr κ L [1, 2, 3, 4, 11, 13, 16] []) κ L f κ L f2 → lv_has ls 4 [(0, .ref h)] → W p l e (kRm 73 2412 0 0) s m AV below meth c H locs 0 0 QQ (F0 m 37 ls [.int (iI z3)]) := by
    intro z3 f2 H locs ls l3 u3 Y S hl
    refine lv_istore_n (lv' := [(3, .int (iI z3)), (0, .ref h)]) X.1 X.2.1 d_H_assured_37 rfl hl (by decide) rfl (fun ls hl => ?_)
    refine lv_aload_n X.1 X.2.1 d_H_assured_38 rfl (lv_at hl 1 rfl) ?_
    refine t_getr (ci := 0) X Y S k0 rfl i_H 1 (by decide) rfl (k1 := 13) (k2 := 4000) rfl rfl lk_H_21 (fun _ h9 => h9) d_H_assured_39 (fun b8 e8 k8 => ?_)
    refine t_nv (t_runV (As := []) (rest := []) (n := 0) X Y S k8 hml hl.1 (c_By_clear l D E T κ L f2 H.size b8 4000 k8 (by omega) S.1) (ok_k X Y hA KS KR) rfl kl_H_By_clear ks_By_clear kx_By_clear ki_By_clear ini_By ⟨rfl, rfl⟩ hd_By_clear ⟨Nat.le_of_ble_eq_true rfl, Nat.le_of_ble_eq_true rfl⟩ rfl (Nat.le_of_ble_eq_true rfl) d_H_assured_42 ⟨Nat.le_of_ble_eq_true rfl, Nat.le_of_ble_eq_true rfl⟩) X Y hA S (by decide) (fun f9 H locs Y S s9 p9 => ?_)
    refine lv_iload_n X.1 X.2.1 d_H_assured_45 rfl (lv_at hl 0 rfl) ?_
    exact c_reti hQQ X Y hr hlk ⟨rfl, S, z3, rfl, ⟨by omega, by omega⟩⟩ d_H_assured_46
  refine z_if_eq (tgt := 36) X.1 X.2.1 d_H_assured_6 (by decide) ⟨by omega, by omega⟩ (fun h10 => ?_) (fun h10 => ?_)
  · refine lv_iconst (v := iI (-1)) X.1 X.2.1 d_H_assured_36 (by decide) ?_
    exact J4 ((-1)) f _ _ _ (by omega) (by omega) Y S (lv_sub hl [0] rfl)
  · refine lv_aload_n X.1 X.2.1 d_H_assured_9 rfl (lv_at hl 0 rfl) ?_
    refine t_getr (ci := 0) X Y S k0 rfl i_H 8 (by decide) rfl (k1 := 7) (k2 := 8) rfl rfl lk_H_56 (fun _ h9 => h9) d_H_assured_10 (fun b11 e11 k11 => ?_)
    refine lv_iload_n X.1 X.2.1 d_H_assured_13 rfl (lv_at hl 1 rfl) ?_
    refine t_aald X Y S k11 (fun h9 => h9) (t0 := 4) rfl (by omega) (by omega) (by omega) d_H_assured_14 (fun b12 e12 k12 => ?_)
    refine lv_iload_n X.1 X.2.1 d_H_assured_15 rfl (lv_at hl 2 rfl) ?_
    refine lv_aload_n X.1 X.2.1 d_H_assured_16 rfl (lv_at hl 0 rfl) ?_
    refine lv_iload_n X.1 X.2.1 d_H_assured_17 rfl (lv_at hl 1 rfl) ?_
    refine lv_iload_n X.1 X.2.1 d_H_assured_18 rfl (lv_at hl 2 rfl) ?_
    refine t_ui (t_runV (As := [.int (iI a1), .int (iI a2)]) (rest := [.int (iI a2), .ref b12]) (n := 2) X Y S k0 hml hl.1 (c_H_timeOf l D E T κ L f H.size h k0 a1 (by omega) (by omega) a2 (by omega) (by omega) S.1) (ok_k X Y hA KS KR) rfl kl_H_H_timeOf ks_H_timeOf kx_H_timeOf ki_H_timeOf ini_H ⟨rfl, rfl⟩ hd_H_timeOf ⟨Nat.le_of_ble_eq_true rfl, Nat.le_of_ble_eq_true rfl⟩ rfl (Nat.le_of_ble_eq_true rfl) d_H_assured_19 ⟨Nat.le_of_ble_eq_true rfl, Nat.le_of_ble_eq_true rfl⟩) X Y hA (fun z13 H locs Y p13 => ?_)
    obtain ⟨l13, u13⟩ := p13
    refine lv_aload_n X.1 X.2.1 d_H_assured_22 rfl (lv_at hl 0 rfl) ?_
    refine t_getr (ci := 0) X Y S k0 rfl i_H 1 (by decide) rfl (k1 := 13) (k2 := 4000) rfl rfl lk_H_21 (fun _ h9 => h9) d_H_assured_23 (fun b14 e14 k14 => ?_)
    refine lv_aload_n X.1 X.2.1 d_H_assured_26 rfl (lv_at hl 0 rfl) ?_
    refine t_getr (ci := 0) X Y S k0 rfl i_H 2 (by decide) rfl (k1 := 13) (k2 := 12288) rfl rfl lk_H_25 (fun _ h9 => h9) d_H_assured_27 (fun b15 e15 k15 => ?_)
    refine t_ni (t_runV (As := [.int (iI a2), .int (iI z13), .ref b14, .ref b15]) (rest := []) (n := 4) X Y S k12 hml hl.1 (c_So_hearSafe l D E T κ L f H.size b12 k12 a2 (by omega) (by omega) z13 (by omega) (by omega) b14 4000 k14 (by omega) b15 12288 k15 (by omega) S.1) (ok_k X Y hA KS KR) rfl kl_H_So_hearSafe ks_So_hearSafe kx_So_hearSafe ki_So_hearSafe ini_So ⟨rfl, rfl⟩ hd_So_hearSafe ⟨Nat.le_of_ble_eq_true rfl, Nat.le_of_ble_eq_true rfl⟩ rfl (Nat.le_of_ble_eq_true rfl) d_H_assured_30 ⟨Nat.le_of_ble_eq_true rfl, Nat.le_of_ble_eq_true rfl⟩) X Y hA S (by decide) (fun z16 f16 H locs Y S s16 p16 => ?_)
    obtain ⟨l16, u16⟩ := p16
    refine lv_goto (tgt := 37) X.1 X.2.1 d_H_assured_33 (by decide) ?_
    exact J4 z16 f16 _ _ _ (by omega) (by omega) Y S (lv_sub hl [0] rfl)
set_option maxHeartbeats 4000000 in
set_option maxRecDepth 100000 in
theorem c_H_hand (l : Launch) (D : va_G) (E : cE) (T : cT) (κ : tK) (L : List Nat) (f : pF) (sz : Nat) (h : Nat) (k0 : κ h = (10, 0)) (a1 : Int) (l_a1 : (-2147483648) ≤ a1) (u_a1 : a1 ≤ 2147483647) (a2 : Int) (l_a2 : (-2147483648) ≤ a2) (u_a2 : a2 ≤ 2147483647) (hw : tW E T κ L f) : Met l y_H_hand (k_H_hand :: lw_tg) (kRm 9 235 0 0) (va_Pc [.ref h, .int (iI a1), .int (iI a2)] (kPre D E T L f sz)) (va_Qi (nPi E T [1, 2, 3, 4, 11, 13, 16, 21] κ L f (fun (z : Int) (g : pF) => (-2147483648) ≤ z ∧ z ≤ 2147483647)) (cPost D E (pA L sz)) (pA L sz)) 0 0 (pA L sz) := by
  refine k_enter (own := R_H) (by decide) rfl (Nat.le_of_ble_eq_true rfl) (fun p e s m below meth c ls AV QQ H locs hQQ X Y hA hin hr hlk hml hl KS KR => ?_)
  have hl : lv_has ls 4 [(0, .ref h), (1, .int (iI a1)), (2, .int (iI a2))] := hl
  have S : tS E T (tFr κ L [1, 2, 3, 4, 11, 13, 16, 21] []) κ L f κ L f := tS_rf hw
  refine lv_aload_n X.1 X.2.1 d_H_hand_0 rfl (lv_at hl 0 rfl) ?_
  refine lv_iload_n X.1 X.2.1 d_H_hand_1 rfl (lv_at hl 1 rfl) ?_
  refine lv_iconst (v := iI 0) X.1 X.2.1 d_H_hand_2 (by decide) ?_
  refine t_ui (t_runV (As := [.int (iI a1), .int (iI 0)]) (rest := []) (n := 2) X Y S k0 hml hl.1 (c_H_isSide l D E T κ L f H.size h k0 a1 (by omega) (by omega) 0 (by omega) (by omega) S.1) (ok_k X Y hA KS KR) rfl kl_H_H_isSide ks_H_isSide kx_H_isSide ki_H_isSide ini_H ⟨rfl, rfl⟩ hd_H_isSide ⟨Nat.le_of_ble_eq_true rfl, Nat.le_of_ble_eq_true rfl⟩ rfl (Nat.le_of_ble_eq_true rfl) d_H_hand_3 ⟨Nat.le_of_ble_eq_true rfl, Nat.le_of_ble_eq_true rfl⟩) X Y hA (fun z1 H locs Y p1 => ?_)
  obtain ⟨l1, u1, x1⟩ := p1
  refine z_if_eq (tgt := 26) X.1 X.2.1 d_H_hand_6 (by decide) ⟨by omega, by omega⟩ (fun h2 => ?_) (fun h2 => ?_)
  · refine lv_iconst (v := iI (-1)) X.1 X.2.1 d_H_hand_26 (by decide) ?_
    exact c_reti hQQ X Y hr hlk ⟨rfl, S, (-1), rfl, ⟨by omega, by omega⟩⟩ d_H_hand_27
  · refine lv_aload_n X.1 X.2.1 d_H_hand_9 rfl (lv_at hl 0 rfl) ?_
    refine lv_aload_n X.1 X.2.1 d_H_hand_10 rfl (lv_at hl 0 rfl) ?_
    refine t_getr (ci := 0) X Y S k0 rfl i_H 8 (by decide) rfl (k1 := 7) (k2 := 8) rfl rfl lk_H_56 (fun _ h9 => h9) d_H_hand_11 (fun b3 e3 k3 => ?_)
    refine lv_iload_n X.1 X.2.1 d_H_hand_14 rfl (lv_at hl 1 rfl) ?_
    refine t_aald X Y S k3 (fun h9 => h9) (t0 := 4) rfl (by omega) (by omega) (by omega) d_H_hand_15 (fun b4 e4 k4 => ?_)
    refine t_geti (ci := 9) X Y S k4 rfl i_So 2 (by decide) rfl lk_H_289 (fun _ h9 => h9) d_H_hand_16 (fun z5 e5 l5 u5 => ?_)
    refine lv_iload_n X.1 X.2.1 d_H_hand_19 rfl (lv_at hl 2 rfl) ?_
    refine t_ui (t_runV (As := [.int (iI z5), .int (iI a2)]) (rest := []) (n := 2) X Y S k0 hml hl.1 (c_H_hasTicket l D E T κ L f H.size h k0 z5 (by omega) (by omega) a2 (by omega) (by omega) S.1) (ok_k X Y hA KS KR) rfl kl_H_H_hasTicket ks_H_hasTicket kx_H_hasTicket ki_H_hasTicket ini_H ⟨rfl, rfl⟩ hd_H_hasTicket ⟨Nat.le_of_ble_eq_true rfl, Nat.le_of_ble_eq_true rfl⟩ rfl (Nat.le_of_ble_eq_true rfl) d_H_hand_20 ⟨Nat.le_of_ble_eq_true rfl, Nat.le_of_ble_eq_true rfl⟩) X Y hA (fun z6 H locs Y p6 => ?_)
    obtain ⟨l6, u6, x6⟩ := p6
    refine z_if_ne (tgt := 28) X.1 X.2.1 d_H_hand_23 (by decide) ⟨by omega, by omega⟩ (fun h7 => ?_) (fun h7 => ?_)
    · refine lv_aload_n X.1 X.2.1 d_H_hand_28 rfl (lv_at hl 0 rfl) ?_
      refine t_getr (ci := 0) X Y S k0 rfl i_H 7 (by decide) rfl (k1 := 6) (k2 := 4) rfl rfl lk_H_49 (fun _ h9 => h9) d_H_hand_29 (fun b8 e8 k8 => ?_)
      refine lv_aload_n X.1 X.2.1 d_H_hand_32 rfl (lv_at hl 0 rfl) ?_
      refine t_get0 (ci := 0) X Y S k0 rfl i_H 8 (by decide) rfl lk_H_56 (fun _ h9 => h9) d_H_hand_33 e3 ?_
      refine lv_iload_n X.1 X.2.1 d_H_hand_36 rfl (lv_at hl 1 rfl) ?_
      refine t_aald0 X Y S k3 (fun h9 => h9) (t0 := 4) rfl (by omega) (by omega) (by omega) d_H_hand_37 e4 ?_
      refine t_get0 (ci := 9) X Y S k4 rfl i_So 2 (by decide) rfl lk_H_289 (fun _ h9 => h9) d_H_hand_38 e5 ?_
      refine t_aald X Y S k8 (fun h9 => h9) (t0 := 3) rfl (by omega) (by omega) (by omega) d_H_hand_41 (fun b9 e9 k9 => ?_)
      refine lv_astore_n (lv' := [(3, .ref b9), (0, .ref h), (1, .int (iI a1)), (2, .int (iI a2))]) X.1 X.2.1 d_H_hand_42 rfl hl (by decide) rfl (fun ls hl => ?_)
      refine lv_aload_n X.1 X.2.1 d_H_hand_43 rfl (lv_at hl 1 rfl) ?_
      refine t_get0 (ci := 0) X Y S k0 rfl i_H 8 (by decide) rfl lk_H_56 (fun _ h9 => h9) d_H_hand_44 e3 ?_
      refine lv_iload_n X.1 X.2.1 d_H_hand_47 rfl (lv_at hl 2 rfl) ?_
      refine t_aald0 X Y S k3 (fun h9 => h9) (t0 := 4) rfl (by omega) (by omega) (by omega) d_H_hand_48 e4 ?_
      refine lv_aload_n X.1 X.2.1 d_H_hand_49 rfl (lv_at hl 0 rfl) ?_
      refine t_getr (ci := 2) X Y S k9 rfl i_Ag 1 (by decide) rfl (k1 := 8) (k2 := 8) rfl rfl lk_H_225 (fun _ h9 => h9) d_H_hand_50 (fun b10 e10 k10 => ?_)
      refine lv_iload_n X.1 X.2.1 d_H_hand_53 rfl (lv_at hl 3 rfl) ?_
      refine t_aald X Y S k10 (fun h9 => h9) (t0 := 5) rfl (by omega) (by omega) (by omega) d_H_hand_54 (fun b11 e11 k11 => ?_)
      refine lv_aload_n X.1 X.2.1 d_H_hand_55 rfl (lv_at hl 0 rfl) ?_
      refine t_ui (t_runV (As := []) (rest := [.ref b11, .ref b4]) (n := 0) X Y S k9 hml hl.1 (c_Ag_time l D E T κ L f H.size b9 k9 S.1) (ok_k X Y hA KS KR) rfl kl_H_Ag_time ks_Ag_time kx_Ag_time ki_Ag_time ini_Ag ⟨rfl, rfl⟩ hd_Ag_time ⟨Nat.le_of_ble_eq_true rfl, Nat.le_of_ble_eq_true rfl⟩ rfl (Nat.le_of_ble_eq_true rfl) d_H_hand_56 ⟨Nat.le_of_ble_eq_true rfl, Nat.le_of_ble_eq_true rfl⟩) X Y hA (fun z12 H locs Y p12 => ?_)
      obtain ⟨l12, u12⟩ := p12
      refine lv_aload_n X.1 X.2.1 d_H_hand_59 rfl (lv_at hl 1 rfl) ?_
      refine t_getr (ci := 0) X Y S k0 rfl i_H 2 (by decide) rfl (k1 := 13) (k2 := 12288) rfl rfl lk_H_25 (fun _ h9 => h9) d_H_hand_60 (fun b13 e13 k13 => ?_)
      refine t_nv (t_runV (As := [.ref b11, .int (iI z12), .ref b13]) (rest := []) (n := 3) X Y S k4 hml hl.1 (c_So_putCred l D E T κ L f H.size b4 k4 b11 k11 z12 (by omega) (by omega) b13 12288 k13 (by omega) S.1) (ok_k X Y hA KS KR) rfl kl_H_So_putCred ks_So_putCred kx_So_putCred ki_So_putCred ini_So ⟨rfl, rfl⟩ hd_So_putCred ⟨Nat.le_of_ble_eq_true rfl, Nat.le_of_ble_eq_true rfl⟩ rfl (Nat.le_of_ble_eq_true rfl) d_H_hand_63 ⟨Nat.le_of_ble_eq_true rfl, Nat.le_of_ble_eq_true rfl⟩) X Y hA S (by decide) (fun f14 H locs Y S s14 p14 => ?_)
      refine lv_aload_n X.1 X.2.1 d_H_hand_66 rfl (lv_at hl 1 rfl) ?_
      refine t_get0 (ci := 0) X Y S k0 rfl i_H 2 (by decide) rfl lk_H_25 (fun _ h9 => h9) d_H_hand_67 ((gF_same (s14.2.2.2 _ ⟨(t_obj S.1 k0).1, by rw [k0]; decide, by simp⟩).1 2).trans e13) ?_
      refine t_gets (ci := 3) X Y S k13 rfl i_By 1 (by decide) rfl lk_H_81 (fun _ h9 => h9) d_H_hand_70 (fun z15 e15 l15 u15 => ?_)
      exact c_reti hQQ X Y hr hlk ⟨rfl, S, z15, rfl, ⟨by omega, by omega⟩⟩ d_H_hand_73
    · refine lv_iconst (v := iI (-1)) X.1 X.2.1 d_H_hand_26 (by decide) ?_
      exact c_reti hQQ X Y hr hlk ⟨rfl, S, (-1), rfl, ⟨by omega, by omega⟩⟩ d_H_hand_27
set_option maxHeartbeats 4000000 in
set_option maxRecDepth 100000 in
theorem c_H_handed (l : Launch) (D : va_G) (E : cE) (T : cT) (κ : tK) (L : List Nat) (f : pF) (sz : Nat) (h : Nat) (k0 : κ h = (10, 0)) (a1 : Int) (l_a1 : (-2147483648) ≤ a1) (u_a1 : a1 ≤ 2147483647) (a2 : Int) (l_a2 : (-2147483648) ≤ a2) (u_a2 : a2 ≤ 2147483647) (hw : tW E T κ L f) : Met l y_H_handed (k_H_handed :: lw_tg) (kRm 73 2411 3 4035) (va_Pc [.ref h, .int (iI a1), .int (iI a2)] (kPre D E T L f sz)) (va_Qi (aPi E T [1, 2, 3, 4, 5, 6, 7, 8, 9, 10, 11, 12, 13, 14, 15, 16, 17, 18, 19, 20, 21] [] κ L f (fun (z : Int) (k : tK) (g : pF) => (-2147483648) ≤ z ∧ z ≤ 2147483647)) (cPost D E (pA L sz)) (pA L sz)) 3 4035 (pA L sz) := by
  refine k_enter (own := R_H) (by decide) rfl (Nat.le_of_ble_eq_true rfl) (fun p e s m below meth c ls AV QQ H locs hQQ X Y hA hin hr hlk hml hl KS KR => ?_)
  have hl : lv_has ls 4 [(0, .ref h), (1, .int (iI a1)), (2, .int (iI a2))] := hl
  have S : tS E T (tFr κ L [1, 2, 3, 4, 5, 6, 7, 8, 9, 10, 11, 12, 13, 14, 15, 16, 17, 18, 19, 20, 21] []) κ L f κ L f := tS_rf hw
  have hF0 : ∀ b, tFr κ L [1, 2, 3, 4, 5, 6, 7, 8, 9, 10, 11, 12, 13, 14, 15, 16, 17, 18, 19, 20, 21] [] b → b ∈ L := fun b h9 => h9.1
  refine lv_iconst (v := iI (-1)) X.1 X.2.1 d_H_handed_0 (by decide) ?_
  refine lv_istore_n (lv' := [(3, .int (iI ((-1)))), (0, .ref h), (1, .int (iI a1)), (2, .int (iI a2))]) X.1 X.2.1 d_H_handed_1 rfl hl (by decide) rfl (fun ls hl => ?_)
  refine lv_aload_n X.1 X.2.1 d_H_handed_2 rfl (lv_at hl 1 rfl) ?_
  refine lv_iload_n X.1 X.2.1 d_H_handed_3 rfl (lv_at hl 2 rfl) ?_
  refine t_ui (t_runV (As := [.int (iI a1)]) (rest := []) (n := 1) X Y S k0 hml hl.1 (c_H_isSession l D E T κ L f H.size h k0 a1 (by omega) (by omega) S.1) (ok_k X Y hA KS KR) rfl kl_H_H_isSession ks_H_isSession kx_H_isSession ki_H_isSession ini_H ⟨rfl, rfl⟩ hd_H_isSession ⟨Nat.le_of_ble_eq_true rfl, Nat.le_of_ble_eq_true rfl⟩ rfl (Nat.le_of_ble_eq_true rfl) d_H_handed_4 ⟨Nat.le_of_ble_eq_true rfl, Nat.le_of_ble_eq_true rfl⟩) X Y hA (fun z1 H locs Y p1 => ?_)
  obtain ⟨l1, u1, x1⟩ := p1
  have J7 : ∀ (κ3 : tK) (L4 : List Nat) (z6 : Int) (f2 : pF) (H : Heap) (locs : List Loc) (ls : Array Slot), (κ3 h = (10, 0)) → ((-2147483648) ≤ z6) → (z6 ≤ 2147483647) → pH D cCl (pA L sz) s.heap L4 f2 H locs → tS E T (tFr κ L [1, 2, 3, 4, 5, 6, 7, 8, 9, 10, 11, 12, 13, 14, 15, 16, 17, 18, 19, 20, 21] []) κ L f κ3 L4 f2 → lv_has ls 4 [(0, .ref h), (3, .int (iI z6))] → W p l e (kRm 73 2411 3 4035) s m AV below meth c H locs 3 4035 QQ (F0 m 50 ls []) := by
    intro κ3 L4 z6 f2 H locs ls k5 l6 u6 Y S hl
    refine lv_aload_n X.1 X.2.1 d_H_handed_50 rfl (lv_at hl 0 rfl) ?_
    refine t_getr (ci := 0) X Y S k5 rfl i_H 1 (by decide) rfl (k1 := 13) (k2 := 4000) rfl rfl lk_H_21 (fun _ h9 => h9) d_H_handed_51 (fun b11 e11 k11 => ?_)
    refine t_nv (t_runV (As := []) (rest := []) (n := 0) X Y S k11 hml hl.1 (c_By_clear l D E T κ3 L4 f2 H.size b11 4000 k11 (by omega) S.1) (ok_k X Y hA KS KR) rfl kl_H_By_clear ks_By_clear kx_By_clear ki_By_clear ini_By ⟨rfl, rfl⟩ hd_By_clear ⟨Nat.le_of_ble_eq_true rfl, Nat.le_of_ble_eq_true rfl⟩ rfl (Nat.le_of_ble_eq_true rfl) d_H_handed_54 ⟨Nat.le_of_ble_eq_true rfl, Nat.le_of_ble_eq_true rfl⟩) X Y hA S (by decide) (fun f12 H locs Y S s12 p12 => ?_)
    refine lv_iload_n X.1 X.2.1 d_H_handed_57 rfl (lv_at hl 1 rfl) ?_
    exact c_reti hQQ X Y hr hlk ⟨κ3, S, z6, rfl, ⟨by omega, by omega⟩⟩ d_H_handed_58
  refine z_if_eq (tgt := 50) X.1 X.2.1 d_H_handed_7 (by decide) ⟨by omega, by omega⟩ (fun h13 => ?_) (fun h13 => ?_)
  · refine W.widen (k := 3) (n := 4035) (Nat.le_of_ble_eq_true rfl) (Nat.le_of_ble_eq_true rfl) ?_
    exact J7 κ L ((-1)) f _ _ _ k0 (by omega) (by omega) Y S (lv_sub hl [1, 0] rfl)
  · refine lv_aload_n X.1 X.2.1 d_H_handed_10 rfl (lv_at hl 1 rfl) ?_
    refine lv_iload_n X.1 X.2.1 d_H_handed_11 rfl (lv_at hl 3 rfl) ?_
    refine t_ui (t_runV (As := [.int (iI a2)]) (rest := []) (n := 1) X Y S k0 hml hl.1 (c_H_isAgent l D E T κ L f H.size h k0 a2 (by omega) (by omega) S.1) (ok_k X Y hA KS KR) rfl kl_H_H_isAgent ks_H_isAgent kx_H_isAgent ki_H_isAgent ini_H ⟨rfl, rfl⟩ hd_H_isAgent ⟨Nat.le_of_ble_eq_true rfl, Nat.le_of_ble_eq_true rfl⟩ rfl (Nat.le_of_ble_eq_true rfl) d_H_handed_12 ⟨Nat.le_of_ble_eq_true rfl, Nat.le_of_ble_eq_true rfl⟩) X Y hA (fun z14 H locs Y p14 => ?_)
    obtain ⟨l14, u14, x14⟩ := p14
    refine z_if_eq (tgt := 50) X.1 X.2.1 d_H_handed_15 (by decide) ⟨by omega, by omega⟩ (fun h15 => ?_) (fun h15 => ?_)
    · refine W.widen (k := 3) (n := 4035) (Nat.le_of_ble_eq_true rfl) (Nat.le_of_ble_eq_true rfl) ?_
      exact J7 κ L ((-1)) f _ _ _ k0 (by omega) (by omega) Y S (lv_sub hl [1, 0] rfl)
    · refine lv_aload_n X.1 X.2.1 d_H_handed_18 rfl (lv_at hl 1 rfl) ?_
      refine t_getr (ci := 0) X Y S k0 rfl i_H 8 (by decide) rfl (k1 := 7) (k2 := 8) rfl rfl lk_H_56 (fun _ h9 => h9) d_H_handed_19 (fun b16 e16 k16 => ?_)
      refine lv_iload_n X.1 X.2.1 d_H_handed_22 rfl (lv_at hl 2 rfl) ?_
      refine t_aald X Y S k16 (fun h9 => h9) (t0 := 4) rfl (by omega) (by omega) (by omega) d_H_handed_23 (fun b17 e17 k17 => ?_)
      refine lv_aload_n X.1 X.2.1 d_H_handed_24 rfl (lv_at hl 1 rfl) ?_
      refine t_getr (ci := 0) X Y S k0 rfl i_H 1 (by decide) rfl (k1 := 13) (k2 := 4000) rfl rfl lk_H_21 (fun _ h9 => h9) d_H_handed_25 (fun b18 e18 k18 => ?_)
      refine t_ni (t_runV (As := [.ref b18]) (rest := []) (n := 1) X Y S k17 hml hl.1 (c_So_judgeCred l D E T κ L f H.size b17 k17 b18 4000 k18 (by omega) S.1) (ok_k X Y hA KS KR) rfl kl_H_So_judgeCred ks_So_judgeCred kx_So_judgeCred ki_So_judgeCred ini_So ⟨rfl, rfl⟩ hd_So_judgeCred ⟨Nat.le_of_ble_eq_true rfl, Nat.le_of_ble_eq_true rfl⟩ rfl (Nat.le_of_ble_eq_true rfl) d_H_handed_28 ⟨Nat.le_of_ble_eq_true rfl, Nat.le_of_ble_eq_true rfl⟩) X Y hA S (by decide) (fun z19 f19 H locs Y S s19 p19 => ?_)
      obtain ⟨l19, u19⟩ := p19
      refine lv_istore_n (lv' := [(3, .int (iI z19)), (0, .ref h), (1, .int (iI a1)), (2, .int (iI a2))]) X.1 X.2.1 d_H_handed_31 rfl hl (by decide) rfl (fun ls hl => ?_)
      refine lv_iload_n X.1 X.2.1 d_H_handed_32 rfl (lv_at hl 0 rfl) ?_
      refine z_if_ne (tgt := 50) X.1 X.2.1 d_H_handed_33 (by decide) ⟨by omega, by omega⟩ (fun h20 => ?_) (fun h20 => ?_)
      · refine W.widen (k := 3) (n := 4035) (Nat.le_of_ble_eq_true rfl) (Nat.le_of_ble_eq_true rfl) ?_
        exact J7 κ L z19 f19 _ _ _ k0 (by omega) (by omega) Y S (lv_sub hl [1, 0] rfl)
      · refine lv_aload_n X.1 X.2.1 d_H_handed_36 rfl (lv_at hl 1 rfl) ?_
        refine t_getr (ci := 0) X Y S k0 rfl i_H 7 (by decide) rfl (k1 := 6) (k2 := 4) rfl rfl lk_H_49 (fun _ h9 => h9) d_H_handed_37 (fun b21 e21 k21 => ?_)
        refine lv_iload_n X.1 X.2.1 d_H_handed_40 rfl (lv_at hl 3 rfl) ?_
        refine t_aald X Y S k21 (fun h9 => h9) (t0 := 3) rfl (by omega) (by omega) (by omega) d_H_handed_41 (fun b22 e22 k22 => ?_)
        refine lv_aload_n X.1 X.2.1 d_H_handed_42 rfl (lv_at hl 1 rfl) ?_
        refine t_get0 (ci := 0) X Y S k0 rfl i_H 1 (by decide) rfl lk_H_21 (fun _ h9 => h9) d_H_handed_43 ((gF_same (s19.2.2.2 _ ⟨(t_obj S.1 k0).1, by rw [k0]; decide, by simp⟩).1 1).trans e18) ?_
        refine t_ai (t_runV (As := [.ref b18]) (rest := []) (n := 1) X Y S k22 hml hl.1 (c_Ag_keepHanded l D E T κ L f19 H.size b22 k22 b18 4000 k18 (by omega) S.1) (ok_k X Y hA KS KR) rfl kl_H_Ag_keepHanded ks_Ag_keepHanded kx_Ag_keepHanded ki_Ag_keepHanded ini_Ag ⟨rfl, rfl⟩ hd_Ag_keepHanded ⟨Nat.le_of_ble_eq_true rfl, Nat.le_of_ble_eq_true rfl⟩ rfl (Nat.le_of_ble_eq_true rfl) d_H_handed_46 ⟨Nat.le_of_ble_eq_true rfl, Nat.le_of_ble_eq_true rfl⟩) X Y hA S (by decide) (fun z23 κ23 L23 f23 H locs Y S s23 p23 => ?_)
        obtain ⟨l23, u23⟩ := p23
        have k24 : κ23 h = (10, 0) := tLe_k s23.2.2.1 k0
        refine lv_istore_n (lv' := [(3, .int (iI z23)), (0, .ref h), (1, .int (iI a1)), (2, .int (iI a2))]) X.1 X.2.1 d_H_handed_49 rfl hl (by decide) rfl (fun ls hl => ?_)
        exact J7 κ23 L23 z23 f23 _ _ _ k24 (by omega) (by omega) Y S (lv_sub hl [1, 0] rfl)
