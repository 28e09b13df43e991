set_option maxHeartbeats 4000000 in
set_option maxRecDepth 100000 in
theorem c_Ga_startTime (l : Launch) (D : va_G) (E : cE) (T : cT) (κ : tK) (L : List Nat) (f : pF) (sz : Nat) (h : Nat) (k0 : κ h = (15, 0)) (hw : tW E T κ L f) : Met l y_Ga_startTime (k_Ga_startTime :: lw_tg) (kRm 4 130 0 0) (va_Pc [.ref h] (kPre D E T L f sz)) (va_Qi (uPi L f (fun (z : Int) => (-2147483648) ≤ z ∧ z ≤ 2147483647)) (cPost D E (pA L sz)) (pA L sz)) 0 0 (pA L sz) := by
  refine k_enter (own := R_Ga) (by decide) rfl (Nat.le_of_ble_eq_true rfl) (fun p e s m below meth c ls AV QQ H locs hQQ X Y hA hin hr hlk hml hl KS KR => ?_)
  have hl : lv_has ls 2 [(0, .ref h)] := hl
  have S : tS E T (tFr κ L [] []) κ L f κ L f := tS_rf hw
  refine lv_aload_n X.1 X.2.1 d_Ga_startTime_0 rfl (lv_at hl 0 rfl) ?_
  refine t_getr (ci := 5) X Y S k0 rfl i_Ga 1 (by decide) rfl (k1 := 13) (k2 := 4000) rfl rfl lk_Ga_14 (fun _ h9 => h9) d_Ga_startTime_1 (fun b1 e1 k1 => ?_)
  refine lv_iconst (v := iI 0) X.1 X.2.1 d_Ga_startTime_4 (by decide) ?_
  refine lv_bipush (v := iI 6) X.1 X.2.1 d_Ga_startTime_5 (by decide) ?_
  refine t_ui (t_runV (As := [.int (iI 0), .int (iI 6)]) (rest := []) (n := 2) X Y S k1 hml hl.1 (c_By_field l D E T κ L f H.size b1 4000 k1 (by omega) 0 (by omega) (by omega) 6 (by omega) (by omega) S.1) (ok_k X Y hA KS KR) rfl kl_Ga_By_field ks_By_field kx_By_field ki_By_field ini_By ⟨rfl, rfl⟩ hd_By_field ⟨Nat.le_of_ble_eq_true rfl, Nat.le_of_ble_eq_true rfl⟩ rfl (Nat.le_of_ble_eq_true rfl) d_Ga_startTime_7 ⟨Nat.le_of_ble_eq_true rfl, Nat.le_of_ble_eq_true rfl⟩) X Y hA (fun z2 H locs Y p2 => ?_)
  obtain ⟨l2, u2⟩ := p2
  refine lv_istore_n (lv' := [(1, .int (iI z2)), (0, .ref h)]) X.1 X.2.1 d_Ga_startTime_10 rfl hl (by decide) rfl (fun ls hl => ?_)
  refine lv_aload_n X.1 X.2.1 d_Ga_startTime_11 rfl (lv_at hl 1 rfl) ?_
  refine t_get0 (ci := 5) X Y S k0 rfl i_Ga 1 (by decide) rfl lk_Ga_14 (fun _ h9 => h9) d_Ga_startTime_12 e1 ?_
  refine lv_iload_n X.1 X.2.1 d_Ga_startTime_15 rfl (lv_at hl 0 rfl) ?_
  have J4 : ∀ (z3 : Int) (H : Heap) (locs : List Loc) (ls : Array Slot), ((-1) ≤ z3) → (z3 ≤ 12420) → pH D cCl (pA L sz) s.heap L f H locs → tS E T (tFr κ L [] []) κ L f κ L f → lv_has ls 2 [] → W p l e (kRm 4 130 0 0) s m AV below meth c H locs 0 0 QQ (F0 m 32 ls [.int (iI z3), .ref b1]) := by
    intro z3 H locs ls l3 u3 Y S hl
    refine t_ui (t_runV (As := [.int (iI z3)]) (rest := []) (n := 1) X Y S k1 hml hl.1 (c_By_timeAt l D E T κ L f H.size b1 4000 k1 (by omega) z3 (by omega) (by omega) S.1) (ok_k X Y hA KS KR) rfl kl_Ga_By_timeAt ks_By_timeAt kx_By_timeAt ki_By_timeAt ini_By ⟨rfl, rfl⟩ hd_By_timeAt ⟨Nat.le_of_ble_eq_true rfl, Nat.le_of_ble_eq_true rfl⟩ rfl (Nat.le_of_ble_eq_true rfl) d_Ga_startTime_32 ⟨Nat.le_of_ble_eq_true rfl, Nat.le_of_ble_eq_true rfl⟩) X Y hA (fun z8 H locs Y p8 => ?_)
    obtain ⟨l8, u8⟩ := p8
    exact c_reti hQQ X Y hr hlk ⟨rfl, rfl, z8, rfl, ⟨by omega, by omega⟩⟩ d_Ga_startTime_35
  refine z_if_lt (tgt := 23) X.1 X.2.1 d_Ga_startTime_16 (by decide) ⟨by omega, by omega⟩ (fun h9 => ?_) (fun h9 => ?_)
  · refine lv_aload_n X.1 X.2.1 d_Ga_startTime_23 rfl (lv_at hl 1 rfl) ?_
    refine t_get0 (ci := 5) X Y S k0 rfl i_Ga 1 (by decide) rfl lk_Ga_14 (fun _ h9 => h9) d_Ga_startTime_24 e1 ?_
    refine lv_iconst (v := iI 0) X.1 X.2.1 d_Ga_startTime_27 (by decide) ?_
    refine lv_iconst (v := iI 5) X.1 X.2.1 d_Ga_startTime_28 (by decide) ?_
    refine t_ui (t_runV (As := [.int (iI 0), .int (iI 5)]) (rest := [.ref b1]) (n := 2) X Y S k1 hml hl.1 (c_By_field l D E T κ L f H.size b1 4000 k1 (by omega) 0 (by omega) (by omega) 5 (by omega) (by omega) S.1) (ok_k X Y hA KS KR) rfl kl_Ga_By_field ks_By_field kx_By_field ki_By_field ini_By ⟨rfl, rfl⟩ hd_By_field ⟨Nat.le_of_ble_eq_true rfl, Nat.le_of_ble_eq_true rfl⟩ rfl (Nat.le_of_ble_eq_true rfl) d_Ga_startTime_29 ⟨Nat.le_of_ble_eq_true rfl, Nat.le_of_ble_eq_true rfl⟩) X Y hA (fun z10 H locs Y p10 => ?_)
    obtain ⟨l10, u10⟩ := p10
    exact J4 z10 _ _ _ (by omega) (by omega) Y S (lv_sub hl [] rfl)
  · refine lv_iload_n X.1 X.2.1 d_Ga_startTime_19 rfl (lv_at hl 0 rfl) ?_
    refine lv_goto (tgt := 32) X.1 X.2.1 d_Ga_startTime_20 (by decide) ?_
    exact J4 z2 _ _ _ (by omega) (by omega) Y S (lv_sub hl [] rfl)
set_option maxHeartbeats 4000000 in
set_option maxRecDepth 100000 in
theorem c_Ga_judgeTimes (l : Launch) (D : va_G) (E : cE) (T : cT) (κ : tK) (L : List Nat) (f : pF) (sz : Nat) (h : Nat) (k0 : κ h = (15, 0)) (hw : tW E T κ L f) : Met l y_Ga_judgeTimes (k_Ga_judgeTimes :: lw_tg) (kRm 5 151 0 0) (va_Pc [.ref h] (kPre D E T L f sz)) (va_Qi (uPi L f (fun (z : Int) => (-2147483648) ≤ z ∧ z ≤ 2147483647)) (cPost D E (pA L sz)) (pA L sz)) 0 0 (pA L sz) := by
  refine k_enter (own := R_Ga) (by decide) rfl (Nat.le_of_ble_eq_true rfl) (fun p e s m below meth c ls AV QQ H locs hQQ X Y hA hin hr hlk hml hl KS KR => ?_)
  have hl : lv_has ls 1 [(0, .ref h)] := hl
  have S : tS E T (tFr κ L [] []) κ L f κ L f := tS_rf hw
  refine lv_aload_n X.1 X.2.1 d_Ga_judgeTimes_0 rfl (lv_at hl 0 rfl) ?_
  refine t_ui (t_runV (As := []) (rest := []) (n := 0) X Y S k0 hml hl.1 (c_Ga_startTime l D E T κ L f H.size h k0 S.1) (ok_k X Y hA KS KR) rfl kl_Ga_Ga_startTime ks_Ga_startTime kx_Ga_startTime ki_Ga_startTime ini_Ga ⟨rfl, rfl⟩ hd_Ga_startTime ⟨Nat.le_of_ble_eq_true rfl, Nat.le_of_ble_eq_true rfl⟩ rfl (Nat.le_of_ble_eq_true rfl) d_Ga_judgeTimes_1 ⟨Nat.le_of_ble_eq_true rfl, Nat.le_of_ble_eq_true rfl⟩) X Y hA (fun z1 H locs Y p1 => ?_)
  obtain ⟨l1, u1⟩ := p1
  refine lv_aload_n X.1 X.2.1 d_Ga_judgeTimes_4 rfl (lv_at hl 0 rfl) ?_
  refine t_getr (ci := 5) X Y S k0 rfl i_Ga 0 (by decide) rfl (k1 := 21) (k2 := 0) rfl rfl lk_Ga_34 (fun _ h9 => h9) d_Ga_judgeTimes_5 (fun b2 e2 k2 => ?_)
  refine t_geti (ci := 11) X Y S k2 rfl i_Va 0 (by decide) rfl lk_Ga_125 (fun _ h9 => h9) d_Ga_judgeTimes_8 (fun z3 e3 l3 u3 => ?_)
  refine lv_isub X.1 X.2.1 d_Ga_judgeTimes_11 ?_
  refine t_u (fun z4 l4 u4 => ?_)
  refine lv_sipush (v := iI 300) X.1 X.2.1 d_Ga_judgeTimes_12 (by decide) ?_
  refine z_icmp_le (tgt := 21) X.1 X.2.1 d_Ga_judgeTimes_15 (by decide) ⟨by omega, by omega⟩ ⟨by omega, by omega⟩ (fun h5 => ?_) (fun h5 => ?_)
  · refine lv_aload_n X.1 X.2.1 d_Ga_judgeTimes_21 rfl (lv_at hl 0 rfl) ?_
    refine t_getr (ci := 5) X Y S k0 rfl i_Ga 1 (by decide) rfl (k1 := 13) (k2 := 4000) rfl rfl lk_Ga_14 (fun _ h9 => h9) d_Ga_judgeTimes_22 (fun b6 e6 k6 => ?_)
    refine lv_aload_n X.1 X.2.1 d_Ga_judgeTimes_25 rfl (lv_at hl 0 rfl) ?_
    refine t_get0 (ci := 5) X Y S k0 rfl i_Ga 1 (by decide) rfl lk_Ga_14 (fun _ h9 => h9) d_Ga_judgeTimes_26 e6 ?_
    refine lv_iconst (v := iI 0) X.1 X.2.1 d_Ga_judgeTimes_29 (by decide) ?_
    refine lv_bipush (v := iI 7) X.1 X.2.1 d_Ga_judgeTimes_30 (by decide) ?_
    refine t_ui (t_runV (As := [.int (iI 0), .int (iI 7)]) (rest := [.ref b6]) (n := 2) X Y S k6 hml hl.1 (c_By_field l D E T κ L f H.size b6 4000 k6 (by omega) 0 (by omega) (by omega) 7 (by omega) (by omega) S.1) (ok_k X Y hA KS KR) rfl kl_Ga_By_field ks_By_field kx_By_field ki_By_field ini_By ⟨rfl, rfl⟩ hd_By_field ⟨Nat.le_of_ble_eq_true rfl, Nat.le_of_ble_eq_true rfl⟩ rfl (Nat.le_of_ble_eq_true rfl) d_Ga_judgeTimes_32 ⟨Nat.le_of_ble_eq_true rfl, Nat.le_of_ble_eq_true rfl⟩) X Y hA (fun z7 H locs Y p7 => ?_)
    obtain ⟨l7, u7⟩ := p7
    refine t_ui (t_runV (As := [.int (iI z7)]) (rest := []) (n := 1) X Y S k6 hml hl.1 (c_By_timeAt l D E T κ L f H.size b6 4000 k6 (by omega) z7 (by omega) (by omega) S.1) (ok_k X Y hA KS KR) rfl kl_Ga_By_timeAt ks_By_timeAt kx_By_timeAt ki_By_timeAt ini_By ⟨rfl, rfl⟩ hd_By_timeAt ⟨Nat.le_of_ble_eq_true rfl, Nat.le_of_ble_eq_true rfl⟩ rfl (Nat.le_of_ble_eq_true rfl) d_Ga_judgeTimes_35 ⟨Nat.le_of_ble_eq_true rfl, Nat.le_of_ble_eq_true rfl⟩) X Y hA (fun z8 H locs Y p8 => ?_)
    obtain ⟨l8, u8⟩ := p8
    refine lv_aload_n X.1 X.2.1 d_Ga_judgeTimes_38 rfl (lv_at hl 0 rfl) ?_
    refine t_get0 (ci := 5) X Y S k0 rfl i_Ga 0 (by decide) rfl lk_Ga_34 (fun _ h9 => h9) d_Ga_judgeTimes_39 e2 ?_
    refine t_get0 (ci := 11) X Y S k2 rfl i_Va 0 (by decide) rfl lk_Ga_125 (fun _ h9 => h9) d_Ga_judgeTimes_42 e3 ?_
    refine z_icmp_gt (tgt := 53) X.1 X.2.1 d_Ga_judgeTimes_45 (by decide) ⟨by omega, by omega⟩ ⟨by omega, by omega⟩ (fun h9 => ?_) (fun h9 => ?_)
    · refine lv_iconst (v := iI 0) X.1 X.2.1 d_Ga_judgeTimes_53 (by decide) ?_
      exact c_reti hQQ X Y hr hlk ⟨rfl, rfl, 0, rfl, ⟨by omega, by omega⟩⟩ d_Ga_judgeTimes_54
    · refine lv_bipush (v := iI 32) X.1 X.2.1 d_Ga_judgeTimes_48 (by decide) ?_
      refine lv_goto (tgt := 54) X.1 X.2.1 d_Ga_judgeTimes_50 (by decide) ?_
      exact c_reti hQQ X Y hr hlk ⟨rfl, rfl, 32, rfl, ⟨by omega, by omega⟩⟩ d_Ga_judgeTimes_54
  · refine lv_bipush (v := iI 33) X.1 X.2.1 d_Ga_judgeTimes_18 (by decide) ?_
    exact c_reti hQQ X Y hr hlk ⟨rfl, rfl, 33, rfl, ⟨by omega, by omega⟩⟩ d_Ga_judgeTimes_20
set_option maxHeartbeats 4000000 in
set_option maxRecDepth 100000 in
theorem c_Ga_keep (l : Launch) (D : va_G) (E : cE) (T : cT) (κ : tK) (L : List Nat) (f : pF) (sz : Nat) (h : Nat) (k0 : κ h = (15, 0)) (a1 : Nat) (k1 : κ a1 = (18, 0)) (hw : tW E T κ L f) : Met l y_Ga_keep (k_Ga_keep :: lw_tg) (kRm 4 132 0 0) (va_Pc [.ref h, .ref a1] (kPre D E T L f sz)) (va_Qi (nPi E T [1, 2, 3, 4, 18] κ L f (fun (z : Int) (g : pF) => (-2147483648) ≤ z ∧ z ≤ 2147483647)) (cPost D E (pA L sz)) (pA L sz)) 0 0 (pA L sz) := by
  refine k_enter (own := R_Ga) (by decide) rfl (Nat.le_of_ble_eq_true rfl) (fun p e s m below meth c ls AV QQ H locs hQQ X Y hA hin hr hlk hml hl KS KR => ?_)
  have hl : lv_has ls 7 [(0, .ref h), (1, .ref a1)] := hl
  have S : tS E T (tFr κ L [1, 2, 3, 4, 18] []) κ L f κ L f := tS_rf hw
  refine lv_aload_n X.1 X.2.1 d_Ga_keep_0 rfl (lv_at hl 0 rfl) ?_
  refine t_getr (ci := 5) X Y S k0 rfl i_Ga 2 (by decide) rfl (k1 := 13) (k2 := 4000) rfl rfl lk_Ga_20 (fun _ h9 => h9) d_Ga_keep_1 (fun b1 e1 k1 => ?_)
  refine lv_aload_n X.1 X.2.1 d_Ga_keep_4 rfl (lv_at hl 0 rfl) ?_
  refine t_get0 (ci := 5) X Y S k0 rfl i_Ga 2 (by decide) rfl lk_Ga_20 (fun _ h9 => h9) d_Ga_keep_5 e1 ?_
  refine lv_iconst (v := iI 0) X.1 X.2.1 d_Ga_keep_8 (by decide) ?_
  refine lv_iconst (v := iI 2) X.1 X.2.1 d_Ga_keep_9 (by decide) ?_
  refine t_ui (t_runV (As := [.int (iI 0), .int (iI 2)]) (rest := [.ref b1]) (n := 2) X Y S k1 hml hl.1 (c_By_field l D E T κ L f H.size b1 4000 k1 (by omega) 0 (by omega) (by omega) 2 (by omega) (by omega) S.1) (ok_k X Y hA KS KR) rfl kl_Ga_By_field ks_By_field kx_By_field ki_By_field ini_By ⟨rfl, rfl⟩ hd_By_field ⟨Nat.le_of_ble_eq_true rfl, Nat.le_of_ble_eq_true rfl⟩ rfl (Nat.le_of_ble_eq_true rfl) d_Ga_keep_10 ⟨Nat.le_of_ble_eq_true rfl, Nat.le_of_ble_eq_true rfl⟩) X Y hA (fun z2 H locs Y p2 => ?_)
  obtain ⟨l2, u2⟩ := p2
  refine lv_iconst (v := iI 1) X.1 X.2.1 d_Ga_keep_13 (by decide) ?_
  refine t_ui (t_runV (As := [.int (iI z2), .int (iI 1)]) (rest := []) (n := 2) X Y S k1 hml hl.1 (c_By_field l D E T κ L f H.size b1 4000 k1 (by omega) z2 (by omega) (by omega) 1 (by omega) (by omega) S.1) (ok_k X Y hA KS KR) rfl kl_Ga_By_field ks_By_field kx_By_field ki_By_field ini_By ⟨rfl, rfl⟩ hd_By_field ⟨Nat.le_of_ble_eq_true rfl, Nat.le_of_ble_eq_true rfl⟩ rfl (Nat.le_of_ble_eq_true rfl) d_Ga_keep_14 ⟨Nat.le_of_ble_eq_true rfl, Nat.le_of_ble_eq_true rfl⟩) X Y hA (fun z3 H locs Y p3 => ?_)
  obtain ⟨l3, u3⟩ := p3
  refine lv_istore_n (lv' := [(2, .int (iI z3)), (0, .ref h), (1, .ref a1)]) X.1 X.2.1 d_Ga_keep_17 rfl hl (by decide) rfl (fun ls hl => ?_)
  refine lv_aload_n X.1 X.2.1 d_Ga_keep_18 rfl (lv_at hl 1 rfl) ?_
  refine t_get0 (ci := 5) X Y S k0 rfl i_Ga 2 (by decide) rfl lk_Ga_20 (fun _ h9 => h9) d_Ga_keep_19 e1 ?_
  refine lv_iload_n X.1 X.2.1 d_Ga_keep_22 rfl (lv_at hl 0 rfl) ?_
  obtain ⟨z4, e4, l4, u4⟩ := t_size S k1
  refine t_ui (t_runV (As := [.int (iI z3)]) (rest := []) (n := 1) X Y S k1 hml hl.1 (c_By_body l D E T κ L f H.size b1 4000 k1 (by omega) z3 (by omega) (by omega) S.1 z4 e4 (by omega) (by omega)) (ok_k X Y hA KS KR) rfl kl_Ga_By_body ks_By_body kx_By_body ki_By_body ini_By ⟨rfl, rfl⟩ hd_By_body ⟨Nat.le_of_ble_eq_true rfl, Nat.le_of_ble_eq_true rfl⟩ rfl (Nat.le_of_ble_eq_true rfl) d_Ga_keep_23 ⟨Nat.le_of_ble_eq_true rfl, Nat.le_of_ble_eq_true rfl⟩) X Y hA (fun z5 H locs Y p5 => ?_)
  obtain ⟨l5, u5, x5⟩ := p5
  refine lv_istore_n (lv' := [(3, .int (iI z5)), (2, .int (iI z3)), (0, .ref h), (1, .ref a1)]) X.1 X.2.1 d_Ga_keep_26 rfl hl (by decide) rfl (fun ls hl => ?_)
  refine lv_aload_n X.1 X.2.1 d_Ga_keep_27 rfl (lv_at hl 2 rfl) ?_
  refine t_get0 (ci := 5) X Y S k0 rfl i_Ga 2 (by decide) rfl lk_Ga_20 (fun _ h9 => h9) d_Ga_keep_28 e1 ?_
  refine lv_iload_n X.1 X.2.1 d_Ga_keep_31 rfl (lv_at hl 1 rfl) ?_
  refine lv_aload_n X.1 X.2.1 d_Ga_keep_32 rfl (lv_at hl 2 rfl) ?_
  refine t_get0 (ci := 5) X Y S k0 rfl i_Ga 2 (by decide) rfl lk_Ga_20 (fun _ h9 => h9) d_Ga_keep_33 e1 ?_
  refine t_get0 (ci := 3) X Y S k1 rfl i_By 1 (by decide) rfl lk_Ga_108 (fun _ h9 => h9) d_Ga_keep_36 e4 ?_
  refine t_ui (t_runV (As := [.int (iI z3), .int (iI z4)]) (rest := []) (n := 2) X Y S k1 hml hl.1 (c_By_stop l D E T κ L f H.size b1 4000 k1 (by omega) z3 (by omega) (by omega) z4 (by omega) (by omega) S.1 z4 e4 (by omega) (by omega)) (ok_k X Y hA KS KR) rfl kl_Ga_By_stop ks_By_stop kx_By_stop ki_By_stop ini_By ⟨rfl, rfl⟩ hd_By_stop ⟨Nat.le_of_ble_eq_true rfl, Nat.le_of_ble_eq_true rfl⟩ rfl (Nat.le_of_ble_eq_true rfl) d_Ga_keep_39 ⟨Nat.le_of_ble_eq_true rfl, Nat.le_of_ble_eq_true rfl⟩) X Y hA (fun z6 H locs Y p6 => ?_)
  obtain ⟨l6, u6, x6⟩ := p6
  refine lv_istore (lv' := [(4, .int (iI z6)), (3, .int (iI z5)), (2, .int (iI z3)), (0, .ref h), (1, .ref a1)]) X.1 X.2.1 d_Ga_keep_42 hl (by decide) rfl (fun ls hl => ?_)
  refine lv_aload_n X.1 X.2.1 d_Ga_keep_44 rfl (lv_at hl 3 rfl) ?_
  refine t_get0 (ci := 5) X Y S k0 rfl i_Ga 2 (by decide) rfl lk_Ga_20 (fun _ h9 => h9) d_Ga_keep_45 e1 ?_
  refine lv_aload_n X.1 X.2.1 d_Ga_keep_48 rfl (lv_at hl 3 rfl) ?_
  refine t_get0 (ci := 5) X Y S k0 rfl i_Ga 2 (by decide) rfl lk_Ga_20 (fun _ h9 => h9) d_Ga_keep_49 e1 ?_
  refine lv_iconst (v := iI 0) X.1 X.2.1 d_Ga_keep_52 (by decide) ?_
  refine lv_iconst (v := iI 5) X.1 X.2.1 d_Ga_keep_53 (by decide) ?_
  refine t_ui (t_runV (As := [.int (iI 0), .int (iI 5)]) (rest := [.ref b1]) (n := 2) X Y S k1 hml hl.1 (c_By_field l D E T κ L f H.size b1 4000 k1 (by omega) 0 (by omega) (by omega) 5 (by omega) (by omega) S.1) (ok_k X Y hA KS KR) rfl kl_Ga_By_field ks_By_field kx_By_field ki_By_field ini_By ⟨rfl, rfl⟩ hd_By_field ⟨Nat.le_of_ble_eq_true rfl, Nat.le_of_ble_eq_true rfl⟩ rfl (Nat.le_of_ble_eq_true rfl) d_Ga_keep_54 ⟨Nat.le_of_ble_eq_true rfl, Nat.le_of_ble_eq_true rfl⟩) X Y hA (fun z7 H locs Y p7 => ?_)
  obtain ⟨l7, u7⟩ := p7
  refine t_ui (t_runV (As := [.int (iI z7)]) (rest := []) (n := 1) X Y S k1 hml hl.1 (c_By_timeAt l D E T κ L f H.size b1 4000 k1 (by omega) z7 (by omega) (by omega) S.1) (ok_k X Y hA KS KR) rfl kl_Ga_By_timeAt ks_By_timeAt kx_By_timeAt ki_By_timeAt ini_By ⟨rfl, rfl⟩ hd_By_timeAt ⟨Nat.le_of_ble_eq_true rfl, Nat.le_of_ble_eq_true rfl⟩ rfl (Nat.le_of_ble_eq_true rfl) d_Ga_keep_57 ⟨Nat.le_of_ble_eq_true rfl, Nat.le_of_ble_eq_true rfl⟩) X Y hA (fun z8 H locs Y p8 => ?_)
  obtain ⟨l8, u8⟩ := p8
  refine lv_istore (lv' := [(5, .int (iI z8)), (4, .int (iI z6)), (3, .int (iI z5)), (2, .int (iI z3)), (0, .ref h), (1, .ref a1)]) X.1 X.2.1 d_Ga_keep_60 hl (by decide) rfl (fun ls hl => ?_)
  refine lv_aload_n X.1 X.2.1 d_Ga_keep_62 rfl (lv_at hl 4 rfl) ?_
  refine t_get0 (ci := 5) X Y S k0 rfl i_Ga 2 (by decide) rfl lk_Ga_20 (fun _ h9 => h9) d_Ga_keep_63 e1 ?_
  refine lv_aload_n X.1 X.2.1 d_Ga_keep_66 rfl (lv_at hl 4 rfl) ?_
  refine t_get0 (ci := 5) X Y S k0 rfl i_Ga 2 (by decide) rfl lk_Ga_20 (fun _ h9 => h9) d_Ga_keep_67 e1 ?_
  refine lv_iconst (v := iI 0) X.1 X.2.1 d_Ga_keep_70 (by decide) ?_
  refine lv_iconst (v := iI 4) X.1 X.2.1 d_Ga_keep_71 (by decide) ?_
  refine t_ui (t_runV (As := [.int (iI 0), .int (iI 4)]) (rest := [.ref b1]) (n := 2) X Y S k1 hml hl.1 (c_By_field l D E T κ L f H.size b1 4000 k1 (by omega) 0 (by omega) (by omega) 4 (by omega) (by omega) S.1) (ok_k X Y hA KS KR) rfl kl_Ga_By_field ks_By_field kx_By_field ki_By_field ini_By ⟨rfl, rfl⟩ hd_By_field ⟨Nat.le_of_ble_eq_true rfl, Nat.le_of_ble_eq_true rfl⟩ rfl (Nat.le_of_ble_eq_true rfl) d_Ga_keep_72 ⟨Nat.le_of_ble_eq_true rfl, Nat.le_of_ble_eq_true rfl⟩) X Y hA (fun z9 H locs Y p9 => ?_)
  obtain ⟨l9, u9⟩ := p9
  refine t_ul (t_runV (As := [.int (iI z9)]) (rest := []) (n := 1) X Y S k1 hml hl.1 (c_By_numberAt l D E T κ L f H.size b1 4000 k1 (by omega) z9 (by omega) (by omega) S.1) (ok_k X Y hA KS KR) rfl kl_Ga_By_numberAt ks_By_numberAt kx_By_numberAt ki_By_numberAt ini_By ⟨rfl, rfl⟩ hd_By_numberAt ⟨Nat.le_of_ble_eq_true rfl, Nat.le_of_ble_eq_true rfl⟩ rfl (Nat.le_of_ble_eq_true rfl) d_Ga_keep_75 ⟨Nat.le_of_ble_eq_true rfl, Nat.le_of_ble_eq_true rfl⟩) X Y hA (fun v10 H locs Y p10 => ?_)
  refine lv_l2i X.1 X.2.1 d_Ga_keep_78 rfl ?_
  refine t_u (fun z11 l11 u11 => ?_)
  refine lv_istore (lv' := [(6, .int (iI z11)), (5, .int (iI z8)), (4, .int (iI z6)), (3, .int (iI z5)), (2, .int (iI z3)), (0, .ref h), (1, .ref a1)]) X.1 X.2.1 d_Ga_keep_79 hl (by decide) rfl (fun ls hl => ?_)
  refine lv_aload_n X.1 X.2.1 d_Ga_keep_81 rfl (lv_at hl 6 rfl) ?_
  refine lv_aload_n X.1 X.2.1 d_Ga_keep_82 rfl (lv_at hl 5 rfl) ?_
  refine t_getr (ci := 5) X Y S k0 rfl i_Ga 0 (by decide) rfl (k1 := 21) (k2 := 0) rfl rfl lk_Ga_34 (fun _ h9 => h9) d_Ga_keep_83 (fun b12 e12 k12 => ?_)
  refine t_geti (ci := 11) X Y S k12 rfl i_Va 0 (by decide) rfl lk_Ga_125 (fun _ h9 => h9) d_Ga_keep_86 (fun z13 e13 l13 u13 => ?_)
  refine t_nv (t_runV (As := [.int (iI z13)]) (rest := []) (n := 1) X Y S k1 hml hl.1 (c_Se_forget l D E T κ L f H.size a1 k1 z13 (by omega) (by omega) S.1) (ok_k X Y hA KS KR) rfl kl_Ga_Se_forget ks_Se_forget kx_Se_forget ki_Se_forget ini_Se ⟨rfl, rfl⟩ hd_Se_forget ⟨Nat.le_of_ble_eq_true rfl, Nat.le_of_ble_eq_true rfl⟩ rfl (Nat.le_of_ble_eq_true rfl) d_Ga_keep_89 ⟨Nat.le_of_ble_eq_true rfl, Nat.le_of_ble_eq_true rfl⟩) X Y hA S (by decide) (fun f14 H locs Y S s14 p14 => ?_)
  refine lv_aload_n X.1 X.2.1 d_Ga_keep_92 rfl (lv_at hl 6 rfl) ?_
  refine lv_aload_n X.1 X.2.1 d_Ga_keep_93 rfl (lv_at hl 5 rfl) ?_
  refine t_get0 (ci := 5) X Y S k0 rfl i_Ga 2 (by decide) rfl lk_Ga_20 (fun _ h9 => h9) d_Ga_keep_94 ((gF_same (s14.2.2.2 _ ⟨(t_obj S.1 k0).1, by rw [k0]; decide, by simp⟩).1 2).trans e1) ?_
  refine lv_iload_n X.1 X.2.1 d_Ga_keep_97 rfl (lv_at hl 3 rfl) ?_
  refine lv_iload X.1 X.2.1 d_Ga_keep_98 (lv_at hl 2 rfl) ?_
  refine lv_iload X.1 X.2.1 d_Ga_keep_100 (lv_at hl 1 rfl) ?_
  refine lv_iload X.1 X.2.1 d_Ga_keep_102 (lv_at hl 0 rfl) ?_
  refine t_ui (t_runV (As := [.ref b1, .int (iI z5), .int (iI z6), .int (iI z8), .int (iI z11)]) (rest := []) (n := 5) X Y S k1 hml hl.1 (c_Se_has l D E T κ L f14 H.size a1 k1 b1 4000 k1 (by omega) z5 (by omega) (by omega) z6 (by omega) (by omega) z8 (by omega) (by omega) z11 (by omega) (by omega) S.1) (ok_k X Y hA KS KR) rfl kl_Ga_Se_has ks_Se_has kx_Se_has ki_Se_has ini_Se ⟨rfl, rfl⟩ hd_Se_has ⟨Nat.le_of_ble_eq_true rfl, Nat.le_of_ble_eq_true rfl⟩ rfl (Nat.le_of_ble_eq_true rfl) d_Ga_keep_104 ⟨Nat.le_of_ble_eq_true rfl, Nat.le_of_ble_eq_true rfl⟩) X Y hA (fun z15 H locs Y p15 => ?_)
  obtain ⟨l15, u15⟩ := p15
  refine z_if_eq (tgt := 113) X.1 X.2.1 d_Ga_keep_107 (by decide) ⟨by omega, by omega⟩ (fun h16 => ?_) (fun h16 => ?_)
  · refine lv_aload_n X.1 X.2.1 d_Ga_keep_113 rfl (lv_at hl 6 rfl) ?_
    refine lv_aload_n X.1 X.2.1 d_Ga_keep_114 rfl (lv_at hl 5 rfl) ?_
    refine t_get0 (ci := 5) X Y S k0 rfl i_Ga 2 (by decide) rfl lk_Ga_20 (fun _ h9 => h9) d_Ga_keep_115 ((gF_same (s14.2.2.2 _ ⟨(t_obj S.1 k0).1, by rw [k0]; decide, by simp⟩).1 2).trans e1) ?_
    refine lv_iload_n X.1 X.2.1 d_Ga_keep_118 rfl (lv_at hl 3 rfl) ?_
    refine lv_iload X.1 X.2.1 d_Ga_keep_119 (lv_at hl 2 rfl) ?_
    refine lv_iload X.1 X.2.1 d_Ga_keep_121 (lv_at hl 1 rfl) ?_
    refine lv_iload X.1 X.2.1 d_Ga_keep_123 (lv_at hl 0 rfl) ?_
    refine lv_aload_n X.1 X.2.1 d_Ga_keep_125 rfl (lv_at hl 5 rfl) ?_
    refine t_geti (ci := 5) X Y S k0 rfl i_Ga 4 (by decide) rfl lk_Ga_30 (fun _ h9 => h9) d_Ga_keep_126 (fun z17 e17 l17 u17 => ?_)
    refine t_ni (t_runV (As := [.ref b1, .int (iI z5), .int (iI z6), .int (iI z8), .int (iI z11), .int (iI z17)]) (rest := []) (n := 6) X Y S k1 hml hl.1 (c_Se_keep l D E T κ L f14 H.size a1 k1 b1 4000 k1 (by omega) z5 (by omega) (by omega) z6 (by omega) (by omega) z8 (by omega) (by omega) z11 (by omega) (by omega) z17 (by omega) (by omega) S.1) (ok_k X Y hA KS KR) rfl kl_Ga_Se_keep ks_Se_keep kx_Se_keep ki_Se_keep ini_Se ⟨rfl, rfl⟩ hd_Se_keep ⟨Nat.le_of_ble_eq_true rfl, Nat.le_of_ble_eq_true rfl⟩ rfl (Nat.le_of_ble_eq_true rfl) d_Ga_keep_129 ⟨Nat.le_of_ble_eq_true rfl, Nat.le_of_ble_eq_true rfl⟩) X Y hA S (by decide) (fun z18 f18 H locs Y S s18 p18 => ?_)
    obtain ⟨l18, u18⟩ := p18
    refine z_if_eq (tgt := 139) X.1 X.2.1 d_Ga_keep_132 (by decide) ⟨by omega, by omega⟩ (fun h19 => ?_) (fun h19 => ?_)
    · refine lv_bipush (v := iI 29) X.1 X.2.1 d_Ga_keep_139 (by decide) ?_
      exact c_reti hQQ X Y hr hlk ⟨rfl, S, 29, rfl, ⟨by omega, by omega⟩⟩ d_Ga_keep_141
    · refine lv_iconst (v := iI 0) X.1 X.2.1 d_Ga_keep_135 (by decide) ?_
      refine lv_goto (tgt := 141) X.1 X.2.1 d_Ga_keep_136 (by decide) ?_
      exact c_reti hQQ X Y hr hlk ⟨rfl, S, 0, rfl, ⟨by omega, by omega⟩⟩ d_Ga_keep_141
  · refine lv_bipush (v := iI 34) X.1 X.2.1 d_Ga_keep_110 (by decide) ?_
    exact c_reti hQQ X Y hr hlk ⟨rfl, S, 34, rfl, ⟨by omega, by omega⟩⟩ d_Ga_keep_112
set_option maxHeartbeats 4000000 in
set_option maxRecDepth 100000 in
theorem c_Ga_openTicket (l : Launch) (D : va_G) (E : cE) (T : cT) (κ : tK) (L : List Nat) (f : pF) (sz : Nat) (h : Nat) (k0 : κ h = (15, 0)) (a1 n1 : Nat) (k1 : κ a1 = (13, n1)) (x1 : n1 ≤ 12288) (a2 : Int) (l_a2 : (-1) ≤ a2) (u_a2 : a2 ≤ 20200) (a3 : Nat) (k3 : κ a3 = (17, 0)) (hw : tW E T κ L f) : Met l y_Ga_openTicket (k_Ga_openTicket :: lw_tg) (kRm 71 2363 1 32) (va_Pc [.ref h, .ref a1, .int (iI a2), .ref a3] (kPre D E T L f sz)) (va_Qi (aPi E T [1, 2, 3, 4, 5, 6, 7, 8, 9, 10, 11, 12, 13, 14, 15, 16, 17, 18, 19, 20, 21] [] κ L f (fun (z : Int) (k : tK) (g : pF) => (-2147483648) ≤ z ∧ z ≤ 2147483647)) (cPost D E (pA L sz)) (pA L sz)) 1 32 (pA L sz) := by
  refine k_enter (own := R_Ga) (by decide) rfl (Nat.le_of_ble_eq_true rfl) (fun p e s m below meth c ls AV QQ H locs hQQ X Y hA hin hr hlk hml hl KS KR => ?_)
  have hl : lv_has ls 10 [(0, .ref h), (1, .ref a1), (2, .int (iI a2)), (3, .ref a3)] := hl
  have S : tS E T (tFr κ L [1, 2, 3, 4, 5, 6, 7, 8, 9, 10, 11, 12, 13, 14, 15, 16, 17, 18, 19, 20, 21] []) κ L f κ L f := tS_rf hw
  have hF0 : ∀ b, tFr κ L [1, 2, 3, 4, 5, 6, 7, 8, 9, 10, 11, 12, 13, 14, 15, 16, 17, 18, 19, 20, 21] [] b → b ∈ L := fun b h9 => h9.1
  refine lv_aload_n X.1 X.2.1 d_Ga_openTicket_0 rfl (lv_at hl 1 rfl) ?_
  refine lv_aload_n X.1 X.2.1 d_Ga_openTicket_1 rfl (lv_at hl 1 rfl) ?_
  refine lv_iload_n X.1 X.2.1 d_Ga_openTicket_2 rfl (lv_at hl 2 rfl) ?_
  refine lv_iconst (v := iI 0) X.1 X.2.1 d_Ga_openTicket_3 (by decide) ?_
  refine t_ui (t_runV (As := [.int (iI a2), .int (iI 0)]) (rest := [.ref a1]) (n := 2) X Y S k1 hml hl.1 (c_By_field l D E T κ L f H.size a1 n1 k1 (by omega) a2 (by omega) (by omega) 0 (by omega) (by omega) S.1) (ok_k X Y hA KS KR) rfl kl_Ga_By_field ks_By_field kx_By_field ki_By_field ini_By ⟨rfl, rfl⟩ hd_By_field ⟨Nat.le_of_ble_eq_true rfl, Nat.le_of_ble_eq_true rfl⟩ rfl (Nat.le_of_ble_eq_true rfl) d_Ga_openTicket_4 ⟨Nat.le_of_ble_eq_true rfl, Nat.le_of_ble_eq_true rfl⟩) X Y hA (fun z1 H locs Y p1 => ?_)
  obtain ⟨l1, u1⟩ := p1
  refine t_ul (t_runV (As := [.int (iI z1)]) (rest := []) (n := 1) X Y S k1 hml hl.1 (c_By_numberAt l D E T κ L f H.size a1 n1 k1 (by omega) z1 (by omega) (by omega) S.1) (ok_k X Y hA KS KR) rfl kl_Ga_By_numberAt ks_By_numberAt kx_By_numberAt ki_By_numberAt ini_By ⟨rfl, rfl⟩ hd_By_numberAt ⟨Nat.le_of_ble_eq_true rfl, Nat.le_of_ble_eq_true rfl⟩ rfl (Nat.le_of_ble_eq_true rfl) d_Ga_openTicket_7 ⟨Nat.le_of_ble_eq_true rfl, Nat.le_of_ble_eq_true rfl⟩) X Y hA (fun v2 H locs Y p2 => ?_)
  refine lv_ldc2 (v := (5)) X.1 X.2.1 X.2.2.2.1 (X.2.2.1 _ cl_Ga_50) d_Ga_openTicket_10 ?_
  refine W.lcmp X.1 X.2.1 d_Ga_openTicket_13 ?_
  refine t_u (fun z3 l3 u3 => ?_)
  refine z_if_eq (tgt := 20) X.1 X.2.1 d_Ga_openTicket_14 (by decide) ⟨by omega, by omega⟩ (fun h4 => ?_) (fun h4 => ?_)
  · refine lv_aload_n X.1 X.2.1 d_Ga_openTicket_20 rfl (lv_at hl 1 rfl) ?_
    refine lv_aload_n X.1 X.2.1 d_Ga_openTicket_21 rfl (lv_at hl 1 rfl) ?_
    refine lv_iload_n X.1 X.2.1 d_Ga_openTicket_22 rfl (lv_at hl 2 rfl) ?_
    refine lv_iconst (v := iI 1) X.1 X.2.1 d_Ga_openTicket_23 (by decide) ?_
    refine t_ui (t_runV (As := [.int (iI a2), .int (iI 1)]) (rest := [.ref a1]) (n := 2) X Y S k1 hml hl.1 (c_By_field l D E T κ L f H.size a1 n1 k1 (by omega) a2 (by omega) (by omega) 1 (by omega) (by omega) S.1) (ok_k X Y hA KS KR) rfl kl_Ga_By_field ks_By_field kx_By_field ki_By_field ini_By ⟨rfl, rfl⟩ hd_By_field ⟨Nat.le_of_ble_eq_true rfl, Nat.le_of_ble_eq_true rfl⟩ rfl (Nat.le_of_ble_eq_true rfl) d_Ga_openTicket_24 ⟨Nat.le_of_ble_eq_true rfl, Nat.le_of_ble_eq_true rfl⟩) X Y hA (fun z5 H locs Y p5 => ?_)
    obtain ⟨l5, u5⟩ := p5
    refine t_ui (t_runV (As := [.int (iI z5)]) (rest := []) (n := 1) X Y S k1 hml hl.1 (c_By_isRealm l D E T κ L f H.size a1 n1 k1 (by omega) z5 (by omega) (by omega) S.1) (ok_k X Y hA KS KR) rfl kl_Ga_By_isRealm ks_By_isRealm kx_By_isRealm ki_By_isRealm ini_By ⟨rfl, rfl⟩ hd_By_isRealm ⟨Nat.le_of_ble_eq_true rfl, Nat.le_of_ble_eq_true rfl⟩ rfl (Nat.le_of_ble_eq_true rfl) d_Ga_openTicket_27 ⟨Nat.le_of_ble_eq_true rfl, Nat.le_of_ble_eq_true rfl⟩) X Y hA (fun z6 H locs Y p6 => ?_)
    obtain ⟨l6, u6⟩ := p6
    refine z_if_eq (tgt := 50) X.1 X.2.1 d_Ga_openTicket_30 (by decide) ⟨by omega, by omega⟩ (fun h7 => ?_) (fun h7 => ?_)
    · refine lv_bipush (v := iI 35) X.1 X.2.1 d_Ga_openTicket_50 (by decide) ?_
      refine W.widen (k := 1) (n := 32) (Nat.le_of_ble_eq_true rfl) (Nat.le_of_ble_eq_true rfl) ?_
      exact c_reti hQQ X Y hr hlk ⟨κ, S, 35, rfl, ⟨by omega, by omega⟩⟩ d_Ga_openTicket_52
    · refine lv_aload_n X.1 X.2.1 d_Ga_openTicket_33 rfl (lv_at hl 1 rfl) ?_
      refine lv_aload_n X.1 X.2.1 d_Ga_openTicket_34 rfl (lv_at hl 1 rfl) ?_
      refine lv_iload_n X.1 X.2.1 d_Ga_openTicket_35 rfl (lv_at hl 2 rfl) ?_
      refine lv_iconst (v := iI 2) X.1 X.2.1 d_Ga_openTicket_36 (by decide) ?_
      refine t_ui (t_runV (As := [.int (iI a2), .int (iI 2)]) (rest := [.ref a1]) (n := 2) X Y S k1 hml hl.1 (c_By_field l D E T κ L f H.size a1 n1 k1 (by omega) a2 (by omega) (by omega) 2 (by omega) (by omega) S.1) (ok_k X Y hA KS KR) rfl kl_Ga_By_field ks_By_field kx_By_field ki_By_field ini_By ⟨rfl, rfl⟩ hd_By_field ⟨Nat.le_of_ble_eq_true rfl, Nat.le_of_ble_eq_true rfl⟩ rfl (Nat.le_of_ble_eq_true rfl) d_Ga_openTicket_37 ⟨Nat.le_of_ble_eq_true rfl, Nat.le_of_ble_eq_true rfl⟩) X Y hA (fun z8 H locs Y p8 => ?_)
      obtain ⟨l8, u8⟩ := p8
      refine lv_aload_n X.1 X.2.1 d_Ga_openTicket_40 rfl (lv_at hl 3 rfl) ?_
      refine t_getr (ci := 7) X Y S k3 rfl i_Pr 0 (by decide) rfl (k1 := 13) (k2 := 40) rfl rfl lk_Ga_78 (fun _ h9 => h9) d_Ga_openTicket_41 (fun b9 e9 k9 => ?_)
      refine t_ui (t_runV (As := [.int (iI z8), .ref b9]) (rest := []) (n := 2) X Y S k1 hml hl.1 (c_By_isNamed l D E T κ L f H.size a1 n1 k1 (by omega) z8 (by omega) (by omega) b9 40 k9 (by omega) S.1) (ok_k X Y hA KS KR) rfl kl_Ga_By_isNamed ks_By_isNamed kx_By_isNamed ki_By_isNamed ini_By ⟨rfl, rfl⟩ hd_By_isNamed ⟨Nat.le_of_ble_eq_true rfl, Nat.le_of_ble_eq_true rfl⟩ rfl (Nat.le_of_ble_eq_true rfl) d_Ga_openTicket_44 ⟨Nat.le_of_ble_eq_true rfl, Nat.le_of_ble_eq_true rfl⟩) X Y hA (fun z10 H locs Y p10 => ?_)
      obtain ⟨l10, u10⟩ := p10
      refine z_if_ne (tgt := 53) X.1 X.2.1 d_Ga_openTicket_47 (by decide) ⟨by omega, by omega⟩ (fun h11 => ?_) (fun h11 => ?_)
      · refine lv_aload_n X.1 X.2.1 d_Ga_openTicket_53 rfl (lv_at hl 1 rfl) ?_
        refine lv_iload_n X.1 X.2.1 d_Ga_openTicket_54 rfl (lv_at hl 2 rfl) ?_
        refine lv_iconst (v := iI 3) X.1 X.2.1 d_Ga_openTicket_55 (by decide) ?_
        refine t_ui (t_runV (As := [.int (iI a2), .int (iI 3)]) (rest := []) (n := 2) X Y S k1 hml hl.1 (c_By_field l D E T κ L f H.size a1 n1 k1 (by omega) a2 (by omega) (by omega) 3 (by omega) (by omega) S.1) (ok_k X Y hA KS KR) rfl kl_Ga_By_field ks_By_field kx_By_field ki_By_field ini_By ⟨rfl, rfl⟩ hd_By_field ⟨Nat.le_of_ble_eq_true rfl, Nat.le_of_ble_eq_true rfl⟩ rfl (Nat.le_of_ble_eq_true rfl) d_Ga_openTicket_56 ⟨Nat.le_of_ble_eq_true rfl, Nat.le_of_ble_eq_true rfl⟩) X Y hA (fun z12 H locs Y p12 => ?_)
        obtain ⟨l12, u12⟩ := p12
        refine lv_istore (lv' := [(4, .int (iI z12)), (0, .ref h), (1, .ref a1), (2, .int (iI a2)), (3, .ref a3)]) X.1 X.2.1 d_Ga_openTicket_59 hl (by decide) rfl (fun ls hl => ?_)
        refine lv_aload_n X.1 X.2.1 d_Ga_openTicket_61 rfl (lv_at hl 2 rfl) ?_
        refine lv_iload X.1 X.2.1 d_Ga_openTicket_62 (lv_at hl 0 rfl) ?_
        refine lv_iconst (v := iI 1) X.1 X.2.1 d_Ga_openTicket_64 (by decide) ?_
        refine t_ui (t_runV (As := [.int (iI z12), .int (iI 1)]) (rest := []) (n := 2) X Y S k1 hml hl.1 (c_By_field l D E T κ L f H.size a1 n1 k1 (by omega) z12 (by omega) (by omega) 1 (by omega) (by omega) S.1) (ok_k X Y hA KS KR) rfl kl_Ga_By_field ks_By_field kx_By_field ki_By_field ini_By ⟨rfl, rfl⟩ hd_By_field ⟨Nat.le_of_ble_eq_true rfl, Nat.le_of_ble_eq_true rfl⟩ rfl (Nat.le_of_ble_eq_true rfl) d_Ga_openTicket_65 ⟨Nat.le_of_ble_eq_true rfl, Nat.le_of_ble_eq_true rfl⟩) X Y hA (fun z13 H locs Y p13 => ?_)
        obtain ⟨l13, u13⟩ := p13
        refine lv_istore (lv' := [(5, .int (iI z13)), (4, .int (iI z12)), (0, .ref h), (1, .ref a1), (2, .int (iI a2)), (3, .ref a3)]) X.1 X.2.1 d_Ga_openTicket_68 hl (by decide) rfl (fun ls hl => ?_)
        refine lv_iload X.1 X.2.1 d_Ga_openTicket_70 (lv_at hl 0 rfl) ?_
        have J15 : ∀ (v14 : Int64) (H : Heap) (locs : List Loc) (ls : Array Slot), pH D cCl (pA L sz) s.heap L f H locs → tS E T (tFr κ L [1, 2, 3, 4, 5, 6, 7, 8, 9, 10, 11, 12, 13, 14, 15, 16, 17, 18, 19, 20, 21] []) κ L f κ L f → lv_has ls 10 [(0, .ref h), (1, .ref a1), (3, .ref a3), (4, .int (iI z12))] → W p l e (kRm 71 2363 1 32) s m AV below meth c H locs 0 0 QQ (F0 m 89 ls [.long v14]) := by
          intro v14 H locs ls  Y S hl
          refine lv_lstore (lv' := [(6, .long v14), (0, .ref h), (1, .ref a1), (3, .ref a3), (4, .int (iI z12))]) X.1 X.2.1 d_Ga_openTicket_89 hl (by decide) rfl (fun ls hl => ?_)
          refine lv_aload_n X.1 X.2.1 d_Ga_openTicket_91 rfl (lv_at hl 3 rfl) ?_
          refine lv_lload X.1 X.2.1 d_Ga_openTicket_92 (lv_at hl 0 rfl) ?_
          refine t_ui (t_runV (As := [.long v14]) (rest := []) (n := 1) X Y S k3 hml hl.1 (c_Pr_canOpen l D E T κ L f H.size a3 k3 v14 S.1) (ok_k X Y hA KS KR) rfl kl_Ga_Pr_canOpen ks_Pr_canOpen kx_Pr_canOpen ki_Pr_canOpen ini_Pr ⟨rfl, rfl⟩ hd_Pr_canOpen ⟨Nat.le_of_ble_eq_true rfl, Nat.le_of_ble_eq_true rfl⟩ rfl (Nat.le_of_ble_eq_true rfl) d_Ga_openTicket_94 ⟨Nat.le_of_ble_eq_true rfl, Nat.le_of_ble_eq_true rfl⟩) X Y hA (fun z19 H locs Y p19 => ?_)
          obtain ⟨l19, u19⟩ := p19
          refine z_if_ne (tgt := 103) X.1 X.2.1 d_Ga_openTicket_97 (by decide) ⟨by omega, by omega⟩ (fun h20 => ?_) (fun h20 => ?_)
          · refine lv_aload_n X.1 X.2.1 d_Ga_openTicket_103 rfl (lv_at hl 2 rfl) ?_
            refine lv_aload_n X.1 X.2.1 d_Ga_openTicket_104 rfl (lv_at hl 2 rfl) ?_
            refine lv_iload X.1 X.2.1 d_Ga_openTicket_105 (lv_at hl 4 rfl) ?_
            refine lv_iconst (v := iI 0) X.1 X.2.1 d_Ga_openTicket_107 (by decide) ?_
            refine t_ui (t_runV (As := [.int (iI z12), .int (iI 0)]) (rest := [.ref a1]) (n := 2) X Y S k1 hml hl.1 (c_By_field l D E T κ L f H.size a1 n1 k1 (by omega) z12 (by omega) (by omega) 0 (by omega) (by omega) S.1) (ok_k X Y hA KS KR) rfl kl_Ga_By_field ks_By_field kx_By_field ki_By_field ini_By ⟨rfl, rfl⟩ hd_By_field ⟨Nat.le_of_ble_eq_true rfl, Nat.le_of_ble_eq_true rfl⟩ rfl (Nat.le_of_ble_eq_true rfl) d_Ga_openTicket_108 ⟨Nat.le_of_ble_eq_true rfl, Nat.le_of_ble_eq_true rfl⟩) X Y hA (fun z21 H locs Y p21 => ?_)
            obtain ⟨l21, u21⟩ := p21
            refine t_ul (t_runV (As := [.int (iI z21)]) (rest := []) (n := 1) X Y S k1 hml hl.1 (c_By_numberAt l D E T κ L f H.size a1 n1 k1 (by omega) z21 (by omega) (by omega) S.1) (ok_k X Y hA KS KR) rfl kl_Ga_By_numberAt ks_By_numberAt kx_By_numberAt ki_By_numberAt ini_By ⟨rfl, rfl⟩ hd_By_numberAt ⟨Nat.le_of_ble_eq_true rfl, Nat.le_of_ble_eq_true rfl⟩ rfl (Nat.le_of_ble_eq_true rfl) d_Ga_openTicket_111 ⟨Nat.le_of_ble_eq_true rfl, Nat.le_of_ble_eq_true rfl⟩) X Y hA (fun v22 H locs Y p22 => ?_)
            refine lv_lstore (lv' := [(8, .long v22), (6, .long v14), (0, .ref h), (1, .ref a1), (3, .ref a3), (4, .int (iI z12))]) X.1 X.2.1 d_Ga_openTicket_114 hl (by decide) rfl (fun ls hl => ?_)
            refine lv_lload X.1 X.2.1 d_Ga_openTicket_116 (lv_at hl 0 rfl) ?_
            refine lv_ldc2 (v := (17)) X.1 X.2.1 X.2.2.2.1 (X.2.2.1 _ cl_Ga_94) d_Ga_openTicket_118 ?_
            refine W.lcmp X.1 X.2.1 d_Ga_openTicket_121 ?_
            refine t_u (fun z23 l23 u23 => ?_)
            have J24 : ∀  (H : Heap) (locs : List Loc) (ls : Array Slot), pH D cCl (pA L sz) s.heap L f H locs → tS E T (tFr κ L [1, 2, 3, 4, 5, 6, 7, 8, 9, 10, 11, 12, 13, 14, 15, 16, 17, 18, 19, 20, 21] []) κ L f κ L f → lv_has ls 10 [(0, .ref h), (1, .ref a1), (3, .ref a3), (4, .int (iI z12)), (6, .long v18), (8, .long v22)] → W p l e (kRm 71 2363 1 32) s m AV below meth c H locs 0 0 QQ (F0 m 137 ls []) := by
              intro  H locs ls  Y S hl
              refine lv_aload_n X.1 X.2.1 d_Ga_openTicket_137 rfl (lv_at hl 0 rfl) ?_
              refine t_getr (ci := 5) X Y S k0 rfl i_Ga 0 (by decide) rfl (k1 := 21) (k2 := 0) rfl rfl lk_Ga_34 (fun _ h9 => h9) d_Ga_openTicket_138 (fun b28 e28 k28 => ?_)
              refine lv_aload_n X.1 X.2.1 d_Ga_openTicket_141 rfl (lv_at hl 1 rfl) ?_
              refine lv_iload X.1 X.2.1 d_Ga_openTicket_142 (lv_at hl 3 rfl) ?_
              refine lv_aload_n X.1 X.2.1 d_Ga_openTicket_144 rfl (lv_at hl 2 rfl) ?_
              refine lv_lload X.1 X.2.1 d_Ga_openTicket_145 (lv_at hl 4 rfl) ?_
              refine lv_lload X.1 X.2.1 d_Ga_openTicket_147 (lv_at hl 5 rfl) ?_
              refine t_ur (t_runV (As := [.long v18, .long v22]) (rest := [.int (iI z12), .ref a1, .ref b28]) (n := 2) X Y S k3 hml hl.1 (c_Pr_keyOf l D E T κ L f H.size a3 k3 v18 v22 S.1) (ok_k X Y hA KS KR) rfl kl_Ga_Pr_keyOf ks_Pr_keyOf kx_Pr_keyOf ki_Pr_keyOf ini_Pr ⟨rfl, rfl⟩ hd_Pr_keyOf ⟨Nat.le_of_ble_eq_true rfl, Nat.le_of_ble_eq_true rfl⟩ rfl (Nat.le_of_ble_eq_true rfl) d_Ga_openTicket_149 ⟨Nat.le_of_ble_eq_true rfl, Nat.le_of_ble_eq_true rfl⟩) X Y hA (fun b29 H locs Y p29 => ?_)
              obtain ⟨n29, k29⟩ := p29
              have x29 := tKey_n k29
              refine lv_iconst (v := iI 2) X.1 X.2.1 d_Ga_openTicket_152 (by decide) ?_
              refine lv_aload_n X.1 X.2.1 d_Ga_openTicket_153 rfl (lv_at hl 0 rfl) ?_
              refine t_getr (ci := 5) X Y S k0 rfl i_Ga 1 (by decide) rfl (k1 := 13) (k2 := 4000) rfl rfl lk_Ga_14 (fun _ h9 => h9) d_Ga_openTicket_154 (fun b30 e30 k30 => ?_)
              refine t_ni (t_runV (As := [.ref a1, .int (iI z12), .ref b29, .int (iI 2), .ref b30]) (rest := []) (n := 5) X Y S k28 hml hl.1 (c_Va_opens l D E T κ L f H.size b28 k28 a1 n1 k1 (by omega) z12 (by omega) (by omega) b29 n29 k29 (by omega) 2 (by omega) (by omega) b30 4000 k30 (by omega) S.1) (ok_k X Y hA KS KR) rfl kl_Ga_Va_opens ks_Va_opens kx_Va_opens ki_Va_opens ini_Va ⟨rfl, rfl⟩ hd_Va_opens ⟨Nat.le_of_ble_eq_true rfl, Nat.le_of_ble_eq_true rfl⟩ rfl (Nat.le_of_ble_eq_true rfl) d_Ga_openTicket_157 ⟨Nat.le_of_ble_eq_true rfl, Nat.le_of_ble_eq_true rfl⟩) X Y hA S (by decide) (fun z31 f31 H locs Y S s31 p31 => ?_)
              obtain ⟨l31, u31⟩ := p31
              refine z_if_ne (tgt := 166) X.1 X.2.1 d_Ga_openTicket_160 (by decide) ⟨by omega, by omega⟩ (fun h32 => ?_) (fun h32 => ?_)
              · refine lv_aload_n X.1 X.2.1 d_Ga_openTicket_166 rfl (lv_at hl 0 rfl) ?_
                refine t_get0 (ci := 5) X Y S k0 rfl i_Ga 1 (by decide) rfl lk_Ga_14 (fun _ h9 => h9) d_Ga_openTicket_167 ((gF_same (s31.2.2.2 _ ⟨(t_obj S.1 k0).1, by rw [k0]; decide, by simp⟩).1 1).trans e30) ?_
                refine lv_sipush (v := iI 355) X.1 X.2.1 d_Ga_openTicket_170 (by decide) ?_
                refine lv_iconst (v := iI 0) X.1 X.2.1 d_Ga_openTicket_173 (by decide) ?_
                refine lv_aload_n X.1 X.2.1 d_Ga_openTicket_174 rfl (lv_at hl 0 rfl) ?_
                refine t_get0 (ci := 5) X Y S k0 rfl i_Ga 1 (by decide) rfl lk_Ga_14 (fun _ h9 => h9) d_Ga_openTicket_175 ((gF_same (s31.2.2.2 _ ⟨(t_obj S.1 k0).1, by rw [k0]; decide, by simp⟩).1 1).trans e30) ?_
                refine t_gets (ci := 3) X Y S k30 rfl i_By 1 (by decide) rfl lk_Ga_108 (fun _ h9 => h9) d_Ga_openTicket_178 (fun z33 e33 l33 u33 => ?_)
                refine t_ui (t_runV (As := [.int (iI 355), .int (iI 0), .int (iI z33)]) (rest := []) (n := 3) X Y S k30 hml hl.1 (c_By_isA l D E T κ L f31 H.size b30 4000 k30 (by omega) 355 (by omega) (by omega) 0 (by omega) (by omega) z33 (by omega) (by omega) S.1) (ok_k X Y hA KS KR) rfl kl_Ga_By_isA ks_By_isA kx_By_isA ki_By_isA ini_By ⟨rfl, rfl⟩ hd_By_isA ⟨Nat.le_of_ble_eq_true rfl, Nat.le_of_ble_eq_true rfl⟩ rfl (Nat.le_of_ble_eq_true rfl) d_Ga_openTicket_181 ⟨Nat.le_of_ble_eq_true rfl, Nat.le_of_ble_eq_true rfl⟩) X Y hA (fun z34 H locs Y p34 => ?_)
                obtain ⟨l34, u34⟩ := p34
                refine z_if_eq (tgt := 227) X.1 X.2.1 d_Ga_openTicket_184 (by decide) ⟨by omega, by omega⟩ (fun h35 => ?_) (fun h35 => ?_)
                · refine lv_bipush (v := iI 60) X.1 X.2.1 d_Ga_openTicket_227 (by decide) ?_
                  refine W.widen (k := 1) (n := 32) (Nat.le_of_ble_eq_true rfl) (Nat.le_of_ble_eq_true rfl) ?_
                  exact c_reti hQQ X Y hr hlk ⟨κ, S, 60, rfl, ⟨by omega, by omega⟩⟩ d_Ga_openTicket_229
                · refine lv_aload_n X.1 X.2.1 d_Ga_openTicket_187 rfl (lv_at hl 0 rfl) ?_
                  refine t_get0 (ci := 5) X Y S k0 rfl i_Ga 1 (by decide) rfl lk_Ga_14 (fun _ h9 => h9) d_Ga_openTicket_188 ((gF_same (s31.2.2.2 _ ⟨(t_obj S.1 k0).1, by rw [k0]; decide, by simp⟩).1 1).trans e30) ?_
                  refine lv_aload_n X.1 X.2.1 d_Ga_openTicket_191 rfl (lv_at hl 0 rfl) ?_
                  refine t_get0 (ci := 5) X Y S k0 rfl i_Ga 1 (by decide) rfl lk_Ga_14 (fun _ h9 => h9) d_Ga_openTicket_192 ((gF_same (s31.2.2.2 _ ⟨(t_obj S.1 k0).1, by rw [k0]; decide, by simp⟩).1 1).trans e30) ?_
                  refine lv_iconst (v := iI 0) X.1 X.2.1 d_Ga_openTicket_195 (by decide) ?_
                  refine lv_iconst (v := iI 2) X.1 X.2.1 d_Ga_openTicket_196 (by decide) ?_
                  refine t_ui (t_runV (As := [.int (iI 0), .int (iI 2)]) (rest := [.ref b30]) (n := 2) X Y S k30 hml hl.1 (c_By_field l D E T κ L f31 H.size b30 4000 k30 (by omega) 0 (by omega) (by omega) 2 (by omega) (by omega) S.1) (ok_k X Y hA KS KR) rfl kl_Ga_By_field ks_By_field kx_By_field ki_By_field ini_By ⟨rfl, rfl⟩ hd_By_field ⟨Nat.le_of_ble_eq_true rfl, Nat.le_of_ble_eq_true rfl⟩ rfl (Nat.le_of_ble_eq_true rfl) d_Ga_openTicket_197 ⟨Nat.le_of_ble_eq_true rfl, Nat.le_of_ble_eq_true rfl⟩) X Y hA (fun z36 H locs Y p36 => ?_)
                  obtain ⟨l36, u36⟩ := p36
                  refine t_ui (t_runV (As := [.int (iI z36)]) (rest := []) (n := 1) X Y S k30 hml hl.1 (c_By_isRealm l D E T κ L f31 H.size b30 4000 k30 (by omega) z36 (by omega) (by omega) S.1) (ok_k X Y hA KS KR) rfl kl_Ga_By_isRealm ks_By_isRealm kx_By_isRealm ki_By_isRealm ini_By ⟨rfl, rfl⟩ hd_By_isRealm ⟨Nat.le_of_ble_eq_true rfl, Nat.le_of_ble_eq_true rfl⟩ rfl (Nat.le_of_ble_eq_true rfl) d_Ga_openTicket_200 ⟨Nat.le_of_ble_eq_true rfl, Nat.le_of_ble_eq_true rfl⟩) X Y hA (fun z37 H locs Y p37 => ?_)
                  obtain ⟨l37, u37⟩ := p37
                  refine z_if_eq (tgt := 227) X.1 X.2.1 d_Ga_openTicket_203 (by decide) ⟨by omega, by omega⟩ (fun h38 => ?_) (fun h38 => ?_)
                  · refine lv_bipush (v := iI 60) X.1 X.2.1 d_Ga_openTicket_227 (by decide) ?_
                    refine W.widen (k := 1) (n := 32) (Nat.le_of_ble_eq_true rfl) (Nat.le_of_ble_eq_true rfl) ?_
                    exact c_reti hQQ X Y hr hlk ⟨κ, S, 60, rfl, ⟨by omega, by omega⟩⟩ d_Ga_openTicket_229
                  · refine lv_aload_n X.1 X.2.1 d_Ga_openTicket_206 rfl (lv_at hl 0 rfl) ?_
                    refine t_get0 (ci := 5) X Y S k0 rfl i_Ga 1 (by decide) rfl lk_Ga_14 (fun _ h9 => h9) d_Ga_openTicket_207 ((gF_same (s31.2.2.2 _ ⟨(t_obj S.1 k0).1, by rw [k0]; decide, by simp⟩).1 1).trans e30) ?_
                    refine lv_aload_n X.1 X.2.1 d_Ga_openTicket_210 rfl (lv_at hl 0 rfl) ?_
                    refine t_get0 (ci := 5) X Y S k0 rfl i_Ga 1 (by decide) rfl lk_Ga_14 (fun _ h9 => h9) d_Ga_openTicket_211 ((gF_same (s31.2.2.2 _ ⟨(t_obj S.1 k0).1, by rw [k0]; decide, by simp⟩).1 1).trans e30) ?_
                    refine lv_iconst (v := iI 0) X.1 X.2.1 d_Ga_openTicket_214 (by decide) ?_
                    refine lv_iconst (v := iI 3) X.1 X.2.1 d_Ga_openTicket_215 (by decide) ?_
                    refine t_ui (t_runV (As := [.int (iI 0), .int (iI 3)]) (rest := [.ref b30]) (n := 2) X Y S k30 hml hl.1 (c_By_field l D E T κ L f31 H.size b30 4000 k30 (by omega) 0 (by omega) (by omega) 3 (by omega) (by omega) S.1) (ok_k X Y hA KS KR) rfl kl_Ga_By_field ks_By_field kx_By_field ki_By_field ini_By ⟨rfl, rfl⟩ hd_By_field ⟨Nat.le_of_ble_eq_true rfl, Nat.le_of_ble_eq_true rfl⟩ rfl (Nat.le_of_ble_eq_true rfl) d_Ga_openTicket_216 ⟨Nat.le_of_ble_eq_true rfl, Nat.le_of_ble_eq_true rfl⟩) X Y hA (fun z39 H locs Y p39 => ?_)
                    obtain ⟨l39, u39⟩ := p39
                    refine t_ui (t_runV (As := [.int (iI z39)]) (rest := []) (n := 1) X Y S k30 hml hl.1 (c_By_partsSize l D E T κ L f31 H.size b30 4000 k30 (by omega) z39 (by omega) (by omega) S.1) (ok_k X Y hA KS KR) rfl kl_Ga_By_partsSize ks_By_partsSize kx_By_partsSize ki_By_partsSize ini_By ⟨rfl, rfl⟩ hd_By_partsSize ⟨Nat.le_of_ble_eq_true rfl, Nat.le_of_ble_eq_true rfl⟩ rfl (Nat.le_of_ble_eq_true rfl) d_Ga_openTicket_219 ⟨Nat.le_of_ble_eq_true rfl, Nat.le_of_ble_eq_true rfl⟩) X Y hA (fun z40 H locs Y p40 => ?_)
                    obtain ⟨l40, u40⟩ := p40
                    refine lv_bipush (v := iI 40) X.1 X.2.1 d_Ga_openTicket_222 (by decide) ?_
                    refine z_icmp_le (tgt := 230) X.1 X.2.1 d_Ga_openTicket_224 (by decide) ⟨by omega, by omega⟩ ⟨by omega, by omega⟩ (fun h41 => ?_) (fun h41 => ?_)
                    · refine lv_aload_n X.1 X.2.1 d_Ga_openTicket_230 rfl (lv_at hl 0 rfl) ?_
                      refine lv_aload_n X.1 X.2.1 d_Ga_openTicket_231 rfl (lv_at hl 0 rfl) ?_
                      refine t_get0 (ci := 5) X Y S k0 rfl i_Ga 1 (by decide) rfl lk_Ga_14 (fun _ h9 => h9) d_Ga_openTicket_232 ((gF_same (s31.2.2.2 _ ⟨(t_obj S.1 k0).1, by rw [k0]; decide, by simp⟩).1 1).trans e30) ?_
                      refine lv_aload_n X.1 X.2.1 d_Ga_openTicket_235 rfl (lv_at hl 0 rfl) ?_
                      refine t_get0 (ci := 5) X Y S k0 rfl i_Ga 1 (by decide) rfl lk_Ga_14 (fun _ h9 => h9) d_Ga_openTicket_236 ((gF_same (s31.2.2.2 _ ⟨(t_obj S.1 k0).1, by rw [k0]; decide, by simp⟩).1 1).trans e30) ?_
                      refine lv_iconst (v := iI 0) X.1 X.2.1 d_Ga_openTicket_239 (by decide) ?_
                      refine lv_iconst (v := iI 1) X.1 X.2.1 d_Ga_openTicket_240 (by decide) ?_
                      refine t_ui (t_runV (As := [.int (iI 0), .int (iI 1)]) (rest := [.ref b30, .ref h]) (n := 2) X Y S k30 hml hl.1 (c_By_field l D E T κ L f31 H.size b30 4000 k30 (by omega) 0 (by omega) (by omega) 1 (by omega) (by omega) S.1) (ok_k X Y hA KS KR) rfl kl_Ga_By_field ks_By_field kx_By_field ki_By_field ini_By ⟨rfl, rfl⟩ hd_By_field ⟨Nat.le_of_ble_eq_true rfl, Nat.le_of_ble_eq_true rfl⟩ rfl (Nat.le_of_ble_eq_true rfl) d_Ga_openTicket_241 ⟨Nat.le_of_ble_eq_true rfl, Nat.le_of_ble_eq_true rfl⟩) X Y hA (fun z42 H locs Y p42 => ?_)
                      obtain ⟨l42, u42⟩ := p42
                      refine t_ar (x_runS (As := [.ref b30, .int (iI z42)]) (rest := [.ref h]) (n := 2) X hml hl.1 (c_Va_keyAt l D E T κ L f31 H.size b30 4000 k30 (by omega) z42 (by omega) (by omega) S.1) (ok_k X Y hA KS KR) kl_Ga_Va_keyAt ks_Va_keyAt ki_Va_keyAt ini_Va ⟨rfl, rfl⟩ hd_Va_keyAt.2 ⟨Nat.le_of_ble_eq_true rfl, Nat.le_of_ble_eq_true rfl⟩ rfl (Nat.le_of_ble_eq_true rfl) d_Ga_openTicket_244 ⟨Nat.le_of_ble_eq_true rfl, Nat.le_of_ble_eq_true rfl⟩) X Y hA S (by decide) (fun b43 κ43 L43 f43 H locs Y S s43 p43 => ?_)
                      obtain ⟨n43, k43⟩ := p43
                      have x43 := tKey_n k43
                      have k44 : κ43 h = (15, 0) := tLe_k s43.2.2.1 k0
                      have k45 : κ43 a1 = (13, n1) := tLe_k s43.2.2.1 k1
                      have k46 : κ43 a3 = (17, 0) := tLe_k s43.2.2.1 k3
                      refine t_put (ci := 5) X Y S k44 rfl i_Ga t_Ga t_Ga_ok n_Ga 3 (by decide) rfl lk_Ga_27 (fun _ h9 => h9) rfl (t_Ga_ok 3 (by decide)) rfl rfl ⟨_, n43, rfl, k43⟩ (fun h9 => h9.2.1 (by rw [← (S.2.2.2 _ h9).2, k44]; decide)) d_Ga_openTicket_247 (fun f47 H locs Y S w47 => ?_)
                      refine lv_aload_n X.1 X.2.1 d_Ga_openTicket_250 rfl (lv_at hl 0 rfl) ?_
                      refine t_get0 (ci := 5) X Y S k44 rfl i_Ga 3 (by decide) rfl lk_Ga_27 (fun _ h9 => h9) d_Ga_openTicket_251 w47.2.1 ?_
                      refine t_alen X Y S KS (tKey_src k43) (by omega) d_Ga_openTicket_254 ?_
                      refine z_if_ne (tgt := 263) X.1 X.2.1 d_Ga_openTicket_255 (by decide) ⟨by omega, by omega⟩ (fun h48 => ?_) (fun h48 => ?_)
                      · refine lv_iconst (v := iI 0) X.1 X.2.1 d_Ga_openTicket_263 (by decide) ?_
                        exact c_reti hQQ X Y hr hlk ⟨κ43, S, 0, rfl, ⟨by omega, by omega⟩⟩ d_Ga_openTicket_264
                      · refine lv_bipush (v := iI 14) X.1 X.2.1 d_Ga_openTicket_258 (by decide) ?_
                        refine lv_goto (tgt := 264) X.1 X.2.1 d_Ga_openTicket_260 (by decide) ?_
                        exact c_reti hQQ X Y hr hlk ⟨κ43, S, 14, rfl, ⟨by omega, by omega⟩⟩ d_Ga_openTicket_264
                    · refine lv_bipush (v := iI 60) X.1 X.2.1 d_Ga_openTicket_227 (by decide) ?_
                      refine W.widen (k := 1) (n := 32) (Nat.le_of_ble_eq_true rfl) (Nat.le_of_ble_eq_true rfl) ?_
                      exact c_reti hQQ X Y hr hlk ⟨κ, S, 60, rfl, ⟨by omega, by omega⟩⟩ d_Ga_openTicket_229
              · refine lv_bipush (v := iI 31) X.1 X.2.1 d_Ga_openTicket_163 (by decide) ?_
                refine W.widen (k := 1) (n := 32) (Nat.le_of_ble_eq_true rfl) (Nat.le_of_ble_eq_true rfl) ?_
                exact c_reti hQQ X Y hr hlk ⟨κ, S, 31, rfl, ⟨by omega, by omega⟩⟩ d_Ga_openTicket_165
            refine z_if_eq (tgt := 137) X.1 X.2.1 d_Ga_openTicket_122 (by decide) ⟨by omega, by omega⟩ (fun h49 => ?_) (fun h49 => ?_)
            · exact J24  _ _ _  Y S (lv_sub hl [2, 3, 4, 5, 1, 0] rfl)
            · refine lv_lload X.1 X.2.1 d_Ga_openTicket_125 (lv_at hl 0 rfl) ?_
              refine lv_ldc2 (v := (18)) X.1 X.2.1 X.2.2.2.1 (X.2.2.1 _ cl_Ga_96) d_Ga_openTicket_127 ?_
              refine W.lcmp X.1 X.2.1 d_Ga_openTicket_130 ?_
              refine t_u (fun z50 l50 u50 => ?_)
              refine z_if_eq (tgt := 137) X.1 X.2.1 d_Ga_openTicket_131 (by decide) ⟨by omega, by omega⟩ (fun h51 => ?_) (fun h51 => ?_)
              · exact J24  _ _ _  Y S (lv_sub hl [2, 3, 4, 5, 1, 0] rfl)
              · refine lv_bipush (v := iI 14) X.1 X.2.1 d_Ga_openTicket_134 (by decide) ?_
                refine W.widen (k := 1) (n := 32) (Nat.le_of_ble_eq_true rfl) (Nat.le_of_ble_eq_true rfl) ?_
                exact c_reti hQQ X Y hr hlk ⟨κ, S, 14, rfl, ⟨by omega, by omega⟩⟩ d_Ga_openTicket_136
          · refine lv_bipush (v := iI 44) X.1 X.2.1 d_Ga_openTicket_100 (by decide) ?_
            refine W.widen (k := 1) (n := 32) (Nat.le_of_ble_eq_true rfl) (Nat.le_of_ble_eq_true rfl) ?_
            exact c_reti hQQ X Y hr hlk ⟨κ, S, 44, rfl, ⟨by omega, by omega⟩⟩ d_Ga_openTicket_102
        refine z_if_ge (tgt := 83) X.1 X.2.1 d_Ga_openTicket_72 (by decide) ⟨by omega, by omega⟩ (fun h52 => ?_) (fun h52 => ?_)
        · refine lv_aload_n X.1 X.2.1 d_Ga_openTicket_83 rfl (lv_at hl 3 rfl) ?_
          refine lv_iload X.1 X.2.1 d_Ga_openTicket_84 (lv_at hl 0 rfl) ?_
          refine t_ul (t_runV (As := [.int (iI z13)]) (rest := []) (n := 1) X Y S k1 hml hl.1 (c_By_numberAt l D E T κ L f H.size a1 n1 k1 (by omega) z13 (by omega) (by omega) S.1) (ok_k X Y hA KS KR) rfl kl_Ga_By_numberAt ks_By_numberAt kx_By_numberAt ki_By_numberAt ini_By ⟨rfl, rfl⟩ hd_By_numberAt ⟨Nat.le_of_ble_eq_true rfl, Nat.le_of_ble_eq_true rfl⟩ rfl (Nat.le_of_ble_eq_true rfl) d_Ga_openTicket_86 ⟨Nat.le_of_ble_eq_true rfl, Nat.le_of_ble_eq_true rfl⟩) X Y hA (fun v53 H locs Y p53 => ?_)
          exact J15 v53 _ _ _  Y S (lv_sub hl [2, 3, 5, 1] rfl)
        · refine lv_aload_n X.1 X.2.1 d_Ga_openTicket_75 rfl (lv_at hl 5 rfl) ?_
          refine t_geti (ci := 7) X Y S k3 rfl i_Pr 3 (by decide) rfl lk_Ga_87 (fun _ h9 => h9) d_Ga_openTicket_76 (fun z54 e54 l54 u54 => ?_)
          refine lv_i2l X.1 X.2.1 d_Ga_openTicket_79 rfl ?_
          refine t_anyl (fun v55 => ?_)
          refine lv_goto (tgt := 89) X.1 X.2.1 d_Ga_openTicket_80 (by decide) ?_
          exact J15 v55 _ _ _  Y S (lv_sub hl [2, 3, 5, 1] rfl)
      · refine lv_bipush (v := iI 35) X.1 X.2.1 d_Ga_openTicket_50 (by decide) ?_
        refine W.widen (k := 1) (n := 32) (Nat.le_of_ble_eq_true rfl) (Nat.le_of_ble_eq_true rfl) ?_
        exact c_reti hQQ X Y hr hlk ⟨κ, S, 35, rfl, ⟨by omega, by omega⟩⟩ d_Ga_openTicket_52
  · refine lv_bipush (v := iI 39) X.1 X.2.1 d_Ga_openTicket_17 (by decide) ?_
    refine W.widen (k := 1) (n := 32) (Nat.le_of_ble_eq_true rfl) (Nat.le_of_ble_eq_true rfl) ?_
    exact c_reti hQQ X Y hr hlk ⟨κ, S, 39, rfl, ⟨by omega, by omega⟩⟩ d_Ga_openTicket_19
set_option maxHeartbeats 4000000 in
set_option maxRecDepth 100000 in
theorem c_Ga_openProof (l : Launch) (D : va_G) (E : cE) (T : cT) (κ : tK) (L : List Nat) (f : pF) (sz : Nat) (h : Nat) (k0 : κ h = (15, 0)) (a1 n1 : Nat) (k1 : κ a1 = (13, n1)) (x1 : n1 ≤ 12288) (a2 : Int) (l_a2 : (-1) ≤ a2) (u_a2 : a2 ≤ 20200) (a3 : Int) (l_a3 : (-2147483648) ≤ a3) (u_a3 : a3 ≤ 2147483647) (hw : tW E T κ L f) : Met l y_Ga_openProof (k_Ga_openProof :: lw_tg) (kRm 71 2363 0 0) (va_Pc [.ref h, .ref a1, .int (iI a2), .int (iI a3)] (kPre D E T L f sz)) (va_Qi (nPi E T [1, 2, 3, 4, 11, 13, 16] κ L f (fun (z : Int) (g : pF) => (-2147483648) ≤ z ∧ z ≤ 2147483647)) (cPost D E (pA L sz)) (pA L sz)) 0 0 (pA L sz) := by
  refine k_enter (own := R_Ga) (by decide) rfl (Nat.le_of_ble_eq_true rfl) (fun p e s m below meth c ls AV QQ H locs hQQ X Y hA hin hr hlk hml hl KS KR => ?_)
  have hl : lv_has ls 4 [(0, .ref h), (1, .ref a1), (2, .int (iI a2)), (3, .int (iI a3))] := hl
  have S : tS E T (tFr κ L [1, 2, 3, 4, 11, 13, 16] []) κ L f κ L f := tS_rf hw
  refine lv_aload_n X.1 X.2.1 d_Ga_openProof_0 rfl (lv_at hl 0 rfl) ?_
  refine t_getr (ci := 5) X Y S k0 rfl i_Ga 0 (by decide) rfl (k1 := 21) (k2 := 0) rfl rfl lk_Ga_34 (fun _ h9 => h9) d_Ga_openProof_1 (fun b1 e1 k1 => ?_)
  refine lv_aload_n X.1 X.2.1 d_Ga_openProof_4 rfl (lv_at hl 1 rfl) ?_
  refine lv_iload_n X.1 X.2.1 d_Ga_openProof_5 rfl (lv_at hl 2 rfl) ?_
  refine lv_aload_n X.1 X.2.1 d_Ga_openProof_6 rfl (lv_at hl 0 rfl) ?_
  refine t_getk (ci := 5) X Y S k0 rfl i_Ga 3 (by decide) rfl lk_Ga_27 (fun _ h9 => h9) d_Ga_openProof_7 (fun b2 n2 e2 k2 x2 => ?_)
  refine lv_iload_n X.1 X.2.1 d_Ga_openProof_10 rfl (lv_at hl 3 rfl) ?_
  refine lv_aload_n X.1 X.2.1 d_Ga_openProof_11 rfl (lv_at hl 0 rfl) ?_
  refine t_getr (ci := 5) X Y S k0 rfl i_Ga 2 (by decide) rfl (k1 := 13) (k2 := 4000) rfl rfl lk_Ga_20 (fun _ h9 => h9) d_Ga_openProof_12 (fun b3 e3 k3 => ?_)
  refine t_ni (t_runV (As := [.ref a1, .int (iI a2), .ref b2, .int (iI a3), .ref b3]) (rest := []) (n := 5) X Y S k1 hml hl.1 (c_Va_opens l D E T κ L f H.size b1 k1 a1 n1 k1 (by omega) a2 (by omega) (by omega) b2 n2 k2 (by omega) a3 (by omega) (by omega) b3 4000 k3 (by omega) S.1) (ok_k X Y hA KS KR) rfl kl_Ga_Va_opens ks_Va_opens kx_Va_opens ki_Va_opens ini_Va ⟨rfl, rfl⟩ hd_Va_opens ⟨Nat.le_of_ble_eq_true rfl, Nat.le_of_ble_eq_true rfl⟩ rfl (Nat.le_of_ble_eq_true rfl) d_Ga_openProof_15 ⟨Nat.le_of_ble_eq_true rfl, Nat.le_of_ble_eq_true rfl⟩) X Y hA S (by decide) (fun z4 f4 H locs Y S s4 p4 => ?_)
  obtain ⟨l4, u4⟩ := p4
  refine z_if_ne (tgt := 24) X.1 X.2.1 d_Ga_openProof_18 (by decide) ⟨by omega, by omega⟩ (fun h5 => ?_) (fun h5 => ?_)
  · refine lv_aload_n X.1 X.2.1 d_Ga_openProof_24 rfl (lv_at hl 0 rfl) ?_
    refine t_get0 (ci := 5) X Y S k0 rfl i_Ga 2 (by decide) rfl lk_Ga_20 (fun _ h9 => h9) d_Ga_openProof_25 ((gF_same (s4.2.2.2 _ ⟨(t_obj S.1 k0).1, by rw [k0]; decide, by simp⟩).1 2).trans e3) ?_
    refine lv_sipush (v := iI 354) X.1 X.2.1 d_Ga_openProof_28 (by decide) ?_
    refine lv_iconst (v := iI 0) X.1 X.2.1 d_Ga_openProof_31 (by decide) ?_
    refine lv_aload_n X.1 X.2.1 d_Ga_openProof_32 rfl (lv_at hl 0 rfl) ?_
    refine t_get0 (ci := 5) X Y S k0 rfl i_Ga 2 (by decide) rfl lk_Ga_20 (fun _ h9 => h9) d_Ga_openProof_33 ((gF_same (s4.2.2.2 _ ⟨(t_obj S.1 k0).1, by rw [k0]; decide, by simp⟩).1 2).trans e3) ?_
    refine t_gets (ci := 3) X Y S k3 rfl i_By 1 (by decide) rfl lk_Ga_108 (fun _ h9 => h9) d_Ga_openProof_36 (fun z6 e6 l6 u6 => ?_)
    refine t_ui (t_runV (As := [.int (iI 354), .int (iI 0), .int (iI z6)]) (rest := []) (n := 3) X Y S k3 hml hl.1 (c_By_isA l D E T κ L f4 H.size b3 4000 k3 (by omega) 354 (by omega) (by omega) 0 (by omega) (by omega) z6 (by omega) (by omega) S.1) (ok_k X Y hA KS KR) rfl kl_Ga_By_isA ks_By_isA kx_By_isA ki_By_isA ini_By ⟨rfl, rfl⟩ hd_By_isA ⟨Nat.le_of_ble_eq_true rfl, Nat.le_of_ble_eq_true rfl⟩ rfl (Nat.le_of_ble_eq_true rfl) d_Ga_openProof_39 ⟨Nat.le_of_ble_eq_true rfl, Nat.le_of_ble_eq_true rfl⟩) X Y hA (fun z7 H locs Y p7 => ?_)
    obtain ⟨l7, u7⟩ := p7
    refine z_if_ne (tgt := 48) X.1 X.2.1 d_Ga_openProof_42 (by decide) ⟨by omega, by omega⟩ (fun h8 => ?_) (fun h8 => ?_)
    · refine lv_aload_n X.1 X.2.1 d_Ga_openProof_48 rfl (lv_at hl 0 rfl) ?_
      refine t_get0 (ci := 5) X Y S k0 rfl i_Ga 2 (by decide) rfl lk_Ga_20 (fun _ h9 => h9) d_Ga_openProof_49 ((gF_same (s4.2.2.2 _ ⟨(t_obj S.1 k0).1, by rw [k0]; decide, by simp⟩).1 2).trans e3) ?_
      refine lv_aload_n X.1 X.2.1 d_Ga_openProof_52 rfl (lv_at hl 0 rfl) ?_
      refine t_get0 (ci := 5) X Y S k0 rfl i_Ga 2 (by decide) rfl lk_Ga_20 (fun _ h9 => h9) d_Ga_openProof_53 ((gF_same (s4.2.2.2 _ ⟨(t_obj S.1 k0).1, by rw [k0]; decide, by simp⟩).1 2).trans e3) ?_
      refine lv_iconst (v := iI 0) X.1 X.2.1 d_Ga_openProof_56 (by decide) ?_
      refine lv_iconst (v := iI 1) X.1 X.2.1 d_Ga_openProof_57 (by decide) ?_
      refine t_ui (t_runV (As := [.int (iI 0), .int (iI 1)]) (rest := [.ref b3]) (n := 2) X Y S k3 hml hl.1 (c_By_field l D E T κ L f4 H.size b3 4000 k3 (by omega) 0 (by omega) (by omega) 1 (by omega) (by omega) S.1) (ok_k X Y hA KS KR) rfl kl_Ga_By_field ks_By_field kx_By_field ki_By_field ini_By ⟨rfl, rfl⟩ hd_By_field ⟨Nat.le_of_ble_eq_true rfl, Nat.le_of_ble_eq_true rfl⟩ rfl (Nat.le_of_ble_eq_true rfl) d_Ga_openProof_58 ⟨Nat.le_of_ble_eq_true rfl, Nat.le_of_ble_eq_true rfl⟩) X Y hA (fun z9 H locs Y p9 => ?_)
      obtain ⟨l9, u9⟩ := p9
      refine t_ui (t_runV (As := [.int (iI z9)]) (rest := []) (n := 1) X Y S k3 hml hl.1 (c_By_isRealm l D E T κ L f4 H.size b3 4000 k3 (by omega) z9 (by omega) (by omega) S.1) (ok_k X Y hA KS KR) rfl kl_Ga_By_isRealm ks_By_isRealm kx_By_isRealm ki_By_isRealm ini_By ⟨rfl, rfl⟩ hd_By_isRealm ⟨Nat.le_of_ble_eq_true rfl, Nat.le_of_ble_eq_true rfl⟩ rfl (Nat.le_of_ble_eq_true rfl) d_Ga_openProof_61 ⟨Nat.le_of_ble_eq_true rfl, Nat.le_of_ble_eq_true rfl⟩) X Y hA (fun z10 H locs Y p10 => ?_)
      obtain ⟨l10, u10⟩ := p10
      refine z_if_eq (tgt := 99) X.1 X.2.1 d_Ga_openProof_64 (by decide) ⟨by omega, by omega⟩ (fun h11 => ?_) (fun h11 => ?_)
      · refine lv_bipush (v := iI 36) X.1 X.2.1 d_Ga_openProof_99 (by decide) ?_
        exact c_reti hQQ X Y hr hlk ⟨rfl, S, 36, rfl, ⟨by omega, by omega⟩⟩ d_Ga_openProof_101
      · refine lv_aload_n X.1 X.2.1 d_Ga_openProof_67 rfl (lv_at hl 0 rfl) ?_
        refine t_get0 (ci := 5) X Y S k0 rfl i_Ga 2 (by decide) rfl lk_Ga_20 (fun _ h9 => h9) d_Ga_openProof_68 ((gF_same (s4.2.2.2 _ ⟨(t_obj S.1 k0).1, by rw [k0]; decide, by simp⟩).1 2).trans e3) ?_
        refine lv_aload_n X.1 X.2.1 d_Ga_openProof_71 rfl (lv_at hl 0 rfl) ?_
        refine t_get0 (ci := 5) X Y S k0 rfl i_Ga 2 (by decide) rfl lk_Ga_20 (fun _ h9 => h9) d_Ga_openProof_72 ((gF_same (s4.2.2.2 _ ⟨(t_obj S.1 k0).1, by rw [k0]; decide, by simp⟩).1 2).trans e3) ?_
        refine lv_iconst (v := iI 0) X.1 X.2.1 d_Ga_openProof_75 (by decide) ?_
        refine lv_iconst (v := iI 2) X.1 X.2.1 d_Ga_openProof_76 (by decide) ?_
        refine t_ui (t_runV (As := [.int (iI 0), .int (iI 2)]) (rest := [.ref b3]) (n := 2) X Y S k3 hml hl.1 (c_By_field l D E T κ L f4 H.size b3 4000 k3 (by omega) 0 (by omega) (by omega) 2 (by omega) (by omega) S.1) (ok_k X Y hA KS KR) rfl kl_Ga_By_field ks_By_field kx_By_field ki_By_field ini_By ⟨rfl, rfl⟩ hd_By_field ⟨Nat.le_of_ble_eq_true rfl, Nat.le_of_ble_eq_true rfl⟩ rfl (Nat.le_of_ble_eq_true rfl) d_Ga_openProof_77 ⟨Nat.le_of_ble_eq_true rfl, Nat.le_of_ble_eq_true rfl⟩) X Y hA (fun z12 H locs Y p12 => ?_)
        obtain ⟨l12, u12⟩ := p12
        refine lv_aload_n X.1 X.2.1 d_Ga_openProof_80 rfl (lv_at hl 0 rfl) ?_
        refine t_getr (ci := 5) X Y S k0 rfl i_Ga 1 (by decide) rfl (k1 := 13) (k2 := 4000) rfl rfl lk_Ga_14 (fun _ h9 => h9) d_Ga_openProof_81 (fun b13 e13 k13 => ?_)
        refine lv_aload_n X.1 X.2.1 d_Ga_openProof_84 rfl (lv_at hl 0 rfl) ?_
        refine t_get0 (ci := 5) X Y S k0 rfl i_Ga 1 (by decide) rfl lk_Ga_14 (fun _ h9 => h9) d_Ga_openProof_85 e13 ?_
        refine lv_iconst (v := iI 0) X.1 X.2.1 d_Ga_openProof_88 (by decide) ?_
        refine lv_iconst (v := iI 3) X.1 X.2.1 d_Ga_openProof_89 (by decide) ?_
        refine t_ui (t_runV (As := [.int (iI 0), .int (iI 3)]) (rest := [.ref b13, .int (iI z12), .ref b3]) (n := 2) X Y S k13 hml hl.1 (c_By_field l D E T κ L f4 H.size b13 4000 k13 (by omega) 0 (by omega) (by omega) 3 (by omega) (by omega) S.1) (ok_k X Y hA KS KR) rfl kl_Ga_By_field ks_By_field kx_By_field ki_By_field ini_By ⟨rfl, rfl⟩ hd_By_field ⟨Nat.le_of_ble_eq_true rfl, Nat.le_of_ble_eq_true rfl⟩ rfl (Nat.le_of_ble_eq_true rfl) d_Ga_openProof_90 ⟨Nat.le_of_ble_eq_true rfl, Nat.le_of_ble_eq_true rfl⟩) X Y hA (fun z14 H locs Y p14 => ?_)
        obtain ⟨l14, u14⟩ := p14
        refine t_ui (t_runV (As := [.int (iI z12), .ref b13, .int (iI z14)]) (rest := []) (n := 3) X Y S k3 hml hl.1 (c_By_sameParts l D E T κ L f4 H.size b3 4000 k3 (by omega) z12 (by omega) (by omega) b13 4000 k13 (by omega) z14 (by omega) (by omega) S.1) (ok_k X Y hA KS KR) rfl kl_Ga_By_sameParts ks_By_sameParts kx_By_sameParts ki_By_sameParts ini_By ⟨rfl, rfl⟩ hd_By_sameParts ⟨Nat.le_of_ble_eq_true rfl, Nat.le_of_ble_eq_true rfl⟩ rfl (Nat.le_of_ble_eq_true rfl) d_Ga_openProof_93 ⟨Nat.le_of_ble_eq_true rfl, Nat.le_of_ble_eq_true rfl⟩) X Y hA (fun z15 H locs Y p15 => ?_)
        obtain ⟨l15, u15⟩ := p15
        refine z_if_ne (tgt := 102) X.1 X.2.1 d_Ga_openProof_96 (by decide) ⟨by omega, by omega⟩ (fun h16 => ?_) (fun h16 => ?_)
        · refine lv_aload_n X.1 X.2.1 d_Ga_openProof_102 rfl (lv_at hl 0 rfl) ?_
          refine t_get0 (ci := 5) X Y S k0 rfl i_Ga 2 (by decide) rfl lk_Ga_20 (fun _ h9 => h9) d_Ga_openProof_103 ((gF_same (s4.2.2.2 _ ⟨(t_obj S.1 k0).1, by rw [k0]; decide, by simp⟩).1 2).trans e3) ?_
          refine lv_aload_n X.1 X.2.1 d_Ga_openProof_106 rfl (lv_at hl 0 rfl) ?_
          refine t_get0 (ci := 5) X Y S k0 rfl i_Ga 2 (by decide) rfl lk_Ga_20 (fun _ h9 => h9) d_Ga_openProof_107 ((gF_same (s4.2.2.2 _ ⟨(t_obj S.1 k0).1, by rw [k0]; decide, by simp⟩).1 2).trans e3) ?_
          refine lv_iconst (v := iI 0) X.1 X.2.1 d_Ga_openProof_110 (by decide) ?_
          refine lv_iconst (v := iI 5) X.1 X.2.1 d_Ga_openProof_111 (by decide) ?_
          refine t_ui (t_runV (As := [.int (iI 0), .int (iI 5)]) (rest := [.ref b3]) (n := 2) X Y S k3 hml hl.1 (c_By_field l D E T κ L f4 H.size b3 4000 k3 (by omega) 0 (by omega) (by omega) 5 (by omega) (by omega) S.1) (ok_k X Y hA KS KR) rfl kl_Ga_By_field ks_By_field kx_By_field ki_By_field ini_By ⟨rfl, rfl⟩ hd_By_field ⟨Nat.le_of_ble_eq_true rfl, Nat.le_of_ble_eq_true rfl⟩ rfl (Nat.le_of_ble_eq_true rfl) d_Ga_openProof_112 ⟨Nat.le_of_ble_eq_true rfl, Nat.le_of_ble_eq_true rfl⟩) X Y hA (fun z17 H locs Y p17 => ?_)
          obtain ⟨l17, u17⟩ := p17
          refine t_ui (t_runV (As := [.int (iI z17)]) (rest := []) (n := 1) X Y S k3 hml hl.1 (c_By_timeAt l D E T κ L f4 H.size b3 4000 k3 (by omega) z17 (by omega) (by omega) S.1) (ok_k X Y hA KS KR) rfl kl_Ga_By_timeAt ks_By_timeAt kx_By_timeAt ki_By_timeAt ini_By ⟨rfl, rfl⟩ hd_By_timeAt ⟨Nat.le_of_ble_eq_true rfl, Nat.le_of_ble_eq_true rfl⟩ rfl (Nat.le_of_ble_eq_true rfl) d_Ga_openProof_115 ⟨Nat.le_of_ble_eq_true rfl, Nat.le_of_ble_eq_true rfl⟩) X Y hA (fun z18 H locs Y p18 => ?_)
          obtain ⟨l18, u18⟩ := p18
          refine lv_aload_n X.1 X.2.1 d_Ga_openProof_118 rfl (lv_at hl 0 rfl) ?_
          refine t_get0 (ci := 5) X Y S k0 rfl i_Ga 0 (by decide) rfl lk_Ga_34 (fun _ h9 => h9) d_Ga_openProof_119 ((gF_same (s4.2.2.2 _ ⟨(t_obj S.1 k0).1, by rw [k0]; decide, by simp⟩).1 0).trans e1) ?_
          refine t_geti (ci := 11) X Y S k1 rfl i_Va 0 (by decide) rfl lk_Ga_125 (fun _ h9 => h9) d_Ga_openProof_122 (fun z19 e19 l19 u19 => ?_)
          refine lv_isub X.1 X.2.1 d_Ga_openProof_125 ?_
          refine t_u (fun z20 l20 u20 => ?_)
          refine va_mabs X.1 X.2.1 (hml.trans hl.1.symm) X.2.2.2.1 (X.2.2.1 _ kl_Ga_mabs) (X.2.2.1 _ ks_mabs) (X.2.2.1 _ ini_Math) (X.2.2.1 _ ki_mabs) (Nat.le_of_ble_eq_true rfl) (Nat.le_of_ble_eq_true rfl) (Nat.le_of_ble_eq_true rfl) (Nat.le_of_ble_eq_true rfl) d_Ga_openProof_126 ?_
          refine t_u (fun z21 l21 u21 => ?_)
          refine lv_sipush (v := iI 300) X.1 X.2.1 d_Ga_openProof_129 (by decide) ?_
          refine z_icmp_le (tgt := 140) X.1 X.2.1 d_Ga_openProof_132 (by decide) ⟨by omega, by omega⟩ ⟨by omega, by omega⟩ (fun h22 => ?_) (fun h22 => ?_)
          · refine lv_iconst (v := iI 0) X.1 X.2.1 d_Ga_openProof_140 (by decide) ?_
            exact c_reti hQQ X Y hr hlk ⟨rfl, S, 0, rfl, ⟨by omega, by omega⟩⟩ d_Ga_openProof_141
          · refine lv_bipush (v := iI 37) X.1 X.2.1 d_Ga_openProof_135 (by decide) ?_
            refine lv_goto (tgt := 141) X.1 X.2.1 d_Ga_openProof_137 (by decide) ?_
            exact c_reti hQQ X Y hr hlk ⟨rfl, S, 37, rfl, ⟨by omega, by omega⟩⟩ d_Ga_openProof_141
        · refine lv_bipush (v := iI 36) X.1 X.2.1 d_Ga_openProof_99 (by decide) ?_
          exact c_reti hQQ X Y hr hlk ⟨rfl, S, 36, rfl, ⟨by omega, by omega⟩⟩ d_Ga_openProof_101
    · refine lv_bipush (v := iI 60) X.1 X.2.1 d_Ga_openProof_45 (by decide) ?_
      exact c_reti hQQ X Y hr hlk ⟨rfl, S, 60, rfl, ⟨by omega, by omega⟩⟩ d_Ga_openProof_47
  · refine lv_bipush (v := iI 31) X.1 X.2.1 d_Ga_openProof_21 (by decide) ?_
    exact c_reti hQQ X Y hr hlk ⟨rfl, S, 31, rfl, ⟨by omega, by omega⟩⟩ d_Ga_openProof_23
set_option maxHeartbeats 4000000 in
set_option maxRecDepth 100000 in
theorem c_Ga_judge (l : Launch) (D : va_G) (E : cE) (T : cT) (κ : tK) (L : List Nat) (f : pF) (sz : Nat) (h : Nat) (k0 : κ h = (15, 0)) (a1 n1 : Nat) (k1 : κ a1 = (13, n1)) (x1 : n1 ≤ 12288) (a2 : Int) (l_a2 : (-1) ≤ a2) (u_a2 : a2 ≤ 20200) (a3 : Int) (l_a3 : 0 ≤ a3) (u_a3 : a3 ≤ 20200) (a4 : Nat) (k4 : κ a4 = (17, 0)) (a5 : Nat) (k5 : κ a5 = (18, 0)) (a6 : Int) (l_a6 : (-2147483648) ≤ a6) (u_a6 : a6 ≤ 2147483647) (hw : tW E T κ L f) : Met l y_Ga_judge (k_Ga_judge :: lw_tg) (kRm 72 2392 1 32) (va_Pc [.ref h, .ref a1, .int (iI a2), .int (iI a3), .ref a4, .ref a5, .int (iI a6)] (kPre D E T L f sz)) (va_Qi (aPi E T [1, 2, 3, 4, 5, 6, 7, 8, 9, 10, 11, 12, 13, 14, 15, 16, 17, 18, 19, 20, 21] [] κ L f (fun (z : Int) (k : tK) (g : pF) => (-2147483648) ≤ z ∧ z ≤ 2147483647)) (cPost D E (pA L sz)) (pA L sz)) 1 32 (pA L sz) := by
  refine k_enter (own := R_Ga) (by decide) rfl (Nat.le_of_ble_eq_true rfl) (fun p e s m below meth c ls AV QQ H locs hQQ X Y hA hin hr hlk hml hl KS KR => ?_)
  have hl : lv_has ls 9 [(0, .ref h), (1, .ref a1), (2, .int (iI a2)), (3, .int (iI a3)), (4, .ref a4), (5, .ref a5), (6, .int (iI a6))] := hl
  have S : tS E T (tFr κ L [1, 2, 3, 4, 5, 6, 7, 8, 9, 10, 11, 12, 13, 14, 15, 16, 17, 18, 19, 20, 21] []) κ L f κ L f := tS_rf hw
  have hF0 : ∀ b, tFr κ L [1, 2, 3, 4, 5, 6, 7, 8, 9, 10, 11, 12, 13, 14, 15, 16, 17, 18, 19, 20, 21] [] b → b ∈ L := fun b h9 => h9.1
  refine lv_aload_n X.1 X.2.1 d_Ga_judge_0 rfl (lv_at hl 1 rfl) ?_
  refine lv_sipush (v := iI 366) X.1 X.2.1 d_Ga_judge_1 (by decide) ?_
  refine lv_iload_n X.1 X.2.1 d_Ga_judge_4 rfl (lv_at hl 2 rfl) ?_
  refine lv_iload_n X.1 X.2.1 d_Ga_judge_5 rfl (lv_at hl 3 rfl) ?_
  refine t_ui (t_runV (As := [.int (iI 366), .int (iI a2), .int (iI a3)]) (rest := []) (n := 3) X Y S k1 hml hl.1 (c_By_isA l D E T κ L f H.size a1 n1 k1 (by omega) 366 (by omega) (by omega) a2 (by omega) (by omega) a3 (by omega) (by omega) S.1) (ok_k X Y hA KS KR) rfl kl_Ga_By_isA ks_By_isA kx_By_isA ki_By_isA ini_By ⟨rfl, rfl⟩ hd_By_isA ⟨Nat.le_of_ble_eq_true rfl, Nat.le_of_ble_eq_true rfl⟩ rfl (Nat.le_of_ble_eq_true rfl) d_Ga_judge_6 ⟨Nat.le_of_ble_eq_true rfl, Nat.le_of_ble_eq_true rfl⟩) X Y hA (fun z1 H locs Y p1 => ?_)
  obtain ⟨l1, u1⟩ := p1
  refine z_if_ne (tgt := 15) X.1 X.2.1 d_Ga_judge_9 (by decide) ⟨by omega, by omega⟩ (fun h2 => ?_) (fun h2 => ?_)
  · refine lv_aload_n X.1 X.2.1 d_Ga_judge_15 rfl (lv_at hl 1 rfl) ?_
    refine lv_aload_n X.1 X.2.1 d_Ga_judge_16 rfl (lv_at hl 1 rfl) ?_
    refine lv_iload_n X.1 X.2.1 d_Ga_judge_17 rfl (lv_at hl 2 rfl) ?_
    refine lv_iconst (v := iI 0) X.1 X.2.1 d_Ga_judge_18 (by decide) ?_
    refine t_ui (t_runV (As := [.int (iI a2), .int (iI 0)]) (rest := [.ref a1]) (n := 2) X Y S k1 hml hl.1 (c_By_field l D E T κ L f H.size a1 n1 k1 (by omega) a2 (by omega) (by omega) 0 (by omega) (by omega) S.1) (ok_k X Y hA KS KR) rfl kl_Ga_By_field ks_By_field kx_By_field ki_By_field ini_By ⟨rfl, rfl⟩ hd_By_field ⟨Nat.le_of_ble_eq_true rfl, Nat.le_of_ble_eq_true rfl⟩ rfl (Nat.le_of_ble_eq_true rfl) d_Ga_judge_19 ⟨Nat.le_of_ble_eq_true rfl, Nat.le_of_ble_eq_true rfl⟩) X Y hA (fun z3 H locs Y p3 => ?_)
    obtain ⟨l3, u3⟩ := p3
    refine t_ul (t_runV (As := [.int (iI z3)]) (rest := []) (n := 1) X Y S k1 hml hl.1 (c_By_numberAt l D E T κ L f H.size a1 n1 k1 (by omega) z3 (by omega) (by omega) S.1) (ok_k X Y hA KS KR) rfl kl_Ga_By_numberAt ks_By_numberAt kx_By_numberAt ki_By_numberAt ini_By ⟨rfl, rfl⟩ hd_By_numberAt ⟨Nat.le_of_ble_eq_true rfl, Nat.le_of_ble_eq_true rfl⟩ rfl (Nat.le_of_ble_eq_true rfl) d_Ga_judge_22 ⟨Nat.le_of_ble_eq_true rfl, Nat.le_of_ble_eq_true rfl⟩) X Y hA (fun v4 H locs Y p4 => ?_)
    refine lv_ldc2 (v := (5)) X.1 X.2.1 X.2.2.2.1 (X.2.2.1 _ cl_Ga_50) d_Ga_judge_25 ?_
    refine W.lcmp X.1 X.2.1 d_Ga_judge_28 ?_
    refine t_u (fun z5 l5 u5 => ?_)
    refine z_if_eq (tgt := 34) X.1 X.2.1 d_Ga_judge_29 (by decide) ⟨by omega, by omega⟩ (fun h6 => ?_) (fun h6 => ?_)
    · refine lv_aload_n X.1 X.2.1 d_Ga_judge_34 rfl (lv_at hl 1 rfl) ?_
      refine lv_aload_n X.1 X.2.1 d_Ga_judge_35 rfl (lv_at hl 1 rfl) ?_
      refine lv_iload_n X.1 X.2.1 d_Ga_judge_36 rfl (lv_at hl 2 rfl) ?_
      refine lv_iconst (v := iI 1) X.1 X.2.1 d_Ga_judge_37 (by decide) ?_
      refine t_ui (t_runV (As := [.int (iI a2), .int (iI 1)]) (rest := [.ref a1]) (n := 2) X Y S k1 hml hl.1 (c_By_field l D E T κ L f H.size a1 n1 k1 (by omega) a2 (by omega) (by omega) 1 (by omega) (by omega) S.1) (ok_k X Y hA KS KR) rfl kl_Ga_By_field ks_By_field kx_By_field ki_By_field ini_By ⟨rfl, rfl⟩ hd_By_field ⟨Nat.le_of_ble_eq_true rfl, Nat.le_of_ble_eq_true rfl⟩ rfl (Nat.le_of_ble_eq_true rfl) d_Ga_judge_38 ⟨Nat.le_of_ble_eq_true rfl, Nat.le_of_ble_eq_true rfl⟩) X Y hA (fun z7 H locs Y p7 => ?_)
      obtain ⟨l7, u7⟩ := p7
      refine t_ul (t_runV (As := [.int (iI z7)]) (rest := []) (n := 1) X Y S k1 hml hl.1 (c_By_numberAt l D E T κ L f H.size a1 n1 k1 (by omega) z7 (by omega) (by omega) S.1) (ok_k X Y hA KS KR) rfl kl_Ga_By_numberAt ks_By_numberAt kx_By_numberAt ki_By_numberAt ini_By ⟨rfl, rfl⟩ hd_By_numberAt ⟨Nat.le_of_ble_eq_true rfl, Nat.le_of_ble_eq_true rfl⟩ rfl (Nat.le_of_ble_eq_true rfl) d_Ga_judge_41 ⟨Nat.le_of_ble_eq_true rfl, Nat.le_of_ble_eq_true rfl⟩) X Y hA (fun v8 H locs Y p8 => ?_)
      refine lv_ldc2 (v := (14)) X.1 X.2.1 X.2.2.2.1 (X.2.2.1 _ cl_Ga_52) d_Ga_judge_44 ?_
      refine W.lcmp X.1 X.2.1 d_Ga_judge_47 ?_
      refine t_u (fun z9 l9 u9 => ?_)
      refine z_if_eq (tgt := 54) X.1 X.2.1 d_Ga_judge_48 (by decide) ⟨by omega, by omega⟩ (fun h10 => ?_) (fun h10 => ?_)
      · refine lv_aload_n X.1 X.2.1 d_Ga_judge_54 rfl (lv_at hl 1 rfl) ?_
        refine lv_iload_n X.1 X.2.1 d_Ga_judge_55 rfl (lv_at hl 2 rfl) ?_
        refine lv_iconst (v := iI 2) X.1 X.2.1 d_Ga_judge_56 (by decide) ?_
        refine t_ui (t_runV (As := [.int (iI a2), .int (iI 2)]) (rest := []) (n := 2) X Y S k1 hml hl.1 (c_By_field l D E T κ L f H.size a1 n1 k1 (by omega) a2 (by omega) (by omega) 2 (by omega) (by omega) S.1) (ok_k X Y hA KS KR) rfl kl_Ga_By_field ks_By_field kx_By_field ki_By_field ini_By ⟨rfl, rfl⟩ hd_By_field ⟨Nat.le_of_ble_eq_true rfl, Nat.le_of_ble_eq_true rfl⟩ rfl (Nat.le_of_ble_eq_true rfl) d_Ga_judge_57 ⟨Nat.le_of_ble_eq_true rfl, Nat.le_of_ble_eq_true rfl⟩) X Y hA (fun z11 H locs Y p11 => ?_)
        obtain ⟨l11, u11⟩ := p11
        refine lv_istore (lv' := [(7, .int (iI z11)), (0, .ref h), (1, .ref a1), (2, .int (iI a2)), (3, .int (iI a3)), (4, .ref a4), (5, .ref a5), (6, .int (iI a6))]) X.1 X.2.1 d_Ga_judge_60 hl (by decide) rfl (fun ls hl => ?_)
        refine lv_iload X.1 X.2.1 d_Ga_judge_62 (lv_at hl 7 rfl) ?_
        refine lv_bipush (v := iI 11) X.1 X.2.1 d_Ga_judge_64 (by decide) ?_
        have J12 : ∀  (H : Heap) (locs : List Loc) (ls : Array Slot), pH D cCl (pA L sz) s.heap L f H locs → tS E T (tFr κ L [1, 2, 3, 4, 5, 6, 7, 8, 9, 10, 11, 12, 13, 14, 15, 16, 17, 18, 19, 20, 21] []) κ L f κ L f → lv_has ls 9 [(0, .ref h), (1, .ref a1), (2, .int (iI a2)), (4, .ref a4), (5, .ref a5), (6, .int (iI a6))] → W p l e (kRm 72 2392 1 32) s m AV below meth c H locs 0 0 QQ (F0 m 93 ls []) := by
          intro  H locs ls  Y S hl
          refine lv_aload_n X.1 X.2.1 d_Ga_judge_93 rfl (lv_at hl 0 rfl) ?_
          refine lv_aload_n X.1 X.2.1 d_Ga_judge_94 rfl (lv_at hl 1 rfl) ?_
          refine lv_aload_n X.1 X.2.1 d_Ga_judge_95 rfl (lv_at hl 1 rfl) ?_
          refine lv_iload_n X.1 X.2.1 d_Ga_judge_96 rfl (lv_at hl 2 rfl) ?_
          refine lv_iconst (v := iI 3) X.1 X.2.1 d_Ga_judge_97 (by decide) ?_
          refine t_ui (t_runV (As := [.int (iI a2), .int (iI 3)]) (rest := [.ref a1, .ref h]) (n := 2) X Y S k1 hml hl.1 (c_By_field l D E T κ L f H.size a1 n1 k1 (by omega) a2 (by omega) (by omega) 3 (by omega) (by omega) S.1) (ok_k X Y hA KS KR) rfl kl_Ga_By_field ks_By_field kx_By_field ki_By_field ini_By ⟨rfl, rfl⟩ hd_By_field ⟨Nat.le_of_ble_eq_true rfl, Nat.le_of_ble_eq_true rfl⟩ rfl (Nat.le_of_ble_eq_true rfl) d_Ga_judge_98 ⟨Nat.le_of_ble_eq_true rfl, Nat.le_of_ble_eq_true rfl⟩) X Y hA (fun z16 H locs Y p16 => ?_)
          obtain ⟨l16, u16⟩ := p16
          refine lv_aload X.1 X.2.1 d_Ga_judge_101 (lv_at hl 3 rfl) ?_
          refine t_ai (t_runV (As := [.ref a1, .int (iI z16), .ref a4]) (rest := []) (n := 3) X Y S k0 hml hl.1 (c_Ga_openTicket l D E T κ L f H.size h k0 a1 n1 k1 (by omega) z16 (by omega) (by omega) a4 k4 S.1) (ok_k X Y hA KS KR) rfl kl_Ga_Ga_openTicket ks_Ga_openTicket kx_Ga_openTicket ki_Ga_openTicket ini_Ga ⟨rfl, rfl⟩ hd_Ga_openTicket ⟨Nat.le_of_ble_eq_true rfl, Nat.le_of_ble_eq_true rfl⟩ rfl (Nat.le_of_ble_eq_true rfl) d_Ga_judge_103 ⟨Nat.le_of_ble_eq_true rfl, Nat.le_of_ble_eq_true rfl⟩) X Y hA S (by decide) (fun z17 κ17 L17 f17 H locs Y S s17 p17 => ?_)
          obtain ⟨l17, u17⟩ := p17
          have k18 : κ17 h = (15, 0) := tLe_k s17.2.2.1 k0
          have k19 : κ17 a1 = (13, n1) := tLe_k s17.2.2.1 k1
          have k20 : κ17 a4 = (17, 0) := tLe_k s17.2.2.1 k4
          have k21 : κ17 a5 = (18, 0) := tLe_k s17.2.2.1 k5
          refine lv_istore (lv' := [(8, .int (iI z17)), (0, .ref h), (1, .ref a1), (2, .int (iI a2)), (4, .ref a4), (5, .ref a5), (6, .int (iI a6))]) X.1 X.2.1 d_Ga_judge_106 hl (by decide) rfl (fun ls hl => ?_)
          refine lv_iload X.1 X.2.1 d_Ga_judge_108 (lv_at hl 0 rfl) ?_
          have J24 : ∀ (z23 : Int) (f22 : pF) (H : Heap) (locs : List Loc) (ls : Array Slot), ((-2147483648) ≤ z23) → (z23 ≤ 2147483647) → pH D cCl (pA L sz) s.heap L17 f22 H locs → tS E T (tFr κ L [1, 2, 3, 4, 5, 6, 7, 8, 9, 10, 11, 12, 13, 14, 15, 16, 17, 18, 19, 20, 21] []) κ L f κ17 L17 f22 → lv_has ls 9 [(0, .ref h), (5, .ref a5), (8, .int (iI z23))] → W p l e (kRm 72 2392 1 32) s m AV below meth c H locs 1 32 QQ (F0 m 128 ls []) := by
            intro z23 f22 H locs ls l23 u23 Y S hl
            refine lv_iload X.1 X.2.1 d_Ga_judge_128 (lv_at hl 2 rfl) ?_
            refine z_if_ne (tgt := 142) X.1 X.2.1 d_Ga_judge_130 (by decide) ⟨by omega, by omega⟩ (fun h28 => ?_) (fun h28 => ?_)
            · refine lv_iload X.1 X.2.1 d_Ga_judge_142 (lv_at hl 2 rfl) ?_
              exact c_reti hQQ X Y hr hlk ⟨κ17, S, z23, rfl, ⟨by omega, by omega⟩⟩ d_Ga_judge_144
            · refine lv_aload_n X.1 X.2.1 d_Ga_judge_133 rfl (lv_at hl 0 rfl) ?_
              refine lv_aload X.1 X.2.1 d_Ga_judge_134 (lv_at hl 1 rfl) ?_
              refine t_ni (t_runV (As := [.ref a5]) (rest := []) (n := 1) X Y S k21 hml hl.1 (c_Ga_keep l D E T κ17 L17 f22 H.size h k21 a5 k24 S.1) (ok_k X Y hA KS KR) rfl kl_Ga_Ga_keep ks_Ga_keep kx_Ga_keep ki_Ga_keep ini_Ga ⟨rfl, rfl⟩ hd_Ga_keep ⟨Nat.le_of_ble_eq_true rfl, Nat.le_of_ble_eq_true rfl⟩ rfl (Nat.le_of_ble_eq_true rfl) d_Ga_judge_136 ⟨Nat.le_of_ble_eq_true rfl, Nat.le_of_ble_eq_true rfl⟩) X Y hA S (by decide) (fun z29 f29 H locs Y S s29 p29 => ?_)
              obtain ⟨l29, u29⟩ := p29
              refine lv_goto (tgt := 144) X.1 X.2.1 d_Ga_judge_139 (by decide) ?_
              exact c_reti hQQ X Y hr hlk ⟨κ17, S, z29, rfl, ⟨by omega, by omega⟩⟩ d_Ga_judge_144
          refine z_if_ne (tgt := 128) X.1 X.2.1 d_Ga_judge_110 (by decide) ⟨by omega, by omega⟩ (fun h30 => ?_) (fun h30 => ?_)
          · exact J24 z17 f17 _ _ _ (by omega) (by omega) Y S (lv_sub hl [1, 5, 0] rfl)
          · refine lv_aload_n X.1 X.2.1 d_Ga_judge_113 rfl (lv_at hl 1 rfl) ?_
            refine lv_aload_n X.1 X.2.1 d_Ga_judge_114 rfl (lv_at hl 2 rfl) ?_
            refine lv_aload_n X.1 X.2.1 d_Ga_judge_115 rfl (lv_at hl 2 rfl) ?_
            refine lv_iload_n X.1 X.2.1 d_Ga_judge_116 rfl (lv_at hl 3 rfl) ?_
            refine lv_iconst (v := iI 4) X.1 X.2.1 d_Ga_judge_117 (by decide) ?_
            refine t_ui (t_runV (As := [.int (iI a2), .int (iI 4)]) (rest := [.ref a1, .ref h]) (n := 2) X Y S k19 hml hl.1 (c_By_field l D E T κ17 L17 f17 H.size a1 n1 k19 (by omega) a2 (by omega) (by omega) 4 (by omega) (by omega) S.1) (ok_k X Y hA KS KR) rfl kl_Ga_By_field ks_By_field kx_By_field ki_By_field ini_By ⟨rfl, rfl⟩ hd_By_field ⟨Nat.le_of_ble_eq_true rfl, Nat.le_of_ble_eq_true rfl⟩ rfl (Nat.le_of_ble_eq_true rfl) d_Ga_judge_118 ⟨Nat.le_of_ble_eq_true rfl, Nat.le_of_ble_eq_true rfl⟩) X Y hA (fun z31 H locs Y p31 => ?_)
            obtain ⟨l31, u31⟩ := p31
            refine lv_iload X.1 X.2.1 d_Ga_judge_121 (lv_at hl 6 rfl) ?_
            refine t_ni (t_runV (As := [.ref a1, .int (iI z31), .int (iI a6)]) (rest := []) (n := 3) X Y S k18 hml hl.1 (c_Ga_openProof l D E T κ17 L17 f17 H.size h k18 a1 n1 k19 (by omega) z31 (by omega) (by omega) a6 (by omega) (by omega) S.1) (ok_k X Y hA KS KR) rfl kl_Ga_Ga_openProof ks_Ga_openProof kx_Ga_openProof ki_Ga_openProof ini_Ga ⟨rfl, rfl⟩ hd_Ga_openProof ⟨Nat.le_of_ble_eq_true rfl, Nat.le_of_ble_eq_true rfl⟩ rfl (Nat.le_of_ble_eq_true rfl) d_Ga_judge_123 ⟨Nat.le_of_ble_eq_true rfl, Nat.le_of_ble_eq_true rfl⟩) X Y hA S (by decide) (fun z32 f32 H locs Y S s32 p32 => ?_)
            obtain ⟨l32, u32⟩ := p32
            refine lv_istore (lv' := [(8, .int (iI z32)), (0, .ref h), (1, .ref a1), (2, .int (iI a2)), (4, .ref a4), (5, .ref a5), (6, .int (iI a6))]) X.1 X.2.1 d_Ga_judge_126 hl (by decide) rfl (fun ls hl => ?_)
            exact J24 z32 f32 _ _ _ (by omega) (by omega) Y S (lv_sub hl [1, 5, 0] rfl)
        refine z_icmp_ne (tgt := 93) X.1 X.2.1 d_Ga_judge_66 (by decide) ⟨by omega, by omega⟩ ⟨by omega, by omega⟩ (fun h33 => ?_) (fun h33 => ?_)
        · exact J12  _ _ _  Y S (lv_sub hl [1, 2, 3, 5, 6, 7] rfl)
        · refine lv_aload_n X.1 X.2.1 d_Ga_judge_69 rfl (lv_at hl 2 rfl) ?_
          refine lv_iload X.1 X.2.1 d_Ga_judge_70 (lv_at hl 0 rfl) ?_
          refine t_ui (t_runV (As := [.int (iI z11)]) (rest := []) (n := 1) X Y S k1 hml hl.1 (c_By_bitsAt l D E T κ L f H.size a1 n1 k1 (by omega) z11 (by omega) (by omega) S.1) (ok_k X Y hA KS KR) rfl kl_Ga_By_bitsAt ks_By_bitsAt kx_By_bitsAt ki_By_bitsAt ini_By ⟨rfl, rfl⟩ hd_By_bitsAt ⟨Nat.le_of_ble_eq_true rfl, Nat.le_of_ble_eq_true rfl⟩ rfl (Nat.le_of_ble_eq_true rfl) d_Ga_judge_72 ⟨Nat.le_of_ble_eq_true rfl, Nat.le_of_ble_eq_true rfl⟩) X Y hA (fun z34 H locs Y p34 => ?_)
          obtain ⟨l34, u34⟩ := p34
          refine lv_ldc (v := (-536870913)) X.1 X.2.1 X.2.2.2.1 (X.2.2.1 _ cn_Ga_58) d_Ga_judge_75 ?_
          refine t_eq (y := iI (-536870913)) (by decide) ?_
          refine lv_iand X.1 X.2.1 d_Ga_judge_77 ?_
          refine t_u (fun z36 l36 u36 => ?_)
          refine z_if_ne (tgt := 90) X.1 X.2.1 d_Ga_judge_78 (by decide) ⟨by omega, by omega⟩ (fun h37 => ?_) (fun h37 => ?_)
          · refine lv_bipush (v := iI 13) X.1 X.2.1 d_Ga_judge_90 (by decide) ?_
            refine W.widen (k := 1) (n := 32) (Nat.le_of_ble_eq_true rfl) (Nat.le_of_ble_eq_true rfl) ?_
            exact c_reti hQQ X Y hr hlk ⟨κ, S, 13, rfl, ⟨by omega, by omega⟩⟩ d_Ga_judge_92
          · refine lv_aload_n X.1 X.2.1 d_Ga_judge_81 rfl (lv_at hl 2 rfl) ?_
            refine lv_iload X.1 X.2.1 d_Ga_judge_82 (lv_at hl 0 rfl) ?_
            refine t_ui (t_runV (As := [.int (iI z11)]) (rest := []) (n := 1) X Y S k1 hml hl.1 (c_By_hasFarBits l D E T κ L f H.size a1 n1 k1 (by omega) z11 (by omega) (by omega) S.1) (ok_k X Y hA KS KR) rfl kl_Ga_By_hasFarBits ks_By_hasFarBits kx_By_hasFarBits ki_By_hasFarBits ini_By ⟨rfl, rfl⟩ hd_By_hasFarBits ⟨Nat.le_of_ble_eq_true rfl, Nat.le_of_ble_eq_true rfl⟩ rfl (Nat.le_of_ble_eq_true rfl) d_Ga_judge_84 ⟨Nat.le_of_ble_eq_true rfl, Nat.le_of_ble_eq_true rfl⟩) X Y hA (fun z38 H locs Y p38 => ?_)
            obtain ⟨l38, u38⟩ := p38
            refine z_if_eq (tgt := 93) X.1 X.2.1 d_Ga_judge_87 (by decide) ⟨by omega, by omega⟩ (fun h39 => ?_) (fun h39 => ?_)
            · exact J12  _ _ _  Y S (lv_sub hl [1, 2, 3, 5, 6, 7] rfl)
            · refine lv_bipush (v := iI 13) X.1 X.2.1 d_Ga_judge_90 (by decide) ?_
              refine W.widen (k := 1) (n := 32) (Nat.le_of_ble_eq_true rfl) (Nat.le_of_ble_eq_true rfl) ?_
              exact c_reti hQQ X Y hr hlk ⟨κ, S, 13, rfl, ⟨by omega, by omega⟩⟩ d_Ga_judge_92
      · refine lv_bipush (v := iI 40) X.1 X.2.1 d_Ga_judge_51 (by decide) ?_
        refine W.widen (k := 1) (n := 32) (Nat.le_of_ble_eq_true rfl) (Nat.le_of_ble_eq_true rfl) ?_
        exact c_reti hQQ X Y hr hlk ⟨κ, S, 40, rfl, ⟨by omega, by omega⟩⟩ d_Ga_judge_53
    · refine lv_iconst (v := iI 3) X.1 X.2.1 d_Ga_judge_32 (by decide) ?_
      refine W.widen (k := 1) (n := 32) (Nat.le_of_ble_eq_true rfl) (Nat.le_of_ble_eq_true rfl) ?_
      exact c_reti hQQ X Y hr hlk ⟨κ, S, 3, rfl, ⟨by omega, by omega⟩⟩ d_Ga_judge_33
  · refine lv_bipush (v := iI 60) X.1 X.2.1 d_Ga_judge_12 (by decide) ?_
    refine W.widen (k := 1) (n := 32) (Nat.le_of_ble_eq_true rfl) (Nat.le_of_ble_eq_true rfl) ?_
    exact c_reti hQQ X Y hr hlk ⟨κ, S, 60, rfl, ⟨by omega, by omega⟩⟩ d_Ga_judge_14
set_option maxHeartbeats 4000000 in
set_option maxRecDepth 100000 in
theorem c_Ga_judgeVisit (l : Launch) (D : va_G) (E : cE) (T : cT) (κ : tK) (L : List Nat) (f : pF) (sz : Nat) (h : Nat) (k0 : κ h = (15, 0)) (a1 : Nat) (k1 : κ a1 = (17, 0)) (a2 : Int) (l_a2 : 0 ≤ a2) (u_a2 : a2 ≤ 1) (hw : tW E T κ L f) : Met l y_Ga_judgeVisit (k_Ga_judgeVisit :: lw_tg) (kRm 6 171 1 32) (va_Pc [.ref h, .ref a1, .int (iI a2)] (kPre D E T L f sz)) (va_Qi (aPi E T [1, 2, 3, 4, 5, 6, 7, 8, 9, 10, 11, 12, 13, 14, 15, 16, 17, 18, 19, 20, 21] [] κ L f (fun (z : Int) (k : tK) (g : pF) => (-2147483648) ≤ z ∧ z ≤ 2147483647 ∧ (z = 0 → a2 = 1))) (cPost D E (pA L sz)) (pA L sz)) 1 32 (pA L sz) := by
  refine k_enter (own := R_Ga) (by decide) rfl (Nat.le_of_ble_eq_true rfl) (fun p e s m below meth c ls AV QQ H locs hQQ X Y hA hin hr hlk hml hl KS KR => ?_)
  have hl : lv_has ls 5 [(0, .ref h), (1, .ref a1), (2, .int (iI a2))] := hl
  have S : tS E T (tFr κ L [1, 2, 3, 4, 5, 6, 7, 8, 9, 10, 11, 12, 13, 14, 15, 16, 17, 18, 19, 20, 21] []) κ L f κ L f := tS_rf hw
  have hF0 : ∀ b, tFr κ L [1, 2, 3, 4, 5, 6, 7, 8, 9, 10, 11, 12, 13, 14, 15, 16, 17, 18, 19, 20, 21] [] b → b ∈ L := fun b h9 => h9.1
  refine lv_aload_n X.1 X.2.1 d_Ga_judgeVisit_0 rfl (lv_at hl 0 rfl) ?_
  refine t_ui (t_runV (As := []) (rest := []) (n := 0) X Y S k0 hml hl.1 (c_Ga_judgeTimes l D E T κ L f H.size h k0 S.1) (ok_k X Y hA KS KR) rfl kl_Ga_Ga_judgeTimes ks_Ga_judgeTimes kx_Ga_judgeTimes ki_Ga_judgeTimes ini_Ga ⟨rfl, rfl⟩ hd_Ga_judgeTimes ⟨Nat.le_of_ble_eq_true rfl, Nat.le_of_ble_eq_true rfl⟩ rfl (Nat.le_of_ble_eq_true rfl) d_Ga_judgeVisit_1 ⟨Nat.le_of_ble_eq_true rfl, Nat.le_of_ble_eq_true rfl⟩) X Y hA (fun z1 H locs Y p1 => ?_)
  obtain ⟨l1, u1⟩ := p1
  refine lv_istore_n (lv' := [(3, .int (iI z1)), (0, .ref h), (1, .ref a1), (2, .int (iI a2))]) X.1 X.2.1 d_Ga_judgeVisit_4 rfl hl (by decide) rfl (fun ls hl => ?_)
  refine lv_aload_n X.1 X.2.1 d_Ga_judgeVisit_5 rfl (lv_at hl 1 rfl) ?_
  refine t_getr (ci := 5) X Y S k0 rfl i_Ga 2 (by decide) rfl (k1 := 13) (k2 := 4000) rfl rfl lk_Ga_20 (fun _ h9 => h9) d_Ga_judgeVisit_6 (fun b2 e2 k2 => ?_)
  refine lv_iconst (v := iI 0) X.1 X.2.1 d_Ga_judgeVisit_9 (by decide) ?_
  refine lv_bipush (v := iI 6) X.1 X.2.1 d_Ga_judgeVisit_10 (by decide) ?_
  refine t_ui (t_runV (As := [.int (iI 0), .int (iI 6)]) (rest := []) (n := 2) X Y S k2 hml hl.1 (c_By_field l D E T κ L f H.size b2 4000 k2 (by omega) 0 (by omega) (by omega) 6 (by omega) (by omega) S.1) (ok_k X Y hA KS KR) rfl kl_Ga_By_field ks_By_field kx_By_field ki_By_field ini_By ⟨rfl, rfl⟩ hd_By_field ⟨Nat.le_of_ble_eq_true rfl, Nat.le_of_ble_eq_true rfl⟩ rfl (Nat.le_of_ble_eq_true rfl) d_Ga_judgeVisit_12 ⟨Nat.le_of_ble_eq_true rfl, Nat.le_of_ble_eq_true rfl⟩) X Y hA (fun z3 H locs Y p3 => ?_)
  obtain ⟨l3, u3⟩ := p3
  refine lv_istore (lv' := [(4, .int (iI z3)), (3, .int (iI z1)), (0, .ref h), (1, .ref a1), (2, .int (iI a2))]) X.1 X.2.1 d_Ga_judgeVisit_15 hl (by decide) rfl (fun ls hl => ?_)
  refine lv_iload_n X.1 X.2.1 d_Ga_judgeVisit_17 rfl (lv_at hl 1 rfl) ?_
  refine z_if_eq (tgt := 23) X.1 X.2.1 d_Ga_judgeVisit_18 (by decide) ⟨by omega, by omega⟩ (fun h4 => ?_) (fun h4 => ?_)
  · refine lv_iload X.1 X.2.1 d_Ga_judgeVisit_23 (lv_at hl 0 rfl) ?_
    have J9 : ∀ (κ6 : tK) (L7 : List Nat) (f5 : pF) (H : Heap) (locs : List Loc) (ls : Array Slot), (κ6 a1 = (17, 0)) → pH D cCl (pA L sz) s.heap L7 f5 H locs → tS E T (tFr κ L [1, 2, 3, 4, 5, 6, 7, 8, 9, 10, 11, 12, 13, 14, 15, 16, 17, 18, 19, 20, 21] []) κ L f κ6 L7 f5 → lv_has ls 5 [(1, .ref a1), (2, .int (iI a2))] → W p l e (kRm 6 171 1 32) s m AV below meth c H locs 1 32 QQ (F0 m 44 ls []) := by
      intro κ6 L7 f5 H locs ls k8 Y S hl
      refine lv_aload_n X.1 X.2.1 d_Ga_judgeVisit_44 rfl (lv_at hl 0 rfl) ?_
      refine lv_bipush (v := iI 32) X.1 X.2.1 d_Ga_judgeVisit_45 (by decide) ?_
      refine t_ui (t_runV (As := [.int (iI 32)]) (rest := []) (n := 1) X Y S k8 hml hl.1 (c_Pr_is l D E T κ6 L7 f5 H.size a1 k8 32 (by omega) (by omega) S.1) (ok_k X Y hA KS KR) rfl kl_Ga_Pr_is ks_Pr_is kx_Pr_is ki_Pr_is ini_Pr ⟨rfl, rfl⟩ hd_Pr_is ⟨Nat.le_of_ble_eq_true rfl, Nat.le_of_ble_eq_true rfl⟩ rfl (Nat.le_of_ble_eq_true rfl) d_Ga_judgeVisit_47 ⟨Nat.le_of_ble_eq_true rfl, Nat.le_of_ble_eq_true rfl⟩) X Y hA (fun z13 H locs Y p13 => ?_)
      obtain ⟨l13, u13⟩ := p13
      refine z_if_eq (tgt := 56) X.1 X.2.1 d_Ga_judgeVisit_50 (by decide) ⟨by omega, by omega⟩ (fun h14 => ?_) (fun h14 => ?_)
      · refine lv_iload_n X.1 X.2.1 d_Ga_judgeVisit_56 rfl (lv_at hl 1 rfl) ?_
        refine z_if_eq (tgt := 64) X.1 X.2.1 d_Ga_judgeVisit_57 (by decide) ⟨by omega, by omega⟩ (fun h15 => ?_) (fun h15 => ?_)
        · refine lv_bipush (v := iI 29) X.1 X.2.1 d_Ga_judgeVisit_64 (by decide) ?_
          exact c_reti hQQ X Y hr hlk ⟨κ6, S, 29, rfl, ⟨by omega, by omega, by omega⟩⟩ d_Ga_judgeVisit_66
        · refine lv_iconst (v := iI 0) X.1 X.2.1 d_Ga_judgeVisit_60 (by decide) ?_
          refine lv_goto (tgt := 66) X.1 X.2.1 d_Ga_judgeVisit_61 (by decide) ?_
          exact c_reti hQQ X Y hr hlk ⟨κ6, S, 0, rfl, ⟨by omega, by omega, by omega⟩⟩ d_Ga_judgeVisit_66
      · refine lv_bipush (v := iI 18) X.1 X.2.1 d_Ga_judgeVisit_53 (by decide) ?_
        exact c_reti hQQ X Y hr hlk ⟨κ6, S, 18, rfl, ⟨by omega, by omega, by omega⟩⟩ d_Ga_judgeVisit_55
    refine z_if_lt (tgt := 44) X.1 X.2.1 d_Ga_judgeVisit_25 (by decide) ⟨by omega, by omega⟩ (fun h16 => ?_) (fun h16 => ?_)
    · refine W.widen (k := 1) (n := 32) (Nat.le_of_ble_eq_true rfl) (Nat.le_of_ble_eq_true rfl) ?_
      exact J9 κ L f _ _ _ k1 Y S (lv_sub hl [3, 4] rfl)
    · refine lv_aload_n X.1 X.2.1 d_Ga_judgeVisit_28 rfl (lv_at hl 2 rfl) ?_
      refine t_get0 (ci := 5) X Y S k0 rfl i_Ga 2 (by decide) rfl lk_Ga_20 (fun _ h9 => h9) d_Ga_judgeVisit_29 e2 ?_
      refine lv_iload X.1 X.2.1 d_Ga_judgeVisit_32 (lv_at hl 0 rfl) ?_
      refine t_ar (x_runS (As := [.ref b2, .int (iI z3)]) (rest := []) (n := 2) X hml hl.1 (c_Va_keyAt l D E T κ L f H.size b2 4000 k2 (by omega) z3 (by omega) (by omega) S.1) (ok_k X Y hA KS KR) kl_Ga_Va_keyAt ks_Va_keyAt ki_Va_keyAt ini_Va ⟨rfl, rfl⟩ hd_Va_keyAt.2 ⟨Nat.le_of_ble_eq_true rfl, Nat.le_of_ble_eq_true rfl⟩ rfl (Nat.le_of_ble_eq_true rfl) d_Ga_judgeVisit_34 ⟨Nat.le_of_ble_eq_true rfl, Nat.le_of_ble_eq_true rfl⟩) X Y hA S (by decide) (fun b17 κ17 L17 f17 H locs Y S s17 p17 => ?_)
      obtain ⟨n17, k17⟩ := p17
      have x17 := tKey_n k17
      have k18 : κ17 h = (15, 0) := tLe_k s17.2.2.1 k0
      have k19 : κ17 a1 = (17, 0) := tLe_k s17.2.2.1 k1
      refine t_alen X Y S KS (tKey_src k17) (by omega) d_Ga_judgeVisit_37 ?_
      refine z_if_ne (tgt := 44) X.1 X.2.1 d_Ga_judgeVisit_38 (by decide) ⟨by omega, by omega⟩ (fun h20 => ?_) (fun h20 => ?_)
      · exact J9 κ17 L17 f17 _ _ _ k19 Y S (lv_sub hl [3, 4] rfl)
      · refine lv_bipush (v := iI 14) X.1 X.2.1 d_Ga_judgeVisit_41 (by decide) ?_
        exact c_reti hQQ X Y hr hlk ⟨κ17, S, 14, rfl, ⟨by omega, by omega, by omega⟩⟩ d_Ga_judgeVisit_43
  · refine lv_iload_n X.1 X.2.1 d_Ga_judgeVisit_21 rfl (lv_at hl 1 rfl) ?_
    refine W.widen (k := 1) (n := 32) (Nat.le_of_ble_eq_true rfl) (Nat.le_of_ble_eq_true rfl) ?_
    exact c_reti hQQ X Y hr hlk ⟨κ, S, z1, rfl, ⟨by omega, by omega, by omega⟩⟩ d_Ga_judgeVisit_22
