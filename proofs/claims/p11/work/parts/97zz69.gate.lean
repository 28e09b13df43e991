set_option maxHeartbeats 4000000 in
set_option maxRecDepth 100000 in
theorem c_Ga_startTime (l : Launch) (D : va_G) (E : cE) (T : cT) (κ : tK) (L : List Nat) (f : pF) (sz : Nat) (h : Nat) (k0 : κ h = (15, 0)) (hw : tW E T κ L f) : Met l y_Ga_startTime (k_Ga_startTime :: lw_tg) (kRm 4 130 0 0) (va_Pc [.ref h] (kPre D E T L f sz)) (va_Qi (uPi L f (fun (z : Int) => (-2147483648) ≤ z ∧ z ≤ 2147483647)) (cPost D E (pA L sz)) (pA L sz)) 0 0 (pA L sz) := by
  refine k_enter (own := R_Ga) (by decide) rfl (Nat.le_of_ble_eq_true rfl) (fun p e s m below meth c ls AV QQ H locs hQQ X Y hA hin hr hlk hml hl KS KR => ?_)
  have hl : lv_has ls 2 [(0, .ref h)] := hl
  have S : tS E T (tFr κ L [] []) κ L f κ L f := tS_rf hw
  refine lv_aload_n X.1 X.2.1 d_Ga_startTime_0 rfl (lv_at hl 0 rfl) ?_
  refine t_getr (ci := 5) X Y S k0 rfl i_Ga 1 (by decide) rfl (k1 := 13) (k2 := 4000) rfl rfl lk_Ga_14 (fun _ h9 => h9) d_Ga_startTime_1 (fun b101 e101 k101 => ?_)
  refine lv_iconst (v := iI 0) X.1 X.2.1 d_Ga_startTime_4 (by decide) ?_
  refine lv_bipush (v := iI 6) X.1 X.2.1 d_Ga_startTime_5 (by decide) ?_
  refine t_ui (t_runV (As := [.int (iI 0), .int (iI 6)]) (rest := []) (n := 2) X Y S k101 hml hl.1 (c_By_field l D E T κ L f H.size b101 4000 k101 (by omega) 0 (by omega) (by omega) 6 (by omega) (by omega) S.1) (ok_k X Y hA KS KR) rfl kl_Ga_By_field ks_By_field kx_By_field ki_By_field ini_By ⟨rfl, rfl⟩ hd_By_field ⟨Nat.le_of_ble_eq_true rfl, Nat.le_of_ble_eq_true rfl⟩ rfl (Nat.le_of_ble_eq_true rfl) d_Ga_startTime_7 ⟨Nat.le_of_ble_eq_true rfl, Nat.le_of_ble_eq_true rfl⟩) X Y hA (fun z102 H locs Y p102 => ?_)
  obtain ⟨l102, u102⟩ := p102
  refine lv_istore_n (lv' := [(1, .int (iI z102)), (0, .ref h)]) X.1 X.2.1 d_Ga_startTime_10 rfl hl (by decide) rfl (fun ls hl => ?_)
  refine lv_aload_n X.1 X.2.1 d_Ga_startTime_11 rfl (lv_at hl 1 rfl) ?_
  refine t_get0 (ci := 5) X Y S k0 rfl i_Ga 1 (by decide) rfl lk_Ga_14 (fun _ h9 => h9) d_Ga_startTime_12 e101 ?_
  refine lv_iload_n X.1 X.2.1 d_Ga_startTime_15 rfl (lv_at hl 0 rfl) ?_
  have J104 : ∀ (z103 : Int) (H : Heap) (locs : List Loc) (ls : Array Slot), ((-1) ≤ z103) → (z103 ≤ 12420) → pH D cCl (pA L sz) s.heap L f H locs → tS E T (tFr κ L [] []) κ L f κ L f → lv_has ls 2 [] → W p l e (kRm 4 130 0 0) s m AV below meth c H locs 0 0 QQ (F0 m 32 ls [.int (iI z103), .ref b101]) := by
    intro z103 H locs ls l103 u103 Y S hl
    refine t_ui (t_runV (As := [.int (iI z103)]) (rest := []) (n := 1) X Y S k101 hml hl.1 (c_By_timeAt l D E T κ L f H.size b101 4000 k101 (by omega) z103 (by omega) (by omega) S.1) (ok_k X Y hA KS KR) rfl kl_Ga_By_timeAt ks_By_timeAt kx_By_timeAt ki_By_timeAt ini_By ⟨rfl, rfl⟩ hd_By_timeAt ⟨Nat.le_of_ble_eq_true rfl, Nat.le_of_ble_eq_true rfl⟩ rfl (Nat.le_of_ble_eq_true rfl) d_Ga_startTime_32 ⟨Nat.le_of_ble_eq_true rfl, Nat.le_of_ble_eq_true rfl⟩) X Y hA (fun z108 H locs Y p108 => ?_)
    obtain ⟨l108, u108⟩ := p108
    exact c_reti hQQ X Y hr hlk ⟨rfl, rfl, z108, rfl, ⟨by omega, by omega⟩⟩ d_Ga_startTime_35
  refine z_if_lt (tgt := 23) X.1 X.2.1 d_Ga_startTime_16 (by decide) ⟨by omega, by omega⟩ (fun h109 => ?_) (fun h109 => ?_)
  · refine lv_aload_n X.1 X.2.1 d_Ga_startTime_23 rfl (lv_at hl 1 rfl) ?_
    refine t_get0 (ci := 5) X Y S k0 rfl i_Ga 1 (by decide) rfl lk_Ga_14 (fun _ h9 => h9) d_Ga_startTime_24 e101 ?_
    refine lv_iconst (v := iI 0) X.1 X.2.1 d_Ga_startTime_27 (by decide) ?_
    refine lv_iconst (v := iI 5) X.1 X.2.1 d_Ga_startTime_28 (by decide) ?_
    refine t_ui (t_runV (As := [.int (iI 0), .int (iI 5)]) (rest := [.ref b101]) (n := 2) X Y S k101 hml hl.1 (c_By_field l D E T κ L f H.size b101 4000 k101 (by omega) 0 (by omega) (by omega) 5 (by omega) (by omega) S.1) (ok_k X Y hA KS KR) rfl kl_Ga_By_field ks_By_field kx_By_field ki_By_field ini_By ⟨rfl, rfl⟩ hd_By_field ⟨Nat.le_of_ble_eq_true rfl, Nat.le_of_ble_eq_true rfl⟩ rfl (Nat.le_of_ble_eq_true rfl) d_Ga_startTime_29 ⟨Nat.le_of_ble_eq_true rfl, Nat.le_of_ble_eq_true rfl⟩) X Y hA (fun z110 H locs Y p110 => ?_)
    obtain ⟨l110, u110⟩ := p110
    exact J104 z110 _ _ _ (by omega) (by omega) Y S (lv_sub hl [] rfl)
  · refine lv_iload_n X.1 X.2.1 d_Ga_startTime_19 rfl (lv_at hl 0 rfl) ?_
    refine lv_goto (tgt := 32) X.1 X.2.1 d_Ga_startTime_20 (by decide) ?_
    exact J104 z102 _ _ _ (by omega) (by omega) Y S (lv_sub hl [] rfl)
set_option maxHeartbeats 4000000 in
set_option maxRecDepth 100000 in
theorem c_Ga_judgeTimes (l : Launch) (D : va_G) (E : cE) (T : cT) (κ : tK) (L : List Nat) (f : pF) (sz : Nat) (h : Nat) (k0 : κ h = (15, 0)) (hw : tW E T κ L f) : Met l y_Ga_judgeTimes (k_Ga_judgeTimes :: lw_tg) (kRm 5 151 0 0) (va_Pc [.ref h] (kPre D E T L f sz)) (va_Qi (uPi L f (fun (z : Int) => (-2147483648) ≤ z ∧ z ≤ 2147483647)) (cPost D E (pA L sz)) (pA L sz)) 0 0 (pA L sz) := by
  refine k_enter (own := R_Ga) (by decide) rfl (Nat.le_of_ble_eq_true rfl) (fun p e s m below meth c ls AV QQ H locs hQQ X Y hA hin hr hlk hml hl KS KR => ?_)
  have hl : lv_has ls 1 [(0, .ref h)] := hl
  have S : tS E T (tFr κ L [] []) κ L f κ L f := tS_rf hw
  refine lv_aload_n X.1 X.2.1 d_Ga_judgeTimes_0 rfl (lv_at hl 0 rfl) ?_
  refine t_ui (t_runV (As := []) (rest := []) (n := 0) X Y S k0 hml hl.1 (c_Ga_startTime l D E T κ L f H.size h k0 S.1) (ok_k X Y hA KS KR) rfl kl_Ga_Ga_startTime ks_Ga_startTime kx_Ga_startTime ki_Ga_startTime ini_Ga ⟨rfl, rfl⟩ hd_Ga_startTime ⟨Nat.le_of_ble_eq_true rfl, Nat.le_of_ble_eq_true rfl⟩ rfl (Nat.le_of_ble_eq_true rfl) d_Ga_judgeTimes_1 ⟨Nat.le_of_ble_eq_true rfl, Nat.le_of_ble_eq_true rfl⟩) X Y hA (fun z101 H locs Y p101 => ?_)
  obtain ⟨l101, u101⟩ := p101
  refine lv_aload_n X.1 X.2.1 d_Ga_judgeTimes_4 rfl (lv_at hl 0 rfl) ?_
  refine t_getr (ci := 5) X Y S k0 rfl i_Ga 0 (by decide) rfl (k1 := 21) (k2 := 0) rfl rfl lk_Ga_34 (fun _ h9 => h9) d_Ga_judgeTimes_5 (fun b102 e102 k102 => ?_)
  refine t_geti (ci := 11) X Y S k102 rfl i_Va 0 (by decide) rfl lk_Ga_125 (fun _ h9 => h9) d_Ga_judgeTimes_8 (fun z103 e103 l103 u103 => ?_)
  refine lv_isub X.1 X.2.1 d_Ga_judgeTimes_11 ?_
  refine t_u (fun z104 l104 u104 => ?_)
  refine lv_sipush (v := iI 300) X.1 X.2.1 d_Ga_judgeTimes_12 (by decide) ?_
  refine z_icmp_le (tgt := 21) X.1 X.2.1 d_Ga_judgeTimes_15 (by decide) ⟨by omega, by omega⟩ ⟨by omega, by omega⟩ (fun h105 => ?_) (fun h105 => ?_)
  · refine lv_aload_n X.1 X.2.1 d_Ga_judgeTimes_21 rfl (lv_at hl 0 rfl) ?_
    refine t_getr (ci := 5) X Y S k0 rfl i_Ga 1 (by decide) rfl (k1 := 13) (k2 := 4000) rfl rfl lk_Ga_14 (fun _ h9 => h9) d_Ga_judgeTimes_22 (fun b106 e106 k106 => ?_)
    refine lv_aload_n X.1 X.2.1 d_Ga_judgeTimes_25 rfl (lv_at hl 0 rfl) ?_
    refine t_get0 (ci := 5) X Y S k0 rfl i_Ga 1 (by decide) rfl lk_Ga_14 (fun _ h9 => h9) d_Ga_judgeTimes_26 e106 ?_
    refine lv_iconst (v := iI 0) X.1 X.2.1 d_Ga_judgeTimes_29 (by decide) ?_
    refine lv_bipush (v := iI 7) X.1 X.2.1 d_Ga_judgeTimes_30 (by decide) ?_
    refine t_ui (t_runV (As := [.int (iI 0), .int (iI 7)]) (rest := [.ref b106]) (n := 2) X Y S k106 hml hl.1 (c_By_field l D E T κ L f H.size b106 4000 k106 (by omega) 0 (by omega) (by omega) 7 (by omega) (by omega) S.1) (ok_k X Y hA KS KR) rfl kl_Ga_By_field ks_By_field kx_By_field ki_By_field ini_By ⟨rfl, rfl⟩ hd_By_field ⟨Nat.le_of_ble_eq_true rfl, Nat.le_of_ble_eq_true rfl⟩ rfl (Nat.le_of_ble_eq_true rfl) d_Ga_judgeTimes_32 ⟨Nat.le_of_ble_eq_true rfl, Nat.le_of_ble_eq_true rfl⟩) X Y hA (fun z107 H locs Y p107 => ?_)
    obtain ⟨l107, u107⟩ := p107
    refine t_ui (t_runV (As := [.int (iI z107)]) (rest := []) (n := 1) X Y S k106 hml hl.1 (c_By_timeAt l D E T κ L f H.size b106 4000 k106 (by omega) z107 (by omega) (by omega) S.1) (ok_k X Y hA KS KR) rfl kl_Ga_By_timeAt ks_By_timeAt kx_By_timeAt ki_By_timeAt ini_By ⟨rfl, rfl⟩ hd_By_timeAt ⟨Nat.le_of_ble_eq_true rfl, Nat.le_of_ble_eq_true rfl⟩ rfl (Nat.le_of_ble_eq_true rfl) d_Ga_judgeTimes_35 ⟨Nat.le_of_ble_eq_true rfl, Nat.le_of_ble_eq_true rfl⟩) X Y hA (fun z108 H locs Y p108 => ?_)
    obtain ⟨l108, u108⟩ := p108
    refine lv_aload_n X.1 X.2.1 d_Ga_judgeTimes_38 rfl (lv_at hl 0 rfl) ?_
    refine t_get0 (ci := 5) X Y S k0 rfl i_Ga 0 (by decide) rfl lk_Ga_34 (fun _ h9 => h9) d_Ga_judgeTimes_39 e102 ?_
    refine t_get0 (ci := 11) X Y S k102 rfl i_Va 0 (by decide) rfl lk_Ga_125 (fun _ h9 => h9) d_Ga_judgeTimes_42 e103 ?_
    refine z_icmp_gt (tgt := 53) X.1 X.2.1 d_Ga_judgeTimes_45 (by decide) ⟨by omega, by omega⟩ ⟨by omega, by omega⟩ (fun h109 => ?_) (fun h109 => ?_)
    · refine lv_iconst (v := iI 0) X.1 X.2.1 d_Ga_judgeTimes_53 (by decide) ?_
      exact c_reti hQQ X Y hr hlk ⟨rfl, rfl, 0, rfl, ⟨by omega, by omega⟩⟩ d_Ga_judgeTimes_54
    · refine lv_bipush (v := iI 32) X.1 X.2.1 d_Ga_judgeTimes_48 (by decide) ?_
      refine lv_goto (tgt := 54) X.1 X.2.1 d_Ga_judgeTimes_50 (by decide) ?_
      exact c_reti hQQ X Y hr hlk ⟨rfl, rfl, 32, rfl, ⟨by omega, by omega⟩⟩ d_Ga_judgeTimes_54
  · refine lv_bipush (v := iI 33) X.1 X.2.1 d_Ga_judgeTimes_18 (by decide) ?_
    exact c_reti hQQ X Y hr hlk ⟨rfl, rfl, 33, rfl, ⟨by omega, by omega⟩⟩ d_Ga_judgeTimes_20
set_option maxHeartbeats 4000000 in
set_option maxRecDepth 100000 in
theorem c_Ga_keep (l : Launch) (D : va_G) (E : cE) (T : cT) (κ : tK) (L : List Nat) (f : pF) (sz : Nat) (h : Nat) (k0 : κ h = (15, 0)) (a1 : Nat) (k1 : κ a1 = (18, 0)) (hw : tW E T κ L f) : Met l y_Ga_keep (k_Ga_keep :: lw_tg) (kRm 4 132 0 0) (va_Pc [.ref h, .ref a1] (kPre D E T L f sz)) (va_Qi (nPi E T [1, 2, 3, 4, 18] κ L f (fun (z : Int) (g : pF) => (-2147483648) ≤ z ∧ z ≤ 2147483647)) (cPost D E (pA L sz)) (pA L sz)) 0 0 (pA L sz) := by
  refine k_enter (own := R_Ga) (by decide) rfl (Nat.le_of_ble_eq_true rfl) (fun p e s m below meth c ls AV QQ H locs hQQ X Y hA hin hr hlk hml hl KS KR => ?_)
  have hl : lv_has ls 7 [(0, .ref h), (1, .ref a1)] := hl
  have S : tS E T (tFr κ L [1, 2, 3, 4, 18] []) κ L f κ L f := tS_rf hw
  refine lv_aload_n X.1 X.2.1 d_Ga_keep_0 rfl (lv_at hl 0 rfl) ?_
  refine t_getr (ci := 5) X Y S k0 rfl i_Ga 2 (by decide) rfl (k1 := 13) (k2 := 4000) rfl rfl lk_Ga_20 (fun _ h9 => h9) d_Ga_keep_1 (fun b101 e101 k101 => ?_)
  refine lv_aload_n X.1 X.2.1 d_Ga_keep_4 rfl (lv_at hl 0 rfl) ?_
  refine t_get0 (ci := 5) X Y S k0 rfl i_Ga 2 (by decide) rfl lk_Ga_20 (fun _ h9 => h9) d_Ga_keep_5 e101 ?_
  refine lv_iconst (v := iI 0) X.1 X.2.1 d_Ga_keep_8 (by decide) ?_
  refine lv_iconst (v := iI 2) X.1 X.2.1 d_Ga_keep_9 (by decide) ?_
  refine t_ui (t_runV (As := [.int (iI 0), .int (iI 2)]) (rest := [.ref b101]) (n := 2) X Y S k101 hml hl.1 (c_By_field l D E T κ L f H.size b101 4000 k101 (by omega) 0 (by omega) (by omega) 2 (by omega) (by omega) S.1) (ok_k X Y hA KS KR) rfl kl_Ga_By_field ks_By_field kx_By_field ki_By_field ini_By ⟨rfl, rfl⟩ hd_By_field ⟨Nat.le_of_ble_eq_true rfl, Nat.le_of_ble_eq_true rfl⟩ rfl (Nat.le_of_ble_eq_true rfl) d_Ga_keep_10 ⟨Nat.le_of_ble_eq_true rfl, Nat.le_of_ble_eq_true rfl⟩) X Y hA (fun z102 H locs Y p102 => ?_)
  obtain ⟨l102, u102⟩ := p102
  refine lv_iconst (v := iI 1) X.1 X.2.1 d_Ga_keep_13 (by decide) ?_
  refine t_ui (t_runV (As := [.int (iI z102), .int (iI 1)]) (rest := []) (n := 2) X Y S k101 hml hl.1 (c_By_field l D E T κ L f H.size b101 4000 k101 (by omega) z102 (by omega) (by omega) 1 (by omega) (by omega) S.1) (ok_k X Y hA KS KR) rfl kl_Ga_By_field ks_By_field kx_By_field ki_By_field ini_By ⟨rfl, rfl⟩ hd_By_field ⟨Nat.le_of_ble_eq_true rfl, Nat.le_of_ble_eq_true rfl⟩ rfl (Nat.le_of_ble_eq_true rfl) d_Ga_keep_14 ⟨Nat.le_of_ble_eq_true rfl, Nat.le_of_ble_eq_true rfl⟩) X Y hA (fun z103 H locs Y p103 => ?_)
  obtain ⟨l103, u103⟩ := p103
  refine lv_istore_n (lv' := [(2, .int (iI z103)), (0, .ref h), (1, .ref a1)]) X.1 X.2.1 d_Ga_keep_17 rfl hl (by decide) rfl (fun ls hl => ?_)
  refine lv_aload_n X.1 X.2.1 d_Ga_keep_18 rfl (lv_at hl 1 rfl) ?_
  refine t_get0 (ci := 5) X Y S k0 rfl i_Ga 2 (by decide) rfl lk_Ga_20 (fun _ h9 => h9) d_Ga_keep_19 e101 ?_
  refine lv_iload_n X.1 X.2.1 d_Ga_keep_22 rfl (lv_at hl 0 rfl) ?_
  obtain ⟨z104, e104, l104, u104⟩ := t_size S k101
  refine t_ui (t_runV (As := [.int (iI z103)]) (rest := []) (n := 1) X Y S k101 hml hl.1 (c_By_body l D E T κ L f H.size b101 4000 k101 (by omega) z103 (by omega) (by omega) S.1 z104 e104 (by omega) (by omega)) (ok_k X Y hA KS KR) rfl kl_Ga_By_body ks_By_body kx_By_body ki_By_body ini_By ⟨rfl, rfl⟩ hd_By_body ⟨Nat.le_of_ble_eq_true rfl, Nat.le_of_ble_eq_true rfl⟩ rfl (Nat.le_of_ble_eq_true rfl) d_Ga_keep_23 ⟨Nat.le_of_ble_eq_true rfl, Nat.le_of_ble_eq_true rfl⟩) X Y hA (fun z105 H locs Y p105 => ?_)
  obtain ⟨l105, u105, x105⟩ := p105
  refine lv_istore_n (lv' := [(3, .int (iI z105)), (2, .int (iI z103)), (0, .ref h), (1, .ref a1)]) X.1 X.2.1 d_Ga_keep_26 rfl hl (by decide) rfl (fun ls hl => ?_)
  refine lv_aload_n X.1 X.2.1 d_Ga_keep_27 rfl (lv_at hl 2 rfl) ?_
  refine t_get0 (ci := 5) X Y S k0 rfl i_Ga 2 (by decide) rfl lk_Ga_20 (fun _ h9 => h9) d_Ga_keep_28 e101 ?_
  refine lv_iload_n X.1 X.2.1 d_Ga_keep_31 rfl (lv_at hl 1 rfl) ?_
  refine lv_aload_n X.1 X.2.1 d_Ga_keep_32 rfl (lv_at hl 2 rfl) ?_
  refine t_get0 (ci := 5) X Y S k0 rfl i_Ga 2 (by decide) rfl lk_Ga_20 (fun _ h9 => h9) d_Ga_keep_33 e101 ?_
  refine t_get0 (ci := 3) X Y S k101 rfl i_By 1 (by decide) rfl lk_Ga_108 (fun _ h9 => h9) d_Ga_keep_36 e104 ?_
  refine t_ui (t_runV (As := [.int (iI z103), .int (iI z104)]) (rest := []) (n := 2) X Y S k101 hml hl.1 (c_By_stop l D E T κ L f H.size b101 4000 k101 (by omega) z103 (by omega) (by omega) z104 (by omega) (by omega) S.1 z104 e104 (by omega) (by omega)) (ok_k X Y hA KS KR) rfl kl_Ga_By_stop ks_By_stop kx_By_stop ki_By_stop ini_By ⟨rfl, rfl⟩ hd_By_stop ⟨Nat.le_of_ble_eq_true rfl, Nat.le_of_ble_eq_true rfl⟩ rfl (Nat.le_of_ble_eq_true rfl) d_Ga_keep_39 ⟨Nat.le_of_ble_eq_true rfl, Nat.le_of_ble_eq_true rfl⟩) X Y hA (fun z106 H locs Y p106 => ?_)
  obtain ⟨l106, u106, x106⟩ := p106
  refine lv_istore (lv' := [(4, .int (iI z106)), (3, .int (iI z105)), (2, .int (iI z103)), (0, .ref h), (1, .ref a1)]) X.1 X.2.1 d_Ga_keep_42 hl (by decide) rfl (fun ls hl => ?_)
  refine lv_aload_n X.1 X.2.1 d_Ga_keep_44 rfl (lv_at hl 3 rfl) ?_
  refine t_get0 (ci := 5) X Y S k0 rfl i_Ga 2 (by decide) rfl lk_Ga_20 (fun _ h9 => h9) d_Ga_keep_45 e101 ?_
  refine lv_aload_n X.1 X.2.1 d_Ga_keep_48 rfl (lv_at hl 3 rfl) ?_
  refine t_get0 (ci := 5) X Y S k0 rfl i_Ga 2 (by decide) rfl lk_Ga_20 (fun _ h9 => h9) d_Ga_keep_49 e101 ?_
  refine lv_iconst (v := iI 0) X.1 X.2.1 d_Ga_keep_52 (by decide) ?_
  refine lv_iconst (v := iI 5) X.1 X.2.1 d_Ga_keep_53 (by decide) ?_
  refine t_ui (t_runV (As := [.int (iI 0), .int (iI 5)]) (rest := [.ref b101]) (n := 2) X Y S k101 hml hl.1 (c_By_field l D E T κ L f H.size b101 4000 k101 (by omega) 0 (by omega) (by omega) 5 (by omega) (by omega) S.1) (ok_k X Y hA KS KR) rfl kl_Ga_By_field ks_By_field kx_By_field ki_By_field ini_By ⟨rfl, rfl⟩ hd_By_field ⟨Nat.le_of_ble_eq_true rfl, Nat.le_of_ble_eq_true rfl⟩ rfl (Nat.le_of_ble_eq_true rfl) d_Ga_keep_54 ⟨Nat.le_of_ble_eq_true rfl, Nat.le_of_ble_eq_true rfl⟩) X Y hA (fun z107 H locs Y p107 => ?_)
  obtain ⟨l107, u107⟩ := p107
  refine t_ui (t_runV (As := [.int (iI z107)]) (rest := []) (n := 1) X Y S k101 hml hl.1 (c_By_timeAt l D E T κ L f H.size b101 4000 k101 (by omega) z107 (by omega) (by omega) S.1) (ok_k X Y hA KS KR) rfl kl_Ga_By_timeAt ks_By_timeAt kx_By_timeAt ki_By_timeAt ini_By ⟨rfl, rfl⟩ hd_By_timeAt ⟨Nat.le_of_ble_eq_true rfl, Nat.le_of_ble_eq_true rfl⟩ rfl (Nat.le_of_ble_eq_true rfl) d_Ga_keep_57 ⟨Nat.le_of_ble_eq_true rfl, Nat.le_of_ble_eq_true rfl⟩) X Y hA (fun z108 H locs Y p108 => ?_)
  obtain ⟨l108, u108⟩ := p108
  refine lv_istore (lv' := [(5, .int (iI z108)), (4, .int (iI z106)), (3, .int (iI z105)), (2, .int (iI z103)), (0, .ref h), (1, .ref a1)]) X.1 X.2.1 d_Ga_keep_60 hl (by decide) rfl (fun ls hl => ?_)
  refine lv_aload_n X.1 X.2.1 d_Ga_keep_62 rfl (lv_at hl 4 rfl) ?_
  refine t_get0 (ci := 5) X Y S k0 rfl i_Ga 2 (by decide) rfl lk_Ga_20 (fun _ h9 => h9) d_Ga_keep_63 e101 ?_
  refine lv_aload_n X.1 X.2.1 d_Ga_keep_66 rfl (lv_at hl 4 rfl) ?_
  refine t_get0 (ci := 5) X Y S k0 rfl i_Ga 2 (by decide) rfl lk_Ga_20 (fun _ h9 => h9) d_Ga_keep_67 e101 ?_
  refine lv_iconst (v := iI 0) X.1 X.2.1 d_Ga_keep_70 (by decide) ?_
  refine lv_iconst (v := iI 4) X.1 X.2.1 d_Ga_keep_71 (by decide) ?_
  refine t_ui (t_runV (As := [.int (iI 0), .int (iI 4)]) (rest := [.ref b101]) (n := 2) X Y S k101 hml hl.1 (c_By_field l D E T κ L f H.size b101 4000 k101 (by omega) 0 (by omega) (by omega) 4 (by omega) (by omega) S.1) (ok_k X Y hA KS KR) rfl kl_Ga_By_field ks_By_field kx_By_field ki_By_field ini_By ⟨rfl, rfl⟩ hd_By_field ⟨Nat.le_of_ble_eq_true rfl, Nat.le_of_ble_eq_true rfl⟩ rfl (Nat.le_of_ble_eq_true rfl) d_Ga_keep_72 ⟨Nat.le_of_ble_eq_true rfl, Nat.le_of_ble_eq_true rfl⟩) X Y hA (fun z109 H locs Y p109 => ?_)
  obtain ⟨l109, u109⟩ := p109
  refine t_ul (t_runV (As := [.int (iI z109)]) (rest := []) (n := 1) X Y S k101 hml hl.1 (c_By_numberAt l D E T κ L f H.size b101 4000 k101 (by omega) z109 (by omega) (by omega) S.1) (ok_k X Y hA KS KR) rfl kl_Ga_By_numberAt ks_By_numberAt kx_By_numberAt ki_By_numberAt ini_By ⟨rfl, rfl⟩ hd_By_numberAt ⟨Nat.le_of_ble_eq_true rfl, Nat.le_of_ble_eq_true rfl⟩ rfl (Nat.le_of_ble_eq_true rfl) d_Ga_keep_75 ⟨Nat.le_of_ble_eq_true rfl, Nat.le_of_ble_eq_true rfl⟩) X Y hA (fun v110 H locs Y p110 => ?_)
  refine lv_l2i X.1 X.2.1 d_Ga_keep_78 rfl ?_
  refine t_u (fun z111 l111 u111 => ?_)
  refine lv_istore (lv' := [(6, .int (iI z111)), (5, .int (iI z108)), (4, .int (iI z106)), (3, .int (iI z105)), (2, .int (iI z103)), (0, .ref h), (1, .ref a1)]) X.1 X.2.1 d_Ga_keep_79 hl (by decide) rfl (fun ls hl => ?_)
  refine lv_aload_n X.1 X.2.1 d_Ga_keep_81 rfl (lv_at hl 6 rfl) ?_
  refine lv_aload_n X.1 X.2.1 d_Ga_keep_82 rfl (lv_at hl 5 rfl) ?_
  refine t_getr (ci := 5) X Y S k0 rfl i_Ga 0 (by decide) rfl (k1 := 21) (k2 := 0) rfl rfl lk_Ga_34 (fun _ h9 => h9) d_Ga_keep_83 (fun b112 e112 k112 => ?_)
  refine t_geti (ci := 11) X Y S k112 rfl i_Va 0 (by decide) rfl lk_Ga_125 (fun _ h9 => h9) d_Ga_keep_86 (fun z113 e113 l113 u113 => ?_)
  refine t_nv (t_runV (As := [.int (iI z113)]) (rest := []) (n := 1) X Y S k1 hml hl.1 (c_Se_forget l D E T κ L f H.size a1 k1 z113 (by omega) (by omega) S.1) (ok_k X Y hA KS KR) rfl kl_Ga_Se_forget ks_Se_forget kx_Se_forget ki_Se_forget ini_Se ⟨rfl, rfl⟩ hd_Se_forget ⟨Nat.le_of_ble_eq_true rfl, Nat.le_of_ble_eq_true rfl⟩ rfl (Nat.le_of_ble_eq_true rfl) d_Ga_keep_89 ⟨Nat.le_of_ble_eq_true rfl, Nat.le_of_ble_eq_true rfl⟩) X Y hA S (by decide) (fun f114 H locs Y S s114 p114 => ?_)
  refine lv_aload_n X.1 X.2.1 d_Ga_keep_92 rfl (lv_at hl 6 rfl) ?_
  refine lv_aload_n X.1 X.2.1 d_Ga_keep_93 rfl (lv_at hl 5 rfl) ?_
  refine t_get0 (ci := 5) X Y S k0 rfl i_Ga 2 (by decide) rfl lk_Ga_20 (fun _ h9 => h9) d_Ga_keep_94 ((gF_same (s114.2.2.2 _ ⟨(t_obj S.1 k0).1, nM_of k0 (by decide), by simp⟩).1 2).trans e101) ?_
  refine lv_iload_n X.1 X.2.1 d_Ga_keep_97 rfl (lv_at hl 3 rfl) ?_
  refine lv_iload X.1 X.2.1 d_Ga_keep_98 (lv_at hl 2 rfl) ?_
  refine lv_iload X.1 X.2.1 d_Ga_keep_100 (lv_at hl 1 rfl) ?_
  refine lv_iload X.1 X.2.1 d_Ga_keep_102 (lv_at hl 0 rfl) ?_
  refine t_ui (t_runV (As := [.ref b101, .int (iI z105), .int (iI z106), .int (iI z108), .int (iI z111)]) (rest := []) (n := 5) X Y S k1 hml hl.1 (c_Se_has l D E T κ L f114 H.size a1 k1 b101 4000 k101 (by omega) z105 (by omega) (by omega) z106 (by omega) (by omega) z108 (by omega) (by omega) z111 (by omega) (by omega) S.1) (ok_k X Y hA KS KR) rfl kl_Ga_Se_has ks_Se_has kx_Se_has ki_Se_has ini_Se ⟨rfl, rfl⟩ hd_Se_has ⟨Nat.le_of_ble_eq_true rfl, Nat.le_of_ble_eq_true rfl⟩ rfl (Nat.le_of_ble_eq_true rfl) d_Ga_keep_104 ⟨Nat.le_of_ble_eq_true rfl, Nat.le_of_ble_eq_true rfl⟩) X Y hA (fun z115 H locs Y p115 => ?_)
  obtain ⟨l115, u115⟩ := p115
  refine z_if_eq (tgt := 113) X.1 X.2.1 d_Ga_keep_107 (by decide) ⟨by omega, by omega⟩ (fun h116 => ?_) (fun h116 => ?_)
  · refine lv_aload_n X.1 X.2.1 d_Ga_keep_113 rfl (lv_at hl 6 rfl) ?_
    refine lv_aload_n X.1 X.2.1 d_Ga_keep_114 rfl (lv_at hl 5 rfl) ?_
    refine t_get0 (ci := 5) X Y S k0 rfl i_Ga 2 (by decide) rfl lk_Ga_20 (fun _ h9 => h9) d_Ga_keep_115 ((gF_same (s114.2.2.2 _ ⟨(t_obj S.1 k0).1, nM_of k0 (by decide), by simp⟩).1 2).trans e101) ?_
    refine lv_iload_n X.1 X.2.1 d_Ga_keep_118 rfl (lv_at hl 3 rfl) ?_
    refine lv_iload X.1 X.2.1 d_Ga_keep_119 (lv_at hl 2 rfl) ?_
    refine lv_iload X.1 X.2.1 d_Ga_keep_121 (lv_at hl 1 rfl) ?_
    refine lv_iload X.1 X.2.1 d_Ga_keep_123 (lv_at hl 0 rfl) ?_
    refine lv_aload_n X.1 X.2.1 d_Ga_keep_125 rfl (lv_at hl 5 rfl) ?_
    refine t_geti (ci := 5) X Y S k0 rfl i_Ga 4 (by decide) rfl lk_Ga_30 (fun _ h9 => h9) d_Ga_keep_126 (fun z117 e117 l117 u117 => ?_)
    refine t_ni (t_runV (As := [.ref b101, .int (iI z105), .int (iI z106), .int (iI z108), .int (iI z111), .int (iI z117)]) (rest := []) (n := 6) X Y S k1 hml hl.1 (c_Se_keep l D E T κ L f114 H.size a1 k1 b101 4000 k101 (by omega) z105 (by omega) (by omega) z106 (by omega) (by omega) z108 (by omega) (by omega) z111 (by omega) (by omega) z117 (by omega) (by omega) S.1) (ok_k X Y hA KS KR) rfl kl_Ga_Se_keep ks_Se_keep kx_Se_keep ki_Se_keep ini_Se ⟨rfl, rfl⟩ hd_Se_keep ⟨Nat.le_of_ble_eq_true rfl, Nat.le_of_ble_eq_true rfl⟩ rfl (Nat.le_of_ble_eq_true rfl) d_Ga_keep_129 ⟨Nat.le_of_ble_eq_true rfl, Nat.le_of_ble_eq_true rfl⟩) X Y hA S (by decide) (fun z118 f118 H locs Y S s118 p118 => ?_)
    obtain ⟨l118, u118⟩ := p118
    refine z_if_eq (tgt := 139) X.1 X.2.1 d_Ga_keep_132 (by decide) ⟨by omega, by omega⟩ (fun h119 => ?_) (fun h119 => ?_)
    · refine lv_bipush (v := iI 29) X.1 X.2.1 d_Ga_keep_139 (by decide) ?_
      exact c_reti hQQ X Y hr hlk ⟨rfl, S, 29, rfl, ⟨by omega, by omega⟩⟩ d_Ga_keep_141
    · refine lv_iconst (v := iI 0) X.1 X.2.1 d_Ga_keep_135 (by decide) ?_
      refine lv_goto (tgt := 141) X.1 X.2.1 d_Ga_keep_136 (by decide) ?_
      exact c_reti hQQ X Y hr hlk ⟨rfl, S, 0, rfl, ⟨by omega, by omega⟩⟩ d_Ga_keep_141
  · refine lv_bipush (v := iI 34) X.1 X.2.1 d_Ga_keep_110 (by decide) ?_
    exact c_reti hQQ X Y hr hlk ⟨rfl, S, 34, rfl, ⟨by omega, by omega⟩⟩ d_Ga_keep_112
set_option maxHeartbeats 4000000 in
set_option maxRecDepth 100000 in
theorem c_Ga_openTicket (l : Launch) (D : va_G) (E : cE) (T : cT) (κ : tK) (L : List Nat) (f : pF) (sz : Nat) (h : Nat) (k0 : κ h = (15, 0)) (a1 n1 : Nat) (k1 : κ a1 = (13, n1)) (x1 : n1 ≤ 12288) (a2 : Int) (l_a2 : (-1) ≤ a2) (u_a2 : a2 ≤ 20200) (a3 : Nat) (k3 : κ a3 = (17, 0)) (hw : tW E T κ L f) : Met l y_Ga_openTicket (k_Ga_openTicket :: lw_tg) (kRm 71 2363 1 32) (va_Pc [.ref h, .ref a1, .int (iI a2), .ref a3] (kPre D E T L f sz)) (va_Qi (aPi E T [1, 2, 3, 4, 11, 13, 15, 16] [] κ L f (fun (z : Int) (k : tK) (g : pF) => (-2147483648) ≤ z ∧ z ≤ 2147483647)) (cPost D E (pA L sz)) (pA L sz)) 1 32 (pA L sz) := by
  refine k_enter (own := R_Ga) (by decide) rfl (Nat.le_of_ble_eq_true rfl) (fun p e s m below meth c ls AV QQ H locs hQQ X Y hA hin hr hlk hml hl KS KR => ?_)
  have hl : lv_has ls 10 [(0, .ref h), (1, .ref a1), (2, .int (iI a2)), (3, .ref a3)] := hl
  have S : tS E T (tFr κ L [1, 2, 3, 4, 11, 13, 15, 16] []) κ L f κ L f := tS_rf hw
  have hF0 : ∀ b, tFr κ L [1, 2, 3, 4, 11, 13, 15, 16] [] b → b ∈ L := fun b h9 => h9.1
  refine lv_aload_n X.1 X.2.1 d_Ga_openTicket_0 rfl (lv_at hl 1 rfl) ?_
  refine lv_aload_n X.1 X.2.1 d_Ga_openTicket_1 rfl (lv_at hl 1 rfl) ?_
  refine lv_iload_n X.1 X.2.1 d_Ga_openTicket_2 rfl (lv_at hl 2 rfl) ?_
  refine lv_iconst (v := iI 0) X.1 X.2.1 d_Ga_openTicket_3 (by decide) ?_
  refine t_ui (t_runV (As := [.int (iI a2), .int (iI 0)]) (rest := [.ref a1]) (n := 2) X Y S k1 hml hl.1 (c_By_field l D E T κ L f H.size a1 n1 k1 (by omega) a2 (by omega) (by omega) 0 (by omega) (by omega) S.1) (ok_k X Y hA KS KR) rfl kl_Ga_By_field ks_By_field kx_By_field ki_By_field ini_By ⟨rfl, rfl⟩ hd_By_field ⟨Nat.le_of_ble_eq_true rfl, Nat.le_of_ble_eq_true rfl⟩ rfl (Nat.le_of_ble_eq_true rfl) d_Ga_openTicket_4 ⟨Nat.le_of_ble_eq_true rfl, Nat.le_of_ble_eq_true rfl⟩) X Y hA (fun z101 H locs Y p101 => ?_)
  obtain ⟨l101, u101⟩ := p101
  refine t_ul (t_runV (As := [.int (iI z101)]) (rest := []) (n := 1) X Y S k1 hml hl.1 (c_By_numberAt l D E T κ L f H.size a1 n1 k1 (by omega) z101 (by omega) (by omega) S.1) (ok_k X Y hA KS KR) rfl kl_Ga_By_numberAt ks_By_numberAt kx_By_numberAt ki_By_numberAt ini_By ⟨rfl, rfl⟩ hd_By_numberAt ⟨Nat.le_of_ble_eq_true rfl, Nat.le_of_ble_eq_true rfl⟩ rfl (Nat.le_of_ble_eq_true rfl) d_Ga_openTicket_7 ⟨Nat.le_of_ble_eq_true rfl, Nat.le_of_ble_eq_true rfl⟩) X Y hA (fun v102 H locs Y p102 => ?_)
  refine lv_ldc2 (v := (5)) X.1 X.2.1 X.2.2.2.1 (X.2.2.1 _ cl_Ga_50) d_Ga_openTicket_10 ?_
  refine W.lcmp X.1 X.2.1 d_Ga_openTicket_13 ?_
  refine t_u (fun z103 l103 u103 => ?_)
  refine z_if_eq (tgt := 20) X.1 X.2.1 d_Ga_openTicket_14 (by decide) ⟨by omega, by omega⟩ (fun h104 => ?_) (fun h104 => ?_)
  · refine lv_aload_n X.1 X.2.1 d_Ga_openTicket_20 rfl (lv_at hl 1 rfl) ?_
    refine lv_aload_n X.1 X.2.1 d_Ga_openTicket_21 rfl (lv_at hl 1 rfl) ?_
    refine lv_iload_n X.1 X.2.1 d_Ga_openTicket_22 rfl (lv_at hl 2 rfl) ?_
    refine lv_iconst (v := iI 1) X.1 X.2.1 d_Ga_openTicket_23 (by decide) ?_
    refine t_ui (t_runV (As := [.int (iI a2), .int (iI 1)]) (rest := [.ref a1]) (n := 2) X Y S k1 hml hl.1 (c_By_field l D E T κ L f H.size a1 n1 k1 (by omega) a2 (by omega) (by omega) 1 (by omega) (by omega) S.1) (ok_k X Y hA KS KR) rfl kl_Ga_By_field ks_By_field kx_By_field ki_By_field ini_By ⟨rfl, rfl⟩ hd_By_field ⟨Nat.le_of_ble_eq_true rfl, Nat.le_of_ble_eq_true rfl⟩ rfl (Nat.le_of_ble_eq_true rfl) d_Ga_openTicket_24 ⟨Nat.le_of_ble_eq_true rfl, Nat.le_of_ble_eq_true rfl⟩) X Y hA (fun z105 H locs Y p105 => ?_)
    obtain ⟨l105, u105⟩ := p105
    refine t_ui (t_runV (As := [.int (iI z105)]) (rest := []) (n := 1) X Y S k1 hml hl.1 (c_By_isRealm l D E T κ L f H.size a1 n1 k1 (by omega) z105 (by omega) (by omega) S.1) (ok_k X Y hA KS KR) rfl kl_Ga_By_isRealm ks_By_isRealm kx_By_isRealm ki_By_isRealm ini_By ⟨rfl, rfl⟩ hd_By_isRealm ⟨Nat.le_of_ble_eq_true rfl, Nat.le_of_ble_eq_true rfl⟩ rfl (Nat.le_of_ble_eq_true rfl) d_Ga_openTicket_27 ⟨Nat.le_of_ble_eq_true rfl, Nat.le_of_ble_eq_true rfl⟩) X Y hA (fun z106 H locs Y p106 => ?_)
    obtain ⟨l106, u106⟩ := p106
    refine z_if_eq (tgt := 50) X.1 X.2.1 d_Ga_openTicket_30 (by decide) ⟨by omega, by omega⟩ (fun h107 => ?_) (fun h107 => ?_)
    · refine lv_bipush (v := iI 35) X.1 X.2.1 d_Ga_openTicket_50 (by decide) ?_
      refine W.widen (k := 1) (n := 32) (Nat.le_of_ble_eq_true rfl) (Nat.le_of_ble_eq_true rfl) ?_
      exact c_reti hQQ X Y hr hlk ⟨κ, S, 35, rfl, ⟨by omega, by omega⟩⟩ d_Ga_openTicket_52
    · refine lv_aload_n X.1 X.2.1 d_Ga_openTicket_33 rfl (lv_at hl 1 rfl) ?_
      refine lv_aload_n X.1 X.2.1 d_Ga_openTicket_34 rfl (lv_at hl 1 rfl) ?_
      refine lv_iload_n X.1 X.2.1 d_Ga_openTicket_35 rfl (lv_at hl 2 rfl) ?_
      refine lv_iconst (v := iI 2) X.1 X.2.1 d_Ga_openTicket_36 (by decide) ?_
      refine t_ui (t_runV (As := [.int (iI a2), .int (iI 2)]) (rest := [.ref a1]) (n := 2) X Y S k1 hml hl.1 (c_By_field l D E T κ L f H.size a1 n1 k1 (by omega) a2 (by omega) (by omega) 2 (by omega) (by omega) S.1) (ok_k X Y hA KS KR) rfl kl_Ga_By_field ks_By_field kx_By_field ki_By_field ini_By ⟨rfl, rfl⟩ hd_By_field ⟨Nat.le_of_ble_eq_true rfl, Nat.le_of_ble_eq_true rfl⟩ rfl (Nat.le_of_ble_eq_true rfl) d_Ga_openTicket_37 ⟨Nat.le_of_ble_eq_true rfl, Nat.le_of_ble_eq_true rfl⟩) X Y hA (fun z108 H locs Y p108 => ?_)
      obtain ⟨l108, u108⟩ := p108
      refine lv_aload_n X.1 X.2.1 d_Ga_openTicket_40 rfl (lv_at hl 3 rfl) ?_
      refine t_getr (ci := 7) X Y S k3 rfl i_Pr 0 (by decide) rfl (k1 := 13) (k2 := 40) rfl rfl lk_Ga_78 (fun _ h9 => h9) d_Ga_openTicket_41 (fun b109 e109 k109 => ?_)
      refine t_ui (t_runV (As := [.int (iI z108), .ref b109]) (rest := []) (n := 2) X Y S k1 hml hl.1 (c_By_isNamed l D E T κ L f H.size a1 n1 k1 (by omega) z108 (by omega) (by omega) b109 40 k109 (by omega) S.1) (ok_k X Y hA KS KR) rfl kl_Ga_By_isNamed ks_By_isNamed kx_By_isNamed ki_By_isNamed ini_By ⟨rfl, rfl⟩ hd_By_isNamed ⟨Nat.le_of_ble_eq_true rfl, Nat.le_of_ble_eq_true rfl⟩ rfl (Nat.le_of_ble_eq_true rfl) d_Ga_openTicket_44 ⟨Nat.le_of_ble_eq_true rfl, Nat.le_of_ble_eq_true rfl⟩) X Y hA (fun z110 H locs Y p110 => ?_)
      obtain ⟨l110, u110⟩ := p110
      refine z_if_ne (tgt := 53) X.1 X.2.1 d_Ga_openTicket_47 (by decide) ⟨by omega, by omega⟩ (fun h111 => ?_) (fun h111 => ?_)
      · refine lv_aload_n X.1 X.2.1 d_Ga_openTicket_53 rfl (lv_at hl 1 rfl) ?_
        refine lv_iload_n X.1 X.2.1 d_Ga_openTicket_54 rfl (lv_at hl 2 rfl) ?_
        refine lv_iconst (v := iI 3) X.1 X.2.1 d_Ga_openTicket_55 (by decide) ?_
        refine t_ui (t_runV (As := [.int (iI a2), .int (iI 3)]) (rest := []) (n := 2) X Y S k1 hml hl.1 (c_By_field l D E T κ L f H.size a1 n1 k1 (by omega) a2 (by omega) (by omega) 3 (by omega) (by omega) S.1) (ok_k X Y hA KS KR) rfl kl_Ga_By_field ks_By_field kx_By_field ki_By_field ini_By ⟨rfl, rfl⟩ hd_By_field ⟨Nat.le_of_ble_eq_true rfl, Nat.le_of_ble_eq_true rfl⟩ rfl (Nat.le_of_ble_eq_true rfl) d_Ga_openTicket_56 ⟨Nat.le_of_ble_eq_true rfl, Nat.le_of_ble_eq_true rfl⟩) X Y hA (fun z112 H locs Y p112 => ?_)
        obtain ⟨l112, u112⟩ := p112
        refine lv_istore (lv' := [(4, .int (iI z112)), (0, .ref h), (1, .ref a1), (2, .int (iI a2)), (3, .ref a3)]) X.1 X.2.1 d_Ga_openTicket_59 hl (by decide) rfl (fun ls hl => ?_)
        refine lv_aload_n X.1 X.2.1 d_Ga_openTicket_61 rfl (lv_at hl 2 rfl) ?_
        refine lv_iload X.1 X.2.1 d_Ga_openTicket_62 (lv_at hl 0 rfl) ?_
        refine lv_iconst (v := iI 1) X.1 X.2.1 d_Ga_openTicket_64 (by decide) ?_
        refine t_ui (t_runV (As := [.int (iI z112), .int (iI 1)]) (rest := []) (n := 2) X Y S k1 hml hl.1 (c_By_field l D E T κ L f H.size a1 n1 k1 (by omega) z112 (by omega) (by omega) 1 (by omega) (by omega) S.1) (ok_k X Y hA KS KR) rfl kl_Ga_By_field ks_By_field kx_By_field ki_By_field ini_By ⟨rfl, rfl⟩ hd_By_field ⟨Nat.le_of_ble_eq_true rfl, Nat.le_of_ble_eq_true rfl⟩ rfl (Nat.le_of_ble_eq_true rfl) d_Ga_openTicket_65 ⟨Nat.le_of_ble_eq_true rfl, Nat.le_of_ble_eq_true rfl⟩) X Y hA (fun z113 H locs Y p113 => ?_)
        obtain ⟨l113, u113⟩ := p113
        refine lv_istore (lv' := [(5, .int (iI z113)), (4, .int (iI z112)), (0, .ref h), (1, .ref a1), (2, .int (iI a2)), (3, .ref a3)]) X.1 X.2.1 d_Ga_openTicket_68 hl (by decide) rfl (fun ls hl => ?_)
        refine lv_iload X.1 X.2.1 d_Ga_openTicket_70 (lv_at hl 0 rfl) ?_
        have J115 : ∀ (v114 : Int64) (H : Heap) (locs : List Loc) (ls : Array Slot), pH D cCl (pA L sz) s.heap L f H locs → tS E T (tFr κ L [1, 2, 3, 4, 11, 13, 15, 16] []) κ L f κ L f → lv_has ls 10 [(0, .ref h), (1, .ref a1), (3, .ref a3), (4, .int (iI z112))] → W p l e (kRm 71 2363 1 32) s m AV below meth c H locs 0 0 QQ (F0 m 89 ls [.long v114]) := by
          intro v114 H locs ls  Y S hl
          refine lv_lstore (lv' := [(6, .long v114), (0, .ref h), (1, .ref a1), (3, .ref a3), (4, .int (iI z112))]) X.1 X.2.1 d_Ga_openTicket_89 hl (by decide) rfl (fun ls hl => ?_)
          refine lv_aload_n X.1 X.2.1 d_Ga_openTicket_91 rfl (lv_at hl 3 rfl) ?_
          refine lv_lload X.1 X.2.1 d_Ga_openTicket_92 (lv_at hl 0 rfl) ?_
          refine t_ui (t_runV (As := [.long v114]) (rest := []) (n := 1) X Y S k3 hml hl.1 (c_Pr_canOpen l D E T κ L f H.size a3 k3 v114 S.1) (ok_k X Y hA KS KR) rfl kl_Ga_Pr_canOpen ks_Pr_canOpen kx_Pr_canOpen ki_Pr_canOpen ini_Pr ⟨rfl, rfl⟩ hd_Pr_canOpen ⟨Nat.le_of_ble_eq_true rfl, Nat.le_of_ble_eq_true rfl⟩ rfl (Nat.le_of_ble_eq_true rfl) d_Ga_openTicket_94 ⟨Nat.le_of_ble_eq_true rfl, Nat.le_of_ble_eq_true rfl⟩) X Y hA (fun z119 H locs Y p119 => ?_)
          obtain ⟨l119, u119⟩ := p119
          refine z_if_ne (tgt := 103) X.1 X.2.1 d_Ga_openTicket_97 (by decide) ⟨by omega, by omega⟩ (fun h120 => ?_) (fun h120 => ?_)
          · refine lv_aload_n X.1 X.2.1 d_Ga_openTicket_103 rfl (lv_at hl 2 rfl) ?_
            refine lv_aload_n X.1 X.2.1 d_Ga_openTicket_104 rfl (lv_at hl 2 rfl) ?_
            refine lv_iload X.1 X.2.1 d_Ga_openTicket_105 (lv_at hl 4 rfl) ?_
            refine lv_iconst (v := iI 0) X.1 X.2.1 d_Ga_openTicket_107 (by decide) ?_
            refine t_ui (t_runV (As := [.int (iI z112), .int (iI 0)]) (rest := [.ref a1]) (n := 2) X Y S k1 hml hl.1 (c_By_field l D E T κ L f H.size a1 n1 k1 (by omega) z112 (by omega) (by omega) 0 (by omega) (by omega) S.1) (ok_k X Y hA KS KR) rfl kl_Ga_By_field ks_By_field kx_By_field ki_By_field ini_By ⟨rfl, rfl⟩ hd_By_field ⟨Nat.le_of_ble_eq_true rfl, Nat.le_of_ble_eq_true rfl⟩ rfl (Nat.le_of_ble_eq_true rfl) d_Ga_openTicket_108 ⟨Nat.le_of_ble_eq_true rfl, Nat.le_of_ble_eq_true rfl⟩) X Y hA (fun z121 H locs Y p121 => ?_)
            obtain ⟨l121, u121⟩ := p121
            refine t_ul (t_runV (As := [.int (iI z121)]) (rest := []) (n := 1) X Y S k1 hml hl.1 (c_By_numberAt l D E T κ L f H.size a1 n1 k1 (by omega) z121 (by omega) (by omega) S.1) (ok_k X Y hA KS KR) rfl kl_Ga_By_numberAt ks_By_numberAt kx_By_numberAt ki_By_numberAt ini_By ⟨rfl, rfl⟩ hd_By_numberAt ⟨Nat.le_of_ble_eq_true rfl, Nat.le_of_ble_eq_true rfl⟩ rfl (Nat.le_of_ble_eq_true rfl) d_Ga_openTicket_111 ⟨Nat.le_of_ble_eq_true rfl, Nat.le_of_ble_eq_true rfl⟩) X Y hA (fun v122 H locs Y p122 => ?_)
            refine lv_lstore (lv' := [(8, .long v122), (6, .long v114), (0, .ref h), (1, .ref a1), (3, .ref a3), (4, .int (iI z112))]) X.1 X.2.1 d_Ga_openTicket_114 hl (by decide) rfl (fun ls hl => ?_)
            refine lv_lload X.1 X.2.1 d_Ga_openTicket_116 (lv_at hl 0 rfl) ?_
            refine lv_ldc2 (v := (17)) X.1 X.2.1 X.2.2.2.1 (X.2.2.1 _ cl_Ga_94) d_Ga_openTicket_118 ?_
            refine W.lcmp X.1 X.2.1 d_Ga_openTicket_121 ?_
            refine t_u (fun z123 l123 u123 => ?_)
            have J124 : ∀  (H : Heap) (locs : List Loc) (ls : Array Slot), pH D cCl (pA L sz) s.heap L f H locs → tS E T (tFr κ L [1, 2, 3, 4, 11, 13, 15, 16] []) κ L f κ L f → lv_has ls 10 [(0, .ref h), (1, .ref a1), (3, .ref a3), (4, .int (iI z112)), (6, .long v114), (8, .long v122)] → W p l e (kRm 71 2363 1 32) s m AV below meth c H locs 0 0 QQ (F0 m 137 ls []) := by
              intro  H locs ls  Y S hl
              refine lv_aload_n X.1 X.2.1 d_Ga_openTicket_137 rfl (lv_at hl 0 rfl) ?_
              refine t_getr (ci := 5) X Y S k0 rfl i_Ga 0 (by decide) rfl (k1 := 21) (k2 := 0) rfl rfl lk_Ga_34 (fun _ h9 => h9) d_Ga_openTicket_138 (fun b128 e128 k128 => ?_)
              refine lv_aload_n X.1 X.2.1 d_Ga_openTicket_141 rfl (lv_at hl 1 rfl) ?_
              refine lv_iload X.1 X.2.1 d_Ga_openTicket_142 (lv_at hl 3 rfl) ?_
              refine lv_aload_n X.1 X.2.1 d_Ga_openTicket_144 rfl (lv_at hl 2 rfl) ?_
              refine lv_lload X.1 X.2.1 d_Ga_openTicket_145 (lv_at hl 4 rfl) ?_
              refine lv_lload X.1 X.2.1 d_Ga_openTicket_147 (lv_at hl 5 rfl) ?_
              refine t_ur (t_runV (As := [.long v114, .long v122]) (rest := [.int (iI z112), .ref a1, .ref b128]) (n := 2) X Y S k3 hml hl.1 (c_Pr_keyOf l D E T κ L f H.size a3 k3 v114 v122 S.1) (ok_k X Y hA KS KR) rfl kl_Ga_Pr_keyOf ks_Pr_keyOf kx_Pr_keyOf ki_Pr_keyOf ini_Pr ⟨rfl, rfl⟩ hd_Pr_keyOf ⟨Nat.le_of_ble_eq_true rfl, Nat.le_of_ble_eq_true rfl⟩ rfl (Nat.le_of_ble_eq_true rfl) d_Ga_openTicket_149 ⟨Nat.le_of_ble_eq_true rfl, Nat.le_of_ble_eq_true rfl⟩) X Y hA (fun b129 H locs Y p129 => ?_)
              obtain ⟨n129, k129⟩ := p129
              have x129 := tKey_n k129
              refine lv_iconst (v := iI 2) X.1 X.2.1 d_Ga_openTicket_152 (by decide) ?_
              refine lv_aload_n X.1 X.2.1 d_Ga_openTicket_153 rfl (lv_at hl 0 rfl) ?_
              refine t_getr (ci := 5) X Y S k0 rfl i_Ga 1 (by decide) rfl (k1 := 13) (k2 := 4000) rfl rfl lk_Ga_14 (fun _ h9 => h9) d_Ga_openTicket_154 (fun b130 e130 k130 => ?_)
              refine t_ni (t_runV (As := [.ref a1, .int (iI z112), .ref b129, .int (iI 2), .ref b130]) (rest := []) (n := 5) X Y S k128 hml hl.1 (c_Va_opens l D E T κ L f H.size b128 k128 a1 n1 k1 (by omega) z112 (by omega) (by omega) b129 n129 k129 (by omega) 2 (by omega) (by omega) b130 4000 k130 (by omega) S.1) (ok_k X Y hA KS KR) rfl kl_Ga_Va_opens ks_Va_opens kx_Va_opens ki_Va_opens ini_Va ⟨rfl, rfl⟩ hd_Va_opens ⟨Nat.le_of_ble_eq_true rfl, Nat.le_of_ble_eq_true rfl⟩ rfl (Nat.le_of_ble_eq_true rfl) d_Ga_openTicket_157 ⟨Nat.le_of_ble_eq_true rfl, Nat.le_of_ble_eq_true rfl⟩) X Y hA S (by decide) (fun z131 f131 H locs Y S s131 p131 => ?_)
              obtain ⟨l131, u131⟩ := p131
              refine z_if_ne (tgt := 166) X.1 X.2.1 d_Ga_openTicket_160 (by decide) ⟨by omega, by omega⟩ (fun h132 => ?_) (fun h132 => ?_)
              · refine lv_aload_n X.1 X.2.1 d_Ga_openTicket_166 rfl (lv_at hl 0 rfl) ?_
                refine t_get0 (ci := 5) X Y S k0 rfl i_Ga 1 (by decide) rfl lk_Ga_14 (fun _ h9 => h9) d_Ga_openTicket_167 ((gF_same (s131.2.2.2 _ ⟨(t_obj S.1 k0).1, nM_of k0 (by decide), by simp⟩).1 1).trans e130) ?_
                refine lv_sipush (v := iI 355) X.1 X.2.1 d_Ga_openTicket_170 (by decide) ?_
                refine lv_iconst (v := iI 0) X.1 X.2.1 d_Ga_openTicket_173 (by decide) ?_
                refine lv_aload_n X.1 X.2.1 d_Ga_openTicket_174 rfl (lv_at hl 0 rfl) ?_
                refine t_get0 (ci := 5) X Y S k0 rfl i_Ga 1 (by decide) rfl lk_Ga_14 (fun _ h9 => h9) d_Ga_openTicket_175 ((gF_same (s131.2.2.2 _ ⟨(t_obj S.1 k0).1, nM_of k0 (by decide), by simp⟩).1 1).trans e130) ?_
                refine t_gets (ci := 3) X Y S k130 rfl i_By 1 (by decide) rfl lk_Ga_108 (fun _ h9 => h9) d_Ga_openTicket_178 (fun z133 e133 l133 u133 => ?_)
                refine t_ui (t_runV (As := [.int (iI 355), .int (iI 0), .int (iI z133)]) (rest := []) (n := 3) X Y S k130 hml hl.1 (c_By_isA l D E T κ L f131 H.size b130 4000 k130 (by omega) 355 (by omega) (by omega) 0 (by omega) (by omega) z133 (by omega) (by omega) S.1) (ok_k X Y hA KS KR) rfl kl_Ga_By_isA ks_By_isA kx_By_isA ki_By_isA ini_By ⟨rfl, rfl⟩ hd_By_isA ⟨Nat.le_of_ble_eq_true rfl, Nat.le_of_ble_eq_true rfl⟩ rfl (Nat.le_of_ble_eq_true rfl) d_Ga_openTicket_181 ⟨Nat.le_of_ble_eq_true rfl, Nat.le_of_ble_eq_true rfl⟩) X Y hA (fun z134 H locs Y p134 => ?_)
                obtain ⟨l134, u134⟩ := p134
                refine z_if_eq (tgt := 227) X.1 X.2.1 d_Ga_openTicket_184 (by decide) ⟨by omega, by omega⟩ (fun h135 => ?_) (fun h135 => ?_)
                · refine lv_bipush (v := iI 60) X.1 X.2.1 d_Ga_openTicket_227 (by decide) ?_
                  refine W.widen (k := 1) (n := 32) (Nat.le_of_ble_eq_true rfl) (Nat.le_of_ble_eq_true rfl) ?_
                  exact c_reti hQQ X Y hr hlk ⟨κ, S, 60, rfl, ⟨by omega, by omega⟩⟩ d_Ga_openTicket_229
                · refine lv_aload_n X.1 X.2.1 d_Ga_openTicket_187 rfl (lv_at hl 0 rfl) ?_
                  refine t_get0 (ci := 5) X Y S k0 rfl i_Ga 1 (by decide) rfl lk_Ga_14 (fun _ h9 => h9) d_Ga_openTicket_188 ((gF_same (s131.2.2.2 _ ⟨(t_obj S.1 k0).1, nM_of k0 (by decide), by simp⟩).1 1).trans e130) ?_
                  refine lv_aload_n X.1 X.2.1 d_Ga_openTicket_191 rfl (lv_at hl 0 rfl) ?_
                  refine t_get0 (ci := 5) X Y S k0 rfl i_Ga 1 (by decide) rfl lk_Ga_14 (fun _ h9 => h9) d_Ga_openTicket_192 ((gF_same (s131.2.2.2 _ ⟨(t_obj S.1 k0).1, nM_of k0 (by decide), by simp⟩).1 1).trans e130) ?_
                  refine lv_iconst (v := iI 0) X.1 X.2.1 d_Ga_openTicket_195 (by decide) ?_
                  refine lv_iconst (v := iI 2) X.1 X.2.1 d_Ga_openTicket_196 (by decide) ?_
                  refine t_ui (t_runV (As := [.int (iI 0), .int (iI 2)]) (rest := [.ref b130]) (n := 2) X Y S k130 hml hl.1 (c_By_field l D E T κ L f131 H.size b130 4000 k130 (by omega) 0 (by omega) (by omega) 2 (by omega) (by omega) S.1) (ok_k X Y hA KS KR) rfl kl_Ga_By_field ks_By_field kx_By_field ki_By_field ini_By ⟨rfl, rfl⟩ hd_By_field ⟨Nat.le_of_ble_eq_true rfl, Nat.le_of_ble_eq_true rfl⟩ rfl (Nat.le_of_ble_eq_true rfl) d_Ga_openTicket_197 ⟨Nat.le_of_ble_eq_true rfl, Nat.le_of_ble_eq_true rfl⟩) X Y hA (fun z136 H locs Y p136 => ?_)
                  obtain ⟨l136, u136⟩ := p136
                  refine t_ui (t_runV (As := [.int (iI z136)]) (rest := []) (n := 1) X Y S k130 hml hl.1 (c_By_isRealm l D E T κ L f131 H.size b130 4000 k130 (by omega) z136 (by omega) (by omega) S.1) (ok_k X Y hA KS KR) rfl kl_Ga_By_isRealm ks_By_isRealm kx_By_isRealm ki_By_isRealm ini_By ⟨rfl, rfl⟩ hd_By_isRealm ⟨Nat.le_of_ble_eq_true rfl, Nat.le_of_ble_eq_true rfl⟩ rfl (Nat.le_of_ble_eq_true rfl) d_Ga_openTicket_200 ⟨Nat.le_of_ble_eq_true rfl, Nat.le_of_ble_eq_true rfl⟩) X Y hA (fun z137 H locs Y p137 => ?_)
                  obtain ⟨l137, u137⟩ := p137
                  refine z_if_eq (tgt := 227) X.1 X.2.1 d_Ga_openTicket_203 (by decide) ⟨by omega, by omega⟩ (fun h138 => ?_) (fun h138 => ?_)
                  · refine lv_bipush (v := iI 60) X.1 X.2.1 d_Ga_openTicket_227 (by decide) ?_
                    refine W.widen (k := 1) (n := 32) (Nat.le_of_ble_eq_true rfl) (Nat.le_of_ble_eq_true rfl) ?_
                    exact c_reti hQQ X Y hr hlk ⟨κ, S, 60, rfl, ⟨by omega, by omega⟩⟩ d_Ga_openTicket_229
                  · refine lv_aload_n X.1 X.2.1 d_Ga_openTicket_206 rfl (lv_at hl 0 rfl) ?_
                    refine t_get0 (ci := 5) X Y S k0 rfl i_Ga 1 (by decide) rfl lk_Ga_14 (fun _ h9 => h9) d_Ga_openTicket_207 ((gF_same (s131.2.2.2 _ ⟨(t_obj S.1 k0).1, nM_of k0 (by decide), by simp⟩).1 1).trans e130) ?_
                    refine lv_aload_n X.1 X.2.1 d_Ga_openTicket_210 rfl (lv_at hl 0 rfl) ?_
                    refine t_get0 (ci := 5) X Y S k0 rfl i_Ga 1 (by decide) rfl lk_Ga_14 (fun _ h9 => h9) d_Ga_openTicket_211 ((gF_same (s131.2.2.2 _ ⟨(t_obj S.1 k0).1, nM_of k0 (by decide), by simp⟩).1 1).trans e130) ?_
                    refine lv_iconst (v := iI 0) X.1 X.2.1 d_Ga_openTicket_214 (by decide) ?_
                    refine lv_iconst (v := iI 3) X.1 X.2.1 d_Ga_openTicket_215 (by decide) ?_
                    refine t_ui (t_runV (As := [.int (iI 0), .int (iI 3)]) (rest := [.ref b130]) (n := 2) X Y S k130 hml hl.1 (c_By_field l D E T κ L f131 H.size b130 4000 k130 (by omega) 0 (by omega) (by omega) 3 (by omega) (by omega) S.1) (ok_k X Y hA KS KR) rfl kl_Ga_By_field ks_By_field kx_By_field ki_By_field ini_By ⟨rfl, rfl⟩ hd_By_field ⟨Nat.le_of_ble_eq_true rfl, Nat.le_of_ble_eq_true rfl⟩ rfl (Nat.le_of_ble_eq_true rfl) d_Ga_openTicket_216 ⟨Nat.le_of_ble_eq_true rfl, Nat.le_of_ble_eq_true rfl⟩) X Y hA (fun z139 H locs Y p139 => ?_)
                    obtain ⟨l139, u139⟩ := p139
                    refine t_ui (t_runV (As := [.int (iI z139)]) (rest := []) (n := 1) X Y S k130 hml hl.1 (c_By_partsSize l D E T κ L f131 H.size b130 4000 k130 (by omega) z139 (by omega) (by omega) S.1) (ok_k X Y hA KS KR) rfl kl_Ga_By_partsSize ks_By_partsSize kx_By_partsSize ki_By_partsSize ini_By ⟨rfl, rfl⟩ hd_By_partsSize ⟨Nat.le_of_ble_eq_true rfl, Nat.le_of_ble_eq_true rfl⟩ rfl (Nat.le_of_ble_eq_true rfl) d_Ga_openTicket_219 ⟨Nat.le_of_ble_eq_true rfl, Nat.le_of_ble_eq_true rfl⟩) X Y hA (fun z140 H locs Y p140 => ?_)
                    obtain ⟨l140, u140⟩ := p140
                    refine lv_bipush (v := iI 40) X.1 X.2.1 d_Ga_openTicket_222 (by decide) ?_
                    refine z_icmp_le (tgt := 230) X.1 X.2.1 d_Ga_openTicket_224 (by decide) ⟨by omega, by omega⟩ ⟨by omega, by omega⟩ (fun h141 => ?_) (fun h141 => ?_)
                    · refine lv_aload_n X.1 X.2.1 d_Ga_openTicket_230 rfl (lv_at hl 0 rfl) ?_
                      refine lv_aload_n X.1 X.2.1 d_Ga_openTicket_231 rfl (lv_at hl 0 rfl) ?_
                      refine t_get0 (ci := 5) X Y S k0 rfl i_Ga 1 (by decide) rfl lk_Ga_14 (fun _ h9 => h9) d_Ga_openTicket_232 ((gF_same (s131.2.2.2 _ ⟨(t_obj S.1 k0).1, nM_of k0 (by decide), by simp⟩).1 1).trans e130) ?_
                      refine lv_aload_n X.1 X.2.1 d_Ga_openTicket_235 rfl (lv_at hl 0 rfl) ?_
                      refine t_get0 (ci := 5) X Y S k0 rfl i_Ga 1 (by decide) rfl lk_Ga_14 (fun _ h9 => h9) d_Ga_openTicket_236 ((gF_same (s131.2.2.2 _ ⟨(t_obj S.1 k0).1, nM_of k0 (by decide), by simp⟩).1 1).trans e130) ?_
                      refine lv_iconst (v := iI 0) X.1 X.2.1 d_Ga_openTicket_239 (by decide) ?_
                      refine lv_iconst (v := iI 1) X.1 X.2.1 d_Ga_openTicket_240 (by decide) ?_
                      refine t_ui (t_runV (As := [.int (iI 0), .int (iI 1)]) (rest := [.ref b130, .ref h]) (n := 2) X Y S k130 hml hl.1 (c_By_field l D E T κ L f131 H.size b130 4000 k130 (by omega) 0 (by omega) (by omega) 1 (by omega) (by omega) S.1) (ok_k X Y hA KS KR) rfl kl_Ga_By_field ks_By_field kx_By_field ki_By_field ini_By ⟨rfl, rfl⟩ hd_By_field ⟨Nat.le_of_ble_eq_true rfl, Nat.le_of_ble_eq_true rfl⟩ rfl (Nat.le_of_ble_eq_true rfl) d_Ga_openTicket_241 ⟨Nat.le_of_ble_eq_true rfl, Nat.le_of_ble_eq_true rfl⟩) X Y hA (fun z142 H locs Y p142 => ?_)
                      obtain ⟨l142, u142⟩ := p142
                      refine t_ar (x_runS (As := [.ref b130, .int (iI z142)]) (rest := [.ref h]) (n := 2) X hml hl.1 (c_Va_keyAt l D E T κ L f131 H.size b130 4000 k130 (by omega) z142 (by omega) (by omega) S.1) (ok_k X Y hA KS KR) kl_Ga_Va_keyAt ks_Va_keyAt ki_Va_keyAt ini_Va ⟨rfl, rfl⟩ hd_Va_keyAt.2 ⟨Nat.le_of_ble_eq_true rfl, Nat.le_of_ble_eq_true rfl⟩ rfl (Nat.le_of_ble_eq_true rfl) d_Ga_openTicket_244 ⟨Nat.le_of_ble_eq_true rfl, Nat.le_of_ble_eq_true rfl⟩) X Y hA S (by decide) (fun b143 κ143 L143 f143 H locs Y S s143 p143 => ?_)
                      obtain ⟨n143, k143⟩ := p143
                      have x143 := tKey_n k143
                      have k144 : κ143 h = (15, 0) := tLe_k s143.2.2.1 k0
                      have k145 : κ143 a1 = (13, n1) := tLe_k s143.2.2.1 k1
                      have k146 : κ143 a3 = (17, 0) := tLe_k s143.2.2.1 k3
                      refine t_put (ci := 5) X Y S k144 rfl i_Ga t_Ga t_Ga_ok n_Ga 3 (by decide) rfl lk_Ga_27 (fun _ h9 => h9) rfl (t_Ga_ok 3 (by decide)) rfl rfl ⟨_, n143, rfl, k143⟩ (nF_of S k144 (by decide)) d_Ga_openTicket_247 (fun f147 H locs Y S w147 => ?_)
                      refine lv_aload_n X.1 X.2.1 d_Ga_openTicket_250 rfl (lv_at hl 0 rfl) ?_
                      refine t_get0 (ci := 5) X Y S k144 rfl i_Ga 3 (by decide) rfl lk_Ga_27 (fun _ h9 => h9) d_Ga_openTicket_251 w147.2.1 ?_
                      refine t_alen X Y S KS (tKey_src k143) (by omega) d_Ga_openTicket_254 ?_
                      refine z_if_ne (tgt := 263) X.1 X.2.1 d_Ga_openTicket_255 (by decide) ⟨by omega, by omega⟩ (fun h148 => ?_) (fun h148 => ?_)
                      · refine lv_iconst (v := iI 0) X.1 X.2.1 d_Ga_openTicket_263 (by decide) ?_
                        exact c_reti hQQ X Y hr hlk ⟨κ143, S, 0, rfl, ⟨by omega, by omega⟩⟩ d_Ga_openTicket_264
                      · refine lv_bipush (v := iI 14) X.1 X.2.1 d_Ga_openTicket_258 (by decide) ?_
                        refine lv_goto (tgt := 264) X.1 X.2.1 d_Ga_openTicket_260 (by decide) ?_
                        exact c_reti hQQ X Y hr hlk ⟨κ143, S, 14, rfl, ⟨by omega, by omega⟩⟩ d_Ga_openTicket_264
                    · refine lv_bipush (v := iI 60) X.1 X.2.1 d_Ga_openTicket_227 (by decide) ?_
                      refine W.widen (k := 1) (n := 32) (Nat.le_of_ble_eq_true rfl) (Nat.le_of_ble_eq_true rfl) ?_
                      exact c_reti hQQ X Y hr hlk ⟨κ, S, 60, rfl, ⟨by omega, by omega⟩⟩ d_Ga_openTicket_229
              · refine lv_bipush (v := iI 31) X.1 X.2.1 d_Ga_openTicket_163 (by decide) ?_
                refine W.widen (k := 1) (n := 32) (Nat.le_of_ble_eq_true rfl) (Nat.le_of_ble_eq_true rfl) ?_
                exact c_reti hQQ X Y hr hlk ⟨κ, S, 31, rfl, ⟨by omega, by omega⟩⟩ d_Ga_openTicket_165
            refine z_if_eq (tgt := 137) X.1 X.2.1 d_Ga_openTicket_122 (by decide) ⟨by omega, by omega⟩ (fun h149 => ?_) (fun h149 => ?_)
            · exact J124  _ _ _  Y S (lv_sub hl [2, 3, 4, 5, 1, 0] rfl)
            · refine lv_lload X.1 X.2.1 d_Ga_openTicket_125 (lv_at hl 0 rfl) ?_
              refine lv_ldc2 (v := (18)) X.1 X.2.1 X.2.2.2.1 (X.2.2.1 _ cl_Ga_96) d_Ga_openTicket_127 ?_
              refine W.lcmp X.1 X.2.1 d_Ga_openTicket_130 ?_
              refine t_u (fun z150 l150 u150 => ?_)
              refine z_if_eq (tgt := 137) X.1 X.2.1 d_Ga_openTicket_131 (by decide) ⟨by omega, by omega⟩ (fun h151 => ?_) (fun h151 => ?_)
              · exact J124  _ _ _  Y S (lv_sub hl [2, 3, 4, 5, 1, 0] rfl)
              · refine lv_bipush (v := iI 14) X.1 X.2.1 d_Ga_openTicket_134 (by decide) ?_
                refine W.widen (k := 1) (n := 32) (Nat.le_of_ble_eq_true rfl) (Nat.le_of_ble_eq_true rfl) ?_
                exact c_reti hQQ X Y hr hlk ⟨κ, S, 14, rfl, ⟨by omega, by omega⟩⟩ d_Ga_openTicket_136
          · refine lv_bipush (v := iI 44) X.1 X.2.1 d_Ga_openTicket_100 (by decide) ?_
            refine W.widen (k := 1) (n := 32) (Nat.le_of_ble_eq_true rfl) (Nat.le_of_ble_eq_true rfl) ?_
            exact c_reti hQQ X Y hr hlk ⟨κ, S, 44, rfl, ⟨by omega, by omega⟩⟩ d_Ga_openTicket_102
        refine z_if_ge (tgt := 83) X.1 X.2.1 d_Ga_openTicket_72 (by decide) ⟨by omega, by omega⟩ (fun h152 => ?_) (fun h152 => ?_)
        · refine lv_aload_n X.1 X.2.1 d_Ga_openTicket_83 rfl (lv_at hl 3 rfl) ?_
          refine lv_iload X.1 X.2.1 d_Ga_openTicket_84 (lv_at hl 0 rfl) ?_
          refine t_ul (t_runV (As := [.int (iI z113)]) (rest := []) (n := 1) X Y S k1 hml hl.1 (c_By_numberAt l D E T κ L f H.size a1 n1 k1 (by omega) z113 (by omega) (by omega) S.1) (ok_k X Y hA KS KR) rfl kl_Ga_By_numberAt ks_By_numberAt kx_By_numberAt ki_By_numberAt ini_By ⟨rfl, rfl⟩ hd_By_numberAt ⟨Nat.le_of_ble_eq_true rfl, Nat.le_of_ble_eq_true rfl⟩ rfl (Nat.le_of_ble_eq_true rfl) d_Ga_openTicket_86 ⟨Nat.le_of_ble_eq_true rfl, Nat.le_of_ble_eq_true rfl⟩) X Y hA (fun v153 H locs Y p153 => ?_)
          exact J115 v153 _ _ _  Y S (lv_sub hl [2, 3, 5, 1] rfl)
        · refine lv_aload_n X.1 X.2.1 d_Ga_openTicket_75 rfl (lv_at hl 5 rfl) ?_
          refine t_geti (ci := 7) X Y S k3 rfl i_Pr 3 (by decide) rfl lk_Ga_87 (fun _ h9 => h9) d_Ga_openTicket_76 (fun z154 e154 l154 u154 => ?_)
          refine lv_i2l X.1 X.2.1 d_Ga_openTicket_79 rfl ?_
          refine t_anyl (fun v155 => ?_)
          refine lv_goto (tgt := 89) X.1 X.2.1 d_Ga_openTicket_80 (by decide) ?_
          exact J115 v155 _ _ _  Y S (lv_sub hl [2, 3, 5, 1] rfl)
      · refine lv_bipush (v := iI 35) X.1 X.2.1 d_Ga_openTicket_50 (by decide) ?_
        refine W.widen (k := 1) (n := 32) (Nat.le_of_ble_eq_true rfl) (Nat.le_of_ble_eq_true rfl) ?_
        exact c_reti hQQ X Y hr hlk ⟨κ, S, 35, rfl, ⟨by omega, by omega⟩⟩ d_Ga_openTicket_52
  · refine lv_bipush (v := iI 39) X.1 X.2.1 d_Ga_openTicket_17 (by decide) ?_
    refine W.widen (k := 1) (n := 32) (Nat.le_of_ble_eq_true rfl) (Nat.le_of_ble_eq_true rfl) ?_
    exact c_reti hQQ X Y hr hlk ⟨κ, S, 39, rfl, ⟨by omega, by omega⟩⟩ d_Ga_openTicket_19
set_option maxHeartbeats 4000000 in
set_option maxRecDepth 100000 in
theorem c_Ga_openProof (l : Launch) (D : va_G) (E : cE) (T : cT) (κ : tK) (L : List Nat) (f : pF) (sz : Nat) (h : Nat) (k0 : κ h = (15, 0)) (a1 n1 : Nat) (k1 : κ a1 = (13, n1)) (x1 : n1 ≤ 12288) (a2 : Int) (l_a2 : (-1) ≤ a2) (u_a2 : a2 ≤ 20200) (a3 : Int) (l_a3 : (-2147483648) ≤ a3) (u_a3 : a3 ≤ 2147483647) (hw : tW E T κ L f) : Met l y_Ga_openProof (k_Ga_openProof :: lw_tg) (kRm 71 2363 0 0) (va_Pc [.ref h, .ref a1, .int (iI a2), .int (iI a3)] (kPre D E T L f sz)) (va_Qi (nPi E T [1, 2, 3, 4, 11, 13, 16] κ L f (fun (z : Int) (g : pF) => (-2147483648) ≤ z ∧ z ≤ 2147483647)) (cPost D E (pA L sz)) (pA L sz)) 0 0 (pA L sz) := by
  refine k_enter (own := R_Ga) (by decide) rfl (Nat.le_of_ble_eq_true rfl) (fun p e s m below meth c ls AV QQ H locs hQQ X Y hA hin hr hlk hml hl KS KR => ?_)
  have hl : lv_has ls 4 [(0, .ref h), (1, .ref a1), (2, .int (iI a2)), (3, .int (iI a3))] := hl
  have S : tS E T (tFr κ L [1, 2, 3, 4, 11, 13, 16] []) κ L f κ L f := tS_rf hw
  refine lv_aload_n X.1 X.2.1 d_Ga_openProof_0 rfl (lv_at hl 0 rfl) ?_
  refine t_getr (ci := 5) X Y S k0 rfl i_Ga 0 (by decide) rfl (k1 := 21) (k2 := 0) rfl rfl lk_Ga_34 (fun _ h9 => h9) d_Ga_openProof_1 (fun b101 e101 k101 => ?_)
  refine lv_aload_n X.1 X.2.1 d_Ga_openProof_4 rfl (lv_at hl 1 rfl) ?_
  refine lv_iload_n X.1 X.2.1 d_Ga_openProof_5 rfl (lv_at hl 2 rfl) ?_
  refine lv_aload_n X.1 X.2.1 d_Ga_openProof_6 rfl (lv_at hl 0 rfl) ?_
  refine t_getk (ci := 5) X Y S k0 rfl i_Ga 3 (by decide) rfl lk_Ga_27 (fun _ h9 => h9) d_Ga_openProof_7 (fun b102 n102 e102 k102 x102 => ?_)
  refine lv_iload_n X.1 X.2.1 d_Ga_openProof_10 rfl (lv_at hl 3 rfl) ?_
  refine lv_aload_n X.1 X.2.1 d_Ga_openProof_11 rfl (lv_at hl 0 rfl) ?_
  refine t_getr (ci := 5) X Y S k0 rfl i_Ga 2 (by decide) rfl (k1 := 13) (k2 := 4000) rfl rfl lk_Ga_20 (fun _ h9 => h9) d_Ga_openProof_12 (fun b103 e103 k103 => ?_)
  refine t_ni (t_runV (As := [.ref a1, .int (iI a2), .ref b102, .int (iI a3), .ref b103]) (rest := []) (n := 5) X Y S k101 hml hl.1 (c_Va_opens l D E T κ L f H.size b101 k101 a1 n1 k1 (by omega) a2 (by omega) (by omega) b102 n102 k102 (by omega) a3 (by omega) (by omega) b103 4000 k103 (by omega) S.1) (ok_k X Y hA KS KR) rfl kl_Ga_Va_opens ks_Va_opens kx_Va_opens ki_Va_opens ini_Va ⟨rfl, rfl⟩ hd_Va_opens ⟨Nat.le_of_ble_eq_true rfl, Nat.le_of_ble_eq_true rfl⟩ rfl (Nat.le_of_ble_eq_true rfl) d_Ga_openProof_15 ⟨Nat.le_of_ble_eq_true rfl, Nat.le_of_ble_eq_true rfl⟩) X Y hA S (by decide) (fun z104 f104 H locs Y S s104 p104 => ?_)
  obtain ⟨l104, u104⟩ := p104
  refine z_if_ne (tgt := 24) X.1 X.2.1 d_Ga_openProof_18 (by decide) ⟨by omega, by omega⟩ (fun h105 => ?_) (fun h105 => ?_)
  · refine lv_aload_n X.1 X.2.1 d_Ga_openProof_24 rfl (lv_at hl 0 rfl) ?_
    refine t_get0 (ci := 5) X Y S k0 rfl i_Ga 2 (by decide) rfl lk_Ga_20 (fun _ h9 => h9) d_Ga_openProof_25 ((gF_same (s104.2.2.2 _ ⟨(t_obj S.1 k0).1, nM_of k0 (by decide), by simp⟩).1 2).trans e103) ?_
    refine lv_sipush (v := iI 354) X.1 X.2.1 d_Ga_openProof_28 (by decide) ?_
    refine lv_iconst (v := iI 0) X.1 X.2.1 d_Ga_openProof_31 (by decide) ?_
    refine lv_aload_n X.1 X.2.1 d_Ga_openProof_32 rfl (lv_at hl 0 rfl) ?_
    refine t_get0 (ci := 5) X Y S k0 rfl i_Ga 2 (by decide) rfl lk_Ga_20 (fun _ h9 => h9) d_Ga_openProof_33 ((gF_same (s104.2.2.2 _ ⟨(t_obj S.1 k0).1, nM_of k0 (by decide), by simp⟩).1 2).trans e103) ?_
    refine t_gets (ci := 3) X Y S k103 rfl i_By 1 (by decide) rfl lk_Ga_108 (fun _ h9 => h9) d_Ga_openProof_36 (fun z106 e106 l106 u106 => ?_)
    refine t_ui (t_runV (As := [.int (iI 354), .int (iI 0), .int (iI z106)]) (rest := []) (n := 3) X Y S k103 hml hl.1 (c_By_isA l D E T κ L f104 H.size b103 4000 k103 (by omega) 354 (by omega) (by omega) 0 (by omega) (by omega) z106 (by omega) (by omega) S.1) (ok_k X Y hA KS KR) rfl kl_Ga_By_isA ks_By_isA kx_By_isA ki_By_isA ini_By ⟨rfl, rfl⟩ hd_By_isA ⟨Nat.le_of_ble_eq_true rfl, Nat.le_of_ble_eq_true rfl⟩ rfl (Nat.le_of_ble_eq_true rfl) d_Ga_openProof_39 ⟨Nat.le_of_ble_eq_true rfl, Nat.le_of_ble_eq_true rfl⟩) X Y hA (fun z107 H locs Y p107 => ?_)
    obtain ⟨l107, u107⟩ := p107
    refine z_if_ne (tgt := 48) X.1 X.2.1 d_Ga_openProof_42 (by decide) ⟨by omega, by omega⟩ (fun h108 => ?_) (fun h108 => ?_)
    · refine lv_aload_n X.1 X.2.1 d_Ga_openProof_48 rfl (lv_at hl 0 rfl) ?_
      refine t_get0 (ci := 5) X Y S k0 rfl i_Ga 2 (by decide) rfl lk_Ga_20 (fun _ h9 => h9) d_Ga_openProof_49 ((gF_same (s104.2.2.2 _ ⟨(t_obj S.1 k0).1, nM_of k0 (by decide), by simp⟩).1 2).trans e103) ?_
      refine lv_aload_n X.1 X.2.1 d_Ga_openProof_52 rfl (lv_at hl 0 rfl) ?_
      refine t_get0 (ci := 5) X Y S k0 rfl i_Ga 2 (by decide) rfl lk_Ga_20 (fun _ h9 => h9) d_Ga_openProof_53 ((gF_same (s104.2.2.2 _ ⟨(t_obj S.1 k0).1, nM_of k0 (by decide), by simp⟩).1 2).trans e103) ?_
      refine lv_iconst (v := iI 0) X.1 X.2.1 d_Ga_openProof_56 (by decide) ?_
      refine lv_iconst (v := iI 1) X.1 X.2.1 d_Ga_openProof_57 (by decide) ?_
      refine t_ui (t_runV (As := [.int (iI 0), .int (iI 1)]) (rest := [.ref b103]) (n := 2) X Y S k103 hml hl.1 (c_By_field l D E T κ L f104 H.size b103 4000 k103 (by omega) 0 (by omega) (by omega) 1 (by omega) (by omega) S.1) (ok_k X Y hA KS KR) rfl kl_Ga_By_field ks_By_field kx_By_field ki_By_field ini_By ⟨rfl, rfl⟩ hd_By_field ⟨Nat.le_of_ble_eq_true rfl, Nat.le_of_ble_eq_true rfl⟩ rfl (Nat.le_of_ble_eq_true rfl) d_Ga_openProof_58 ⟨Nat.le_of_ble_eq_true rfl, Nat.le_of_ble_eq_true rfl⟩) X Y hA (fun z109 H locs Y p109 => ?_)
      obtain ⟨l109, u109⟩ := p109
      refine t_ui (t_runV (As := [.int (iI z109)]) (rest := []) (n := 1) X Y S k103 hml hl.1 (c_By_isRealm l D E T κ L f104 H.size b103 4000 k103 (by omega) z109 (by omega) (by omega) S.1) (ok_k X Y hA KS KR) rfl kl_Ga_By_isRealm ks_By_isRealm kx_By_isRealm ki_By_isRealm ini_By ⟨rfl, rfl⟩ hd_By_isRealm ⟨Nat.le_of_ble_eq_true rfl, Nat.le_of_ble_eq_true rfl⟩ rfl (Nat.le_of_ble_eq_true rfl) d_Ga_openProof_61 ⟨Nat.le_of_ble_eq_true rfl, Nat.le_of_ble_eq_true rfl⟩) X Y hA (fun z110 H locs Y p110 => ?_)
      obtain ⟨l110, u110⟩ := p110
      refine z_if_eq (tgt := 99) X.1 X.2.1 d_Ga_openProof_64 (by decide) ⟨by omega, by omega⟩ (fun h111 => ?_) (fun h111 => ?_)
      · refine lv_bipush (v := iI 36) X.1 X.2.1 d_Ga_openProof_99 (by decide) ?_
        exact c_reti hQQ X Y hr hlk ⟨rfl, S, 36, rfl, ⟨by omega, by omega⟩⟩ d_Ga_openProof_101
      · refine lv_aload_n X.1 X.2.1 d_Ga_openProof_67 rfl (lv_at hl 0 rfl) ?_
        refine t_get0 (ci := 5) X Y S k0 rfl i_Ga 2 (by decide) rfl lk_Ga_20 (fun _ h9 => h9) d_Ga_openProof_68 ((gF_same (s104.2.2.2 _ ⟨(t_obj S.1 k0).1, nM_of k0 (by decide), by simp⟩).1 2).trans e103) ?_
        refine lv_aload_n X.1 X.2.1 d_Ga_openProof_71 rfl (lv_at hl 0 rfl) ?_
        refine t_get0 (ci := 5) X Y S k0 rfl i_Ga 2 (by decide) rfl lk_Ga_20 (fun _ h9 => h9) d_Ga_openProof_72 ((gF_same (s104.2.2.2 _ ⟨(t_obj S.1 k0).1, nM_of k0 (by decide), by simp⟩).1 2).trans e103) ?_
        refine lv_iconst (v := iI 0) X.1 X.2.1 d_Ga_openProof_75 (by decide) ?_
        refine lv_iconst (v := iI 2) X.1 X.2.1 d_Ga_openProof_76 (by decide) ?_
        refine t_ui (t_runV (As := [.int (iI 0), .int (iI 2)]) (rest := [.ref b103]) (n := 2) X Y S k103 hml hl.1 (c_By_field l D E T κ L f104 H.size b103 4000 k103 (by omega) 0 (by omega) (by omega) 2 (by omega) (by omega) S.1) (ok_k X Y hA KS KR) rfl kl_Ga_By_field ks_By_field kx_By_field ki_By_field ini_By ⟨rfl, rfl⟩ hd_By_field ⟨Nat.le_of_ble_eq_true rfl, Nat.le_of_ble_eq_true rfl⟩ rfl (Nat.le_of_ble_eq_true rfl) d_Ga_openProof_77 ⟨Nat.le_of_ble_eq_true rfl, Nat.le_of_ble_eq_true rfl⟩) X Y hA (fun z112 H locs Y p112 => ?_)
        obtain ⟨l112, u112⟩ := p112
        refine lv_aload_n X.1 X.2.1 d_Ga_openProof_80 rfl (lv_at hl 0 rfl) ?_
        refine t_getr (ci := 5) X Y S k0 rfl i_Ga 1 (by decide) rfl (k1 := 13) (k2 := 4000) rfl rfl lk_Ga_14 (fun _ h9 => h9) d_Ga_openProof_81 (fun b113 e113 k113 => ?_)
        refine lv_aload_n X.1 X.2.1 d_Ga_openProof_84 rfl (lv_at hl 0 rfl) ?_
        refine t_get0 (ci := 5) X Y S k0 rfl i_Ga 1 (by decide) rfl lk_Ga_14 (fun _ h9 => h9) d_Ga_openProof_85 e113 ?_
        refine lv_iconst (v := iI 0) X.1 X.2.1 d_Ga_openProof_88 (by decide) ?_
        refine lv_iconst (v := iI 3) X.1 X.2.1 d_Ga_openProof_89 (by decide) ?_
        refine t_ui (t_runV (As := [.int (iI 0), .int (iI 3)]) (rest := [.ref b113, .int (iI z112), .ref b103]) (n := 2) X Y S k113 hml hl.1 (c_By_field l D E T κ L f104 H.size b113 4000 k113 (by omega) 0 (by omega) (by omega) 3 (by omega) (by omega) S.1) (ok_k X Y hA KS KR) rfl kl_Ga_By_field ks_By_field kx_By_field ki_By_field ini_By ⟨rfl, rfl⟩ hd_By_field ⟨Nat.le_of_ble_eq_true rfl, Nat.le_of_ble_eq_true rfl⟩ rfl (Nat.le_of_ble_eq_true rfl) d_Ga_openProof_90 ⟨Nat.le_of_ble_eq_true rfl, Nat.le_of_ble_eq_true rfl⟩) X Y hA (fun z114 H locs Y p114 => ?_)
        obtain ⟨l114, u114⟩ := p114
        refine t_ui (t_runV (As := [.int (iI z112), .ref b113, .int (iI z114)]) (rest := []) (n := 3) X Y S k103 hml hl.1 (c_By_sameParts l D E T κ L f104 H.size b103 4000 k103 (by omega) z112 (by omega) (by omega) b113 4000 k113 (by omega) z114 (by omega) (by omega) S.1) (ok_k X Y hA KS KR) rfl kl_Ga_By_sameParts ks_By_sameParts kx_By_sameParts ki_By_sameParts ini_By ⟨rfl, rfl⟩ hd_By_sameParts ⟨Nat.le_of_ble_eq_true rfl, Nat.le_of_ble_eq_true rfl⟩ rfl (Nat.le_of_ble_eq_true rfl) d_Ga_openProof_93 ⟨Nat.le_of_ble_eq_true rfl, Nat.le_of_ble_eq_true rfl⟩) X Y hA (fun z115 H locs Y p115 => ?_)
        obtain ⟨l115, u115⟩ := p115
        refine z_if_ne (tgt := 102) X.1 X.2.1 d_Ga_openProof_96 (by decide) ⟨by omega, by omega⟩ (fun h116 => ?_) (fun h116 => ?_)
        · refine lv_aload_n X.1 X.2.1 d_Ga_openProof_102 rfl (lv_at hl 0 rfl) ?_
          refine t_get0 (ci := 5) X Y S k0 rfl i_Ga 2 (by decide) rfl lk_Ga_20 (fun _ h9 => h9) d_Ga_openProof_103 ((gF_same (s104.2.2.2 _ ⟨(t_obj S.1 k0).1, nM_of k0 (by decide), by simp⟩).1 2).trans e103) ?_
          refine lv_aload_n X.1 X.2.1 d_Ga_openProof_106 rfl (lv_at hl 0 rfl) ?_
          refine t_get0 (ci := 5) X Y S k0 rfl i_Ga 2 (by decide) rfl lk_Ga_20 (fun _ h9 => h9) d_Ga_openProof_107 ((gF_same (s104.2.2.2 _ ⟨(t_obj S.1 k0).1, nM_of k0 (by decide), by simp⟩).1 2).trans e103) ?_
          refine lv_iconst (v := iI 0) X.1 X.2.1 d_Ga_openProof_110 (by decide) ?_
          refine lv_iconst (v := iI 5) X.1 X.2.1 d_Ga_openProof_111 (by decide) ?_
          refine t_ui (t_runV (As := [.int (iI 0), .int (iI 5)]) (rest := [.ref b103]) (n := 2) X Y S k103 hml hl.1 (c_By_field l D E T κ L f104 H.size b103 4000 k103 (by omega) 0 (by omega) (by omega) 5 (by omega) (by omega) S.1) (ok_k X Y hA KS KR) rfl kl_Ga_By_field ks_By_field kx_By_field ki_By_field ini_By ⟨rfl, rfl⟩ hd_By_field ⟨Nat.le_of_ble_eq_true rfl, Nat.le_of_ble_eq_true rfl⟩ rfl (Nat.le_of_ble_eq_true rfl) d_Ga_openProof_112 ⟨Nat.le_of_ble_eq_true rfl, Nat.le_of_ble_eq_true rfl⟩) X Y hA (fun z117 H locs Y p117 => ?_)
          obtain ⟨l117, u117⟩ := p117
          refine t_ui (t_runV (As := [.int (iI z117)]) (rest := []) (n := 1) X Y S k103 hml hl.1 (c_By_timeAt l D E T κ L f104 H.size b103 4000 k103 (by omega) z117 (by omega) (by omega) S.1) (ok_k X Y hA KS KR) rfl kl_Ga_By_timeAt ks_By_timeAt kx_By_timeAt ki_By_timeAt ini_By ⟨rfl, rfl⟩ hd_By_timeAt ⟨Nat.le_of_ble_eq_true rfl, Nat.le_of_ble_eq_true rfl⟩ rfl (Nat.le_of_ble_eq_true rfl) d_Ga_openProof_115 ⟨Nat.le_of_ble_eq_true rfl, Nat.le_of_ble_eq_true rfl⟩) X Y hA (fun z118 H locs Y p118 => ?_)
          obtain ⟨l118, u118⟩ := p118
          refine lv_aload_n X.1 X.2.1 d_Ga_openProof_118 rfl (lv_at hl 0 rfl) ?_
          refine t_get0 (ci := 5) X Y S k0 rfl i_Ga 0 (by decide) rfl lk_Ga_34 (fun _ h9 => h9) d_Ga_openProof_119 ((gF_same (s104.2.2.2 _ ⟨(t_obj S.1 k0).1, nM_of k0 (by decide), by simp⟩).1 0).trans e101) ?_
          refine t_geti (ci := 11) X Y S k101 rfl i_Va 0 (by decide) rfl lk_Ga_125 (fun _ h9 => h9) d_Ga_openProof_122 (fun z119 e119 l119 u119 => ?_)
          refine lv_isub X.1 X.2.1 d_Ga_openProof_125 ?_
          refine t_u (fun z120 l120 u120 => ?_)
          refine va_mabs X.1 X.2.1 (hml.trans hl.1.symm) X.2.2.2.1 (X.2.2.1 _ kl_Ga_mabs) (X.2.2.1 _ ks_mabs) (X.2.2.1 _ ini_Math) (X.2.2.1 _ ki_mabs) (Nat.le_of_ble_eq_true rfl) (Nat.le_of_ble_eq_true rfl) (Nat.le_of_ble_eq_true rfl) (Nat.le_of_ble_eq_true rfl) d_Ga_openProof_126 ?_
          refine t_u (fun z121 l121 u121 => ?_)
          refine lv_sipush (v := iI 300) X.1 X.2.1 d_Ga_openProof_129 (by decide) ?_
          refine z_icmp_le (tgt := 140) X.1 X.2.1 d_Ga_openProof_132 (by decide) ⟨by omega, by omega⟩ ⟨by omega, by omega⟩ (fun h122 => ?_) (fun h122 => ?_)
          · refine lv_iconst (v := iI 0) X.1 X.2.1 d_Ga_openProof_140 (by decide) ?_
            exact c_reti hQQ X Y hr hlk ⟨rfl, S, 0, rfl, ⟨by omega, by omega⟩⟩ d_Ga_openProof_141
          · refine lv_bipush (v := iI 37) X.1 X.2.1 d_Ga_openProof_135 (by decide) ?_
            refine lv_goto (tgt := 141) X.1 X.2.1 d_Ga_openProof_137 (by decide) ?_
            exact c_reti hQQ X Y hr hlk ⟨rfl, S, 37, rfl, ⟨by omega, by omega⟩⟩ d_Ga_openProof_141
        · refine lv_bipush (v := iI 36) X.1 X.2.1 d_Ga_openProof_99 (by decide) ?_
          exact c_reti hQQ X Y hr hlk ⟨rfl, S, 36, rfl, ⟨by omega, by omega⟩⟩ d_Ga_openProof_101
    · refine lv_bipush (v := iI 60) X.1 X.2.1 d_Ga_openProof_45 (by decide) ?_
      exact c_reti hQQ X Y hr hlk ⟨rfl, S, 60, rfl, ⟨by omega, by omega⟩⟩ d_Ga_openProof_47
  · refine lv_bipush (v := iI 31) X.1 X.2.1 d_Ga_openProof_21 (by decide) ?_
    exact c_reti hQQ X Y hr hlk ⟨rfl, S, 31, rfl, ⟨by omega, by omega⟩⟩ d_Ga_openProof_23
set_option maxHeartbeats 4000000 in
set_option maxRecDepth 100000 in
theorem c_Ga_judge (l : Launch) (D : va_G) (E : cE) (T : cT) (κ : tK) (L : List Nat) (f : pF) (sz : Nat) (h : Nat) (k0 : κ h = (15, 0)) (a1 n1 : Nat) (k1 : κ a1 = (13, n1)) (x1 : n1 ≤ 12288) (a2 : Int) (l_a2 : (-1) ≤ a2) (u_a2 : a2 ≤ 20200) (a3 : Int) (l_a3 : 0 ≤ a3) (u_a3 : a3 ≤ 20200) (a4 : Nat) (k4 : κ a4 = (17, 0)) (a5 : Nat) (k5 : κ a5 = (18, 0)) (a6 : Int) (l_a6 : (-2147483648) ≤ a6) (u_a6 : a6 ≤ 2147483647) (hw : tW E T κ L f) : Met l y_Ga_judge (k_Ga_judge :: lw_tg) (kRm 72 2392 1 32) (va_Pc [.ref h, .ref a1, .int (iI a2), .int (iI a3), .ref a4, .ref a5, .int (iI a6)] (kPre D E T L f sz)) (va_Qi (aPi E T [1, 2, 3, 4, 11, 13, 15, 16, 18] [] κ L f (fun (z : Int) (k : tK) (g : pF) => (-2147483648) ≤ z ∧ z ≤ 2147483647)) (cPost D E (pA L sz)) (pA L sz)) 1 32 (pA L sz) := by
  refine k_enter (own := R_Ga) (by decide) rfl (Nat.le_of_ble_eq_true rfl) (fun p e s m below meth c ls AV QQ H locs hQQ X Y hA hin hr hlk hml hl KS KR => ?_)
  have hl : lv_has ls 9 [(0, .ref h), (1, .ref a1), (2, .int (iI a2)), (3, .int (iI a3)), (4, .ref a4), (5, .ref a5), (6, .int (iI a6))] := hl
  have S : tS E T (tFr κ L [1, 2, 3, 4, 11, 13, 15, 16, 18] []) κ L f κ L f := tS_rf hw
  have hF0 : ∀ b, tFr κ L [1, 2, 3, 4, 11, 13, 15, 16, 18] [] b → b ∈ L := fun b h9 => h9.1
  refine lv_aload_n X.1 X.2.1 d_Ga_judge_0 rfl (lv_at hl 1 rfl) ?_
  refine lv_sipush (v := iI 366) X.1 X.2.1 d_Ga_judge_1 (by decide) ?_
  refine lv_iload_n X.1 X.2.1 d_Ga_judge_4 rfl (lv_at hl 2 rfl) ?_
  refine lv_iload_n X.1 X.2.1 d_Ga_judge_5 rfl (lv_at hl 3 rfl) ?_
  refine t_ui (t_runV (As := [.int (iI 366), .int (iI a2), .int (iI a3)]) (rest := []) (n := 3) X Y S k1 hml hl.1 (c_By_isA l D E T κ L f H.size a1 n1 k1 (by omega) 366 (by omega) (by omega) a2 (by omega) (by omega) a3 (by omega) (by omega) S.1) (ok_k X Y hA KS KR) rfl kl_Ga_By_isA ks_By_isA kx_By_isA ki_By_isA ini_By ⟨rfl, rfl⟩ hd_By_isA ⟨Nat.le_of_ble_eq_true rfl, Nat.le_of_ble_eq_true rfl⟩ rfl (Nat.le_of_ble_eq_true rfl) d_Ga_judge_6 ⟨Nat.le_of_ble_eq_true rfl, Nat.le_of_ble_eq_true rfl⟩) X Y hA (fun z101 H locs Y p101 => ?_)
  obtain ⟨l101, u101⟩ := p101
  refine z_if_ne (tgt := 15) X.1 X.2.1 d_Ga_judge_9 (by decide) ⟨by omega, by omega⟩ (fun h102 => ?_) (fun h102 => ?_)
  · refine lv_aload_n X.1 X.2.1 d_Ga_judge_15 rfl (lv_at hl 1 rfl) ?_
    refine lv_aload_n X.1 X.2.1 d_Ga_judge_16 rfl (lv_at hl 1 rfl) ?_
    refine lv_iload_n X.1 X.2.1 d_Ga_judge_17 rfl (lv_at hl 2 rfl) ?_
    refine lv_iconst (v := iI 0) X.1 X.2.1 d_Ga_judge_18 (by decide) ?_
    refine t_ui (t_runV (As := [.int (iI a2), .int (iI 0)]) (rest := [.ref a1]) (n := 2) X Y S k1 hml hl.1 (c_By_field l D E T κ L f H.size a1 n1 k1 (by omega) a2 (by omega) (by omega) 0 (by omega) (by omega) S.1) (ok_k X Y hA KS KR) rfl kl_Ga_By_field ks_By_field kx_By_field ki_By_field ini_By ⟨rfl, rfl⟩ hd_By_field ⟨Nat.le_of_ble_eq_true rfl, Nat.le_of_ble_eq_true rfl⟩ rfl (Nat.le_of_ble_eq_true rfl) d_Ga_judge_19 ⟨Nat.le_of_ble_eq_true rfl, Nat.le_of_ble_eq_true rfl⟩) X Y hA (fun z103 H locs Y p103 => ?_)
    obtain ⟨l103, u103⟩ := p103
    refine t_ul (t_runV (As := [.int (iI z103)]) (rest := []) (n := 1) X Y S k1 hml hl.1 (c_By_numberAt l D E T κ L f H.size a1 n1 k1 (by omega) z103 (by omega) (by omega) S.1) (ok_k X Y hA KS KR) rfl kl_Ga_By_numberAt ks_By_numberAt kx_By_numberAt ki_By_numberAt ini_By ⟨rfl, rfl⟩ hd_By_numberAt ⟨Nat.le_of_ble_eq_true rfl, Nat.le_of_ble_eq_true rfl⟩ rfl (Nat.le_of_ble_eq_true rfl) d_Ga_judge_22 ⟨Nat.le_of_ble_eq_true rfl, Nat.le_of_ble_eq_true rfl⟩) X Y hA (fun v104 H locs Y p104 => ?_)
    refine lv_ldc2 (v := (5)) X.1 X.2.1 X.2.2.2.1 (X.2.2.1 _ cl_Ga_50) d_Ga_judge_25 ?_
    refine W.lcmp X.1 X.2.1 d_Ga_judge_28 ?_
    refine t_u (fun z105 l105 u105 => ?_)
    refine z_if_eq (tgt := 34) X.1 X.2.1 d_Ga_judge_29 (by decide) ⟨by omega, by omega⟩ (fun h106 => ?_) (fun h106 => ?_)
    · refine lv_aload_n X.1 X.2.1 d_Ga_judge_34 rfl (lv_at hl 1 rfl) ?_
      refine lv_aload_n X.1 X.2.1 d_Ga_judge_35 rfl (lv_at hl 1 rfl) ?_
      refine lv_iload_n X.1 X.2.1 d_Ga_judge_36 rfl (lv_at hl 2 rfl) ?_
      refine lv_iconst (v := iI 1) X.1 X.2.1 d_Ga_judge_37 (by decide) ?_
      refine t_ui (t_runV (As := [.int (iI a2), .int (iI 1)]) (rest := [.ref a1]) (n := 2) X Y S k1 hml hl.1 (c_By_field l D E T κ L f H.size a1 n1 k1 (by omega) a2 (by omega) (by omega) 1 (by omega) (by omega) S.1) (ok_k X Y hA KS KR) rfl kl_Ga_By_field ks_By_field kx_By_field ki_By_field ini_By ⟨rfl, rfl⟩ hd_By_field ⟨Nat.le_of_ble_eq_true rfl, Nat.le_of_ble_eq_true rfl⟩ rfl (Nat.le_of_ble_eq_true rfl) d_Ga_judge_38 ⟨Nat.le_of_ble_eq_true rfl, Nat.le_of_ble_eq_true rfl⟩) X Y hA (fun z107 H locs Y p107 => ?_)
      obtain ⟨l107, u107⟩ := p107
      refine t_ul (t_runV (As := [.int (iI z107)]) (rest := []) (n := 1) X Y S k1 hml hl.1 (c_By_numberAt l D E T κ L f H.size a1 n1 k1 (by omega) z107 (by omega) (by omega) S.1) (ok_k X Y hA KS KR) rfl kl_Ga_By_numberAt ks_By_numberAt kx_By_numberAt ki_By_numberAt ini_By ⟨rfl, rfl⟩ hd_By_numberAt ⟨Nat.le_of_ble_eq_true rfl, Nat.le_of_ble_eq_true rfl⟩ rfl (Nat.le_of_ble_eq_true rfl) d_Ga_judge_41 ⟨Nat.le_of_ble_eq_true rfl, Nat.le_of_ble_eq_true rfl⟩) X Y hA (fun v108 H locs Y p108 => ?_)
      refine lv_ldc2 (v := (14)) X.1 X.2.1 X.2.2.2.1 (X.2.2.1 _ cl_Ga_52) d_Ga_judge_44 ?_
      refine W.lcmp X.1 X.2.1 d_Ga_judge_47 ?_
      refine t_u (fun z109 l109 u109 => ?_)
      refine z_if_eq (tgt := 54) X.1 X.2.1 d_Ga_judge_48 (by decide) ⟨by omega, by omega⟩ (fun h110 => ?_) (fun h110 => ?_)
      · refine lv_aload_n X.1 X.2.1 d_Ga_judge_54 rfl (lv_at hl 1 rfl) ?_
        refine lv_iload_n X.1 X.2.1 d_Ga_judge_55 rfl (lv_at hl 2 rfl) ?_
        refine lv_iconst (v := iI 2) X.1 X.2.1 d_Ga_judge_56 (by decide) ?_
        refine t_ui (t_runV (As := [.int (iI a2), .int (iI 2)]) (rest := []) (n := 2) X Y S k1 hml hl.1 (c_By_field l D E T κ L f H.size a1 n1 k1 (by omega) a2 (by omega) (by omega) 2 (by omega) (by omega) S.1) (ok_k X Y hA KS KR) rfl kl_Ga_By_field ks_By_field kx_By_field ki_By_field ini_By ⟨rfl, rfl⟩ hd_By_field ⟨Nat.le_of_ble_eq_true rfl, Nat.le_of_ble_eq_true rfl⟩ rfl (Nat.le_of_ble_eq_true rfl) d_Ga_judge_57 ⟨Nat.le_of_ble_eq_true rfl, Nat.le_of_ble_eq_true rfl⟩) X Y hA (fun z111 H locs Y p111 => ?_)
        obtain ⟨l111, u111⟩ := p111
        refine lv_istore (lv' := [(7, .int (iI z111)), (0, .ref h), (1, .ref a1), (2, .int (iI a2)), (3, .int (iI a3)), (4, .ref a4), (5, .ref a5), (6, .int (iI a6))]) X.1 X.2.1 d_Ga_judge_60 hl (by decide) rfl (fun ls hl => ?_)
        refine lv_iload X.1 X.2.1 d_Ga_judge_62 (lv_at hl 7 rfl) ?_
        refine lv_bipush (v := iI 11) X.1 X.2.1 d_Ga_judge_64 (by decide) ?_
        have J112 : ∀  (H : Heap) (locs : List Loc) (ls : Array Slot), pH D cCl (pA L sz) s.heap L f H locs → tS E T (tFr κ L [1, 2, 3, 4, 11, 13, 15, 16, 18] []) κ L f κ L f → lv_has ls 9 [(0, .ref h), (1, .ref a1), (2, .int (iI a2)), (4, .ref a4), (5, .ref a5), (6, .int (iI a6))] → W p l e (kRm 72 2392 1 32) s m AV below meth c H locs 0 0 QQ (F0 m 93 ls []) := by
          intro  H locs ls  Y S hl
          refine lv_aload_n X.1 X.2.1 d_Ga_judge_93 rfl (lv_at hl 0 rfl) ?_
          refine lv_aload_n X.1 X.2.1 d_Ga_judge_94 rfl (lv_at hl 1 rfl) ?_
          refine lv_aload_n X.1 X.2.1 d_Ga_judge_95 rfl (lv_at hl 1 rfl) ?_
          refine lv_iload_n X.1 X.2.1 d_Ga_judge_96 rfl (lv_at hl 2 rfl) ?_
          refine lv_iconst (v := iI 3) X.1 X.2.1 d_Ga_judge_97 (by decide) ?_
          refine t_ui (t_runV (As := [.int (iI a2), .int (iI 3)]) (rest := [.ref a1, .ref h]) (n := 2) X Y S k1 hml hl.1 (c_By_field l D E T κ L f H.size a1 n1 k1 (by omega) a2 (by omega) (by omega) 3 (by omega) (by omega) S.1) (ok_k X Y hA KS KR) rfl kl_Ga_By_field ks_By_field kx_By_field ki_By_field ini_By ⟨rfl, rfl⟩ hd_By_field ⟨Nat.le_of_ble_eq_true rfl, Nat.le_of_ble_eq_true rfl⟩ rfl (Nat.le_of_ble_eq_true rfl) d_Ga_judge_98 ⟨Nat.le_of_ble_eq_true rfl, Nat.le_of_ble_eq_true rfl⟩) X Y hA (fun z116 H locs Y p116 => ?_)
          obtain ⟨l116, u116⟩ := p116
          refine lv_aload X.1 X.2.1 d_Ga_judge_101 (lv_at hl 3 rfl) ?_
          refine t_ai (t_runV (As := [.ref a1, .int (iI z116), .ref a4]) (rest := []) (n := 3) X Y S k0 hml hl.1 (c_Ga_openTicket l D E T κ L f H.size h k0 a1 n1 k1 (by omega) z116 (by omega) (by omega) a4 k4 S.1) (ok_k X Y hA KS KR) rfl kl_Ga_Ga_openTicket ks_Ga_openTicket kx_Ga_openTicket ki_Ga_openTicket ini_Ga ⟨rfl, rfl⟩ hd_Ga_openTicket ⟨Nat.le_of_ble_eq_true rfl, Nat.le_of_ble_eq_true rfl⟩ rfl (Nat.le_of_ble_eq_true rfl) d_Ga_judge_103 ⟨Nat.le_of_ble_eq_true rfl, Nat.le_of_ble_eq_true rfl⟩) X Y hA S (by decide) (fun z117 κ117 L117 f117 H locs Y S s117 p117 => ?_)
          obtain ⟨l117, u117⟩ := p117
          have k118 : κ117 h = (15, 0) := tLe_k s117.2.2.1 k0
          have k119 : κ117 a1 = (13, n1) := tLe_k s117.2.2.1 k1
          have k120 : κ117 a4 = (17, 0) := tLe_k s117.2.2.1 k4
          have k121 : κ117 a5 = (18, 0) := tLe_k s117.2.2.1 k5
          refine lv_istore (lv' := [(8, .int (iI z117)), (0, .ref h), (1, .ref a1), (2, .int (iI a2)), (4, .ref a4), (5, .ref a5), (6, .int (iI a6))]) X.1 X.2.1 d_Ga_judge_106 hl (by decide) rfl (fun ls hl => ?_)
          refine lv_iload X.1 X.2.1 d_Ga_judge_108 (lv_at hl 0 rfl) ?_
          have J124 : ∀ (z123 : Int) (f122 : pF) (H : Heap) (locs : List Loc) (ls : Array Slot), ((-2147483648) ≤ z123) → (z123 ≤ 2147483647) → pH D cCl (pA L sz) s.heap L117 f122 H locs → tS E T (tFr κ L [1, 2, 3, 4, 11, 13, 15, 16, 18] []) κ L f κ117 L117 f122 → lv_has ls 9 [(0, .ref h), (5, .ref a5), (8, .int (iI z123))] → W p l e (kRm 72 2392 1 32) s m AV below meth c H locs 1 32 QQ (F0 m 128 ls []) := by
            intro z123 f122 H locs ls l123 u123 Y S hl
            refine lv_iload X.1 X.2.1 d_Ga_judge_128 (lv_at hl 2 rfl) ?_
            refine z_if_ne (tgt := 142) X.1 X.2.1 d_Ga_judge_130 (by decide) ⟨by omega, by omega⟩ (fun h128 => ?_) (fun h128 => ?_)
            · refine lv_iload X.1 X.2.1 d_Ga_judge_142 (lv_at hl 2 rfl) ?_
              exact c_reti hQQ X Y hr hlk ⟨κ117, S, z123, rfl, ⟨by omega, by omega⟩⟩ d_Ga_judge_144
            · refine lv_aload_n X.1 X.2.1 d_Ga_judge_133 rfl (lv_at hl 0 rfl) ?_
              refine lv_aload X.1 X.2.1 d_Ga_judge_134 (lv_at hl 1 rfl) ?_
              refine t_ni (t_runV (As := [.ref a5]) (rest := []) (n := 1) X Y S k118 hml hl.1 (c_Ga_keep l D E T κ117 L117 f122 H.size h k118 a5 k121 S.1) (ok_k X Y hA KS KR) rfl kl_Ga_Ga_keep ks_Ga_keep kx_Ga_keep ki_Ga_keep ini_Ga ⟨rfl, rfl⟩ hd_Ga_keep ⟨Nat.le_of_ble_eq_true rfl, Nat.le_of_ble_eq_true rfl⟩ rfl (Nat.le_of_ble_eq_true rfl) d_Ga_judge_136 ⟨Nat.le_of_ble_eq_true rfl, Nat.le_of_ble_eq_true rfl⟩) X Y hA S (by decide) (fun z129 f129 H locs Y S s129 p129 => ?_)
              obtain ⟨l129, u129⟩ := p129
              refine lv_goto (tgt := 144) X.1 X.2.1 d_Ga_judge_139 (by decide) ?_
              exact c_reti hQQ X Y hr hlk ⟨κ117, S, z129, rfl, ⟨by omega, by omega⟩⟩ d_Ga_judge_144
          refine z_if_ne (tgt := 128) X.1 X.2.1 d_Ga_judge_110 (by decide) ⟨by omega, by omega⟩ (fun h130 => ?_) (fun h130 => ?_)
          · exact J124 z117 f117 _ _ _ (by omega) (by omega) Y S (lv_sub hl [1, 5, 0] rfl)
          · refine lv_aload_n X.1 X.2.1 d_Ga_judge_113 rfl (lv_at hl 1 rfl) ?_
            refine lv_aload_n X.1 X.2.1 d_Ga_judge_114 rfl (lv_at hl 2 rfl) ?_
            refine lv_aload_n X.1 X.2.1 d_Ga_judge_115 rfl (lv_at hl 2 rfl) ?_
            refine lv_iload_n X.1 X.2.1 d_Ga_judge_116 rfl (lv_at hl 3 rfl) ?_
            refine lv_iconst (v := iI 4) X.1 X.2.1 d_Ga_judge_117 (by decide) ?_
            refine t_ui (t_runV (As := [.int (iI a2), .int (iI 4)]) (rest := [.ref a1, .ref h]) (n := 2) X Y S k119 hml hl.1 (c_By_field l D E T κ117 L117 f117 H.size a1 n1 k119 (by omega) a2 (by omega) (by omega) 4 (by omega) (by omega) S.1) (ok_k X Y hA KS KR) rfl kl_Ga_By_field ks_By_field kx_By_field ki_By_field ini_By ⟨rfl, rfl⟩ hd_By_field ⟨Nat.le_of_ble_eq_true rfl, Nat.le_of_ble_eq_true rfl⟩ rfl (Nat.le_of_ble_eq_true rfl) d_Ga_judge_118 ⟨Nat.le_of_ble_eq_true rfl, Nat.le_of_ble_eq_true rfl⟩) X Y hA (fun z131 H locs Y p131 => ?_)
            obtain ⟨l131, u131⟩ := p131
            refine lv_iload X.1 X.2.1 d_Ga_judge_121 (lv_at hl 6 rfl) ?_
            refine t_ni (t_runV (As := [.ref a1, .int (iI z131), .int (iI a6)]) (rest := []) (n := 3) X Y S k118 hml hl.1 (c_Ga_openProof l D E T κ117 L117 f117 H.size h k118 a1 n1 k119 (by omega) z131 (by omega) (by omega) a6 (by omega) (by omega) S.1) (ok_k X Y hA KS KR) rfl kl_Ga_Ga_openProof ks_Ga_openProof kx_Ga_openProof ki_Ga_openProof ini_Ga ⟨rfl, rfl⟩ hd_Ga_openProof ⟨Nat.le_of_ble_eq_true rfl, Nat.le_of_ble_eq_true rfl⟩ rfl (Nat.le_of_ble_eq_true rfl) d_Ga_judge_123 ⟨Nat.le_of_ble_eq_true rfl, Nat.le_of_ble_eq_true rfl⟩) X Y hA S (by decide) (fun z132 f132 H locs Y S s132 p132 => ?_)
            obtain ⟨l132, u132⟩ := p132
            refine lv_istore (lv' := [(8, .int (iI z132)), (0, .ref h), (1, .ref a1), (2, .int (iI a2)), (4, .ref a4), (5, .ref a5), (6, .int (iI a6))]) X.1 X.2.1 d_Ga_judge_126 hl (by decide) rfl (fun ls hl => ?_)
            exact J124 z132 f132 _ _ _ (by omega) (by omega) Y S (lv_sub hl [1, 5, 0] rfl)
        refine z_icmp_ne (tgt := 93) X.1 X.2.1 d_Ga_judge_66 (by decide) ⟨by omega, by omega⟩ ⟨by omega, by omega⟩ (fun h133 => ?_) (fun h133 => ?_)
        · exact J112  _ _ _  Y S (lv_sub hl [1, 2, 3, 5, 6, 7] rfl)
        · refine lv_aload_n X.1 X.2.1 d_Ga_judge_69 rfl (lv_at hl 2 rfl) ?_
          refine lv_iload X.1 X.2.1 d_Ga_judge_70 (lv_at hl 0 rfl) ?_
          refine t_ui (t_runV (As := [.int (iI z111)]) (rest := []) (n := 1) X Y S k1 hml hl.1 (c_By_bitsAt l D E T κ L f H.size a1 n1 k1 (by omega) z111 (by omega) (by omega) S.1) (ok_k X Y hA KS KR) rfl kl_Ga_By_bitsAt ks_By_bitsAt kx_By_bitsAt ki_By_bitsAt ini_By ⟨rfl, rfl⟩ hd_By_bitsAt ⟨Nat.le_of_ble_eq_true rfl, Nat.le_of_ble_eq_true rfl⟩ rfl (Nat.le_of_ble_eq_true rfl) d_Ga_judge_72 ⟨Nat.le_of_ble_eq_true rfl, Nat.le_of_ble_eq_true rfl⟩) X Y hA (fun z134 H locs Y p134 => ?_)
          obtain ⟨l134, u134⟩ := p134
          refine lv_ldc (v := (-536870913)) X.1 X.2.1 X.2.2.2.1 (X.2.2.1 _ cn_Ga_58) d_Ga_judge_75 ?_
          refine t_eq (y := iI (-536870913)) (by decide) ?_
          refine lv_iand X.1 X.2.1 d_Ga_judge_77 ?_
          refine t_u (fun z136 l136 u136 => ?_)
          refine z_if_ne (tgt := 90) X.1 X.2.1 d_Ga_judge_78 (by decide) ⟨by omega, by omega⟩ (fun h137 => ?_) (fun h137 => ?_)
          · refine lv_bipush (v := iI 13) X.1 X.2.1 d_Ga_judge_90 (by decide) ?_
            refine W.widen (k := 1) (n := 32) (Nat.le_of_ble_eq_true rfl) (Nat.le_of_ble_eq_true rfl) ?_
            exact c_reti hQQ X Y hr hlk ⟨κ, S, 13, rfl, ⟨by omega, by omega⟩⟩ d_Ga_judge_92
          · refine lv_aload_n X.1 X.2.1 d_Ga_judge_81 rfl (lv_at hl 2 rfl) ?_
            refine lv_iload X.1 X.2.1 d_Ga_judge_82 (lv_at hl 0 rfl) ?_
            refine t_ui (t_runV (As := [.int (iI z111)]) (rest := []) (n := 1) X Y S k1 hml hl.1 (c_By_hasFarBits l D E T κ L f H.size a1 n1 k1 (by omega) z111 (by omega) (by omega) S.1) (ok_k X Y hA KS KR) rfl kl_Ga_By_hasFarBits ks_By_hasFarBits kx_By_hasFarBits ki_By_hasFarBits ini_By ⟨rfl, rfl⟩ hd_By_hasFarBits ⟨Nat.le_of_ble_eq_true rfl, Nat.le_of_ble_eq_true rfl⟩ rfl (Nat.le_of_ble_eq_true rfl) d_Ga_judge_84 ⟨Nat.le_of_ble_eq_true rfl, Nat.le_of_ble_eq_true rfl⟩) X Y hA (fun z138 H locs Y p138 => ?_)
            obtain ⟨l138, u138⟩ := p138
            refine z_if_eq (tgt := 93) X.1 X.2.1 d_Ga_judge_87 (by decide) ⟨by omega, by omega⟩ (fun h139 => ?_) (fun h139 => ?_)
            · exact J112  _ _ _  Y S (lv_sub hl [1, 2, 3, 5, 6, 7] rfl)
            · refine lv_bipush (v := iI 13) X.1 X.2.1 d_Ga_judge_90 (by decide) ?_
              refine W.widen (k := 1) (n := 32) (Nat.le_of_ble_eq_true rfl) (Nat.le_of_ble_eq_true rfl) ?_
              exact c_reti hQQ X Y hr hlk ⟨κ, S, 13, rfl, ⟨by omega, by omega⟩⟩ d_Ga_judge_92
      · refine lv_bipush (v := iI 40) X.1 X.2.1 d_Ga_judge_51 (by decide) ?_
        refine W.widen (k := 1) (n := 32) (Nat.le_of_ble_eq_true rfl) (Nat.le_of_ble_eq_true rfl) ?_
        exact c_reti hQQ X Y hr hlk ⟨κ, S, 40, rfl, ⟨by omega, by omega⟩⟩ d_Ga_judge_53
    · refine lv_iconst (v := iI 3) X.1 X.2.1 d_Ga_judge_32 (by decide) ?_
      refine W.widen (k := 1) (n := 32) (Nat.le_of_ble_eq_true rfl) (Nat.le_of_ble_eq_true rfl) ?_
      exact c_reti hQQ X Y hr hlk ⟨κ, S, 3, rfl, ⟨by omega, by omega⟩⟩ d_Ga_judge_33
  · refine lv_bipush (v := iI 60) X.1 X.2.1 d_Ga_judge_12 (by decide) ?_
    refine W.widen (k := 1) (n := 32) (Nat.le_of_ble_eq_true rfl) (Nat.le_of_ble_eq_true rfl) ?_
    exact c_reti hQQ X Y hr hlk ⟨κ, S, 60, rfl, ⟨by omega, by omega⟩⟩ d_Ga_judge_14
set_option maxHeartbeats 4000000 in
set_option maxRecDepth 100000 in
theorem c_Ga_judgeVisit (l : Launch) (D : va_G) (E : cE) (T : cT) (κ : tK) (L : List Nat) (f : pF) (sz : Nat) (h : Nat) (k0 : κ h = (15, 0)) (a1 : Nat) (k1 : κ a1 = (17, 0)) (a2 : Int) (l_a2 : 0 ≤ a2) (u_a2 : a2 ≤ 1) (hw : tW E T κ L f) : Met l y_Ga_judgeVisit (k_Ga_judgeVisit :: lw_tg) (kRm 6 171 1 32) (va_Pc [.ref h, .ref a1, .int (iI a2)] (kPre D E T L f sz)) (va_Qi (aPi E T [1] [] κ L f (fun (z : Int) (k : tK) (g : pF) => (-2147483648) ≤ z ∧ z ≤ 2147483647 ∧ (z = 0 → a2 = 1))) (cPost D E (pA L sz)) (pA L sz)) 1 32 (pA L sz) := by
  refine k_enter (own := R_Ga) (by decide) rfl (Nat.le_of_ble_eq_true rfl) (fun p e s m below meth c ls AV QQ H locs hQQ X Y hA hin hr hlk hml hl KS KR => ?_)
  have hl : lv_has ls 5 [(0, .ref h), (1, .ref a1), (2, .int (iI a2))] := hl
  have S : tS E T (tFr κ L [1] []) κ L f κ L f := tS_rf hw
  have hF0 : ∀ b, tFr κ L [1] [] b → b ∈ L := fun b h9 => h9.1
  refine lv_aload_n X.1 X.2.1 d_Ga_judgeVisit_0 rfl (lv_at hl 0 rfl) ?_
  refine t_ui (t_runV (As := []) (rest := []) (n := 0) X Y S k0 hml hl.1 (c_Ga_judgeTimes l D E T κ L f H.size h k0 S.1) (ok_k X Y hA KS KR) rfl kl_Ga_Ga_judgeTimes ks_Ga_judgeTimes kx_Ga_judgeTimes ki_Ga_judgeTimes ini_Ga ⟨rfl, rfl⟩ hd_Ga_judgeTimes ⟨Nat.le_of_ble_eq_true rfl, Nat.le_of_ble_eq_true rfl⟩ rfl (Nat.le_of_ble_eq_true rfl) d_Ga_judgeVisit_1 ⟨Nat.le_of_ble_eq_true rfl, Nat.le_of_ble_eq_true rfl⟩) X Y hA (fun z101 H locs Y p101 => ?_)
  obtain ⟨l101, u101⟩ := p101
  refine lv_istore_n (lv' := [(3, .int (iI z101)), (0, .ref h), (1, .ref a1), (2, .int (iI a2))]) X.1 X.2.1 d_Ga_judgeVisit_4 rfl hl (by decide) rfl (fun ls hl => ?_)
  refine lv_aload_n X.1 X.2.1 d_Ga_judgeVisit_5 rfl (lv_at hl 1 rfl) ?_
  refine t_getr (ci := 5) X Y S k0 rfl i_Ga 2 (by decide) rfl (k1 := 13) (k2 := 4000) rfl rfl lk_Ga_20 (fun _ h9 => h9) d_Ga_judgeVisit_6 (fun b102 e102 k102 => ?_)
  refine lv_iconst (v := iI 0) X.1 X.2.1 d_Ga_judgeVisit_9 (by decide) ?_
  refine lv_bipush (v := iI 6) X.1 X.2.1 d_Ga_judgeVisit_10 (by decide) ?_
  refine t_ui (t_runV (As := [.int (iI 0), .int (iI 6)]) (rest := []) (n := 2) X Y S k102 hml hl.1 (c_By_field l D E T κ L f H.size b102 4000 k102 (by omega) 0 (by omega) (by omega) 6 (by omega) (by omega) S.1) (ok_k X Y hA KS KR) rfl kl_Ga_By_field ks_By_field kx_By_field ki_By_field ini_By ⟨rfl, rfl⟩ hd_By_field ⟨Nat.le_of_ble_eq_true rfl, Nat.le_of_ble_eq_true rfl⟩ rfl (Nat.le_of_ble_eq_true rfl) d_Ga_judgeVisit_12 ⟨Nat.le_of_ble_eq_true rfl, Nat.le_of_ble_eq_true rfl⟩) X Y hA (fun z103 H locs Y p103 => ?_)
  obtain ⟨l103, u103⟩ := p103
  refine lv_istore (lv' := [(4, .int (iI z103)), (3, .int (iI z101)), (0, .ref h), (1, .ref a1), (2, .int (iI a2))]) X.1 X.2.1 d_Ga_judgeVisit_15 hl (by decide) rfl (fun ls hl => ?_)
  refine lv_iload_n X.1 X.2.1 d_Ga_judgeVisit_17 rfl (lv_at hl 1 rfl) ?_
  refine z_if_eq (tgt := 23) X.1 X.2.1 d_Ga_judgeVisit_18 (by decide) ⟨by omega, by omega⟩ (fun h104 => ?_) (fun h104 => ?_)
  · refine lv_iload X.1 X.2.1 d_Ga_judgeVisit_23 (lv_at hl 0 rfl) ?_
    have J109 : ∀ (κ106 : tK) (L107 : List Nat) (f105 : pF) (H : Heap) (locs : List Loc) (ls : Array Slot), (κ106 a1 = (17, 0)) → pH D cCl (pA L sz) s.heap L107 f105 H locs → tS E T (tFr κ L [1] []) κ L f κ106 L107 f105 → lv_has ls 5 [(1, .ref a1), (2, .int (iI a2))] → W p l e (kRm 6 171 1 32) s m AV below meth c H locs 1 32 QQ (F0 m 44 ls []) := by
      intro κ106 L107 f105 H locs ls k108 Y S hl
      refine lv_aload_n X.1 X.2.1 d_Ga_judgeVisit_44 rfl (lv_at hl 0 rfl) ?_
      refine lv_bipush (v := iI 32) X.1 X.2.1 d_Ga_judgeVisit_45 (by decide) ?_
      refine t_ui (t_runV (As := [.int (iI 32)]) (rest := []) (n := 1) X Y S k108 hml hl.1 (c_Pr_is l D E T κ106 L107 f105 H.size a1 k108 32 (by omega) (by omega) S.1) (ok_k X Y hA KS KR) rfl kl_Ga_Pr_is ks_Pr_is kx_Pr_is ki_Pr_is ini_Pr ⟨rfl, rfl⟩ hd_Pr_is ⟨Nat.le_of_ble_eq_true rfl, Nat.le_of_ble_eq_true rfl⟩ rfl (Nat.le_of_ble_eq_true rfl) d_Ga_judgeVisit_47 ⟨Nat.le_of_ble_eq_true rfl, Nat.le_of_ble_eq_true rfl⟩) X Y hA (fun z113 H locs Y p113 => ?_)
      obtain ⟨l113, u113⟩ := p113
      refine z_if_eq (tgt := 56) X.1 X.2.1 d_Ga_judgeVisit_50 (by decide) ⟨by omega, by omega⟩ (fun h114 => ?_) (fun h114 => ?_)
      · refine lv_iload_n X.1 X.2.1 d_Ga_judgeVisit_56 rfl (lv_at hl 1 rfl) ?_
        refine z_if_eq (tgt := 64) X.1 X.2.1 d_Ga_judgeVisit_57 (by decide) ⟨by omega, by omega⟩ (fun h115 => ?_) (fun h115 => ?_)
        · refine lv_bipush (v := iI 29) X.1 X.2.1 d_Ga_judgeVisit_64 (by decide) ?_
          exact c_reti hQQ X Y hr hlk ⟨κ106, S, 29, rfl, ⟨by omega, by omega, by omega⟩⟩ d_Ga_judgeVisit_66
        · refine lv_iconst (v := iI 0) X.1 X.2.1 d_Ga_judgeVisit_60 (by decide) ?_
          refine lv_goto (tgt := 66) X.1 X.2.1 d_Ga_judgeVisit_61 (by decide) ?_
          exact c_reti hQQ X Y hr hlk ⟨κ106, S, 0, rfl, ⟨by omega, by omega, by omega⟩⟩ d_Ga_judgeVisit_66
      · refine lv_bipush (v := iI 18) X.1 X.2.1 d_Ga_judgeVisit_53 (by decide) ?_
        exact c_reti hQQ X Y hr hlk ⟨κ106, S, 18, rfl, ⟨by omega, by omega, by omega⟩⟩ d_Ga_judgeVisit_55
    refine z_if_lt (tgt := 44) X.1 X.2.1 d_Ga_judgeVisit_25 (by decide) ⟨by omega, by omega⟩ (fun h116 => ?_) (fun h116 => ?_)
    · refine W.widen (k := 1) (n := 32) (Nat.le_of_ble_eq_true rfl) (Nat.le_of_ble_eq_true rfl) ?_
      exact J109 κ L f _ _ _ k1 Y S (lv_sub hl [3, 4] rfl)
    · refine lv_aload_n X.1 X.2.1 d_Ga_judgeVisit_28 rfl (lv_at hl 2 rfl) ?_
      refine t_get0 (ci := 5) X Y S k0 rfl i_Ga 2 (by decide) rfl lk_Ga_20 (fun _ h9 => h9) d_Ga_judgeVisit_29 e102 ?_
      refine lv_iload X.1 X.2.1 d_Ga_judgeVisit_32 (lv_at hl 0 rfl) ?_
      refine t_ar (x_runS (As := [.ref b102, .int (iI z103)]) (rest := []) (n := 2) X hml hl.1 (c_Va_keyAt l D E T κ L f H.size b102 4000 k102 (by omega) z103 (by omega) (by omega) S.1) (ok_k X Y hA KS KR) kl_Ga_Va_keyAt ks_Va_keyAt ki_Va_keyAt ini_Va ⟨rfl, rfl⟩ hd_Va_keyAt.2 ⟨Nat.le_of_ble_eq_true rfl, Nat.le_of_ble_eq_true rfl⟩ rfl (Nat.le_of_ble_eq_true rfl) d_Ga_judgeVisit_34 ⟨Nat.le_of_ble_eq_true rfl, Nat.le_of_ble_eq_true rfl⟩) X Y hA S (by decide) (fun b117 κ117 L117 f117 H locs Y S s117 p117 => ?_)
      obtain ⟨n117, k117⟩ := p117
      have x117 := tKey_n k117
      have k118 : κ117 h = (15, 0) := tLe_k s117.2.2.1 k0
      have k119 : κ117 a1 = (17, 0) := tLe_k s117.2.2.1 k1
      refine t_alen X Y S KS (tKey_src k117) (by omega) d_Ga_judgeVisit_37 ?_
      refine z_if_ne (tgt := 44) X.1 X.2.1 d_Ga_judgeVisit_38 (by decide) ⟨by omega, by omega⟩ (fun h120 => ?_) (fun h120 => ?_)
      · exact J109 κ117 L117 f117 _ _ _ k119 Y S (lv_sub hl [3, 4] rfl)
      · refine lv_bipush (v := iI 14) X.1 X.2.1 d_Ga_judgeVisit_41 (by decide) ?_
        exact c_reti hQQ X Y hr hlk ⟨κ117, S, 14, rfl, ⟨by omega, by omega, by omega⟩⟩ d_Ga_judgeVisit_43
  · refine lv_iload_n X.1 X.2.1 d_Ga_judgeVisit_21 rfl (lv_at hl 1 rfl) ?_
    refine W.widen (k := 1) (n := 32) (Nat.le_of_ble_eq_true rfl) (Nat.le_of_ble_eq_true rfl) ?_
    exact c_reti hQQ X Y hr hlk ⟨κ, S, z101, rfl, ⟨by omega, by omega, by omega⟩⟩ d_Ga_judgeVisit_22
