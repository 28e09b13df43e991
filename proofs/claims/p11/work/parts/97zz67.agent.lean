set_option maxHeartbeats 4000000 in
set_option maxRecDepth 100000 in
theorem c_Ag_time (l : Launch) (D : va_G) (E : cE) (T : cT) (κ : tK) (L : List Nat) (f : pF) (sz : Nat) (h : Nat) (k0 : κ h = (12, 0)) (hw : tW E T κ L f) : Met l y_Ag_time (k_Ag_time :: lw_tg) (kRm 1 60 0 0) (va_Pc [.ref h] (kPre D E T L f sz)) (va_Qi (uPi L f (fun (z : Int) => 0 ≤ z ∧ z ≤ 2100000000)) (cPost D E (pA L sz)) (pA L sz)) 0 0 (pA L sz) := by
  refine k_enter (own := R_Ag) (by decide) rfl (Nat.le_of_ble_eq_true rfl) (fun p e s m below meth c ls AV QQ H locs hQQ X Y hA hin hr hlk hml hl KS KR => ?_)
  have hl : lv_has ls 1 [(0, .ref h)] := hl
  have S : tS E T (tFr κ L [] []) κ L f κ L f := tS_rf hw
  refine lv_iconst (v := iI 0) X.1 X.2.1 d_Ag_time_0 (by decide) ?_
  refine lv_ldc (v := (2100000000)) X.1 X.2.1 X.2.2.2.1 (X.2.2.1 _ cn_Ag_90) d_Ag_time_1 ?_
  refine t_eq (y := iI 2100000000) (by decide) ?_
  refine lv_aload_n X.1 X.2.1 d_Ag_time_3 rfl (lv_at hl 0 rfl) ?_
  refine t_getr (ci := 2) X Y S k0 rfl i_Ag 0 (by decide) rfl (k1 := 21) (k2 := 0) rfl rfl lk_Ag_42 (fun _ h9 => h9) d_Ag_time_4 (fun b101 e101 k101 => ?_)
  refine t_geti (ci := 11) X Y S k101 rfl i_Va 0 (by decide) rfl lk_Ag_91 (fun _ h9 => h9) d_Ag_time_7 (fun z102 e102 l102 u102 => ?_)
  refine lv_aload_n X.1 X.2.1 d_Ag_time_10 rfl (lv_at hl 0 rfl) ?_
  refine t_geti (ci := 2) X Y S k0 rfl i_Ag 3 (by decide) rfl lk_Ag_68 (fun _ h9 => h9) d_Ag_time_11 (fun z103 e103 l103 u103 => ?_)
  refine lv_iadd X.1 X.2.1 d_Ag_time_14 ?_
  refine t_u (fun z104 l104 u104 => ?_)
  refine z_min X.1 X.2.1 (hml.trans hl.1.symm) X.2.2.2.1 (X.2.2.1 _ kl_Ag_mmin) (X.2.2.1 _ ks_mmin) (X.2.2.1 _ ini_Math) (X.2.2.1 _ ki_mmin) (Nat.le_of_ble_eq_true rfl) (Nat.le_of_ble_eq_true rfl) (Nat.le_of_ble_eq_true rfl) (Nat.le_of_ble_eq_true rfl) ⟨by omega, by omega⟩ ⟨by omega, by omega⟩ d_Ag_time_15 (fun z105 l105 u105 x105 => ?_)
  refine z_max X.1 X.2.1 (hml.trans hl.1.symm) X.2.2.2.1 (X.2.2.1 _ kl_Ag_mmax) (X.2.2.1 _ ks_mmax) (X.2.2.1 _ ini_Math) (X.2.2.1 _ ki_mmax) (Nat.le_of_ble_eq_true rfl) (Nat.le_of_ble_eq_true rfl) (Nat.le_of_ble_eq_true rfl) (Nat.le_of_ble_eq_true rfl) ⟨by omega, by omega⟩ ⟨by omega, by omega⟩ d_Ag_time_18 (fun z106 l106 u106 x106 => ?_)
  exact c_reti hQQ X Y hr hlk ⟨rfl, rfl, z106, rfl, ⟨by omega, by omega⟩⟩ d_Ag_time_21
set_option maxHeartbeats 4000000 in
set_option maxRecDepth 100000 in
theorem c_Ag_has (l : Launch) (D : va_G) (E : cE) (T : cT) (κ : tK) (L : List Nat) (f : pF) (sz : Nat) (h : Nat) (k0 : κ h = (12, 0)) (a1 : Int) (l_a1 : (-2147483648) ≤ a1) (u_a1 : a1 ≤ 2147483647) (hw : tW E T κ L f) : Met l y_Ag_has (k_Ag_has :: lw_tg) (kRm 1 60 0 0) (va_Pc [.ref h, .int (iI a1)] (kPre D E T L f sz)) (va_Qi (uPi L f (fun (z : Int) => 0 ≤ z ∧ z ≤ 1 ∧ (z = 1 → 0 ≤ a1 ∧ a1 ≤ 7))) (cPost D E (pA L sz)) (pA L sz)) 0 0 (pA L sz) := by
  refine k_enter (own := R_Ag) (by decide) rfl (Nat.le_of_ble_eq_true rfl) (fun p e s m below meth c ls AV QQ H locs hQQ X Y hA hin hr hlk hml hl KS KR => ?_)
  have hl : lv_has ls 2 [(0, .ref h), (1, .int (iI a1))] := hl
  have S : tS E T (tFr κ L [] []) κ L f κ L f := tS_rf hw
  refine lv_iload_n X.1 X.2.1 d_Ag_has_0 rfl (lv_at hl 1 rfl) ?_
  refine z_if_lt (tgt := 26) X.1 X.2.1 d_Ag_has_1 (by decide) ⟨by omega, by omega⟩ (fun h101 => ?_) (fun h101 => ?_)
  · refine lv_iconst (v := iI 0) X.1 X.2.1 d_Ag_has_26 (by decide) ?_
    exact c_retz hQQ X Y hr hlk (iI_bool (by omega) (by omega)).1 ⟨rfl, rfl, 0, rfl, ⟨by omega, by omega, by omega⟩⟩ d_Ag_has_27
  · refine lv_iload_n X.1 X.2.1 d_Ag_has_4 rfl (lv_at hl 1 rfl) ?_
    refine lv_bipush (v := iI 8) X.1 X.2.1 d_Ag_has_5 (by decide) ?_
    refine z_icmp_ge (tgt := 26) X.1 X.2.1 d_Ag_has_7 (by decide) ⟨by omega, by omega⟩ ⟨by omega, by omega⟩ (fun h102 => ?_) (fun h102 => ?_)
    · refine lv_iconst (v := iI 0) X.1 X.2.1 d_Ag_has_26 (by decide) ?_
      exact c_retz hQQ X Y hr hlk (iI_bool (by omega) (by omega)).1 ⟨rfl, rfl, 0, rfl, ⟨by omega, by omega, by omega⟩⟩ d_Ag_has_27
    · refine lv_aload_n X.1 X.2.1 d_Ag_has_10 rfl (lv_at hl 0 rfl) ?_
      refine t_getr (ci := 2) X Y S k0 rfl i_Ag 1 (by decide) rfl (k1 := 8) (k2 := 8) rfl rfl lk_Ag_48 (fun _ h9 => h9) d_Ag_has_11 (fun b103 e103 k103 => ?_)
      refine lv_iload_n X.1 X.2.1 d_Ag_has_14 rfl (lv_at hl 1 rfl) ?_
      refine t_aald X Y S k103 (fun h9 => h9) (t0 := 5) rfl (by omega) (by omega) (by omega) d_Ag_has_15 (fun b104 e104 k104 => ?_)
      refine t_geti (ci := 10) X Y S k104 rfl i_Ti 3 (by decide) rfl lk_Ag_63 (fun _ h9 => h9) d_Ag_has_16 (fun z105 e105 l105 u105 => ?_)
      refine z_if_eq (tgt := 26) X.1 X.2.1 d_Ag_has_19 (by decide) ⟨by omega, by omega⟩ (fun h106 => ?_) (fun h106 => ?_)
      · refine lv_iconst (v := iI 0) X.1 X.2.1 d_Ag_has_26 (by decide) ?_
        exact c_retz hQQ X Y hr hlk (iI_bool (by omega) (by omega)).1 ⟨rfl, rfl, 0, rfl, ⟨by omega, by omega, by omega⟩⟩ d_Ag_has_27
      · refine lv_iconst (v := iI 1) X.1 X.2.1 d_Ag_has_22 (by decide) ?_
        refine lv_goto (tgt := 27) X.1 X.2.1 d_Ag_has_23 (by decide) ?_
        exact c_retz hQQ X Y hr hlk (iI_bool (by omega) (by omega)).1 ⟨rfl, rfl, 1, rfl, ⟨by omega, by omega, by omega⟩⟩ d_Ag_has_27
set_option maxHeartbeats 4000000 in
set_option maxRecDepth 100000 in
theorem c_Ag_freePlace (l : Launch) (D : va_G) (E : cE) (T : cT) (κ : tK) (L : List Nat) (f : pF) (sz : Nat) (h : Nat) (k0 : κ h = (12, 0)) (hw : tW E T κ L f) : Met l y_Ag_freePlace (k_Ag_freePlace :: lw_tg) (kRm 1 60 0 0) (va_Pc [.ref h] (kPre D E T L f sz)) (va_Qi (uPi L f (fun (z : Int) => (-2) ≤ z ∧ z ≤ 7)) (cPost D E (pA L sz)) (pA L sz)) 0 0 (pA L sz) := by
  refine k_enter (own := R_Ag) (by decide) rfl (Nat.le_of_ble_eq_true rfl) (fun p e s m below meth c ls AV QQ H locs hQQ X Y hA hin hr hlk hml hl KS KR => ?_)
  have hl : lv_has ls 2 [(0, .ref h)] := hl
  have S : tS E T (tFr κ L [] []) κ L f κ L f := tS_rf hw
  refine lv_iconst (v := iI 0) X.1 X.2.1 d_Ag_freePlace_0 (by decide) ?_
  have J102 : ∀ (n104 : Nat) (z101 : Int) (H : Heap) (locs : List Loc) (ls : Array Slot), (8 - z101).toNat = n104 → (0 ≤ z101) → (z101 ≤ 8) → pH D cCl (pA L sz) s.heap L f H locs → tS E T (tFr κ L [] []) κ L f κ L f → lv_has ls 2 [(0, .ref h), (1, .int (iI z101))] → W p l e (kRm 1 60 0 0) s m AV below meth c H locs 0 0 QQ (F0 m 2 ls []) := by
    intro n104
    induction n104 using Nat.strongRecOn with
    | ind n104 ih103 =>
      intro z101 H locs ls hm105 l101 u101 Y S hl
      refine lv_iload_n X.1 X.2.1 d_Ag_freePlace_2 rfl (lv_at hl 1 rfl) ?_
      refine lv_bipush (v := iI 8) X.1 X.2.1 d_Ag_freePlace_3 (by decide) ?_
      have J106 : ∀  (H : Heap) (locs : List Loc) (ls : Array Slot), pH D cCl (pA L sz) s.heap L f H locs → tS E T (tFr κ L [] []) κ L f κ L f → lv_has ls 2 [(1, .int (iI z101))] → W p l e (kRm 1 60 0 0) s m AV below meth c H locs 0 0 QQ (F0 m 26 ls []) := by
        intro  H locs ls  Y S hl
        refine lv_iload_n X.1 X.2.1 d_Ag_freePlace_26 rfl (lv_at hl 0 rfl) ?_
        refine lv_bipush (v := iI 8) X.1 X.2.1 d_Ag_freePlace_27 (by decide) ?_
        refine z_icmp_ge (tgt := 36) X.1 X.2.1 d_Ag_freePlace_29 (by decide) ⟨by omega, by omega⟩ ⟨by omega, by omega⟩ (fun h110 => ?_) (fun h110 => ?_)
        · refine lv_bipush (v := iI (-2)) X.1 X.2.1 d_Ag_freePlace_36 (by decide) ?_
          exact c_reti hQQ X Y hr hlk ⟨rfl, rfl, (-2), rfl, ⟨by omega, by omega⟩⟩ d_Ag_freePlace_38
        · refine lv_iload_n X.1 X.2.1 d_Ag_freePlace_32 rfl (lv_at hl 0 rfl) ?_
          refine lv_goto (tgt := 38) X.1 X.2.1 d_Ag_freePlace_33 (by decide) ?_
          exact c_reti hQQ X Y hr hlk ⟨rfl, rfl, z101, rfl, ⟨by omega, by omega⟩⟩ d_Ag_freePlace_38
      refine z_icmp_ge (tgt := 26) X.1 X.2.1 d_Ag_freePlace_5 (by decide) ⟨by omega, by omega⟩ ⟨by omega, by omega⟩ (fun h111 => ?_) (fun h111 => ?_)
      · exact J106  _ _ _  Y S (lv_sub hl [1] rfl)
      · refine lv_aload_n X.1 X.2.1 d_Ag_freePlace_8 rfl (lv_at hl 0 rfl) ?_
        refine t_getr (ci := 2) X Y S k0 rfl i_Ag 1 (by decide) rfl (k1 := 8) (k2 := 8) rfl rfl lk_Ag_48 (fun _ h9 => h9) d_Ag_freePlace_9 (fun b112 e112 k112 => ?_)
        refine lv_iload_n X.1 X.2.1 d_Ag_freePlace_12 rfl (lv_at hl 1 rfl) ?_
        refine t_aald X Y S k112 (fun h9 => h9) (t0 := 5) rfl (by omega) (by omega) (by omega) d_Ag_freePlace_13 (fun b113 e113 k113 => ?_)
        refine t_geti (ci := 10) X Y S k113 rfl i_Ti 3 (by decide) rfl lk_Ag_63 (fun _ h9 => h9) d_Ag_freePlace_14 (fun z114 e114 l114 u114 => ?_)
        refine z_if_eq (tgt := 26) X.1 X.2.1 d_Ag_freePlace_17 (by decide) ⟨by omega, by omega⟩ (fun h115 => ?_) (fun h115 => ?_)
        · exact J106  _ _ _  Y S (lv_sub hl [1] rfl)
        · refine lv_iinc (v := iI (z101 + 1)) (lv' := [(1, .int (iI (z101 + 1))), (0, .ref h)]) X.1 X.2.1 d_Ag_freePlace_20 hl (k := 1) rfl ((iI_add _ _).trans (congrArg iI (by omega))) (by decide) rfl (fun ls hl => ?_)
          refine lv_goto (tgt := 2) X.1 X.2.1 d_Ag_freePlace_23 (by decide) ?_
          exact ih103 ((8 - (z101 + 1)).toNat) (by omega) (z101 + 1) _ _ _ rfl (by omega) (by omega) Y S (lv_sub hl [1, 0] rfl)
  refine lv_istore_n (lv' := [(1, .int (iI 0)), (0, .ref h)]) X.1 X.2.1 d_Ag_freePlace_1 rfl hl (by decide) rfl (fun ls hl => ?_)
  exact J102 _ 0 _ _ _ rfl (by omega) (by omega) Y S (lv_sub hl [1, 0] rfl)
set_option maxHeartbeats 4000000 in
set_option maxRecDepth 100000 in
theorem c_Ag_isAsked (l : Launch) (D : va_G) (E : cE) (T : cT) (κ : tK) (L : List Nat) (f : pF) (sz : Nat) (h : Nat) (k0 : κ h = (12, 0)) (a1 : Int64) (hw : tW E T κ L f) : Met l y_Ag_isAsked (k_Ag_isAsked :: lw_tg) (kRm 1 60 0 0) (va_Pc [.ref h, .long a1] (kPre D E T L f sz)) (va_Qi (uPi L f (fun (z : Int) => 0 ≤ z ∧ z ≤ 1)) (cPost D E (pA L sz)) (pA L sz)) 0 0 (pA L sz) := by
  refine k_enter (own := R_Ag) (by decide) rfl (Nat.le_of_ble_eq_true rfl) (fun p e s m below meth c ls AV QQ H locs hQQ X Y hA hin hr hlk hml hl KS KR => ?_)
  have hl : lv_has ls 3 [(0, .ref h), (1, .long a1)] := hl
  have S : tS E T (tFr κ L [] []) κ L f κ L f := tS_rf hw
  refine lv_lload_n X.1 X.2.1 d_Ag_isAsked_0 rfl (lv_at hl 1 rfl) ?_
  refine lv_ldc2 (v := (17)) X.1 X.2.1 X.2.2.2.1 (X.2.2.1 _ cl_Ag_103) d_Ag_isAsked_1 ?_
  refine W.lcmp X.1 X.2.1 d_Ag_isAsked_4 ?_
  refine t_u (fun z101 l101 u101 => ?_)
  have J102 : ∀  (H : Heap) (locs : List Loc) (ls : Array Slot), pH D cCl (pA L sz) s.heap L f H locs → tS E T (tFr κ L [] []) κ L f κ L f → lv_has ls 3 [(0, .ref h), (1, .long a1)] → W p l e (kRm 1 60 0 0) s m AV below meth c H locs 0 0 QQ (F0 m 16 ls []) := by
    intro  H locs ls  Y S hl
    refine lv_lload_n X.1 X.2.1 d_Ag_isAsked_16 rfl (lv_at hl 1 rfl) ?_
    refine lv_ldc2 (v := (18)) X.1 X.2.1 X.2.2.2.1 (X.2.2.1 _ cl_Ag_108) d_Ag_isAsked_17 ?_
    refine W.lcmp X.1 X.2.1 d_Ag_isAsked_20 ?_
    refine t_u (fun z106 l106 u106 => ?_)
    refine z_if_ne (tgt := 36) X.1 X.2.1 d_Ag_isAsked_21 (by decide) ⟨by omega, by omega⟩ (fun h107 => ?_) (fun h107 => ?_)
    · refine lv_iconst (v := iI 0) X.1 X.2.1 d_Ag_isAsked_36 (by decide) ?_
      exact c_retz hQQ X Y hr hlk (iI_bool (by omega) (by omega)).1 ⟨rfl, rfl, 0, rfl, ⟨by omega, by omega⟩⟩ d_Ag_isAsked_37
    · refine lv_aload_n X.1 X.2.1 d_Ag_isAsked_24 rfl (lv_at hl 0 rfl) ?_
      refine t_geti (ci := 2) X Y S k0 rfl i_Ag 11 (by decide) rfl lk_Ag_105 (fun _ h9 => h9) d_Ag_isAsked_25 (fun z108 e108 l108 u108 => ?_)
      refine lv_iconst (v := iI 1) X.1 X.2.1 d_Ag_isAsked_28 (by decide) ?_
      refine z_icmp_eq (tgt := 36) X.1 X.2.1 d_Ag_isAsked_29 (by decide) ⟨by omega, by omega⟩ ⟨by omega, by omega⟩ (fun h109 => ?_) (fun h109 => ?_)
      · refine lv_iconst (v := iI 0) X.1 X.2.1 d_Ag_isAsked_36 (by decide) ?_
        exact c_retz hQQ X Y hr hlk (iI_bool (by omega) (by omega)).1 ⟨rfl, rfl, 0, rfl, ⟨by omega, by omega⟩⟩ d_Ag_isAsked_37
      · refine lv_iconst (v := iI 1) X.1 X.2.1 d_Ag_isAsked_32 (by decide) ?_
        refine lv_goto (tgt := 37) X.1 X.2.1 d_Ag_isAsked_33 (by decide) ?_
        exact c_retz hQQ X Y hr hlk (iI_bool (by omega) (by omega)).1 ⟨rfl, rfl, 1, rfl, ⟨by omega, by omega⟩⟩ d_Ag_isAsked_37
  refine z_if_ne (tgt := 16) X.1 X.2.1 d_Ag_isAsked_5 (by decide) ⟨by omega, by omega⟩ (fun h110 => ?_) (fun h110 => ?_)
  · exact J102  _ _ _  Y S (lv_sub hl [0, 1] rfl)
  · refine lv_aload_n X.1 X.2.1 d_Ag_isAsked_8 rfl (lv_at hl 0 rfl) ?_
    refine t_geti (ci := 2) X Y S k0 rfl i_Ag 11 (by decide) rfl lk_Ag_105 (fun _ h9 => h9) d_Ag_isAsked_9 (fun z111 e111 l111 u111 => ?_)
    refine lv_iconst (v := iI 2) X.1 X.2.1 d_Ag_isAsked_12 (by decide) ?_
    refine z_icmp_ne (tgt := 32) X.1 X.2.1 d_Ag_isAsked_13 (by decide) ⟨by omega, by omega⟩ ⟨by omega, by omega⟩ (fun h112 => ?_) (fun h112 => ?_)
    · refine lv_iconst (v := iI 1) X.1 X.2.1 d_Ag_isAsked_32 (by decide) ?_
      refine lv_goto (tgt := 37) X.1 X.2.1 d_Ag_isAsked_33 (by decide) ?_
      exact c_retz hQQ X Y hr hlk (iI_bool (by omega) (by omega)).1 ⟨rfl, rfl, 1, rfl, ⟨by omega, by omega⟩⟩ d_Ag_isAsked_37
    · exact J102  _ _ _  Y S (lv_sub hl [0, 1] rfl)
set_option maxHeartbeats 4000000 in
set_option maxRecDepth 100000 in
theorem c_Ag_keyOf (l : Launch) (D : va_G) (E : cE) (T : cT) (κ : tK) (L : List Nat) (f : pF) (sz : Nat) (h : Nat) (k0 : κ h = (12, 0)) (a1 : Int64) (hw : tW E T κ L f) : Met l y_Ag_keyOf (k_Ag_keyOf :: lw_tg) (kRm 1 60 0 0) (va_Pc [.ref h, .long a1] (kPre D E T L f sz)) (va_Qr (fun _ : cU => True) (fun u r t => uPr L f (fun (z : Nat) => (∃ n : Nat, tKey T κ z n)) r u ∧ cPost D E (pA L sz) u t) (pA L sz)) 0 0 (pA L sz) := by
  refine k_enter (own := R_Ag) (by decide) rfl (Nat.le_of_ble_eq_true rfl) (fun p e s m below meth c ls AV QQ H locs hQQ X Y hA hin hr hlk hml hl KS KR => ?_)
  have hl : lv_has ls 3 [(0, .ref h), (1, .long a1)] := hl
  have S : tS E T (tFr κ L [] []) κ L f κ L f := tS_rf hw
  refine lv_lload_n X.1 X.2.1 d_Ag_keyOf_0 rfl (lv_at hl 1 rfl) ?_
  refine lv_ldc2 (v := (18)) X.1 X.2.1 X.2.2.2.1 (X.2.2.1 _ cl_Ag_108) d_Ag_keyOf_1 ?_
  refine W.lcmp X.1 X.2.1 d_Ag_keyOf_4 ?_
  refine t_u (fun z101 l101 u101 => ?_)
  refine z_if_ne (tgt := 15) X.1 X.2.1 d_Ag_keyOf_5 (by decide) ⟨by omega, by omega⟩ (fun h102 => ?_) (fun h102 => ?_)
  · refine lv_aload_n X.1 X.2.1 d_Ag_keyOf_15 rfl (lv_at hl 0 rfl) ?_
    refine t_getk (ci := 2) X Y S k0 rfl i_Ag 6 (by decide) rfl lk_Ag_27 (fun _ h9 => h9) d_Ag_keyOf_16 (fun b103 n103 e103 k103 x103 => ?_)
    exact k_retr hQQ X Y hr (Or.inr ⟨_, rfl⟩) hlk ⟨rfl, rfl, ⟨n103, k103⟩⟩ d_Ag_keyOf_19
  · refine lv_aload_n X.1 X.2.1 d_Ag_keyOf_8 rfl (lv_at hl 0 rfl) ?_
    refine t_getk (ci := 2) X Y S k0 rfl i_Ag 5 (by decide) rfl lk_Ag_24 (fun _ h9 => h9) d_Ag_keyOf_9 (fun b104 n104 e104 k104 x104 => ?_)
    refine lv_goto (tgt := 19) X.1 X.2.1 d_Ag_keyOf_12 (by decide) ?_
    exact k_retr hQQ X Y hr (Or.inr ⟨_, rfl⟩) hlk ⟨rfl, rfl, ⟨n104, k104⟩⟩ d_Ag_keyOf_19
set_option maxHeartbeats 4000000 in
set_option maxRecDepth 100000 in
theorem c_Ag_begin (l : Launch) (D : va_G) (E : cE) (T : cT) (κ : tK) (L : List Nat) (f : pF) (sz : Nat) (h : Nat) (k0 : κ h = (12, 0)) (a1 n1 : Nat) (k1 : κ a1 = (13, n1)) (x1 : n1 ≤ 12288) (a2 n2 : Nat) (k2 : κ a2 = (13, n2)) (x2 : n2 ≤ 12288) (a3 : Int) (l_a3 : (-1) ≤ a3) (u_a3 : a3 ≤ 20200) (a4 : Int) (l_a4 : (-2147483648) ≤ a4) (u_a4 : a4 ≤ 2147483647) (hw : tW E T κ L f) : Met l y_Ag_begin (k_Ag_begin :: lw_tg) (kRm 7 181 2 64) (va_Pc [.ref h, .ref a1, .ref a2, .int (iI a3), .int (iI a4)] (kPre D E T L f sz)) (va_Qv (aPv E T [1, 2, 3, 4, 11, 12, 13, 16, 20] [] κ L f (fun (k : tK) (g : pF) => True)) (cPost D E (pA L sz)) (pA L sz)) 2 64 (pA L sz) := by
  refine k_enter (own := R_Ag) (by decide) rfl (Nat.le_of_ble_eq_true rfl) (fun p e s m below meth c ls AV QQ H locs hQQ X Y hA hin hr hlk hml hl KS KR => ?_)
  have hl : lv_has ls 6 [(0, .ref h), (1, .ref a1), (2, .ref a2), (3, .int (iI a3)), (4, .int (iI a4))] := hl
  have S : tS E T (tFr κ L [1, 2, 3, 4, 11, 12, 13, 16, 20] []) κ L f κ L f := tS_rf hw
  have hF0 : ∀ b, tFr κ L [1, 2, 3, 4, 11, 12, 13, 16, 20] [] b → b ∈ L := fun b h9 => h9.1
  refine lv_aload_n X.1 X.2.1 d_Ag_begin_0 rfl (lv_at hl 0 rfl) ?_
  refine t_getr (ci := 2) X Y S k0 rfl i_Ag 4 (by decide) rfl (k1 := 13) (k2 := 40) rfl rfl lk_Ag_14 (fun _ h9 => h9) d_Ag_begin_1 (fun b101 e101 k101 => ?_)
  refine lv_aload_n X.1 X.2.1 d_Ag_begin_4 rfl (lv_at hl 1 rfl) ?_
  refine t_nv (t_runV (As := [.ref a1]) (rest := []) (n := 1) X Y S k101 hml hl.1 (c_By_copyOf l D E T κ L f H.size b101 40 k101 (by omega) a1 n1 k1 (by omega) S.1) (ok_k X Y hA KS KR) rfl kl_Ag_By_copyOf ks_By_copyOf kx_By_copyOf ki_By_copyOf ini_By ⟨rfl, rfl⟩ hd_By_copyOf ⟨Nat.le_of_ble_eq_true rfl, Nat.le_of_ble_eq_true rfl⟩ rfl (Nat.le_of_ble_eq_true rfl) d_Ag_begin_5 ⟨Nat.le_of_ble_eq_true rfl, Nat.le_of_ble_eq_true rfl⟩) X Y hA S (by decide) (fun f102 H locs Y S s102 p102 => ?_)
  refine lv_aload_n X.1 X.2.1 d_Ag_begin_8 rfl (lv_at hl 0 rfl) ?_
  refine lv_aload_n X.1 X.2.1 d_Ag_begin_9 rfl (lv_at hl 0 rfl) ?_
  refine t_getr (ci := 2) X Y S k0 rfl i_Ag 0 (by decide) rfl (k1 := 21) (k2 := 0) rfl rfl lk_Ag_42 (fun _ h9 => h9) d_Ag_begin_10 (fun b103 e103 k103 => ?_)
  refine lv_bipush (v := iI 18) X.1 X.2.1 d_Ag_begin_13 (by decide) ?_
  refine lv_aload_n X.1 X.2.1 d_Ag_begin_15 rfl (lv_at hl 0 rfl) ?_
  refine t_get0 (ci := 2) X Y S k0 rfl i_Ag 4 (by decide) rfl lk_Ag_14 (fun _ h9 => h9) d_Ag_begin_16 ((gF_same (s102.2.2.2 _ ⟨(t_obj S.1 k0).1, nM_of k0 (by decide), by simp⟩).1 4).trans e101) ?_
  refine lv_aload_n X.1 X.2.1 d_Ag_begin_19 rfl (lv_at hl 2 rfl) ?_
  refine lv_iload_n X.1 X.2.1 d_Ag_begin_20 rfl (lv_at hl 3 rfl) ?_
  refine lv_iload X.1 X.2.1 d_Ag_begin_21 (lv_at hl 4 rfl) ?_
  refine t_ar (t_runV (As := [.int (iI 18), .ref b101, .ref a2, .int (iI a3), .int (iI a4)]) (rest := [.ref h]) (n := 5) X Y S k103 hml hl.1 (c_Va_passwordKey l D E T κ L f102 H.size b103 k103 18 (by omega) (by omega) b101 40 k101 (by omega) a2 n2 k2 (by omega) a3 (by omega) (by omega) a4 (by omega) (by omega) S.1) (ok_k X Y hA KS KR) rfl kl_Ag_Va_passwordKey ks_Va_passwordKey kx_Va_passwordKey ki_Va_passwordKey ini_Va ⟨rfl, rfl⟩ hd_Va_passwordKey ⟨Nat.le_of_ble_eq_true rfl, Nat.le_of_ble_eq_true rfl⟩ rfl (Nat.le_of_ble_eq_true rfl) d_Ag_begin_23 ⟨Nat.le_of_ble_eq_true rfl, Nat.le_of_ble_eq_true rfl⟩) X Y hA S (by decide) (fun b104 κ104 L104 f104 H locs Y S s104 p104 => ?_)
  obtain ⟨n104, k104⟩ := p104
  have x104 := tKey_n k104
  have k105 : κ104 h = (12, 0) := tLe_k s104.2.2.1 k0
  have k106 : κ104 a1 = (13, n1) := tLe_k s104.2.2.1 k1
  have k107 : κ104 a2 = (13, n2) := tLe_k s104.2.2.1 k2
  refine t_put (ci := 2) X Y S k105 rfl i_Ag t_Ag t_Ag_ok n_Ag 5 (by decide) rfl lk_Ag_24 (fun _ h9 => h9) rfl (t_Ag_ok 5 (by decide)) rfl rfl ⟨_, n104, rfl, k104⟩ (nF_of S k105 (by decide)) d_Ag_begin_26 (fun f108 H locs Y S w108 => ?_)
  refine lv_aload_n X.1 X.2.1 d_Ag_begin_29 rfl (lv_at hl 0 rfl) ?_
  refine lv_aload_n X.1 X.2.1 d_Ag_begin_30 rfl (lv_at hl 0 rfl) ?_
  refine t_getr (ci := 2) X Y S k105 rfl i_Ag 0 (by decide) rfl (k1 := 21) (k2 := 0) rfl rfl lk_Ag_42 (fun _ h9 => h9) d_Ag_begin_31 (fun b109 e109 k109 => ?_)
  refine lv_bipush (v := iI 17) X.1 X.2.1 d_Ag_begin_34 (by decide) ?_
  refine lv_aload_n X.1 X.2.1 d_Ag_begin_36 rfl (lv_at hl 0 rfl) ?_
  refine t_getr (ci := 2) X Y S k105 rfl i_Ag 4 (by decide) rfl (k1 := 13) (k2 := 40) rfl rfl lk_Ag_14 (fun _ h9 => h9) d_Ag_begin_37 (fun b110 e110 k110 => ?_)
  refine lv_aload_n X.1 X.2.1 d_Ag_begin_40 rfl (lv_at hl 2 rfl) ?_
  refine lv_iload_n X.1 X.2.1 d_Ag_begin_41 rfl (lv_at hl 3 rfl) ?_
  refine lv_iload X.1 X.2.1 d_Ag_begin_42 (lv_at hl 4 rfl) ?_
  refine t_ar (t_runV (As := [.int (iI 17), .ref b110, .ref a2, .int (iI a3), .int (iI a4)]) (rest := [.ref h]) (n := 5) X Y S k109 hml hl.1 (c_Va_passwordKey l D E T κ104 L104 f108 H.size b109 k109 17 (by omega) (by omega) b110 40 k110 (by omega) a2 n2 k107 (by omega) a3 (by omega) (by omega) a4 (by omega) (by omega) S.1) (ok_k X Y hA KS KR) rfl kl_Ag_Va_passwordKey ks_Va_passwordKey kx_Va_passwordKey ki_Va_passwordKey ini_Va ⟨rfl, rfl⟩ hd_Va_passwordKey ⟨Nat.le_of_ble_eq_true rfl, Nat.le_of_ble_eq_true rfl⟩ rfl (Nat.le_of_ble_eq_true rfl) d_Ag_begin_44 ⟨Nat.le_of_ble_eq_true rfl, Nat.le_of_ble_eq_true rfl⟩) X Y hA S (by decide) (fun b111 κ111 L111 f111 H locs Y S s111 p111 => ?_)
  obtain ⟨n111, k111⟩ := p111
  have x111 := tKey_n k111
  have k112 : κ111 h = (12, 0) := tLe_k s111.2.2.1 k105
  have k113 : κ111 a1 = (13, n1) := tLe_k s111.2.2.1 k106
  have k114 : κ111 a2 = (13, n2) := tLe_k s111.2.2.1 k107
  refine t_put (ci := 2) X Y S k112 rfl i_Ag t_Ag t_Ag_ok n_Ag 6 (by decide) rfl lk_Ag_27 (fun _ h9 => h9) rfl (t_Ag_ok 6 (by decide)) rfl rfl ⟨_, n111, rfl, k111⟩ (nF_of S k112 (by decide)) d_Ag_begin_47 (fun f115 H locs Y S w115 => ?_)
  refine lv_iconst (v := iI 0) X.1 X.2.1 d_Ag_begin_50 (by decide) ?_
  have J118 : ∀ (n120 : Nat) (z117 : Int) (f116 : pF) (H : Heap) (locs : List Loc) (ls : Array Slot), (8 - z117).toNat = n120 → (0 ≤ z117) → (z117 ≤ 8) → pH D cCl (pA L sz) s.heap L111 f116 H locs → tS E T (tFr κ L [1, 2, 3, 4, 11, 12, 13, 16, 20] []) κ L f κ111 L111 f116 → lv_has ls 6 [(0, .ref h), (5, .int (iI z117))] → W p l e (kRm 7 181 2 64) s m AV below meth c H locs 2 64 QQ (F0 m 53 ls []) := by
    intro n120
    induction n120 using Nat.strongRecOn with
    | ind n120 ih119 =>
      intro z117 f116 H locs ls hm121 l117 u117 Y S hl
      refine lv_iload X.1 X.2.1 d_Ag_begin_53 (lv_at hl 1 rfl) ?_
      refine lv_bipush (v := iI 8) X.1 X.2.1 d_Ag_begin_55 (by decide) ?_
      refine z_icmp_ge (tgt := 77) X.1 X.2.1 d_Ag_begin_57 (by decide) ⟨by omega, by omega⟩ ⟨by omega, by omega⟩ (fun h122 => ?_) (fun h122 => ?_)
      · refine lv_aload_n X.1 X.2.1 d_Ag_begin_77 rfl (lv_at hl 0 rfl) ?_
        refine lv_iconst (v := iI 1) X.1 X.2.1 d_Ag_begin_78 (by decide) ?_
        refine t_put (ci := 2) X Y S k112 rfl i_Ag t_Ag t_Ag_ok n_Ag 2 (by decide) rfl lk_Ag_67 (fun _ h9 => h9) rfl (t_Ag_ok 2 (by decide)) (iI_bool (by omega) (by omega)).1 (iI_bool (by omega) (by omega)).2 ⟨_, rfl, (show (0 : Int) ≤ 1 by omega), (show 1 ≤ (1 : Int) by omega)⟩ (nF_of S k112 (by decide)) d_Ag_begin_79 (fun f123 H locs Y S w123 => ?_)
        refine lv_aload_n X.1 X.2.1 d_Ag_begin_82 rfl (lv_at hl 0 rfl) ?_
        refine lv_iconst (v := iI 0) X.1 X.2.1 d_Ag_begin_83 (by decide) ?_
        refine t_put (ci := 2) X Y S k112 rfl i_Ag t_Ag t_Ag_ok n_Ag 3 (by decide) rfl lk_Ag_68 (fun _ h9 => h9) rfl (t_Ag_ok 3 (by decide)) rfl rfl ⟨_, rfl, (show ((-2147483648) : Int) ≤ 0 by omega), (show 0 ≤ (2147483647 : Int) by omega)⟩ (nF_of S k112 (by decide)) d_Ag_begin_84 (fun f124 H locs Y S w124 => ?_)
        refine lv_aload_n X.1 X.2.1 d_Ag_begin_87 rfl (lv_at hl 0 rfl) ?_
        refine lv_iconst (v := iI 0) X.1 X.2.1 d_Ag_begin_88 (by decide) ?_
        refine t_put (ci := 2) X Y S k112 rfl i_Ag t_Ag t_Ag_ok n_Ag 7 (by decide) rfl lk_Ag_72 (fun _ h9 => h9) rfl (t_Ag_ok 7 (by decide)) rfl rfl ⟨_, rfl, (show ((-2147483648) : Int) ≤ 0 by omega), (show 0 ≤ (2147483647 : Int) by omega)⟩ (nF_of S k112 (by decide)) d_Ag_begin_89 (fun f125 H locs Y S w125 => ?_)
        refine lv_aload_n X.1 X.2.1 d_Ag_begin_92 rfl (lv_at hl 0 rfl) ?_
        refine lv_iconst (v := iI (-1)) X.1 X.2.1 d_Ag_begin_93 (by decide) ?_
        refine t_put (ci := 2) X Y S k112 rfl i_Ag t_Ag t_Ag_ok n_Ag 8 (by decide) rfl lk_Ag_75 (fun _ h9 => h9) rfl (t_Ag_ok 8 (by decide)) rfl rfl ⟨_, rfl, (show ((-2147483648) : Int) ≤ (-1) by omega), (show (-1) ≤ (2147483647 : Int) by omega)⟩ (nF_of S k112 (by decide)) d_Ag_begin_94 (fun f126 H locs Y S w126 => ?_)
        refine lv_aload_n X.1 X.2.1 d_Ag_begin_97 rfl (lv_at hl 0 rfl) ?_
        refine lv_ldc2 (v := (-1)) X.1 X.2.1 X.2.2.2.1 (X.2.2.1 _ cl_Ag_78) d_Ag_begin_98 ?_
        refine t_put (ci := 2) X Y S k112 rfl i_Ag t_Ag t_Ag_ok n_Ag 17 (by decide) rfl lk_Ag_80 (fun _ h9 => h9) rfl (t_Ag_ok 17 (by decide)) rfl rfl ⟨_, rfl⟩ (nF_of S k112 (by decide)) d_Ag_begin_101 (fun f127 H locs Y S w127 => ?_)
        refine lv_aload_n X.1 X.2.1 d_Ag_begin_104 rfl (lv_at hl 0 rfl) ?_
        refine lv_lconst (v := 0) X.1 X.2.1 d_Ag_begin_105 rfl ?_
        refine t_put (ci := 2) X Y S k112 rfl i_Ag t_Ag t_Ag_ok n_Ag 19 (by decide) rfl lk_Ag_84 (fun _ h9 => h9) rfl (t_Ag_ok 19 (by decide)) rfl rfl ⟨_, rfl⟩ (nF_of S k112 (by decide)) d_Ag_begin_106 (fun f128 H locs Y S w128 => ?_)
        refine lv_aload_n X.1 X.2.1 d_Ag_begin_109 rfl (lv_at hl 0 rfl) ?_
        refine lv_iconst (v := iI 0) X.1 X.2.1 d_Ag_begin_110 (by decide) ?_
        refine t_put (ci := 2) X Y S k112 rfl i_Ag t_Ag t_Ag_ok n_Ag 20 (by decide) rfl lk_Ag_87 (fun _ h9 => h9) rfl (t_Ag_ok 20 (by decide)) (iI_bool (by omega) (by omega)).1 (iI_bool (by omega) (by omega)).2 ⟨_, rfl, (show (0 : Int) ≤ 0 by omega), (show 0 ≤ (1 : Int) by omega)⟩ (nF_of S k112 (by decide)) d_Ag_begin_111 (fun f129 H locs Y S w129 => ?_)
        exact c_retv hQQ X Y hr hlk ⟨κ111, S, trivial⟩ d_Ag_begin_114
      · refine lv_aload_n X.1 X.2.1 d_Ag_begin_60 rfl (lv_at hl 0 rfl) ?_
        refine t_getr (ci := 2) X Y S k112 rfl i_Ag 1 (by decide) rfl (k1 := 8) (k2 := 8) rfl rfl lk_Ag_48 (fun _ h9 => h9) d_Ag_begin_61 (fun b130 e130 k130 => ?_)
        refine lv_iload X.1 X.2.1 d_Ag_begin_64 (lv_at hl 1 rfl) ?_
        refine t_aald X Y S k130 (fun h9 => h9) (t0 := 5) rfl (by omega) (by omega) (by omega) d_Ag_begin_66 (fun b131 e131 k131 => ?_)
        refine lv_iconst (v := iI 0) X.1 X.2.1 d_Ag_begin_67 (by decide) ?_
        refine t_put (ci := 10) X Y S k131 rfl i_Ti t_Ti t_Ti_ok n_Ti 3 (by decide) rfl lk_Ag_63 (fun _ h9 => h9) rfl (t_Ti_ok 3 (by decide)) (iI_bool (by omega) (by omega)).1 (iI_bool (by omega) (by omega)).2 ⟨_, rfl, (show (0 : Int) ≤ 0 by omega), (show 0 ≤ (1 : Int) by omega)⟩ (nF_of S k131 (by decide)) d_Ag_begin_68 (fun f132 H locs Y S w132 => ?_)
        refine lv_iinc (v := iI (z117 + 1)) (lv' := [(5, .int (iI (z117 + 1))), (0, .ref h)]) X.1 X.2.1 d_Ag_begin_71 hl (k := 1) rfl ((iI_add _ _).trans (congrArg iI (by omega))) (by decide) rfl (fun ls hl => ?_)
        refine lv_goto (tgt := 53) X.1 X.2.1 d_Ag_begin_74 (by decide) ?_
        exact ih119 ((8 - (z117 + 1)).toNat) (by omega) (z117 + 1) f132 _ _ _ rfl (by omega) (by omega) Y S (lv_sub hl [1, 0] rfl)
  refine lv_istore (lv' := [(5, .int (iI 0)), (0, .ref h), (1, .ref a1), (2, .ref a2), (3, .int (iI a3)), (4, .int (iI a4))]) X.1 X.2.1 d_Ag_begin_51 hl (by decide) rfl (fun ls hl => ?_)
  exact J118 _ 0 f115 _ _ _ rfl (by omega) (by omega) Y S (lv_sub hl [1, 0] rfl)
set_option maxHeartbeats 4000000 in
set_option maxRecDepth 100000 in
theorem c_Ag_keepAsked (l : Launch) (D : va_G) (E : cE) (T : cT) (κ : tK) (L : List Nat) (f : pF) (sz : Nat) (h : Nat) (k0 : κ h = (12, 0)) (a1 : Int) (l_a1 : (-2147483648) ≤ a1) (u_a1 : a1 ≤ 2147483647) (a2 : Int) (l_a2 : (-2147483648) ≤ a2) (u_a2 : a2 ≤ 2147483647) (a3 : Int) (l_a3 : (-2147483648) ≤ a3) (u_a3 : a3 ≤ 2147483647) (a4 : Int) (l_a4 : (-2147483648) ≤ a4) (u_a4 : a4 ≤ 2147483647) (a5 n5 : Nat) (k5 : κ a5 = (13, n5)) (x5 : n5 ≤ 12288) (hw : tW E T κ L f) : Met l y_Ag_keepAsked (k_Ag_keepAsked :: lw_tg) (kRm 6 181 1 32) (va_Pc [.ref h, .int (iI a1), .int (iI a2), .int (iI a3), .int (iI a4), .ref a5] (kPre D E T L f sz)) (va_Qv (aPv E T [1, 2, 3, 4, 12, 13, 16, 21] [] κ L f (fun (k : tK) (g : pF) => True)) (cPost D E (pA L sz)) (pA L sz)) 1 32 (pA L sz) := by
  refine k_enter (own := R_Ag) (by decide) rfl (Nat.le_of_ble_eq_true rfl) (fun p e s m below meth c ls AV QQ H locs hQQ X Y hA hin hr hlk hml hl KS KR => ?_)
  have hl : lv_has ls 7 [(0, .ref h), (1, .int (iI a1)), (2, .int (iI a2)), (3, .int (iI a3)), (4, .int (iI a4)), (5, .ref a5)] := hl
  have S : tS E T (tFr κ L [1, 2, 3, 4, 12, 13, 16, 21] []) κ L f κ L f := tS_rf hw
  have hF0 : ∀ b, tFr κ L [1, 2, 3, 4, 12, 13, 16, 21] [] b → b ∈ L := fun b h9 => h9.1
  refine lv_iload_n X.1 X.2.1 d_Ag_keepAsked_0 rfl (lv_at hl 1 rfl) ?_
  refine lv_iconst (v := iI 2) X.1 X.2.1 d_Ag_keepAsked_1 (by decide) ?_
  have J101 : ∀  (H : Heap) (locs : List Loc) (ls : Array Slot), pH D cCl (pA L sz) s.heap L f H locs → tS E T (tFr κ L [1, 2, 3, 4, 12, 13, 16, 21] []) κ L f κ L f → lv_has ls 7 [(0, .ref h), (1, .int (iI a1)), (2, .int (iI a2)), (3, .int (iI a3)), (4, .int (iI a4)), (5, .ref a5)] → W p l e (kRm 6 181 1 32) s m AV below meth c H locs 0 0 QQ (F0 m 17 ls []) := by
    intro  H locs ls  Y S hl
    refine lv_iconst (v := iI 0) X.1 X.2.1 d_Ag_keepAsked_17 (by decide) ?_
    refine lv_istore (lv' := [(6, .int (iI 0)), (0, .ref h), (1, .int (iI a1)), (2, .int (iI a2)), (3, .int (iI a3)), (4, .int (iI a4)), (5, .ref a5)]) X.1 X.2.1 d_Ag_keepAsked_18 hl (by decide) rfl (fun ls hl => ?_)
    refine lv_aload_n X.1 X.2.1 d_Ag_keepAsked_20 rfl (lv_at hl 1 rfl) ?_
    refine lv_iload_n X.1 X.2.1 d_Ag_keepAsked_21 rfl (lv_at hl 2 rfl) ?_
    refine t_put (ci := 2) X Y S k0 rfl i_Ag t_Ag t_Ag_ok n_Ag 8 (by decide) rfl lk_Ag_75 (fun _ h9 => h9) rfl (t_Ag_ok 8 (by decide)) rfl rfl ⟨_, rfl, (show ((-2147483648) : Int) ≤ a1 by omega), (show a1 ≤ (2147483647 : Int) by omega)⟩ (nF_of S k0 (by decide)) d_Ag_keepAsked_22 (fun f105 H locs Y S w105 => ?_)
    refine lv_aload_n X.1 X.2.1 d_Ag_keepAsked_25 rfl (lv_at hl 1 rfl) ?_
    refine lv_iload X.1 X.2.1 d_Ag_keepAsked_26 (lv_at hl 0 rfl) ?_
    have J106 : ∀  (H : Heap) (locs : List Loc) (ls : Array Slot), pH D cCl (pA L sz) s.heap L f105 H locs → tS E T (tFr κ L [1, 2, 3, 4, 12, 13, 16, 21] []) κ L f κ L f105 → lv_has ls 7 [(0, .ref h), (2, .int (iI a2)), (4, .int (iI a4)), (5, .ref a5), (6, .int (iI 0))] → W p l e (kRm 6 181 1 32) s m AV below meth c H locs 0 0 QQ (F0 m 42 ls [.int (iI 0), .ref h]) := by
      intro  H locs ls  Y S hl
      refine t_put (ci := 2) X Y S k0 rfl i_Ag t_Ag t_Ag_ok n_Ag 10 (by decide) rfl lk_Ag_114 (fun _ h9 => h9) rfl (t_Ag_ok 10 (by decide)) (iI_bool (by omega) (by omega)).1 (iI_bool (by omega) (by omega)).2 ⟨_, rfl, (show (0 : Int) ≤ 0 by omega), (show 0 ≤ (1 : Int) by omega)⟩ (nF_of S k0 (by decide)) d_Ag_keepAsked_42 (fun f110 H locs Y S w110 => ?_)
      refine lv_aload_n X.1 X.2.1 d_Ag_keepAsked_45 rfl (lv_at hl 0 rfl) ?_
      refine lv_iload X.1 X.2.1 d_Ag_keepAsked_46 (lv_at hl 2 rfl) ?_
      refine t_put (ci := 2) X Y S k0 rfl i_Ag t_Ag t_Ag_ok n_Ag 11 (by decide) rfl lk_Ag_105 (fun _ h9 => h9) rfl (t_Ag_ok 11 (by decide)) rfl rfl ⟨_, rfl, (show ((-2147483648) : Int) ≤ a4 by omega), (show a4 ≤ (2147483647 : Int) by omega)⟩ (nF_of S k0 (by decide)) d_Ag_keepAsked_48 (fun f111 H locs Y S w111 => ?_)
      refine lv_aload_n X.1 X.2.1 d_Ag_keepAsked_51 rfl (lv_at hl 0 rfl) ?_
      refine t_getr (ci := 2) X Y S k0 rfl i_Ag 13 (by decide) rfl (k1 := 13) (k2 := 40) rfl rfl lk_Ag_33 (fun _ h9 => h9) d_Ag_keepAsked_52 (fun b112 e112 k112 => ?_)
      refine lv_aload X.1 X.2.1 d_Ag_keepAsked_55 (lv_at hl 3 rfl) ?_
      refine t_nv (t_runV (As := [.ref a5]) (rest := []) (n := 1) X Y S k112 hml hl.1 (c_By_copyOf l D E T κ L f111 H.size b112 40 k112 (by omega) a5 n5 k5 (by omega) S.1) (ok_k X Y hA KS KR) rfl kl_Ag_By_copyOf ks_By_copyOf kx_By_copyOf ki_By_copyOf ini_By ⟨rfl, rfl⟩ hd_By_copyOf ⟨Nat.le_of_ble_eq_true rfl, Nat.le_of_ble_eq_true rfl⟩ rfl (Nat.le_of_ble_eq_true rfl) d_Ag_keepAsked_57 ⟨Nat.le_of_ble_eq_true rfl, Nat.le_of_ble_eq_true rfl⟩) X Y hA S (by decide) (fun f113 H locs Y S s113 p113 => ?_)
      refine lv_aload_n X.1 X.2.1 d_Ag_keepAsked_60 rfl (lv_at hl 0 rfl) ?_
      refine t_getr (ci := 2) X Y S k0 rfl i_Ag 12 (by decide) rfl (k1 := 13) (k2 := 40) rfl rfl lk_Ag_30 (fun _ h9 => h9) d_Ag_keepAsked_61 (fun b114 e114 k114 => ?_)
      refine lv_iload X.1 X.2.1 d_Ag_keepAsked_64 (lv_at hl 4 rfl) ?_
      have J117 : ∀ (b115 : Nat) (H : Heap) (locs : List Loc) (ls : Array Slot), (κ b115 = (13, 40)) → pH D cCl (pA L sz) s.heap L f113 H locs → tS E T (tFr κ L [1, 2, 3, 4, 12, 13, 16, 21] []) κ L f κ L f113 → lv_has ls 7 [(0, .ref h), (2, .int (iI a2)), (6, .int (iI 0))] → W p l e (kRm 6 181 1 32) s m AV below meth c H locs 0 0 QQ (F0 m 85 ls [.ref b115, .ref b114]) := by
        intro b115 H locs ls k116 Y S hl
        refine t_nv (t_runV (As := [.ref b115]) (rest := []) (n := 1) X Y S k114 hml hl.1 (c_By_copyOf l D E T κ L f113 H.size b114 40 k114 (by omega) b115 40 k116 (by omega) S.1) (ok_k X Y hA KS KR) rfl kl_Ag_By_copyOf ks_By_copyOf kx_By_copyOf ki_By_copyOf ini_By ⟨rfl, rfl⟩ hd_By_copyOf ⟨Nat.le_of_ble_eq_true rfl, Nat.le_of_ble_eq_true rfl⟩ rfl (Nat.le_of_ble_eq_true rfl) d_Ag_keepAsked_85 ⟨Nat.le_of_ble_eq_true rfl, Nat.le_of_ble_eq_true rfl⟩) X Y hA S (by decide) (fun f121 H locs Y S s121 p121 => ?_)
        refine lv_aload_n X.1 X.2.1 d_Ag_keepAsked_88 rfl (lv_at hl 0 rfl) ?_
        refine lv_aload_n X.1 X.2.1 d_Ag_keepAsked_89 rfl (lv_at hl 0 rfl) ?_
        refine t_getr (ci := 2) X Y S k0 rfl i_Ag 0 (by decide) rfl (k1 := 21) (k2 := 0) rfl rfl lk_Ag_42 (fun _ h9 => h9) d_Ag_keepAsked_90 (fun b122 e122 k122 => ?_)
        refine t_ni (t_runV (As := []) (rest := [.ref h]) (n := 0) X Y S k122 hml hl.1 (c_Va_freshNumber l D E T κ L f121 H.size b122 k122 S.1) (ok_k X Y hA KS KR) rfl kl_Ag_Va_freshNumber ks_Va_freshNumber kx_Va_freshNumber ki_Va_freshNumber ini_Va ⟨rfl, rfl⟩ hd_Va_freshNumber ⟨Nat.le_of_ble_eq_true rfl, Nat.le_of_ble_eq_true rfl⟩ rfl (Nat.le_of_ble_eq_true rfl) d_Ag_keepAsked_93 ⟨Nat.le_of_ble_eq_true rfl, Nat.le_of_ble_eq_true rfl⟩) X Y hA S (by decide) (fun z123 f123 H locs Y S s123 p123 => ?_)
        obtain ⟨l123, u123⟩ := p123
        refine lv_ldc (v := (2147483647)) X.1 X.2.1 X.2.2.2.1 (X.2.2.1 _ cn_Ag_122) d_Ag_keepAsked_96 ?_
        refine t_eq (y := iI 2147483647) (by decide) ?_
        refine z_iand X.1 X.2.1 (by omega) (by omega) d_Ag_keepAsked_98 (fun z124 l124 u124 => ?_)
        refine t_put (ci := 2) X Y S k0 rfl i_Ag t_Ag t_Ag_ok n_Ag 9 (by decide) rfl lk_Ag_123 (fun _ h9 => h9) rfl (t_Ag_ok 9 (by decide)) rfl rfl ⟨_, rfl, (show ((-2147483648) : Int) ≤ z124 by omega), (show z124 ≤ (2147483647 : Int) by omega)⟩ (nF_of S k0 (by decide)) d_Ag_keepAsked_99 (fun f125 H locs Y S w125 => ?_)
        refine lv_aload_n X.1 X.2.1 d_Ag_keepAsked_102 rfl (lv_at hl 0 rfl) ?_
        refine lv_iload X.1 X.2.1 d_Ag_keepAsked_103 (lv_at hl 2 rfl) ?_
        refine z_if_eq (tgt := 130) X.1 X.2.1 d_Ag_keepAsked_105 (by decide) ⟨by omega, by omega⟩ (fun h126 => ?_) (fun h126 => False.elim (by omega))
        · refine k_getsN X Y KS KR (by decide) d_Ag_keepAsked_130 ?_
          refine t_put (ci := 2) X Y S k0 rfl i_Ag t_Ag t_Ag_ok n_Ag 14 (by decide) rfl lk_Ag_36 (fun _ h9 => h9) rfl (t_Ag_ok 14 (by decide)) rfl rfl ⟨_, 0, rfl, tKey_no⟩ (nF_of S k0 (by decide)) d_Ag_keepAsked_133 (fun f127 H locs Y S w127 => ?_)
          refine W.widen (k := 1) (n := 32) (Nat.le_of_ble_eq_true rfl) (Nat.le_of_ble_eq_true rfl) ?_
          exact c_retv hQQ X Y hr hlk ⟨κ, S, trivial⟩ d_Ag_keepAsked_136
      refine z_if_eq (tgt := 81) X.1 X.2.1 d_Ag_keepAsked_66 (by decide) ⟨by omega, by omega⟩ (fun h128 => ?_) (fun h128 => False.elim (by omega))
      · refine lv_aload_n X.1 X.2.1 d_Ag_keepAsked_81 rfl (lv_at hl 0 rfl) ?_
        refine t_getr (ci := 2) X Y S k0 rfl i_Ag 4 (by decide) rfl (k1 := 13) (k2 := 40) rfl rfl lk_Ag_14 (fun _ h9 => h9) d_Ag_keepAsked_82 (fun b129 e129 k129 => ?_)
        exact J117 b129 _ _ _ k129 Y S (lv_sub hl [0, 1, 4] rfl)
    have J130 : ∀  (H : Heap) (locs : List Loc) (ls : Array Slot), pH D cCl (pA L sz) s.heap L f105 H locs → tS E T (tFr κ L [1, 2, 3, 4, 12, 13, 16, 21] []) κ L f κ L f105 → lv_has ls 7 [(0, .ref h), (2, .int (iI a2)), (4, .int (iI a4)), (5, .ref a5), (6, .int (iI 0))] → W p l e (kRm 6 181 1 32) s m AV below meth c H locs 0 0 QQ (F0 m 41 ls [.ref h]) := by
      intro  H locs ls  Y S hl
      refine lv_iconst (v := iI 0) X.1 X.2.1 d_Ag_keepAsked_41 (by decide) ?_
      exact J106  _ _ _  Y S (lv_sub hl [0, 1, 2, 3, 4] rfl)
    refine z_if_eq (tgt := 41) X.1 X.2.1 d_Ag_keepAsked_28 (by decide) ⟨by omega, by omega⟩ (fun h134 => ?_) (fun h134 => False.elim (by omega))
    · exact J130  _ _ _  Y S (lv_sub hl [1, 3, 5, 6, 0] rfl)
  refine z_icmp_ne (tgt := 17) X.1 X.2.1 d_Ag_keepAsked_2 (by decide) ⟨by omega, by omega⟩ ⟨by omega, by omega⟩ (fun h135 => ?_) (fun h135 => ?_)
  · exact J101  _ _ _  Y S (lv_sub hl [0, 1, 2, 3, 4, 5] rfl)
  · refine lv_aload_n X.1 X.2.1 d_Ag_keepAsked_5 rfl (lv_at hl 0 rfl) ?_
    refine lv_iload_n X.1 X.2.1 d_Ag_keepAsked_6 rfl (lv_at hl 2 rfl) ?_
    refine t_ui (t_runV (As := [.int (iI a2)]) (rest := []) (n := 1) X Y S k0 hml hl.1 (c_Ag_has l D E T κ L f H.size h k0 a2 (by omega) (by omega) S.1) (ok_k X Y hA KS KR) rfl kl_Ag_Ag_has ks_Ag_has kx_Ag_has ki_Ag_has ini_Ag ⟨rfl, rfl⟩ hd_Ag_has ⟨Nat.le_of_ble_eq_true rfl, Nat.le_of_ble_eq_true rfl⟩ rfl (Nat.le_of_ble_eq_true rfl) d_Ag_keepAsked_7 ⟨Nat.le_of_ble_eq_true rfl, Nat.le_of_ble_eq_true rfl⟩) X Y hA (fun z136 H locs Y p136 => ?_)
    obtain ⟨l136, u136, x136⟩ := p136
    refine z_if_eq (tgt := 17) X.1 X.2.1 d_Ag_keepAsked_10 (by decide) ⟨by omega, by omega⟩ (fun h137 => ?_) (fun h137 => ?_)
    · exact J101  _ _ _  Y S (lv_sub hl [0, 1, 2, 3, 4, 5] rfl)
    · refine lv_iconst (v := iI 1) X.1 X.2.1 d_Ag_keepAsked_13 (by decide) ?_
      refine lv_goto (tgt := 18) X.1 X.2.1 d_Ag_keepAsked_14 (by decide) ?_
      refine lv_istore (lv' := [(6, .int (iI 1)), (0, .ref h), (1, .int (iI a1)), (2, .int (iI a2)), (3, .int (iI a3)), (4, .int (iI a4)), (5, .ref a5)]) X.1 X.2.1 d_Ag_keepAsked_18 hl (by decide) rfl (fun ls hl => ?_)
      refine lv_aload_n X.1 X.2.1 d_Ag_keepAsked_20 rfl (lv_at hl 1 rfl) ?_
      refine lv_iload_n X.1 X.2.1 d_Ag_keepAsked_21 rfl (lv_at hl 2 rfl) ?_
      refine t_put (ci := 2) X Y S k0 rfl i_Ag t_Ag t_Ag_ok n_Ag 8 (by decide) rfl lk_Ag_75 (fun _ h9 => h9) rfl (t_Ag_ok 8 (by decide)) rfl rfl ⟨_, rfl, (show ((-2147483648) : Int) ≤ a1 by omega), (show a1 ≤ (2147483647 : Int) by omega)⟩ (nF_of S k0 (by decide)) d_Ag_keepAsked_22 (fun f138 H locs Y S w138 => ?_)
      refine lv_aload_n X.1 X.2.1 d_Ag_keepAsked_25 rfl (lv_at hl 1 rfl) ?_
      refine lv_iload X.1 X.2.1 d_Ag_keepAsked_26 (lv_at hl 0 rfl) ?_
      have J140 : ∀ (z139 : Int) (H : Heap) (locs : List Loc) (ls : Array Slot), (0 ≤ z139) → (z139 ≤ 1) → pH D cCl (pA L sz) s.heap L f138 H locs → tS E T (tFr κ L [1, 2, 3, 4, 12, 13, 16, 21] []) κ L f κ L f138 → lv_has ls 7 [(0, .ref h), (2, .int (iI a2)), (4, .int (iI a4)), (5, .ref a5), (6, .int (iI 1))] → W p l e (kRm 6 181 1 32) s m AV below meth c H locs 0 0 QQ (F0 m 42 ls [.int (iI z139), .ref h]) := by
        intro z139 H locs ls l139 u139 Y S hl
        refine t_put (ci := 2) X Y S k0 rfl i_Ag t_Ag t_Ag_ok n_Ag 10 (by decide) rfl lk_Ag_114 (fun _ h9 => h9) rfl (t_Ag_ok 10 (by decide)) (iI_bool (by omega) (by omega)).1 (iI_bool (by omega) (by omega)).2 ⟨_, rfl, (show (0 : Int) ≤ z139 by omega), (show z139 ≤ (1 : Int) by omega)⟩ (nF_of S k0 (by decide)) d_Ag_keepAsked_42 (fun f144 H locs Y S w144 => ?_)
        refine lv_aload_n X.1 X.2.1 d_Ag_keepAsked_45 rfl (lv_at hl 0 rfl) ?_
        refine lv_iload X.1 X.2.1 d_Ag_keepAsked_46 (lv_at hl 2 rfl) ?_
        refine t_put (ci := 2) X Y S k0 rfl i_Ag t_Ag t_Ag_ok n_Ag 11 (by decide) rfl lk_Ag_105 (fun _ h9 => h9) rfl (t_Ag_ok 11 (by decide)) rfl rfl ⟨_, rfl, (show ((-2147483648) : Int) ≤ a4 by omega), (show a4 ≤ (2147483647 : Int) by omega)⟩ (nF_of S k0 (by decide)) d_Ag_keepAsked_48 (fun f145 H locs Y S w145 => ?_)
        refine lv_aload_n X.1 X.2.1 d_Ag_keepAsked_51 rfl (lv_at hl 0 rfl) ?_
        refine t_getr (ci := 2) X Y S k0 rfl i_Ag 13 (by decide) rfl (k1 := 13) (k2 := 40) rfl rfl lk_Ag_33 (fun _ h9 => h9) d_Ag_keepAsked_52 (fun b146 e146 k146 => ?_)
        refine lv_aload X.1 X.2.1 d_Ag_keepAsked_55 (lv_at hl 3 rfl) ?_
        refine t_nv (t_runV (As := [.ref a5]) (rest := []) (n := 1) X Y S k146 hml hl.1 (c_By_copyOf l D E T κ L f145 H.size b146 40 k146 (by omega) a5 n5 k5 (by omega) S.1) (ok_k X Y hA KS KR) rfl kl_Ag_By_copyOf ks_By_copyOf kx_By_copyOf ki_By_copyOf ini_By ⟨rfl, rfl⟩ hd_By_copyOf ⟨Nat.le_of_ble_eq_true rfl, Nat.le_of_ble_eq_true rfl⟩ rfl (Nat.le_of_ble_eq_true rfl) d_Ag_keepAsked_57 ⟨Nat.le_of_ble_eq_true rfl, Nat.le_of_ble_eq_true rfl⟩) X Y hA S (by decide) (fun f147 H locs Y S s147 p147 => ?_)
        refine lv_aload_n X.1 X.2.1 d_Ag_keepAsked_60 rfl (lv_at hl 0 rfl) ?_
        refine t_getr (ci := 2) X Y S k0 rfl i_Ag 12 (by decide) rfl (k1 := 13) (k2 := 40) rfl rfl lk_Ag_30 (fun _ h9 => h9) d_Ag_keepAsked_61 (fun b148 e148 k148 => ?_)
        refine lv_iload X.1 X.2.1 d_Ag_keepAsked_64 (lv_at hl 4 rfl) ?_
        have J151 : ∀ (b149 : Nat) (H : Heap) (locs : List Loc) (ls : Array Slot), (κ b149 = (13, 40)) → pH D cCl (pA L sz) s.heap L f147 H locs → tS E T (tFr κ L [1, 2, 3, 4, 12, 13, 16, 21] []) κ L f κ L f147 → lv_has ls 7 [(0, .ref h), (2, .int (iI a2)), (6, .int (iI 1))] → W p l e (kRm 6 181 1 32) s m AV below meth c H locs 0 0 QQ (F0 m 85 ls [.ref b149, .ref b148]) := by
          intro b149 H locs ls k150 Y S hl
          refine t_nv (t_runV (As := [.ref b149]) (rest := []) (n := 1) X Y S k148 hml hl.1 (c_By_copyOf l D E T κ L f147 H.size b148 40 k148 (by omega) b149 40 k150 (by omega) S.1) (ok_k X Y hA KS KR) rfl kl_Ag_By_copyOf ks_By_copyOf kx_By_copyOf ki_By_copyOf ini_By ⟨rfl, rfl⟩ hd_By_copyOf ⟨Nat.le_of_ble_eq_true rfl, Nat.le_of_ble_eq_true rfl⟩ rfl (Nat.le_of_ble_eq_true rfl) d_Ag_keepAsked_85 ⟨Nat.le_of_ble_eq_true rfl, Nat.le_of_ble_eq_true rfl⟩) X Y hA S (by decide) (fun f155 H locs Y S s155 p155 => ?_)
          refine lv_aload_n X.1 X.2.1 d_Ag_keepAsked_88 rfl (lv_at hl 0 rfl) ?_
          refine lv_aload_n X.1 X.2.1 d_Ag_keepAsked_89 rfl (lv_at hl 0 rfl) ?_
          refine t_getr (ci := 2) X Y S k0 rfl i_Ag 0 (by decide) rfl (k1 := 21) (k2 := 0) rfl rfl lk_Ag_42 (fun _ h9 => h9) d_Ag_keepAsked_90 (fun b156 e156 k156 => ?_)
          refine t_ni (t_runV (As := []) (rest := [.ref h]) (n := 0) X Y S k156 hml hl.1 (c_Va_freshNumber l D E T κ L f155 H.size b156 k156 S.1) (ok_k X Y hA KS KR) rfl kl_Ag_Va_freshNumber ks_Va_freshNumber kx_Va_freshNumber ki_Va_freshNumber ini_Va ⟨rfl, rfl⟩ hd_Va_freshNumber ⟨Nat.le_of_ble_eq_true rfl, Nat.le_of_ble_eq_true rfl⟩ rfl (Nat.le_of_ble_eq_true rfl) d_Ag_keepAsked_93 ⟨Nat.le_of_ble_eq_true rfl, Nat.le_of_ble_eq_true rfl⟩) X Y hA S (by decide) (fun z157 f157 H locs Y S s157 p157 => ?_)
          obtain ⟨l157, u157⟩ := p157
          refine lv_ldc (v := (2147483647)) X.1 X.2.1 X.2.2.2.1 (X.2.2.1 _ cn_Ag_122) d_Ag_keepAsked_96 ?_
          refine t_eq (y := iI 2147483647) (by decide) ?_
          refine z_iand X.1 X.2.1 (by omega) (by omega) d_Ag_keepAsked_98 (fun z158 l158 u158 => ?_)
          refine t_put (ci := 2) X Y S k0 rfl i_Ag t_Ag t_Ag_ok n_Ag 9 (by decide) rfl lk_Ag_123 (fun _ h9 => h9) rfl (t_Ag_ok 9 (by decide)) rfl rfl ⟨_, rfl, (show ((-2147483648) : Int) ≤ z158 by omega), (show z158 ≤ (2147483647 : Int) by omega)⟩ (nF_of S k0 (by decide)) d_Ag_keepAsked_99 (fun f159 H locs Y S w159 => ?_)
          refine lv_aload_n X.1 X.2.1 d_Ag_keepAsked_102 rfl (lv_at hl 0 rfl) ?_
          refine lv_iload X.1 X.2.1 d_Ag_keepAsked_103 (lv_at hl 2 rfl) ?_
          refine z_if_eq (tgt := 130) X.1 X.2.1 d_Ag_keepAsked_105 (by decide) ⟨by omega, by omega⟩ (fun h160 => False.elim (by omega)) (fun h160 => ?_)
          · refine lv_aload_n X.1 X.2.1 d_Ag_keepAsked_108 rfl (lv_at hl 0 rfl) ?_
            refine t_get0 (ci := 2) X Y S k0 rfl i_Ag 0 (by decide) rfl lk_Ag_42 (fun _ h9 => h9) d_Ag_keepAsked_109 ((gF_put w159 (Or.inr (by decide))).trans ((gF_same (s157.2.2.2 _ ⟨(t_obj S.1 k0).1, nM_of k0 (by decide), by simp⟩).1 0).trans e156)) ?_
            refine lv_aload_n X.1 X.2.1 d_Ag_keepAsked_112 rfl (lv_at hl 0 rfl) ?_
            refine t_getr (ci := 2) X Y S k0 rfl i_Ag 1 (by decide) rfl (k1 := 8) (k2 := 8) rfl rfl lk_Ag_48 (fun _ h9 => h9) d_Ag_keepAsked_113 (fun b161 e161 k161 => ?_)
            refine lv_iload_n X.1 X.2.1 d_Ag_keepAsked_116 rfl (lv_at hl 1 rfl) ?_
            refine t_aald X Y S k161 (fun h9 => h9) (t0 := 5) rfl (by omega) (by omega) (by omega) d_Ag_keepAsked_117 (fun b162 e162 k162 => ?_)
            refine t_getk (ci := 10) X Y S k162 rfl i_Ti 4 (by decide) rfl lk_Ag_126 (fun _ h9 => h9) d_Ag_keepAsked_118 (fun b163 n163 e163 k163 x163 => ?_)
            refine t_ui (x_runS (As := [.ref b163]) (rest := [.ref b156, .ref h]) (n := 1) X hml hl.1 (c_Va_typeOf l D E T κ L f159 H.size b163 n163 k163 (by omega) S.1) (ok_k X Y hA KS KR) kl_Ag_Va_typeOf ks_Va_typeOf ki_Va_typeOf ini_Va ⟨rfl, rfl⟩ hd_Va_typeOf.2 ⟨Nat.le_of_ble_eq_true rfl, Nat.le_of_ble_eq_true rfl⟩ rfl (Nat.le_of_ble_eq_true rfl) d_Ag_keepAsked_121 ⟨Nat.le_of_ble_eq_true rfl, Nat.le_of_ble_eq_true rfl⟩) X Y hA (fun z164 H locs Y p164 => ?_)
            obtain ⟨l164, u164⟩ := p164
            refine t_ar (t_runV (As := [.int (iI z164)]) (rest := [.ref h]) (n := 1) X Y S k156 hml hl.1 (c_Va_freshKey l D E T κ L f159 H.size b156 k156 z164 (by omega) (by omega) S.1) (ok_k X Y hA KS KR) rfl kl_Ag_Va_freshKey ks_Va_freshKey kx_Va_freshKey ki_Va_freshKey ini_Va ⟨rfl, rfl⟩ hd_Va_freshKey ⟨Nat.le_of_ble_eq_true rfl, Nat.le_of_ble_eq_true rfl⟩ rfl (Nat.le_of_ble_eq_true rfl) d_Ag_keepAsked_124 ⟨Nat.le_of_ble_eq_true rfl, Nat.le_of_ble_eq_true rfl⟩) X Y hA S (by decide) (fun b165 κ165 L165 f165 H locs Y S s165 p165 => ?_)
            obtain ⟨n165, k165⟩ := p165
            have x165 := tKey_n k165
            have k166 : κ165 h = (12, 0) := tLe_k s165.2.2.1 k0
            refine lv_goto (tgt := 133) X.1 X.2.1 d_Ag_keepAsked_127 (by decide) ?_
            refine t_put (ci := 2) X Y S k166 rfl i_Ag t_Ag t_Ag_ok n_Ag 14 (by decide) rfl lk_Ag_36 (fun _ h9 => h9) rfl (t_Ag_ok 14 (by decide)) rfl rfl ⟨_, n165, rfl, k165⟩ (nF_of S k166 (by decide)) d_Ag_keepAsked_133 (fun f167 H locs Y S w167 => ?_)
            exact c_retv hQQ X Y hr hlk ⟨κ165, S, trivial⟩ d_Ag_keepAsked_136
        refine z_if_eq (tgt := 81) X.1 X.2.1 d_Ag_keepAsked_66 (by decide) ⟨by omega, by omega⟩ (fun h168 => False.elim (by omega)) (fun h168 => ?_)
        · refine lv_aload_n X.1 X.2.1 d_Ag_keepAsked_69 rfl (lv_at hl 0 rfl) ?_
          refine t_getr (ci := 2) X Y S k0 rfl i_Ag 1 (by decide) rfl (k1 := 8) (k2 := 8) rfl rfl lk_Ag_48 (fun _ h9 => h9) d_Ag_keepAsked_70 (fun b169 e169 k169 => ?_)
          refine lv_iload_n X.1 X.2.1 d_Ag_keepAsked_73 rfl (lv_at hl 1 rfl) ?_
          refine t_aald X Y S k169 (fun h9 => h9) (t0 := 5) rfl (by omega) (by omega) (by omega) d_Ag_keepAsked_74 (fun b170 e170 k170 => ?_)
          refine t_getr (ci := 10) X Y S k170 rfl i_Ti 1 (by decide) rfl (k1 := 13) (k2 := 40) rfl rfl lk_Ag_117 (fun _ h9 => h9) d_Ag_keepAsked_75 (fun b171 e171 k171 => ?_)
          refine lv_goto (tgt := 85) X.1 X.2.1 d_Ag_keepAsked_78 (by decide) ?_
          exact J151 b171 _ _ _ k171 Y S (lv_sub hl [0, 1, 4] rfl)
      have J172 : ∀  (H : Heap) (locs : List Loc) (ls : Array Slot), pH D cCl (pA L sz) s.heap L f138 H locs → tS E T (tFr κ L [1, 2, 3, 4, 12, 13, 16, 21] []) κ L f κ L f138 → lv_has ls 7 [(0, .ref h), (2, .int (iI a2)), (4, .int (iI a4)), (5, .ref a5), (6, .int (iI 1))] → W p l e (kRm 6 181 1 32) s m AV below meth c H locs 0 0 QQ (F0 m 41 ls [.ref h]) := by
        intro  H locs ls  Y S hl
        refine lv_iconst (v := iI 0) X.1 X.2.1 d_Ag_keepAsked_41 (by decide) ?_
        exact J140 0 _ _ _ (by omega) (by omega) Y S (lv_sub hl [0, 1, 2, 3, 4] rfl)
      refine z_if_eq (tgt := 41) X.1 X.2.1 d_Ag_keepAsked_28 (by decide) ⟨by omega, by omega⟩ (fun h176 => False.elim (by omega)) (fun h176 => ?_)
      · refine lv_iload_n X.1 X.2.1 d_Ag_keepAsked_31 rfl (lv_at hl 4 rfl) ?_
        refine lv_iconst (v := iI 2) X.1 X.2.1 d_Ag_keepAsked_32 (by decide) ?_
        refine z_iand X.1 X.2.1 (by omega) (by omega) d_Ag_keepAsked_33 (fun z177 l177 u177 => ?_)
        refine z_if_eq (tgt := 41) X.1 X.2.1 d_Ag_keepAsked_34 (by decide) ⟨by omega, by omega⟩ (fun h178 => ?_) (fun h178 => ?_)
        · exact J172  _ _ _  Y S (lv_sub hl [1, 3, 5, 6, 0] rfl)
        · refine lv_iconst (v := iI 1) X.1 X.2.1 d_Ag_keepAsked_37 (by decide) ?_
          refine lv_goto (tgt := 42) X.1 X.2.1 d_Ag_keepAsked_38 (by decide) ?_
          exact J140 1 _ _ _ (by omega) (by omega) Y S (lv_sub hl [1, 3, 5, 6, 0] rfl)
set_option maxHeartbeats 4000000 in
set_option maxRecDepth 100000 in
theorem c_Ag_putBody (l : Launch) (D : va_G) (E : cE) (T : cT) (κ : tK) (L : List Nat) (f : pF) (sz : Nat) (h : Nat) (k0 : κ h = (12, 0)) (a1 : Int) (l_a1 : (-2147483648) ≤ a1) (u_a1 : a1 ≤ 2147483647) (a2 : Int) (l_a2 : 0 ≤ a2) (u_a2 : a2 ≤ 100000000) (a3 : Int) (l_a3 : 0 ≤ a3) (u_a3 : a3 ≤ 100000000) (hw : tW E T κ L f) : Met l y_Ag_putBody (k_Ag_putBody :: lw_tg) (kRm 7 156 0 0) (va_Pc [.ref h, .int (iI a1), .int (iI a2), .int (iI a3)] (kPre D E T L f sz)) (va_Qv (nPv E T [1, 13] κ L f (fun (g : pF) => True)) (cPost D E (pA L sz)) (pA L sz)) 0 0 (pA L sz) := by
  refine k_enter (own := R_Ag) (by decide) rfl (Nat.le_of_ble_eq_true rfl) (fun p e s m below meth c ls AV QQ H locs hQQ X Y hA hin hr hlk hml hl KS KR => ?_)
  have hl : lv_has ls 9 [(0, .ref h), (1, .int (iI a1)), (2, .int (iI a2)), (3, .int (iI a3))] := hl
  have S : tS E T (tFr κ L [1, 13] []) κ L f κ L f := tS_rf hw
  refine lv_aload_n X.1 X.2.1 d_Ag_putBody_0 rfl (lv_at hl 0 rfl) ?_
  refine t_getr (ci := 2) X Y S k0 rfl i_Ag 0 (by decide) rfl (k1 := 21) (k2 := 0) rfl rfl lk_Ag_42 (fun _ h9 => h9) d_Ag_putBody_1 (fun b101 e101 k101 => ?_)
  refine t_getr (ci := 11) X Y S k101 rfl i_Va 2 (by decide) rfl (k1 := 13) (k2 := 512) rfl rfl lk_Ag_137 (fun _ h9 => h9) d_Ag_putBody_4 (fun b102 e102 k102 => ?_)
  refine lv_astore (lv' := [(4, .ref b102), (0, .ref h), (1, .int (iI a1)), (2, .int (iI a2)), (3, .int (iI a3))]) X.1 X.2.1 d_Ag_putBody_7 hl (by decide) rfl (fun ls hl => ?_)
  refine lv_aload X.1 X.2.1 d_Ag_putBody_9 (lv_at hl 0 rfl) ?_
  refine t_nv (t_runV (As := []) (rest := []) (n := 0) X Y S k102 hml hl.1 (c_By_clear l D E T κ L f H.size b102 512 k102 (by omega) S.1) (ok_k X Y hA KS KR) rfl kl_Ag_By_clear ks_By_clear kx_By_clear ki_By_clear ini_By ⟨rfl, rfl⟩ hd_By_clear ⟨Nat.le_of_ble_eq_true rfl, Nat.le_of_ble_eq_true rfl⟩ rfl (Nat.le_of_ble_eq_true rfl) d_Ag_putBody_11 ⟨Nat.le_of_ble_eq_true rfl, Nat.le_of_ble_eq_true rfl⟩) X Y hA S (by decide) (fun f103 H locs Y S s103 p103 => ?_)
  refine lv_aload X.1 X.2.1 d_Ag_putBody_14 (lv_at hl 0 rfl) ?_
  refine lv_bipush (v := iI 48) X.1 X.2.1 d_Ag_putBody_16 (by decide) ?_
  refine t_ni (t_runV (As := [.int (iI 48)]) (rest := []) (n := 1) X Y S k102 hml hl.1 (c_By_open l D E T κ L f103 H.size b102 512 k102 (by omega) 48 (by omega) (by omega) S.1) (ok_k X Y hA KS KR) rfl kl_Ag_By_open ks_By_open kx_By_open ki_By_open ini_By ⟨rfl, rfl⟩ hd_By_open ⟨Nat.le_of_ble_eq_true rfl, Nat.le_of_ble_eq_true rfl⟩ rfl (Nat.le_of_ble_eq_true rfl) d_Ag_putBody_18 ⟨Nat.le_of_ble_eq_true rfl, Nat.le_of_ble_eq_true rfl⟩) X Y hA S (by decide) (fun z104 f104 H locs Y S s104 p104 => ?_)
  obtain ⟨l104, u104⟩ := p104
  refine lv_istore (lv' := [(5, .int (iI z104)), (4, .ref b102), (0, .ref h), (1, .int (iI a1)), (2, .int (iI a2)), (3, .int (iI a3))]) X.1 X.2.1 d_Ag_putBody_21 hl (by decide) rfl (fun ls hl => ?_)
  refine lv_aload X.1 X.2.1 d_Ag_putBody_23 (lv_at hl 1 rfl) ?_
  refine lv_iconst (v := iI 0) X.1 X.2.1 d_Ag_putBody_25 (by decide) ?_
  refine lv_iload_n X.1 X.2.1 d_Ag_putBody_26 rfl (lv_at hl 3 rfl) ?_
  refine t_nv (t_runV (As := [.int (iI 0), .int (iI a1)]) (rest := []) (n := 2) X Y S k102 hml hl.1 (c_By_putBits l D E T κ L f104 H.size b102 512 k102 (by omega) 0 (by omega) (by omega) a1 (by omega) (by omega) S.1) (ok_k X Y hA KS KR) rfl kl_Ag_By_putBits ks_By_putBits kx_By_putBits ki_By_putBits ini_By ⟨rfl, rfl⟩ hd_By_putBits ⟨Nat.le_of_ble_eq_true rfl, Nat.le_of_ble_eq_true rfl⟩ rfl (Nat.le_of_ble_eq_true rfl) d_Ag_putBody_27 ⟨Nat.le_of_ble_eq_true rfl, Nat.le_of_ble_eq_true rfl⟩) X Y hA S (by decide) (fun f105 H locs Y S s105 p105 => ?_)
  refine lv_aload_n X.1 X.2.1 d_Ag_putBody_30 rfl (lv_at hl 2 rfl) ?_
  refine t_geti (ci := 2) X Y S k0 rfl i_Ag 8 (by decide) rfl lk_Ag_75 (fun _ h9 => h9) d_Ag_putBody_31 (fun z106 e106 l106 u106 => ?_)
  refine lv_iconst (v := iI 2) X.1 X.2.1 d_Ag_putBody_34 (by decide) ?_
  have J108 : ∀ (f107 : pF) (H : Heap) (locs : List Loc) (ls : Array Slot), pH D cCl (pA L sz) s.heap L f107 H locs → tS E T (tFr κ L [1, 13] []) κ L f κ L f107 → lv_has ls 9 [(0, .ref h), (2, .int (iI a2)), (3, .int (iI a3)), (4, .ref b102), (5, .int (iI z104))] → W p l e (kRm 7 156 0 0) s m AV below meth c H locs 0 0 QQ (F0 m 49 ls []) := by
    intro f107 H locs ls  Y S hl
    refine lv_aload X.1 X.2.1 d_Ag_putBody_49 (lv_at hl 3 rfl) ?_
    refine lv_iconst (v := iI 2) X.1 X.2.1 d_Ag_putBody_51 (by decide) ?_
    refine t_nv (t_runV (As := [.int (iI 2)]) (rest := []) (n := 1) X Y S k102 hml hl.1 (c_By_putRealm l D E T κ L f107 H.size b102 512 k102 (by omega) 2 (by omega) (by omega) S.1) (ok_k X Y hA KS KR) rfl kl_Ag_By_putRealm ks_By_putRealm kx_By_putRealm ki_By_putRealm ini_By ⟨rfl, rfl⟩ hd_By_putRealm ⟨Nat.le_of_ble_eq_true rfl, Nat.le_of_ble_eq_true rfl⟩ rfl (Nat.le_of_ble_eq_true rfl) d_Ag_putBody_52 ⟨Nat.le_of_ble_eq_true rfl, Nat.le_of_ble_eq_true rfl⟩) X Y hA S (by decide) (fun f112 H locs Y S s112 p112 => ?_)
    refine lv_aload X.1 X.2.1 d_Ag_putBody_55 (lv_at hl 3 rfl) ?_
    refine lv_iconst (v := iI 3) X.1 X.2.1 d_Ag_putBody_57 (by decide) ?_
    refine lv_iconst (v := iI 2) X.1 X.2.1 d_Ag_putBody_58 (by decide) ?_
    refine lv_aload_n X.1 X.2.1 d_Ag_putBody_59 rfl (lv_at hl 0 rfl) ?_
    refine t_getr (ci := 2) X Y S k0 rfl i_Ag 13 (by decide) rfl (k1 := 13) (k2 := 40) rfl rfl lk_Ag_33 (fun _ h9 => h9) d_Ag_putBody_60 (fun b113 e113 k113 => ?_)
    refine t_nv (t_runV (As := [.int (iI 3), .int (iI 2), .ref b113]) (rest := []) (n := 3) X Y S k102 hml hl.1 (c_By_putName l D E T κ L f112 H.size b102 512 k102 (by omega) 3 (by omega) (by omega) 2 (by omega) (by omega) b113 40 k113 (by omega) S.1) (ok_k X Y hA KS KR) rfl kl_Ag_By_putName ks_By_putName kx_By_putName ki_By_putName ini_By ⟨rfl, rfl⟩ hd_By_putName ⟨Nat.le_of_ble_eq_true rfl, Nat.le_of_ble_eq_true rfl⟩ rfl (Nat.le_of_ble_eq_true rfl) d_Ag_putBody_63 ⟨Nat.le_of_ble_eq_true rfl, Nat.le_of_ble_eq_true rfl⟩) X Y hA S (by decide) (fun f114 H locs Y S s114 p114 => ?_)
    refine lv_aload X.1 X.2.1 d_Ag_putBody_66 (lv_at hl 3 rfl) ?_
    refine lv_iconst (v := iI 5) X.1 X.2.1 d_Ag_putBody_68 (by decide) ?_
    refine lv_iload_n X.1 X.2.1 d_Ag_putBody_69 rfl (lv_at hl 1 rfl) ?_
    have J116 : ∀ (z115 : Int) (H : Heap) (locs : List Loc) (ls : Array Slot), ((-2147483648) ≤ z115) → (z115 ≤ 2145916799) → pH D cCl (pA L sz) s.heap L f114 H locs → tS E T (tFr κ L [1, 13] []) κ L f κ L f114 → lv_has ls 9 [(0, .ref h), (3, .int (iI a3)), (4, .ref b102), (5, .int (iI z104))] → W p l e (kRm 7 156 0 0) s m AV below meth c H locs 0 0 QQ (F0 m 88 ls [.int (iI z115), .int (iI 5), .ref b102]) := by
      intro z115 H locs ls l115 u115 Y S hl
      refine t_nv (t_runV (As := [.int (iI 5), .int (iI z115)]) (rest := []) (n := 2) X Y S k102 hml hl.1 (c_By_putTime l D E T κ L f114 H.size b102 512 k102 (by omega) 5 (by omega) (by omega) z115 (by omega) (by omega) S.1) (ok_k X Y hA KS KR) rfl kl_Ag_By_putTime ks_By_putTime kx_By_putTime ki_By_putTime ini_By ⟨rfl, rfl⟩ hd_By_putTime ⟨Nat.le_of_ble_eq_true rfl, Nat.le_of_ble_eq_true rfl⟩ rfl (Nat.le_of_ble_eq_true rfl) d_Ag_putBody_88 ⟨Nat.le_of_ble_eq_true rfl, Nat.le_of_ble_eq_true rfl⟩) X Y hA S (by decide) (fun f120 H locs Y S s120 p120 => ?_)
      refine lv_iload_n X.1 X.2.1 d_Ag_putBody_91 rfl (lv_at hl 1 rfl) ?_
      have J122 : ∀ (f121 : pF) (H : Heap) (locs : List Loc) (ls : Array Slot), pH D cCl (pA L sz) s.heap L f121 H locs → tS E T (tFr κ L [1, 13] []) κ L f κ L f121 → lv_has ls 9 [(0, .ref h), (4, .ref b102), (5, .int (iI z104))] → W p l e (kRm 7 156 0 0) s m AV below meth c H locs 0 0 QQ (F0 m 113 ls []) := by
        intro f121 H locs ls  Y S hl
        refine lv_aload X.1 X.2.1 d_Ag_putBody_113 (lv_at hl 1 rfl) ?_
        refine lv_bipush (v := iI 7) X.1 X.2.1 d_Ag_putBody_115 (by decide) ?_
        refine lv_aload_n X.1 X.2.1 d_Ag_putBody_117 rfl (lv_at hl 0 rfl) ?_
        refine t_geti (ci := 2) X Y S k0 rfl i_Ag 9 (by decide) rfl lk_Ag_123 (fun _ h9 => h9) d_Ag_putBody_118 (fun z126 e126 l126 u126 => ?_)
        refine lv_i2l X.1 X.2.1 d_Ag_putBody_121 rfl ?_
        refine t_anyl (fun v127 => ?_)
        refine t_nv (t_runV (As := [.int (iI 7), .long v127]) (rest := []) (n := 2) X Y S k102 hml hl.1 (c_By_putNumber l D E T κ L f121 H.size b102 512 k102 (by omega) 7 (by omega) (by omega) v127 S.1) (ok_k X Y hA KS KR) rfl kl_Ag_By_putNumber ks_By_putNumber kx_By_putNumber ki_By_putNumber ini_By ⟨rfl, rfl⟩ hd_By_putNumber ⟨Nat.le_of_ble_eq_true rfl, Nat.le_of_ble_eq_true rfl⟩ rfl (Nat.le_of_ble_eq_true rfl) d_Ag_putBody_122 ⟨Nat.le_of_ble_eq_true rfl, Nat.le_of_ble_eq_true rfl⟩) X Y hA S (by decide) (fun f128 H locs Y S s128 p128 => ?_)
        refine lv_aload X.1 X.2.1 d_Ag_putBody_125 (lv_at hl 1 rfl) ?_
        refine lv_bipush (v := iI 8) X.1 X.2.1 d_Ag_putBody_127 (by decide) ?_
        refine t_ni (t_runV (As := [.int (iI 8)]) (rest := []) (n := 1) X Y S k102 hml hl.1 (c_By_openField l D E T κ L f128 H.size b102 512 k102 (by omega) 8 (by omega) (by omega) S.1) (ok_k X Y hA KS KR) rfl kl_Ag_By_openField ks_By_openField kx_By_openField ki_By_openField ini_By ⟨rfl, rfl⟩ hd_By_openField ⟨Nat.le_of_ble_eq_true rfl, Nat.le_of_ble_eq_true rfl⟩ rfl (Nat.le_of_ble_eq_true rfl) d_Ag_putBody_129 ⟨Nat.le_of_ble_eq_true rfl, Nat.le_of_ble_eq_true rfl⟩) X Y hA S (by decide) (fun z129 f129 H locs Y S s129 p129 => ?_)
        obtain ⟨l129, u129⟩ := p129
        refine lv_istore (lv' := [(6, .int (iI z129)), (0, .ref h), (4, .ref b102), (5, .int (iI z104))]) X.1 X.2.1 d_Ag_putBody_132 hl (by decide) rfl (fun ls hl => ?_)
        refine lv_aload X.1 X.2.1 d_Ag_putBody_134 (lv_at hl 2 rfl) ?_
        refine lv_bipush (v := iI 48) X.1 X.2.1 d_Ag_putBody_136 (by decide) ?_
        refine t_ni (t_runV (As := [.int (iI 48)]) (rest := []) (n := 1) X Y S k102 hml hl.1 (c_By_open l D E T κ L f129 H.size b102 512 k102 (by omega) 48 (by omega) (by omega) S.1) (ok_k X Y hA KS KR) rfl kl_Ag_By_open ks_By_open kx_By_open ki_By_open ini_By ⟨rfl, rfl⟩ hd_By_open ⟨Nat.le_of_ble_eq_true rfl, Nat.le_of_ble_eq_true rfl⟩ rfl (Nat.le_of_ble_eq_true rfl) d_Ag_putBody_138 ⟨Nat.le_of_ble_eq_true rfl, Nat.le_of_ble_eq_true rfl⟩) X Y hA S (by decide) (fun z130 f130 H locs Y S s130 p130 => ?_)
        obtain ⟨l130, u130⟩ := p130
        refine lv_istore (lv' := [(7, .int (iI z130)), (6, .int (iI z129)), (0, .ref h), (4, .ref b102), (5, .int (iI z104))]) X.1 X.2.1 d_Ag_putBody_141 hl (by decide) rfl (fun ls hl => ?_)
        refine lv_aload_n X.1 X.2.1 d_Ag_putBody_143 rfl (lv_at hl 2 rfl) ?_
        refine t_geti (ci := 2) X Y S k0 rfl i_Ag 11 (by decide) rfl lk_Ag_105 (fun _ h9 => h9) d_Ag_putBody_144 (fun z131 e131 l131 u131 => ?_)
        refine lv_iconst (v := iI 1) X.1 X.2.1 d_Ag_putBody_147 (by decide) ?_
        have J133 : ∀ (z132 : Int) (H : Heap) (locs : List Loc) (ls : Array Slot), (17 ≤ z132) → (z132 ≤ 18) → pH D cCl (pA L sz) s.heap L f130 H locs → tS E T (tFr κ L [1, 13] []) κ L f κ L f130 → lv_has ls 9 [(0, .ref h), (4, .ref b102), (5, .int (iI z104)), (6, .int (iI z129)), (7, .int (iI z130))] → W p l e (kRm 7 156 0 0) s m AV below meth c H locs 0 0 QQ (F0 m 166 ls [.int (iI z132)]) := by
          intro z132 H locs ls l132 u132 Y S hl
          refine lv_istore (lv' := [(8, .int (iI z132)), (0, .ref h), (4, .ref b102), (5, .int (iI z104)), (6, .int (iI z129)), (7, .int (iI z130))]) X.1 X.2.1 d_Ag_putBody_166 hl (by decide) rfl (fun ls hl => ?_)
          refine lv_aload X.1 X.2.1 d_Ag_putBody_168 (lv_at hl 2 rfl) ?_
          refine lv_iload X.1 X.2.1 d_Ag_putBody_170 (lv_at hl 0 rfl) ?_
          refine lv_i2l X.1 X.2.1 d_Ag_putBody_172 rfl ?_
          refine t_anyl (fun v137 => ?_)
          refine t_nv (t_runV (As := [.long v137]) (rest := []) (n := 1) X Y S k102 hml hl.1 (c_By_putInteger l D E T κ L f130 H.size b102 512 k102 (by omega) v137 S.1) (ok_k X Y hA KS KR) rfl kl_Ag_By_putInteger ks_By_putInteger kx_By_putInteger ki_By_putInteger ini_By ⟨rfl, rfl⟩ hd_By_putInteger ⟨Nat.le_of_ble_eq_true rfl, Nat.le_of_ble_eq_true rfl⟩ rfl (Nat.le_of_ble_eq_true rfl) d_Ag_putBody_173 ⟨Nat.le_of_ble_eq_true rfl, Nat.le_of_ble_eq_true rfl⟩) X Y hA S (by decide) (fun f138 H locs Y S s138 p138 => ?_)
          refine lv_aload_n X.1 X.2.1 d_Ag_putBody_176 rfl (lv_at hl 1 rfl) ?_
          refine t_get0 (ci := 2) X Y S k0 rfl i_Ag 11 (by decide) rfl lk_Ag_105 (fun _ h9 => h9) d_Ag_putBody_177 ((gF_same (s138.2.2.2 _ ⟨(t_obj S.1 k0).1, nM_of k0 (by decide), by simp⟩).1 11).trans e131) ?_
          refine lv_iconst (v := iI 2) X.1 X.2.1 d_Ag_putBody_180 (by decide) ?_
          have J140 : ∀ (f139 : pF) (H : Heap) (locs : List Loc) (ls : Array Slot), pH D cCl (pA L sz) s.heap L f139 H locs → tS E T (tFr κ L [1, 13] []) κ L f κ L f139 → lv_has ls 9 [(4, .ref b102), (5, .int (iI z104)), (6, .int (iI z129)), (7, .int (iI z130))] → W p l e (kRm 7 156 0 0) s m AV below meth c H locs 0 0 QQ (F0 m 195 ls []) := by
            intro f139 H locs ls  Y S hl
            refine lv_aload X.1 X.2.1 d_Ag_putBody_195 (lv_at hl 0 rfl) ?_
            refine lv_iload X.1 X.2.1 d_Ag_putBody_197 (lv_at hl 3 rfl) ?_
            refine t_nv (t_runV (As := [.int (iI z130)]) (rest := []) (n := 1) X Y S k102 hml hl.1 (c_By_close l D E T κ L f139 H.size b102 512 k102 (by omega) z130 (by omega) (by omega) S.1) (ok_k X Y hA KS KR) rfl kl_Ag_By_close ks_By_close kx_By_close ki_By_close ini_By ⟨rfl, rfl⟩ hd_By_close ⟨Nat.le_of_ble_eq_true rfl, Nat.le_of_ble_eq_true rfl⟩ rfl (Nat.le_of_ble_eq_true rfl) d_Ag_putBody_199 ⟨Nat.le_of_ble_eq_true rfl, Nat.le_of_ble_eq_true rfl⟩) X Y hA S (by decide) (fun f144 H locs Y S s144 p144 => ?_)
            refine lv_aload X.1 X.2.1 d_Ag_putBody_202 (lv_at hl 0 rfl) ?_
            refine lv_iload X.1 X.2.1 d_Ag_putBody_204 (lv_at hl 2 rfl) ?_
            refine t_nv (t_runV (As := [.int (iI z129)]) (rest := []) (n := 1) X Y S k102 hml hl.1 (c_By_close l D E T κ L f144 H.size b102 512 k102 (by omega) z129 (by omega) (by omega) S.1) (ok_k X Y hA KS KR) rfl kl_Ag_By_close ks_By_close kx_By_close ki_By_close ini_By ⟨rfl, rfl⟩ hd_By_close ⟨Nat.le_of_ble_eq_true rfl, Nat.le_of_ble_eq_true rfl⟩ rfl (Nat.le_of_ble_eq_true rfl) d_Ag_putBody_206 ⟨Nat.le_of_ble_eq_true rfl, Nat.le_of_ble_eq_true rfl⟩) X Y hA S (by decide) (fun f145 H locs Y S s145 p145 => ?_)
            refine lv_aload X.1 X.2.1 d_Ag_putBody_209 (lv_at hl 0 rfl) ?_
            refine lv_iload X.1 X.2.1 d_Ag_putBody_211 (lv_at hl 1 rfl) ?_
            refine t_nv (t_runV (As := [.int (iI z104)]) (rest := []) (n := 1) X Y S k102 hml hl.1 (c_By_close l D E T κ L f145 H.size b102 512 k102 (by omega) z104 (by omega) (by omega) S.1) (ok_k X Y hA KS KR) rfl kl_Ag_By_close ks_By_close kx_By_close ki_By_close ini_By ⟨rfl, rfl⟩ hd_By_close ⟨Nat.le_of_ble_eq_true rfl, Nat.le_of_ble_eq_true rfl⟩ rfl (Nat.le_of_ble_eq_true rfl) d_Ag_putBody_213 ⟨Nat.le_of_ble_eq_true rfl, Nat.le_of_ble_eq_true rfl⟩) X Y hA S (by decide) (fun f146 H locs Y S s146 p146 => ?_)
            exact c_retv hQQ X Y hr hlk ⟨rfl, S, trivial⟩ d_Ag_putBody_216
          refine z_icmp_le (tgt := 195) X.1 X.2.1 d_Ag_putBody_181 (by decide) ⟨by omega, by omega⟩ ⟨by omega, by omega⟩ (fun h147 => ?_) (fun h147 => ?_)
          · exact J140 f138 _ _ _  Y S (lv_sub hl [2, 3, 4, 5] rfl)
          · refine lv_aload X.1 X.2.1 d_Ag_putBody_184 (lv_at hl 2 rfl) ?_
            refine lv_bipush (v := iI 35) X.1 X.2.1 d_Ag_putBody_186 (by decide) ?_
            refine lv_iload X.1 X.2.1 d_Ag_putBody_188 (lv_at hl 0 rfl) ?_
            refine z_isub X.1 X.2.1 d_Ag_putBody_190 ?_
            refine lv_i2l X.1 X.2.1 d_Ag_putBody_191 rfl ?_
            refine t_anyl (fun v148 => ?_)
            refine t_nv (t_runV (As := [.long v148]) (rest := []) (n := 1) X Y S k102 hml hl.1 (c_By_putInteger l D E T κ L f138 H.size b102 512 k102 (by omega) v148 S.1) (ok_k X Y hA KS KR) rfl kl_Ag_By_putInteger ks_By_putInteger kx_By_putInteger ki_By_putInteger ini_By ⟨rfl, rfl⟩ hd_By_putInteger ⟨Nat.le_of_ble_eq_true rfl, Nat.le_of_ble_eq_true rfl⟩ rfl (Nat.le_of_ble_eq_true rfl) d_Ag_putBody_192 ⟨Nat.le_of_ble_eq_true rfl, Nat.le_of_ble_eq_true rfl⟩) X Y hA S (by decide) (fun f149 H locs Y S s149 p149 => ?_)
            exact J140 f149 _ _ _  Y S (lv_sub hl [2, 3, 4, 5] rfl)
        have J150 : ∀  (H : Heap) (locs : List Loc) (ls : Array Slot), pH D cCl (pA L sz) s.heap L f130 H locs → tS E T (tFr κ L [1, 13] []) κ L f κ L f130 → lv_has ls 9 [(0, .ref h), (4, .ref b102), (5, .int (iI z104)), (6, .int (iI z129)), (7, .int (iI z130))] → W p l e (kRm 7 156 0 0) s m AV below meth c H locs 0 0 QQ (F0 m 159 ls []) := by
          intro  H locs ls  Y S hl
          refine lv_bipush (v := iI 17) X.1 X.2.1 d_Ag_putBody_159 (by decide) ?_
          refine lv_goto (tgt := 166) X.1 X.2.1 d_Ag_putBody_161 (by decide) ?_
          exact J133 17 _ _ _ (by omega) (by omega) Y S (lv_sub hl [0, 1, 2, 3, 4] rfl)
        refine z_icmp_eq (tgt := 159) X.1 X.2.1 d_Ag_putBody_148 (by decide) ⟨by omega, by omega⟩ ⟨by omega, by omega⟩ (fun h154 => ?_) (fun h154 => ?_)
        · exact J150  _ _ _  Y S (lv_sub hl [2, 3, 4, 1, 0] rfl)
        · refine lv_aload_n X.1 X.2.1 d_Ag_putBody_151 rfl (lv_at hl 2 rfl) ?_
          refine t_get0 (ci := 2) X Y S k0 rfl i_Ag 11 (by decide) rfl lk_Ag_105 (fun _ h9 => h9) d_Ag_putBody_152 e131 ?_
          refine lv_iconst (v := iI 3) X.1 X.2.1 d_Ag_putBody_155 (by decide) ?_
          refine z_icmp_ne (tgt := 164) X.1 X.2.1 d_Ag_putBody_156 (by decide) ⟨by omega, by omega⟩ ⟨by omega, by omega⟩ (fun h155 => ?_) (fun h155 => ?_)
          · refine lv_bipush (v := iI 18) X.1 X.2.1 d_Ag_putBody_164 (by decide) ?_
            exact J133 18 _ _ _ (by omega) (by omega) Y S (lv_sub hl [2, 3, 4, 1, 0] rfl)
          · exact J150  _ _ _  Y S (lv_sub hl [2, 3, 4, 1, 0] rfl)
      refine z_if_le (tgt := 113) X.1 X.2.1 d_Ag_putBody_92 (by decide) ⟨by omega, by omega⟩ (fun h156 => ?_) (fun h156 => ?_)
      · exact J122 f120 _ _ _  Y S (lv_sub hl [0, 2, 3] rfl)
      · refine lv_aload X.1 X.2.1 d_Ag_putBody_95 (lv_at hl 2 rfl) ?_
        refine lv_bipush (v := iI 6) X.1 X.2.1 d_Ag_putBody_97 (by decide) ?_
        refine lv_ldc (v := (2145916799)) X.1 X.2.1 X.2.2.2.1 (X.2.2.1 _ cn_Ag_158) d_Ag_putBody_99 ?_
        refine t_eq (y := iI 2145916799) (by decide) ?_
        refine lv_aload_n X.1 X.2.1 d_Ag_putBody_101 rfl (lv_at hl 0 rfl) ?_
        refine t_ui (t_runV (As := []) (rest := [.int (iI 2145916799), .int (iI 6), .ref b102]) (n := 0) X Y S k0 hml hl.1 (c_Ag_time l D E T κ L f120 H.size h k0 S.1) (ok_k X Y hA KS KR) rfl kl_Ag_Ag_time ks_Ag_time kx_Ag_time ki_Ag_time ini_Ag ⟨rfl, rfl⟩ hd_Ag_time ⟨Nat.le_of_ble_eq_true rfl, Nat.le_of_ble_eq_true rfl⟩ rfl (Nat.le_of_ble_eq_true rfl) d_Ag_putBody_102 ⟨Nat.le_of_ble_eq_true rfl, Nat.le_of_ble_eq_true rfl⟩) X Y hA (fun z157 H locs Y p157 => ?_)
        obtain ⟨l157, u157⟩ := p157
        refine lv_iload_n X.1 X.2.1 d_Ag_putBody_105 rfl (lv_at hl 1 rfl) ?_
        refine lv_iadd X.1 X.2.1 d_Ag_putBody_106 ?_
        refine t_u (fun z158 l158 u158 => ?_)
        refine z_min X.1 X.2.1 (hml.trans hl.1.symm) X.2.2.2.1 (X.2.2.1 _ kl_Ag_mmin) (X.2.2.1 _ ks_mmin) (X.2.2.1 _ ini_Math) (X.2.2.1 _ ki_mmin) (Nat.le_of_ble_eq_true rfl) (Nat.le_of_ble_eq_true rfl) (Nat.le_of_ble_eq_true rfl) (Nat.le_of_ble_eq_true rfl) ⟨by omega, by omega⟩ ⟨by omega, by omega⟩ d_Ag_putBody_107 (fun z159 l159 u159 x159 => ?_)
        refine t_nv (t_runV (As := [.int (iI 6), .int (iI z159)]) (rest := []) (n := 2) X Y S k102 hml hl.1 (c_By_putTime l D E T κ L f120 H.size b102 512 k102 (by omega) 6 (by omega) (by omega) z159 (by omega) (by omega) S.1) (ok_k X Y hA KS KR) rfl kl_Ag_By_putTime ks_By_putTime kx_By_putTime ki_By_putTime ini_By ⟨rfl, rfl⟩ hd_By_putTime ⟨Nat.le_of_ble_eq_true rfl, Nat.le_of_ble_eq_true rfl⟩ rfl (Nat.le_of_ble_eq_true rfl) d_Ag_putBody_110 ⟨Nat.le_of_ble_eq_true rfl, Nat.le_of_ble_eq_true rfl⟩) X Y hA S (by decide) (fun f160 H locs Y S s160 p160 => ?_)
        exact J122 f160 _ _ _  Y S (lv_sub hl [0, 2, 3] rfl)
    refine z_if_ne (tgt := 77) X.1 X.2.1 d_Ag_putBody_70 (by decide) ⟨by omega, by omega⟩ (fun h161 => ?_) (fun h161 => ?_)
    · refine lv_ldc (v := (2145916799)) X.1 X.2.1 X.2.2.2.1 (X.2.2.1 _ cn_Ag_158) d_Ag_putBody_77 ?_
      refine t_eq (y := iI 2145916799) (by decide) ?_
      refine lv_aload_n X.1 X.2.1 d_Ag_putBody_79 rfl (lv_at hl 0 rfl) ?_
      refine t_ui (t_runV (As := []) (rest := [.int (iI 2145916799), .int (iI 5), .ref b102]) (n := 0) X Y S k0 hml hl.1 (c_Ag_time l D E T κ L f114 H.size h k0 S.1) (ok_k X Y hA KS KR) rfl kl_Ag_Ag_time ks_Ag_time kx_Ag_time ki_Ag_time ini_Ag ⟨rfl, rfl⟩ hd_Ag_time ⟨Nat.le_of_ble_eq_true rfl, Nat.le_of_ble_eq_true rfl⟩ rfl (Nat.le_of_ble_eq_true rfl) d_Ag_putBody_80 ⟨Nat.le_of_ble_eq_true rfl, Nat.le_of_ble_eq_true rfl⟩) X Y hA (fun z162 H locs Y p162 => ?_)
      obtain ⟨l162, u162⟩ := p162
      refine lv_iload_n X.1 X.2.1 d_Ag_putBody_83 rfl (lv_at hl 1 rfl) ?_
      refine lv_iadd X.1 X.2.1 d_Ag_putBody_84 ?_
      refine t_u (fun z163 l163 u163 => ?_)
      refine z_min X.1 X.2.1 (hml.trans hl.1.symm) X.2.2.2.1 (X.2.2.1 _ kl_Ag_mmin) (X.2.2.1 _ ks_mmin) (X.2.2.1 _ ini_Math) (X.2.2.1 _ ki_mmin) (Nat.le_of_ble_eq_true rfl) (Nat.le_of_ble_eq_true rfl) (Nat.le_of_ble_eq_true rfl) (Nat.le_of_ble_eq_true rfl) ⟨by omega, by omega⟩ ⟨by omega, by omega⟩ d_Ag_putBody_85 (fun z164 l164 u164 x164 => ?_)
      exact J116 z164 _ _ _ (by omega) (by omega) Y S (lv_sub hl [0, 2, 3, 4] rfl)
    · refine lv_iconst (v := iI 0) X.1 X.2.1 d_Ag_putBody_73 (by decide) ?_
      refine lv_goto (tgt := 88) X.1 X.2.1 d_Ag_putBody_74 (by decide) ?_
      exact J116 0 _ _ _ (by omega) (by omega) Y S (lv_sub hl [0, 2, 3, 4] rfl)
  refine z_icmp_eq (tgt := 49) X.1 X.2.1 d_Ag_putBody_35 (by decide) ⟨by omega, by omega⟩ ⟨by omega, by omega⟩ (fun h165 => ?_) (fun h165 => ?_)
  · exact J108 f105 _ _ _  Y S (lv_sub hl [2, 4, 5, 1, 0] rfl)
  · refine lv_aload X.1 X.2.1 d_Ag_putBody_38 (lv_at hl 1 rfl) ?_
    refine lv_iconst (v := iI 1) X.1 X.2.1 d_Ag_putBody_40 (by decide) ?_
    refine lv_iconst (v := iI 1) X.1 X.2.1 d_Ag_putBody_41 (by decide) ?_
    refine lv_aload_n X.1 X.2.1 d_Ag_putBody_42 rfl (lv_at hl 2 rfl) ?_
    refine t_getr (ci := 2) X Y S k0 rfl i_Ag 4 (by decide) rfl (k1 := 13) (k2 := 40) rfl rfl lk_Ag_14 (fun _ h9 => h9) d_Ag_putBody_43 (fun b166 e166 k166 => ?_)
    refine t_nv (t_runV (As := [.int (iI 1), .int (iI 1), .ref b166]) (rest := []) (n := 3) X Y S k102 hml hl.1 (c_By_putName l D E T κ L f105 H.size b102 512 k102 (by omega) 1 (by omega) (by omega) 1 (by omega) (by omega) b166 40 k166 (by omega) S.1) (ok_k X Y hA KS KR) rfl kl_Ag_By_putName ks_By_putName kx_By_putName ki_By_putName ini_By ⟨rfl, rfl⟩ hd_By_putName ⟨Nat.le_of_ble_eq_true rfl, Nat.le_of_ble_eq_true rfl⟩ rfl (Nat.le_of_ble_eq_true rfl) d_Ag_putBody_46 ⟨Nat.le_of_ble_eq_true rfl, Nat.le_of_ble_eq_true rfl⟩) X Y hA S (by decide) (fun f167 H locs Y S s167 p167 => ?_)
    exact J108 f167 _ _ _  Y S (lv_sub hl [2, 4, 5, 1, 0] rfl)
set_option maxHeartbeats 4000000 in
set_option maxRecDepth 100000 in
theorem c_Ag_putShown (l : Launch) (D : va_G) (E : cE) (T : cT) (κ : tK) (L : List Nat) (f : pF) (sz : Nat) (h : Nat) (k0 : κ h = (12, 0)) (a1 n1 : Nat) (k1 : κ a1 = (13, n1)) (x1 : n1 ≤ 12288) (hw : tW E T κ L f) : Met l y_Ag_putShown (k_Ag_putShown :: lw_tg) (kRm 6 187 0 0) (va_Pc [.ref h, .ref a1] (kPre D E T L f sz)) (va_Qv (nPv E T [1, 2, 3, 4, 11, 12, 13, 16, 21] κ L f (fun (g : pF) => True)) (cPost D E (pA L sz)) (pA L sz)) 0 0 (pA L sz) := by
  refine k_enter (own := R_Ag) (by decide) rfl (Nat.le_of_ble_eq_true rfl) (fun p e s m below meth c ls AV QQ H locs hQQ X Y hA hin hr hlk hml hl KS KR => ?_)
  have hl : lv_has ls 4 [(0, .ref h), (1, .ref a1)] := hl
  have S : tS E T (tFr κ L [1, 2, 3, 4, 11, 12, 13, 16, 21] []) κ L f κ L f := tS_rf hw
  refine lv_aload_n X.1 X.2.1 d_Ag_putShown_0 rfl (lv_at hl 0 rfl) ?_
  refine t_getr (ci := 2) X Y S k0 rfl i_Ag 0 (by decide) rfl (k1 := 21) (k2 := 0) rfl rfl lk_Ag_42 (fun _ h9 => h9) d_Ag_putShown_1 (fun b101 e101 k101 => ?_)
  refine t_getr (ci := 11) X Y S k101 rfl i_Va 1 (by decide) rfl (k1 := 13) (k2 := 6144) rfl rfl lk_Ag_196 (fun _ h9 => h9) d_Ag_putShown_4 (fun b102 e102 k102 => ?_)
  refine lv_astore_n (lv' := [(2, .ref b102), (0, .ref h), (1, .ref a1)]) X.1 X.2.1 d_Ag_putShown_7 rfl hl (by decide) rfl (fun ls hl => ?_)
  refine lv_aload_n X.1 X.2.1 d_Ag_putShown_8 rfl (lv_at hl 0 rfl) ?_
  refine t_nv (t_runV (As := []) (rest := []) (n := 0) X Y S k102 hml hl.1 (c_By_clear l D E T κ L f H.size b102 6144 k102 (by omega) S.1) (ok_k X Y hA KS KR) rfl kl_Ag_By_clear ks_By_clear kx_By_clear ki_By_clear ini_By ⟨rfl, rfl⟩ hd_By_clear ⟨Nat.le_of_ble_eq_true rfl, Nat.le_of_ble_eq_true rfl⟩ rfl (Nat.le_of_ble_eq_true rfl) d_Ag_putShown_9 ⟨Nat.le_of_ble_eq_true rfl, Nat.le_of_ble_eq_true rfl⟩) X Y hA S (by decide) (fun f103 H locs Y S s103 p103 => ?_)
  refine lv_aload_n X.1 X.2.1 d_Ag_putShown_12 rfl (lv_at hl 0 rfl) ?_
  refine lv_bipush (v := iI 48) X.1 X.2.1 d_Ag_putShown_13 (by decide) ?_
  refine t_ni (t_runV (As := [.int (iI 48)]) (rest := []) (n := 1) X Y S k102 hml hl.1 (c_By_open l D E T κ L f103 H.size b102 6144 k102 (by omega) 48 (by omega) (by omega) S.1) (ok_k X Y hA KS KR) rfl kl_Ag_By_open ks_By_open kx_By_open ki_By_open ini_By ⟨rfl, rfl⟩ hd_By_open ⟨Nat.le_of_ble_eq_true rfl, Nat.le_of_ble_eq_true rfl⟩ rfl (Nat.le_of_ble_eq_true rfl) d_Ag_putShown_15 ⟨Nat.le_of_ble_eq_true rfl, Nat.le_of_ble_eq_true rfl⟩) X Y hA S (by decide) (fun z104 f104 H locs Y S s104 p104 => ?_)
  obtain ⟨l104, u104⟩ := p104
  refine lv_istore_n (lv' := [(3, .int (iI z104)), (2, .ref b102), (0, .ref h), (1, .ref a1)]) X.1 X.2.1 d_Ag_putShown_18 rfl hl (by decide) rfl (fun ls hl => ?_)
  refine lv_aload_n X.1 X.2.1 d_Ag_putShown_19 rfl (lv_at hl 1 rfl) ?_
  refine lv_iconst (v := iI 0) X.1 X.2.1 d_Ag_putShown_20 (by decide) ?_
  refine lv_aload_n X.1 X.2.1 d_Ag_putShown_21 rfl (lv_at hl 2 rfl) ?_
  refine t_ui (t_runV (As := []) (rest := [.int (iI 0), .ref b102]) (n := 0) X Y S k0 hml hl.1 (c_Ag_time l D E T κ L f104 H.size h k0 S.1) (ok_k X Y hA KS KR) rfl kl_Ag_Ag_time ks_Ag_time kx_Ag_time ki_Ag_time ini_Ag ⟨rfl, rfl⟩ hd_Ag_time ⟨Nat.le_of_ble_eq_true rfl, Nat.le_of_ble_eq_true rfl⟩ rfl (Nat.le_of_ble_eq_true rfl) d_Ag_putShown_22 ⟨Nat.le_of_ble_eq_true rfl, Nat.le_of_ble_eq_true rfl⟩) X Y hA (fun z105 H locs Y p105 => ?_)
  obtain ⟨l105, u105⟩ := p105
  refine t_nv (t_runV (As := [.int (iI 0), .int (iI z105)]) (rest := []) (n := 2) X Y S k102 hml hl.1 (c_By_putTime l D E T κ L f104 H.size b102 6144 k102 (by omega) 0 (by omega) (by omega) z105 (by omega) (by omega) S.1) (ok_k X Y hA KS KR) rfl kl_Ag_By_putTime ks_By_putTime kx_By_putTime ki_By_putTime ini_By ⟨rfl, rfl⟩ hd_By_putTime ⟨Nat.le_of_ble_eq_true rfl, Nat.le_of_ble_eq_true rfl⟩ rfl (Nat.le_of_ble_eq_true rfl) d_Ag_putShown_25 ⟨Nat.le_of_ble_eq_true rfl, Nat.le_of_ble_eq_true rfl⟩) X Y hA S (by decide) (fun f106 H locs Y S s106 p106 => ?_)
  refine lv_aload_n X.1 X.2.1 d_Ag_putShown_28 rfl (lv_at hl 1 rfl) ?_
  refine lv_iconst (v := iI 1) X.1 X.2.1 d_Ag_putShown_29 (by decide) ?_
  refine lv_aload_n X.1 X.2.1 d_Ag_putShown_30 rfl (lv_at hl 2 rfl) ?_
  refine t_geti (ci := 2) X Y S k0 rfl i_Ag 7 (by decide) rfl lk_Ag_72 (fun _ h9 => h9) d_Ag_putShown_31 (fun z107 e107 l107 u107 => ?_)
  refine lv_ldc (v := (1000000)) X.1 X.2.1 X.2.2.2.1 (X.2.2.1 _ cn_Ag_199) d_Ag_putShown_34 ?_
  refine t_eq (y := iI 1000000) (by decide) ?_
  refine z_iremg X.1 X.2.1 ⟨by omega, by omega⟩ ⟨by decide, by decide⟩ d_Ag_putShown_36 (fun z108 l108 u108 x108 => ?_)
  refine lv_i2l X.1 X.2.1 d_Ag_putShown_37 rfl ?_
  refine t_anyl (fun v109 => ?_)
  refine t_nv (t_runV (As := [.int (iI 1), .long v109]) (rest := []) (n := 2) X Y S k102 hml hl.1 (c_By_putNumber l D E T κ L f106 H.size b102 6144 k102 (by omega) 1 (by omega) (by omega) v109 S.1) (ok_k X Y hA KS KR) rfl kl_Ag_By_putNumber ks_By_putNumber kx_By_putNumber ki_By_putNumber ini_By ⟨rfl, rfl⟩ hd_By_putNumber ⟨Nat.le_of_ble_eq_true rfl, Nat.le_of_ble_eq_true rfl⟩ rfl (Nat.le_of_ble_eq_true rfl) d_Ag_putShown_38 ⟨Nat.le_of_ble_eq_true rfl, Nat.le_of_ble_eq_true rfl⟩) X Y hA S (by decide) (fun f110 H locs Y S s110 p110 => ?_)
  refine lv_aload_n X.1 X.2.1 d_Ag_putShown_41 rfl (lv_at hl 1 rfl) ?_
  refine lv_iload_n X.1 X.2.1 d_Ag_putShown_42 rfl (lv_at hl 0 rfl) ?_
  refine t_nv (t_runV (As := [.int (iI z104)]) (rest := []) (n := 1) X Y S k102 hml hl.1 (c_By_close l D E T κ L f110 H.size b102 6144 k102 (by omega) z104 (by omega) (by omega) S.1) (ok_k X Y hA KS KR) rfl kl_Ag_By_close ks_By_close kx_By_close ki_By_close ini_By ⟨rfl, rfl⟩ hd_By_close ⟨Nat.le_of_ble_eq_true rfl, Nat.le_of_ble_eq_true rfl⟩ rfl (Nat.le_of_ble_eq_true rfl) d_Ag_putShown_43 ⟨Nat.le_of_ble_eq_true rfl, Nat.le_of_ble_eq_true rfl⟩) X Y hA S (by decide) (fun f111 H locs Y S s111 p111 => ?_)
  refine lv_aload_n X.1 X.2.1 d_Ag_putShown_46 rfl (lv_at hl 2 rfl) ?_
  refine lv_dup X.1 X.2.1 d_Ag_putShown_47 rfl ?_
  refine t_get0 (ci := 2) X Y S k0 rfl i_Ag 7 (by decide) rfl lk_Ag_72 (fun _ h9 => h9) d_Ag_putShown_48 ((gF_same (s111.2.2.2 _ ⟨(t_obj S.1 k0).1, nM_of k0 (by decide), by simp⟩).1 7).trans ((gF_same (s110.2.2.2 _ ⟨(t_obj S.1 k0).1, nM_of k0 (by decide), by simp⟩).1 7).trans e107)) ?_
  refine lv_iconst (v := iI 1) X.1 X.2.1 d_Ag_putShown_51 (by decide) ?_
  refine lv_iadd X.1 X.2.1 d_Ag_putShown_52 ?_
  refine t_u (fun z112 l112 u112 => ?_)
  refine t_put (ci := 2) X Y S k0 rfl i_Ag t_Ag t_Ag_ok n_Ag 7 (by decide) rfl lk_Ag_72 (fun _ h9 => h9) rfl (t_Ag_ok 7 (by decide)) rfl rfl ⟨_, rfl, (show ((-2147483648) : Int) ≤ z112 by omega), (show z112 ≤ (2147483647 : Int) by omega)⟩ (nF_of S k0 (by decide)) d_Ag_putShown_53 (fun f113 H locs Y S w113 => ?_)
  refine lv_aload_n X.1 X.2.1 d_Ag_putShown_56 rfl (lv_at hl 2 rfl) ?_
  refine t_get0 (ci := 2) X Y S k0 rfl i_Ag 0 (by decide) rfl lk_Ag_42 (fun _ h9 => h9) d_Ag_putShown_57 ((gF_put w113 (Or.inr (by decide))).trans ((gF_same (s111.2.2.2 _ ⟨(t_obj S.1 k0).1, nM_of k0 (by decide), by simp⟩).1 0).trans ((gF_same (s110.2.2.2 _ ⟨(t_obj S.1 k0).1, nM_of k0 (by decide), by simp⟩).1 0).trans ((gF_same (s106.2.2.2 _ ⟨(t_obj S.1 k0).1, nM_of k0 (by decide), by simp⟩).1 0).trans ((gF_same (s104.2.2.2 _ ⟨(t_obj S.1 k0).1, nM_of k0 (by decide), by simp⟩).1 0).trans ((gF_same (s103.2.2.2 _ ⟨(t_obj S.1 k0).1, nM_of k0 (by decide), by simp⟩).1 0).trans e101)))))) ?_
  refine lv_aload_n X.1 X.2.1 d_Ag_putShown_60 rfl (lv_at hl 3 rfl) ?_
  refine lv_aload_n X.1 X.2.1 d_Ag_putShown_61 rfl (lv_at hl 2 rfl) ?_
  refine lv_aload_n X.1 X.2.1 d_Ag_putShown_62 rfl (lv_at hl 2 rfl) ?_
  refine t_geti (ci := 2) X Y S k0 rfl i_Ag 11 (by decide) rfl lk_Ag_105 (fun _ h9 => h9) d_Ag_putShown_63 (fun z114 e114 l114 u114 => ?_)
  refine lv_iconst (v := iI 1) X.1 X.2.1 d_Ag_putShown_66 (by decide) ?_
  have J116 : ∀ (v115 : Int64) (H : Heap) (locs : List Loc) (ls : Array Slot), pH D cCl (pA L sz) s.heap L f113 H locs → tS E T (tFr κ L [1, 2, 3, 4, 11, 12, 13, 16, 21] []) κ L f κ L f113 → lv_has ls 4 [] → W p l e (kRm 6 187 0 0) s m AV below meth c H locs 0 0 QQ (F0 m 87 ls [.long v115, .ref h, .ref a1, .ref b101]) := by
    intro v115 H locs ls  Y S hl
    refine t_ur (t_runV (As := [.long v115]) (rest := [.ref a1, .ref b101]) (n := 1) X Y S k0 hml hl.1 (c_Ag_keyOf l D E T κ L f113 H.size h k0 v115 S.1) (ok_k X Y hA KS KR) rfl kl_Ag_Ag_keyOf ks_Ag_keyOf kx_Ag_keyOf ki_Ag_keyOf ini_Ag ⟨rfl, rfl⟩ hd_Ag_keyOf ⟨Nat.le_of_ble_eq_true rfl, Nat.le_of_ble_eq_true rfl⟩ rfl (Nat.le_of_ble_eq_true rfl) d_Ag_putShown_87 ⟨Nat.le_of_ble_eq_true rfl, Nat.le_of_ble_eq_true rfl⟩) X Y hA (fun b120 H locs Y p120 => ?_)
    obtain ⟨n120, k120⟩ := p120
    have x120 := tKey_n k120
    refine lv_iconst (v := iI 1) X.1 X.2.1 d_Ag_putShown_90 (by decide) ?_
    refine lv_iconst (v := iI 0) X.1 X.2.1 d_Ag_putShown_91 (by decide) ?_
    refine t_nv (t_runV (As := [.ref a1, .ref b120, .int (iI 1), .int (iI 0)]) (rest := []) (n := 4) X Y S k101 hml hl.1 (c_Va_putSealed l D E T κ L f113 H.size b101 k101 a1 n1 k1 (by omega) b120 n120 k120 (by omega) 1 (by omega) (by omega) 0 (by omega) (by omega) S.1) (ok_k X Y hA KS KR) rfl kl_Ag_Va_putSealed ks_Va_putSealed kx_Va_putSealed ki_Va_putSealed ini_Va ⟨rfl, rfl⟩ hd_Va_putSealed ⟨Nat.le_of_ble_eq_true rfl, Nat.le_of_ble_eq_true rfl⟩ rfl (Nat.le_of_ble_eq_true rfl) d_Ag_putShown_92 ⟨Nat.le_of_ble_eq_true rfl, Nat.le_of_ble_eq_true rfl⟩) X Y hA S (by decide) (fun f121 H locs Y S s121 p121 => ?_)
    exact c_retv hQQ X Y hr hlk ⟨rfl, S, trivial⟩ d_Ag_putShown_95
  have J122 : ∀  (H : Heap) (locs : List Loc) (ls : Array Slot), pH D cCl (pA L sz) s.heap L f113 H locs → tS E T (tFr κ L [1, 2, 3, 4, 11, 12, 13, 16, 21] []) κ L f κ L f113 → lv_has ls 4 [] → W p l e (kRm 6 187 0 0) s m AV below meth c H locs 0 0 QQ (F0 m 78 ls [.ref h, .ref a1, .ref b101]) := by
    intro  H locs ls  Y S hl
    refine lv_ldc2 (v := (17)) X.1 X.2.1 X.2.2.2.1 (X.2.2.1 _ cl_Ag_103) d_Ag_putShown_78 ?_
    refine lv_goto (tgt := 87) X.1 X.2.1 d_Ag_putShown_81 (by decide) ?_
    exact J116 ((17)) _ _ _  Y S (lv_sub hl [] rfl)
  refine z_icmp_eq (tgt := 78) X.1 X.2.1 d_Ag_putShown_67 (by decide) ⟨by omega, by omega⟩ ⟨by omega, by omega⟩ (fun h126 => ?_) (fun h126 => ?_)
  · exact J122  _ _ _  Y S (lv_sub hl [] rfl)
  · refine lv_aload_n X.1 X.2.1 d_Ag_putShown_70 rfl (lv_at hl 2 rfl) ?_
    refine t_get0 (ci := 2) X Y S k0 rfl i_Ag 11 (by decide) rfl lk_Ag_105 (fun _ h9 => h9) d_Ag_putShown_71 e114 ?_
    refine lv_iconst (v := iI 3) X.1 X.2.1 d_Ag_putShown_74 (by decide) ?_
    refine z_icmp_ne (tgt := 84) X.1 X.2.1 d_Ag_putShown_75 (by decide) ⟨by omega, by omega⟩ ⟨by omega, by omega⟩ (fun h127 => ?_) (fun h127 => ?_)
    · refine lv_ldc2 (v := (18)) X.1 X.2.1 X.2.2.2.1 (X.2.2.1 _ cl_Ag_108) d_Ag_putShown_84 ?_
      exact J116 ((18)) _ _ _  Y S (lv_sub hl [] rfl)
    · exact J122  _ _ _  Y S (lv_sub hl [] rfl)
set_option maxHeartbeats 4000000 in
set_option maxRecDepth 100000 in
theorem c_Ag_putAuthenticator (l : Launch) (D : va_G) (E : cE) (T : cT) (κ : tK) (L : List Nat) (f : pF) (sz : Nat) (h : Nat) (k0 : κ h = (12, 0)) (a1 : Nat) (k1 : κ a1 = (20, 0)) (a2 n2 : Nat) (k2 : tKey T κ a2 n2) (x2 : n2 = 0 ∨ n2 = 16 ∨ n2 = 32) (a3 n3 : Nat) (k3 : κ a3 = (13, n3)) (x3 : n3 ≤ 12288) (a4 : Int64) (hw : tW E T κ L f) : Met l y_Ag_putAuthenticator (k_Ag_putAuthenticator :: lw_tg) (kRm 7 181 0 0) (va_Pc [.ref h, .ref a1, .ref a2, .ref a3, .long a4] (kPre D E T L f sz)) (va_Qv (nPv E T [1, 2, 3, 4, 11, 12, 13, 16] κ L f (fun (g : pF) => True)) (cPost D E (pA L sz)) (pA L sz)) 0 0 (pA L sz) := by
  refine k_enter (own := R_Ag) (by decide) rfl (Nat.le_of_ble_eq_true rfl) (fun p e s m below meth c ls AV QQ H locs hQQ X Y hA hin hr hlk hml hl KS KR => ?_)
  have hl : lv_has ls 9 [(0, .ref h), (1, .ref a1), (2, .ref a2), (3, .ref a3), (4, .long a4)] := hl
  have S : tS E T (tFr κ L [1, 2, 3, 4, 11, 12, 13, 16] []) κ L f κ L f := tS_rf hw
  refine lv_aload_n X.1 X.2.1 d_Ag_putAuthenticator_0 rfl (lv_at hl 0 rfl) ?_
  refine t_getr (ci := 2) X Y S k0 rfl i_Ag 0 (by decide) rfl (k1 := 21) (k2 := 0) rfl rfl lk_Ag_42 (fun _ h9 => h9) d_Ag_putAuthenticator_1 (fun b101 e101 k101 => ?_)
  refine t_getr (ci := 11) X Y S k101 rfl i_Va 1 (by decide) rfl (k1 := 13) (k2 := 6144) rfl rfl lk_Ag_196 (fun _ h9 => h9) d_Ag_putAuthenticator_4 (fun b102 e102 k102 => ?_)
  refine lv_astore (lv' := [(6, .ref b102), (0, .ref h), (1, .ref a1), (2, .ref a2), (3, .ref a3), (4, .long a4)]) X.1 X.2.1 d_Ag_putAuthenticator_7 hl (by decide) rfl (fun ls hl => ?_)
  refine lv_aload X.1 X.2.1 d_Ag_putAuthenticator_9 (lv_at hl 0 rfl) ?_
  refine t_nv (t_runV (As := []) (rest := []) (n := 0) X Y S k102 hml hl.1 (c_By_clear l D E T κ L f H.size b102 6144 k102 (by omega) S.1) (ok_k X Y hA KS KR) rfl kl_Ag_By_clear ks_By_clear kx_By_clear ki_By_clear ini_By ⟨rfl, rfl⟩ hd_By_clear ⟨Nat.le_of_ble_eq_true rfl, Nat.le_of_ble_eq_true rfl⟩ rfl (Nat.le_of_ble_eq_true rfl) d_Ag_putAuthenticator_11 ⟨Nat.le_of_ble_eq_true rfl, Nat.le_of_ble_eq_true rfl⟩) X Y hA S (by decide) (fun f103 H locs Y S s103 p103 => ?_)
  refine lv_aload X.1 X.2.1 d_Ag_putAuthenticator_14 (lv_at hl 0 rfl) ?_
  refine lv_bipush (v := iI 98) X.1 X.2.1 d_Ag_putAuthenticator_16 (by decide) ?_
  refine t_ni (t_runV (As := [.int (iI 98)]) (rest := []) (n := 1) X Y S k102 hml hl.1 (c_By_open l D E T κ L f103 H.size b102 6144 k102 (by omega) 98 (by omega) (by omega) S.1) (ok_k X Y hA KS KR) rfl kl_Ag_By_open ks_By_open kx_By_open ki_By_open ini_By ⟨rfl, rfl⟩ hd_By_open ⟨Nat.le_of_ble_eq_true rfl, Nat.le_of_ble_eq_true rfl⟩ rfl (Nat.le_of_ble_eq_true rfl) d_Ag_putAuthenticator_18 ⟨Nat.le_of_ble_eq_true rfl, Nat.le_of_ble_eq_true rfl⟩) X Y hA S (by decide) (fun z104 f104 H locs Y S s104 p104 => ?_)
  obtain ⟨l104, u104⟩ := p104
  refine lv_istore (lv' := [(7, .int (iI z104)), (6, .ref b102), (0, .ref h), (1, .ref a1), (2, .ref a2), (3, .ref a3), (4, .long a4)]) X.1 X.2.1 d_Ag_putAuthenticator_21 hl (by decide) rfl (fun ls hl => ?_)
  refine lv_aload X.1 X.2.1 d_Ag_putAuthenticator_23 (lv_at hl 1 rfl) ?_
  refine lv_bipush (v := iI 48) X.1 X.2.1 d_Ag_putAuthenticator_25 (by decide) ?_
  refine t_ni (t_runV (As := [.int (iI 48)]) (rest := []) (n := 1) X Y S k102 hml hl.1 (c_By_open l D E T κ L f104 H.size b102 6144 k102 (by omega) 48 (by omega) (by omega) S.1) (ok_k X Y hA KS KR) rfl kl_Ag_By_open ks_By_open kx_By_open ki_By_open ini_By ⟨rfl, rfl⟩ hd_By_open ⟨Nat.le_of_ble_eq_true rfl, Nat.le_of_ble_eq_true rfl⟩ rfl (Nat.le_of_ble_eq_true rfl) d_Ag_putAuthenticator_27 ⟨Nat.le_of_ble_eq_true rfl, Nat.le_of_ble_eq_true rfl⟩) X Y hA S (by decide) (fun z105 f105 H locs Y S s105 p105 => ?_)
  obtain ⟨l105, u105⟩ := p105
  refine lv_istore (lv' := [(8, .int (iI z105)), (7, .int (iI z104)), (6, .ref b102), (0, .ref h), (1, .ref a1), (2, .ref a2), (3, .ref a3), (4, .long a4)]) X.1 X.2.1 d_Ag_putAuthenticator_30 hl (by decide) rfl (fun ls hl => ?_)
  refine lv_aload X.1 X.2.1 d_Ag_putAuthenticator_32 (lv_at hl 2 rfl) ?_
  refine lv_iconst (v := iI 0) X.1 X.2.1 d_Ag_putAuthenticator_34 (by decide) ?_
  refine lv_ldc2 (v := (5)) X.1 X.2.1 X.2.2.2.1 (X.2.2.1 _ cl_Ag_179) d_Ag_putAuthenticator_35 ?_
  refine t_nv (t_runV (As := [.int (iI 0), .long ((5))]) (rest := []) (n := 2) X Y S k102 hml hl.1 (c_By_putNumber l D E T κ L f105 H.size b102 6144 k102 (by omega) 0 (by omega) (by omega) ((5)) S.1) (ok_k X Y hA KS KR) rfl kl_Ag_By_putNumber ks_By_putNumber kx_By_putNumber ki_By_putNumber ini_By ⟨rfl, rfl⟩ hd_By_putNumber ⟨Nat.le_of_ble_eq_true rfl, Nat.le_of_ble_eq_true rfl⟩ rfl (Nat.le_of_ble_eq_true rfl) d_Ag_putAuthenticator_38 ⟨Nat.le_of_ble_eq_true rfl, Nat.le_of_ble_eq_true rfl⟩) X Y hA S (by decide) (fun f106 H locs Y S s106 p106 => ?_)
  refine lv_aload X.1 X.2.1 d_Ag_putAuthenticator_41 (lv_at hl 2 rfl) ?_
  refine lv_iconst (v := iI 1) X.1 X.2.1 d_Ag_putAuthenticator_43 (by decide) ?_
  refine t_nv (t_runV (As := [.int (iI 1)]) (rest := []) (n := 1) X Y S k102 hml hl.1 (c_By_putRealm l D E T κ L f106 H.size b102 6144 k102 (by omega) 1 (by omega) (by omega) S.1) (ok_k X Y hA KS KR) rfl kl_Ag_By_putRealm ks_By_putRealm kx_By_putRealm ki_By_putRealm ini_By ⟨rfl, rfl⟩ hd_By_putRealm ⟨Nat.le_of_ble_eq_true rfl, Nat.le_of_ble_eq_true rfl⟩ rfl (Nat.le_of_ble_eq_true rfl) d_Ag_putAuthenticator_44 ⟨Nat.le_of_ble_eq_true rfl, Nat.le_of_ble_eq_true rfl⟩) X Y hA S (by decide) (fun f107 H locs Y S s107 p107 => ?_)
  refine lv_aload X.1 X.2.1 d_Ag_putAuthenticator_47 (lv_at hl 2 rfl) ?_
  refine lv_iconst (v := iI 2) X.1 X.2.1 d_Ag_putAuthenticator_49 (by decide) ?_
  refine lv_aload_n X.1 X.2.1 d_Ag_putAuthenticator_50 rfl (lv_at hl 4 rfl) ?_
  refine t_geti (ci := 10) X Y S k1 rfl i_Ti 2 (by decide) rfl lk_Ag_208 (fun _ h9 => h9) d_Ag_putAuthenticator_51 (fun z108 e108 l108 u108 => ?_)
  refine lv_aload_n X.1 X.2.1 d_Ag_putAuthenticator_54 rfl (lv_at hl 4 rfl) ?_
  refine t_getr (ci := 10) X Y S k1 rfl i_Ti 1 (by decide) rfl (k1 := 13) (k2 := 40) rfl rfl lk_Ag_117 (fun _ h9 => h9) d_Ag_putAuthenticator_55 (fun b109 e109 k109 => ?_)
  refine t_nv (t_runV (As := [.int (iI 2), .int (iI z108), .ref b109]) (rest := []) (n := 3) X Y S k102 hml hl.1 (c_By_putName l D E T κ L f107 H.size b102 6144 k102 (by omega) 2 (by omega) (by omega) z108 (by omega) (by omega) b109 40 k109 (by omega) S.1) (ok_k X Y hA KS KR) rfl kl_Ag_By_putName ks_By_putName kx_By_putName ki_By_putName ini_By ⟨rfl, rfl⟩ hd_By_putName ⟨Nat.le_of_ble_eq_true rfl, Nat.le_of_ble_eq_true rfl⟩ rfl (Nat.le_of_ble_eq_true rfl) d_Ag_putAuthenticator_58 ⟨Nat.le_of_ble_eq_true rfl, Nat.le_of_ble_eq_true rfl⟩) X Y hA S (by decide) (fun f110 H locs Y S s110 p110 => ?_)
  refine lv_aload_n X.1 X.2.1 d_Ag_putAuthenticator_61 rfl (lv_at hl 6 rfl) ?_
  refine t_gets (ci := 3) X Y S k3 rfl i_By 1 (by decide) rfl lk_Ag_211 (fun _ h9 => h9) d_Ag_putAuthenticator_62 (fun z111 e111 l111 u111 => ?_)
  have J113 : ∀ (f112 : pF) (H : Heap) (locs : List Loc) (ls : Array Slot), pH D cCl (pA L sz) s.heap L f112 H locs → tS E T (tFr κ L [1, 2, 3, 4, 11, 12, 13, 16] []) κ L f κ L f112 → lv_has ls 9 [(0, .ref h), (2, .ref a2), (4, .long a4), (6, .ref b102), (7, .int (iI z104)), (8, .int (iI z105))] → W p l e (kRm 7 181 0 0) s m AV below meth c H locs 0 0 QQ (F0 m 100 ls []) := by
    intro f112 H locs ls  Y S hl
    refine lv_aload X.1 X.2.1 d_Ag_putAuthenticator_100 (lv_at hl 3 rfl) ?_
    refine lv_iconst (v := iI 4) X.1 X.2.1 d_Ag_putAuthenticator_102 (by decide) ?_
    refine lv_aload_n X.1 X.2.1 d_Ag_putAuthenticator_103 rfl (lv_at hl 0 rfl) ?_
    refine t_geti (ci := 2) X Y S k0 rfl i_Ag 7 (by decide) rfl lk_Ag_72 (fun _ h9 => h9) d_Ag_putAuthenticator_104 (fun z117 e117 l117 u117 => ?_)
    refine lv_ldc (v := (1000000)) X.1 X.2.1 X.2.2.2.1 (X.2.2.1 _ cn_Ag_199) d_Ag_putAuthenticator_107 ?_
    refine t_eq (y := iI 1000000) (by decide) ?_
    refine z_iremg X.1 X.2.1 ⟨by omega, by omega⟩ ⟨by decide, by decide⟩ d_Ag_putAuthenticator_109 (fun z118 l118 u118 x118 => ?_)
    refine lv_i2l X.1 X.2.1 d_Ag_putAuthenticator_110 rfl ?_
    refine t_anyl (fun v119 => ?_)
    refine t_nv (t_runV (As := [.int (iI 4), .long v119]) (rest := []) (n := 2) X Y S k102 hml hl.1 (c_By_putNumber l D E T κ L f112 H.size b102 6144 k102 (by omega) 4 (by omega) (by omega) v119 S.1) (ok_k X Y hA KS KR) rfl kl_Ag_By_putNumber ks_By_putNumber kx_By_putNumber ki_By_putNumber ini_By ⟨rfl, rfl⟩ hd_By_putNumber ⟨Nat.le_of_ble_eq_true rfl, Nat.le_of_ble_eq_true rfl⟩ rfl (Nat.le_of_ble_eq_true rfl) d_Ag_putAuthenticator_111 ⟨Nat.le_of_ble_eq_true rfl, Nat.le_of_ble_eq_true rfl⟩) X Y hA S (by decide) (fun f120 H locs Y S s120 p120 => ?_)
    refine lv_aload X.1 X.2.1 d_Ag_putAuthenticator_114 (lv_at hl 3 rfl) ?_
    refine lv_iconst (v := iI 5) X.1 X.2.1 d_Ag_putAuthenticator_116 (by decide) ?_
    refine lv_aload_n X.1 X.2.1 d_Ag_putAuthenticator_117 rfl (lv_at hl 0 rfl) ?_
    refine t_ui (t_runV (As := []) (rest := [.int (iI 5), .ref b102]) (n := 0) X Y S k0 hml hl.1 (c_Ag_time l D E T κ L f120 H.size h k0 S.1) (ok_k X Y hA KS KR) rfl kl_Ag_Ag_time ks_Ag_time kx_Ag_time ki_Ag_time ini_Ag ⟨rfl, rfl⟩ hd_Ag_time ⟨Nat.le_of_ble_eq_true rfl, Nat.le_of_ble_eq_true rfl⟩ rfl (Nat.le_of_ble_eq_true rfl) d_Ag_putAuthenticator_118 ⟨Nat.le_of_ble_eq_true rfl, Nat.le_of_ble_eq_true rfl⟩) X Y hA (fun z121 H locs Y p121 => ?_)
    obtain ⟨l121, u121⟩ := p121
    refine t_nv (t_runV (As := [.int (iI 5), .int (iI z121)]) (rest := []) (n := 2) X Y S k102 hml hl.1 (c_By_putTime l D E T κ L f120 H.size b102 6144 k102 (by omega) 5 (by omega) (by omega) z121 (by omega) (by omega) S.1) (ok_k X Y hA KS KR) rfl kl_Ag_By_putTime ks_By_putTime kx_By_putTime ki_By_putTime ini_By ⟨rfl, rfl⟩ hd_By_putTime ⟨Nat.le_of_ble_eq_true rfl, Nat.le_of_ble_eq_true rfl⟩ rfl (Nat.le_of_ble_eq_true rfl) d_Ag_putAuthenticator_121 ⟨Nat.le_of_ble_eq_true rfl, Nat.le_of_ble_eq_true rfl⟩) X Y hA S (by decide) (fun f122 H locs Y S s122 p122 => ?_)
    refine lv_aload_n X.1 X.2.1 d_Ag_putAuthenticator_124 rfl (lv_at hl 1 rfl) ?_
    refine t_alen X Y S KS (tKey_src k2) (by omega) d_Ag_putAuthenticator_125 ?_
    have J124 : ∀ (f123 : pF) (H : Heap) (locs : List Loc) (ls : Array Slot), pH D cCl (pA L sz) s.heap L f123 H locs → tS E T (tFr κ L [1, 2, 3, 4, 11, 12, 13, 16] []) κ L f κ L f123 → lv_has ls 9 [(0, .ref h), (4, .long a4), (6, .ref b102), (7, .int (iI z104)), (8, .int (iI z105))] → W p l e (kRm 7 181 0 0) s m AV below meth c H locs 0 0 QQ (F0 m 137 ls []) := by
      intro f123 H locs ls  Y S hl
      refine lv_lload X.1 X.2.1 d_Ag_putAuthenticator_137 (lv_at hl 1 rfl) ?_
      refine lv_lconst (v := 0) X.1 X.2.1 d_Ag_putAuthenticator_139 rfl ?_
      refine W.lcmp X.1 X.2.1 d_Ag_putAuthenticator_140 ?_
      refine t_u (fun z128 l128 u128 => ?_)
      have J130 : ∀ (f129 : pF) (H : Heap) (locs : List Loc) (ls : Array Slot), pH D cCl (pA L sz) s.heap L f129 H locs → tS E T (tFr κ L [1, 2, 3, 4, 11, 12, 13, 16] []) κ L f κ L f129 → lv_has ls 9 [(0, .ref h), (6, .ref b102), (7, .int (iI z104)), (8, .int (iI z105))] → W p l e (kRm 7 181 0 0) s m AV below meth c H locs 0 0 QQ (F0 m 153 ls []) := by
        intro f129 H locs ls  Y S hl
        refine lv_aload X.1 X.2.1 d_Ag_putAuthenticator_153 (lv_at hl 1 rfl) ?_
        refine lv_iload X.1 X.2.1 d_Ag_putAuthenticator_155 (lv_at hl 3 rfl) ?_
        refine t_nv (t_runV (As := [.int (iI z105)]) (rest := []) (n := 1) X Y S k102 hml hl.1 (c_By_close l D E T κ L f129 H.size b102 6144 k102 (by omega) z105 (by omega) (by omega) S.1) (ok_k X Y hA KS KR) rfl kl_Ag_By_close ks_By_close kx_By_close ki_By_close ini_By ⟨rfl, rfl⟩ hd_By_close ⟨Nat.le_of_ble_eq_true rfl, Nat.le_of_ble_eq_true rfl⟩ rfl (Nat.le_of_ble_eq_true rfl) d_Ag_putAuthenticator_157 ⟨Nat.le_of_ble_eq_true rfl, Nat.le_of_ble_eq_true rfl⟩) X Y hA S (by decide) (fun f134 H locs Y S s134 p134 => ?_)
        refine lv_aload X.1 X.2.1 d_Ag_putAuthenticator_160 (lv_at hl 1 rfl) ?_
        refine lv_iload X.1 X.2.1 d_Ag_putAuthenticator_162 (lv_at hl 2 rfl) ?_
        refine t_nv (t_runV (As := [.int (iI z104)]) (rest := []) (n := 1) X Y S k102 hml hl.1 (c_By_close l D E T κ L f134 H.size b102 6144 k102 (by omega) z104 (by omega) (by omega) S.1) (ok_k X Y hA KS KR) rfl kl_Ag_By_close ks_By_close kx_By_close ki_By_close ini_By ⟨rfl, rfl⟩ hd_By_close ⟨Nat.le_of_ble_eq_true rfl, Nat.le_of_ble_eq_true rfl⟩ rfl (Nat.le_of_ble_eq_true rfl) d_Ag_putAuthenticator_164 ⟨Nat.le_of_ble_eq_true rfl, Nat.le_of_ble_eq_true rfl⟩) X Y hA S (by decide) (fun f135 H locs Y S s135 p135 => ?_)
        refine lv_aload_n X.1 X.2.1 d_Ag_putAuthenticator_167 rfl (lv_at hl 0 rfl) ?_
        refine lv_dup X.1 X.2.1 d_Ag_putAuthenticator_168 rfl ?_
        refine t_geti (ci := 2) X Y S k0 rfl i_Ag 7 (by decide) rfl lk_Ag_72 (fun _ h9 => h9) d_Ag_putAuthenticator_169 (fun z136 e136 l136 u136 => ?_)
        refine lv_iconst (v := iI 1) X.1 X.2.1 d_Ag_putAuthenticator_172 (by decide) ?_
        refine lv_iadd X.1 X.2.1 d_Ag_putAuthenticator_173 ?_
        refine t_u (fun z137 l137 u137 => ?_)
        refine t_put (ci := 2) X Y S k0 rfl i_Ag t_Ag t_Ag_ok n_Ag 7 (by decide) rfl lk_Ag_72 (fun _ h9 => h9) rfl (t_Ag_ok 7 (by decide)) rfl rfl ⟨_, rfl, (show ((-2147483648) : Int) ≤ z137 by omega), (show z137 ≤ (2147483647 : Int) by omega)⟩ (nF_of S k0 (by decide)) d_Ag_putAuthenticator_174 (fun f138 H locs Y S w138 => ?_)
        exact c_retv hQQ X Y hr hlk ⟨rfl, S, trivial⟩ d_Ag_putAuthenticator_177
      refine z_if_lt (tgt := 153) X.1 X.2.1 d_Ag_putAuthenticator_141 (by decide) ⟨by omega, by omega⟩ (fun h139 => ?_) (fun h139 => ?_)
      · exact J130 f123 _ _ _  Y S (lv_sub hl [0, 2, 3, 4] rfl)
      · refine lv_aload X.1 X.2.1 d_Ag_putAuthenticator_144 (lv_at hl 2 rfl) ?_
        refine lv_bipush (v := iI 7) X.1 X.2.1 d_Ag_putAuthenticator_146 (by decide) ?_
        refine lv_lload X.1 X.2.1 d_Ag_putAuthenticator_148 (lv_at hl 1 rfl) ?_
        refine t_nv (t_runV (As := [.int (iI 7), .long a4]) (rest := []) (n := 2) X Y S k102 hml hl.1 (c_By_putNumber l D E T κ L f123 H.size b102 6144 k102 (by omega) 7 (by omega) (by omega) a4 S.1) (ok_k X Y hA KS KR) rfl kl_Ag_By_putNumber ks_By_putNumber kx_By_putNumber ki_By_putNumber ini_By ⟨rfl, rfl⟩ hd_By_putNumber ⟨Nat.le_of_ble_eq_true rfl, Nat.le_of_ble_eq_true rfl⟩ rfl (Nat.le_of_ble_eq_true rfl) d_Ag_putAuthenticator_150 ⟨Nat.le_of_ble_eq_true rfl, Nat.le_of_ble_eq_true rfl⟩) X Y hA S (by decide) (fun f140 H locs Y S s140 p140 => ?_)
        exact J130 f140 _ _ _  Y S (lv_sub hl [0, 2, 3, 4] rfl)
    refine z_if_le (tgt := 137) X.1 X.2.1 d_Ag_putAuthenticator_126 (by decide) ⟨by omega, by omega⟩ (fun h141 => ?_) (fun h141 => ?_)
    · exact J124 f122 _ _ _  Y S (lv_sub hl [0, 2, 3, 4, 5] rfl)
    · refine lv_aload X.1 X.2.1 d_Ag_putAuthenticator_129 (lv_at hl 3 rfl) ?_
      refine lv_bipush (v := iI 6) X.1 X.2.1 d_Ag_putAuthenticator_131 (by decide) ?_
      refine lv_aload_n X.1 X.2.1 d_Ag_putAuthenticator_133 rfl (lv_at hl 1 rfl) ?_
      refine t_nv (t_runV (As := [.int (iI 6), .ref a2]) (rest := []) (n := 2) X Y S k102 hml hl.1 (c_By_putKey l D E T κ L f122 H.size b102 6144 k102 (by omega) 6 (by omega) (by omega) a2 n2 k2 (by omega) S.1) (ok_k X Y hA KS KR) rfl kl_Ag_By_putKey ks_By_putKey kx_By_putKey ki_By_putKey ini_By ⟨rfl, rfl⟩ hd_By_putKey ⟨Nat.le_of_ble_eq_true rfl, Nat.le_of_ble_eq_true rfl⟩ rfl (Nat.le_of_ble_eq_true rfl) d_Ag_putAuthenticator_134 ⟨Nat.le_of_ble_eq_true rfl, Nat.le_of_ble_eq_true rfl⟩) X Y hA S (by decide) (fun f142 H locs Y S s142 p142 => ?_)
      exact J124 f142 _ _ _  Y S (lv_sub hl [0, 2, 3, 4, 5] rfl)
  refine z_if_le (tgt := 100) X.1 X.2.1 d_Ag_putAuthenticator_65 (by decide) ⟨by omega, by omega⟩ (fun h143 => ?_) (fun h143 => ?_)
  · exact J113 f110 _ _ _  Y S (lv_sub hl [3, 5, 7, 2, 1, 0] rfl)
  · refine lv_aload_n X.1 X.2.1 d_Ag_putAuthenticator_68 rfl (lv_at hl 3 rfl) ?_
    refine t_get0 (ci := 2) X Y S k0 rfl i_Ag 0 (by decide) rfl lk_Ag_42 (fun _ h9 => h9) d_Ag_putAuthenticator_69 ((gF_same (s110.2.2.2 _ ⟨(t_obj S.1 k0).1, nM_of k0 (by decide), by simp⟩).1 0).trans ((gF_same (s107.2.2.2 _ ⟨(t_obj S.1 k0).1, nM_of k0 (by decide), by simp⟩).1 0).trans ((gF_same (s106.2.2.2 _ ⟨(t_obj S.1 k0).1, nM_of k0 (by decide), by simp⟩).1 0).trans ((gF_same (s105.2.2.2 _ ⟨(t_obj S.1 k0).1, nM_of k0 (by decide), by simp⟩).1 0).trans ((gF_same (s104.2.2.2 _ ⟨(t_obj S.1 k0).1, nM_of k0 (by decide), by simp⟩).1 0).trans ((gF_same (s103.2.2.2 _ ⟨(t_obj S.1 k0).1, nM_of k0 (by decide), by simp⟩).1 0).trans e101)))))) ?_
    refine lv_aload_n X.1 X.2.1 d_Ag_putAuthenticator_72 rfl (lv_at hl 4 rfl) ?_
    refine t_getk (ci := 10) X Y S k1 rfl i_Ti 4 (by decide) rfl lk_Ag_126 (fun _ h9 => h9) d_Ag_putAuthenticator_73 (fun b144 n144 e144 k144 x144 => ?_)
    refine lv_bipush (v := iI 6) X.1 X.2.1 d_Ag_putAuthenticator_76 (by decide) ?_
    refine lv_aload_n X.1 X.2.1 d_Ag_putAuthenticator_78 rfl (lv_at hl 6 rfl) ?_
    refine lv_iconst (v := iI 0) X.1 X.2.1 d_Ag_putAuthenticator_79 (by decide) ?_
    refine lv_aload_n X.1 X.2.1 d_Ag_putAuthenticator_80 rfl (lv_at hl 6 rfl) ?_
    refine t_get0 (ci := 3) X Y S k3 rfl i_By 1 (by decide) rfl lk_Ag_211 (fun _ h9 => h9) d_Ag_putAuthenticator_81 e111 ?_
    refine t_nv (t_runV (As := [.ref b144, .int (iI 6), .ref a3, .int (iI 0), .int (iI z111)]) (rest := []) (n := 5) X Y S k101 hml hl.1 (c_Va_sum l D E T κ L f110 H.size b101 k101 b144 n144 k144 (by omega) 6 (by omega) (by omega) a3 n3 k3 (by omega) 0 (by omega) (by omega) z111 (by omega) (by omega) S.1) (ok_k X Y hA KS KR) rfl kl_Ag_Va_sum ks_Va_sum kx_Va_sum ki_Va_sum ini_Va ⟨rfl, rfl⟩ hd_Va_sum ⟨Nat.le_of_ble_eq_true rfl, Nat.le_of_ble_eq_true rfl⟩ rfl (Nat.le_of_ble_eq_true rfl) d_Ag_putAuthenticator_84 ⟨Nat.le_of_ble_eq_true rfl, Nat.le_of_ble_eq_true rfl⟩) X Y hA S (by decide) (fun f145 H locs Y S s145 p145 => ?_)
    refine lv_aload_n X.1 X.2.1 d_Ag_putAuthenticator_87 rfl (lv_at hl 3 rfl) ?_
    refine t_get0 (ci := 2) X Y S k0 rfl i_Ag 0 (by decide) rfl lk_Ag_42 (fun _ h9 => h9) d_Ag_putAuthenticator_88 ((gF_same (s145.2.2.2 _ ⟨(t_obj S.1 k0).1, nM_of k0 (by decide), by simp⟩).1 0).trans ((gF_same (s110.2.2.2 _ ⟨(t_obj S.1 k0).1, nM_of k0 (by decide), by simp⟩).1 0).trans ((gF_same (s107.2.2.2 _ ⟨(t_obj S.1 k0).1, nM_of k0 (by decide), by simp⟩).1 0).trans ((gF_same (s106.2.2.2 _ ⟨(t_obj S.1 k0).1, nM_of k0 (by decide), by simp⟩).1 0).trans ((gF_same (s105.2.2.2 _ ⟨(t_obj S.1 k0).1, nM_of k0 (by decide), by simp⟩).1 0).trans ((gF_same (s104.2.2.2 _ ⟨(t_obj S.1 k0).1, nM_of k0 (by decide), by simp⟩).1 0).trans ((gF_same (s103.2.2.2 _ ⟨(t_obj S.1 k0).1, nM_of k0 (by decide), by simp⟩).1 0).trans e101))))))) ?_
    refine lv_aload X.1 X.2.1 d_Ag_putAuthenticator_91 (lv_at hl 2 rfl) ?_
    refine lv_aload_n X.1 X.2.1 d_Ag_putAuthenticator_93 rfl (lv_at hl 4 rfl) ?_
    refine t_get0 (ci := 10) X Y S k1 rfl i_Ti 4 (by decide) rfl lk_Ag_126 (fun _ h9 => h9) d_Ag_putAuthenticator_94 ((gF_same (s145.2.2.2 _ ⟨(t_obj S.1 k1).1, nM_of k1 (by decide), by simp⟩).1 4).trans e144) ?_
    refine t_nv (t_runV (As := [.ref b102, .ref b144]) (rest := []) (n := 2) X Y S k101 hml hl.1 (c_Va_putSum l D E T κ L f145 H.size b101 k101 b102 6144 k102 (by omega) b144 n144 k144 (by omega) S.1) (ok_k X Y hA KS KR) rfl kl_Ag_Va_putSum ks_Va_putSum kx_Va_putSum ki_Va_putSum ini_Va ⟨rfl, rfl⟩ hd_Va_putSum ⟨Nat.le_of_ble_eq_true rfl, Nat.le_of_ble_eq_true rfl⟩ rfl (Nat.le_of_ble_eq_true rfl) d_Ag_putAuthenticator_97 ⟨Nat.le_of_ble_eq_true rfl, Nat.le_of_ble_eq_true rfl⟩) X Y hA S (by decide) (fun f146 H locs Y S s146 p146 => ?_)
    exact J113 f146 _ _ _  Y S (lv_sub hl [3, 5, 7, 2, 1, 0] rfl)
set_option maxHeartbeats 4000000 in
set_option maxRecDepth 100000 in
theorem c_Ag_putApReq (l : Launch) (D : va_G) (E : cE) (T : cT) (κ : tK) (L : List Nat) (f : pF) (sz : Nat) (h : Nat) (k0 : κ h = (12, 0)) (a1 : Nat) (k1 : κ a1 = (20, 0)) (a2 : Int) (l_a2 : (-2147483648) ≤ a2) (u_a2 : a2 ≤ 2147483647) (a3 : Int) (l_a3 : (-2147483648) ≤ a3) (u_a3 : a3 ≤ 2147483647) (a4 n4 : Nat) (k4 : κ a4 = (13, n4)) (x4 : n4 ≤ 12288) (hw : tW E T κ L f) : Met l y_Ag_putApReq (k_Ag_putApReq :: lw_tg) (kRm 6 187 0 0) (va_Pc [.ref h, .ref a1, .int (iI a2), .int (iI a3), .ref a4] (kPre D E T L f sz)) (va_Qv (nPv E T [1, 2, 3, 4, 11, 13, 16, 21] κ L f (fun (g : pF) => True)) (cPost D E (pA L sz)) (pA L sz)) 0 0 (pA L sz) := by
  refine k_enter (own := R_Ag) (by decide) rfl (Nat.le_of_ble_eq_true rfl) (fun p e s m below meth c ls AV QQ H locs hQQ X Y hA hin hr hlk hml hl KS KR => ?_)
  have hl : lv_has ls 8 [(0, .ref h), (1, .ref a1), (2, .int (iI a2)), (3, .int (iI a3)), (4, .ref a4)] := hl
  have S : tS E T (tFr κ L [1, 2, 3, 4, 11, 13, 16, 21] []) κ L f κ L f := tS_rf hw
  refine lv_aload X.1 X.2.1 d_Ag_putApReq_0 (lv_at hl 4 rfl) ?_
  refine lv_bipush (v := iI 110) X.1 X.2.1 d_Ag_putApReq_2 (by decide) ?_
  refine t_ni (t_runV (As := [.int (iI 110)]) (rest := []) (n := 1) X Y S k4 hml hl.1 (c_By_open l D E T κ L f H.size a4 n4 k4 (by omega) 110 (by omega) (by omega) S.1) (ok_k X Y hA KS KR) rfl kl_Ag_By_open ks_By_open kx_By_open ki_By_open ini_By ⟨rfl, rfl⟩ hd_By_open ⟨Nat.le_of_ble_eq_true rfl, Nat.le_of_ble_eq_true rfl⟩ rfl (Nat.le_of_ble_eq_true rfl) d_Ag_putApReq_4 ⟨Nat.le_of_ble_eq_true rfl, Nat.le_of_ble_eq_true rfl⟩) X Y hA S (by decide) (fun z101 f101 H locs Y S s101 p101 => ?_)
  obtain ⟨l101, u101⟩ := p101
  refine lv_istore (lv' := [(5, .int (iI z101)), (0, .ref h), (1, .ref a1), (2, .int (iI a2)), (3, .int (iI a3)), (4, .ref a4)]) X.1 X.2.1 d_Ag_putApReq_7 hl (by decide) rfl (fun ls hl => ?_)
  refine lv_aload X.1 X.2.1 d_Ag_putApReq_9 (lv_at hl 5 rfl) ?_
  refine lv_bipush (v := iI 48) X.1 X.2.1 d_Ag_putApReq_11 (by decide) ?_
  refine t_ni (t_runV (As := [.int (iI 48)]) (rest := []) (n := 1) X Y S k4 hml hl.1 (c_By_open l D E T κ L f101 H.size a4 n4 k4 (by omega) 48 (by omega) (by omega) S.1) (ok_k X Y hA KS KR) rfl kl_Ag_By_open ks_By_open kx_By_open ki_By_open ini_By ⟨rfl, rfl⟩ hd_By_open ⟨Nat.le_of_ble_eq_true rfl, Nat.le_of_ble_eq_true rfl⟩ rfl (Nat.le_of_ble_eq_true rfl) d_Ag_putApReq_13 ⟨Nat.le_of_ble_eq_true rfl, Nat.le_of_ble_eq_true rfl⟩) X Y hA S (by decide) (fun z102 f102 H locs Y S s102 p102 => ?_)
  obtain ⟨l102, u102⟩ := p102
  refine lv_istore (lv' := [(6, .int (iI z102)), (5, .int (iI z101)), (0, .ref h), (1, .ref a1), (2, .int (iI a2)), (3, .int (iI a3)), (4, .ref a4)]) X.1 X.2.1 d_Ag_putApReq_16 hl (by decide) rfl (fun ls hl => ?_)
  refine lv_aload X.1 X.2.1 d_Ag_putApReq_18 (lv_at hl 6 rfl) ?_
  refine lv_iconst (v := iI 0) X.1 X.2.1 d_Ag_putApReq_20 (by decide) ?_
  refine lv_ldc2 (v := (5)) X.1 X.2.1 X.2.2.2.1 (X.2.2.1 _ cl_Ag_179) d_Ag_putApReq_21 ?_
  refine t_nv (t_runV (As := [.int (iI 0), .long ((5))]) (rest := []) (n := 2) X Y S k4 hml hl.1 (c_By_putNumber l D E T κ L f102 H.size a4 n4 k4 (by omega) 0 (by omega) (by omega) ((5)) S.1) (ok_k X Y hA KS KR) rfl kl_Ag_By_putNumber ks_By_putNumber kx_By_putNumber ki_By_putNumber ini_By ⟨rfl, rfl⟩ hd_By_putNumber ⟨Nat.le_of_ble_eq_true rfl, Nat.le_of_ble_eq_true rfl⟩ rfl (Nat.le_of_ble_eq_true rfl) d_Ag_putApReq_24 ⟨Nat.le_of_ble_eq_true rfl, Nat.le_of_ble_eq_true rfl⟩) X Y hA S (by decide) (fun f103 H locs Y S s103 p103 => ?_)
  refine lv_aload X.1 X.2.1 d_Ag_putApReq_27 (lv_at hl 6 rfl) ?_
  refine lv_iconst (v := iI 1) X.1 X.2.1 d_Ag_putApReq_29 (by decide) ?_
  refine lv_ldc2 (v := (14)) X.1 X.2.1 X.2.2.2.1 (X.2.2.1 _ cl_Ag_226) d_Ag_putApReq_30 ?_
  refine t_nv (t_runV (As := [.int (iI 1), .long ((14))]) (rest := []) (n := 2) X Y S k4 hml hl.1 (c_By_putNumber l D E T κ L f103 H.size a4 n4 k4 (by omega) 1 (by omega) (by omega) ((14)) S.1) (ok_k X Y hA KS KR) rfl kl_Ag_By_putNumber ks_By_putNumber kx_By_putNumber ki_By_putNumber ini_By ⟨rfl, rfl⟩ hd_By_putNumber ⟨Nat.le_of_ble_eq_true rfl, Nat.le_of_ble_eq_true rfl⟩ rfl (Nat.le_of_ble_eq_true rfl) d_Ag_putApReq_33 ⟨Nat.le_of_ble_eq_true rfl, Nat.le_of_ble_eq_true rfl⟩) X Y hA S (by decide) (fun f104 H locs Y S s104 p104 => ?_)
  refine lv_aload X.1 X.2.1 d_Ag_putApReq_36 (lv_at hl 6 rfl) ?_
  refine lv_iconst (v := iI 2) X.1 X.2.1 d_Ag_putApReq_38 (by decide) ?_
  refine lv_iload_n X.1 X.2.1 d_Ag_putApReq_39 rfl (lv_at hl 4 rfl) ?_
  refine t_nv (t_runV (As := [.int (iI 2), .int (iI a2)]) (rest := []) (n := 2) X Y S k4 hml hl.1 (c_By_putBits l D E T κ L f104 H.size a4 n4 k4 (by omega) 2 (by omega) (by omega) a2 (by omega) (by omega) S.1) (ok_k X Y hA KS KR) rfl kl_Ag_By_putBits ks_By_putBits kx_By_putBits ki_By_putBits ini_By ⟨rfl, rfl⟩ hd_By_putBits ⟨Nat.le_of_ble_eq_true rfl, Nat.le_of_ble_eq_true rfl⟩ rfl (Nat.le_of_ble_eq_true rfl) d_Ag_putApReq_40 ⟨Nat.le_of_ble_eq_true rfl, Nat.le_of_ble_eq_true rfl⟩) X Y hA S (by decide) (fun f105 H locs Y S s105 p105 => ?_)
  refine lv_aload X.1 X.2.1 d_Ag_putApReq_43 (lv_at hl 6 rfl) ?_
  refine lv_iconst (v := iI 3) X.1 X.2.1 d_Ag_putApReq_45 (by decide) ?_
  refine lv_aload_n X.1 X.2.1 d_Ag_putApReq_46 rfl (lv_at hl 3 rfl) ?_
  refine t_getm (ci := 10) X Y S k1 rfl i_Ti 0 (by decide) rfl (k1 := 13) (k2 := 4000) rfl rfl lk_Ag_228 (fun _ h9 => h9) d_Ag_putApReq_47 (fun b106 n106 e106 k106 x106 => ?_)
  refine lv_iconst (v := iI 0) X.1 X.2.1 d_Ag_putApReq_50 (by decide) ?_
  refine t_nv (t_runV (As := [.int (iI 3), .ref b106, .int (iI 0)]) (rest := []) (n := 3) X Y S k4 hml hl.1 (c_By_putCopy l D E T κ L f105 H.size a4 n4 k4 (by omega) 3 (by omega) (by omega) b106 n106 k106 (by omega) 0 (by omega) (by omega) S.1) (ok_k X Y hA KS KR) rfl kl_Ag_By_putCopy ks_By_putCopy kx_By_putCopy ki_By_putCopy ini_By ⟨rfl, rfl⟩ hd_By_putCopy ⟨Nat.le_of_ble_eq_true rfl, Nat.le_of_ble_eq_true rfl⟩ rfl (Nat.le_of_ble_eq_true rfl) d_Ag_putApReq_51 ⟨Nat.le_of_ble_eq_true rfl, Nat.le_of_ble_eq_true rfl⟩) X Y hA S (by decide) (fun f107 H locs Y S s107 p107 => ?_)
  refine lv_aload X.1 X.2.1 d_Ag_putApReq_54 (lv_at hl 6 rfl) ?_
  refine lv_iconst (v := iI 4) X.1 X.2.1 d_Ag_putApReq_56 (by decide) ?_
  refine t_ni (t_runV (As := [.int (iI 4)]) (rest := []) (n := 1) X Y S k4 hml hl.1 (c_By_openField l D E T κ L f107 H.size a4 n4 k4 (by omega) 4 (by omega) (by omega) S.1) (ok_k X Y hA KS KR) rfl kl_Ag_By_openField ks_By_openField kx_By_openField ki_By_openField ini_By ⟨rfl, rfl⟩ hd_By_openField ⟨Nat.le_of_ble_eq_true rfl, Nat.le_of_ble_eq_true rfl⟩ rfl (Nat.le_of_ble_eq_true rfl) d_Ag_putApReq_57 ⟨Nat.le_of_ble_eq_true rfl, Nat.le_of_ble_eq_true rfl⟩) X Y hA S (by decide) (fun z108 f108 H locs Y S s108 p108 => ?_)
  obtain ⟨l108, u108⟩ := p108
  refine lv_istore (lv' := [(7, .int (iI z108)), (6, .int (iI z102)), (5, .int (iI z101)), (0, .ref h), (1, .ref a1), (2, .int (iI a2)), (3, .int (iI a3)), (4, .ref a4)]) X.1 X.2.1 d_Ag_putApReq_60 hl (by decide) rfl (fun ls hl => ?_)
  refine lv_aload_n X.1 X.2.1 d_Ag_putApReq_62 rfl (lv_at hl 3 rfl) ?_
  refine t_getr (ci := 2) X Y S k0 rfl i_Ag 0 (by decide) rfl (k1 := 21) (k2 := 0) rfl rfl lk_Ag_42 (fun _ h9 => h9) d_Ag_putApReq_63 (fun b109 e109 k109 => ?_)
  refine lv_aload X.1 X.2.1 d_Ag_putApReq_66 (lv_at hl 7 rfl) ?_
  refine lv_aload_n X.1 X.2.1 d_Ag_putApReq_68 rfl (lv_at hl 4 rfl) ?_
  refine t_getk (ci := 10) X Y S k1 rfl i_Ti 4 (by decide) rfl lk_Ag_126 (fun _ h9 => h9) d_Ag_putApReq_69 (fun b110 n110 e110 k110 x110 => ?_)
  refine lv_iload_n X.1 X.2.1 d_Ag_putApReq_72 rfl (lv_at hl 6 rfl) ?_
  refine lv_iconst (v := iI 0) X.1 X.2.1 d_Ag_putApReq_73 (by decide) ?_
  refine t_nv (t_runV (As := [.ref a4, .ref b110, .int (iI a3), .int (iI 0)]) (rest := []) (n := 4) X Y S k109 hml hl.1 (c_Va_putSealed l D E T κ L f108 H.size b109 k109 a4 n4 k4 (by omega) b110 n110 k110 (by omega) a3 (by omega) (by omega) 0 (by omega) (by omega) S.1) (ok_k X Y hA KS KR) rfl kl_Ag_Va_putSealed ks_Va_putSealed kx_Va_putSealed ki_Va_putSealed ini_Va ⟨rfl, rfl⟩ hd_Va_putSealed ⟨Nat.le_of_ble_eq_true rfl, Nat.le_of_ble_eq_true rfl⟩ rfl (Nat.le_of_ble_eq_true rfl) d_Ag_putApReq_74 ⟨Nat.le_of_ble_eq_true rfl, Nat.le_of_ble_eq_true rfl⟩) X Y hA S (by decide) (fun f111 H locs Y S s111 p111 => ?_)
  refine lv_aload X.1 X.2.1 d_Ag_putApReq_77 (lv_at hl 7 rfl) ?_
  refine lv_iload X.1 X.2.1 d_Ag_putApReq_79 (lv_at hl 0 rfl) ?_
  refine t_nv (t_runV (As := [.int (iI z108)]) (rest := []) (n := 1) X Y S k4 hml hl.1 (c_By_close l D E T κ L f111 H.size a4 n4 k4 (by omega) z108 (by omega) (by omega) S.1) (ok_k X Y hA KS KR) rfl kl_Ag_By_close ks_By_close kx_By_close ki_By_close ini_By ⟨rfl, rfl⟩ hd_By_close ⟨Nat.le_of_ble_eq_true rfl, Nat.le_of_ble_eq_true rfl⟩ rfl (Nat.le_of_ble_eq_true rfl) d_Ag_putApReq_81 ⟨Nat.le_of_ble_eq_true rfl, Nat.le_of_ble_eq_true rfl⟩) X Y hA S (by decide) (fun f112 H locs Y S s112 p112 => ?_)
  refine lv_aload X.1 X.2.1 d_Ag_putApReq_84 (lv_at hl 7 rfl) ?_
  refine lv_iload X.1 X.2.1 d_Ag_putApReq_86 (lv_at hl 1 rfl) ?_
  refine t_nv (t_runV (As := [.int (iI z102)]) (rest := []) (n := 1) X Y S k4 hml hl.1 (c_By_close l D E T κ L f112 H.size a4 n4 k4 (by omega) z102 (by omega) (by omega) S.1) (ok_k X Y hA KS KR) rfl kl_Ag_By_close ks_By_close kx_By_close ki_By_close ini_By ⟨rfl, rfl⟩ hd_By_close ⟨Nat.le_of_ble_eq_true rfl, Nat.le_of_ble_eq_true rfl⟩ rfl (Nat.le_of_ble_eq_true rfl) d_Ag_putApReq_88 ⟨Nat.le_of_ble_eq_true rfl, Nat.le_of_ble_eq_true rfl⟩) X Y hA S (by decide) (fun f113 H locs Y S s113 p113 => ?_)
  refine lv_aload X.1 X.2.1 d_Ag_putApReq_91 (lv_at hl 7 rfl) ?_
  refine lv_iload X.1 X.2.1 d_Ag_putApReq_93 (lv_at hl 2 rfl) ?_
  refine t_nv (t_runV (As := [.int (iI z101)]) (rest := []) (n := 1) X Y S k4 hml hl.1 (c_By_close l D E T κ L f113 H.size a4 n4 k4 (by omega) z101 (by omega) (by omega) S.1) (ok_k X Y hA KS KR) rfl kl_Ag_By_close ks_By_close kx_By_close ki_By_close ini_By ⟨rfl, rfl⟩ hd_By_close ⟨Nat.le_of_ble_eq_true rfl, Nat.le_of_ble_eq_true rfl⟩ rfl (Nat.le_of_ble_eq_true rfl) d_Ag_putApReq_95 ⟨Nat.le_of_ble_eq_true rfl, Nat.le_of_ble_eq_true rfl⟩) X Y hA S (by decide) (fun f114 H locs Y S s114 p114 => ?_)
  exact c_retv hQQ X Y hr hlk ⟨rfl, S, trivial⟩ d_Ag_putApReq_98
set_option maxHeartbeats 4000000 in
set_option maxRecDepth 100000 in
theorem c_Ag_putRequest (l : Launch) (D : va_G) (E : cE) (T : cT) (κ : tK) (L : List Nat) (f : pF) (sz : Nat) (h : Nat) (k0 : κ h = (12, 0)) (a1 : Int) (l_a1 : (-2147483648) ≤ a1) (u_a1 : a1 ≤ 2147483647) (a2 n2 : Nat) (k2 : κ a2 = (13, n2)) (x2 : n2 ≤ 12288) (hw : tW E T κ L f) : Met l y_Ag_putRequest (k_Ag_putRequest :: lw_tg) (kRm 8 214 0 0) (va_Pc [.ref h, .int (iI a1), .ref a2] (kPre D E T L f sz)) (va_Qv (nPv E T [1, 2, 3, 4, 11, 12, 13, 16, 21] κ L f (fun (g : pF) => True)) (cPost D E (pA L sz)) (pA L sz)) 0 0 (pA L sz) := by
  refine k_enter (own := R_Ag) (by decide) rfl (Nat.le_of_ble_eq_true rfl) (fun p e s m below meth c ls AV QQ H locs hQQ X Y hA hin hr hlk hml hl KS KR => ?_)
  have hl : lv_has ls 11 [(0, .ref h), (1, .int (iI a1)), (2, .ref a2)] := hl
  have S : tS E T (tFr κ L [1, 2, 3, 4, 11, 12, 13, 16, 21] []) κ L f κ L f := tS_rf hw
  refine lv_aload_n X.1 X.2.1 d_Ag_putRequest_0 rfl (lv_at hl 0 rfl) ?_
  refine t_geti (ci := 2) X Y S k0 rfl i_Ag 8 (by decide) rfl lk_Ag_75 (fun _ h9 => h9) d_Ag_putRequest_1 (fun z101 e101 l101 u101 => ?_)
  refine lv_iconst (v := iI 2) X.1 X.2.1 d_Ag_putRequest_4 (by decide) ?_
  have J103 : ∀ (z102 : Int) (H : Heap) (locs : List Loc) (ls : Array Slot), (10 ≤ z102) → (z102 ≤ 12) → pH D cCl (pA L sz) s.heap L f H locs → tS E T (tFr κ L [1, 2, 3, 4, 11, 12, 13, 16, 21] []) κ L f κ L f → lv_has ls 11 [(0, .ref h), (1, .int (iI a1)), (2, .ref a2)] → W p l e (kRm 8 214 0 0) s m AV below meth c H locs 0 0 QQ (F0 m 15 ls [.int (iI z102)]) := by
    intro z102 H locs ls l102 u102 Y S hl
    refine lv_istore_n (lv' := [(3, .int (iI z102)), (0, .ref h), (1, .int (iI a1)), (2, .ref a2)]) X.1 X.2.1 d_Ag_putRequest_15 rfl hl (by decide) rfl (fun ls hl => ?_)
    refine lv_aload_n X.1 X.2.1 d_Ag_putRequest_16 rfl (lv_at hl 3 rfl) ?_
    refine t_nv (t_runV (As := []) (rest := []) (n := 0) X Y S k2 hml hl.1 (c_By_clear l D E T κ L f H.size a2 n2 k2 (by omega) S.1) (ok_k X Y hA KS KR) rfl kl_Ag_By_clear ks_By_clear kx_By_clear ki_By_clear ini_By ⟨rfl, rfl⟩ hd_By_clear ⟨Nat.le_of_ble_eq_true rfl, Nat.le_of_ble_eq_true rfl⟩ rfl (Nat.le_of_ble_eq_true rfl) d_Ag_putRequest_17 ⟨Nat.le_of_ble_eq_true rfl, Nat.le_of_ble_eq_true rfl⟩) X Y hA S (by decide) (fun f107 H locs Y S s107 p107 => ?_)
    refine lv_aload_n X.1 X.2.1 d_Ag_putRequest_20 rfl (lv_at hl 3 rfl) ?_
    refine lv_bipush (v := iI 96) X.1 X.2.1 d_Ag_putRequest_21 (by decide) ?_
    refine lv_iload_n X.1 X.2.1 d_Ag_putRequest_23 rfl (lv_at hl 0 rfl) ?_
    refine z_iadd X.1 X.2.1 d_Ag_putRequest_24 ?_
    refine t_ni (t_runV (As := [.int (iI (96 + z102))]) (rest := []) (n := 1) X Y S k2 hml hl.1 (c_By_open l D E T κ L f107 H.size a2 n2 k2 (by omega) (96 + z102) (by omega) (by omega) S.1) (ok_k X Y hA KS KR) rfl kl_Ag_By_open ks_By_open kx_By_open ki_By_open ini_By ⟨rfl, rfl⟩ hd_By_open ⟨Nat.le_of_ble_eq_true rfl, Nat.le_of_ble_eq_true rfl⟩ rfl (Nat.le_of_ble_eq_true rfl) d_Ag_putRequest_25 ⟨Nat.le_of_ble_eq_true rfl, Nat.le_of_ble_eq_true rfl⟩) X Y hA S (by decide) (fun z108 f108 H locs Y S s108 p108 => ?_)
    obtain ⟨l108, u108⟩ := p108
    refine lv_istore (lv' := [(4, .int (iI z108)), (3, .int (iI z102)), (0, .ref h), (1, .int (iI a1)), (2, .ref a2)]) X.1 X.2.1 d_Ag_putRequest_28 hl (by decide) rfl (fun ls hl => ?_)
    refine lv_aload_n X.1 X.2.1 d_Ag_putRequest_30 rfl (lv_at hl 4 rfl) ?_
    refine lv_bipush (v := iI 48) X.1 X.2.1 d_Ag_putRequest_31 (by decide) ?_
    refine t_ni (t_runV (As := [.int (iI 48)]) (rest := []) (n := 1) X Y S k2 hml hl.1 (c_By_open l D E T κ L f108 H.size a2 n2 k2 (by omega) 48 (by omega) (by omega) S.1) (ok_k X Y hA KS KR) rfl kl_Ag_By_open ks_By_open kx_By_open ki_By_open ini_By ⟨rfl, rfl⟩ hd_By_open ⟨Nat.le_of_ble_eq_true rfl, Nat.le_of_ble_eq_true rfl⟩ rfl (Nat.le_of_ble_eq_true rfl) d_Ag_putRequest_33 ⟨Nat.le_of_ble_eq_true rfl, Nat.le_of_ble_eq_true rfl⟩) X Y hA S (by decide) (fun z109 f109 H locs Y S s109 p109 => ?_)
    obtain ⟨l109, u109⟩ := p109
    refine lv_istore (lv' := [(5, .int (iI z109)), (4, .int (iI z108)), (3, .int (iI z102)), (0, .ref h), (1, .int (iI a1)), (2, .ref a2)]) X.1 X.2.1 d_Ag_putRequest_36 hl (by decide) rfl (fun ls hl => ?_)
    refine lv_aload_n X.1 X.2.1 d_Ag_putRequest_38 rfl (lv_at hl 5 rfl) ?_
    refine lv_iconst (v := iI 1) X.1 X.2.1 d_Ag_putRequest_39 (by decide) ?_
    refine lv_ldc2 (v := (5)) X.1 X.2.1 X.2.2.2.1 (X.2.2.1 _ cl_Ag_179) d_Ag_putRequest_40 ?_
    refine t_nv (t_runV (As := [.int (iI 1), .long ((5))]) (rest := []) (n := 2) X Y S k2 hml hl.1 (c_By_putNumber l D E T κ L f109 H.size a2 n2 k2 (by omega) 1 (by omega) (by omega) ((5)) S.1) (ok_k X Y hA KS KR) rfl kl_Ag_By_putNumber ks_By_putNumber kx_By_putNumber ki_By_putNumber ini_By ⟨rfl, rfl⟩ hd_By_putNumber ⟨Nat.le_of_ble_eq_true rfl, Nat.le_of_ble_eq_true rfl⟩ rfl (Nat.le_of_ble_eq_true rfl) d_Ag_putRequest_43 ⟨Nat.le_of_ble_eq_true rfl, Nat.le_of_ble_eq_true rfl⟩) X Y hA S (by decide) (fun f110 H locs Y S s110 p110 => ?_)
    refine lv_aload_n X.1 X.2.1 d_Ag_putRequest_46 rfl (lv_at hl 5 rfl) ?_
    refine lv_iconst (v := iI 2) X.1 X.2.1 d_Ag_putRequest_47 (by decide) ?_
    refine lv_iload_n X.1 X.2.1 d_Ag_putRequest_48 rfl (lv_at hl 2 rfl) ?_
    refine lv_i2l X.1 X.2.1 d_Ag_putRequest_49 rfl ?_
    refine t_anyl (fun v111 => ?_)
    refine t_nv (t_runV (As := [.int (iI 2), .long v111]) (rest := []) (n := 2) X Y S k2 hml hl.1 (c_By_putNumber l D E T κ L f110 H.size a2 n2 k2 (by omega) 2 (by omega) (by omega) v111 S.1) (ok_k X Y hA KS KR) rfl kl_Ag_By_putNumber ks_By_putNumber kx_By_putNumber ki_By_putNumber ini_By ⟨rfl, rfl⟩ hd_By_putNumber ⟨Nat.le_of_ble_eq_true rfl, Nat.le_of_ble_eq_true rfl⟩ rfl (Nat.le_of_ble_eq_true rfl) d_Ag_putRequest_50 ⟨Nat.le_of_ble_eq_true rfl, Nat.le_of_ble_eq_true rfl⟩) X Y hA S (by decide) (fun f112 H locs Y S s112 p112 => ?_)
    refine lv_aload_n X.1 X.2.1 d_Ag_putRequest_53 rfl (lv_at hl 3 rfl) ?_
    refine t_get0 (ci := 2) X Y S k0 rfl i_Ag 8 (by decide) rfl lk_Ag_75 (fun _ h9 => h9) d_Ag_putRequest_54 ((gF_same (s112.2.2.2 _ ⟨(t_obj S.1 k0).1, nM_of k0 (by decide), by simp⟩).1 8).trans ((gF_same (s110.2.2.2 _ ⟨(t_obj S.1 k0).1, nM_of k0 (by decide), by simp⟩).1 8).trans ((gF_same (s109.2.2.2 _ ⟨(t_obj S.1 k0).1, nM_of k0 (by decide), by simp⟩).1 8).trans ((gF_same (s108.2.2.2 _ ⟨(t_obj S.1 k0).1, nM_of k0 (by decide), by simp⟩).1 8).trans ((gF_same (s107.2.2.2 _ ⟨(t_obj S.1 k0).1, nM_of k0 (by decide), by simp⟩).1 8).trans e101))))) ?_
    have J114 : ∀ (f113 : pF) (H : Heap) (locs : List Loc) (ls : Array Slot), pH D cCl (pA L sz) s.heap L f113 H locs → tS E T (tFr κ L [1, 2, 3, 4, 11, 12, 13, 16, 21] []) κ L f κ L f113 → lv_has ls 11 [(0, .ref h), (2, .ref a2), (4, .int (iI z108)), (5, .int (iI z109))] → W p l e (kRm 8 214 0 0) s m AV below meth c H locs 0 0 QQ (F0 m 201 ls []) := by
      intro f113 H locs ls  Y S hl
      refine lv_aload_n X.1 X.2.1 d_Ag_putRequest_201 rfl (lv_at hl 1 rfl) ?_
      refine lv_iconst (v := iI 4) X.1 X.2.1 d_Ag_putRequest_202 (by decide) ?_
      refine lv_aload_n X.1 X.2.1 d_Ag_putRequest_203 rfl (lv_at hl 0 rfl) ?_
      refine t_getr (ci := 2) X Y S k0 rfl i_Ag 0 (by decide) rfl (k1 := 21) (k2 := 0) rfl rfl lk_Ag_42 (fun _ h9 => h9) d_Ag_putRequest_204 (fun b118 e118 k118 => ?_)
      refine t_getr (ci := 11) X Y S k118 rfl i_Va 2 (by decide) rfl (k1 := 13) (k2 := 512) rfl rfl lk_Ag_137 (fun _ h9 => h9) d_Ag_putRequest_207 (fun b119 e119 k119 => ?_)
      refine lv_iconst (v := iI 0) X.1 X.2.1 d_Ag_putRequest_210 (by decide) ?_
      refine t_nv (t_runV (As := [.int (iI 4), .ref b119, .int (iI 0)]) (rest := []) (n := 3) X Y S k2 hml hl.1 (c_By_putCopy l D E T κ L f113 H.size a2 n2 k2 (by omega) 4 (by omega) (by omega) b119 512 k119 (by omega) 0 (by omega) (by omega) S.1) (ok_k X Y hA KS KR) rfl kl_Ag_By_putCopy ks_By_putCopy kx_By_putCopy ki_By_putCopy ini_By ⟨rfl, rfl⟩ hd_By_putCopy ⟨Nat.le_of_ble_eq_true rfl, Nat.le_of_ble_eq_true rfl⟩ rfl (Nat.le_of_ble_eq_true rfl) d_Ag_putRequest_211 ⟨Nat.le_of_ble_eq_true rfl, Nat.le_of_ble_eq_true rfl⟩) X Y hA S (by decide) (fun f120 H locs Y S s120 p120 => ?_)
      refine lv_aload_n X.1 X.2.1 d_Ag_putRequest_214 rfl (lv_at hl 1 rfl) ?_
      refine lv_iload X.1 X.2.1 d_Ag_putRequest_215 (lv_at hl 3 rfl) ?_
      refine t_nv (t_runV (As := [.int (iI z109)]) (rest := []) (n := 1) X Y S k2 hml hl.1 (c_By_close l D E T κ L f120 H.size a2 n2 k2 (by omega) z109 (by omega) (by omega) S.1) (ok_k X Y hA KS KR) rfl kl_Ag_By_close ks_By_close kx_By_close ki_By_close ini_By ⟨rfl, rfl⟩ hd_By_close ⟨Nat.le_of_ble_eq_true rfl, Nat.le_of_ble_eq_true rfl⟩ rfl (Nat.le_of_ble_eq_true rfl) d_Ag_putRequest_217 ⟨Nat.le_of_ble_eq_true rfl, Nat.le_of_ble_eq_true rfl⟩) X Y hA S (by decide) (fun f121 H locs Y S s121 p121 => ?_)
      refine lv_aload_n X.1 X.2.1 d_Ag_putRequest_220 rfl (lv_at hl 1 rfl) ?_
      refine lv_iload X.1 X.2.1 d_Ag_putRequest_221 (lv_at hl 2 rfl) ?_
      refine t_nv (t_runV (As := [.int (iI z108)]) (rest := []) (n := 1) X Y S k2 hml hl.1 (c_By_close l D E T κ L f121 H.size a2 n2 k2 (by omega) z108 (by omega) (by omega) S.1) (ok_k X Y hA KS KR) rfl kl_Ag_By_close ks_By_close kx_By_close ki_By_close ini_By ⟨rfl, rfl⟩ hd_By_close ⟨Nat.le_of_ble_eq_true rfl, Nat.le_of_ble_eq_true rfl⟩ rfl (Nat.le_of_ble_eq_true rfl) d_Ag_putRequest_223 ⟨Nat.le_of_ble_eq_true rfl, Nat.le_of_ble_eq_true rfl⟩) X Y hA S (by decide) (fun f122 H locs Y S s122 p122 => ?_)
      exact c_retv hQQ X Y hr hlk ⟨rfl, S, trivial⟩ d_Ag_putRequest_226
    refine z_if_le (tgt := 201) X.1 X.2.1 d_Ag_putRequest_57 (by decide) ⟨by omega, by omega⟩ (fun h123 => ?_) (fun h123 => ?_)
    · exact J114 f112 _ _ _  Y S (lv_sub hl [3, 5, 1, 0] rfl)
    · refine lv_aload_n X.1 X.2.1 d_Ag_putRequest_60 rfl (lv_at hl 5 rfl) ?_
      refine lv_iconst (v := iI 3) X.1 X.2.1 d_Ag_putRequest_61 (by decide) ?_
      refine t_ni (t_runV (As := [.int (iI 3)]) (rest := []) (n := 1) X Y S k2 hml hl.1 (c_By_openField l D E T κ L f112 H.size a2 n2 k2 (by omega) 3 (by omega) (by omega) S.1) (ok_k X Y hA KS KR) rfl kl_Ag_By_openField ks_By_openField kx_By_openField ki_By_openField ini_By ⟨rfl, rfl⟩ hd_By_openField ⟨Nat.le_of_ble_eq_true rfl, Nat.le_of_ble_eq_true rfl⟩ rfl (Nat.le_of_ble_eq_true rfl) d_Ag_putRequest_62 ⟨Nat.le_of_ble_eq_true rfl, Nat.le_of_ble_eq_true rfl⟩) X Y hA S (by decide) (fun z124 f124 H locs Y S s124 p124 => ?_)
      obtain ⟨l124, u124⟩ := p124
      refine lv_istore (lv' := [(6, .int (iI z124)), (5, .int (iI z109)), (4, .int (iI z108)), (3, .int (iI z102)), (0, .ref h), (1, .int (iI a1)), (2, .ref a2)]) X.1 X.2.1 d_Ag_putRequest_65 hl (by decide) rfl (fun ls hl => ?_)
      refine lv_aload_n X.1 X.2.1 d_Ag_putRequest_67 rfl (lv_at hl 6 rfl) ?_
      refine lv_bipush (v := iI 48) X.1 X.2.1 d_Ag_putRequest_68 (by decide) ?_
      refine t_ni (t_runV (As := [.int (iI 48)]) (rest := []) (n := 1) X Y S k2 hml hl.1 (c_By_open l D E T κ L f124 H.size a2 n2 k2 (by omega) 48 (by omega) (by omega) S.1) (ok_k X Y hA KS KR) rfl kl_Ag_By_open ks_By_open kx_By_open ki_By_open ini_By ⟨rfl, rfl⟩ hd_By_open ⟨Nat.le_of_ble_eq_true rfl, Nat.le_of_ble_eq_true rfl⟩ rfl (Nat.le_of_ble_eq_true rfl) d_Ag_putRequest_70 ⟨Nat.le_of_ble_eq_true rfl, Nat.le_of_ble_eq_true rfl⟩) X Y hA S (by decide) (fun z125 f125 H locs Y S s125 p125 => ?_)
      obtain ⟨l125, u125⟩ := p125
      refine lv_istore (lv' := [(7, .int (iI z125)), (6, .int (iI z124)), (5, .int (iI z109)), (4, .int (iI z108)), (3, .int (iI z102)), (0, .ref h), (1, .int (iI a1)), (2, .ref a2)]) X.1 X.2.1 d_Ag_putRequest_73 hl (by decide) rfl (fun ls hl => ?_)
      refine lv_aload_n X.1 X.2.1 d_Ag_putRequest_75 rfl (lv_at hl 7 rfl) ?_
      refine lv_bipush (v := iI 48) X.1 X.2.1 d_Ag_putRequest_76 (by decide) ?_
      refine t_ni (t_runV (As := [.int (iI 48)]) (rest := []) (n := 1) X Y S k2 hml hl.1 (c_By_open l D E T κ L f125 H.size a2 n2 k2 (by omega) 48 (by omega) (by omega) S.1) (ok_k X Y hA KS KR) rfl kl_Ag_By_open ks_By_open kx_By_open ki_By_open ini_By ⟨rfl, rfl⟩ hd_By_open ⟨Nat.le_of_ble_eq_true rfl, Nat.le_of_ble_eq_true rfl⟩ rfl (Nat.le_of_ble_eq_true rfl) d_Ag_putRequest_78 ⟨Nat.le_of_ble_eq_true rfl, Nat.le_of_ble_eq_true rfl⟩) X Y hA S (by decide) (fun z126 f126 H locs Y S s126 p126 => ?_)
      obtain ⟨l126, u126⟩ := p126
      refine lv_istore (lv' := [(8, .int (iI z126)), (7, .int (iI z125)), (6, .int (iI z124)), (5, .int (iI z109)), (4, .int (iI z108)), (3, .int (iI z102)), (0, .ref h), (1, .int (iI a1)), (2, .ref a2)]) X.1 X.2.1 d_Ag_putRequest_81 hl (by decide) rfl (fun ls hl => ?_)
      refine lv_aload_n X.1 X.2.1 d_Ag_putRequest_83 rfl (lv_at hl 8 rfl) ?_
      refine lv_iconst (v := iI 1) X.1 X.2.1 d_Ag_putRequest_84 (by decide) ?_
      refine lv_iconst (v := iI 3) X.1 X.2.1 d_Ag_putRequest_85 (by decide) ?_
      refine lv_aload_n X.1 X.2.1 d_Ag_putRequest_86 rfl (lv_at hl 6 rfl) ?_
      refine t_get0 (ci := 2) X Y S k0 rfl i_Ag 8 (by decide) rfl lk_Ag_75 (fun _ h9 => h9) d_Ag_putRequest_87 ((gF_same (s126.2.2.2 _ ⟨(t_obj S.1 k0).1, nM_of k0 (by decide), by simp⟩).1 8).trans ((gF_same (s125.2.2.2 _ ⟨(t_obj S.1 k0).1, nM_of k0 (by decide), by simp⟩).1 8).trans ((gF_same (s124.2.2.2 _ ⟨(t_obj S.1 k0).1, nM_of k0 (by decide), by simp⟩).1 8).trans ((gF_same (s112.2.2.2 _ ⟨(t_obj S.1 k0).1, nM_of k0 (by decide), by simp⟩).1 8).trans ((gF_same (s110.2.2.2 _ ⟨(t_obj S.1 k0).1, nM_of k0 (by decide), by simp⟩).1 8).trans ((gF_same (s109.2.2.2 _ ⟨(t_obj S.1 k0).1, nM_of k0 (by decide), by simp⟩).1 8).trans ((gF_same (s108.2.2.2 _ ⟨(t_obj S.1 k0).1, nM_of k0 (by decide), by simp⟩).1 8).trans ((gF_same (s107.2.2.2 _ ⟨(t_obj S.1 k0).1, nM_of k0 (by decide), by simp⟩).1 8).trans e101)))))))) ?_
      refine z_isub X.1 X.2.1 d_Ag_putRequest_90 ?_
      refine lv_i2l X.1 X.2.1 d_Ag_putRequest_91 rfl ?_
      refine t_anyl (fun v127 => ?_)
      refine t_nv (t_runV (As := [.int (iI 1), .long v127]) (rest := []) (n := 2) X Y S k2 hml hl.1 (c_By_putNumber l D E T κ L f126 H.size a2 n2 k2 (by omega) 1 (by omega) (by omega) v127 S.1) (ok_k X Y hA KS KR) rfl kl_Ag_By_putNumber ks_By_putNumber kx_By_putNumber ki_By_putNumber ini_By ⟨rfl, rfl⟩ hd_By_putNumber ⟨Nat.le_of_ble_eq_true rfl, Nat.le_of_ble_eq_true rfl⟩ rfl (Nat.le_of_ble_eq_true rfl) d_Ag_putRequest_92 ⟨Nat.le_of_ble_eq_true rfl, Nat.le_of_ble_eq_true rfl⟩) X Y hA S (by decide) (fun f128 H locs Y S s128 p128 => ?_)
      refine lv_aload_n X.1 X.2.1 d_Ag_putRequest_95 rfl (lv_at hl 8 rfl) ?_
      refine lv_iconst (v := iI 2) X.1 X.2.1 d_Ag_putRequest_96 (by decide) ?_
      refine t_ni (t_runV (As := [.int (iI 2)]) (rest := []) (n := 1) X Y S k2 hml hl.1 (c_By_openField l D E T κ L f128 H.size a2 n2 k2 (by omega) 2 (by omega) (by omega) S.1) (ok_k X Y hA KS KR) rfl kl_Ag_By_openField ks_By_openField kx_By_openField ki_By_openField ini_By ⟨rfl, rfl⟩ hd_By_openField ⟨Nat.le_of_ble_eq_true rfl, Nat.le_of_ble_eq_true rfl⟩ rfl (Nat.le_of_ble_eq_true rfl) d_Ag_putRequest_97 ⟨Nat.le_of_ble_eq_true rfl, Nat.le_of_ble_eq_true rfl⟩) X Y hA S (by decide) (fun z129 f129 H locs Y S s129 p129 => ?_)
      obtain ⟨l129, u129⟩ := p129
      refine lv_istore (lv' := [(9, .int (iI z129)), (8, .int (iI z126)), (7, .int (iI z125)), (6, .int (iI z124)), (5, .int (iI z109)), (4, .int (iI z108)), (3, .int (iI z102)), (0, .ref h), (1, .int (iI a1)), (2, .ref a2)]) X.1 X.2.1 d_Ag_putRequest_100 hl (by decide) rfl (fun ls hl => ?_)
      refine lv_aload_n X.1 X.2.1 d_Ag_putRequest_102 rfl (lv_at hl 9 rfl) ?_
      refine lv_iconst (v := iI 4) X.1 X.2.1 d_Ag_putRequest_103 (by decide) ?_
      refine t_ni (t_runV (As := [.int (iI 4)]) (rest := []) (n := 1) X Y S k2 hml hl.1 (c_By_open l D E T κ L f129 H.size a2 n2 k2 (by omega) 4 (by omega) (by omega) S.1) (ok_k X Y hA KS KR) rfl kl_Ag_By_open ks_By_open kx_By_open ki_By_open ini_By ⟨rfl, rfl⟩ hd_By_open ⟨Nat.le_of_ble_eq_true rfl, Nat.le_of_ble_eq_true rfl⟩ rfl (Nat.le_of_ble_eq_true rfl) d_Ag_putRequest_104 ⟨Nat.le_of_ble_eq_true rfl, Nat.le_of_ble_eq_true rfl⟩) X Y hA S (by decide) (fun z130 f130 H locs Y S s130 p130 => ?_)
      obtain ⟨l130, u130⟩ := p130
      refine lv_istore (lv' := [(10, .int (iI z130)), (9, .int (iI z129)), (8, .int (iI z126)), (7, .int (iI z125)), (6, .int (iI z124)), (5, .int (iI z109)), (4, .int (iI z108)), (3, .int (iI z102)), (0, .ref h), (1, .int (iI a1)), (2, .ref a2)]) X.1 X.2.1 d_Ag_putRequest_107 hl (by decide) rfl (fun ls hl => ?_)
      refine lv_aload_n X.1 X.2.1 d_Ag_putRequest_109 rfl (lv_at hl 8 rfl) ?_
      refine t_get0 (ci := 2) X Y S k0 rfl i_Ag 8 (by decide) rfl lk_Ag_75 (fun _ h9 => h9) d_Ag_putRequest_110 ((gF_same (s130.2.2.2 _ ⟨(t_obj S.1 k0).1, nM_of k0 (by decide), by simp⟩).1 8).trans ((gF_same (s129.2.2.2 _ ⟨(t_obj S.1 k0).1, nM_of k0 (by decide), by simp⟩).1 8).trans ((gF_same (s128.2.2.2 _ ⟨(t_obj S.1 k0).1, nM_of k0 (by decide), by simp⟩).1 8).trans ((gF_same (s126.2.2.2 _ ⟨(t_obj S.1 k0).1, nM_of k0 (by decide), by simp⟩).1 8).trans ((gF_same (s125.2.2.2 _ ⟨(t_obj S.1 k0).1, nM_of k0 (by decide), by simp⟩).1 8).trans ((gF_same (s124.2.2.2 _ ⟨(t_obj S.1 k0).1, nM_of k0 (by decide), by simp⟩).1 8).trans ((gF_same (s112.2.2.2 _ ⟨(t_obj S.1 k0).1, nM_of k0 (by decide), by simp⟩).1 8).trans ((gF_same (s110.2.2.2 _ ⟨(t_obj S.1 k0).1, nM_of k0 (by decide), by simp⟩).1 8).trans ((gF_same (s109.2.2.2 _ ⟨(t_obj S.1 k0).1, nM_of k0 (by decide), by simp⟩).1 8).trans ((gF_same (s108.2.2.2 _ ⟨(t_obj S.1 k0).1, nM_of k0 (by decide), by simp⟩).1 8).trans ((gF_same (s107.2.2.2 _ ⟨(t_obj S.1 k0).1, nM_of k0 (by decide), by simp⟩).1 8).trans e101))))))))))) ?_
      refine lv_iconst (v := iI 1) X.1 X.2.1 d_Ag_putRequest_113 (by decide) ?_
      have J132 : ∀ (f131 : pF) (H : Heap) (locs : List Loc) (ls : Array Slot), pH D cCl (pA L sz) s.heap L f131 H locs → tS E T (tFr κ L [1, 2, 3, 4, 11, 12, 13, 16, 21] []) κ L f κ L f131 → lv_has ls 11 [(0, .ref h), (2, .ref a2), (4, .int (iI z108)), (5, .int (iI z109)), (6, .int (iI z124)), (7, .int (iI z125)), (8, .int (iI z126)), (9, .int (iI z129)), (10, .int (iI z130))] → W p l e (kRm 8 214 0 0) s m AV below meth c H locs 0 0 QQ (F0 m 171 ls []) := by
        intro f131 H locs ls  Y S hl
        refine lv_aload_n X.1 X.2.1 d_Ag_putRequest_171 rfl (lv_at hl 1 rfl) ?_
        refine lv_iload X.1 X.2.1 d_Ag_putRequest_172 (lv_at hl 8 rfl) ?_
        refine t_nv (t_runV (As := [.int (iI z130)]) (rest := []) (n := 1) X Y S k2 hml hl.1 (c_By_close l D E T κ L f131 H.size a2 n2 k2 (by omega) z130 (by omega) (by omega) S.1) (ok_k X Y hA KS KR) rfl kl_Ag_By_close ks_By_close kx_By_close ki_By_close ini_By ⟨rfl, rfl⟩ hd_By_close ⟨Nat.le_of_ble_eq_true rfl, Nat.le_of_ble_eq_true rfl⟩ rfl (Nat.le_of_ble_eq_true rfl) d_Ag_putRequest_174 ⟨Nat.le_of_ble_eq_true rfl, Nat.le_of_ble_eq_true rfl⟩) X Y hA S (by decide) (fun f136 H locs Y S s136 p136 => ?_)
        refine lv_aload_n X.1 X.2.1 d_Ag_putRequest_177 rfl (lv_at hl 1 rfl) ?_
        refine lv_iload X.1 X.2.1 d_Ag_putRequest_178 (lv_at hl 7 rfl) ?_
        refine t_nv (t_runV (As := [.int (iI z129)]) (rest := []) (n := 1) X Y S k2 hml hl.1 (c_By_close l D E T κ L f136 H.size a2 n2 k2 (by omega) z129 (by omega) (by omega) S.1) (ok_k X Y hA KS KR) rfl kl_Ag_By_close ks_By_close kx_By_close ki_By_close ini_By ⟨rfl, rfl⟩ hd_By_close ⟨Nat.le_of_ble_eq_true rfl, Nat.le_of_ble_eq_true rfl⟩ rfl (Nat.le_of_ble_eq_true rfl) d_Ag_putRequest_180 ⟨Nat.le_of_ble_eq_true rfl, Nat.le_of_ble_eq_true rfl⟩) X Y hA S (by decide) (fun f137 H locs Y S s137 p137 => ?_)
        refine lv_aload_n X.1 X.2.1 d_Ag_putRequest_183 rfl (lv_at hl 1 rfl) ?_
        refine lv_iload X.1 X.2.1 d_Ag_putRequest_184 (lv_at hl 6 rfl) ?_
        refine t_nv (t_runV (As := [.int (iI z126)]) (rest := []) (n := 1) X Y S k2 hml hl.1 (c_By_close l D E T κ L f137 H.size a2 n2 k2 (by omega) z126 (by omega) (by omega) S.1) (ok_k X Y hA KS KR) rfl kl_Ag_By_close ks_By_close kx_By_close ki_By_close ini_By ⟨rfl, rfl⟩ hd_By_close ⟨Nat.le_of_ble_eq_true rfl, Nat.le_of_ble_eq_true rfl⟩ rfl (Nat.le_of_ble_eq_true rfl) d_Ag_putRequest_186 ⟨Nat.le_of_ble_eq_true rfl, Nat.le_of_ble_eq_true rfl⟩) X Y hA S (by decide) (fun f138 H locs Y S s138 p138 => ?_)
        refine lv_aload_n X.1 X.2.1 d_Ag_putRequest_189 rfl (lv_at hl 1 rfl) ?_
        refine lv_iload X.1 X.2.1 d_Ag_putRequest_190 (lv_at hl 5 rfl) ?_
        refine t_nv (t_runV (As := [.int (iI z125)]) (rest := []) (n := 1) X Y S k2 hml hl.1 (c_By_close l D E T κ L f138 H.size a2 n2 k2 (by omega) z125 (by omega) (by omega) S.1) (ok_k X Y hA KS KR) rfl kl_Ag_By_close ks_By_close kx_By_close ki_By_close ini_By ⟨rfl, rfl⟩ hd_By_close ⟨Nat.le_of_ble_eq_true rfl, Nat.le_of_ble_eq_true rfl⟩ rfl (Nat.le_of_ble_eq_true rfl) d_Ag_putRequest_192 ⟨Nat.le_of_ble_eq_true rfl, Nat.le_of_ble_eq_true rfl⟩) X Y hA S (by decide) (fun f139 H locs Y S s139 p139 => ?_)
        refine lv_aload_n X.1 X.2.1 d_Ag_putRequest_195 rfl (lv_at hl 1 rfl) ?_
        refine lv_iload X.1 X.2.1 d_Ag_putRequest_196 (lv_at hl 4 rfl) ?_
        refine t_nv (t_runV (As := [.int (iI z124)]) (rest := []) (n := 1) X Y S k2 hml hl.1 (c_By_close l D E T κ L f139 H.size a2 n2 k2 (by omega) z124 (by omega) (by omega) S.1) (ok_k X Y hA KS KR) rfl kl_Ag_By_close ks_By_close kx_By_close ki_By_close ini_By ⟨rfl, rfl⟩ hd_By_close ⟨Nat.le_of_ble_eq_true rfl, Nat.le_of_ble_eq_true rfl⟩ rfl (Nat.le_of_ble_eq_true rfl) d_Ag_putRequest_198 ⟨Nat.le_of_ble_eq_true rfl, Nat.le_of_ble_eq_true rfl⟩) X Y hA S (by decide) (fun f140 H locs Y S s140 p140 => ?_)
        exact J114 f140 _ _ _  Y S (lv_sub hl [0, 1, 2, 3] rfl)
      refine z_icmp_ne (tgt := 125) X.1 X.2.1 d_Ag_putRequest_114 (by decide) ⟨by omega, by omega⟩ ⟨by omega, by omega⟩ (fun h141 => ?_) (fun h141 => ?_)
      · refine lv_aload_n X.1 X.2.1 d_Ag_putRequest_125 rfl (lv_at hl 8 rfl) ?_
        refine lv_iload_n X.1 X.2.1 d_Ag_putRequest_126 rfl (lv_at hl 9 rfl) ?_
        refine t_ui (t_runV (As := [.int (iI a1)]) (rest := []) (n := 1) X Y S k0 hml hl.1 (c_Ag_has l D E T κ L f130 H.size h k0 a1 (by omega) (by omega) S.1) (ok_k X Y hA KS KR) rfl kl_Ag_Ag_has ks_Ag_has kx_Ag_has ki_Ag_has ini_Ag ⟨rfl, rfl⟩ hd_Ag_has ⟨Nat.le_of_ble_eq_true rfl, Nat.le_of_ble_eq_true rfl⟩ rfl (Nat.le_of_ble_eq_true rfl) d_Ag_putRequest_127 ⟨Nat.le_of_ble_eq_true rfl, Nat.le_of_ble_eq_true rfl⟩) X Y hA (fun z142 H locs Y p142 => ?_)
        obtain ⟨l142, u142, x142⟩ := p142
        refine z_if_eq (tgt := 171) X.1 X.2.1 d_Ag_putRequest_130 (by decide) ⟨by omega, by omega⟩ (fun h143 => ?_) (fun h143 => ?_)
        · exact J132 f130 _ _ _  Y S (lv_sub hl [8, 10, 6, 5, 4, 3, 2, 1, 0] rfl)
        · refine lv_aload_n X.1 X.2.1 d_Ag_putRequest_133 rfl (lv_at hl 8 rfl) ?_
          refine lv_aload_n X.1 X.2.1 d_Ag_putRequest_134 rfl (lv_at hl 8 rfl) ?_
          refine t_getr (ci := 2) X Y S k0 rfl i_Ag 1 (by decide) rfl (k1 := 8) (k2 := 8) rfl rfl lk_Ag_48 (fun _ h9 => h9) d_Ag_putRequest_135 (fun b144 e144 k144 => ?_)
          refine lv_iload_n X.1 X.2.1 d_Ag_putRequest_138 rfl (lv_at hl 9 rfl) ?_
          refine t_aald X Y S k144 (fun h9 => h9) (t0 := 5) rfl (by omega) (by omega) (by omega) d_Ag_putRequest_139 (fun b145 e145 k145 => ?_)
          refine lv_aload_n X.1 X.2.1 d_Ag_putRequest_140 rfl (lv_at hl 8 rfl) ?_
          refine t_getk (ci := 2) X Y S k0 rfl i_Ag 14 (by decide) rfl lk_Ag_36 (fun _ h9 => h9) d_Ag_putRequest_141 (fun b146 n146 e146 k146 x146 => ?_)
          refine lv_aload_n X.1 X.2.1 d_Ag_putRequest_144 rfl (lv_at hl 8 rfl) ?_
          refine t_getr (ci := 2) X Y S k0 rfl i_Ag 0 (by decide) rfl (k1 := 21) (k2 := 0) rfl rfl lk_Ag_42 (fun _ h9 => h9) d_Ag_putRequest_145 (fun b147 e147 k147 => ?_)
          refine t_getr (ci := 11) X Y S k147 rfl i_Va 2 (by decide) rfl (k1 := 13) (k2 := 512) rfl rfl lk_Ag_137 (fun _ h9 => h9) d_Ag_putRequest_148 (fun b148 e148 k148 => ?_)
          refine lv_ldc2 (v := (-1)) X.1 X.2.1 X.2.2.2.1 (X.2.2.1 _ cl_Ag_78) d_Ag_putRequest_151 ?_
          refine t_nv (t_runV (As := [.ref b145, .ref b146, .ref b148, .long ((-1))]) (rest := []) (n := 4) X Y S k0 hml hl.1 (c_Ag_putAuthenticator l D E T κ L f130 H.size h k0 b145 k145 b146 n146 k146 (by omega) b148 512 k148 (by omega) ((-1)) S.1) (ok_k X Y hA KS KR) rfl kl_Ag_Ag_putAuthenticator ks_Ag_putAuthenticator kx_Ag_putAuthenticator ki_Ag_putAuthenticator ini_Ag ⟨rfl, rfl⟩ hd_Ag_putAuthenticator ⟨Nat.le_of_ble_eq_true rfl, Nat.le_of_ble_eq_true rfl⟩ rfl (Nat.le_of_ble_eq_true rfl) d_Ag_putRequest_154 ⟨Nat.le_of_ble_eq_true rfl, Nat.le_of_ble_eq_true rfl⟩) X Y hA S (by decide) (fun f149 H locs Y S s149 p149 => ?_)
          refine lv_aload_n X.1 X.2.1 d_Ag_putRequest_157 rfl (lv_at hl 8 rfl) ?_
          refine lv_aload_n X.1 X.2.1 d_Ag_putRequest_158 rfl (lv_at hl 8 rfl) ?_
          refine t_getr (ci := 2) X Y S k0 rfl i_Ag 1 (by decide) rfl (k1 := 8) (k2 := 8) rfl rfl lk_Ag_48 (fun _ h9 => h9) d_Ag_putRequest_159 (fun b150 e150 k150 => ?_)
          refine lv_iload_n X.1 X.2.1 d_Ag_putRequest_162 rfl (lv_at hl 9 rfl) ?_
          refine t_aald X Y S k150 (fun h9 => h9) (t0 := 5) rfl (by omega) (by omega) (by omega) d_Ag_putRequest_163 (fun b151 e151 k151 => ?_)
          refine lv_iconst (v := iI 0) X.1 X.2.1 d_Ag_putRequest_164 (by decide) ?_
          refine lv_bipush (v := iI 7) X.1 X.2.1 d_Ag_putRequest_165 (by decide) ?_
          refine lv_aload_n X.1 X.2.1 d_Ag_putRequest_167 rfl (lv_at hl 10 rfl) ?_
          refine t_nv (t_runV (As := [.ref b151, .int (iI 0), .int (iI 7), .ref a2]) (rest := []) (n := 4) X Y S k0 hml hl.1 (c_Ag_putApReq l D E T κ L f149 H.size h k0 b151 k151 0 (by omega) (by omega) 7 (by omega) (by omega) a2 n2 k2 (by omega) S.1) (ok_k X Y hA KS KR) rfl kl_Ag_Ag_putApReq ks_Ag_putApReq kx_Ag_putApReq ki_Ag_putApReq ini_Ag ⟨rfl, rfl⟩ hd_Ag_putApReq ⟨Nat.le_of_ble_eq_true rfl, Nat.le_of_ble_eq_true rfl⟩ rfl (Nat.le_of_ble_eq_true rfl) d_Ag_putRequest_168 ⟨Nat.le_of_ble_eq_true rfl, Nat.le_of_ble_eq_true rfl⟩) X Y hA S (by decide) (fun f152 H locs Y S s152 p152 => ?_)
          exact J132 f152 _ _ _  Y S (lv_sub hl [8, 10, 6, 5, 4, 3, 2, 1, 0] rfl)
      · refine lv_aload_n X.1 X.2.1 d_Ag_putRequest_117 rfl (lv_at hl 8 rfl) ?_
        refine lv_aload_n X.1 X.2.1 d_Ag_putRequest_118 rfl (lv_at hl 10 rfl) ?_
        refine t_nv (t_runV (As := [.ref a2]) (rest := []) (n := 1) X Y S k0 hml hl.1 (c_Ag_putShown l D E T κ L f130 H.size h k0 a2 n2 k2 (by omega) S.1) (ok_k X Y hA KS KR) rfl kl_Ag_Ag_putShown ks_Ag_putShown kx_Ag_putShown ki_Ag_putShown ini_Ag ⟨rfl, rfl⟩ hd_Ag_putShown ⟨Nat.le_of_ble_eq_true rfl, Nat.le_of_ble_eq_true rfl⟩ rfl (Nat.le_of_ble_eq_true rfl) d_Ag_putRequest_119 ⟨Nat.le_of_ble_eq_true rfl, Nat.le_of_ble_eq_true rfl⟩) X Y hA S (by decide) (fun f153 H locs Y S s153 p153 => ?_)
        refine lv_goto (tgt := 171) X.1 X.2.1 d_Ag_putRequest_122 (by decide) ?_
        exact J132 f153 _ _ _  Y S (lv_sub hl [8, 10, 6, 5, 4, 3, 2, 1, 0] rfl)
  refine z_icmp_ne (tgt := 13) X.1 X.2.1 d_Ag_putRequest_5 (by decide) ⟨by omega, by omega⟩ ⟨by omega, by omega⟩ (fun h154 => ?_) (fun h154 => ?_)
  · refine lv_bipush (v := iI 10) X.1 X.2.1 d_Ag_putRequest_13 (by decide) ?_
    exact J103 10 _ _ _ (by omega) (by omega) Y S (lv_sub hl [0, 1, 2] rfl)
  · refine lv_bipush (v := iI 12) X.1 X.2.1 d_Ag_putRequest_8 (by decide) ?_
    refine lv_goto (tgt := 15) X.1 X.2.1 d_Ag_putRequest_10 (by decide) ?_
    exact J103 12 _ _ _ (by omega) (by omega) Y S (lv_sub hl [0, 1, 2] rfl)
set_option maxHeartbeats 4000000 in
set_option maxRecDepth 100000 in
theorem c_Ag_goWith (l : Launch) (D : va_G) (E : cE) (T : cT) (κ : tK) (L : List Nat) (f : pF) (sz : Nat) (h : Nat) (k0 : κ h = (12, 0)) (a1 : Nat) (k1 : κ a1 = (20, 0)) (a2 : Int) (l_a2 : (-2147483648) ≤ a2) (u_a2 : a2 ≤ 2147483647) (a3 n3 : Nat) (k3 : κ a3 = (13, n3)) (x3 : n3 ≤ 12288) (hw : tW E T κ L f) : Met l y_Ag_goWith (k_Ag_goWith :: lw_tg) (kRm 8 214 1 32) (va_Pc [.ref h, .ref a1, .int (iI a2), .ref a3] (kPre D E T L f sz)) (va_Qv (aPv E T [1, 2, 3, 4, 11, 12, 13, 16, 21] [] κ L f (fun (k : tK) (g : pF) => True)) (cPost D E (pA L sz)) (pA L sz)) 1 32 (pA L sz) := by
  refine k_enter (own := R_Ag) (by decide) rfl (Nat.le_of_ble_eq_true rfl) (fun p e s m below meth c ls AV QQ H locs hQQ X Y hA hin hr hlk hml hl KS KR => ?_)
  have hl : lv_has ls 5 [(0, .ref h), (1, .ref a1), (2, .int (iI a2)), (3, .ref a3)] := hl
  have S : tS E T (tFr κ L [1, 2, 3, 4, 11, 12, 13, 16, 21] []) κ L f κ L f := tS_rf hw
  have hF0 : ∀ b, tFr κ L [1, 2, 3, 4, 11, 12, 13, 16, 21] [] b → b ∈ L := fun b h9 => h9.1
  refine lv_iload_n X.1 X.2.1 d_Ag_goWith_0 rfl (lv_at hl 2 rfl) ?_
  refine lv_iconst (v := iI 2) X.1 X.2.1 d_Ag_goWith_1 (by decide) ?_
  refine z_iand X.1 X.2.1 (by omega) (by omega) d_Ag_goWith_2 (fun z101 l101 u101 => ?_)
  have J111 : ∀ (κ103 : tK) (L104 : List Nat) (b108 n110 : Nat) (f102 : pF) (H : Heap) (locs : List Loc) (ls : Array Slot), (κ103 h = (12, 0)) → (κ103 a1 = (20, 0)) → (κ103 a3 = (13, n3)) → (n110 = 0 ∨ n110 = 16 ∨ n110 = 32) → (tKey T κ103 b108 n110) → pH D cCl (pA L sz) s.heap L104 f102 H locs → tS E T (tFr κ L [1, 2, 3, 4, 11, 12, 13, 16, 21] []) κ L f κ103 L104 f102 → lv_has ls 5 [(0, .ref h), (1, .ref a1), (2, .int (iI a2)), (3, .ref a3)] → W p l e (kRm 8 214 1 32) s m AV below meth c H locs 1 32 QQ (F0 m 26 ls [.ref b108]) := by
    intro κ103 L104 b108 n110 f102 H locs ls k105 k106 k107 xn110 k109 Y S hl
    refine lv_astore (lv' := [(4, .ref b108), (0, .ref h), (1, .ref a1), (2, .int (iI a2)), (3, .ref a3)]) X.1 X.2.1 d_Ag_goWith_26 hl (by decide) rfl (fun ls hl => ?_)
    refine lv_aload_n X.1 X.2.1 d_Ag_goWith_28 rfl (lv_at hl 1 rfl) ?_
    refine lv_iload_n X.1 X.2.1 d_Ag_goWith_29 rfl (lv_at hl 3 rfl) ?_
    refine lv_iconst (v := iI 1) X.1 X.2.1 d_Ag_goWith_30 (by decide) ?_
    refine z_iand X.1 X.2.1 (by omega) (by omega) d_Ag_goWith_31 (fun z115 l115 u115 => ?_)
    have J117 : ∀ (z116 : Int) (H : Heap) (locs : List Loc) (ls : Array Slot), (0 ≤ z116) → (z116 ≤ 1) → pH D cCl (pA L sz) s.heap L104 f102 H locs → tS E T (tFr κ L [1, 2, 3, 4, 11, 12, 13, 16, 21] []) κ L f κ103 L104 f102 → lv_has ls 5 [(0, .ref h), (1, .ref a1), (3, .ref a3), (4, .ref b108)] → W p l e (kRm 8 214 1 32) s m AV below meth c H locs 1 32 QQ (F0 m 40 ls [.int (iI z116), .ref h]) := by
      intro z116 H locs ls l116 u116 Y S hl
      refine t_put (ci := 2) X Y S k105 rfl i_Ag t_Ag t_Ag_ok n_Ag 20 (by decide) rfl lk_Ag_87 (fun _ h9 => h9) rfl (t_Ag_ok 20 (by decide)) (iI_bool (by omega) (by omega)).1 (iI_bool (by omega) (by omega)).2 ⟨_, rfl, (show (0 : Int) ≤ z116 by omega), (show z116 ≤ (1 : Int) by omega)⟩ (nF_of S k105 (by decide)) d_Ag_goWith_40 (fun f121 H locs Y S w121 => ?_)
      refine lv_aload_n X.1 X.2.1 d_Ag_goWith_43 rfl (lv_at hl 0 rfl) ?_
      refine lv_aload_n X.1 X.2.1 d_Ag_goWith_44 rfl (lv_at hl 0 rfl) ?_
      refine t_ui (t_runV (As := []) (rest := [.ref h]) (n := 0) X Y S k105 hml hl.1 (c_Ag_time l D E T κ103 L104 f121 H.size h k105 S.1) (ok_k X Y hA KS KR) rfl kl_Ag_Ag_time ks_Ag_time kx_Ag_time ki_Ag_time ini_Ag ⟨rfl, rfl⟩ hd_Ag_time ⟨Nat.le_of_ble_eq_true rfl, Nat.le_of_ble_eq_true rfl⟩ rfl (Nat.le_of_ble_eq_true rfl) d_Ag_goWith_45 ⟨Nat.le_of_ble_eq_true rfl, Nat.le_of_ble_eq_true rfl⟩) X Y hA (fun z122 H locs Y p122 => ?_)
      obtain ⟨l122, u122⟩ := p122
      refine t_put (ci := 2) X Y S k105 rfl i_Ag t_Ag t_Ag_ok n_Ag 15 (by decide) rfl lk_Ag_231 (fun _ h9 => h9) rfl (t_Ag_ok 15 (by decide)) rfl rfl ⟨_, rfl, (show ((-2147483648) : Int) ≤ z122 by omega), (show z122 ≤ (2147483647 : Int) by omega)⟩ (nF_of S k105 (by decide)) d_Ag_goWith_48 (fun f123 H locs Y S w123 => ?_)
      refine lv_aload_n X.1 X.2.1 d_Ag_goWith_51 rfl (lv_at hl 0 rfl) ?_
      refine lv_aload_n X.1 X.2.1 d_Ag_goWith_52 rfl (lv_at hl 0 rfl) ?_
      refine t_geti (ci := 2) X Y S k105 rfl i_Ag 7 (by decide) rfl lk_Ag_72 (fun _ h9 => h9) d_Ag_goWith_53 (fun z124 e124 l124 u124 => ?_)
      refine lv_ldc (v := (1000000)) X.1 X.2.1 X.2.2.2.1 (X.2.2.1 _ cn_Ag_199) d_Ag_goWith_56 ?_
      refine t_eq (y := iI 1000000) (by decide) ?_
      refine z_iremg X.1 X.2.1 ⟨by omega, by omega⟩ ⟨by decide, by decide⟩ d_Ag_goWith_58 (fun z125 l125 u125 x125 => ?_)
      refine t_put (ci := 2) X Y S k105 rfl i_Ag t_Ag t_Ag_ok n_Ag 16 (by decide) rfl lk_Ag_234 (fun _ h9 => h9) rfl (t_Ag_ok 16 (by decide)) rfl rfl ⟨_, rfl, (show ((-2147483648) : Int) ≤ z125 by omega), (show z125 ≤ (2147483647 : Int) by omega)⟩ (nF_of S k105 (by decide)) d_Ag_goWith_59 (fun f126 H locs Y S w126 => ?_)
      refine lv_aload_n X.1 X.2.1 d_Ag_goWith_62 rfl (lv_at hl 0 rfl) ?_
      refine lv_aload_n X.1 X.2.1 d_Ag_goWith_63 rfl (lv_at hl 0 rfl) ?_
      refine t_getr (ci := 2) X Y S k105 rfl i_Ag 0 (by decide) rfl (k1 := 21) (k2 := 0) rfl rfl lk_Ag_42 (fun _ h9 => h9) d_Ag_goWith_64 (fun b127 e127 k127 => ?_)
      refine t_ni (t_runV (As := []) (rest := [.ref h]) (n := 0) X Y S k127 hml hl.1 (c_Va_freshNumber l D E T κ103 L104 f126 H.size b127 k127 S.1) (ok_k X Y hA KS KR) rfl kl_Ag_Va_freshNumber ks_Va_freshNumber kx_Va_freshNumber ki_Va_freshNumber ini_Va ⟨rfl, rfl⟩ hd_Va_freshNumber ⟨Nat.le_of_ble_eq_true rfl, Nat.le_of_ble_eq_true rfl⟩ rfl (Nat.le_of_ble_eq_true rfl) d_Ag_goWith_67 ⟨Nat.le_of_ble_eq_true rfl, Nat.le_of_ble_eq_true rfl⟩) X Y hA S (by decide) (fun z128 f128 H locs Y S s128 p128 => ?_)
      obtain ⟨l128, u128⟩ := p128
      refine lv_ldc (v := (1073741823)) X.1 X.2.1 X.2.2.2.1 (X.2.2.1 _ cn_Ag_237) d_Ag_goWith_70 ?_
      refine t_eq (y := iI 1073741823) (by decide) ?_
      refine z_iand X.1 X.2.1 (by omega) (by omega) d_Ag_goWith_72 (fun z129 l129 u129 => ?_)
      refine lv_i2l X.1 X.2.1 d_Ag_goWith_73 rfl ?_
      refine t_anyl (fun v130 => ?_)
      refine t_put (ci := 2) X Y S k105 rfl i_Ag t_Ag t_Ag_ok n_Ag 17 (by decide) rfl lk_Ag_80 (fun _ h9 => h9) rfl (t_Ag_ok 17 (by decide)) rfl rfl ⟨_, rfl⟩ (nF_of S k105 (by decide)) d_Ag_goWith_74 (fun f131 H locs Y S w131 => ?_)
      refine lv_aload_n X.1 X.2.1 d_Ag_goWith_77 rfl (lv_at hl 0 rfl) ?_
      refine lv_aload_n X.1 X.2.1 d_Ag_goWith_78 rfl (lv_at hl 1 rfl) ?_
      refine t_getk (ci := 10) X Y S k106 rfl i_Ti 4 (by decide) rfl lk_Ag_126 (fun _ h9 => h9) d_Ag_goWith_79 (fun b132 n132 e132 k132 x132 => ?_)
      refine t_put (ci := 2) X Y S k105 rfl i_Ag t_Ag t_Ag_ok n_Ag 18 (by decide) rfl lk_Ag_39 (fun _ h9 => h9) rfl (t_Ag_ok 18 (by decide)) rfl rfl ⟨_, n132, rfl, k132⟩ (nF_of S k105 (by decide)) d_Ag_goWith_82 (fun f133 H locs Y S w133 => ?_)
      refine lv_aload_n X.1 X.2.1 d_Ag_goWith_85 rfl (lv_at hl 0 rfl) ?_
      refine lv_lconst (v := 0) X.1 X.2.1 d_Ag_goWith_86 rfl ?_
      refine t_put (ci := 2) X Y S k105 rfl i_Ag t_Ag t_Ag_ok n_Ag 19 (by decide) rfl lk_Ag_84 (fun _ h9 => h9) rfl (t_Ag_ok 19 (by decide)) rfl rfl ⟨_, rfl⟩ (nF_of S k105 (by decide)) d_Ag_goWith_87 (fun f134 H locs Y S w134 => ?_)
      refine lv_aload_n X.1 X.2.1 d_Ag_goWith_90 rfl (lv_at hl 0 rfl) ?_
      refine t_get0 (ci := 2) X Y S k105 rfl i_Ag 0 (by decide) rfl lk_Ag_42 (fun _ h9 => h9) d_Ag_goWith_91 ((gF_put w134 (Or.inr (by decide))).trans ((gF_put w133 (Or.inr (by decide))).trans ((gF_put w131 (Or.inr (by decide))).trans ((gF_same (s128.2.2.2 _ ⟨(t_obj S.1 k105).1, nM_of k105 (by decide), by simp⟩).1 0).trans e127)))) ?_
      refine t_getr (ci := 11) X Y S k127 rfl i_Va 2 (by decide) rfl (k1 := 13) (k2 := 512) rfl rfl lk_Ag_137 (fun _ h9 => h9) d_Ag_goWith_94 (fun b135 e135 k135 => ?_)
      refine t_nv (t_runV (As := []) (rest := []) (n := 0) X Y S k135 hml hl.1 (c_By_clear l D E T κ103 L104 f134 H.size b135 512 k135 (by omega) S.1) (ok_k X Y hA KS KR) rfl kl_Ag_By_clear ks_By_clear kx_By_clear ki_By_clear ini_By ⟨rfl, rfl⟩ hd_By_clear ⟨Nat.le_of_ble_eq_true rfl, Nat.le_of_ble_eq_true rfl⟩ rfl (Nat.le_of_ble_eq_true rfl) d_Ag_goWith_97 ⟨Nat.le_of_ble_eq_true rfl, Nat.le_of_ble_eq_true rfl⟩) X Y hA S (by decide) (fun f136 H locs Y S s136 p136 => ?_)
      refine lv_aload_n X.1 X.2.1 d_Ag_goWith_100 rfl (lv_at hl 0 rfl) ?_
      refine lv_aload_n X.1 X.2.1 d_Ag_goWith_101 rfl (lv_at hl 1 rfl) ?_
      refine lv_aload X.1 X.2.1 d_Ag_goWith_102 (lv_at hl 3 rfl) ?_
      refine lv_aload_n X.1 X.2.1 d_Ag_goWith_104 rfl (lv_at hl 0 rfl) ?_
      refine t_get0 (ci := 2) X Y S k105 rfl i_Ag 0 (by decide) rfl lk_Ag_42 (fun _ h9 => h9) d_Ag_goWith_105 ((gF_same (s136.2.2.2 _ ⟨(t_obj S.1 k105).1, nM_of k105 (by decide), by simp⟩).1 0).trans ((gF_put w134 (Or.inr (by decide))).trans ((gF_put w133 (Or.inr (by decide))).trans ((gF_put w131 (Or.inr (by decide))).trans ((gF_same (s128.2.2.2 _ ⟨(t_obj S.1 k105).1, nM_of k105 (by decide), by simp⟩).1 0).trans e127))))) ?_
      refine t_get0 (ci := 11) X Y S k127 rfl i_Va 2 (by decide) rfl lk_Ag_137 (fun _ h9 => h9) d_Ag_goWith_108 ((gF_same (s136.2.2.2 _ ⟨(t_obj S.1 k127).1, nM_of k127 (by decide), by simp⟩).1 2).trans e135) ?_
      refine lv_aload_n X.1 X.2.1 d_Ag_goWith_111 rfl (lv_at hl 0 rfl) ?_
      refine t_get0 (ci := 2) X Y S k105 rfl i_Ag 17 (by decide) rfl lk_Ag_80 (fun _ h9 => h9) d_Ag_goWith_112 ((gF_same (s136.2.2.2 _ ⟨(t_obj S.1 k105).1, nM_of k105 (by decide), by simp⟩).1 17).trans ((gF_put w134 (Or.inr (by decide))).trans ((gF_put w133 (Or.inr (by decide))).trans w131.2.1))) ?_
      refine t_nv (t_runV (As := [.ref a1, .ref b108, .ref b135, .long v130]) (rest := []) (n := 4) X Y S k105 hml hl.1 (c_Ag_putAuthenticator l D E T κ103 L104 f136 H.size h k105 a1 k106 b108 n110 k109 (by omega) b135 512 k135 (by omega) v130 S.1) (ok_k X Y hA KS KR) rfl kl_Ag_Ag_putAuthenticator ks_Ag_putAuthenticator kx_Ag_putAuthenticator ki_Ag_putAuthenticator ini_Ag ⟨rfl, rfl⟩ hd_Ag_putAuthenticator ⟨Nat.le_of_ble_eq_true rfl, Nat.le_of_ble_eq_true rfl⟩ rfl (Nat.le_of_ble_eq_true rfl) d_Ag_goWith_115 ⟨Nat.le_of_ble_eq_true rfl, Nat.le_of_ble_eq_true rfl⟩) X Y hA S (by decide) (fun f137 H locs Y S s137 p137 => ?_)
      refine lv_aload_n X.1 X.2.1 d_Ag_goWith_118 rfl (lv_at hl 2 rfl) ?_
      refine t_nv (t_runV (As := []) (rest := []) (n := 0) X Y S k107 hml hl.1 (c_By_clear l D E T κ103 L104 f137 H.size a3 n3 k107 (by omega) S.1) (ok_k X Y hA KS KR) rfl kl_Ag_By_clear ks_By_clear kx_By_clear ki_By_clear ini_By ⟨rfl, rfl⟩ hd_By_clear ⟨Nat.le_of_ble_eq_true rfl, Nat.le_of_ble_eq_true rfl⟩ rfl (Nat.le_of_ble_eq_true rfl) d_Ag_goWith_119 ⟨Nat.le_of_ble_eq_true rfl, Nat.le_of_ble_eq_true rfl⟩) X Y hA S (by decide) (fun f138 H locs Y S s138 p138 => ?_)
      refine lv_aload_n X.1 X.2.1 d_Ag_goWith_122 rfl (lv_at hl 0 rfl) ?_
      refine lv_aload_n X.1 X.2.1 d_Ag_goWith_123 rfl (lv_at hl 1 rfl) ?_
      refine lv_aload_n X.1 X.2.1 d_Ag_goWith_124 rfl (lv_at hl 0 rfl) ?_
      refine t_geti (ci := 2) X Y S k105 rfl i_Ag 20 (by decide) rfl lk_Ag_87 (fun _ h9 => h9) d_Ag_goWith_125 (fun z139 e139 l139 u139 => ?_)
      have J141 : ∀ (z140 : Int) (H : Heap) (locs : List Loc) (ls : Array Slot), (0 ≤ z140) → (z140 ≤ 536870912) → pH D cCl (pA L sz) s.heap L104 f138 H locs → tS E T (tFr κ L [1, 2, 3, 4, 11, 12, 13, 16, 21] []) κ L f κ103 L104 f138 → lv_has ls 5 [(3, .ref a3)] → W p l e (kRm 8 214 1 32) s m AV below meth c H locs 1 32 QQ (F0 m 137 ls [.int (iI z140), .ref a1, .ref h]) := by
        intro z140 H locs ls l140 u140 Y S hl
        refine lv_bipush (v := iI 11) X.1 X.2.1 d_Ag_goWith_137 (by decide) ?_
        refine lv_aload_n X.1 X.2.1 d_Ag_goWith_139 rfl (lv_at hl 0 rfl) ?_
        refine t_nv (t_runV (As := [.ref a1, .int (iI z140), .int (iI 11), .ref a3]) (rest := []) (n := 4) X Y S k105 hml hl.1 (c_Ag_putApReq l D E T κ103 L104 f138 H.size h k105 a1 k106 z140 (by omega) (by omega) 11 (by omega) (by omega) a3 n3 k107 (by omega) S.1) (ok_k X Y hA KS KR) rfl kl_Ag_Ag_putApReq ks_Ag_putApReq kx_Ag_putApReq ki_Ag_putApReq ini_Ag ⟨rfl, rfl⟩ hd_Ag_putApReq ⟨Nat.le_of_ble_eq_true rfl, Nat.le_of_ble_eq_true rfl⟩ rfl (Nat.le_of_ble_eq_true rfl) d_Ag_goWith_140 ⟨Nat.le_of_ble_eq_true rfl, Nat.le_of_ble_eq_true rfl⟩) X Y hA S (by decide) (fun f145 H locs Y S s145 p145 => ?_)
        exact c_retv hQQ X Y hr hlk ⟨κ103, S, trivial⟩ d_Ag_goWith_143
      refine z_if_eq (tgt := 136) X.1 X.2.1 d_Ag_goWith_128 (by decide) ⟨by omega, by omega⟩ (fun h146 => ?_) (fun h146 => ?_)
      · refine lv_iconst (v := iI 0) X.1 X.2.1 d_Ag_goWith_136 (by decide) ?_
        exact J141 0 _ _ _ (by omega) (by omega) Y S (lv_sub hl [2] rfl)
      · refine lv_ldc (v := (536870912)) X.1 X.2.1 X.2.2.2.1 (X.2.2.1 _ cn_Ag_238) d_Ag_goWith_131 ?_
        refine t_eq (y := iI 536870912) (by decide) ?_
        refine lv_goto (tgt := 137) X.1 X.2.1 d_Ag_goWith_133 (by decide) ?_
        exact J141 536870912 _ _ _ (by omega) (by omega) Y S (lv_sub hl [2] rfl)
    refine z_if_eq (tgt := 39) X.1 X.2.1 d_Ag_goWith_32 (by decide) ⟨by omega, by omega⟩ (fun h147 => ?_) (fun h147 => ?_)
    · refine lv_iconst (v := iI 0) X.1 X.2.1 d_Ag_goWith_39 (by decide) ?_
      exact J117 0 _ _ _ (by omega) (by omega) Y S (lv_sub hl [1, 2, 4, 0] rfl)
    · refine lv_iconst (v := iI 1) X.1 X.2.1 d_Ag_goWith_35 (by decide) ?_
      refine lv_goto (tgt := 40) X.1 X.2.1 d_Ag_goWith_36 (by decide) ?_
      exact J117 1 _ _ _ (by omega) (by omega) Y S (lv_sub hl [1, 2, 4, 0] rfl)
  refine z_if_eq (tgt := 23) X.1 X.2.1 d_Ag_goWith_3 (by decide) ⟨by omega, by omega⟩ (fun h148 => ?_) (fun h148 => ?_)
  · refine k_getsN X Y KS KR (by decide) d_Ag_goWith_23 ?_
    refine W.widen (k := 1) (n := 32) (Nat.le_of_ble_eq_true rfl) (Nat.le_of_ble_eq_true rfl) ?_
    exact J111 κ L ((T.1 0)) 0 f _ _ _ k0 k1 k3 (by omega) tKey_no Y S (lv_sub hl [0, 1, 2, 3] rfl)
  · refine lv_aload_n X.1 X.2.1 d_Ag_goWith_6 rfl (lv_at hl 0 rfl) ?_
    refine t_getr (ci := 2) X Y S k0 rfl i_Ag 0 (by decide) rfl (k1 := 21) (k2 := 0) rfl rfl lk_Ag_42 (fun _ h9 => h9) d_Ag_goWith_7 (fun b149 e149 k149 => ?_)
    refine lv_aload_n X.1 X.2.1 d_Ag_goWith_10 rfl (lv_at hl 1 rfl) ?_
    refine t_getk (ci := 10) X Y S k1 rfl i_Ti 4 (by decide) rfl lk_Ag_126 (fun _ h9 => h9) d_Ag_goWith_11 (fun b150 n150 e150 k150 x150 => ?_)
    refine t_ui (x_runS (As := [.ref b150]) (rest := [.ref b149]) (n := 1) X hml hl.1 (c_Va_typeOf l D E T κ L f H.size b150 n150 k150 (by omega) S.1) (ok_k X Y hA KS KR) kl_Ag_Va_typeOf ks_Va_typeOf ki_Va_typeOf ini_Va ⟨rfl, rfl⟩ hd_Va_typeOf.2 ⟨Nat.le_of_ble_eq_true rfl, Nat.le_of_ble_eq_true rfl⟩ rfl (Nat.le_of_ble_eq_true rfl) d_Ag_goWith_14 ⟨Nat.le_of_ble_eq_true rfl, Nat.le_of_ble_eq_true rfl⟩) X Y hA (fun z151 H locs Y p151 => ?_)
    obtain ⟨l151, u151⟩ := p151
    refine t_ar (t_runV (As := [.int (iI z151)]) (rest := []) (n := 1) X Y S k149 hml hl.1 (c_Va_freshKey l D E T κ L f H.size b149 k149 z151 (by omega) (by omega) S.1) (ok_k X Y hA KS KR) rfl kl_Ag_Va_freshKey ks_Va_freshKey kx_Va_freshKey ki_Va_freshKey ini_Va ⟨rfl, rfl⟩ hd_Va_freshKey ⟨Nat.le_of_ble_eq_true rfl, Nat.le_of_ble_eq_true rfl⟩ rfl (Nat.le_of_ble_eq_true rfl) d_Ag_goWith_17 ⟨Nat.le_of_ble_eq_true rfl, Nat.le_of_ble_eq_true rfl⟩) X Y hA S (by decide) (fun b152 κ152 L152 f152 H locs Y S s152 p152 => ?_)
    obtain ⟨n152, k152⟩ := p152
    have x152 := tKey_n k152
    have k153 : κ152 h = (12, 0) := tLe_k s152.2.2.1 k0
    have k154 : κ152 a1 = (20, 0) := tLe_k s152.2.2.1 k1
    have k155 : κ152 a3 = (13, n3) := tLe_k s152.2.2.1 k3
    refine lv_goto (tgt := 26) X.1 X.2.1 d_Ag_goWith_20 (by decide) ?_
    exact J111 κ152 L152 b152 n152 f152 _ _ _ k153 k154 k155 (by omega) k152 Y S (lv_sub hl [0, 1, 2, 3] rfl)
set_option maxHeartbeats 4000000 in
set_option maxRecDepth 100000 in
theorem c_Ag_openReply (l : Launch) (D : va_G) (E : cE) (T : cT) (κ : tK) (L : List Nat) (f : pF) (sz : Nat) (h : Nat) (k0 : κ h = (12, 0)) (a1 : Int) (l_a1 : (-2147483648) ≤ a1) (u_a1 : a1 ≤ 2147483647) (a2 n2 : Nat) (k2 : κ a2 = (13, n2)) (x2 : n2 ≤ 12288) (hw : tW E T κ L f) : Met l y_Ag_openReply (k_Ag_openReply :: lw_tg) (kRm 71 2363 0 0) (va_Pc [.ref h, .int (iI a1), .ref a2] (kPre D E T L f sz)) (va_Qi (nPi E T [1, 2, 3, 4, 11, 13, 16] κ L f (fun (z : Int) (g : pF) => (-2147483648) ≤ z ∧ z ≤ 2147483647)) (cPost D E (pA L sz)) (pA L sz)) 0 0 (pA L sz) := by
  refine k_enter (own := R_Ag) (by decide) rfl (Nat.le_of_ble_eq_true rfl) (fun p e s m below meth c ls AV QQ H locs hQQ X Y hA hin hr hlk hml hl KS KR => ?_)
  have hl : lv_has ls 10 [(0, .ref h), (1, .int (iI a1)), (2, .ref a2)] := hl
  have S : tS E T (tFr κ L [1, 2, 3, 4, 11, 13, 16] []) κ L f κ L f := tS_rf hw
  refine lv_aload_n X.1 X.2.1 d_Ag_openReply_0 rfl (lv_at hl 2 rfl) ?_
  refine lv_iconst (v := iI 0) X.1 X.2.1 d_Ag_openReply_1 (by decide) ?_
  refine lv_bipush (v := iI 6) X.1 X.2.1 d_Ag_openReply_2 (by decide) ?_
  refine t_ui (t_runV (As := [.int (iI 0), .int (iI 6)]) (rest := []) (n := 2) X Y S k2 hml hl.1 (c_By_field l D E T κ L f H.size a2 n2 k2 (by omega) 0 (by omega) (by omega) 6 (by omega) (by omega) S.1) (ok_k X Y hA KS KR) rfl kl_Ag_By_field ks_By_field kx_By_field ki_By_field ini_By ⟨rfl, rfl⟩ hd_By_field ⟨Nat.le_of_ble_eq_true rfl, Nat.le_of_ble_eq_true rfl⟩ rfl (Nat.le_of_ble_eq_true rfl) d_Ag_openReply_4 ⟨Nat.le_of_ble_eq_true rfl, Nat.le_of_ble_eq_true rfl⟩) X Y hA (fun z101 H locs Y p101 => ?_)
  obtain ⟨l101, u101⟩ := p101
  refine lv_istore_n (lv' := [(3, .int (iI z101)), (0, .ref h), (1, .int (iI a1)), (2, .ref a2)]) X.1 X.2.1 d_Ag_openReply_7 rfl hl (by decide) rfl (fun ls hl => ?_)
  refine lv_aload_n X.1 X.2.1 d_Ag_openReply_8 rfl (lv_at hl 3 rfl) ?_
  refine lv_aload_n X.1 X.2.1 d_Ag_openReply_9 rfl (lv_at hl 3 rfl) ?_
  refine lv_iload_n X.1 X.2.1 d_Ag_openReply_10 rfl (lv_at hl 0 rfl) ?_
  refine lv_iconst (v := iI 0) X.1 X.2.1 d_Ag_openReply_11 (by decide) ?_
  refine t_ui (t_runV (As := [.int (iI z101), .int (iI 0)]) (rest := [.ref a2]) (n := 2) X Y S k2 hml hl.1 (c_By_field l D E T κ L f H.size a2 n2 k2 (by omega) z101 (by omega) (by omega) 0 (by omega) (by omega) S.1) (ok_k X Y hA KS KR) rfl kl_Ag_By_field ks_By_field kx_By_field ki_By_field ini_By ⟨rfl, rfl⟩ hd_By_field ⟨Nat.le_of_ble_eq_true rfl, Nat.le_of_ble_eq_true rfl⟩ rfl (Nat.le_of_ble_eq_true rfl) d_Ag_openReply_12 ⟨Nat.le_of_ble_eq_true rfl, Nat.le_of_ble_eq_true rfl⟩) X Y hA (fun z102 H locs Y p102 => ?_)
  obtain ⟨l102, u102⟩ := p102
  refine t_ul (t_runV (As := [.int (iI z102)]) (rest := []) (n := 1) X Y S k2 hml hl.1 (c_By_numberAt l D E T κ L f H.size a2 n2 k2 (by omega) z102 (by omega) (by omega) S.1) (ok_k X Y hA KS KR) rfl kl_Ag_By_numberAt ks_By_numberAt kx_By_numberAt ki_By_numberAt ini_By ⟨rfl, rfl⟩ hd_By_numberAt ⟨Nat.le_of_ble_eq_true rfl, Nat.le_of_ble_eq_true rfl⟩ rfl (Nat.le_of_ble_eq_true rfl) d_Ag_openReply_15 ⟨Nat.le_of_ble_eq_true rfl, Nat.le_of_ble_eq_true rfl⟩) X Y hA (fun v103 H locs Y p103 => ?_)
  refine lv_lstore (lv' := [(4, .long v103), (3, .int (iI z101)), (0, .ref h), (1, .int (iI a1)), (2, .ref a2)]) X.1 X.2.1 d_Ag_openReply_18 hl (by decide) rfl (fun ls hl => ?_)
  refine lv_iload_n X.1 X.2.1 d_Ag_openReply_20 rfl (lv_at hl 3 rfl) ?_
  refine lv_iconst (v := iI 2) X.1 X.2.1 d_Ag_openReply_21 (by decide) ?_
  have J104 : ∀  (H : Heap) (locs : List Loc) (ls : Array Slot), pH D cCl (pA L sz) s.heap L f H locs → tS E T (tFr κ L [1, 2, 3, 4, 11, 13, 16] []) κ L f κ L f → lv_has ls 10 [(0, .ref h), (1, .int (iI a1)), (2, .ref a2), (3, .int (iI z101)), (4, .long v103)] → W p l e (kRm 71 2363 0 0) s m AV below meth c H locs 0 0 QQ (F0 m 54 ls []) := by
    intro  H locs ls  Y S hl
    refine lv_iload_n X.1 X.2.1 d_Ag_openReply_54 rfl (lv_at hl 1 rfl) ?_
    refine lv_iconst (v := iI 2) X.1 X.2.1 d_Ag_openReply_55 (by decide) ?_
    have J111 : ∀ (b108 n110 : Nat) (H : Heap) (locs : List Loc) (ls : Array Slot), (n110 = 0 ∨ n110 = 16 ∨ n110 = 32) → (tKey T κ b108 n110) → pH D cCl (pA L sz) s.heap L f H locs → tS E T (tFr κ L [1, 2, 3, 4, 11, 13, 16] []) κ L f κ L f → lv_has ls 10 [(0, .ref h), (1, .int (iI a1)), (2, .ref a2), (3, .int (iI z101))] → W p l e (kRm 71 2363 0 0) s m AV below meth c H locs 0 0 QQ (F0 m 72 ls [.ref b108]) := by
      intro b108 n110 H locs ls xn110 k109 Y S hl
      refine lv_astore (lv' := [(6, .ref b108), (0, .ref h), (1, .int (iI a1)), (2, .ref a2), (3, .int (iI z101))]) X.1 X.2.1 d_Ag_openReply_72 hl (by decide) rfl (fun ls hl => ?_)
      refine lv_iload_n X.1 X.2.1 d_Ag_openReply_74 rfl (lv_at hl 2 rfl) ?_
      refine lv_iconst (v := iI 2) X.1 X.2.1 d_Ag_openReply_75 (by decide) ?_
      have J116 : ∀ (z115 : Int) (H : Heap) (locs : List Loc) (ls : Array Slot), (3 ≤ z115) → (z115 ≤ 9) → pH D cCl (pA L sz) s.heap L f H locs → tS E T (tFr κ L [1, 2, 3, 4, 11, 13, 16] []) κ L f κ L f → lv_has ls 10 [(0, .ref h), (1, .int (iI a1)), (2, .ref a2), (3, .int (iI z101)), (6, .ref b108)] → W p l e (kRm 71 2363 0 0) s m AV below meth c H locs 0 0 QQ (F0 m 85 ls [.int (iI z115)]) := by
        intro z115 H locs ls l115 u115 Y S hl
        refine lv_istore (lv' := [(7, .int (iI z115)), (0, .ref h), (1, .int (iI a1)), (2, .ref a2), (3, .int (iI z101)), (6, .ref b108)]) X.1 X.2.1 d_Ag_openReply_85 hl (by decide) rfl (fun ls hl => ?_)
        refine lv_aload_n X.1 X.2.1 d_Ag_openReply_87 rfl (lv_at hl 1 rfl) ?_
        refine t_getr (ci := 2) X Y S k0 rfl i_Ag 0 (by decide) rfl (k1 := 21) (k2 := 0) rfl rfl lk_Ag_42 (fun _ h9 => h9) d_Ag_openReply_88 (fun b120 e120 k120 => ?_)
        refine t_getr (ci := 11) X Y S k120 rfl i_Va 1 (by decide) rfl (k1 := 13) (k2 := 6144) rfl rfl lk_Ag_196 (fun _ h9 => h9) d_Ag_openReply_91 (fun b121 e121 k121 => ?_)
        refine lv_astore (lv' := [(8, .ref b121), (7, .int (iI z115)), (0, .ref h), (1, .int (iI a1)), (2, .ref a2), (3, .int (iI z101)), (6, .ref b108)]) X.1 X.2.1 d_Ag_openReply_94 hl (by decide) rfl (fun ls hl => ?_)
        refine lv_aload_n X.1 X.2.1 d_Ag_openReply_96 rfl (lv_at hl 2 rfl) ?_
        refine t_get0 (ci := 2) X Y S k0 rfl i_Ag 0 (by decide) rfl lk_Ag_42 (fun _ h9 => h9) d_Ag_openReply_97 e120 ?_
        refine lv_aload_n X.1 X.2.1 d_Ag_openReply_100 rfl (lv_at hl 4 rfl) ?_
        refine lv_iload_n X.1 X.2.1 d_Ag_openReply_101 rfl (lv_at hl 5 rfl) ?_
        refine lv_aload X.1 X.2.1 d_Ag_openReply_102 (lv_at hl 6 rfl) ?_
        refine lv_iload X.1 X.2.1 d_Ag_openReply_104 (lv_at hl 1 rfl) ?_
        refine lv_aload X.1 X.2.1 d_Ag_openReply_106 (lv_at hl 0 rfl) ?_
        refine t_ni (t_runV (As := [.ref a2, .int (iI z101), .ref b108, .int (iI z115), .ref b121]) (rest := []) (n := 5) X Y S k120 hml hl.1 (c_Va_opens l D E T κ L f H.size b120 k120 a2 n2 k2 (by omega) z101 (by omega) (by omega) b108 n110 k109 (by omega) z115 (by omega) (by omega) b121 6144 k121 (by omega) S.1) (ok_k X Y hA KS KR) rfl kl_Ag_Va_opens ks_Va_opens kx_Va_opens ki_Va_opens ini_Va ⟨rfl, rfl⟩ hd_Va_opens ⟨Nat.le_of_ble_eq_true rfl, Nat.le_of_ble_eq_true rfl⟩ rfl (Nat.le_of_ble_eq_true rfl) d_Ag_openReply_108 ⟨Nat.le_of_ble_eq_true rfl, Nat.le_of_ble_eq_true rfl⟩) X Y hA S (by decide) (fun z122 f122 H locs Y S s122 p122 => ?_)
        obtain ⟨l122, u122⟩ := p122
        refine z_if_ne (tgt := 117) X.1 X.2.1 d_Ag_openReply_111 (by decide) ⟨by omega, by omega⟩ (fun h123 => ?_) (fun h123 => ?_)
        · refine lv_aload X.1 X.2.1 d_Ag_openReply_117 (lv_at hl 0 rfl) ?_
          refine lv_sipush (v := iI 378) X.1 X.2.1 d_Ag_openReply_119 (by decide) ?_
          refine lv_iconst (v := iI 0) X.1 X.2.1 d_Ag_openReply_122 (by decide) ?_
          refine lv_aload X.1 X.2.1 d_Ag_openReply_123 (lv_at hl 0 rfl) ?_
          refine t_gets (ci := 3) X Y S k121 rfl i_By 1 (by decide) rfl lk_Ag_211 (fun _ h9 => h9) d_Ag_openReply_125 (fun z124 e124 l124 u124 => ?_)
          refine t_ui (t_runV (As := [.int (iI 378), .int (iI 0), .int (iI z124)]) (rest := []) (n := 3) X Y S k121 hml hl.1 (c_By_isA l D E T κ L f122 H.size b121 6144 k121 (by omega) 378 (by omega) (by omega) 0 (by omega) (by omega) z124 (by omega) (by omega) S.1) (ok_k X Y hA KS KR) rfl kl_Ag_By_isA ks_By_isA kx_By_isA ki_By_isA ini_By ⟨rfl, rfl⟩ hd_By_isA ⟨Nat.le_of_ble_eq_true rfl, Nat.le_of_ble_eq_true rfl⟩ rfl (Nat.le_of_ble_eq_true rfl) d_Ag_openReply_128 ⟨Nat.le_of_ble_eq_true rfl, Nat.le_of_ble_eq_true rfl⟩) X Y hA (fun z125 H locs Y p125 => ?_)
          obtain ⟨l125, u125⟩ := p125
          have J126 : ∀  (H : Heap) (locs : List Loc) (ls : Array Slot), pH D cCl (pA L sz) s.heap L f122 H locs → tS E T (tFr κ L [1, 2, 3, 4, 11, 13, 16] []) κ L f κ L f122 → lv_has ls 10 [] → W p l e (kRm 71 2363 0 0) s m AV below meth c H locs 0 0 QQ (F0 m 156 ls []) := by
            intro  H locs ls  Y S hl
            refine lv_iconst (v := iI 1) X.1 X.2.1 d_Ag_openReply_156 (by decide) ?_
            refine lv_goto (tgt := 161) X.1 X.2.1 d_Ag_openReply_157 (by decide) ?_
            refine lv_istore (lv' := [(9, .int (iI 1))]) X.1 X.2.1 d_Ag_openReply_161 hl (by decide) rfl (fun ls hl => ?_)
            refine lv_iload X.1 X.2.1 d_Ag_openReply_163 (lv_at hl 0 rfl) ?_
            refine z_if_eq (tgt := 172) X.1 X.2.1 d_Ag_openReply_165 (by decide) ⟨by omega, by omega⟩ (fun h130 => False.elim (by omega)) (fun h130 => ?_)
            · refine lv_iconst (v := iI 0) X.1 X.2.1 d_Ag_openReply_168 (by decide) ?_
              refine lv_goto (tgt := 174) X.1 X.2.1 d_Ag_openReply_169 (by decide) ?_
              exact c_reti hQQ X Y hr hlk ⟨rfl, S, 0, rfl, ⟨by omega, by omega⟩⟩ d_Ag_openReply_174
          refine z_if_ne (tgt := 156) X.1 X.2.1 d_Ag_openReply_131 (by decide) ⟨by omega, by omega⟩ (fun h131 => ?_) (fun h131 => ?_)
          · exact J126  _ _ _  Y S (lv_sub hl [] rfl)
          · refine lv_iload_n X.1 X.2.1 d_Ag_openReply_134 rfl (lv_at hl 3 rfl) ?_
            refine lv_iconst (v := iI 2) X.1 X.2.1 d_Ag_openReply_135 (by decide) ?_
            have J132 : ∀  (H : Heap) (locs : List Loc) (ls : Array Slot), pH D cCl (pA L sz) s.heap L f122 H locs → tS E T (tFr κ L [1, 2, 3, 4, 11, 13, 16] []) κ L f κ L f122 → lv_has ls 10 [] → W p l e (kRm 71 2363 0 0) s m AV below meth c H locs 0 0 QQ (F0 m 160 ls []) := by
              intro  H locs ls  Y S hl
              refine lv_iconst (v := iI 0) X.1 X.2.1 d_Ag_openReply_160 (by decide) ?_
              refine lv_istore (lv' := [(9, .int (iI 0))]) X.1 X.2.1 d_Ag_openReply_161 hl (by decide) rfl (fun ls hl => ?_)
              refine lv_iload X.1 X.2.1 d_Ag_openReply_163 (lv_at hl 0 rfl) ?_
              refine z_if_eq (tgt := 172) X.1 X.2.1 d_Ag_openReply_165 (by decide) ⟨by omega, by omega⟩ (fun h136 => ?_) (fun h136 => False.elim (by omega))
              · refine lv_bipush (v := iI (-60)) X.1 X.2.1 d_Ag_openReply_172 (by decide) ?_
                exact c_reti hQQ X Y hr hlk ⟨rfl, S, (-60), rfl, ⟨by omega, by omega⟩⟩ d_Ag_openReply_174
            refine z_icmp_eq (tgt := 160) X.1 X.2.1 d_Ag_openReply_136 (by decide) ⟨by omega, by omega⟩ ⟨by omega, by omega⟩ (fun h137 => ?_) (fun h137 => ?_)
            · exact J132  _ _ _  Y S (lv_sub hl [] rfl)
            · refine lv_aload X.1 X.2.1 d_Ag_openReply_139 (lv_at hl 0 rfl) ?_
              refine lv_sipush (v := iI 377) X.1 X.2.1 d_Ag_openReply_141 (by decide) ?_
              refine lv_iconst (v := iI 0) X.1 X.2.1 d_Ag_openReply_144 (by decide) ?_
              refine lv_aload X.1 X.2.1 d_Ag_openReply_145 (lv_at hl 0 rfl) ?_
              refine t_get0 (ci := 3) X Y S k121 rfl i_By 1 (by decide) rfl lk_Ag_211 (fun _ h9 => h9) d_Ag_openReply_147 e124 ?_
              refine t_ui (t_runV (As := [.int (iI 377), .int (iI 0), .int (iI z124)]) (rest := []) (n := 3) X Y S k121 hml hl.1 (c_By_isA l D E T κ L f122 H.size b121 6144 k121 (by omega) 377 (by omega) (by omega) 0 (by omega) (by omega) z124 (by omega) (by omega) S.1) (ok_k X Y hA KS KR) rfl kl_Ag_By_isA ks_By_isA kx_By_isA ki_By_isA ini_By ⟨rfl, rfl⟩ hd_By_isA ⟨Nat.le_of_ble_eq_true rfl, Nat.le_of_ble_eq_true rfl⟩ rfl (Nat.le_of_ble_eq_true rfl) d_Ag_openReply_150 ⟨Nat.le_of_ble_eq_true rfl, Nat.le_of_ble_eq_true rfl⟩) X Y hA (fun z138 H locs Y p138 => ?_)
              obtain ⟨l138, u138⟩ := p138
              refine z_if_eq (tgt := 160) X.1 X.2.1 d_Ag_openReply_153 (by decide) ⟨by omega, by omega⟩ (fun h139 => ?_) (fun h139 => ?_)
              · exact J132  _ _ _  Y S (lv_sub hl [] rfl)
              · exact J126  _ _ _  Y S (lv_sub hl [] rfl)
        · refine lv_bipush (v := iI (-31)) X.1 X.2.1 d_Ag_openReply_114 (by decide) ?_
          exact c_reti hQQ X Y hr hlk ⟨rfl, S, (-31), rfl, ⟨by omega, by omega⟩⟩ d_Ag_openReply_116
      refine z_icmp_ne (tgt := 84) X.1 X.2.1 d_Ag_openReply_76 (by decide) ⟨by omega, by omega⟩ ⟨by omega, by omega⟩ (fun h140 => ?_) (fun h140 => ?_)
      · refine lv_iconst (v := iI 3) X.1 X.2.1 d_Ag_openReply_84 (by decide) ?_
        exact J116 3 _ _ _ (by omega) (by omega) Y S (lv_sub hl [1, 2, 3, 4, 0] rfl)
      · refine lv_bipush (v := iI 9) X.1 X.2.1 d_Ag_openReply_79 (by decide) ?_
        refine lv_goto (tgt := 85) X.1 X.2.1 d_Ag_openReply_81 (by decide) ?_
        exact J116 9 _ _ _ (by omega) (by omega) Y S (lv_sub hl [1, 2, 3, 4, 0] rfl)
    refine z_icmp_ne (tgt := 66) X.1 X.2.1 d_Ag_openReply_56 (by decide) ⟨by omega, by omega⟩ ⟨by omega, by omega⟩ (fun h141 => ?_) (fun h141 => ?_)
    · refine lv_aload_n X.1 X.2.1 d_Ag_openReply_66 rfl (lv_at hl 0 rfl) ?_
      refine lv_lload X.1 X.2.1 d_Ag_openReply_67 (lv_at hl 4 rfl) ?_
      refine t_ur (t_runV (As := [.long v103]) (rest := []) (n := 1) X Y S k0 hml hl.1 (c_Ag_keyOf l D E T κ L f H.size h k0 v103 S.1) (ok_k X Y hA KS KR) rfl kl_Ag_Ag_keyOf ks_Ag_keyOf kx_Ag_keyOf ki_Ag_keyOf ini_Ag ⟨rfl, rfl⟩ hd_Ag_keyOf ⟨Nat.le_of_ble_eq_true rfl, Nat.le_of_ble_eq_true rfl⟩ rfl (Nat.le_of_ble_eq_true rfl) d_Ag_openReply_69 ⟨Nat.le_of_ble_eq_true rfl, Nat.le_of_ble_eq_true rfl⟩) X Y hA (fun b142 H locs Y p142 => ?_)
      obtain ⟨n142, k142⟩ := p142
      have x142 := tKey_n k142
      exact J111 b142 n142 _ _ _ (by omega) k142 Y S (lv_sub hl [0, 1, 2, 3] rfl)
    · refine lv_aload_n X.1 X.2.1 d_Ag_openReply_59 rfl (lv_at hl 0 rfl) ?_
      refine t_getk (ci := 2) X Y S k0 rfl i_Ag 14 (by decide) rfl lk_Ag_36 (fun _ h9 => h9) d_Ag_openReply_60 (fun b143 n143 e143 k143 x143 => ?_)
      refine lv_goto (tgt := 72) X.1 X.2.1 d_Ag_openReply_63 (by decide) ?_
      exact J111 b143 n143 _ _ _ (by omega) k143 Y S (lv_sub hl [0, 1, 2, 3] rfl)
  refine z_icmp_ne (tgt := 42) X.1 X.2.1 d_Ag_openReply_22 (by decide) ⟨by omega, by omega⟩ ⟨by omega, by omega⟩ (fun h144 => ?_) (fun h144 => ?_)
  · refine lv_aload_n X.1 X.2.1 d_Ag_openReply_42 rfl (lv_at hl 2 rfl) ?_
    refine lv_lload X.1 X.2.1 d_Ag_openReply_43 (lv_at hl 0 rfl) ?_
    refine t_ui (t_runV (As := [.long v103]) (rest := []) (n := 1) X Y S k0 hml hl.1 (c_Ag_isAsked l D E T κ L f H.size h k0 v103 S.1) (ok_k X Y hA KS KR) rfl kl_Ag_Ag_isAsked ks_Ag_isAsked kx_Ag_isAsked ki_Ag_isAsked ini_Ag ⟨rfl, rfl⟩ hd_Ag_isAsked ⟨Nat.le_of_ble_eq_true rfl, Nat.le_of_ble_eq_true rfl⟩ rfl (Nat.le_of_ble_eq_true rfl) d_Ag_openReply_45 ⟨Nat.le_of_ble_eq_true rfl, Nat.le_of_ble_eq_true rfl⟩) X Y hA (fun z145 H locs Y p145 => ?_)
    obtain ⟨l145, u145⟩ := p145
    refine z_if_ne (tgt := 54) X.1 X.2.1 d_Ag_openReply_48 (by decide) ⟨by omega, by omega⟩ (fun h146 => ?_) (fun h146 => ?_)
    · exact J104  _ _ _  Y S (lv_sub hl [2, 3, 4, 1, 0] rfl)
    · refine lv_bipush (v := iI (-14)) X.1 X.2.1 d_Ag_openReply_51 (by decide) ?_
      exact c_reti hQQ X Y hr hlk ⟨rfl, S, (-14), rfl, ⟨by omega, by omega⟩⟩ d_Ag_openReply_53
  · refine lv_lload X.1 X.2.1 d_Ag_openReply_25 (lv_at hl 0 rfl) ?_
    refine lv_aload_n X.1 X.2.1 d_Ag_openReply_27 rfl (lv_at hl 2 rfl) ?_
    refine t_getk (ci := 2) X Y S k0 rfl i_Ag 14 (by decide) rfl lk_Ag_36 (fun _ h9 => h9) d_Ag_openReply_28 (fun b147 n147 e147 k147 x147 => ?_)
    refine t_ui (x_runS (As := [.ref b147]) (rest := [.long v103]) (n := 1) X hml hl.1 (c_Va_typeOf l D E T κ L f H.size b147 n147 k147 (by omega) S.1) (ok_k X Y hA KS KR) kl_Ag_Va_typeOf ks_Va_typeOf ki_Va_typeOf ini_Va ⟨rfl, rfl⟩ hd_Va_typeOf.2 ⟨Nat.le_of_ble_eq_true rfl, Nat.le_of_ble_eq_true rfl⟩ rfl (Nat.le_of_ble_eq_true rfl) d_Ag_openReply_31 ⟨Nat.le_of_ble_eq_true rfl, Nat.le_of_ble_eq_true rfl⟩) X Y hA (fun z148 H locs Y p148 => ?_)
    obtain ⟨l148, u148⟩ := p148
    refine lv_i2l X.1 X.2.1 d_Ag_openReply_34 rfl ?_
    refine t_anyl (fun v149 => ?_)
    refine W.lcmp X.1 X.2.1 d_Ag_openReply_35 ?_
    refine t_u (fun z150 l150 u150 => ?_)
    refine z_if_eq (tgt := 54) X.1 X.2.1 d_Ag_openReply_36 (by decide) ⟨by omega, by omega⟩ (fun h151 => ?_) (fun h151 => ?_)
    · exact J104  _ _ _  Y S (lv_sub hl [2, 3, 4, 1, 0] rfl)
    · refine lv_goto (tgt := 51) X.1 X.2.1 d_Ag_openReply_39 (by decide) ?_
      refine lv_bipush (v := iI (-14)) X.1 X.2.1 d_Ag_openReply_51 (by decide) ?_
      exact c_reti hQQ X Y hr hlk ⟨rfl, S, (-14), rfl, ⟨by omega, by omega⟩⟩ d_Ag_openReply_53
set_option maxHeartbeats 4000000 in
set_option maxRecDepth 100000 in
theorem c_Ag_judgeReply (l : Launch) (D : va_G) (E : cE) (T : cT) (κ : tK) (L : List Nat) (f : pF) (sz : Nat) (h : Nat) (k0 : κ h = (12, 0)) (a1 n1 : Nat) (k1 : κ a1 = (13, n1)) (x1 : n1 ≤ 4000) (hw : tW E T κ L f) : Met l y_Ag_judgeReply (k_Ag_judgeReply :: lw_tg) (kRm 6 154 3 4035) (va_Pc [.ref h, .ref a1] (kPre D E T L f sz)) (va_Qi (aPi E T [1, 13, 20] [] κ L f (fun (z : Int) (k : tK) (g : pF) => (-2147483648) ≤ z ∧ z ≤ 2147483647)) (cPost D E (pA L sz)) (pA L sz)) 3 4035 (pA L sz) := by
  refine k_enter (own := R_Ag) (by decide) rfl (Nat.le_of_ble_eq_true rfl) (fun p e s m below meth c ls AV QQ H locs hQQ X Y hA hin hr hlk hml hl KS KR => ?_)
  have hl : lv_has ls 7 [(0, .ref h), (1, .ref a1)] := hl
  have S : tS E T (tFr κ L [1, 13, 20] []) κ L f κ L f := tS_rf hw
  have hF0 : ∀ b, tFr κ L [1, 13, 20] [] b → b ∈ L := fun b h9 => h9.1
  refine lv_aload_n X.1 X.2.1 d_Ag_judgeReply_0 rfl (lv_at hl 0 rfl) ?_
  refine t_getr (ci := 2) X Y S k0 rfl i_Ag 0 (by decide) rfl (k1 := 21) (k2 := 0) rfl rfl lk_Ag_42 (fun _ h9 => h9) d_Ag_judgeReply_1 (fun b101 e101 k101 => ?_)
  refine t_getr (ci := 11) X Y S k101 rfl i_Va 1 (by decide) rfl (k1 := 13) (k2 := 6144) rfl rfl lk_Ag_196 (fun _ h9 => h9) d_Ag_judgeReply_4 (fun b102 e102 k102 => ?_)
  refine lv_astore_n (lv' := [(2, .ref b102), (0, .ref h), (1, .ref a1)]) X.1 X.2.1 d_Ag_judgeReply_7 rfl hl (by decide) rfl (fun ls hl => ?_)
  refine lv_aload_n X.1 X.2.1 d_Ag_judgeReply_8 rfl (lv_at hl 2 rfl) ?_
  refine lv_iconst (v := iI 0) X.1 X.2.1 d_Ag_judgeReply_9 (by decide) ?_
  refine lv_iconst (v := iI 5) X.1 X.2.1 d_Ag_judgeReply_10 (by decide) ?_
  refine t_ui (t_runV (As := [.int (iI 0), .int (iI 5)]) (rest := []) (n := 2) X Y S k1 hml hl.1 (c_By_field l D E T κ L f H.size a1 n1 k1 (by omega) 0 (by omega) (by omega) 5 (by omega) (by omega) S.1) (ok_k X Y hA KS KR) rfl kl_Ag_By_field ks_By_field kx_By_field ki_By_field ini_By ⟨rfl, rfl⟩ hd_By_field ⟨Nat.le_of_ble_eq_true rfl, Nat.le_of_ble_eq_true rfl⟩ rfl (Nat.le_of_ble_eq_true rfl) d_Ag_judgeReply_11 ⟨Nat.le_of_ble_eq_true rfl, Nat.le_of_ble_eq_true rfl⟩) X Y hA (fun z103 H locs Y p103 => ?_)
  obtain ⟨l103, u103⟩ := p103
  refine lv_istore_n (lv' := [(3, .int (iI z103)), (2, .ref b102), (0, .ref h), (1, .ref a1)]) X.1 X.2.1 d_Ag_judgeReply_14 rfl hl (by decide) rfl (fun ls hl => ?_)
  refine lv_aload_n X.1 X.2.1 d_Ag_judgeReply_15 rfl (lv_at hl 1 rfl) ?_
  refine lv_aload_n X.1 X.2.1 d_Ag_judgeReply_16 rfl (lv_at hl 1 rfl) ?_
  refine lv_iconst (v := iI 0) X.1 X.2.1 d_Ag_judgeReply_17 (by decide) ?_
  refine lv_iconst (v := iI 2) X.1 X.2.1 d_Ag_judgeReply_18 (by decide) ?_
  refine t_ui (t_runV (As := [.int (iI 0), .int (iI 2)]) (rest := [.ref b102]) (n := 2) X Y S k102 hml hl.1 (c_By_field l D E T κ L f H.size b102 6144 k102 (by omega) 0 (by omega) (by omega) 2 (by omega) (by omega) S.1) (ok_k X Y hA KS KR) rfl kl_Ag_By_field ks_By_field kx_By_field ki_By_field ini_By ⟨rfl, rfl⟩ hd_By_field ⟨Nat.le_of_ble_eq_true rfl, Nat.le_of_ble_eq_true rfl⟩ rfl (Nat.le_of_ble_eq_true rfl) d_Ag_judgeReply_19 ⟨Nat.le_of_ble_eq_true rfl, Nat.le_of_ble_eq_true rfl⟩) X Y hA (fun z104 H locs Y p104 => ?_)
  obtain ⟨l104, u104⟩ := p104
  refine t_ul (t_runV (As := [.int (iI z104)]) (rest := []) (n := 1) X Y S k102 hml hl.1 (c_By_numberAt l D E T κ L f H.size b102 6144 k102 (by omega) z104 (by omega) (by omega) S.1) (ok_k X Y hA KS KR) rfl kl_Ag_By_numberAt ks_By_numberAt kx_By_numberAt ki_By_numberAt ini_By ⟨rfl, rfl⟩ hd_By_numberAt ⟨Nat.le_of_ble_eq_true rfl, Nat.le_of_ble_eq_true rfl⟩ rfl (Nat.le_of_ble_eq_true rfl) d_Ag_judgeReply_22 ⟨Nat.le_of_ble_eq_true rfl, Nat.le_of_ble_eq_true rfl⟩) X Y hA (fun v105 H locs Y p105 => ?_)
  refine lv_aload_n X.1 X.2.1 d_Ag_judgeReply_25 rfl (lv_at hl 2 rfl) ?_
  refine t_geti (ci := 2) X Y S k0 rfl i_Ag 9 (by decide) rfl lk_Ag_123 (fun _ h9 => h9) d_Ag_judgeReply_26 (fun z106 e106 l106 u106 => ?_)
  refine lv_i2l X.1 X.2.1 d_Ag_judgeReply_29 rfl ?_
  refine t_anyl (fun v107 => ?_)
  refine W.lcmp X.1 X.2.1 d_Ag_judgeReply_30 ?_
  refine t_u (fun z108 l108 u108 => ?_)
  refine z_if_eq (tgt := 37) X.1 X.2.1 d_Ag_judgeReply_31 (by decide) ⟨by omega, by omega⟩ (fun h109 => ?_) (fun h109 => ?_)
  · refine lv_aload_n X.1 X.2.1 d_Ag_judgeReply_37 rfl (lv_at hl 3 rfl) ?_
    refine lv_aload_n X.1 X.2.1 d_Ag_judgeReply_38 rfl (lv_at hl 3 rfl) ?_
    refine lv_iconst (v := iI 0) X.1 X.2.1 d_Ag_judgeReply_39 (by decide) ?_
    refine lv_iconst (v := iI 3) X.1 X.2.1 d_Ag_judgeReply_40 (by decide) ?_
    refine t_ui (t_runV (As := [.int (iI 0), .int (iI 3)]) (rest := [.ref a1]) (n := 2) X Y S k1 hml hl.1 (c_By_field l D E T κ L f H.size a1 n1 k1 (by omega) 0 (by omega) (by omega) 3 (by omega) (by omega) S.1) (ok_k X Y hA KS KR) rfl kl_Ag_By_field ks_By_field kx_By_field ki_By_field ini_By ⟨rfl, rfl⟩ hd_By_field ⟨Nat.le_of_ble_eq_true rfl, Nat.le_of_ble_eq_true rfl⟩ rfl (Nat.le_of_ble_eq_true rfl) d_Ag_judgeReply_41 ⟨Nat.le_of_ble_eq_true rfl, Nat.le_of_ble_eq_true rfl⟩) X Y hA (fun z110 H locs Y p110 => ?_)
    obtain ⟨l110, u110⟩ := p110
    refine t_ui (t_runV (As := [.int (iI z110)]) (rest := []) (n := 1) X Y S k1 hml hl.1 (c_By_isRealm l D E T κ L f H.size a1 n1 k1 (by omega) z110 (by omega) (by omega) S.1) (ok_k X Y hA KS KR) rfl kl_Ag_By_isRealm ks_By_isRealm kx_By_isRealm ki_By_isRealm ini_By ⟨rfl, rfl⟩ hd_By_isRealm ⟨Nat.le_of_ble_eq_true rfl, Nat.le_of_ble_eq_true rfl⟩ rfl (Nat.le_of_ble_eq_true rfl) d_Ag_judgeReply_44 ⟨Nat.le_of_ble_eq_true rfl, Nat.le_of_ble_eq_true rfl⟩) X Y hA (fun z111 H locs Y p111 => ?_)
    obtain ⟨l111, u111⟩ := p111
    refine z_if_eq (tgt := 129) X.1 X.2.1 d_Ag_judgeReply_47 (by decide) ⟨by omega, by omega⟩ (fun h112 => ?_) (fun h112 => ?_)
    · refine lv_bipush (v := iI (-41)) X.1 X.2.1 d_Ag_judgeReply_129 (by decide) ?_
      refine W.widen (k := 3) (n := 4035) (Nat.le_of_ble_eq_true rfl) (Nat.le_of_ble_eq_true rfl) ?_
      exact c_reti hQQ X Y hr hlk ⟨κ, S, (-41), rfl, ⟨by omega, by omega⟩⟩ d_Ag_judgeReply_131
    · refine lv_aload_n X.1 X.2.1 d_Ag_judgeReply_50 rfl (lv_at hl 3 rfl) ?_
      refine lv_aload_n X.1 X.2.1 d_Ag_judgeReply_51 rfl (lv_at hl 3 rfl) ?_
      refine lv_iconst (v := iI 0) X.1 X.2.1 d_Ag_judgeReply_52 (by decide) ?_
      refine lv_iconst (v := iI 4) X.1 X.2.1 d_Ag_judgeReply_53 (by decide) ?_
      refine t_ui (t_runV (As := [.int (iI 0), .int (iI 4)]) (rest := [.ref a1]) (n := 2) X Y S k1 hml hl.1 (c_By_field l D E T κ L f H.size a1 n1 k1 (by omega) 0 (by omega) (by omega) 4 (by omega) (by omega) S.1) (ok_k X Y hA KS KR) rfl kl_Ag_By_field ks_By_field kx_By_field ki_By_field ini_By ⟨rfl, rfl⟩ hd_By_field ⟨Nat.le_of_ble_eq_true rfl, Nat.le_of_ble_eq_true rfl⟩ rfl (Nat.le_of_ble_eq_true rfl) d_Ag_judgeReply_54 ⟨Nat.le_of_ble_eq_true rfl, Nat.le_of_ble_eq_true rfl⟩) X Y hA (fun z113 H locs Y p113 => ?_)
      obtain ⟨l113, u113⟩ := p113
      refine lv_aload_n X.1 X.2.1 d_Ag_judgeReply_57 rfl (lv_at hl 2 rfl) ?_
      refine t_getr (ci := 2) X Y S k0 rfl i_Ag 12 (by decide) rfl (k1 := 13) (k2 := 40) rfl rfl lk_Ag_30 (fun _ h9 => h9) d_Ag_judgeReply_58 (fun b114 e114 k114 => ?_)
      refine t_ui (t_runV (As := [.int (iI z113), .ref b114]) (rest := []) (n := 2) X Y S k1 hml hl.1 (c_By_isNamed l D E T κ L f H.size a1 n1 k1 (by omega) z113 (by omega) (by omega) b114 40 k114 (by omega) S.1) (ok_k X Y hA KS KR) rfl kl_Ag_By_isNamed ks_By_isNamed kx_By_isNamed ki_By_isNamed ini_By ⟨rfl, rfl⟩ hd_By_isNamed ⟨Nat.le_of_ble_eq_true rfl, Nat.le_of_ble_eq_true rfl⟩ rfl (Nat.le_of_ble_eq_true rfl) d_Ag_judgeReply_61 ⟨Nat.le_of_ble_eq_true rfl, Nat.le_of_ble_eq_true rfl⟩) X Y hA (fun z115 H locs Y p115 => ?_)
      obtain ⟨l115, u115⟩ := p115
      refine z_if_eq (tgt := 129) X.1 X.2.1 d_Ag_judgeReply_64 (by decide) ⟨by omega, by omega⟩ (fun h116 => ?_) (fun h116 => ?_)
      · refine lv_bipush (v := iI (-41)) X.1 X.2.1 d_Ag_judgeReply_129 (by decide) ?_
        refine W.widen (k := 3) (n := 4035) (Nat.le_of_ble_eq_true rfl) (Nat.le_of_ble_eq_true rfl) ?_
        exact c_reti hQQ X Y hr hlk ⟨κ, S, (-41), rfl, ⟨by omega, by omega⟩⟩ d_Ag_judgeReply_131
      · refine lv_aload_n X.1 X.2.1 d_Ag_judgeReply_67 rfl (lv_at hl 1 rfl) ?_
        refine lv_aload_n X.1 X.2.1 d_Ag_judgeReply_68 rfl (lv_at hl 1 rfl) ?_
        refine lv_iconst (v := iI 0) X.1 X.2.1 d_Ag_judgeReply_69 (by decide) ?_
        refine lv_bipush (v := iI 9) X.1 X.2.1 d_Ag_judgeReply_70 (by decide) ?_
        refine t_ui (t_runV (As := [.int (iI 0), .int (iI 9)]) (rest := [.ref b102]) (n := 2) X Y S k102 hml hl.1 (c_By_field l D E T κ L f H.size b102 6144 k102 (by omega) 0 (by omega) (by omega) 9 (by omega) (by omega) S.1) (ok_k X Y hA KS KR) rfl kl_Ag_By_field ks_By_field kx_By_field ki_By_field ini_By ⟨rfl, rfl⟩ hd_By_field ⟨Nat.le_of_ble_eq_true rfl, Nat.le_of_ble_eq_true rfl⟩ rfl (Nat.le_of_ble_eq_true rfl) d_Ag_judgeReply_72 ⟨Nat.le_of_ble_eq_true rfl, Nat.le_of_ble_eq_true rfl⟩) X Y hA (fun z117 H locs Y p117 => ?_)
        obtain ⟨l117, u117⟩ := p117
        refine t_ui (t_runV (As := [.int (iI z117)]) (rest := []) (n := 1) X Y S k102 hml hl.1 (c_By_isRealm l D E T κ L f H.size b102 6144 k102 (by omega) z117 (by omega) (by omega) S.1) (ok_k X Y hA KS KR) rfl kl_Ag_By_isRealm ks_By_isRealm kx_By_isRealm ki_By_isRealm ini_By ⟨rfl, rfl⟩ hd_By_isRealm ⟨Nat.le_of_ble_eq_true rfl, Nat.le_of_ble_eq_true rfl⟩ rfl (Nat.le_of_ble_eq_true rfl) d_Ag_judgeReply_75 ⟨Nat.le_of_ble_eq_true rfl, Nat.le_of_ble_eq_true rfl⟩) X Y hA (fun z118 H locs Y p118 => ?_)
        obtain ⟨l118, u118⟩ := p118
        refine z_if_eq (tgt := 129) X.1 X.2.1 d_Ag_judgeReply_78 (by decide) ⟨by omega, by omega⟩ (fun h119 => ?_) (fun h119 => ?_)
        · refine lv_bipush (v := iI (-41)) X.1 X.2.1 d_Ag_judgeReply_129 (by decide) ?_
          refine W.widen (k := 3) (n := 4035) (Nat.le_of_ble_eq_true rfl) (Nat.le_of_ble_eq_true rfl) ?_
          exact c_reti hQQ X Y hr hlk ⟨κ, S, (-41), rfl, ⟨by omega, by omega⟩⟩ d_Ag_judgeReply_131
        · refine lv_aload_n X.1 X.2.1 d_Ag_judgeReply_81 rfl (lv_at hl 1 rfl) ?_
          refine lv_aload_n X.1 X.2.1 d_Ag_judgeReply_82 rfl (lv_at hl 1 rfl) ?_
          refine lv_iconst (v := iI 0) X.1 X.2.1 d_Ag_judgeReply_83 (by decide) ?_
          refine lv_bipush (v := iI 10) X.1 X.2.1 d_Ag_judgeReply_84 (by decide) ?_
          refine t_ui (t_runV (As := [.int (iI 0), .int (iI 10)]) (rest := [.ref b102]) (n := 2) X Y S k102 hml hl.1 (c_By_field l D E T κ L f H.size b102 6144 k102 (by omega) 0 (by omega) (by omega) 10 (by omega) (by omega) S.1) (ok_k X Y hA KS KR) rfl kl_Ag_By_field ks_By_field kx_By_field ki_By_field ini_By ⟨rfl, rfl⟩ hd_By_field ⟨Nat.le_of_ble_eq_true rfl, Nat.le_of_ble_eq_true rfl⟩ rfl (Nat.le_of_ble_eq_true rfl) d_Ag_judgeReply_86 ⟨Nat.le_of_ble_eq_true rfl, Nat.le_of_ble_eq_true rfl⟩) X Y hA (fun z120 H locs Y p120 => ?_)
          obtain ⟨l120, u120⟩ := p120
          refine lv_aload_n X.1 X.2.1 d_Ag_judgeReply_89 rfl (lv_at hl 2 rfl) ?_
          refine t_getr (ci := 2) X Y S k0 rfl i_Ag 13 (by decide) rfl (k1 := 13) (k2 := 40) rfl rfl lk_Ag_33 (fun _ h9 => h9) d_Ag_judgeReply_90 (fun b121 e121 k121 => ?_)
          refine t_ui (t_runV (As := [.int (iI z120), .ref b121]) (rest := []) (n := 2) X Y S k102 hml hl.1 (c_By_isNamed l D E T κ L f H.size b102 6144 k102 (by omega) z120 (by omega) (by omega) b121 40 k121 (by omega) S.1) (ok_k X Y hA KS KR) rfl kl_Ag_By_isNamed ks_By_isNamed kx_By_isNamed ki_By_isNamed ini_By ⟨rfl, rfl⟩ hd_By_isNamed ⟨Nat.le_of_ble_eq_true rfl, Nat.le_of_ble_eq_true rfl⟩ rfl (Nat.le_of_ble_eq_true rfl) d_Ag_judgeReply_93 ⟨Nat.le_of_ble_eq_true rfl, Nat.le_of_ble_eq_true rfl⟩) X Y hA (fun z122 H locs Y p122 => ?_)
          obtain ⟨l122, u122⟩ := p122
          refine z_if_eq (tgt := 129) X.1 X.2.1 d_Ag_judgeReply_96 (by decide) ⟨by omega, by omega⟩ (fun h123 => ?_) (fun h123 => ?_)
          · refine lv_bipush (v := iI (-41)) X.1 X.2.1 d_Ag_judgeReply_129 (by decide) ?_
            refine W.widen (k := 3) (n := 4035) (Nat.le_of_ble_eq_true rfl) (Nat.le_of_ble_eq_true rfl) ?_
            exact c_reti hQQ X Y hr hlk ⟨κ, S, (-41), rfl, ⟨by omega, by omega⟩⟩ d_Ag_judgeReply_131
          · refine lv_aload_n X.1 X.2.1 d_Ag_judgeReply_99 rfl (lv_at hl 3 rfl) ?_
            refine lv_aload_n X.1 X.2.1 d_Ag_judgeReply_100 rfl (lv_at hl 3 rfl) ?_
            refine lv_iload_n X.1 X.2.1 d_Ag_judgeReply_101 rfl (lv_at hl 0 rfl) ?_
            refine lv_iconst (v := iI 1) X.1 X.2.1 d_Ag_judgeReply_102 (by decide) ?_
            refine t_ui (t_runV (As := [.int (iI z103), .int (iI 1)]) (rest := [.ref a1]) (n := 2) X Y S k1 hml hl.1 (c_By_field l D E T κ L f H.size a1 n1 k1 (by omega) z103 (by omega) (by omega) 1 (by omega) (by omega) S.1) (ok_k X Y hA KS KR) rfl kl_Ag_By_field ks_By_field kx_By_field ki_By_field ini_By ⟨rfl, rfl⟩ hd_By_field ⟨Nat.le_of_ble_eq_true rfl, Nat.le_of_ble_eq_true rfl⟩ rfl (Nat.le_of_ble_eq_true rfl) d_Ag_judgeReply_103 ⟨Nat.le_of_ble_eq_true rfl, Nat.le_of_ble_eq_true rfl⟩) X Y hA (fun z124 H locs Y p124 => ?_)
            obtain ⟨l124, u124⟩ := p124
            refine t_ui (t_runV (As := [.int (iI z124)]) (rest := []) (n := 1) X Y S k1 hml hl.1 (c_By_isRealm l D E T κ L f H.size a1 n1 k1 (by omega) z124 (by omega) (by omega) S.1) (ok_k X Y hA KS KR) rfl kl_Ag_By_isRealm ks_By_isRealm kx_By_isRealm ki_By_isRealm ini_By ⟨rfl, rfl⟩ hd_By_isRealm ⟨Nat.le_of_ble_eq_true rfl, Nat.le_of_ble_eq_true rfl⟩ rfl (Nat.le_of_ble_eq_true rfl) d_Ag_judgeReply_106 ⟨Nat.le_of_ble_eq_true rfl, Nat.le_of_ble_eq_true rfl⟩) X Y hA (fun z125 H locs Y p125 => ?_)
            obtain ⟨l125, u125⟩ := p125
            refine z_if_eq (tgt := 129) X.1 X.2.1 d_Ag_judgeReply_109 (by decide) ⟨by omega, by omega⟩ (fun h126 => ?_) (fun h126 => ?_)
            · refine lv_bipush (v := iI (-41)) X.1 X.2.1 d_Ag_judgeReply_129 (by decide) ?_
              refine W.widen (k := 3) (n := 4035) (Nat.le_of_ble_eq_true rfl) (Nat.le_of_ble_eq_true rfl) ?_
              exact c_reti hQQ X Y hr hlk ⟨κ, S, (-41), rfl, ⟨by omega, by omega⟩⟩ d_Ag_judgeReply_131
            · refine lv_aload_n X.1 X.2.1 d_Ag_judgeReply_112 rfl (lv_at hl 3 rfl) ?_
              refine lv_aload_n X.1 X.2.1 d_Ag_judgeReply_113 rfl (lv_at hl 3 rfl) ?_
              refine lv_iload_n X.1 X.2.1 d_Ag_judgeReply_114 rfl (lv_at hl 0 rfl) ?_
              refine lv_iconst (v := iI 2) X.1 X.2.1 d_Ag_judgeReply_115 (by decide) ?_
              refine t_ui (t_runV (As := [.int (iI z103), .int (iI 2)]) (rest := [.ref a1]) (n := 2) X Y S k1 hml hl.1 (c_By_field l D E T κ L f H.size a1 n1 k1 (by omega) z103 (by omega) (by omega) 2 (by omega) (by omega) S.1) (ok_k X Y hA KS KR) rfl kl_Ag_By_field ks_By_field kx_By_field ki_By_field ini_By ⟨rfl, rfl⟩ hd_By_field ⟨Nat.le_of_ble_eq_true rfl, Nat.le_of_ble_eq_true rfl⟩ rfl (Nat.le_of_ble_eq_true rfl) d_Ag_judgeReply_116 ⟨Nat.le_of_ble_eq_true rfl, Nat.le_of_ble_eq_true rfl⟩) X Y hA (fun z127 H locs Y p127 => ?_)
              obtain ⟨l127, u127⟩ := p127
              refine lv_aload_n X.1 X.2.1 d_Ag_judgeReply_119 rfl (lv_at hl 2 rfl) ?_
              refine t_get0 (ci := 2) X Y S k0 rfl i_Ag 13 (by decide) rfl lk_Ag_33 (fun _ h9 => h9) d_Ag_judgeReply_120 e121 ?_
              refine t_ui (t_runV (As := [.int (iI z127), .ref b121]) (rest := []) (n := 2) X Y S k1 hml hl.1 (c_By_isNamed l D E T κ L f H.size a1 n1 k1 (by omega) z127 (by omega) (by omega) b121 40 k121 (by omega) S.1) (ok_k X Y hA KS KR) rfl kl_Ag_By_isNamed ks_By_isNamed kx_By_isNamed ki_By_isNamed ini_By ⟨rfl, rfl⟩ hd_By_isNamed ⟨Nat.le_of_ble_eq_true rfl, Nat.le_of_ble_eq_true rfl⟩ rfl (Nat.le_of_ble_eq_true rfl) d_Ag_judgeReply_123 ⟨Nat.le_of_ble_eq_true rfl, Nat.le_of_ble_eq_true rfl⟩) X Y hA (fun z128 H locs Y p128 => ?_)
              obtain ⟨l128, u128⟩ := p128
              refine z_if_ne (tgt := 132) X.1 X.2.1 d_Ag_judgeReply_126 (by decide) ⟨by omega, by omega⟩ (fun h129 => ?_) (fun h129 => ?_)
              · refine lv_aload_n X.1 X.2.1 d_Ag_judgeReply_132 rfl (lv_at hl 1 rfl) ?_
                refine lv_aload_n X.1 X.2.1 d_Ag_judgeReply_133 rfl (lv_at hl 1 rfl) ?_
                refine lv_iconst (v := iI 0) X.1 X.2.1 d_Ag_judgeReply_134 (by decide) ?_
                refine lv_iconst (v := iI 0) X.1 X.2.1 d_Ag_judgeReply_135 (by decide) ?_
                refine t_ui (t_runV (As := [.int (iI 0), .int (iI 0)]) (rest := [.ref b102]) (n := 2) X Y S k102 hml hl.1 (c_By_field l D E T κ L f H.size b102 6144 k102 (by omega) 0 (by omega) (by omega) 0 (by omega) (by omega) S.1) (ok_k X Y hA KS KR) rfl kl_Ag_By_field ks_By_field kx_By_field ki_By_field ini_By ⟨rfl, rfl⟩ hd_By_field ⟨Nat.le_of_ble_eq_true rfl, Nat.le_of_ble_eq_true rfl⟩ rfl (Nat.le_of_ble_eq_true rfl) d_Ag_judgeReply_136 ⟨Nat.le_of_ble_eq_true rfl, Nat.le_of_ble_eq_true rfl⟩) X Y hA (fun z130 H locs Y p130 => ?_)
                obtain ⟨l130, u130⟩ := p130
                refine t_ar (x_runS (As := [.ref b102, .int (iI z130)]) (rest := []) (n := 2) X hml hl.1 (c_Va_keyAt l D E T κ L f H.size b102 6144 k102 (by omega) z130 (by omega) (by omega) S.1) (ok_k X Y hA KS KR) kl_Ag_Va_keyAt ks_Va_keyAt ki_Va_keyAt ini_Va ⟨rfl, rfl⟩ hd_Va_keyAt.2 ⟨Nat.le_of_ble_eq_true rfl, Nat.le_of_ble_eq_true rfl⟩ rfl (Nat.le_of_ble_eq_true rfl) d_Ag_judgeReply_139 ⟨Nat.le_of_ble_eq_true rfl, Nat.le_of_ble_eq_true rfl⟩) X Y hA S (by decide) (fun b131 κ131 L131 f131 H locs Y S s131 p131 => ?_)
                obtain ⟨n131, k131⟩ := p131
                have x131 := tKey_n k131
                have k132 : κ131 h = (12, 0) := tLe_k s131.2.2.1 k0
                have k133 : κ131 a1 = (13, n1) := tLe_k s131.2.2.1 k1
                have k134 : κ131 b102 = (13, 6144) := tLe_k s131.2.2.1 k102
                refine lv_astore (lv' := [(4, .ref b131), (3, .int (iI z103)), (2, .ref b102), (0, .ref h), (1, .ref a1)]) X.1 X.2.1 d_Ag_judgeReply_142 hl (by decide) rfl (fun ls hl => ?_)
                refine lv_aload X.1 X.2.1 d_Ag_judgeReply_144 (lv_at hl 0 rfl) ?_
                refine t_alen X Y S KS (tKey_src k131) (by omega) d_Ag_judgeReply_146 ?_
                refine z_if_ne (tgt := 153) X.1 X.2.1 d_Ag_judgeReply_147 (by decide) ⟨by omega, by omega⟩ (fun h135 => ?_) (fun h135 => ?_)
                · refine lv_aload_n X.1 X.2.1 d_Ag_judgeReply_153 rfl (lv_at hl 2 rfl) ?_
                  refine lv_aload_n X.1 X.2.1 d_Ag_judgeReply_154 rfl (lv_at hl 2 rfl) ?_
                  refine lv_iconst (v := iI 0) X.1 X.2.1 d_Ag_judgeReply_155 (by decide) ?_
                  refine lv_aload_n X.1 X.2.1 d_Ag_judgeReply_156 rfl (lv_at hl 2 rfl) ?_
                  refine lv_iconst (v := iI 0) X.1 X.2.1 d_Ag_judgeReply_157 (by decide) ?_
                  refine lv_bipush (v := iI 6) X.1 X.2.1 d_Ag_judgeReply_158 (by decide) ?_
                  refine t_ui (t_runV (As := [.int (iI 0), .int (iI 6)]) (rest := [.int (iI 0), .ref b102, .ref b102]) (n := 2) X Y S k134 hml hl.1 (c_By_field l D E T κ131 L131 f131 H.size b102 6144 k134 (by omega) 0 (by omega) (by omega) 6 (by omega) (by omega) S.1) (ok_k X Y hA KS KR) rfl kl_Ag_By_field ks_By_field kx_By_field ki_By_field ini_By ⟨rfl, rfl⟩ hd_By_field ⟨Nat.le_of_ble_eq_true rfl, Nat.le_of_ble_eq_true rfl⟩ rfl (Nat.le_of_ble_eq_true rfl) d_Ag_judgeReply_160 ⟨Nat.le_of_ble_eq_true rfl, Nat.le_of_ble_eq_true rfl⟩) X Y hA (fun z136 H locs Y p136 => ?_)
                  obtain ⟨l136, u136⟩ := p136
                  have J138 : ∀ (z137 : Int) (H : Heap) (locs : List Loc) (ls : Array Slot), (5 ≤ z137) → (z137 ≤ 6) → pH D cCl (pA L sz) s.heap L131 f131 H locs → tS E T (tFr κ L [1, 13, 20] []) κ L f κ131 L131 f131 → lv_has ls 7 [(0, .ref h), (1, .ref a1), (2, .ref b102), (3, .int (iI z103)), (4, .ref b131)] → W p l e (kRm 6 154 3 4035) s m AV below meth c H locs 1 32 QQ (F0 m 172 ls [.int (iI z137), .int (iI 0), .ref b102, .ref b102]) := by
                    intro z137 H locs ls l137 u137 Y S hl
                    refine t_ui (t_runV (As := [.int (iI 0), .int (iI z137)]) (rest := [.ref b102]) (n := 2) X Y S k134 hml hl.1 (c_By_field l D E T κ131 L131 f131 H.size b102 6144 k134 (by omega) 0 (by omega) (by omega) z137 (by omega) (by omega) S.1) (ok_k X Y hA KS KR) rfl kl_Ag_By_field ks_By_field kx_By_field ki_By_field ini_By ⟨rfl, rfl⟩ hd_By_field ⟨Nat.le_of_ble_eq_true rfl, Nat.le_of_ble_eq_true rfl⟩ rfl (Nat.le_of_ble_eq_true rfl) d_Ag_judgeReply_172 ⟨Nat.le_of_ble_eq_true rfl, Nat.le_of_ble_eq_true rfl⟩) X Y hA (fun z142 H locs Y p142 => ?_)
                    obtain ⟨l142, u142⟩ := p142
                    refine t_ui (t_runV (As := [.int (iI z142)]) (rest := []) (n := 1) X Y S k134 hml hl.1 (c_By_timeAt l D E T κ131 L131 f131 H.size b102 6144 k134 (by omega) z142 (by omega) (by omega) S.1) (ok_k X Y hA KS KR) rfl kl_Ag_By_timeAt ks_By_timeAt kx_By_timeAt ki_By_timeAt ini_By ⟨rfl, rfl⟩ hd_By_timeAt ⟨Nat.le_of_ble_eq_true rfl, Nat.le_of_ble_eq_true rfl⟩ rfl (Nat.le_of_ble_eq_true rfl) d_Ag_judgeReply_175 ⟨Nat.le_of_ble_eq_true rfl, Nat.le_of_ble_eq_true rfl⟩) X Y hA (fun z143 H locs Y p143 => ?_)
                    obtain ⟨l143, u143⟩ := p143
                    refine lv_istore (lv' := [(5, .int (iI z143)), (0, .ref h), (1, .ref a1), (2, .ref b102), (3, .int (iI z103)), (4, .ref b131)]) X.1 X.2.1 d_Ag_judgeReply_178 hl (by decide) rfl (fun ls hl => ?_)
                    refine lv_aload_n X.1 X.2.1 d_Ag_judgeReply_180 rfl (lv_at hl 1 rfl) ?_
                    refine t_geti (ci := 2) X Y S k132 rfl i_Ag 10 (by decide) rfl lk_Ag_114 (fun _ h9 => h9) d_Ag_judgeReply_181 (fun z144 e144 l144 u144 => ?_)
                    have J145 : ∀  (H : Heap) (locs : List Loc) (ls : Array Slot), pH D cCl (pA L sz) s.heap L131 f131 H locs → tS E T (tFr κ L [1, 13, 20] []) κ L f κ131 L131 f131 → lv_has ls 7 [(0, .ref h), (1, .ref a1), (2, .ref b102), (3, .int (iI z103)), (4, .ref b131)] → W p l e (kRm 6 154 3 4035) s m AV below meth c H locs 1 32 QQ (F0 m 206 ls []) := by
                      intro  H locs ls  Y S hl
                      refine lv_aload_n X.1 X.2.1 d_Ag_judgeReply_206 rfl (lv_at hl 0 rfl) ?_
                      refine t_ui (t_runV (As := []) (rest := []) (n := 0) X Y S k132 hml hl.1 (c_Ag_freePlace l D E T κ131 L131 f131 H.size h k132 S.1) (ok_k X Y hA KS KR) rfl kl_Ag_Ag_freePlace ks_Ag_freePlace kx_Ag_freePlace ki_Ag_freePlace ini_Ag ⟨rfl, rfl⟩ hd_Ag_freePlace ⟨Nat.le_of_ble_eq_true rfl, Nat.le_of_ble_eq_true rfl⟩ rfl (Nat.le_of_ble_eq_true rfl) d_Ag_judgeReply_207 ⟨Nat.le_of_ble_eq_true rfl, Nat.le_of_ble_eq_true rfl⟩) X Y hA (fun z149 H locs Y p149 => ?_)
                      obtain ⟨l149, u149⟩ := p149
                      refine lv_istore (lv' := [(6, .int (iI z149)), (0, .ref h), (1, .ref a1), (2, .ref b102), (3, .int (iI z103)), (4, .ref b131)]) X.1 X.2.1 d_Ag_judgeReply_210 hl (by decide) rfl (fun ls hl => ?_)
                      refine lv_iload X.1 X.2.1 d_Ag_judgeReply_212 (lv_at hl 0 rfl) ?_
                      refine z_if_lt (tgt := 261) X.1 X.2.1 d_Ag_judgeReply_214 (by decide) ⟨by omega, by omega⟩ (fun h150 => ?_) (fun h150 => ?_)
                      · refine lv_iload X.1 X.2.1 d_Ag_judgeReply_261 (lv_at hl 0 rfl) ?_
                        refine W.widen (k := 3) (n := 4035) (Nat.le_of_ble_eq_true rfl) (Nat.le_of_ble_eq_true rfl) ?_
                        exact c_reti hQQ X Y hr hlk ⟨κ131, S, z149, rfl, ⟨by omega, by omega⟩⟩ d_Ag_judgeReply_263
                      · refine lv_aload_n X.1 X.2.1 d_Ag_judgeReply_217 rfl (lv_at hl 1 rfl) ?_
                        refine t_getr (ci := 2) X Y S k132 rfl i_Ag 1 (by decide) rfl (k1 := 8) (k2 := 8) rfl rfl lk_Ag_48 (fun _ h9 => h9) d_Ag_judgeReply_218 (fun b151 e151 k151 => ?_)
                        refine lv_iload X.1 X.2.1 d_Ag_judgeReply_221 (lv_at hl 0 rfl) ?_
                        refine t_aald X Y S k151 (fun h9 => h9) (t0 := 5) rfl (by omega) (by omega) (by omega) d_Ag_judgeReply_223 (fun b152 e152 k152 => ?_)
                        refine lv_aload_n X.1 X.2.1 d_Ag_judgeReply_224 rfl (lv_at hl 2 rfl) ?_
                        refine lv_iload_n X.1 X.2.1 d_Ag_judgeReply_225 rfl (lv_at hl 4 rfl) ?_
                        refine t_av (t_runV (As := [.ref a1, .int (iI z103)]) (rest := []) (n := 2) X Y S k152 hml hl.1 (c_Ti_setRaw l D E T κ131 L131 f131 H.size b152 k152 a1 n1 k133 (by omega) z103 (by omega) (by omega) S.1) (ok_k X Y hA KS KR) rfl kl_Ag_Ti_setRaw ks_Ti_setRaw kx_Ti_setRaw ki_Ti_setRaw ini_Ti ⟨rfl, rfl⟩ hd_Ti_setRaw ⟨Nat.le_of_ble_eq_true rfl, Nat.le_of_ble_eq_true rfl⟩ rfl (Nat.le_of_ble_eq_true rfl) d_Ag_judgeReply_226 ⟨Nat.le_of_ble_eq_true rfl, Nat.le_of_ble_eq_true rfl⟩) X Y hA S (by decide) (fun κ153 L153 f153 H locs Y S s153 p153 => ?_)
                        have k154 : κ153 h = (12, 0) := tLe_k s153.2.2.1 k132
                        have k155 : κ153 a1 = (13, n1) := tLe_k s153.2.2.1 k133
                        have k156 : κ153 b102 = (13, 6144) := tLe_k s153.2.2.1 k134
                        have k157 : tKey T κ153 b131 n131 := tLe_key s153.2.2.1 k131
                        refine lv_aload_n X.1 X.2.1 d_Ag_judgeReply_229 rfl (lv_at hl 1 rfl) ?_
                        refine t_getr (ci := 2) X Y S k154 rfl i_Ag 1 (by decide) rfl (k1 := 8) (k2 := 8) rfl rfl lk_Ag_48 (fun _ h9 => h9) d_Ag_judgeReply_230 (fun b158 e158 k158 => ?_)
                        refine lv_iload X.1 X.2.1 d_Ag_judgeReply_233 (lv_at hl 0 rfl) ?_
                        refine t_aald X Y S k158 (fun h9 => h9) (t0 := 5) rfl (by omega) (by omega) (by omega) d_Ag_judgeReply_235 (fun b159 e159 k159 => ?_)
                        refine lv_aload_n X.1 X.2.1 d_Ag_judgeReply_236 rfl (lv_at hl 2 rfl) ?_
                        refine lv_aload_n X.1 X.2.1 d_Ag_judgeReply_237 rfl (lv_at hl 2 rfl) ?_
                        refine lv_iconst (v := iI 0) X.1 X.2.1 d_Ag_judgeReply_238 (by decide) ?_
                        refine lv_iconst (v := iI 4) X.1 X.2.1 d_Ag_judgeReply_239 (by decide) ?_
                        refine t_ui (t_runV (As := [.int (iI 0), .int (iI 4)]) (rest := [.ref a1, .ref b159]) (n := 2) X Y S k155 hml hl.1 (c_By_field l D E T κ153 L153 f153 H.size a1 n1 k155 (by omega) 0 (by omega) (by omega) 4 (by omega) (by omega) S.1) (ok_k X Y hA KS KR) rfl kl_Ag_By_field ks_By_field kx_By_field ki_By_field ini_By ⟨rfl, rfl⟩ hd_By_field ⟨Nat.le_of_ble_eq_true rfl, Nat.le_of_ble_eq_true rfl⟩ rfl (Nat.le_of_ble_eq_true rfl) d_Ag_judgeReply_240 ⟨Nat.le_of_ble_eq_true rfl, Nat.le_of_ble_eq_true rfl⟩) X Y hA (fun z160 H locs Y p160 => ?_)
                        obtain ⟨l160, u160⟩ := p160
                        refine t_nv (t_runV (As := [.ref a1, .int (iI z160)]) (rest := []) (n := 2) X Y S k159 hml hl.1 (c_Ti_setName l D E T κ153 L153 f153 H.size b159 k159 a1 n1 k155 (by omega) z160 (by omega) (by omega) S.1) (ok_k X Y hA KS KR) rfl kl_Ag_Ti_setName ks_Ti_setName kx_Ti_setName ki_Ti_setName ini_Ti ⟨rfl, rfl⟩ hd_Ti_setName ⟨Nat.le_of_ble_eq_true rfl, Nat.le_of_ble_eq_true rfl⟩ rfl (Nat.le_of_ble_eq_true rfl) d_Ag_judgeReply_243 ⟨Nat.le_of_ble_eq_true rfl, Nat.le_of_ble_eq_true rfl⟩) X Y hA S (by decide) (fun f161 H locs Y S s161 p161 => ?_)
                        refine lv_aload_n X.1 X.2.1 d_Ag_judgeReply_246 rfl (lv_at hl 1 rfl) ?_
                        refine t_get0 (ci := 2) X Y S k154 rfl i_Ag 1 (by decide) rfl lk_Ag_48 (fun _ h9 => h9) d_Ag_judgeReply_247 ((gF_same (s161.2.2.2 _ ⟨(t_obj S.1 k154).1, nM_of k154 (by decide), by simp⟩).1 1).trans e158) ?_
                        refine lv_iload X.1 X.2.1 d_Ag_judgeReply_250 (lv_at hl 0 rfl) ?_
                        refine t_aald X Y S k158 (fun h9 => h9) (t0 := 5) rfl (by omega) (by omega) (by omega) d_Ag_judgeReply_252 (fun b162 e162 k162 => ?_)
                        refine lv_aload X.1 X.2.1 d_Ag_judgeReply_253 (lv_at hl 5 rfl) ?_
                        refine lv_aload_n X.1 X.2.1 d_Ag_judgeReply_255 rfl (lv_at hl 3 rfl) ?_
                        refine lv_iconst (v := iI 0) X.1 X.2.1 d_Ag_judgeReply_256 (by decide) ?_
                        refine lv_iconst (v := iI 4) X.1 X.2.1 d_Ag_judgeReply_257 (by decide) ?_
                        refine t_nv (t_runV (As := [.ref b131, .ref b102, .int (iI 0), .int (iI 4)]) (rest := []) (n := 4) X Y S k162 hml hl.1 (c_Ti_setTold l D E T κ153 L153 f161 H.size b162 k162 b131 n131 k157 (by omega) b102 6144 k156 (by omega) 0 (by omega) (by omega) 4 (by omega) (by omega) S.1) (ok_k X Y hA KS KR) rfl kl_Ag_Ti_setTold ks_Ti_setTold kx_Ti_setTold ki_Ti_setTold ini_Ti ⟨rfl, rfl⟩ hd_Ti_setTold ⟨Nat.le_of_ble_eq_true rfl, Nat.le_of_ble_eq_true rfl⟩ rfl (Nat.le_of_ble_eq_true rfl) d_Ag_judgeReply_258 ⟨Nat.le_of_ble_eq_true rfl, Nat.le_of_ble_eq_true rfl⟩) X Y hA S (by decide) (fun f163 H locs Y S s163 p163 => ?_)
                        refine lv_iload X.1 X.2.1 d_Ag_judgeReply_261 (lv_at hl 0 rfl) ?_
                        exact c_reti hQQ X Y hr hlk ⟨κ153, S, z149, rfl, ⟨by omega, by omega⟩⟩ d_Ag_judgeReply_263
                    refine z_if_ne (tgt := 206) X.1 X.2.1 d_Ag_judgeReply_184 (by decide) ⟨by omega, by omega⟩ (fun h164 => ?_) (fun h164 => ?_)
                    · exact J145  _ _ _  Y S (lv_sub hl [1, 2, 3, 4, 5] rfl)
                    · refine lv_iload X.1 X.2.1 d_Ag_judgeReply_187 (lv_at hl 0 rfl) ?_
                      refine lv_aload_n X.1 X.2.1 d_Ag_judgeReply_189 rfl (lv_at hl 1 rfl) ?_
                      refine t_ui (t_runV (As := []) (rest := [.int (iI z143)]) (n := 0) X Y S k132 hml hl.1 (c_Ag_time l D E T κ131 L131 f131 H.size h k132 S.1) (ok_k X Y hA KS KR) rfl kl_Ag_Ag_time ks_Ag_time kx_Ag_time ki_Ag_time ini_Ag ⟨rfl, rfl⟩ hd_Ag_time ⟨Nat.le_of_ble_eq_true rfl, Nat.le_of_ble_eq_true rfl⟩ rfl (Nat.le_of_ble_eq_true rfl) d_Ag_judgeReply_190 ⟨Nat.le_of_ble_eq_true rfl, Nat.le_of_ble_eq_true rfl⟩) X Y hA (fun z165 H locs Y p165 => ?_)
                      obtain ⟨l165, u165⟩ := p165
                      refine lv_isub X.1 X.2.1 d_Ag_judgeReply_193 ?_
                      refine t_u (fun z166 l166 u166 => ?_)
                      refine va_mabs X.1 X.2.1 (hml.trans hl.1.symm) X.2.2.2.1 (X.2.2.1 _ kl_Ag_mabs) (X.2.2.1 _ ks_mabs) (X.2.2.1 _ ini_Math) (X.2.2.1 _ ki_mabs) (Nat.le_of_ble_eq_true rfl) (Nat.le_of_ble_eq_true rfl) (Nat.le_of_ble_eq_true rfl) (Nat.le_of_ble_eq_true rfl) d_Ag_judgeReply_194 ?_
                      refine t_u (fun z167 l167 u167 => ?_)
                      refine lv_sipush (v := iI 300) X.1 X.2.1 d_Ag_judgeReply_197 (by decide) ?_
                      refine z_icmp_le (tgt := 206) X.1 X.2.1 d_Ag_judgeReply_200 (by decide) ⟨by omega, by omega⟩ ⟨by omega, by omega⟩ (fun h168 => ?_) (fun h168 => ?_)
                      · exact J145  _ _ _  Y S (lv_sub hl [1, 2, 3, 4, 5] rfl)
                      · refine lv_bipush (v := iI (-37)) X.1 X.2.1 d_Ag_judgeReply_203 (by decide) ?_
                        refine W.widen (k := 3) (n := 4035) (Nat.le_of_ble_eq_true rfl) (Nat.le_of_ble_eq_true rfl) ?_
                        exact c_reti hQQ X Y hr hlk ⟨κ131, S, (-37), rfl, ⟨by omega, by omega⟩⟩ d_Ag_judgeReply_205
                  refine z_if_lt (tgt := 171) X.1 X.2.1 d_Ag_judgeReply_163 (by decide) ⟨by omega, by omega⟩ (fun h169 => ?_) (fun h169 => ?_)
                  · refine lv_iconst (v := iI 5) X.1 X.2.1 d_Ag_judgeReply_171 (by decide) ?_
                    exact J138 5 _ _ _ (by omega) (by omega) Y S (lv_sub hl [3, 4, 2, 1, 0] rfl)
                  · refine lv_bipush (v := iI 6) X.1 X.2.1 d_Ag_judgeReply_166 (by decide) ?_
                    refine lv_goto (tgt := 172) X.1 X.2.1 d_Ag_judgeReply_168 (by decide) ?_
                    exact J138 6 _ _ _ (by omega) (by omega) Y S (lv_sub hl [3, 4, 2, 1, 0] rfl)
                · refine lv_bipush (v := iI (-14)) X.1 X.2.1 d_Ag_judgeReply_150 (by decide) ?_
                  refine W.widen (k := 3) (n := 4035) (Nat.le_of_ble_eq_true rfl) (Nat.le_of_ble_eq_true rfl) ?_
                  exact c_reti hQQ X Y hr hlk ⟨κ131, S, (-14), rfl, ⟨by omega, by omega⟩⟩ d_Ag_judgeReply_152
              · refine lv_bipush (v := iI (-41)) X.1 X.2.1 d_Ag_judgeReply_129 (by decide) ?_
                refine W.widen (k := 3) (n := 4035) (Nat.le_of_ble_eq_true rfl) (Nat.le_of_ble_eq_true rfl) ?_
                exact c_reti hQQ X Y hr hlk ⟨κ, S, (-41), rfl, ⟨by omega, by omega⟩⟩ d_Ag_judgeReply_131
  · refine lv_bipush (v := iI (-41)) X.1 X.2.1 d_Ag_judgeReply_34 (by decide) ?_
    refine W.widen (k := 3) (n := 4035) (Nat.le_of_ble_eq_true rfl) (Nat.le_of_ble_eq_true rfl) ?_
    exact c_reti hQQ X Y hr hlk ⟨κ, S, (-41), rfl, ⟨by omega, by omega⟩⟩ d_Ag_judgeReply_36
set_option maxHeartbeats 4000000 in
set_option maxRecDepth 100000 in
theorem c_Ag_hearReply (l : Launch) (D : va_G) (E : cE) (T : cT) (κ : tK) (L : List Nat) (f : pF) (sz : Nat) (h : Nat) (k0 : κ h = (12, 0)) (a1 n1 : Nat) (k1 : κ a1 = (13, n1)) (x1 : n1 ≤ 4000) (hw : tW E T κ L f) : Met l y_Ag_hearReply (k_Ag_hearReply :: lw_tg) (kRm 72 2392 3 4035) (va_Pc [.ref h, .ref a1] (kPre D E T L f sz)) (va_Qi (aPi E T [1, 2, 3, 4, 11, 12, 13, 16, 20] [] κ L f (fun (z : Int) (k : tK) (g : pF) => (-2147483648) ≤ z ∧ z ≤ 2147483647)) (cPost D E (pA L sz)) (pA L sz)) 3 4035 (pA L sz) := by
  refine k_enter (own := R_Ag) (by decide) rfl (Nat.le_of_ble_eq_true rfl) (fun p e s m below meth c ls AV QQ H locs hQQ X Y hA hin hr hlk hml hl KS KR => ?_)
  have hl : lv_has ls 6 [(0, .ref h), (1, .ref a1)] := hl
  have S : tS E T (tFr κ L [1, 2, 3, 4, 11, 12, 13, 16, 20] []) κ L f κ L f := tS_rf hw
  have hF0 : ∀ b, tFr κ L [1, 2, 3, 4, 11, 12, 13, 16, 20] [] b → b ∈ L := fun b h9 => h9.1
  refine lv_aload_n X.1 X.2.1 d_Ag_hearReply_0 rfl (lv_at hl 0 rfl) ?_
  refine t_geti (ci := 2) X Y S k0 rfl i_Ag 8 (by decide) rfl lk_Ag_75 (fun _ h9 => h9) d_Ag_hearReply_1 (fun z101 e101 l101 u101 => ?_)
  refine z_if_ge (tgt := 10) X.1 X.2.1 d_Ag_hearReply_4 (by decide) ⟨by omega, by omega⟩ (fun h102 => ?_) (fun h102 => ?_)
  · refine lv_aload_n X.1 X.2.1 d_Ag_hearReply_10 rfl (lv_at hl 0 rfl) ?_
    refine t_get0 (ci := 2) X Y S k0 rfl i_Ag 8 (by decide) rfl lk_Ag_75 (fun _ h9 => h9) d_Ag_hearReply_11 e101 ?_
    refine lv_istore_n (lv' := [(2, .int (iI z101)), (0, .ref h), (1, .ref a1)]) X.1 X.2.1 d_Ag_hearReply_14 rfl hl (by decide) rfl (fun ls hl => ?_)
    refine lv_aload_n X.1 X.2.1 d_Ag_hearReply_15 rfl (lv_at hl 1 rfl) ?_
    refine lv_iconst (v := iI (-1)) X.1 X.2.1 d_Ag_hearReply_16 (by decide) ?_
    refine t_put (ci := 2) X Y S k0 rfl i_Ag t_Ag t_Ag_ok n_Ag 8 (by decide) rfl lk_Ag_75 (fun _ h9 => h9) rfl (t_Ag_ok 8 (by decide)) rfl rfl ⟨_, rfl, (show ((-2147483648) : Int) ≤ (-1) by omega), (show (-1) ≤ (2147483647 : Int) by omega)⟩ (nF_of S k0 (by decide)) d_Ag_hearReply_17 (fun f103 H locs Y S w103 => ?_)
    refine lv_aload_n X.1 X.2.1 d_Ag_hearReply_20 rfl (lv_at hl 2 rfl) ?_
    refine lv_iconst (v := iI 0) X.1 X.2.1 d_Ag_hearReply_21 (by decide) ?_
    refine t_ui (t_runV (As := [.int (iI 0)]) (rest := []) (n := 1) X Y S k1 hml hl.1 (c_By_at l D E T κ L f103 H.size a1 n1 k1 (by omega) 0 (by omega) (by omega) S.1) (ok_k X Y hA KS KR) rfl kl_Ag_By_at ks_By_at kx_By_at ki_By_at ini_By ⟨rfl, rfl⟩ hd_By_at ⟨Nat.le_of_ble_eq_true rfl, Nat.le_of_ble_eq_true rfl⟩ rfl (Nat.le_of_ble_eq_true rfl) d_Ag_hearReply_22 ⟨Nat.le_of_ble_eq_true rfl, Nat.le_of_ble_eq_true rfl⟩) X Y hA (fun z104 H locs Y p104 => ?_)
    obtain ⟨l104, u104⟩ := p104
    refine lv_istore_n (lv' := [(3, .int (iI z104)), (2, .int (iI z101)), (0, .ref h), (1, .ref a1)]) X.1 X.2.1 d_Ag_hearReply_25 rfl hl (by decide) rfl (fun ls hl => ?_)
    refine lv_iload_n X.1 X.2.1 d_Ag_hearReply_26 rfl (lv_at hl 0 rfl) ?_
    refine lv_bipush (v := iI 107) X.1 X.2.1 d_Ag_hearReply_27 (by decide) ?_
    have J105 : ∀  (H : Heap) (locs : List Loc) (ls : Array Slot), pH D cCl (pA L sz) s.heap L f103 H locs → tS E T (tFr κ L [1, 2, 3, 4, 11, 12, 13, 16, 20] []) κ L f κ L f103 → lv_has ls 6 [(0, .ref h), (1, .ref a1), (2, .int (iI z101)), (3, .int (iI z104))] → W p l e (kRm 72 2392 3 4035) s m AV below meth c H locs 0 0 QQ (F0 m 44 ls []) := by
      intro  H locs ls  Y S hl
      refine lv_aload_n X.1 X.2.1 d_Ag_hearReply_44 rfl (lv_at hl 1 rfl) ?_
      refine lv_sipush (v := iI 256) X.1 X.2.1 d_Ag_hearReply_45 (by decide) ?_
      refine lv_iload_n X.1 X.2.1 d_Ag_hearReply_48 rfl (lv_at hl 3 rfl) ?_
      refine z_iadd X.1 X.2.1 d_Ag_hearReply_49 ?_
      refine lv_iconst (v := iI 0) X.1 X.2.1 d_Ag_hearReply_50 (by decide) ?_
      refine lv_aload_n X.1 X.2.1 d_Ag_hearReply_51 rfl (lv_at hl 1 rfl) ?_
      refine t_gets (ci := 3) X Y S k1 rfl i_By 1 (by decide) rfl lk_Ag_211 (fun _ h9 => h9) d_Ag_hearReply_52 (fun z109 e109 l109 u109 => ?_)
      refine t_ui (t_runV (As := [.int (iI (256 + z104)), .int (iI 0), .int (iI z109)]) (rest := []) (n := 3) X Y S k1 hml hl.1 (c_By_isA l D E T κ L f103 H.size a1 n1 k1 (by omega) (256 + z104) (by omega) (by omega) 0 (by omega) (by omega) z109 (by omega) (by omega) S.1) (ok_k X Y hA KS KR) rfl kl_Ag_By_isA ks_By_isA kx_By_isA ki_By_isA ini_By ⟨rfl, rfl⟩ hd_By_isA ⟨Nat.le_of_ble_eq_true rfl, Nat.le_of_ble_eq_true rfl⟩ rfl (Nat.le_of_ble_eq_true rfl) d_Ag_hearReply_55 ⟨Nat.le_of_ble_eq_true rfl, Nat.le_of_ble_eq_true rfl⟩) X Y hA (fun z110 H locs Y p110 => ?_)
      obtain ⟨l110, u110⟩ := p110
      refine z_if_ne (tgt := 64) X.1 X.2.1 d_Ag_hearReply_58 (by decide) ⟨by omega, by omega⟩ (fun h111 => ?_) (fun h111 => ?_)
      · refine lv_iload_n X.1 X.2.1 d_Ag_hearReply_64 rfl (lv_at hl 3 rfl) ?_
        refine lv_bipush (v := iI 126) X.1 X.2.1 d_Ag_hearReply_65 (by decide) ?_
        refine z_icmp_ne (tgt := 109) X.1 X.2.1 d_Ag_hearReply_67 (by decide) ⟨by omega, by omega⟩ ⟨by omega, by omega⟩ (fun h112 => ?_) (fun h112 => ?_)
        · refine lv_iload_n X.1 X.2.1 d_Ag_hearReply_109 rfl (lv_at hl 3 rfl) ?_
          refine lv_iload_n X.1 X.2.1 d_Ag_hearReply_110 rfl (lv_at hl 2 rfl) ?_
          refine lv_iconst (v := iI 2) X.1 X.2.1 d_Ag_hearReply_111 (by decide) ?_
          have J114 : ∀ (z113 : Int) (H : Heap) (locs : List Loc) (ls : Array Slot), (107 ≤ z113) → (z113 ≤ 109) → pH D cCl (pA L sz) s.heap L f103 H locs → tS E T (tFr κ L [1, 2, 3, 4, 11, 12, 13, 16, 20] []) κ L f κ L f103 → lv_has ls 6 [(0, .ref h), (1, .ref a1), (2, .int (iI z101))] → W p l e (kRm 72 2392 3 4035) s m AV below meth c H locs 0 0 QQ (F0 m 122 ls [.int (iI z113), .int (iI z104)]) := by
            intro z113 H locs ls l113 u113 Y S hl
            refine z_icmp_eq (tgt := 128) X.1 X.2.1 d_Ag_hearReply_122 (by decide) ⟨by omega, by omega⟩ ⟨by omega, by omega⟩ (fun h118 => ?_) (fun h118 => ?_)
            · refine lv_aload_n X.1 X.2.1 d_Ag_hearReply_128 rfl (lv_at hl 0 rfl) ?_
              refine lv_iload_n X.1 X.2.1 d_Ag_hearReply_129 rfl (lv_at hl 2 rfl) ?_
              refine lv_aload_n X.1 X.2.1 d_Ag_hearReply_130 rfl (lv_at hl 1 rfl) ?_
              refine t_ni (t_runV (As := [.int (iI z101), .ref a1]) (rest := []) (n := 2) X Y S k0 hml hl.1 (c_Ag_openReply l D E T κ L f103 H.size h k0 z101 (by omega) (by omega) a1 n1 k1 (by omega) S.1) (ok_k X Y hA KS KR) rfl kl_Ag_Ag_openReply ks_Ag_openReply kx_Ag_openReply ki_Ag_openReply ini_Ag ⟨rfl, rfl⟩ hd_Ag_openReply ⟨Nat.le_of_ble_eq_true rfl, Nat.le_of_ble_eq_true rfl⟩ rfl (Nat.le_of_ble_eq_true rfl) d_Ag_hearReply_131 ⟨Nat.le_of_ble_eq_true rfl, Nat.le_of_ble_eq_true rfl⟩) X Y hA S (by decide) (fun z119 f119 H locs Y S s119 p119 => ?_)
              obtain ⟨l119, u119⟩ := p119
              refine lv_istore (lv' := [(4, .int (iI z119)), (0, .ref h), (1, .ref a1), (2, .int (iI z101))]) X.1 X.2.1 d_Ag_hearReply_134 hl (by decide) rfl (fun ls hl => ?_)
              refine lv_iload X.1 X.2.1 d_Ag_hearReply_136 (lv_at hl 0 rfl) ?_
              refine z_if_ge (tgt := 146) X.1 X.2.1 d_Ag_hearReply_138 (by decide) ⟨by omega, by omega⟩ (fun h120 => ?_) (fun h120 => ?_)
              · refine lv_aload_n X.1 X.2.1 d_Ag_hearReply_146 rfl (lv_at hl 1 rfl) ?_
                refine lv_aload_n X.1 X.2.1 d_Ag_hearReply_147 rfl (lv_at hl 2 rfl) ?_
                refine t_ai (t_runV (As := [.ref a1]) (rest := []) (n := 1) X Y S k0 hml hl.1 (c_Ag_judgeReply l D E T κ L f119 H.size h k0 a1 n1 k1 (by omega) S.1) (ok_k X Y hA KS KR) rfl kl_Ag_Ag_judgeReply ks_Ag_judgeReply kx_Ag_judgeReply ki_Ag_judgeReply ini_Ag ⟨rfl, rfl⟩ hd_Ag_judgeReply ⟨Nat.le_of_ble_eq_true rfl, Nat.le_of_ble_eq_true rfl⟩ rfl (Nat.le_of_ble_eq_true rfl) d_Ag_hearReply_148 ⟨Nat.le_of_ble_eq_true rfl, Nat.le_of_ble_eq_true rfl⟩) X Y hA S (by decide) (fun z121 κ121 L121 f121 H locs Y S s121 p121 => ?_)
                obtain ⟨l121, u121⟩ := p121
                have k122 : κ121 h = (12, 0) := tLe_k s121.2.2.1 k0
                have k123 : κ121 a1 = (13, n1) := tLe_k s121.2.2.1 k1
                exact c_reti hQQ X Y hr hlk ⟨κ121, S, z121, rfl, ⟨by omega, by omega⟩⟩ d_Ag_hearReply_151
              · refine lv_iload X.1 X.2.1 d_Ag_hearReply_141 (lv_at hl 0 rfl) ?_
                refine lv_goto (tgt := 151) X.1 X.2.1 d_Ag_hearReply_143 (by decide) ?_
                refine W.widen (k := 3) (n := 4035) (Nat.le_of_ble_eq_true rfl) (Nat.le_of_ble_eq_true rfl) ?_
                exact c_reti hQQ X Y hr hlk ⟨κ, S, z119, rfl, ⟨by omega, by omega⟩⟩ d_Ag_hearReply_151
            · refine lv_bipush (v := iI (-40)) X.1 X.2.1 d_Ag_hearReply_125 (by decide) ?_
              refine W.widen (k := 3) (n := 4035) (Nat.le_of_ble_eq_true rfl) (Nat.le_of_ble_eq_true rfl) ?_
              exact c_reti hQQ X Y hr hlk ⟨κ, S, (-40), rfl, ⟨by omega, by omega⟩⟩ d_Ag_hearReply_127
          refine z_icmp_ne (tgt := 120) X.1 X.2.1 d_Ag_hearReply_112 (by decide) ⟨by omega, by omega⟩ ⟨by omega, by omega⟩ (fun h124 => ?_) (fun h124 => ?_)
          · refine lv_bipush (v := iI 107) X.1 X.2.1 d_Ag_hearReply_120 (by decide) ?_
            exact J114 107 _ _ _ (by omega) (by omega) Y S (lv_sub hl [0, 1, 2] rfl)
          · refine lv_bipush (v := iI 109) X.1 X.2.1 d_Ag_hearReply_115 (by decide) ?_
            refine lv_goto (tgt := 122) X.1 X.2.1 d_Ag_hearReply_117 (by decide) ?_
            exact J114 109 _ _ _ (by omega) (by omega) Y S (lv_sub hl [0, 1, 2] rfl)
        · refine lv_aload_n X.1 X.2.1 d_Ag_hearReply_70 rfl (lv_at hl 1 rfl) ?_
          refine lv_aload_n X.1 X.2.1 d_Ag_hearReply_71 rfl (lv_at hl 1 rfl) ?_
          refine lv_iconst (v := iI 0) X.1 X.2.1 d_Ag_hearReply_72 (by decide) ?_
          refine lv_bipush (v := iI 6) X.1 X.2.1 d_Ag_hearReply_73 (by decide) ?_
          refine t_ui (t_runV (As := [.int (iI 0), .int (iI 6)]) (rest := [.ref a1]) (n := 2) X Y S k1 hml hl.1 (c_By_field l D E T κ L f103 H.size a1 n1 k1 (by omega) 0 (by omega) (by omega) 6 (by omega) (by omega) S.1) (ok_k X Y hA KS KR) rfl kl_Ag_By_field ks_By_field kx_By_field ki_By_field ini_By ⟨rfl, rfl⟩ hd_By_field ⟨Nat.le_of_ble_eq_true rfl, Nat.le_of_ble_eq_true rfl⟩ rfl (Nat.le_of_ble_eq_true rfl) d_Ag_hearReply_75 ⟨Nat.le_of_ble_eq_true rfl, Nat.le_of_ble_eq_true rfl⟩) X Y hA (fun z125 H locs Y p125 => ?_)
          obtain ⟨l125, u125⟩ := p125
          refine t_ul (t_runV (As := [.int (iI z125)]) (rest := []) (n := 1) X Y S k1 hml hl.1 (c_By_numberAt l D E T κ L f103 H.size a1 n1 k1 (by omega) z125 (by omega) (by omega) S.1) (ok_k X Y hA KS KR) rfl kl_Ag_By_numberAt ks_By_numberAt kx_By_numberAt ki_By_numberAt ini_By ⟨rfl, rfl⟩ hd_By_numberAt ⟨Nat.le_of_ble_eq_true rfl, Nat.le_of_ble_eq_true rfl⟩ rfl (Nat.le_of_ble_eq_true rfl) d_Ag_hearReply_78 ⟨Nat.le_of_ble_eq_true rfl, Nat.le_of_ble_eq_true rfl⟩) X Y hA (fun v126 H locs Y p126 => ?_)
          refine lv_lstore (lv' := [(4, .long v126), (0, .ref h), (1, .ref a1), (2, .int (iI z101)), (3, .int (iI z104))]) X.1 X.2.1 d_Ag_hearReply_81 hl (by decide) rfl (fun ls hl => ?_)
          refine lv_lload X.1 X.2.1 d_Ag_hearReply_83 (lv_at hl 0 rfl) ?_
          refine lv_lconst (v := 1) X.1 X.2.1 d_Ag_hearReply_85 rfl ?_
          refine W.lcmp X.1 X.2.1 d_Ag_hearReply_86 ?_
          refine t_u (fun z127 l127 u127 => ?_)
          refine z_if_lt (tgt := 99) X.1 X.2.1 d_Ag_hearReply_87 (by decide) ⟨by omega, by omega⟩ (fun h128 => ?_) (fun h128 => ?_)
          · refine lv_bipush (v := iI (-60)) X.1 X.2.1 d_Ag_hearReply_99 (by decide) ?_
            refine lv_goto (tgt := 108) X.1 X.2.1 d_Ag_hearReply_101 (by decide) ?_
            refine W.widen (k := 3) (n := 4035) (Nat.le_of_ble_eq_true rfl) (Nat.le_of_ble_eq_true rfl) ?_
            exact c_reti hQQ X Y hr hlk ⟨κ, S, (-60), rfl, ⟨by omega, by omega⟩⟩ d_Ag_hearReply_108
          · refine lv_lload X.1 X.2.1 d_Ag_hearReply_90 (lv_at hl 0 rfl) ?_
            refine lv_ldc2 (v := (1000)) X.1 X.2.1 X.2.2.2.1 (X.2.2.1 _ cl_Ag_253) d_Ag_hearReply_92 ?_
            refine W.lcmp X.1 X.2.1 d_Ag_hearReply_95 ?_
            refine t_u (fun z129 l129 u129 => ?_)
            refine z_if_le (tgt := 104) X.1 X.2.1 d_Ag_hearReply_96 (by decide) ⟨by omega, by omega⟩ (fun h130 => ?_) (fun h130 => ?_)
            · refine lv_lload X.1 X.2.1 d_Ag_hearReply_104 (lv_at hl 0 rfl) ?_
              refine lv_lneg X.1 X.2.1 d_Ag_hearReply_106 ?_
              refine t_anyl (fun v131 => ?_)
              refine lv_l2i X.1 X.2.1 d_Ag_hearReply_107 rfl ?_
              refine t_u (fun z132 l132 u132 => ?_)
              refine W.widen (k := 3) (n := 4035) (Nat.le_of_ble_eq_true rfl) (Nat.le_of_ble_eq_true rfl) ?_
              exact c_reti hQQ X Y hr hlk ⟨κ, S, z132, rfl, ⟨by omega, by omega⟩⟩ d_Ag_hearReply_108
            · refine lv_bipush (v := iI (-60)) X.1 X.2.1 d_Ag_hearReply_99 (by decide) ?_
              refine lv_goto (tgt := 108) X.1 X.2.1 d_Ag_hearReply_101 (by decide) ?_
              refine W.widen (k := 3) (n := 4035) (Nat.le_of_ble_eq_true rfl) (Nat.le_of_ble_eq_true rfl) ?_
              exact c_reti hQQ X Y hr hlk ⟨κ, S, (-60), rfl, ⟨by omega, by omega⟩⟩ d_Ag_hearReply_108
      · refine lv_bipush (v := iI (-60)) X.1 X.2.1 d_Ag_hearReply_61 (by decide) ?_
        refine W.widen (k := 3) (n := 4035) (Nat.le_of_ble_eq_true rfl) (Nat.le_of_ble_eq_true rfl) ?_
        exact c_reti hQQ X Y hr hlk ⟨κ, S, (-60), rfl, ⟨by omega, by omega⟩⟩ d_Ag_hearReply_63
    refine z_icmp_eq (tgt := 44) X.1 X.2.1 d_Ag_hearReply_29 (by decide) ⟨by omega, by omega⟩ ⟨by omega, by omega⟩ (fun h133 => ?_) (fun h133 => ?_)
    · exact J105  _ _ _  Y S (lv_sub hl [2, 3, 1, 0] rfl)
    · refine lv_iload_n X.1 X.2.1 d_Ag_hearReply_32 rfl (lv_at hl 0 rfl) ?_
      refine lv_bipush (v := iI 109) X.1 X.2.1 d_Ag_hearReply_33 (by decide) ?_
      refine z_icmp_eq (tgt := 44) X.1 X.2.1 d_Ag_hearReply_35 (by decide) ⟨by omega, by omega⟩ ⟨by omega, by omega⟩ (fun h134 => ?_) (fun h134 => ?_)
      · exact J105  _ _ _  Y S (lv_sub hl [2, 3, 1, 0] rfl)
      · refine lv_iload_n X.1 X.2.1 d_Ag_hearReply_38 rfl (lv_at hl 0 rfl) ?_
        refine lv_bipush (v := iI 126) X.1 X.2.1 d_Ag_hearReply_39 (by decide) ?_
        refine z_icmp_ne (tgt := 61) X.1 X.2.1 d_Ag_hearReply_41 (by decide) ⟨by omega, by omega⟩ ⟨by omega, by omega⟩ (fun h135 => ?_) (fun h135 => ?_)
        · refine lv_bipush (v := iI (-60)) X.1 X.2.1 d_Ag_hearReply_61 (by decide) ?_
          refine W.widen (k := 3) (n := 4035) (Nat.le_of_ble_eq_true rfl) (Nat.le_of_ble_eq_true rfl) ?_
          exact c_reti hQQ X Y hr hlk ⟨κ, S, (-60), rfl, ⟨by omega, by omega⟩⟩ d_Ag_hearReply_63
        · exact J105  _ _ _  Y S (lv_sub hl [2, 3, 1, 0] rfl)
  · refine lv_bipush (v := iI (-3)) X.1 X.2.1 d_Ag_hearReply_7 (by decide) ?_
    refine W.widen (k := 3) (n := 4035) (Nat.le_of_ble_eq_true rfl) (Nat.le_of_ble_eq_true rfl) ?_
    exact c_reti hQQ X Y hr hlk ⟨κ, S, (-3), rfl, ⟨by omega, by omega⟩⟩ d_Ag_hearReply_9
set_option maxHeartbeats 4000000 in
set_option maxRecDepth 100000 in
theorem c_Ag_hearService (l : Launch) (D : va_G) (E : cE) (T : cT) (κ : tK) (L : List Nat) (f : pF) (sz : Nat) (h : Nat) (k0 : κ h = (12, 0)) (a1 n1 : Nat) (k1 : κ a1 = (13, n1)) (x1 : n1 ≤ 12288) (hw : tW E T κ L f) : Met l y_Ag_hearService (k_Ag_hearService :: lw_tg) (kRm 71 2363 0 0) (va_Pc [.ref h, .ref a1] (kPre D E T L f sz)) (va_Qi (nPi E T [1, 2, 3, 4, 11, 12, 13, 16] κ L f (fun (z : Int) (g : pF) => (-2147483648) ≤ z ∧ z ≤ 2147483647)) (cPost D E (pA L sz)) (pA L sz)) 0 0 (pA L sz) := by
  refine k_enter (own := R_Ag) (by decide) rfl (Nat.le_of_ble_eq_true rfl) (fun p e s m below meth c ls AV QQ H locs hQQ X Y hA hin hr hlk hml hl KS KR => ?_)
  have hl : lv_has ls 3 [(0, .ref h), (1, .ref a1)] := hl
  have S : tS E T (tFr κ L [1, 2, 3, 4, 11, 12, 13, 16] []) κ L f κ L f := tS_rf hw
  refine lv_aload_n X.1 X.2.1 d_Ag_hearService_0 rfl (lv_at hl 0 rfl) ?_
  refine t_geti (ci := 2) X Y S k0 rfl i_Ag 20 (by decide) rfl lk_Ag_87 (fun _ h9 => h9) d_Ag_hearService_1 (fun z101 e101 l101 u101 => ?_)
  refine z_if_ne (tgt := 10) X.1 X.2.1 d_Ag_hearService_4 (by decide) ⟨by omega, by omega⟩ (fun h102 => ?_) (fun h102 => ?_)
  · refine lv_aload_n X.1 X.2.1 d_Ag_hearService_10 rfl (lv_at hl 0 rfl) ?_
    refine lv_iconst (v := iI 0) X.1 X.2.1 d_Ag_hearService_11 (by decide) ?_
    refine t_put (ci := 2) X Y S k0 rfl i_Ag t_Ag t_Ag_ok n_Ag 20 (by decide) rfl lk_Ag_87 (fun _ h9 => h9) rfl (t_Ag_ok 20 (by decide)) (iI_bool (by omega) (by omega)).1 (iI_bool (by omega) (by omega)).2 ⟨_, rfl, (show (0 : Int) ≤ 0 by omega), (show 0 ≤ (1 : Int) by omega)⟩ (nF_of S k0 (by decide)) d_Ag_hearService_12 (fun f103 H locs Y S w103 => ?_)
    refine lv_aload_n X.1 X.2.1 d_Ag_hearService_15 rfl (lv_at hl 1 rfl) ?_
    refine lv_sipush (v := iI 367) X.1 X.2.1 d_Ag_hearService_16 (by decide) ?_
    refine lv_iconst (v := iI 0) X.1 X.2.1 d_Ag_hearService_19 (by decide) ?_
    refine lv_aload_n X.1 X.2.1 d_Ag_hearService_20 rfl (lv_at hl 1 rfl) ?_
    refine t_gets (ci := 3) X Y S k1 rfl i_By 1 (by decide) rfl lk_Ag_211 (fun _ h9 => h9) d_Ag_hearService_21 (fun z104 e104 l104 u104 => ?_)
    refine t_ui (t_runV (As := [.int (iI 367), .int (iI 0), .int (iI z104)]) (rest := []) (n := 3) X Y S k1 hml hl.1 (c_By_isA l D E T κ L f103 H.size a1 n1 k1 (by omega) 367 (by omega) (by omega) 0 (by omega) (by omega) z104 (by omega) (by omega) S.1) (ok_k X Y hA KS KR) rfl kl_Ag_By_isA ks_By_isA kx_By_isA ki_By_isA ini_By ⟨rfl, rfl⟩ hd_By_isA ⟨Nat.le_of_ble_eq_true rfl, Nat.le_of_ble_eq_true rfl⟩ rfl (Nat.le_of_ble_eq_true rfl) d_Ag_hearService_24 ⟨Nat.le_of_ble_eq_true rfl, Nat.le_of_ble_eq_true rfl⟩) X Y hA (fun z105 H locs Y p105 => ?_)
    obtain ⟨l105, u105⟩ := p105
    refine z_if_ne (tgt := 33) X.1 X.2.1 d_Ag_hearService_27 (by decide) ⟨by omega, by omega⟩ (fun h106 => ?_) (fun h106 => ?_)
    · refine lv_aload_n X.1 X.2.1 d_Ag_hearService_33 rfl (lv_at hl 1 rfl) ?_
      refine lv_aload_n X.1 X.2.1 d_Ag_hearService_34 rfl (lv_at hl 1 rfl) ?_
      refine lv_iconst (v := iI 0) X.1 X.2.1 d_Ag_hearService_35 (by decide) ?_
      refine lv_iconst (v := iI 0) X.1 X.2.1 d_Ag_hearService_36 (by decide) ?_
      refine t_ui (t_runV (As := [.int (iI 0), .int (iI 0)]) (rest := [.ref a1]) (n := 2) X Y S k1 hml hl.1 (c_By_field l D E T κ L f103 H.size a1 n1 k1 (by omega) 0 (by omega) (by omega) 0 (by omega) (by omega) S.1) (ok_k X Y hA KS KR) rfl kl_Ag_By_field ks_By_field kx_By_field ki_By_field ini_By ⟨rfl, rfl⟩ hd_By_field ⟨Nat.le_of_ble_eq_true rfl, Nat.le_of_ble_eq_true rfl⟩ rfl (Nat.le_of_ble_eq_true rfl) d_Ag_hearService_37 ⟨Nat.le_of_ble_eq_true rfl, Nat.le_of_ble_eq_true rfl⟩) X Y hA (fun z107 H locs Y p107 => ?_)
      obtain ⟨l107, u107⟩ := p107
      refine t_ul (t_runV (As := [.int (iI z107)]) (rest := []) (n := 1) X Y S k1 hml hl.1 (c_By_numberAt l D E T κ L f103 H.size a1 n1 k1 (by omega) z107 (by omega) (by omega) S.1) (ok_k X Y hA KS KR) rfl kl_Ag_By_numberAt ks_By_numberAt kx_By_numberAt ki_By_numberAt ini_By ⟨rfl, rfl⟩ hd_By_numberAt ⟨Nat.le_of_ble_eq_true rfl, Nat.le_of_ble_eq_true rfl⟩ rfl (Nat.le_of_ble_eq_true rfl) d_Ag_hearService_40 ⟨Nat.le_of_ble_eq_true rfl, Nat.le_of_ble_eq_true rfl⟩) X Y hA (fun v108 H locs Y p108 => ?_)
      refine lv_ldc2 (v := (5)) X.1 X.2.1 X.2.2.2.1 (X.2.2.1 _ cl_Ag_179) d_Ag_hearService_43 ?_
      refine W.lcmp X.1 X.2.1 d_Ag_hearService_46 ?_
      refine t_u (fun z109 l109 u109 => ?_)
      refine z_if_eq (tgt := 53) X.1 X.2.1 d_Ag_hearService_47 (by decide) ⟨by omega, by omega⟩ (fun h110 => ?_) (fun h110 => ?_)
      · refine lv_aload_n X.1 X.2.1 d_Ag_hearService_53 rfl (lv_at hl 1 rfl) ?_
        refine lv_aload_n X.1 X.2.1 d_Ag_hearService_54 rfl (lv_at hl 1 rfl) ?_
        refine lv_iconst (v := iI 0) X.1 X.2.1 d_Ag_hearService_55 (by decide) ?_
        refine lv_iconst (v := iI 1) X.1 X.2.1 d_Ag_hearService_56 (by decide) ?_
        refine t_ui (t_runV (As := [.int (iI 0), .int (iI 1)]) (rest := [.ref a1]) (n := 2) X Y S k1 hml hl.1 (c_By_field l D E T κ L f103 H.size a1 n1 k1 (by omega) 0 (by omega) (by omega) 1 (by omega) (by omega) S.1) (ok_k X Y hA KS KR) rfl kl_Ag_By_field ks_By_field kx_By_field ki_By_field ini_By ⟨rfl, rfl⟩ hd_By_field ⟨Nat.le_of_ble_eq_true rfl, Nat.le_of_ble_eq_true rfl⟩ rfl (Nat.le_of_ble_eq_true rfl) d_Ag_hearService_57 ⟨Nat.le_of_ble_eq_true rfl, Nat.le_of_ble_eq_true rfl⟩) X Y hA (fun z111 H locs Y p111 => ?_)
        obtain ⟨l111, u111⟩ := p111
        refine t_ul (t_runV (As := [.int (iI z111)]) (rest := []) (n := 1) X Y S k1 hml hl.1 (c_By_numberAt l D E T κ L f103 H.size a1 n1 k1 (by omega) z111 (by omega) (by omega) S.1) (ok_k X Y hA KS KR) rfl kl_Ag_By_numberAt ks_By_numberAt kx_By_numberAt ki_By_numberAt ini_By ⟨rfl, rfl⟩ hd_By_numberAt ⟨Nat.le_of_ble_eq_true rfl, Nat.le_of_ble_eq_true rfl⟩ rfl (Nat.le_of_ble_eq_true rfl) d_Ag_hearService_60 ⟨Nat.le_of_ble_eq_true rfl, Nat.le_of_ble_eq_true rfl⟩) X Y hA (fun v112 H locs Y p112 => ?_)
        refine lv_ldc2 (v := (15)) X.1 X.2.1 X.2.2.2.1 (X.2.2.1 _ cl_Ag_302) d_Ag_hearService_63 ?_
        refine W.lcmp X.1 X.2.1 d_Ag_hearService_66 ?_
        refine t_u (fun z113 l113 u113 => ?_)
        refine z_if_eq (tgt := 73) X.1 X.2.1 d_Ag_hearService_67 (by decide) ⟨by omega, by omega⟩ (fun h114 => ?_) (fun h114 => ?_)
        · refine lv_aload_n X.1 X.2.1 d_Ag_hearService_73 rfl (lv_at hl 0 rfl) ?_
          refine t_getr (ci := 2) X Y S k0 rfl i_Ag 0 (by decide) rfl (k1 := 21) (k2 := 0) rfl rfl lk_Ag_42 (fun _ h9 => h9) d_Ag_hearService_74 (fun b115 e115 k115 => ?_)
          refine t_getr (ci := 11) X Y S k115 rfl i_Va 1 (by decide) rfl (k1 := 13) (k2 := 6144) rfl rfl lk_Ag_196 (fun _ h9 => h9) d_Ag_hearService_77 (fun b116 e116 k116 => ?_)
          refine lv_astore_n (lv' := [(2, .ref b116), (0, .ref h), (1, .ref a1)]) X.1 X.2.1 d_Ag_hearService_80 rfl hl (by decide) rfl (fun ls hl => ?_)
          refine lv_aload_n X.1 X.2.1 d_Ag_hearService_81 rfl (lv_at hl 1 rfl) ?_
          refine t_get0 (ci := 2) X Y S k0 rfl i_Ag 0 (by decide) rfl lk_Ag_42 (fun _ h9 => h9) d_Ag_hearService_82 e115 ?_
          refine lv_aload_n X.1 X.2.1 d_Ag_hearService_85 rfl (lv_at hl 2 rfl) ?_
          refine lv_aload_n X.1 X.2.1 d_Ag_hearService_86 rfl (lv_at hl 2 rfl) ?_
          refine lv_iconst (v := iI 0) X.1 X.2.1 d_Ag_hearService_87 (by decide) ?_
          refine lv_iconst (v := iI 2) X.1 X.2.1 d_Ag_hearService_88 (by decide) ?_
          refine t_ui (t_runV (As := [.int (iI 0), .int (iI 2)]) (rest := [.ref a1, .ref b115]) (n := 2) X Y S k1 hml hl.1 (c_By_field l D E T κ L f103 H.size a1 n1 k1 (by omega) 0 (by omega) (by omega) 2 (by omega) (by omega) S.1) (ok_k X Y hA KS KR) rfl kl_Ag_By_field ks_By_field kx_By_field ki_By_field ini_By ⟨rfl, rfl⟩ hd_By_field ⟨Nat.le_of_ble_eq_true rfl, Nat.le_of_ble_eq_true rfl⟩ rfl (Nat.le_of_ble_eq_true rfl) d_Ag_hearService_89 ⟨Nat.le_of_ble_eq_true rfl, Nat.le_of_ble_eq_true rfl⟩) X Y hA (fun z117 H locs Y p117 => ?_)
          obtain ⟨l117, u117⟩ := p117
          refine lv_aload_n X.1 X.2.1 d_Ag_hearService_92 rfl (lv_at hl 1 rfl) ?_
          refine t_getk (ci := 2) X Y S k0 rfl i_Ag 18 (by decide) rfl lk_Ag_39 (fun _ h9 => h9) d_Ag_hearService_93 (fun b118 n118 e118 k118 x118 => ?_)
          refine lv_bipush (v := iI 12) X.1 X.2.1 d_Ag_hearService_96 (by decide) ?_
          refine lv_aload_n X.1 X.2.1 d_Ag_hearService_98 rfl (lv_at hl 0 rfl) ?_
          refine t_ni (t_runV (As := [.ref a1, .int (iI z117), .ref b118, .int (iI 12), .ref b116]) (rest := []) (n := 5) X Y S k115 hml hl.1 (c_Va_opens l D E T κ L f103 H.size b115 k115 a1 n1 k1 (by omega) z117 (by omega) (by omega) b118 n118 k118 (by omega) 12 (by omega) (by omega) b116 6144 k116 (by omega) S.1) (ok_k X Y hA KS KR) rfl kl_Ag_Va_opens ks_Va_opens kx_Va_opens ki_Va_opens ini_Va ⟨rfl, rfl⟩ hd_Va_opens ⟨Nat.le_of_ble_eq_true rfl, Nat.le_of_ble_eq_true rfl⟩ rfl (Nat.le_of_ble_eq_true rfl) d_Ag_hearService_99 ⟨Nat.le_of_ble_eq_true rfl, Nat.le_of_ble_eq_true rfl⟩) X Y hA S (by decide) (fun z119 f119 H locs Y S s119 p119 => ?_)
          obtain ⟨l119, u119⟩ := p119
          refine z_if_ne (tgt := 108) X.1 X.2.1 d_Ag_hearService_102 (by decide) ⟨by omega, by omega⟩ (fun h120 => ?_) (fun h120 => ?_)
          · refine lv_aload_n X.1 X.2.1 d_Ag_hearService_108 rfl (lv_at hl 0 rfl) ?_
            refine lv_sipush (v := iI 379) X.1 X.2.1 d_Ag_hearService_109 (by decide) ?_
            refine lv_iconst (v := iI 0) X.1 X.2.1 d_Ag_hearService_112 (by decide) ?_
            refine lv_aload_n X.1 X.2.1 d_Ag_hearService_113 rfl (lv_at hl 0 rfl) ?_
            refine t_gets (ci := 3) X Y S k116 rfl i_By 1 (by decide) rfl lk_Ag_211 (fun _ h9 => h9) d_Ag_hearService_114 (fun z121 e121 l121 u121 => ?_)
            refine t_ui (t_runV (As := [.int (iI 379), .int (iI 0), .int (iI z121)]) (rest := []) (n := 3) X Y S k116 hml hl.1 (c_By_isA l D E T κ L f119 H.size b116 6144 k116 (by omega) 379 (by omega) (by omega) 0 (by omega) (by omega) z121 (by omega) (by omega) S.1) (ok_k X Y hA KS KR) rfl kl_Ag_By_isA ks_By_isA kx_By_isA ki_By_isA ini_By ⟨rfl, rfl⟩ hd_By_isA ⟨Nat.le_of_ble_eq_true rfl, Nat.le_of_ble_eq_true rfl⟩ rfl (Nat.le_of_ble_eq_true rfl) d_Ag_hearService_117 ⟨Nat.le_of_ble_eq_true rfl, Nat.le_of_ble_eq_true rfl⟩) X Y hA (fun z122 H locs Y p122 => ?_)
            obtain ⟨l122, u122⟩ := p122
            refine z_if_ne (tgt := 126) X.1 X.2.1 d_Ag_hearService_120 (by decide) ⟨by omega, by omega⟩ (fun h123 => ?_) (fun h123 => ?_)
            · refine lv_aload_n X.1 X.2.1 d_Ag_hearService_126 rfl (lv_at hl 0 rfl) ?_
              refine lv_aload_n X.1 X.2.1 d_Ag_hearService_127 rfl (lv_at hl 0 rfl) ?_
              refine lv_iconst (v := iI 0) X.1 X.2.1 d_Ag_hearService_128 (by decide) ?_
              refine lv_iconst (v := iI 0) X.1 X.2.1 d_Ag_hearService_129 (by decide) ?_
              refine t_ui (t_runV (As := [.int (iI 0), .int (iI 0)]) (rest := [.ref b116]) (n := 2) X Y S k116 hml hl.1 (c_By_field l D E T κ L f119 H.size b116 6144 k116 (by omega) 0 (by omega) (by omega) 0 (by omega) (by omega) S.1) (ok_k X Y hA KS KR) rfl kl_Ag_By_field ks_By_field kx_By_field ki_By_field ini_By ⟨rfl, rfl⟩ hd_By_field ⟨Nat.le_of_ble_eq_true rfl, Nat.le_of_ble_eq_true rfl⟩ rfl (Nat.le_of_ble_eq_true rfl) d_Ag_hearService_130 ⟨Nat.le_of_ble_eq_true rfl, Nat.le_of_ble_eq_true rfl⟩) X Y hA (fun z124 H locs Y p124 => ?_)
              obtain ⟨l124, u124⟩ := p124
              refine t_ui (t_runV (As := [.int (iI z124)]) (rest := []) (n := 1) X Y S k116 hml hl.1 (c_By_timeAt l D E T κ L f119 H.size b116 6144 k116 (by omega) z124 (by omega) (by omega) S.1) (ok_k X Y hA KS KR) rfl kl_Ag_By_timeAt ks_By_timeAt kx_By_timeAt ki_By_timeAt ini_By ⟨rfl, rfl⟩ hd_By_timeAt ⟨Nat.le_of_ble_eq_true rfl, Nat.le_of_ble_eq_true rfl⟩ rfl (Nat.le_of_ble_eq_true rfl) d_Ag_hearService_133 ⟨Nat.le_of_ble_eq_true rfl, Nat.le_of_ble_eq_true rfl⟩) X Y hA (fun z125 H locs Y p125 => ?_)
              obtain ⟨l125, u125⟩ := p125
              refine lv_aload_n X.1 X.2.1 d_Ag_hearService_136 rfl (lv_at hl 1 rfl) ?_
              refine t_geti (ci := 2) X Y S k0 rfl i_Ag 15 (by decide) rfl lk_Ag_231 (fun _ h9 => h9) d_Ag_hearService_137 (fun z126 e126 l126 u126 => ?_)
              refine z_icmp_ne (tgt := 162) X.1 X.2.1 d_Ag_hearService_140 (by decide) ⟨by omega, by omega⟩ ⟨by omega, by omega⟩ (fun h127 => ?_) (fun h127 => ?_)
              · refine lv_bipush (v := iI (-46)) X.1 X.2.1 d_Ag_hearService_162 (by decide) ?_
                exact c_reti hQQ X Y hr hlk ⟨rfl, S, (-46), rfl, ⟨by omega, by omega⟩⟩ d_Ag_hearService_164
              · refine lv_aload_n X.1 X.2.1 d_Ag_hearService_143 rfl (lv_at hl 0 rfl) ?_
                refine lv_aload_n X.1 X.2.1 d_Ag_hearService_144 rfl (lv_at hl 0 rfl) ?_
                refine lv_iconst (v := iI 0) X.1 X.2.1 d_Ag_hearService_145 (by decide) ?_
                refine lv_iconst (v := iI 1) X.1 X.2.1 d_Ag_hearService_146 (by decide) ?_
                refine t_ui (t_runV (As := [.int (iI 0), .int (iI 1)]) (rest := [.ref b116]) (n := 2) X Y S k116 hml hl.1 (c_By_field l D E T κ L f119 H.size b116 6144 k116 (by omega) 0 (by omega) (by omega) 1 (by omega) (by omega) S.1) (ok_k X Y hA KS KR) rfl kl_Ag_By_field ks_By_field kx_By_field ki_By_field ini_By ⟨rfl, rfl⟩ hd_By_field ⟨Nat.le_of_ble_eq_true rfl, Nat.le_of_ble_eq_true rfl⟩ rfl (Nat.le_of_ble_eq_true rfl) d_Ag_hearService_147 ⟨Nat.le_of_ble_eq_true rfl, Nat.le_of_ble_eq_true rfl⟩) X Y hA (fun z128 H locs Y p128 => ?_)
                obtain ⟨l128, u128⟩ := p128
                refine t_ul (t_runV (As := [.int (iI z128)]) (rest := []) (n := 1) X Y S k116 hml hl.1 (c_By_numberAt l D E T κ L f119 H.size b116 6144 k116 (by omega) z128 (by omega) (by omega) S.1) (ok_k X Y hA KS KR) rfl kl_Ag_By_numberAt ks_By_numberAt kx_By_numberAt ki_By_numberAt ini_By ⟨rfl, rfl⟩ hd_By_numberAt ⟨Nat.le_of_ble_eq_true rfl, Nat.le_of_ble_eq_true rfl⟩ rfl (Nat.le_of_ble_eq_true rfl) d_Ag_hearService_150 ⟨Nat.le_of_ble_eq_true rfl, Nat.le_of_ble_eq_true rfl⟩) X Y hA (fun v129 H locs Y p129 => ?_)
                refine lv_aload_n X.1 X.2.1 d_Ag_hearService_153 rfl (lv_at hl 1 rfl) ?_
                refine t_geti (ci := 2) X Y S k0 rfl i_Ag 16 (by decide) rfl lk_Ag_234 (fun _ h9 => h9) d_Ag_hearService_154 (fun z130 e130 l130 u130 => ?_)
                refine lv_i2l X.1 X.2.1 d_Ag_hearService_157 rfl ?_
                refine t_anyl (fun v131 => ?_)
                refine W.lcmp X.1 X.2.1 d_Ag_hearService_158 ?_
                refine t_u (fun z132 l132 u132 => ?_)
                refine z_if_eq (tgt := 165) X.1 X.2.1 d_Ag_hearService_159 (by decide) ⟨by omega, by omega⟩ (fun h133 => ?_) (fun h133 => ?_)
                · refine lv_aload_n X.1 X.2.1 d_Ag_hearService_165 rfl (lv_at hl 1 rfl) ?_
                  refine lv_aload_n X.1 X.2.1 d_Ag_hearService_166 rfl (lv_at hl 0 rfl) ?_
                  refine lv_aload_n X.1 X.2.1 d_Ag_hearService_167 rfl (lv_at hl 0 rfl) ?_
                  refine lv_iconst (v := iI 0) X.1 X.2.1 d_Ag_hearService_168 (by decide) ?_
                  refine lv_iconst (v := iI 3) X.1 X.2.1 d_Ag_hearService_169 (by decide) ?_
                  refine t_ui (t_runV (As := [.int (iI 0), .int (iI 3)]) (rest := [.ref b116, .ref h]) (n := 2) X Y S k116 hml hl.1 (c_By_field l D E T κ L f119 H.size b116 6144 k116 (by omega) 0 (by omega) (by omega) 3 (by omega) (by omega) S.1) (ok_k X Y hA KS KR) rfl kl_Ag_By_field ks_By_field kx_By_field ki_By_field ini_By ⟨rfl, rfl⟩ hd_By_field ⟨Nat.le_of_ble_eq_true rfl, Nat.le_of_ble_eq_true rfl⟩ rfl (Nat.le_of_ble_eq_true rfl) d_Ag_hearService_170 ⟨Nat.le_of_ble_eq_true rfl, Nat.le_of_ble_eq_true rfl⟩) X Y hA (fun z134 H locs Y p134 => ?_)
                  obtain ⟨l134, u134⟩ := p134
                  refine t_ul (t_runV (As := [.int (iI z134)]) (rest := [.ref h]) (n := 1) X Y S k116 hml hl.1 (c_By_numberAt l D E T κ L f119 H.size b116 6144 k116 (by omega) z134 (by omega) (by omega) S.1) (ok_k X Y hA KS KR) rfl kl_Ag_By_numberAt ks_By_numberAt kx_By_numberAt ki_By_numberAt ini_By ⟨rfl, rfl⟩ hd_By_numberAt ⟨Nat.le_of_ble_eq_true rfl, Nat.le_of_ble_eq_true rfl⟩ rfl (Nat.le_of_ble_eq_true rfl) d_Ag_hearService_173 ⟨Nat.le_of_ble_eq_true rfl, Nat.le_of_ble_eq_true rfl⟩) X Y hA (fun v135 H locs Y p135 => ?_)
                  refine t_put (ci := 2) X Y S k0 rfl i_Ag t_Ag t_Ag_ok n_Ag 19 (by decide) rfl lk_Ag_84 (fun _ h9 => h9) rfl (t_Ag_ok 19 (by decide)) rfl rfl ⟨_, rfl⟩ (nF_of S k0 (by decide)) d_Ag_hearService_176 (fun f136 H locs Y S w136 => ?_)
                  refine lv_iconst (v := iI 0) X.1 X.2.1 d_Ag_hearService_179 (by decide) ?_
                  exact c_reti hQQ X Y hr hlk ⟨rfl, S, 0, rfl, ⟨by omega, by omega⟩⟩ d_Ag_hearService_180
                · refine lv_bipush (v := iI (-46)) X.1 X.2.1 d_Ag_hearService_162 (by decide) ?_
                  exact c_reti hQQ X Y hr hlk ⟨rfl, S, (-46), rfl, ⟨by omega, by omega⟩⟩ d_Ag_hearService_164
            · refine lv_bipush (v := iI (-60)) X.1 X.2.1 d_Ag_hearService_123 (by decide) ?_
              exact c_reti hQQ X Y hr hlk ⟨rfl, S, (-60), rfl, ⟨by omega, by omega⟩⟩ d_Ag_hearService_125
          · refine lv_bipush (v := iI (-31)) X.1 X.2.1 d_Ag_hearService_105 (by decide) ?_
            exact c_reti hQQ X Y hr hlk ⟨rfl, S, (-31), rfl, ⟨by omega, by omega⟩⟩ d_Ag_hearService_107
        · refine lv_bipush (v := iI (-40)) X.1 X.2.1 d_Ag_hearService_70 (by decide) ?_
          exact c_reti hQQ X Y hr hlk ⟨rfl, S, (-40), rfl, ⟨by omega, by omega⟩⟩ d_Ag_hearService_72
      · refine lv_bipush (v := iI (-3)) X.1 X.2.1 d_Ag_hearService_50 (by decide) ?_
        exact c_reti hQQ X Y hr hlk ⟨rfl, S, (-3), rfl, ⟨by omega, by omega⟩⟩ d_Ag_hearService_52
    · refine lv_bipush (v := iI (-60)) X.1 X.2.1 d_Ag_hearService_30 (by decide) ?_
      exact c_reti hQQ X Y hr hlk ⟨rfl, S, (-60), rfl, ⟨by omega, by omega⟩⟩ d_Ag_hearService_32
  · refine lv_bipush (v := iI (-3)) X.1 X.2.1 d_Ag_hearService_7 (by decide) ?_
    exact c_reti hQQ X Y hr hlk ⟨rfl, S, (-3), rfl, ⟨by omega, by omega⟩⟩ d_Ag_hearService_9
set_option maxHeartbeats 4000000 in
set_option maxRecDepth 100000 in
theorem c_Ag_keepHanded (l : Launch) (D : va_G) (E : cE) (T : cT) (κ : tK) (L : List Nat) (f : pF) (sz : Nat) (h : Nat) (k0 : κ h = (12, 0)) (a1 n1 : Nat) (k1 : κ a1 = (13, n1)) (x1 : n1 ≤ 4000) (hw : tW E T κ L f) : Met l y_Ag_keepHanded (k_Ag_keepHanded :: lw_tg) (kRm 5 154 3 4035) (va_Pc [.ref h, .ref a1] (kPre D E T L f sz)) (va_Qi (aPi E T [1, 13, 20] [] κ L f (fun (z : Int) (k : tK) (g : pF) => (-2147483648) ≤ z ∧ z ≤ 2147483647)) (cPost D E (pA L sz)) (pA L sz)) 3 4035 (pA L sz) := by
  refine k_enter (own := R_Ag) (by decide) rfl (Nat.le_of_ble_eq_true rfl) (fun p e s m below meth c ls AV QQ H locs hQQ X Y hA hin hr hlk hml hl KS KR => ?_)
  have hl : lv_has ls 6 [(0, .ref h), (1, .ref a1)] := hl
  have S : tS E T (tFr κ L [1, 13, 20] []) κ L f κ L f := tS_rf hw
  have hF0 : ∀ b, tFr κ L [1, 13, 20] [] b → b ∈ L := fun b h9 => h9.1
  refine lv_aload_n X.1 X.2.1 d_Ag_keepHanded_0 rfl (lv_at hl 0 rfl) ?_
  refine t_getr (ci := 2) X Y S k0 rfl i_Ag 0 (by decide) rfl (k1 := 21) (k2 := 0) rfl rfl lk_Ag_42 (fun _ h9 => h9) d_Ag_keepHanded_1 (fun b101 e101 k101 => ?_)
  refine t_getr (ci := 11) X Y S k101 rfl i_Va 1 (by decide) rfl (k1 := 13) (k2 := 6144) rfl rfl lk_Ag_196 (fun _ h9 => h9) d_Ag_keepHanded_4 (fun b102 e102 k102 => ?_)
  refine lv_astore_n (lv' := [(2, .ref b102), (0, .ref h), (1, .ref a1)]) X.1 X.2.1 d_Ag_keepHanded_7 rfl hl (by decide) rfl (fun ls hl => ?_)
  refine lv_aload_n X.1 X.2.1 d_Ag_keepHanded_8 rfl (lv_at hl 0 rfl) ?_
  refine lv_aload_n X.1 X.2.1 d_Ag_keepHanded_9 rfl (lv_at hl 0 rfl) ?_
  refine lv_iconst (v := iI 0) X.1 X.2.1 d_Ag_keepHanded_10 (by decide) ?_
  refine lv_iconst (v := iI 0) X.1 X.2.1 d_Ag_keepHanded_11 (by decide) ?_
  refine t_ui (t_runV (As := [.int (iI 0), .int (iI 0)]) (rest := [.ref b102]) (n := 2) X Y S k102 hml hl.1 (c_By_field l D E T κ L f H.size b102 6144 k102 (by omega) 0 (by omega) (by omega) 0 (by omega) (by omega) S.1) (ok_k X Y hA KS KR) rfl kl_Ag_By_field ks_By_field kx_By_field ki_By_field ini_By ⟨rfl, rfl⟩ hd_By_field ⟨Nat.le_of_ble_eq_true rfl, Nat.le_of_ble_eq_true rfl⟩ rfl (Nat.le_of_ble_eq_true rfl) d_Ag_keepHanded_12 ⟨Nat.le_of_ble_eq_true rfl, Nat.le_of_ble_eq_true rfl⟩) X Y hA (fun z103 H locs Y p103 => ?_)
  obtain ⟨l103, u103⟩ := p103
  refine lv_iconst (v := iI 0) X.1 X.2.1 d_Ag_keepHanded_15 (by decide) ?_
  refine t_ui (t_runV (As := [.int (iI z103), .int (iI 0)]) (rest := []) (n := 2) X Y S k102 hml hl.1 (c_By_element l D E T κ L f H.size b102 6144 k102 (by omega) z103 (by omega) (by omega) 0 (by omega) (by omega) S.1) (ok_k X Y hA KS KR) rfl kl_Ag_By_element ks_By_element kx_By_element ki_By_element ini_By ⟨rfl, rfl⟩ hd_By_element ⟨Nat.le_of_ble_eq_true rfl, Nat.le_of_ble_eq_true rfl⟩ rfl (Nat.le_of_ble_eq_true rfl) d_Ag_keepHanded_16 ⟨Nat.le_of_ble_eq_true rfl, Nat.le_of_ble_eq_true rfl⟩) X Y hA (fun z104 H locs Y p104 => ?_)
  obtain ⟨l104, u104⟩ := p104
  refine lv_istore_n (lv' := [(3, .int (iI z104)), (2, .ref b102), (0, .ref h), (1, .ref a1)]) X.1 X.2.1 d_Ag_keepHanded_19 rfl hl (by decide) rfl (fun ls hl => ?_)
  refine lv_aload_n X.1 X.2.1 d_Ag_keepHanded_20 rfl (lv_at hl 1 rfl) ?_
  refine lv_aload_n X.1 X.2.1 d_Ag_keepHanded_21 rfl (lv_at hl 1 rfl) ?_
  refine lv_iload_n X.1 X.2.1 d_Ag_keepHanded_22 rfl (lv_at hl 0 rfl) ?_
  refine lv_iconst (v := iI 2) X.1 X.2.1 d_Ag_keepHanded_23 (by decide) ?_
  refine t_ui (t_runV (As := [.int (iI z104), .int (iI 2)]) (rest := [.ref b102]) (n := 2) X Y S k102 hml hl.1 (c_By_field l D E T κ L f H.size b102 6144 k102 (by omega) z104 (by omega) (by omega) 2 (by omega) (by omega) S.1) (ok_k X Y hA KS KR) rfl kl_Ag_By_field ks_By_field kx_By_field ki_By_field ini_By ⟨rfl, rfl⟩ hd_By_field ⟨Nat.le_of_ble_eq_true rfl, Nat.le_of_ble_eq_true rfl⟩ rfl (Nat.le_of_ble_eq_true rfl) d_Ag_keepHanded_24 ⟨Nat.le_of_ble_eq_true rfl, Nat.le_of_ble_eq_true rfl⟩) X Y hA (fun z105 H locs Y p105 => ?_)
  obtain ⟨l105, u105⟩ := p105
  refine t_ui (t_runV (As := [.int (iI z105)]) (rest := []) (n := 1) X Y S k102 hml hl.1 (c_By_partsSize l D E T κ L f H.size b102 6144 k102 (by omega) z105 (by omega) (by omega) S.1) (ok_k X Y hA KS KR) rfl kl_Ag_By_partsSize ks_By_partsSize kx_By_partsSize ki_By_partsSize ini_By ⟨rfl, rfl⟩ hd_By_partsSize ⟨Nat.le_of_ble_eq_true rfl, Nat.le_of_ble_eq_true rfl⟩ rfl (Nat.le_of_ble_eq_true rfl) d_Ag_keepHanded_27 ⟨Nat.le_of_ble_eq_true rfl, Nat.le_of_ble_eq_true rfl⟩) X Y hA (fun z106 H locs Y p106 => ?_)
  obtain ⟨l106, u106⟩ := p106
  refine lv_bipush (v := iI 40) X.1 X.2.1 d_Ag_keepHanded_30 (by decide) ?_
  refine z_icmp_le (tgt := 38) X.1 X.2.1 d_Ag_keepHanded_32 (by decide) ⟨by omega, by omega⟩ ⟨by omega, by omega⟩ (fun h107 => ?_) (fun h107 => ?_)
  · refine lv_aload_n X.1 X.2.1 d_Ag_keepHanded_38 rfl (lv_at hl 1 rfl) ?_
    refine lv_aload_n X.1 X.2.1 d_Ag_keepHanded_39 rfl (lv_at hl 1 rfl) ?_
    refine lv_iload_n X.1 X.2.1 d_Ag_keepHanded_40 rfl (lv_at hl 0 rfl) ?_
    refine lv_iconst (v := iI 0) X.1 X.2.1 d_Ag_keepHanded_41 (by decide) ?_
    refine t_ui (t_runV (As := [.int (iI z104), .int (iI 0)]) (rest := [.ref b102]) (n := 2) X Y S k102 hml hl.1 (c_By_field l D E T κ L f H.size b102 6144 k102 (by omega) z104 (by omega) (by omega) 0 (by omega) (by omega) S.1) (ok_k X Y hA KS KR) rfl kl_Ag_By_field ks_By_field kx_By_field ki_By_field ini_By ⟨rfl, rfl⟩ hd_By_field ⟨Nat.le_of_ble_eq_true rfl, Nat.le_of_ble_eq_true rfl⟩ rfl (Nat.le_of_ble_eq_true rfl) d_Ag_keepHanded_42 ⟨Nat.le_of_ble_eq_true rfl, Nat.le_of_ble_eq_true rfl⟩) X Y hA (fun z108 H locs Y p108 => ?_)
    obtain ⟨l108, u108⟩ := p108
    refine t_ar (x_runS (As := [.ref b102, .int (iI z108)]) (rest := []) (n := 2) X hml hl.1 (c_Va_keyAt l D E T κ L f H.size b102 6144 k102 (by omega) z108 (by omega) (by omega) S.1) (ok_k X Y hA KS KR) kl_Ag_Va_keyAt ks_Va_keyAt ki_Va_keyAt ini_Va ⟨rfl, rfl⟩ hd_Va_keyAt.2 ⟨Nat.le_of_ble_eq_true rfl, Nat.le_of_ble_eq_true rfl⟩ rfl (Nat.le_of_ble_eq_true rfl) d_Ag_keepHanded_45 ⟨Nat.le_of_ble_eq_true rfl, Nat.le_of_ble_eq_true rfl⟩) X Y hA S (by decide) (fun b109 κ109 L109 f109 H locs Y S s109 p109 => ?_)
    obtain ⟨n109, k109⟩ := p109
    have x109 := tKey_n k109
    have k110 : κ109 h = (12, 0) := tLe_k s109.2.2.1 k0
    have k111 : κ109 a1 = (13, n1) := tLe_k s109.2.2.1 k1
    have k112 : κ109 b102 = (13, 6144) := tLe_k s109.2.2.1 k102
    refine lv_astore (lv' := [(4, .ref b109), (3, .int (iI z104)), (2, .ref b102), (0, .ref h), (1, .ref a1)]) X.1 X.2.1 d_Ag_keepHanded_48 hl (by decide) rfl (fun ls hl => ?_)
    refine lv_aload X.1 X.2.1 d_Ag_keepHanded_50 (lv_at hl 0 rfl) ?_
    refine t_alen X Y S KS (tKey_src k109) (by omega) d_Ag_keepHanded_52 ?_
    refine z_if_ne (tgt := 59) X.1 X.2.1 d_Ag_keepHanded_53 (by decide) ⟨by omega, by omega⟩ (fun h113 => ?_) (fun h113 => ?_)
    · refine lv_aload_n X.1 X.2.1 d_Ag_keepHanded_59 rfl (lv_at hl 3 rfl) ?_
      refine t_ui (t_runV (As := []) (rest := []) (n := 0) X Y S k110 hml hl.1 (c_Ag_freePlace l D E T κ109 L109 f109 H.size h k110 S.1) (ok_k X Y hA KS KR) rfl kl_Ag_Ag_freePlace ks_Ag_freePlace kx_Ag_freePlace ki_Ag_freePlace ini_Ag ⟨rfl, rfl⟩ hd_Ag_freePlace ⟨Nat.le_of_ble_eq_true rfl, Nat.le_of_ble_eq_true rfl⟩ rfl (Nat.le_of_ble_eq_true rfl) d_Ag_keepHanded_60 ⟨Nat.le_of_ble_eq_true rfl, Nat.le_of_ble_eq_true rfl⟩) X Y hA (fun z114 H locs Y p114 => ?_)
      obtain ⟨l114, u114⟩ := p114
      refine lv_istore (lv' := [(5, .int (iI z114)), (4, .ref b109), (3, .int (iI z104)), (2, .ref b102), (0, .ref h), (1, .ref a1)]) X.1 X.2.1 d_Ag_keepHanded_63 hl (by decide) rfl (fun ls hl => ?_)
      refine lv_iload X.1 X.2.1 d_Ag_keepHanded_65 (lv_at hl 0 rfl) ?_
      refine z_if_lt (tgt := 124) X.1 X.2.1 d_Ag_keepHanded_67 (by decide) ⟨by omega, by omega⟩ (fun h115 => ?_) (fun h115 => ?_)
      · refine lv_iload X.1 X.2.1 d_Ag_keepHanded_124 (lv_at hl 0 rfl) ?_
        refine W.widen (k := 3) (n := 4035) (Nat.le_of_ble_eq_true rfl) (Nat.le_of_ble_eq_true rfl) ?_
        exact c_reti hQQ X Y hr hlk ⟨κ109, S, z114, rfl, ⟨by omega, by omega⟩⟩ d_Ag_keepHanded_126
      · refine lv_aload_n X.1 X.2.1 d_Ag_keepHanded_70 rfl (lv_at hl 4 rfl) ?_
        refine t_getr (ci := 2) X Y S k110 rfl i_Ag 1 (by decide) rfl (k1 := 8) (k2 := 8) rfl rfl lk_Ag_48 (fun _ h9 => h9) d_Ag_keepHanded_71 (fun b116 e116 k116 => ?_)
        refine lv_iload X.1 X.2.1 d_Ag_keepHanded_74 (lv_at hl 0 rfl) ?_
        refine t_aald X Y S k116 (fun h9 => h9) (t0 := 5) rfl (by omega) (by omega) (by omega) d_Ag_keepHanded_76 (fun b117 e117 k117 => ?_)
        refine lv_aload_n X.1 X.2.1 d_Ag_keepHanded_77 rfl (lv_at hl 5 rfl) ?_
        refine lv_aload_n X.1 X.2.1 d_Ag_keepHanded_78 rfl (lv_at hl 5 rfl) ?_
        refine lv_aload_n X.1 X.2.1 d_Ag_keepHanded_79 rfl (lv_at hl 5 rfl) ?_
        refine lv_iconst (v := iI 0) X.1 X.2.1 d_Ag_keepHanded_80 (by decide) ?_
        refine lv_iconst (v := iI 2) X.1 X.2.1 d_Ag_keepHanded_81 (by decide) ?_
        refine t_ui (t_runV (As := [.int (iI 0), .int (iI 2)]) (rest := [.ref a1, .ref a1, .ref b117]) (n := 2) X Y S k111 hml hl.1 (c_By_field l D E T κ109 L109 f109 H.size a1 n1 k111 (by omega) 0 (by omega) (by omega) 2 (by omega) (by omega) S.1) (ok_k X Y hA KS KR) rfl kl_Ag_By_field ks_By_field kx_By_field ki_By_field ini_By ⟨rfl, rfl⟩ hd_By_field ⟨Nat.le_of_ble_eq_true rfl, Nat.le_of_ble_eq_true rfl⟩ rfl (Nat.le_of_ble_eq_true rfl) d_Ag_keepHanded_82 ⟨Nat.le_of_ble_eq_true rfl, Nat.le_of_ble_eq_true rfl⟩) X Y hA (fun z118 H locs Y p118 => ?_)
        obtain ⟨l118, u118⟩ := p118
        refine lv_iconst (v := iI 0) X.1 X.2.1 d_Ag_keepHanded_85 (by decide) ?_
        refine t_ui (t_runV (As := [.int (iI z118), .int (iI 0)]) (rest := [.ref a1, .ref b117]) (n := 2) X Y S k111 hml hl.1 (c_By_element l D E T κ109 L109 f109 H.size a1 n1 k111 (by omega) z118 (by omega) (by omega) 0 (by omega) (by omega) S.1) (ok_k X Y hA KS KR) rfl kl_Ag_By_element ks_By_element kx_By_element ki_By_element ini_By ⟨rfl, rfl⟩ hd_By_element ⟨Nat.le_of_ble_eq_true rfl, Nat.le_of_ble_eq_true rfl⟩ rfl (Nat.le_of_ble_eq_true rfl) d_Ag_keepHanded_86 ⟨Nat.le_of_ble_eq_true rfl, Nat.le_of_ble_eq_true rfl⟩) X Y hA (fun z119 H locs Y p119 => ?_)
        obtain ⟨l119, u119⟩ := p119
        refine t_av (t_runV (As := [.ref a1, .int (iI z119)]) (rest := []) (n := 2) X Y S k117 hml hl.1 (c_Ti_setRaw l D E T κ109 L109 f109 H.size b117 k117 a1 n1 k111 (by omega) z119 (by omega) (by omega) S.1) (ok_k X Y hA KS KR) rfl kl_Ag_Ti_setRaw ks_Ti_setRaw kx_Ti_setRaw ki_Ti_setRaw ini_Ti ⟨rfl, rfl⟩ hd_Ti_setRaw ⟨Nat.le_of_ble_eq_true rfl, Nat.le_of_ble_eq_true rfl⟩ rfl (Nat.le_of_ble_eq_true rfl) d_Ag_keepHanded_89 ⟨Nat.le_of_ble_eq_true rfl, Nat.le_of_ble_eq_true rfl⟩) X Y hA S (by decide) (fun κ120 L120 f120 H locs Y S s120 p120 => ?_)
        have k121 : κ120 h = (12, 0) := tLe_k s120.2.2.1 k110
        have k122 : κ120 a1 = (13, n1) := tLe_k s120.2.2.1 k111
        have k123 : κ120 b102 = (13, 6144) := tLe_k s120.2.2.1 k112
        have k124 : tKey T κ120 b109 n109 := tLe_key s120.2.2.1 k109
        refine lv_aload_n X.1 X.2.1 d_Ag_keepHanded_92 rfl (lv_at hl 4 rfl) ?_
        refine t_getr (ci := 2) X Y S k121 rfl i_Ag 1 (by decide) rfl (k1 := 8) (k2 := 8) rfl rfl lk_Ag_48 (fun _ h9 => h9) d_Ag_keepHanded_93 (fun b125 e125 k125 => ?_)
        refine lv_iload X.1 X.2.1 d_Ag_keepHanded_96 (lv_at hl 0 rfl) ?_
        refine t_aald X Y S k125 (fun h9 => h9) (t0 := 5) rfl (by omega) (by omega) (by omega) d_Ag_keepHanded_98 (fun b126 e126 k126 => ?_)
        refine lv_aload_n X.1 X.2.1 d_Ag_keepHanded_99 rfl (lv_at hl 3 rfl) ?_
        refine lv_aload_n X.1 X.2.1 d_Ag_keepHanded_100 rfl (lv_at hl 3 rfl) ?_
        refine lv_iload_n X.1 X.2.1 d_Ag_keepHanded_101 rfl (lv_at hl 2 rfl) ?_
        refine lv_iconst (v := iI 2) X.1 X.2.1 d_Ag_keepHanded_102 (by decide) ?_
        refine t_ui (t_runV (As := [.int (iI z104), .int (iI 2)]) (rest := [.ref b102, .ref b126]) (n := 2) X Y S k123 hml hl.1 (c_By_field l D E T κ120 L120 f120 H.size b102 6144 k123 (by omega) z104 (by omega) (by omega) 2 (by omega) (by omega) S.1) (ok_k X Y hA KS KR) rfl kl_Ag_By_field ks_By_field kx_By_field ki_By_field ini_By ⟨rfl, rfl⟩ hd_By_field ⟨Nat.le_of_ble_eq_true rfl, Nat.le_of_ble_eq_true rfl⟩ rfl (Nat.le_of_ble_eq_true rfl) d_Ag_keepHanded_103 ⟨Nat.le_of_ble_eq_true rfl, Nat.le_of_ble_eq_true rfl⟩) X Y hA (fun z127 H locs Y p127 => ?_)
        obtain ⟨l127, u127⟩ := p127
        refine t_nv (t_runV (As := [.ref b102, .int (iI z127)]) (rest := []) (n := 2) X Y S k126 hml hl.1 (c_Ti_setName l D E T κ120 L120 f120 H.size b126 k126 b102 6144 k123 (by omega) z127 (by omega) (by omega) S.1) (ok_k X Y hA KS KR) rfl kl_Ag_Ti_setName ks_Ti_setName kx_Ti_setName ki_Ti_setName ini_Ti ⟨rfl, rfl⟩ hd_Ti_setName ⟨Nat.le_of_ble_eq_true rfl, Nat.le_of_ble_eq_true rfl⟩ rfl (Nat.le_of_ble_eq_true rfl) d_Ag_keepHanded_106 ⟨Nat.le_of_ble_eq_true rfl, Nat.le_of_ble_eq_true rfl⟩) X Y hA S (by decide) (fun f128 H locs Y S s128 p128 => ?_)
        refine lv_aload_n X.1 X.2.1 d_Ag_keepHanded_109 rfl (lv_at hl 4 rfl) ?_
        refine t_get0 (ci := 2) X Y S k121 rfl i_Ag 1 (by decide) rfl lk_Ag_48 (fun _ h9 => h9) d_Ag_keepHanded_110 ((gF_same (s128.2.2.2 _ ⟨(t_obj S.1 k121).1, nM_of k121 (by decide), by simp⟩).1 1).trans e125) ?_
        refine lv_iload X.1 X.2.1 d_Ag_keepHanded_113 (lv_at hl 0 rfl) ?_
        refine t_aald X Y S k125 (fun h9 => h9) (t0 := 5) rfl (by omega) (by omega) (by omega) d_Ag_keepHanded_115 (fun b129 e129 k129 => ?_)
        refine lv_aload X.1 X.2.1 d_Ag_keepHanded_116 (lv_at hl 1 rfl) ?_
        refine lv_aload_n X.1 X.2.1 d_Ag_keepHanded_118 rfl (lv_at hl 3 rfl) ?_
        refine lv_iload_n X.1 X.2.1 d_Ag_keepHanded_119 rfl (lv_at hl 2 rfl) ?_
        refine lv_iconst (v := iI 3) X.1 X.2.1 d_Ag_keepHanded_120 (by decide) ?_
        refine t_nv (t_runV (As := [.ref b109, .ref b102, .int (iI z104), .int (iI 3)]) (rest := []) (n := 4) X Y S k129 hml hl.1 (c_Ti_setTold l D E T κ120 L120 f128 H.size b129 k129 b109 n109 k124 (by omega) b102 6144 k123 (by omega) z104 (by omega) (by omega) 3 (by omega) (by omega) S.1) (ok_k X Y hA KS KR) rfl kl_Ag_Ti_setTold ks_Ti_setTold kx_Ti_setTold ki_Ti_setTold ini_Ti ⟨rfl, rfl⟩ hd_Ti_setTold ⟨Nat.le_of_ble_eq_true rfl, Nat.le_of_ble_eq_true rfl⟩ rfl (Nat.le_of_ble_eq_true rfl) d_Ag_keepHanded_121 ⟨Nat.le_of_ble_eq_true rfl, Nat.le_of_ble_eq_true rfl⟩) X Y hA S (by decide) (fun f130 H locs Y S s130 p130 => ?_)
        refine lv_iload X.1 X.2.1 d_Ag_keepHanded_124 (lv_at hl 0 rfl) ?_
        exact c_reti hQQ X Y hr hlk ⟨κ120, S, z114, rfl, ⟨by omega, by omega⟩⟩ d_Ag_keepHanded_126
    · refine lv_bipush (v := iI (-14)) X.1 X.2.1 d_Ag_keepHanded_56 (by decide) ?_
      refine W.widen (k := 3) (n := 4035) (Nat.le_of_ble_eq_true rfl) (Nat.le_of_ble_eq_true rfl) ?_
      exact c_reti hQQ X Y hr hlk ⟨κ109, S, (-14), rfl, ⟨by omega, by omega⟩⟩ d_Ag_keepHanded_58
  · refine lv_bipush (v := iI (-60)) X.1 X.2.1 d_Ag_keepHanded_35 (by decide) ?_
    refine W.widen (k := 3) (n := 4035) (Nat.le_of_ble_eq_true rfl) (Nat.le_of_ble_eq_true rfl) ?_
    exact c_reti hQQ X Y hr hlk ⟨κ, S, (-60), rfl, ⟨by omega, by omega⟩⟩ d_Ag_keepHanded_37
