set_option maxHeartbeats 4000000 in
set_option maxRecDepth 100000 in
theorem c_Ag_time (l : Launch) (D : va_G) (E : cE) (T : cT) (κ : tK) (L : List Nat) (f : pF) (sz : Nat) (h : Nat) (k0 : κ h = (12, 0)) (hw : tW E T κ L f) : Met l y_Ag_time (k_Ag_time :: lw_tg) (kRm 1 60 0 0) (va_Pc [.ref h] (kPre D E T L f sz)) (va_Qi (uPi L f (fun (z : Int) => 0 ≤ z ∧ z ≤ 2100000000)) (cPost D E (pA L sz)) (pA L sz)) 0 0 (pA L sz) := by
  refine k_enter (own := R_Ag) (by decide) rfl (Nat.le_of_ble_eq_true rfl) (fun p e s m below meth c ls AV QQ H locs hQQ X Y hA hin hr hlk hml hl KS KR => ?_)
  have hl : lv_has ls 1 [(0, .ref h)] := hl
  have S : tS E T (tFr κ L [] []) κ L f κ L f := tS_rf hw
  refine lv_iconst (v := iI 0) X.1 X.2.1 d_Ag_time_0 (by decide) ?_
  refine lv_ldc (v := (2100000000)) X.1 X.2.1 X.2.2.2.1 (X.2.2.1 _ cn_Ag_90) d_Ag_time_1 ?_
  refine t_eq (y := iI 2100000000) (by decide) ?_
  refine lv_aload_n X.1 X.2.1 d_Ag_time_3 rfl (lv_at hl 0 rfl) ?_
  refine t_getr (ci := 2) X Y S k0 rfl i_Ag 0 (by decide) rfl (k1 := 21) (k2 := 0) rfl rfl lk_Ag_42 (fun _ h9 => h9) d_Ag_time_4 (fun b1 e1 k1 => ?_)
  refine t_geti (ci := 11) X Y S k1 rfl i_Va 0 (by decide) rfl lk_Ag_91 (fun _ h9 => h9) d_Ag_time_7 (fun z2 e2 l2 u2 => ?_)
  refine lv_aload_n X.1 X.2.1 d_Ag_time_10 rfl (lv_at hl 0 rfl) ?_
  refine t_geti (ci := 2) X Y S k0 rfl i_Ag 3 (by decide) rfl lk_Ag_68 (fun _ h9 => h9) d_Ag_time_11 (fun z3 e3 l3 u3 => ?_)
  refine lv_iadd X.1 X.2.1 d_Ag_time_14 ?_
  refine t_u (fun z4 l4 u4 => ?_)
  refine z_min X.1 X.2.1 (hml.trans hl.1.symm) X.2.2.2.1 (X.2.2.1 _ kl_Ag_mmin) (X.2.2.1 _ ks_mmin) (X.2.2.1 _ ini_Math) (X.2.2.1 _ ki_mmin) (Nat.le_of_ble_eq_true rfl) (Nat.le_of_ble_eq_true rfl) (Nat.le_of_ble_eq_true rfl) (Nat.le_of_ble_eq_true rfl) ⟨by omega, by omega⟩ ⟨by omega, by omega⟩ d_Ag_time_15 (fun z5 l5 u5 x5 => ?_)
  refine z_max X.1 X.2.1 (hml.trans hl.1.symm) X.2.2.2.1 (X.2.2.1 _ kl_Ag_mmax) (X.2.2.1 _ ks_mmax) (X.2.2.1 _ ini_Math) (X.2.2.1 _ ki_mmax) (Nat.le_of_ble_eq_true rfl) (Nat.le_of_ble_eq_true rfl) (Nat.le_of_ble_eq_true rfl) (Nat.le_of_ble_eq_true rfl) ⟨by omega, by omega⟩ ⟨by omega, by omega⟩ d_Ag_time_18 (fun z6 l6 u6 x6 => ?_)
  exact c_reti hQQ X Y hr hlk ⟨rfl, rfl, z6, rfl, ⟨by omega, by omega⟩⟩ d_Ag_time_21
set_option maxHeartbeats 4000000 in
set_option maxRecDepth 100000 in
theorem c_Ag_has (l : Launch) (D : va_G) (E : cE) (T : cT) (κ : tK) (L : List Nat) (f : pF) (sz : Nat) (h : Nat) (k0 : κ h = (12, 0)) (a1 : Int) (l_a1 : (-2147483648) ≤ a1) (u_a1 : a1 ≤ 2147483647) (hw : tW E T κ L f) : Met l y_Ag_has (k_Ag_has :: lw_tg) (kRm 1 60 0 0) (va_Pc [.ref h, .int (iI a1)] (kPre D E T L f sz)) (va_Qi (uPi L f (fun (z : Int) => 0 ≤ z ∧ z ≤ 1 ∧ (z = 1 → 0 ≤ a1 ∧ a1 ≤ 7))) (cPost D E (pA L sz)) (pA L sz)) 0 0 (pA L sz) := by
  refine k_enter (own := R_Ag) (by decide) rfl (Nat.le_of_ble_eq_true rfl) (fun p e s m below meth c ls AV QQ H locs hQQ X Y hA hin hr hlk hml hl KS KR => ?_)
  have hl : lv_has ls 2 [(0, .ref h), (1, .int (iI a1))] := hl
  have S : tS E T (tFr κ L [] []) κ L f κ L f := tS_rf hw
  refine lv_iload_n X.1 X.2.1 d_Ag_has_0 rfl (lv_at hl 1 rfl) ?_
  refine z_if_lt (tgt := 26) X.1 X.2.1 d_Ag_has_1 (by decide) ⟨by omega, by omega⟩ (fun h1 => ?_) (fun h1 => ?_)
  · refine lv_iconst (v := iI 0) X.1 X.2.1 d_Ag_has_26 (by decide) ?_
    exact c_retz hQQ X Y hr hlk (iI_bool (by omega) (by omega)).1 ⟨rfl, rfl, 0, rfl, ⟨by omega, by omega, by omega⟩⟩ d_Ag_has_27
  · refine lv_iload_n X.1 X.2.1 d_Ag_has_4 rfl (lv_at hl 1 rfl) ?_
    refine lv_bipush (v := iI 8) X.1 X.2.1 d_Ag_has_5 (by decide) ?_
    refine z_icmp_ge (tgt := 26) X.1 X.2.1 d_Ag_has_7 (by decide) ⟨by omega, by omega⟩ ⟨by omega, by omega⟩ (fun h2 => ?_) (fun h2 => ?_)
    · refine lv_iconst (v := iI 0) X.1 X.2.1 d_Ag_has_26 (by decide) ?_
      exact c_retz hQQ X Y hr hlk (iI_bool (by omega) (by omega)).1 ⟨rfl, rfl, 0, rfl, ⟨by omega, by omega, by omega⟩⟩ d_Ag_has_27
    · refine lv_aload_n X.1 X.2.1 d_Ag_has_10 rfl (lv_at hl 0 rfl) ?_
      refine t_getr (ci := 2) X Y S k0 rfl i_Ag 1 (by decide) rfl (k1 := 8) (k2 := 8) rfl rfl lk_Ag_48 (fun _ h9 => h9) d_Ag_has_11 (fun b3 e3 k3 => ?_)
      refine lv_iload_n X.1 X.2.1 d_Ag_has_14 rfl (lv_at hl 1 rfl) ?_
      refine t_aald X Y S k3 (fun h9 => h9) (t0 := 5) rfl (by omega) (by omega) (by omega) d_Ag_has_15 (fun b4 e4 k4 => ?_)
      refine t_geti (ci := 10) X Y S k4 rfl i_Ti 3 (by decide) rfl lk_Ag_63 (fun _ h9 => h9) d_Ag_has_16 (fun z5 e5 l5 u5 => ?_)
      refine z_if_eq (tgt := 26) X.1 X.2.1 d_Ag_has_19 (by decide) ⟨by omega, by omega⟩ (fun h6 => ?_) (fun h6 => ?_)
      · refine lv_iconst (v := iI 0) X.1 X.2.1 d_Ag_has_26 (by decide) ?_
        exact c_retz hQQ X Y hr hlk (iI_bool (by omega) (by omega)).1 ⟨rfl, rfl, 0, rfl, ⟨by omega, by omega, by omega⟩⟩ d_Ag_has_27
      · refine lv_iconst (v := iI 1) X.1 X.2.1 d_Ag_has_22 (by decide) ?_
        refine lv_goto (tgt := 27) X.1 X.2.1 d_Ag_has_23 (by decide) ?_
        exact c_retz hQQ X Y hr hlk (iI_bool (by omega) (by omega)).1 ⟨rfl, rfl, 1, rfl, ⟨by omega, by omega, by omega⟩⟩ d_Ag_has_27
set_option maxHeartbeats 4000000 in
set_option maxRecDepth 100000 in
theorem c_Ag_freePlace (l : Launch) (D : va_G) (E : cE) (T : cT) (κ : tK) (L : List Nat) (f : pF) (sz : Nat) (h : Nat) (k0 : κ h = (12, 0)) (hw : tW E T κ L f) : Met l y_Ag_freePlace (k_Ag_freePlace :: lw_tg) (kRm 1 60 0 0) (va_Pc [.ref h] (kPre D E T L f sz)) (va_Qi (uPi L f (fun (z : Int) => (-2) ≤ z ∧ z ≤ 7)) (cPost D E (pA L sz)) (pA L sz)) 0 0 (pA L sz) := by
  refine k_enter (own := R_Ag) (by decide) rfl (Nat.le_of_ble_eq_true rfl) (fun p e s m below meth c ls AV QQ H locs hQQ X Y hA hin hr hlk hml hl KS KR => ?_)
  have hl : lv_has ls 2 [(0, .ref h)] := hl
  have S : tS E T (tFr κ L [] []) κ L f κ L f := tS_rf hw
  refine lv_iconst (v := iI 0) X.1 X.2.1 d_Ag_freePlace_0 (by decide) ?_
  have J2 : ∀ (n4 : Nat) (z1 : Int) (H : Heap) (locs : List Loc) (ls : Array Slot), (8 - z1).toNat = n4 → (0 ≤ z1) → (z1 ≤ 8) → pH D cCl (pA L sz) s.heap L f H locs → tS E T (tFr κ L [] []) κ L f κ L f → lv_has ls 2 [(0, .ref h), (1, .int (iI z1))] → W p l e (kRm 1 60 0 0) s m AV below meth c H locs 0 0 QQ (F0 m 2 ls []) := by
    intro n4
    induction n4 using Nat.strongRecOn with
    | ind n4 ih3 =>
      intro z1 H locs ls hm5 l1 u1 Y S hl
      refine lv_iload_n X.1 X.2.1 d_Ag_freePlace_2 rfl (lv_at hl 1 rfl) ?_
      refine lv_bipush (v := iI 8) X.1 X.2.1 d_Ag_freePlace_3 (by decide) ?_
      have J6 : ∀  (H : Heap) (locs : List Loc) (ls : Array Slot), pH D cCl (pA L sz) s.heap L f H locs → tS E T (tFr κ L [] []) κ L f κ L f → lv_has ls 2 [(1, .int (iI z71))] → W p l e (kRm 1 60 0 0) s m AV below meth c H locs 0 0 QQ (F0 m 26 ls []) := by
        intro  H locs ls  Y S hl
        refine lv_iload_n X.1 X.2.1 d_Ag_freePlace_26 rfl (lv_at hl 0 rfl) ?_
        refine lv_bipush (v := iI 8) X.1 X.2.1 d_Ag_freePlace_27 (by decide) ?_
        refine z_icmp_ge (tgt := 36) X.1 X.2.1 d_Ag_freePlace_29 (by decide) ⟨by omega, by omega⟩ ⟨by omega, by omega⟩ (fun h10 => ?_) (fun h10 => ?_)
        · refine lv_bipush (v := iI (-2)) X.1 X.2.1 d_Ag_freePlace_36 (by decide) ?_
          exact c_reti hQQ X Y hr hlk ⟨rfl, rfl, (-2), rfl, ⟨by omega, by omega⟩⟩ d_Ag_freePlace_38
        · refine lv_iload_n X.1 X.2.1 d_Ag_freePlace_32 rfl (lv_at hl 0 rfl) ?_
          refine lv_goto (tgt := 38) X.1 X.2.1 d_Ag_freePlace_33 (by decide) ?_
          exact c_reti hQQ X Y hr hlk ⟨rfl, rfl, z71, rfl, ⟨by omega, by omega⟩⟩ d_Ag_freePlace_38
      refine z_icmp_ge (tgt := 26) X.1 X.2.1 d_Ag_freePlace_5 (by decide) ⟨by omega, by omega⟩ ⟨by omega, by omega⟩ (fun h11 => ?_) (fun h11 => ?_)
      · exact J6  _ _ _  Y S (lv_sub hl [1] rfl)
      · refine lv_aload_n X.1 X.2.1 d_Ag_freePlace_8 rfl (lv_at hl 0 rfl) ?_
        refine t_getr (ci := 2) X Y S k0 rfl i_Ag 1 (by decide) rfl (k1 := 8) (k2 := 8) rfl rfl lk_Ag_48 (fun _ h9 => h9) d_Ag_freePlace_9 (fun b12 e12 k12 => ?_)
        refine lv_iload_n X.1 X.2.1 d_Ag_freePlace_12 rfl (lv_at hl 1 rfl) ?_
        refine t_aald X Y S k12 (fun h9 => h9) (t0 := 5) rfl (by omega) (by omega) (by omega) d_Ag_freePlace_13 (fun b13 e13 k13 => ?_)
        refine t_geti (ci := 10) X Y S k13 rfl i_Ti 3 (by decide) rfl lk_Ag_63 (fun _ h9 => h9) d_Ag_freePlace_14 (fun z14 e14 l14 u14 => ?_)
        refine z_if_eq (tgt := 26) X.1 X.2.1 d_Ag_freePlace_17 (by decide) ⟨by omega, by omega⟩ (fun h15 => ?_) (fun h15 => ?_)
        · exact J6  _ _ _  Y S (lv_sub hl [1] rfl)
        · refine lv_iinc (v := iI (z1 + 1)) (lv' := [(1, .int (iI (z1 + 1))), (0, .ref h)]) X.1 X.2.1 d_Ag_freePlace_20 hl (k := 1) rfl ((iI_add _ _).trans (congrArg iI (by omega))) (by decide) rfl (fun ls hl => ?_)
          refine lv_goto (tgt := 2) X.1 X.2.1 d_Ag_freePlace_23 (by decide) ?_
          exact ih3 ((8 - (z1 + 1)).toNat) (by omega) (z1 + 1) _ _ _ rfl (by omega) (by omega) Y S (lv_sub hl [1, 0] rfl)
  refine lv_istore_n (lv' := [(1, .int (iI 0)), (0, .ref h)]) X.1 X.2.1 d_Ag_freePlace_1 rfl hl (by decide) rfl (fun ls hl => ?_)
  exact J2 _ 0 _ _ _ rfl (by omega) (by omega) Y S (lv_sub hl [1, 0] rfl)
set_option maxHeartbeats 4000000 in
set_option maxRecDepth 100000 in
theorem c_Ag_isAsked (l : Launch) (D : va_G) (E : cE) (T : cT) (κ : tK) (L : List Nat) (f : pF) (sz : Nat) (h : Nat) (k0 : κ h = (12, 0)) (a1 : Int64) (hw : tW E T κ L f) : Met l y_Ag_isAsked (k_Ag_isAsked :: lw_tg) (kRm 1 60 0 0) (va_Pc [.ref h, .long a1] (kPre D E T L f sz)) (va_Qi (uPi L f (fun (z : Int) => 0 ≤ z ∧ z ≤ 1)) (cPost D E (pA L sz)) (pA L sz)) 0 0 (pA L sz) := by
  refine k_enter (own := R_Ag) (by decide) rfl (Nat.le_of_ble_eq_true rfl) (fun p e s m below meth c ls AV QQ H locs hQQ X Y hA hin hr hlk hml hl KS KR => ?_)
  have hl : lv_has ls 3 [(0, .ref h), (1, .long a1)] := hl
  have S : tS E T (tFr κ L [] []) κ L f κ L f := tS_rf hw
  refine lv_lload_n X.1 X.2.1 d_Ag_isAsked_0 rfl (lv_at hl 1 rfl) ?_
  refine lv_ldc2 (v := (17)) X.1 X.2.1 X.2.2.2.1 (X.2.2.1 _ cl_Ag_103) d_Ag_isAsked_1 ?_
  refine W.lcmp X.1 X.2.1 d_Ag_isAsked_4 ?_
  refine t_u (fun z1 l1 u1 => ?_)
  have J2 : ∀  (H : Heap) (locs : List Loc) (ls : Array Slot), pH D cCl (pA L sz) s.heap L f H locs → tS E T (tFr κ L [] []) κ L f κ L f → lv_has ls 3 [(0, .ref h), (1, .long a1)] → W p l e (kRm 1 60 0 0) s m AV below meth c H locs 0 0 QQ (F0 m 16 ls []) := by
    intro  H locs ls  Y S hl
    refine lv_lload_n X.1 X.2.1 d_Ag_isAsked_16 rfl (lv_at hl 1 rfl) ?_
    refine lv_ldc2 (v := (18)) X.1 X.2.1 X.2.2.2.1 (X.2.2.1 _ cl_Ag_108) d_Ag_isAsked_17 ?_
    refine W.lcmp X.1 X.2.1 d_Ag_isAsked_20 ?_
    refine t_u (fun z6 l6 u6 => ?_)
    refine z_if_ne (tgt := 36) X.1 X.2.1 d_Ag_isAsked_21 (by decide) ⟨by omega, by omega⟩ (fun h7 => ?_) (fun h7 => ?_)
    · refine lv_iconst (v := iI 0) X.1 X.2.1 d_Ag_isAsked_36 (by decide) ?_
      exact c_retz hQQ X Y hr hlk (iI_bool (by omega) (by omega)).1 ⟨rfl, rfl, 0, rfl, ⟨by omega, by omega⟩⟩ d_Ag_isAsked_37
    · refine lv_aload_n X.1 X.2.1 d_Ag_isAsked_24 rfl (lv_at hl 0 rfl) ?_
      refine t_geti (ci := 2) X Y S k0 rfl i_Ag 11 (by decide) rfl lk_Ag_105 (fun _ h9 => h9) d_Ag_isAsked_25 (fun z8 e8 l8 u8 => ?_)
      refine lv_iconst (v := iI 1) X.1 X.2.1 d_Ag_isAsked_28 (by decide) ?_
      refine z_icmp_eq (tgt := 36) X.1 X.2.1 d_Ag_isAsked_29 (by decide) ⟨by omega, by omega⟩ ⟨by omega, by omega⟩ (fun h9 => ?_) (fun h9 => ?_)
      · refine lv_iconst (v := iI 0) X.1 X.2.1 d_Ag_isAsked_36 (by decide) ?_
        exact c_retz hQQ X Y hr hlk (iI_bool (by omega) (by omega)).1 ⟨rfl, rfl, 0, rfl, ⟨by omega, by omega⟩⟩ d_Ag_isAsked_37
      · refine lv_iconst (v := iI 1) X.1 X.2.1 d_Ag_isAsked_32 (by decide) ?_
        refine lv_goto (tgt := 37) X.1 X.2.1 d_Ag_isAsked_33 (by decide) ?_
        exact c_retz hQQ X Y hr hlk (iI_bool (by omega) (by omega)).1 ⟨rfl, rfl, 1, rfl, ⟨by omega, by omega⟩⟩ d_Ag_isAsked_37
  refine z_if_ne (tgt := 16) X.1 X.2.1 d_Ag_isAsked_5 (by decide) ⟨by omega, by omega⟩ (fun h10 => ?_) (fun h10 => ?_)
  · exact J2  _ _ _  Y S (lv_sub hl [0, 1] rfl)
  · refine lv_aload_n X.1 X.2.1 d_Ag_isAsked_8 rfl (lv_at hl 0 rfl) ?_
    refine t_geti (ci := 2) X Y S k0 rfl i_Ag 11 (by decide) rfl lk_Ag_105 (fun _ h9 => h9) d_Ag_isAsked_9 (fun z11 e11 l11 u11 => ?_)
    refine lv_iconst (v := iI 2) X.1 X.2.1 d_Ag_isAsked_12 (by decide) ?_
    refine z_icmp_ne (tgt := 32) X.1 X.2.1 d_Ag_isAsked_13 (by decide) ⟨by omega, by omega⟩ ⟨by omega, by omega⟩ (fun h12 => ?_) (fun h12 => ?_)
    · refine lv_iconst (v := iI 1) X.1 X.2.1 d_Ag_isAsked_32 (by decide) ?_
      refine lv_goto (tgt := 37) X.1 X.2.1 d_Ag_isAsked_33 (by decide) ?_
      exact c_retz hQQ X Y hr hlk (iI_bool (by omega) (by omega)).1 ⟨rfl, rfl, 1, rfl, ⟨by omega, by omega⟩⟩ d_Ag_isAsked_37
    · exact J2  _ _ _  Y S (lv_sub hl [0, 1] rfl)
set_option maxHeartbeats 4000000 in
set_option maxRecDepth 100000 in
theorem c_Ag_keyOf (l : Launch) (D : va_G) (E : cE) (T : cT) (κ : tK) (L : List Nat) (f : pF) (sz : Nat) (h : Nat) (k0 : κ h = (12, 0)) (a1 : Int64) (hw : tW E T κ L f) : Met l y_Ag_keyOf (k_Ag_keyOf :: lw_tg) (kRm 1 60 0 0) (va_Pc [.ref h, .long a1] (kPre D E T L f sz)) (va_Qr (fun _ : cU => True) (fun u r t => uPr L f (fun (z : Nat) => (∃ n : Nat, tKey T κ z n)) r u ∧ cPost D E (pA L sz) u t) (pA L sz)) 0 0 (pA L sz) := by
  refine k_enter (own := R_Ag) (by decide) rfl (Nat.le_of_ble_eq_true rfl) (fun p e s m below meth c ls AV QQ H locs hQQ X Y hA hin hr hlk hml hl KS KR => ?_)
  have hl : lv_has ls 3 [(0, .ref h), (1, .long a1)] := hl
  have S : tS E T (tFr κ L [] []) κ L f κ L f := tS_rf hw
  refine lv_lload_n X.1 X.2.1 d_Ag_keyOf_0 rfl (lv_at hl 1 rfl) ?_
  refine lv_ldc2 (v := (18)) X.1 X.2.1 X.2.2.2.1 (X.2.2.1 _ cl_Ag_108) d_Ag_keyOf_1 ?_
  refine W.lcmp X.1 X.2.1 d_Ag_keyOf_4 ?_
  refine t_u (fun z1 l1 u1 => ?_)
  refine z_if_ne (tgt := 15) X.1 X.2.1 d_Ag_keyOf_5 (by decide) ⟨by omega, by omega⟩ (fun h2 => ?_) (fun h2 => ?_)
  · refine lv_aload_n X.1 X.2.1 d_Ag_keyOf_15 rfl (lv_at hl 0 rfl) ?_
    refine t_getk (ci := 2) X Y S k0 rfl i_Ag 6 (by decide) rfl lk_Ag_27 (fun _ h9 => h9) d_Ag_keyOf_16 (fun b3 n3 e3 k3 x3 => ?_)
    exact k_retr hQQ X Y hr (Or.inr ⟨_, rfl⟩) hlk ⟨rfl, rfl, ⟨n3, k3⟩⟩ d_Ag_keyOf_19
  · refine lv_aload_n X.1 X.2.1 d_Ag_keyOf_8 rfl (lv_at hl 0 rfl) ?_
    refine t_getk (ci := 2) X Y S k0 rfl i_Ag 5 (by decide) rfl lk_Ag_24 (fun _ h9 => h9) d_Ag_keyOf_9 (fun b4 n4 e4 k4 x4 => ?_)
    refine lv_goto (tgt := 19) X.1 X.2.1 d_Ag_keyOf_12 (by decide) ?_
    exact k_retr hQQ X Y hr (Or.inr ⟨_, rfl⟩) hlk ⟨rfl, rfl, ⟨n4, k4⟩⟩ d_Ag_keyOf_19
set_option maxHeartbeats 4000000 in
set_option maxRecDepth 100000 in
theorem c_Ag_begin (l : Launch) (D : va_G) (E : cE) (T : cT) (κ : tK) (L : List Nat) (f : pF) (sz : Nat) (h : Nat) (k0 : κ h = (12, 0)) (a1 n1 : Nat) (k1 : κ a1 = (13, n1)) (x1 : n1 ≤ 12288) (a2 n2 : Nat) (k2 : κ a2 = (13, n2)) (x2 : n2 ≤ 12288) (a3 : Int) (l_a3 : (-1) ≤ a3) (u_a3 : a3 ≤ 20200) (a4 : Int) (l_a4 : (-2147483648) ≤ a4) (u_a4 : a4 ≤ 2147483647) (hw : tW E T κ L f) : Met l y_Ag_begin (k_Ag_begin :: lw_tg) (kRm 7 181 2 64) (va_Pc [.ref h, .ref a1, .ref a2, .int (iI a3), .int (iI a4)] (kPre D E T L f sz)) (va_Qv (aPv E T [1, 2, 3, 4, 5, 6, 7, 8, 9, 10, 11, 12, 13, 14, 15, 16, 17, 18, 19, 20, 21] [] κ L f (fun (k : tK) (g : pF) => True)) (cPost D E (pA L sz)) (pA L sz)) 2 64 (pA L sz) := by
  refine k_enter (own := R_Ag) (by decide) rfl (Nat.le_of_ble_eq_true rfl) (fun p e s m below meth c ls AV QQ H locs hQQ X Y hA hin hr hlk hml hl KS KR => ?_)
  have hl : lv_has ls 6 [(0, .ref h), (1, .ref a1), (2, .ref a2), (3, .int (iI a3)), (4, .int (iI a4))] := hl
  have S : tS E T (tFr κ L [1, 2, 3, 4, 5, 6, 7, 8, 9, 10, 11, 12, 13, 14, 15, 16, 17, 18, 19, 20, 21] []) κ L f κ L f := tS_rf hw
  have hF0 : ∀ b, tFr κ L [1, 2, 3, 4, 5, 6, 7, 8, 9, 10, 11, 12, 13, 14, 15, 16, 17, 18, 19, 20, 21] [] b → b ∈ L := fun b h9 => h9.1
  refine lv_aload_n X.1 X.2.1 d_Ag_begin_0 rfl (lv_at hl 0 rfl) ?_
  refine t_getr (ci := 2) X Y S k0 rfl i_Ag 4 (by decide) rfl (k1 := 13) (k2 := 40) rfl rfl lk_Ag_14 (fun _ h9 => h9) d_Ag_begin_1 (fun b1 e1 k1 => ?_)
  refine lv_aload_n X.1 X.2.1 d_Ag_begin_4 rfl (lv_at hl 1 rfl) ?_
  refine t_nv (t_runV (As := [.ref a1]) (rest := []) (n := 1) X Y S k1 hml hl.1 (c_By_copyOf l D E T κ L f H.size b1 40 k1 (by omega) a1 n1 k1 (by omega) S.1) (ok_k X Y hA KS KR) rfl kl_Ag_By_copyOf ks_By_copyOf kx_By_copyOf ki_By_copyOf ini_By ⟨rfl, rfl⟩ hd_By_copyOf ⟨Nat.le_of_ble_eq_true rfl, Nat.le_of_ble_eq_true rfl⟩ rfl (Nat.le_of_ble_eq_true rfl) d_Ag_begin_5 ⟨Nat.le_of_ble_eq_true rfl, Nat.le_of_ble_eq_true rfl⟩) X Y hA S (by decide) (fun f2 H locs Y S s2 p2 => ?_)
  refine lv_aload_n X.1 X.2.1 d_Ag_begin_8 rfl (lv_at hl 0 rfl) ?_
  refine lv_aload_n X.1 X.2.1 d_Ag_begin_9 rfl (lv_at hl 0 rfl) ?_
  refine t_getr (ci := 2) X Y S k0 rfl i_Ag 0 (by decide) rfl (k1 := 21) (k2 := 0) rfl rfl lk_Ag_42 (fun _ h9 => h9) d_Ag_begin_10 (fun b3 e3 k3 => ?_)
  refine lv_bipush (v := iI 18) X.1 X.2.1 d_Ag_begin_13 (by decide) ?_
  refine lv_aload_n X.1 X.2.1 d_Ag_begin_15 rfl (lv_at hl 0 rfl) ?_
  refine t_get0 (ci := 2) X Y S k0 rfl i_Ag 4 (by decide) rfl lk_Ag_14 (fun _ h9 => h9) d_Ag_begin_16 ((gF_same (s2.2.2.2 _ ⟨(t_obj S.1 k0).1, by rw [k0]; decide, by simp⟩).1 4).trans e1) ?_
  refine lv_aload_n X.1 X.2.1 d_Ag_begin_19 rfl (lv_at hl 2 rfl) ?_
  refine lv_iload_n X.1 X.2.1 d_Ag_begin_20 rfl (lv_at hl 3 rfl) ?_
  refine lv_iload X.1 X.2.1 d_Ag_begin_21 (lv_at hl 4 rfl) ?_
  refine t_ar (t_runV (As := [.int (iI 18), .ref b1, .ref a2, .int (iI a3), .int (iI a4)]) (rest := [.ref h]) (n := 5) X Y S k3 hml hl.1 (c_Va_passwordKey l D E T κ L f2 H.size b3 k3 18 (by omega) (by omega) b1 40 k1 (by omega) a2 n2 k2 (by omega) a3 (by omega) (by omega) a4 (by omega) (by omega) S.1) (ok_k X Y hA KS KR) rfl kl_Ag_Va_passwordKey ks_Va_passwordKey kx_Va_passwordKey ki_Va_passwordKey ini_Va ⟨rfl, rfl⟩ hd_Va_passwordKey ⟨Nat.le_of_ble_eq_true rfl, Nat.le_of_ble_eq_true rfl⟩ rfl (Nat.le_of_ble_eq_true rfl) d_Ag_begin_23 ⟨Nat.le_of_ble_eq_true rfl, Nat.le_of_ble_eq_true rfl⟩) X Y hA S (by decide) (fun b4 κ4 L4 f4 H locs Y S s4 p4 => ?_)
  obtain ⟨n4, k4⟩ := p4
  have x4 := tKey_n k4
  have k5 : κ4 h = (12, 0) := tLe_k s4.2.2.1 k0
  have k6 : κ4 a1 = (13, n1) := tLe_k s4.2.2.1 k1
  have k7 : κ4 a2 = (13, n2) := tLe_k s4.2.2.1 k2
  refine t_put (ci := 2) X Y S k5 rfl i_Ag t_Ag t_Ag_ok n_Ag 5 (by decide) rfl lk_Ag_24 (fun _ h9 => h9) rfl (t_Ag_ok 5 (by decide)) rfl rfl ⟨_, n4, rfl, k4⟩ (fun h9 => h9.2.1 (by rw [← (S.2.2.2 _ h9).2, k5]; decide)) d_Ag_begin_26 (fun f8 H locs Y S w8 => ?_)
  refine lv_aload_n X.1 X.2.1 d_Ag_begin_29 rfl (lv_at hl 0 rfl) ?_
  refine lv_aload_n X.1 X.2.1 d_Ag_begin_30 rfl (lv_at hl 0 rfl) ?_
  refine t_getr (ci := 2) X Y S k5 rfl i_Ag 0 (by decide) rfl (k1 := 21) (k2 := 0) rfl rfl lk_Ag_42 (fun _ h9 => h9) d_Ag_begin_31 (fun b9 e9 k9 => ?_)
  refine lv_bipush (v := iI 17) X.1 X.2.1 d_Ag_begin_34 (by decide) ?_
  refine lv_aload_n X.1 X.2.1 d_Ag_begin_36 rfl (lv_at hl 0 rfl) ?_
  refine t_getr (ci := 2) X Y S k5 rfl i_Ag 4 (by decide) rfl (k1 := 13) (k2 := 40) rfl rfl lk_Ag_14 (fun _ h9 => h9) d_Ag_begin_37 (fun b10 e10 k10 => ?_)
  refine lv_aload_n X.1 X.2.1 d_Ag_begin_40 rfl (lv_at hl 2 rfl) ?_
  refine lv_iload_n X.1 X.2.1 d_Ag_begin_41 rfl (lv_at hl 3 rfl) ?_
  refine lv_iload X.1 X.2.1 d_Ag_begin_42 (lv_at hl 4 rfl) ?_
  refine t_ar (t_runV (As := [.int (iI 17), .ref b10, .ref a2, .int (iI a3), .int (iI a4)]) (rest := [.ref h]) (n := 5) X Y S k9 hml hl.1 (c_Va_passwordKey l D E T κ4 L4 f8 H.size b9 k9 17 (by omega) (by omega) b10 40 k10 (by omega) a2 n2 k7 (by omega) a3 (by omega) (by omega) a4 (by omega) (by omega) S.1) (ok_k X Y hA KS KR) rfl kl_Ag_Va_passwordKey ks_Va_passwordKey kx_Va_passwordKey ki_Va_passwordKey ini_Va ⟨rfl, rfl⟩ hd_Va_passwordKey ⟨Nat.le_of_ble_eq_true rfl, Nat.le_of_ble_eq_true rfl⟩ rfl (Nat.le_of_ble_eq_true rfl) d_Ag_begin_44 ⟨Nat.le_of_ble_eq_true rfl, Nat.le_of_ble_eq_true rfl⟩) X Y hA S (by decide) (fun b11 κ11 L11 f11 H locs Y S s11 p11 => ?_)
  obtain ⟨n11, k11⟩ := p11
  have x11 := tKey_n k11
  have k12 : κ11 h = (12, 0) := tLe_k s11.2.2.1 k5
  have k13 : κ11 a1 = (13, n1) := tLe_k s11.2.2.1 k6
  have k14 : κ11 a2 = (13, n2) := tLe_k s11.2.2.1 k7
  refine t_put (ci := 2) X Y S k12 rfl i_Ag t_Ag t_Ag_ok n_Ag 6 (by decide) rfl lk_Ag_27 (fun _ h9 => h9) rfl (t_Ag_ok 6 (by decide)) rfl rfl ⟨_, n11, rfl, k11⟩ (fun h9 => h9.2.1 (by rw [← (S.2.2.2 _ h9).2, k12]; decide)) d_Ag_begin_47 (fun f15 H locs Y S w15 => ?_)
  refine lv_iconst (v := iI 0) X.1 X.2.1 d_Ag_begin_50 (by decide) ?_
  have J18 : ∀ (n20 : Nat) (z17 : Int) (f16 : pF) (H : Heap) (locs : List Loc) (ls : Array Slot), (8 - z17).toNat = n20 → (0 ≤ z17) → (z17 ≤ 8) → pH D cCl (pA L sz) s.heap L11 f16 H locs → tS E T (tFr κ L [1, 2, 3, 4, 5, 6, 7, 8, 9, 10, 11, 12, 13, 14, 15, 16, 17, 18, 19, 20, 21] []) κ L f κ11 L11 f16 → lv_has ls 6 [(0, .ref h), (5, .int (iI z17))] → W p l e (kRm 7 181 2 64) s m AV below meth c H locs 2 64 QQ (F0 m 53 ls []) := by
    intro n20
    induction n20 using Nat.strongRecOn with
    | ind n20 ih19 =>
      intro z17 f16 H locs ls hm21 l17 u17 Y S hl
      refine lv_iload X.1 X.2.1 d_Ag_begin_53 (lv_at hl 1 rfl) ?_
      refine lv_bipush (v := iI 8) X.1 X.2.1 d_Ag_begin_55 (by decide) ?_
      refine z_icmp_ge (tgt := 77) X.1 X.2.1 d_Ag_begin_57 (by decide) ⟨by omega, by omega⟩ ⟨by omega, by omega⟩ (fun h22 => ?_) (fun h22 => ?_)
      · refine lv_aload_n X.1 X.2.1 d_Ag_begin_77 rfl (lv_at hl 0 rfl) ?_
        refine lv_iconst (v := iI 1) X.1 X.2.1 d_Ag_begin_78 (by decide) ?_
        refine t_put (ci := 2) X Y S k12 rfl i_Ag t_Ag t_Ag_ok n_Ag 2 (by decide) rfl lk_Ag_67 (fun _ h9 => h9) rfl (t_Ag_ok 2 (by decide)) (iI_bool (by omega) (by omega)).1 (iI_bool (by omega) (by omega)).2 ⟨_, rfl, by omega, by omega⟩ (fun h9 => h9.2.1 (by rw [← (S.2.2.2 _ h9).2, k12]; decide)) d_Ag_begin_79 (fun f23 H locs Y S w23 => ?_)
        refine lv_aload_n X.1 X.2.1 d_Ag_begin_82 rfl (lv_at hl 0 rfl) ?_
        refine lv_iconst (v := iI 0) X.1 X.2.1 d_Ag_begin_83 (by decide) ?_
        refine t_put (ci := 2) X Y S k12 rfl i_Ag t_Ag t_Ag_ok n_Ag 3 (by decide) rfl lk_Ag_68 (fun _ h9 => h9) rfl (t_Ag_ok 3 (by decide)) rfl rfl ⟨_, rfl, by omega, by omega⟩ (fun h9 => h9.2.1 (by rw [← (S.2.2.2 _ h9).2, k12]; decide)) d_Ag_begin_84 (fun f24 H locs Y S w24 => ?_)
        refine lv_aload_n X.1 X.2.1 d_Ag_begin_87 rfl (lv_at hl 0 rfl) ?_
        refine lv_iconst (v := iI 0) X.1 X.2.1 d_Ag_begin_88 (by decide) ?_
        refine t_put (ci := 2) X Y S k12 rfl i_Ag t_Ag t_Ag_ok n_Ag 7 (by decide) rfl lk_Ag_72 (fun _ h9 => h9) rfl (t_Ag_ok 7 (by decide)) rfl rfl ⟨_, rfl, by omega, by omega⟩ (fun h9 => h9.2.1 (by rw [← (S.2.2.2 _ h9).2, k12]; decide)) d_Ag_begin_89 (fun f25 H locs Y S w25 => ?_)
        refine lv_aload_n X.1 X.2.1 d_Ag_begin_92 rfl (lv_at hl 0 rfl) ?_
        refine lv_iconst (v := iI (-1)) X.1 X.2.1 d_Ag_begin_93 (by decide) ?_
        refine t_put (ci := 2) X Y S k12 rfl i_Ag t_Ag t_Ag_ok n_Ag 8 (by decide) rfl lk_Ag_75 (fun _ h9 => h9) rfl (t_Ag_ok 8 (by decide)) rfl rfl ⟨_, rfl, by omega, by omega⟩ (fun h9 => h9.2.1 (by rw [← (S.2.2.2 _ h9).2, k12]; decide)) d_Ag_begin_94 (fun f26 H locs Y S w26 => ?_)
        refine lv_aload_n X.1 X.2.1 d_Ag_begin_97 rfl (lv_at hl 0 rfl) ?_
        refine lv_ldc2 (v := (-1)) X.1 X.2.1 X.2.2.2.1 (X.2.2.1 _ cl_Ag_78) d_Ag_begin_98 ?_
        refine t_put (ci := 2) X Y S k12 rfl i_Ag t_Ag t_Ag_ok n_Ag 17 (by decide) rfl lk_Ag_80 (fun _ h9 => h9) rfl (t_Ag_ok 17 (by decide)) rfl rfl ⟨_, rfl⟩ (fun h9 => h9.2.1 (by rw [← (S.2.2.2 _ h9).2, k12]; decide)) d_Ag_begin_101 (fun f27 H locs Y S w27 => ?_)
        refine lv_aload_n X.1 X.2.1 d_Ag_begin_104 rfl (lv_at hl 0 rfl) ?_
        refine lv_lconst (v := 0) X.1 X.2.1 d_Ag_begin_105 rfl ?_
        refine t_put (ci := 2) X Y S k12 rfl i_Ag t_Ag t_Ag_ok n_Ag 19 (by decide) rfl lk_Ag_84 (fun _ h9 => h9) rfl (t_Ag_ok 19 (by decide)) rfl rfl ⟨_, rfl⟩ (fun h9 => h9.2.1 (by rw [← (S.2.2.2 _ h9).2, k12]; decide)) d_Ag_begin_106 (fun f28 H locs Y S w28 => ?_)
        refine lv_aload_n X.1 X.2.1 d_Ag_begin_109 rfl (lv_at hl 0 rfl) ?_
        refine lv_iconst (v := iI 0) X.1 X.2.1 d_Ag_begin_110 (by decide) ?_
        refine t_put (ci := 2) X Y S k12 rfl i_Ag t_Ag t_Ag_ok n_Ag 20 (by decide) rfl lk_Ag_87 (fun _ h9 => h9) rfl (t_Ag_ok 20 (by decide)) (iI_bool (by omega) (by omega)).1 (iI_bool (by omega) (by omega)).2 ⟨_, rfl, by omega, by omega⟩ (fun h9 => h9.2.1 (by rw [← (S.2.2.2 _ h9).2, k12]; decide)) d_Ag_begin_111 (fun f29 H locs Y S w29 => ?_)
        exact c_retv hQQ X Y hr hlk ⟨κ11, S, trivial⟩ d_Ag_begin_114
      · refine lv_aload_n X.1 X.2.1 d_Ag_begin_60 rfl (lv_at hl 0 rfl) ?_
        refine t_getr (ci := 2) X Y S k12 rfl i_Ag 1 (by decide) rfl (k1 := 8) (k2 := 8) rfl rfl lk_Ag_48 (fun _ h9 => h9) d_Ag_begin_61 (fun b30 e30 k30 => ?_)
        refine lv_iload X.1 X.2.1 d_Ag_begin_64 (lv_at hl 1 rfl) ?_
        refine t_aald X Y S k30 (fun h9 => h9) (t0 := 5) rfl (by omega) (by omega) (by omega) d_Ag_begin_66 (fun b31 e31 k31 => ?_)
        refine lv_iconst (v := iI 0) X.1 X.2.1 d_Ag_begin_67 (by decide) ?_
        refine t_put (ci := 10) X Y S k31 rfl i_Ti t_Ti t_Ti_ok n_Ti 3 (by decide) rfl lk_Ag_63 (fun _ h9 => h9) rfl (t_Ti_ok 3 (by decide)) (iI_bool (by omega) (by omega)).1 (iI_bool (by omega) (by omega)).2 ⟨_, rfl, by omega, by omega⟩ (fun h9 => h9.2.1 (by rw [← (S.2.2.2 _ h9).2, k31]; decide)) d_Ag_begin_68 (fun f32 H locs Y S w32 => ?_)
        refine lv_iinc (v := iI (z17 + 1)) (lv' := [(5, .int (iI (z17 + 1))), (0, .ref h)]) X.1 X.2.1 d_Ag_begin_71 hl (k := 1) rfl ((iI_add _ _).trans (congrArg iI (by omega))) (by decide) rfl (fun ls hl => ?_)
        refine lv_goto (tgt := 53) X.1 X.2.1 d_Ag_begin_74 (by decide) ?_
        exact ih19 ((8 - (z17 + 1)).toNat) (by omega) (z17 + 1) f32 _ _ _ rfl (by omega) (by omega) Y S (lv_sub hl [1, 0] rfl)
  refine lv_istore (lv' := [(5, .int (iI 0)), (0, .ref h), (1, .ref a1), (2, .ref a2), (3, .int (iI a3)), (4, .int (iI a4))]) X.1 X.2.1 d_Ag_begin_51 hl (by decide) rfl (fun ls hl => ?_)
  exact J18 _ 0 f15 _ _ _ rfl (by omega) (by omega) Y S (lv_sub hl [1, 0] rfl)
set_option maxHeartbeats 4000000 in
set_option maxRecDepth 100000 in
theorem c_Ag_keepAsked (l : Launch) (D : va_G) (E : cE) (T : cT) (κ : tK) (L : List Nat) (f : pF) (sz : Nat) (h : Nat) (k0 : κ h = (12, 0)) (a1 : Int) (l_a1 : (-2147483648) ≤ a1) (u_a1 : a1 ≤ 2147483647) (a2 : Int) (l_a2 : (-2147483648) ≤ a2) (u_a2 : a2 ≤ 2147483647) (a3 : Int) (l_a3 : (-2147483648) ≤ a3) (u_a3 : a3 ≤ 2147483647) (a4 : Int) (l_a4 : (-2147483648) ≤ a4) (u_a4 : a4 ≤ 2147483647) (a5 n5 : Nat) (k5 : κ a5 = (13, n5)) (x5 : n5 ≤ 12288) (hw : tW E T κ L f) : Met l y_Ag_keepAsked (k_Ag_keepAsked :: lw_tg) (kRm 6 181 1 32) (va_Pc [.ref h, .int (iI a1), .int (iI a2), .int (iI a3), .int (iI a4), .ref a5] (kPre D E T L f sz)) (va_Qv (aPv E T [1, 2, 3, 4, 5, 6, 7, 8, 9, 10, 11, 12, 13, 14, 15, 16, 17, 18, 19, 20, 21] [] κ L f (fun (k : tK) (g : pF) => True)) (cPost D E (pA L sz)) (pA L sz)) 1 32 (pA L sz) := by
  refine k_enter (own := R_Ag) (by decide) rfl (Nat.le_of_ble_eq_true rfl) (fun p e s m below meth c ls AV QQ H locs hQQ X Y hA hin hr hlk hml hl KS KR => ?_)
  have hl : lv_has ls 7 [(0, .ref h), (1, .int (iI a1)), (2, .int (iI a2)), (3, .int (iI a3)), (4, .int (iI a4)), (5, .ref a5)] := hl
  have S : tS E T (tFr κ L [1, 2, 3, 4, 5, 6, 7, 8, 9, 10, 11, 12, 13, 14, 15, 16, 17, 18, 19, 20, 21] []) κ L f κ L f := tS_rf hw
  have hF0 : ∀ b, tFr κ L [1, 2, 3, 4, 5, 6, 7, 8, 9, 10, 11, 12, 13, 14, 15, 16, 17, 18, 19, 20, 21] [] b → b ∈ L := fun b h9 => h9.1
  refine lv_iload_n X.1 X.2.1 d_Ag_keepAsked_0 rfl (lv_at hl 1 rfl) ?_
  refine lv_iconst (v := iI 2) X.1 X.2.1 d_Ag_keepAsked_1 (by decide) ?_
  have J1 : ∀  (H : Heap) (locs : List Loc) (ls : Array Slot), pH D cCl (pA L sz) s.heap L f H locs → tS E T (tFr κ L [1, 2, 3, 4, 5, 6, 7, 8, 9, 10, 11, 12, 13, 14, 15, 16, 17, 18, 19, 20, 21] []) κ L f κ L f → lv_has ls 7 [(0, .ref h), (1, .int (iI a1)), (2, .int (iI a2)), (3, .int (iI a3)), (4, .int (iI a4)), (5, .ref a5)] → W p l e (kRm 6 181 1 32) s m AV below meth c H locs 0 0 QQ (F0 m 17 ls []) := by
    intro  H locs ls  Y S hl
    refine lv_iconst (v := iI 0) X.1 X.2.1 d_Ag_keepAsked_17 (by decide) ?_
    refine lv_istore (lv' := [(6, .int (iI 0)), (0, .ref h), (1, .int (iI a1)), (2, .int (iI a2)), (3, .int (iI a3)), (4, .int (iI a4)), (5, .ref a5)]) X.1 X.2.1 d_Ag_keepAsked_18 hl (by decide) rfl (fun ls hl => ?_)
    refine lv_aload_n X.1 X.2.1 d_Ag_keepAsked_20 rfl (lv_at hl 1 rfl) ?_
    refine lv_iload_n X.1 X.2.1 d_Ag_keepAsked_21 rfl (lv_at hl 2 rfl) ?_
    refine t_put (ci := 2) X Y S k0 rfl i_Ag t_Ag t_Ag_ok n_Ag 8 (by decide) rfl lk_Ag_75 (fun _ h9 => h9) rfl (t_Ag_ok 8 (by decide)) rfl rfl ⟨_, rfl, by omega, by omega⟩ (fun h9 => h9.2.1 (by rw [← (S.2.2.2 _ h9).2, k0]; decide)) d_Ag_keepAsked_22 (fun f5 H locs Y S w5 => ?_)
    refine lv_aload_n X.1 X.2.1 d_Ag_keepAsked_25 rfl (lv_at hl 1 rfl) ?_
    refine lv_iload X.1 X.2.1 d_Ag_keepAsked_26 (lv_at hl 0 rfl) ?_
    have J8 : ∀ (z6 : Int) (z7 : Int) (H : Heap) (locs : List Loc) (ls : Array Slot), (0 ≤ z6) → (z6 ≤ 1) → (0 ≤ z7) → (z7 ≤ 1) → pH D cCl (pA L sz) s.heap L f5 H locs → tS E T (tFr κ L [1, 2, 3, 4, 5, 6, 7, 8, 9, 10, 11, 12, 13, 14, 15, 16, 17, 18, 19, 20, 21] []) κ L f κ L f5 → lv_has ls 7 [(0, .ref h), (2, .int (iI a2)), (4, .int (iI a4)), (5, .ref a5), (6, .int (iI z6))] → W p l e (kRm 6 181 1 32) s m AV below meth c H locs 0 0 QQ (F0 m 42 ls [.int (iI z7), .ref h]) := by
      intro z6 z7 H locs ls l6 u6 l7 u7 Y S hl
      refine t_put (ci := 2) X Y S k0 rfl i_Ag t_Ag t_Ag_ok n_Ag 10 (by decide) rfl lk_Ag_114 (fun _ h9 => h9) rfl (t_Ag_ok 10 (by decide)) (iI_bool (by omega) (by omega)).1 (iI_bool (by omega) (by omega)).2 ⟨_, rfl, by omega, by omega⟩ (fun h9 => h9.2.1 (by rw [← (S.2.2.2 _ h9).2, k0]; decide)) d_Ag_keepAsked_42 (fun f12 H locs Y S w12 => ?_)
      refine lv_aload_n X.1 X.2.1 d_Ag_keepAsked_45 rfl (lv_at hl 0 rfl) ?_
      refine lv_iload X.1 X.2.1 d_Ag_keepAsked_46 (lv_at hl 2 rfl) ?_
      refine t_put (ci := 2) X Y S k0 rfl i_Ag t_Ag t_Ag_ok n_Ag 11 (by decide) rfl lk_Ag_105 (fun _ h9 => h9) rfl (t_Ag_ok 11 (by decide)) rfl rfl ⟨_, rfl, by omega, by omega⟩ (fun h9 => h9.2.1 (by rw [← (S.2.2.2 _ h9).2, k0]; decide)) d_Ag_keepAsked_48 (fun f13 H locs Y S w13 => ?_)
      refine lv_aload_n X.1 X.2.1 d_Ag_keepAsked_51 rfl (lv_at hl 0 rfl) ?_
      refine t_getr (ci := 2) X Y S k0 rfl i_Ag 13 (by decide) rfl (k1 := 13) (k2 := 40) rfl rfl lk_Ag_33 (fun _ h9 => h9) d_Ag_keepAsked_52 (fun b14 e14 k14 => ?_)
      refine lv_aload X.1 X.2.1 d_Ag_keepAsked_55 (lv_at hl 3 rfl) ?_
      refine t_nv (t_runV (As := [.ref a5]) (rest := []) (n := 1) X Y S k14 hml hl.1 (c_By_copyOf l D E T κ L f13 H.size b14 40 k14 (by omega) a5 n5 k5 (by omega) S.1) (ok_k X Y hA KS KR) rfl kl_Ag_By_copyOf ks_By_copyOf kx_By_copyOf ki_By_copyOf ini_By ⟨rfl, rfl⟩ hd_By_copyOf ⟨Nat.le_of_ble_eq_true rfl, Nat.le_of_ble_eq_true rfl⟩ rfl (Nat.le_of_ble_eq_true rfl) d_Ag_keepAsked_57 ⟨Nat.le_of_ble_eq_true rfl, Nat.le_of_ble_eq_true rfl⟩) X Y hA S (by decide) (fun f15 H locs Y S s15 p15 => ?_)
      refine lv_aload_n X.1 X.2.1 d_Ag_keepAsked_60 rfl (lv_at hl 0 rfl) ?_
      refine t_getr (ci := 2) X Y S k0 rfl i_Ag 12 (by decide) rfl (k1 := 13) (k2 := 40) rfl rfl lk_Ag_30 (fun _ h9 => h9) d_Ag_keepAsked_61 (fun b16 e16 k16 => ?_)
      refine lv_iload X.1 X.2.1 d_Ag_keepAsked_64 (lv_at hl 4 rfl) ?_
      have J19 : ∀ (b17 : Nat) (H : Heap) (locs : List Loc) (ls : Array Slot), (κ b17 = (13, 40)) → pH D cCl (pA L sz) s.heap L f15 H locs → tS E T (tFr κ L [1, 2, 3, 4, 5, 6, 7, 8, 9, 10, 11, 12, 13, 14, 15, 16, 17, 18, 19, 20, 21] []) κ L f κ L f15 → lv_has ls 7 [(0, .ref h), (2, .int (iI a2)), (6, .int (iI z36))] → W p l e (kRm 6 181 1 32) s m AV below meth c H locs 0 0 QQ (F0 m 85 ls [.ref b17, .ref b42]) := by
        intro b17 H locs ls k18 Y S hl
        refine t_nv (t_runV (As := [.ref b17]) (rest := []) (n := 1) X Y S k42 hml hl.1 (c_By_copyOf l D E T κ L f15 H.size b42 40 k42 (by omega) b17 40 k18 (by omega) S.1) (ok_k X Y hA KS KR) rfl kl_Ag_By_copyOf ks_By_copyOf kx_By_copyOf ki_By_copyOf ini_By ⟨rfl, rfl⟩ hd_By_copyOf ⟨Nat.le_of_ble_eq_true rfl, Nat.le_of_ble_eq_true rfl⟩ rfl (Nat.le_of_ble_eq_true rfl) d_Ag_keepAsked_85 ⟨Nat.le_of_ble_eq_true rfl, Nat.le_of_ble_eq_true rfl⟩) X Y hA S (by decide) (fun f23 H locs Y S s23 p23 => ?_)
        refine lv_aload_n X.1 X.2.1 d_Ag_keepAsked_88 rfl (lv_at hl 0 rfl) ?_
        refine lv_aload_n X.1 X.2.1 d_Ag_keepAsked_89 rfl (lv_at hl 0 rfl) ?_
        refine t_getr (ci := 2) X Y S k0 rfl i_Ag 0 (by decide) rfl (k1 := 21) (k2 := 0) rfl rfl lk_Ag_42 (fun _ h9 => h9) d_Ag_keepAsked_90 (fun b24 e24 k24 => ?_)
        refine t_ni (t_runV (As := []) (rest := [.ref h]) (n := 0) X Y S k24 hml hl.1 (c_Va_freshNumber l D E T κ L f23 H.size b24 k24 S.1) (ok_k X Y hA KS KR) rfl kl_Ag_Va_freshNumber ks_Va_freshNumber kx_Va_freshNumber ki_Va_freshNumber ini_Va ⟨rfl, rfl⟩ hd_Va_freshNumber ⟨Nat.le_of_ble_eq_true rfl, Nat.le_of_ble_eq_true rfl⟩ rfl (Nat.le_of_ble_eq_true rfl) d_Ag_keepAsked_93 ⟨Nat.le_of_ble_eq_true rfl, Nat.le_of_ble_eq_true rfl⟩) X Y hA S (by decide) (fun z25 f25 H locs Y S s25 p25 => ?_)
        obtain ⟨l25, u25⟩ := p25
        refine lv_ldc (v := (2147483647)) X.1 X.2.1 X.2.2.2.1 (X.2.2.1 _ cn_Ag_122) d_Ag_keepAsked_96 ?_
        refine t_eq (y := iI 2147483647) (by decide) ?_
        refine z_iand X.1 X.2.1 (by omega) (by omega) d_Ag_keepAsked_98 (fun z26 l26 u26 => ?_)
        refine t_put (ci := 2) X Y S k0 rfl i_Ag t_Ag t_Ag_ok n_Ag 9 (by decide) rfl lk_Ag_123 (fun _ h9 => h9) rfl (t_Ag_ok 9 (by decide)) rfl rfl ⟨_, rfl, by omega, by omega⟩ (fun h9 => h9.2.1 (by rw [← (S.2.2.2 _ h9).2, k0]; decide)) d_Ag_keepAsked_99 (fun f27 H locs Y S w27 => ?_)
        refine lv_aload_n X.1 X.2.1 d_Ag_keepAsked_102 rfl (lv_at hl 0 rfl) ?_
        refine lv_iload X.1 X.2.1 d_Ag_keepAsked_103 (lv_at hl 2 rfl) ?_
        refine z_if_eq (tgt := 130) X.1 X.2.1 d_Ag_keepAsked_105 (by decide) ⟨by omega, by omega⟩ (fun h28 => ?_) (fun h28 => ?_)
        · refine k_getsN X Y KS KR (by decide) d_Ag_keepAsked_130 ?_
          refine t_put (ci := 2) X Y S k0 rfl i_Ag t_Ag t_Ag_ok n_Ag 14 (by decide) rfl lk_Ag_36 (fun _ h9 => h9) rfl (t_Ag_ok 14 (by decide)) rfl rfl ⟨_, 0, rfl, tKey_no⟩ (fun h9 => h9.2.1 (by rw [← (S.2.2.2 _ h9).2, k0]; decide)) d_Ag_keepAsked_133 (fun f29 H locs Y S w29 => ?_)
          refine W.widen (k := 1) (n := 32) (Nat.le_of_ble_eq_true rfl) (Nat.le_of_ble_eq_true rfl) ?_
          exact c_retv hQQ X Y hr hlk ⟨κ, S, trivial⟩ d_Ag_keepAsked_136
        · refine lv_aload_n X.1 X.2.1 d_Ag_keepAsked_108 rfl (lv_at hl 0 rfl) ?_
          refine t_get0 (ci := 2) X Y S k0 rfl i_Ag 0 (by decide) rfl lk_Ag_42 (fun _ h9 => h9) d_Ag_keepAsked_109 ((gF_put w27 (Or.inr (by decide))).trans ((gF_same (s25.2.2.2 _ ⟨(t_obj S.1 k0).1, by rw [k0]; decide, by simp⟩).1 0).trans e24)) ?_
          refine lv_aload_n X.1 X.2.1 d_Ag_keepAsked_112 rfl (lv_at hl 0 rfl) ?_
          refine t_getr (ci := 2) X Y S k0 rfl i_Ag 1 (by decide) rfl (k1 := 8) (k2 := 8) rfl rfl lk_Ag_48 (fun _ h9 => h9) d_Ag_keepAsked_113 (fun b30 e30 k30 => ?_)
          refine lv_iload_n X.1 X.2.1 d_Ag_keepAsked_116 rfl (lv_at hl 1 rfl) ?_
          refine t_aald X Y S k30 (fun h9 => h9) (t0 := 5) rfl (by omega) (by omega) (by omega) d_Ag_keepAsked_117 (fun b31 e31 k31 => ?_)
          refine t_getk (ci := 10) X Y S k31 rfl i_Ti 4 (by decide) rfl lk_Ag_126 (fun _ h9 => h9) d_Ag_keepAsked_118 (fun b32 n32 e32 k32 x32 => ?_)
          refine t_ui (x_runS (As := [.ref b32]) (rest := [.ref b24, .ref h]) (n := 1) X hml hl.1 (c_Va_typeOf l D E T κ L f27 H.size b32 n32 k32 (by omega) S.1) (ok_k X Y hA KS KR) kl_Ag_Va_typeOf ks_Va_typeOf ki_Va_typeOf ini_Va ⟨rfl, rfl⟩ hd_Va_typeOf.2 ⟨Nat.le_of_ble_eq_true rfl, Nat.le_of_ble_eq_true rfl⟩ rfl (Nat.le_of_ble_eq_true rfl) d_Ag_keepAsked_121 ⟨Nat.le_of_ble_eq_true rfl, Nat.le_of_ble_eq_true rfl⟩) X Y hA (fun z33 H locs Y p33 => ?_)
          obtain ⟨l33, u33⟩ := p33
          refine t_ar (t_runV (As := [.int (iI z33)]) (rest := [.ref h]) (n := 1) X Y S k24 hml hl.1 (c_Va_freshKey l D E T κ L f27 H.size b24 k24 z33 (by omega) (by omega) S.1) (ok_k X Y hA KS KR) rfl kl_Ag_Va_freshKey ks_Va_freshKey kx_Va_freshKey ki_Va_freshKey ini_Va ⟨rfl, rfl⟩ hd_Va_freshKey ⟨Nat.le_of_ble_eq_true rfl, Nat.le_of_ble_eq_true rfl⟩ rfl (Nat.le_of_ble_eq_true rfl) d_Ag_keepAsked_124 ⟨Nat.le_of_ble_eq_true rfl, Nat.le_of_ble_eq_true rfl⟩) X Y hA S (by decide) (fun b34 κ34 L34 f34 H locs Y S s34 p34 => ?_)
          obtain ⟨n34, k34⟩ := p34
          have x34 := tKey_n k34
          have k35 : κ34 h = (12, 0) := tLe_k s34.2.2.1 k0
          refine lv_goto (tgt := 133) X.1 X.2.1 d_Ag_keepAsked_127 (by decide) ?_
          refine t_put (ci := 2) X Y S k35 rfl i_Ag t_Ag t_Ag_ok n_Ag 14 (by decide) rfl lk_Ag_36 (fun _ h9 => h9) rfl (t_Ag_ok 14 (by decide)) rfl rfl ⟨_, n34, rfl, k34⟩ (fun h9 => h9.2.1 (by rw [← (S.2.2.2 _ h9).2, k35]; decide)) d_Ag_keepAsked_133 (fun f36 H locs Y S w36 => ?_)
          exact c_retv hQQ X Y hr hlk ⟨κ34, S, trivial⟩ d_Ag_keepAsked_136
      refine z_if_eq (tgt := 81) X.1 X.2.1 d_Ag_keepAsked_66 (by decide) ⟨by omega, by omega⟩ (fun h37 => ?_) (fun h37 => ?_)
      · refine lv_aload_n X.1 X.2.1 d_Ag_keepAsked_81 rfl (lv_at hl 0 rfl) ?_
        refine t_getr (ci := 2) X Y S k0 rfl i_Ag 4 (by decide) rfl (k1 := 13) (k2 := 40) rfl rfl lk_Ag_14 (fun _ h9 => h9) d_Ag_keepAsked_82 (fun b38 e38 k38 => ?_)
        exact J19 b38 _ _ _ k38 Y S (lv_sub hl [0, 1, 4] rfl)
      · refine lv_aload_n X.1 X.2.1 d_Ag_keepAsked_69 rfl (lv_at hl 0 rfl) ?_
        refine t_getr (ci := 2) X Y S k0 rfl i_Ag 1 (by decide) rfl (k1 := 8) (k2 := 8) rfl rfl lk_Ag_48 (fun _ h9 => h9) d_Ag_keepAsked_70 (fun b39 e39 k39 => ?_)
        refine lv_iload_n X.1 X.2.1 d_Ag_keepAsked_73 rfl (lv_at hl 1 rfl) ?_
        refine t_aald X Y S k39 (fun h9 => h9) (t0 := 5) rfl (by omega) (by omega) (by omega) d_Ag_keepAsked_74 (fun b40 e40 k40 => ?_)
        refine t_getr (ci := 10) X Y S k40 rfl i_Ti 1 (by decide) rfl (k1 := 13) (k2 := 40) rfl rfl lk_Ag_117 (fun _ h9 => h9) d_Ag_keepAsked_75 (fun b41 e41 k41 => ?_)
        refine lv_goto (tgt := 85) X.1 X.2.1 d_Ag_keepAsked_78 (by decide) ?_
        exact J19 b41 _ _ _ k41 Y S (lv_sub hl [0, 1, 4] rfl)
    have J43 : ∀ (z42 : Int) (H : Heap) (locs : List Loc) (ls : Array Slot), (0 ≤ z42) → (z42 ≤ 1) → pH D cCl (pA L sz) s.heap L f5 H locs → tS E T (tFr κ L [1, 2, 3, 4, 5, 6, 7, 8, 9, 10, 11, 12, 13, 14, 15, 16, 17, 18, 19, 20, 21] []) κ L f κ L f5 → lv_has ls 7 [(0, .ref h), (2, .int (iI a2)), (4, .int (iI a4)), (5, .ref a5), (6, .int (iI z42))] → W p l e (kRm 6 181 1 32) s m AV below meth c H locs 0 0 QQ (F0 m 41 ls [.ref h]) := by
      intro z42 H locs ls l42 u42 Y S hl
      refine lv_iconst (v := iI 0) X.1 X.2.1 d_Ag_keepAsked_41 (by decide) ?_
      exact J8 z42 0 _ _ _ (by omega) (by omega) (by omega) (by omega) Y S (lv_sub hl [0, 1, 2, 3, 4] rfl)
    refine z_if_eq (tgt := 41) X.1 X.2.1 d_Ag_keepAsked_28 (by decide) ⟨by omega, by omega⟩ (fun h47 => ?_) (fun h47 => False.elim (by omega))
    · exact J43 0 _ _ _ (by omega) (by omega) Y S (lv_sub hl [1, 3, 5, 6, 0] rfl)
  refine z_icmp_ne (tgt := 17) X.1 X.2.1 d_Ag_keepAsked_2 (by decide) ⟨by omega, by omega⟩ ⟨by omega, by omega⟩ (fun h48 => ?_) (fun h48 => ?_)
  · exact J1  _ _ _  Y S (lv_sub hl [0, 1, 2, 3, 4, 5] rfl)
  · refine lv_aload_n X.1 X.2.1 d_Ag_keepAsked_5 rfl (lv_at hl 0 rfl) ?_
    refine lv_iload_n X.1 X.2.1 d_Ag_keepAsked_6 rfl (lv_at hl 2 rfl) ?_
    refine t_ui (t_runV (As := [.int (iI a2)]) (rest := []) (n := 1) X Y S k0 hml hl.1 (c_Ag_has l D E T κ L f H.size h k0 a2 (by omega) (by omega) S.1) (ok_k X Y hA KS KR) rfl kl_Ag_Ag_has ks_Ag_has kx_Ag_has ki_Ag_has ini_Ag ⟨rfl, rfl⟩ hd_Ag_has ⟨Nat.le_of_ble_eq_true rfl, Nat.le_of_ble_eq_true rfl⟩ rfl (Nat.le_of_ble_eq_true rfl) d_Ag_keepAsked_7 ⟨Nat.le_of_ble_eq_true rfl, Nat.le_of_ble_eq_true rfl⟩) X Y hA (fun z49 H locs Y p49 => ?_)
    obtain ⟨l49, u49, x49⟩ := p49
    refine z_if_eq (tgt := 17) X.1 X.2.1 d_Ag_keepAsked_10 (by decide) ⟨by omega, by omega⟩ (fun h50 => ?_) (fun h50 => ?_)
    · exact J1  _ _ _  Y S (lv_sub hl [0, 1, 2, 3, 4, 5] rfl)
    · refine lv_iconst (v := iI 1) X.1 X.2.1 d_Ag_keepAsked_13 (by decide) ?_
      refine lv_goto (tgt := 18) X.1 X.2.1 d_Ag_keepAsked_14 (by decide) ?_
      refine lv_istore (lv' := [(6, .int (iI 1)), (0, .ref h), (1, .int (iI a1)), (2, .int (iI a2)), (3, .int (iI a3)), (4, .int (iI a4)), (5, .ref a5)]) X.1 X.2.1 d_Ag_keepAsked_18 hl (by decide) rfl (fun ls hl => ?_)
      refine lv_aload_n X.1 X.2.1 d_Ag_keepAsked_20 rfl (lv_at hl 1 rfl) ?_
      refine lv_iload_n X.1 X.2.1 d_Ag_keepAsked_21 rfl (lv_at hl 2 rfl) ?_
      refine t_put (ci := 2) X Y S k0 rfl i_Ag t_Ag t_Ag_ok n_Ag 8 (by decide) rfl lk_Ag_75 (fun _ h9 => h9) rfl (t_Ag_ok 8 (by decide)) rfl rfl ⟨_, rfl, by omega, by omega⟩ (fun h9 => h9.2.1 (by rw [← (S.2.2.2 _ h9).2, k0]; decide)) d_Ag_keepAsked_22 (fun f51 H locs Y S w51 => ?_)
      refine lv_aload_n X.1 X.2.1 d_Ag_keepAsked_25 rfl (lv_at hl 1 rfl) ?_
      refine lv_iload X.1 X.2.1 d_Ag_keepAsked_26 (lv_at hl 0 rfl) ?_
      have J54 : ∀ (z52 : Int) (z53 : Int) (H : Heap) (locs : List Loc) (ls : Array Slot), (0 ≤ z52) → (z52 ≤ 1) → (0 ≤ z53) → (z53 ≤ 1) → pH D cCl (pA L sz) s.heap L f51 H locs → tS E T (tFr κ L [1, 2, 3, 4, 5, 6, 7, 8, 9, 10, 11, 12, 13, 14, 15, 16, 17, 18, 19, 20, 21] []) κ L f κ L f51 → lv_has ls 7 [(0, .ref h), (2, .int (iI a2)), (4, .int (iI a4)), (5, .ref a5), (6, .int (iI z52))] → W p l e (kRm 6 181 1 32) s m AV below meth c H locs 0 0 QQ (F0 m 42 ls [.int (iI z53), .ref h]) := by
        intro z52 z53 H locs ls l52 u52 l53 u53 Y S hl
        refine t_put (ci := 2) X Y S k0 rfl i_Ag t_Ag t_Ag_ok n_Ag 10 (by decide) rfl lk_Ag_114 (fun _ h9 => h9) rfl (t_Ag_ok 10 (by decide)) (iI_bool (by omega) (by omega)).1 (iI_bool (by omega) (by omega)).2 ⟨_, rfl, by omega, by omega⟩ (fun h9 => h9.2.1 (by rw [← (S.2.2.2 _ h9).2, k0]; decide)) d_Ag_keepAsked_42 (fun f58 H locs Y S w58 => ?_)
        refine lv_aload_n X.1 X.2.1 d_Ag_keepAsked_45 rfl (lv_at hl 0 rfl) ?_
        refine lv_iload X.1 X.2.1 d_Ag_keepAsked_46 (lv_at hl 2 rfl) ?_
        refine t_put (ci := 2) X Y S k0 rfl i_Ag t_Ag t_Ag_ok n_Ag 11 (by decide) rfl lk_Ag_105 (fun _ h9 => h9) rfl (t_Ag_ok 11 (by decide)) rfl rfl ⟨_, rfl, by omega, by omega⟩ (fun h9 => h9.2.1 (by rw [← (S.2.2.2 _ h9).2, k0]; decide)) d_Ag_keepAsked_48 (fun f59 H locs Y S w59 => ?_)
        refine lv_aload_n X.1 X.2.1 d_Ag_keepAsked_51 rfl (lv_at hl 0 rfl) ?_
        refine t_getr (ci := 2) X Y S k0 rfl i_Ag 13 (by decide) rfl (k1 := 13) (k2 := 40) rfl rfl lk_Ag_33 (fun _ h9 => h9) d_Ag_keepAsked_52 (fun b60 e60 k60 => ?_)
        refine lv_aload X.1 X.2.1 d_Ag_keepAsked_55 (lv_at hl 3 rfl) ?_
        refine t_nv (t_runV (As := [.ref a5]) (rest := []) (n := 1) X Y S k60 hml hl.1 (c_By_copyOf l D E T κ L f59 H.size b60 40 k60 (by omega) a5 n5 k5 (by omega) S.1) (ok_k X Y hA KS KR) rfl kl_Ag_By_copyOf ks_By_copyOf kx_By_copyOf ki_By_copyOf ini_By ⟨rfl, rfl⟩ hd_By_copyOf ⟨Nat.le_of_ble_eq_true rfl, Nat.le_of_ble_eq_true rfl⟩ rfl (Nat.le_of_ble_eq_true rfl) d_Ag_keepAsked_57 ⟨Nat.le_of_ble_eq_true rfl, Nat.le_of_ble_eq_true rfl⟩) X Y hA S (by decide) (fun f61 H locs Y S s61 p61 => ?_)
        refine lv_aload_n X.1 X.2.1 d_Ag_keepAsked_60 rfl (lv_at hl 0 rfl) ?_
        refine t_getr (ci := 2) X Y S k0 rfl i_Ag 12 (by decide) rfl (k1 := 13) (k2 := 40) rfl rfl lk_Ag_30 (fun _ h9 => h9) d_Ag_keepAsked_61 (fun b62 e62 k62 => ?_)
        refine lv_iload X.1 X.2.1 d_Ag_keepAsked_64 (lv_at hl 4 rfl) ?_
        have J65 : ∀ (b63 : Nat) (H : Heap) (locs : List Loc) (ls : Array Slot), (κ b63 = (13, 40)) → pH D cCl (pA L sz) s.heap L f61 H locs → tS E T (tFr κ L [1, 2, 3, 4, 5, 6, 7, 8, 9, 10, 11, 12, 13, 14, 15, 16, 17, 18, 19, 20, 21] []) κ L f κ L f61 → lv_has ls 7 [(0, .ref h), (2, .int (iI a2)), (6, .int (iI z36))] → W p l e (kRm 6 181 1 32) s m AV below meth c H locs 0 0 QQ (F0 m 85 ls [.ref b63, .ref b42]) := by
          intro b63 H locs ls k64 Y S hl
          refine t_nv (t_runV (As := [.ref b63]) (rest := []) (n := 1) X Y S k42 hml hl.1 (c_By_copyOf l D E T κ L f61 H.size b42 40 k42 (by omega) b63 40 k64 (by omega) S.1) (ok_k X Y hA KS KR) rfl kl_Ag_By_copyOf ks_By_copyOf kx_By_copyOf ki_By_copyOf ini_By ⟨rfl, rfl⟩ hd_By_copyOf ⟨Nat.le_of_ble_eq_true rfl, Nat.le_of_ble_eq_true rfl⟩ rfl (Nat.le_of_ble_eq_true rfl) d_Ag_keepAsked_85 ⟨Nat.le_of_ble_eq_true rfl, Nat.le_of_ble_eq_true rfl⟩) X Y hA S (by decide) (fun f69 H locs Y S s69 p69 => ?_)
          refine lv_aload_n X.1 X.2.1 d_Ag_keepAsked_88 rfl (lv_at hl 0 rfl) ?_
          refine lv_aload_n X.1 X.2.1 d_Ag_keepAsked_89 rfl (lv_at hl 0 rfl) ?_
          refine t_getr (ci := 2) X Y S k0 rfl i_Ag 0 (by decide) rfl (k1 := 21) (k2 := 0) rfl rfl lk_Ag_42 (fun _ h9 => h9) d_Ag_keepAsked_90 (fun b70 e70 k70 => ?_)
          refine t_ni (t_runV (As := []) (rest := [.ref h]) (n := 0) X Y S k70 hml hl.1 (c_Va_freshNumber l D E T κ L f69 H.size b70 k70 S.1) (ok_k X Y hA KS KR) rfl kl_Ag_Va_freshNumber ks_Va_freshNumber kx_Va_freshNumber ki_Va_freshNumber ini_Va ⟨rfl, rfl⟩ hd_Va_freshNumber ⟨Nat.le_of_ble_eq_true rfl, Nat.le_of_ble_eq_true rfl⟩ rfl (Nat.le_of_ble_eq_true rfl) d_Ag_keepAsked_93 ⟨Nat.le_of_ble_eq_true rfl, Nat.le_of_ble_eq_true rfl⟩) X Y hA S (by decide) (fun z71 f71 H locs Y S s71 p71 => ?_)
          obtain ⟨l71, u71⟩ := p71
          refine lv_ldc (v := (2147483647)) X.1 X.2.1 X.2.2.2.1 (X.2.2.1 _ cn_Ag_122) d_Ag_keepAsked_96 ?_
          refine t_eq (y := iI 2147483647) (by decide) ?_
          refine z_iand X.1 X.2.1 (by omega) (by omega) d_Ag_keepAsked_98 (fun z72 l72 u72 => ?_)
          refine t_put (ci := 2) X Y S k0 rfl i_Ag t_Ag t_Ag_ok n_Ag 9 (by decide) rfl lk_Ag_123 (fun _ h9 => h9) rfl (t_Ag_ok 9 (by decide)) rfl rfl ⟨_, rfl, by omega, by omega⟩ (fun h9 => h9.2.1 (by rw [← (S.2.2.2 _ h9).2, k0]; decide)) d_Ag_keepAsked_99 (fun f73 H locs Y S w73 => ?_)
          refine lv_aload_n X.1 X.2.1 d_Ag_keepAsked_102 rfl (lv_at hl 0 rfl) ?_
          refine lv_iload X.1 X.2.1 d_Ag_keepAsked_103 (lv_at hl 2 rfl) ?_
          refine z_if_eq (tgt := 130) X.1 X.2.1 d_Ag_keepAsked_105 (by decide) ⟨by omega, by omega⟩ (fun h74 => ?_) (fun h74 => ?_)
          · refine k_getsN X Y KS KR (by decide) d_Ag_keepAsked_130 ?_
            refine t_put (ci := 2) X Y S k0 rfl i_Ag t_Ag t_Ag_ok n_Ag 14 (by decide) rfl lk_Ag_36 (fun _ h9 => h9) rfl (t_Ag_ok 14 (by decide)) rfl rfl ⟨_, 0, rfl, tKey_no⟩ (fun h9 => h9.2.1 (by rw [← (S.2.2.2 _ h9).2, k0]; decide)) d_Ag_keepAsked_133 (fun f75 H locs Y S w75 => ?_)
            refine W.widen (k := 1) (n := 32) (Nat.le_of_ble_eq_true rfl) (Nat.le_of_ble_eq_true rfl) ?_
            exact c_retv hQQ X Y hr hlk ⟨κ, S, trivial⟩ d_Ag_keepAsked_136
          · refine lv_aload_n X.1 X.2.1 d_Ag_keepAsked_108 rfl (lv_at hl 0 rfl) ?_
            refine t_get0 (ci := 2) X Y S k0 rfl i_Ag 0 (by decide) rfl lk_Ag_42 (fun _ h9 => h9) d_Ag_keepAsked_109 ((gF_put w73 (Or.inr (by decide))).trans ((gF_same (s71.2.2.2 _ ⟨(t_obj S.1 k0).1, by rw [k0]; decide, by simp⟩).1 0).trans e70)) ?_
            refine lv_aload_n X.1 X.2.1 d_Ag_keepAsked_112 rfl (lv_at hl 0 rfl) ?_
            refine t_getr (ci := 2) X Y S k0 rfl i_Ag 1 (by decide) rfl (k1 := 8) (k2 := 8) rfl rfl lk_Ag_48 (fun _ h9 => h9) d_Ag_keepAsked_113 (fun b76 e76 k76 => ?_)
            refine lv_iload_n X.1 X.2.1 d_Ag_keepAsked_116 rfl (lv_at hl 1 rfl) ?_
            refine t_aald X Y S k76 (fun h9 => h9) (t0 := 5) rfl (by omega) (by omega) (by omega) d_Ag_keepAsked_117 (fun b77 e77 k77 => ?_)
            refine t_getk (ci := 10) X Y S k77 rfl i_Ti 4 (by decide) rfl lk_Ag_126 (fun _ h9 => h9) d_Ag_keepAsked_118 (fun b78 n78 e78 k78 x78 => ?_)
            refine t_ui (x_runS (As := [.ref b78]) (rest := [.ref b70, .ref h]) (n := 1) X hml hl.1 (c_Va_typeOf l D E T κ L f73 H.size b78 n78 k78 (by omega) S.1) (ok_k X Y hA KS KR) kl_Ag_Va_typeOf ks_Va_typeOf ki_Va_typeOf ini_Va ⟨rfl, rfl⟩ hd_Va_typeOf.2 ⟨Nat.le_of_ble_eq_true rfl, Nat.le_of_ble_eq_true rfl⟩ rfl (Nat.le_of_ble_eq_true rfl) d_Ag_keepAsked_121 ⟨Nat.le_of_ble_eq_true rfl, Nat.le_of_ble_eq_true rfl⟩) X Y hA (fun z79 H locs Y p79 => ?_)
            obtain ⟨l79, u79⟩ := p79
            refine t_ar (t_runV (As := [.int (iI z79)]) (rest := [.ref h]) (n := 1) X Y S k70 hml hl.1 (c_Va_freshKey l D E T κ L f73 H.size b70 k70 z79 (by omega) (by omega) S.1) (ok_k X Y hA KS KR) rfl kl_Ag_Va_freshKey ks_Va_freshKey kx_Va_freshKey ki_Va_freshKey ini_Va ⟨rfl, rfl⟩ hd_Va_freshKey ⟨Nat.le_of_ble_eq_true rfl, Nat.le_of_ble_eq_true rfl⟩ rfl (Nat.le_of_ble_eq_true rfl) d_Ag_keepAsked_124 ⟨Nat.le_of_ble_eq_true rfl, Nat.le_of_ble_eq_true rfl⟩) X Y hA S (by decide) (fun b80 κ80 L80 f80 H locs Y S s80 p80 => ?_)
            obtain ⟨n80, k80⟩ := p80
            have x80 := tKey_n k80
            have k81 : κ80 h = (12, 0) := tLe_k s80.2.2.1 k0
            refine lv_goto (tgt := 133) X.1 X.2.1 d_Ag_keepAsked_127 (by decide) ?_
            refine t_put (ci := 2) X Y S k81 rfl i_Ag t_Ag t_Ag_ok n_Ag 14 (by decide) rfl lk_Ag_36 (fun _ h9 => h9) rfl (t_Ag_ok 14 (by decide)) rfl rfl ⟨_, n80, rfl, k80⟩ (fun h9 => h9.2.1 (by rw [← (S.2.2.2 _ h9).2, k81]; decide)) d_Ag_keepAsked_133 (fun f82 H locs Y S w82 => ?_)
            exact c_retv hQQ X Y hr hlk ⟨κ80, S, trivial⟩ d_Ag_keepAsked_136
        refine z_if_eq (tgt := 81) X.1 X.2.1 d_Ag_keepAsked_66 (by decide) ⟨by omega, by omega⟩ (fun h83 => ?_) (fun h83 => ?_)
        · refine lv_aload_n X.1 X.2.1 d_Ag_keepAsked_81 rfl (lv_at hl 0 rfl) ?_
          refine t_getr (ci := 2) X Y S k0 rfl i_Ag 4 (by decide) rfl (k1 := 13) (k2 := 40) rfl rfl lk_Ag_14 (fun _ h9 => h9) d_Ag_keepAsked_82 (fun b84 e84 k84 => ?_)
          exact J65 b84 _ _ _ k84 Y S (lv_sub hl [0, 1, 4] rfl)
        · refine lv_aload_n X.1 X.2.1 d_Ag_keepAsked_69 rfl (lv_at hl 0 rfl) ?_
          refine t_getr (ci := 2) X Y S k0 rfl i_Ag 1 (by decide) rfl (k1 := 8) (k2 := 8) rfl rfl lk_Ag_48 (fun _ h9 => h9) d_Ag_keepAsked_70 (fun b85 e85 k85 => ?_)
          refine lv_iload_n X.1 X.2.1 d_Ag_keepAsked_73 rfl (lv_at hl 1 rfl) ?_
          refine t_aald X Y S k85 (fun h9 => h9) (t0 := 5) rfl (by omega) (by omega) (by omega) d_Ag_keepAsked_74 (fun b86 e86 k86 => ?_)
          refine t_getr (ci := 10) X Y S k86 rfl i_Ti 1 (by decide) rfl (k1 := 13) (k2 := 40) rfl rfl lk_Ag_117 (fun _ h9 => h9) d_Ag_keepAsked_75 (fun b87 e87 k87 => ?_)
          refine lv_goto (tgt := 85) X.1 X.2.1 d_Ag_keepAsked_78 (by decide) ?_
          exact J65 b87 _ _ _ k87 Y S (lv_sub hl [0, 1, 4] rfl)
      have J89 : ∀ (z88 : Int) (H : Heap) (locs : List Loc) (ls : Array Slot), (0 ≤ z88) → (z88 ≤ 1) → pH D cCl (pA L sz) s.heap L f51 H locs → tS E T (tFr κ L [1, 2, 3, 4, 5, 6, 7, 8, 9, 10, 11, 12, 13, 14, 15, 16, 17, 18, 19, 20, 21] []) κ L f κ L f51 → lv_has ls 7 [(0, .ref h), (2, .int (iI a2)), (4, .int (iI a4)), (5, .ref a5), (6, .int (iI z88))] → W p l e (kRm 6 181 1 32) s m AV below meth c H locs 0 0 QQ (F0 m 41 ls [.ref h]) := by
        intro z88 H locs ls l88 u88 Y S hl
        refine lv_iconst (v := iI 0) X.1 X.2.1 d_Ag_keepAsked_41 (by decide) ?_
        exact J54 z88 0 _ _ _ (by omega) (by omega) (by omega) (by omega) Y S (lv_sub hl [0, 1, 2, 3, 4] rfl)
      refine z_if_eq (tgt := 41) X.1 X.2.1 d_Ag_keepAsked_28 (by decide) ⟨by omega, by omega⟩ (fun h93 => False.elim (by omega)) (fun h93 => ?_)
      · refine lv_iload_n X.1 X.2.1 d_Ag_keepAsked_31 rfl (lv_at hl 4 rfl) ?_
        refine lv_iconst (v := iI 2) X.1 X.2.1 d_Ag_keepAsked_32 (by decide) ?_
        refine z_iand X.1 X.2.1 (by omega) (by omega) d_Ag_keepAsked_33 (fun z94 l94 u94 => ?_)
        refine z_if_eq (tgt := 41) X.1 X.2.1 d_Ag_keepAsked_34 (by decide) ⟨by omega, by omega⟩ (fun h95 => ?_) (fun h95 => ?_)
        · exact J89 1 _ _ _ (by omega) (by omega) Y S (lv_sub hl [1, 3, 5, 6, 0] rfl)
        · refine lv_iconst (v := iI 1) X.1 X.2.1 d_Ag_keepAsked_37 (by decide) ?_
          refine lv_goto (tgt := 42) X.1 X.2.1 d_Ag_keepAsked_38 (by decide) ?_
          exact J54 1 1 _ _ _ (by omega) (by omega) (by omega) (by omega) Y S (lv_sub hl [1, 3, 5, 6, 0] rfl)
set_option maxHeartbeats 4000000 in
set_option maxRecDepth 100000 in
theorem c_Ag_putBody (l : Launch) (D : va_G) (E : cE) (T : cT) (κ : tK) (L : List Nat) (f : pF) (sz : Nat) (h : Nat) (k0 : κ h = (12, 0)) (a1 : Int) (l_a1 : (-2147483648) ≤ a1) (u_a1 : a1 ≤ 2147483647) (a2 : Int) (l_a2 : 0 ≤ a2) (u_a2 : a2 ≤ 100000000) (a3 : Int) (l_a3 : 0 ≤ a3) (u_a3 : a3 ≤ 100000000) (hw : tW E T κ L f) : Met l y_Ag_putBody (k_Ag_putBody :: lw_tg) (kRm 7 156 0 0) (va_Pc [.ref h, .int (iI a1), .int (iI a2), .int (iI a3)] (kPre D E T L f sz)) (va_Qv (nPv E T [1, 13] κ L f (fun (g : pF) => True)) (cPost D E (pA L sz)) (pA L sz)) 0 0 (pA L sz) := by
  refine k_enter (own := R_Ag) (by decide) rfl (Nat.le_of_ble_eq_true rfl) (fun p e s m below meth c ls AV QQ H locs hQQ X Y hA hin hr hlk hml hl KS KR => ?_)
  have hl : lv_has ls 9 [(0, .ref h), (1, .int (iI a1)), (2, .int (iI a2)), (3, .int (iI a3))] := hl
  have S : tS E T (tFr κ L [1, 13] []) κ L f κ L f := tS_rf hw
  refine lv_aload_n X.1 X.2.1 d_Ag_putBody_0 rfl (lv_at hl 0 rfl) ?_
  refine t_getr (ci := 2) X Y S k0 rfl i_Ag 0 (by decide) rfl (k1 := 21) (k2 := 0) rfl rfl lk_Ag_42 (fun _ h9 => h9) d_Ag_putBody_1 (fun b1 e1 k1 => ?_)
  refine t_getr (ci := 11) X Y S k1 rfl i_Va 2 (by decide) rfl (k1 := 13) (k2 := 512) rfl rfl lk_Ag_137 (fun _ h9 => h9) d_Ag_putBody_4 (fun b2 e2 k2 => ?_)
  refine lv_astore (lv' := [(4, .ref b2), (0, .ref h), (1, .int (iI a1)), (2, .int (iI a2)), (3, .int (iI a3))]) X.1 X.2.1 d_Ag_putBody_7 hl (by decide) rfl (fun ls hl => ?_)
  refine lv_aload X.1 X.2.1 d_Ag_putBody_9 (lv_at hl 0 rfl) ?_
  refine t_nv (t_runV (As := []) (rest := []) (n := 0) X Y S k2 hml hl.1 (c_By_clear l D E T κ L f H.size b2 512 k2 (by omega) S.1) (ok_k X Y hA KS KR) rfl kl_Ag_By_clear ks_By_clear kx_By_clear ki_By_clear ini_By ⟨rfl, rfl⟩ hd_By_clear ⟨Nat.le_of_ble_eq_true rfl, Nat.le_of_ble_eq_true rfl⟩ rfl (Nat.le_of_ble_eq_true rfl) d_Ag_putBody_11 ⟨Nat.le_of_ble_eq_true rfl, Nat.le_of_ble_eq_true rfl⟩) X Y hA S (by decide) (fun f3 H locs Y S s3 p3 => ?_)
  refine lv_aload X.1 X.2.1 d_Ag_putBody_14 (lv_at hl 0 rfl) ?_
  refine lv_bipush (v := iI 48) X.1 X.2.1 d_Ag_putBody_16 (by decide) ?_
  refine t_ni (t_runV (As := [.int (iI 48)]) (rest := []) (n := 1) X Y S k2 hml hl.1 (c_By_open l D E T κ L f3 H.size b2 512 k2 (by omega) 48 (by omega) (by omega) S.1) (ok_k X Y hA KS KR) rfl kl_Ag_By_open ks_By_open kx_By_open ki_By_open ini_By ⟨rfl, rfl⟩ hd_By_open ⟨Nat.le_of_ble_eq_true rfl, Nat.le_of_ble_eq_true rfl⟩ rfl (Nat.le_of_ble_eq_true rfl) d_Ag_putBody_18 ⟨Nat.le_of_ble_eq_true rfl, Nat.le_of_ble_eq_true rfl⟩) X Y hA S (by decide) (fun z4 f4 H locs Y S s4 p4 => ?_)
  obtain ⟨l4, u4⟩ := p4
  refine lv_istore (lv' := [(5, .int (iI z4)), (4, .ref b2), (0, .ref h), (1, .int (iI a1)), (2, .int (iI a2)), (3, .int (iI a3))]) X.1 X.2.1 d_Ag_putBody_21 hl (by decide) rfl (fun ls hl => ?_)
  refine lv_aload X.1 X.2.1 d_Ag_putBody_23 (lv_at hl 1 rfl) ?_
  refine lv_iconst (v := iI 0) X.1 X.2.1 d_Ag_putBody_25 (by decide) ?_
  refine lv_iload_n X.1 X.2.1 d_Ag_putBody_26 rfl (lv_at hl 3 rfl) ?_
  refine t_nv (t_runV (As := [.int (iI 0), .int (iI a1)]) (rest := []) (n := 2) X Y S k2 hml hl.1 (c_By_putBits l D E T κ L f4 H.size b2 512 k2 (by omega) 0 (by omega) (by omega) a1 (by omega) (by omega) S.1) (ok_k X Y hA KS KR) rfl kl_Ag_By_putBits ks_By_putBits kx_By_putBits ki_By_putBits ini_By ⟨rfl, rfl⟩ hd_By_putBits ⟨Nat.le_of_ble_eq_true rfl, Nat.le_of_ble_eq_true rfl⟩ rfl (Nat.le_of_ble_eq_true rfl) d_Ag_putBody_27 ⟨Nat.le_of_ble_eq_true rfl, Nat.le_of_ble_eq_true rfl⟩) X Y hA S (by decide) (fun f5 H locs Y S s5 p5 => ?_)
  refine lv_aload_n X.1 X.2.1 d_Ag_putBody_30 rfl (lv_at hl 2 rfl) ?_
  refine t_geti (ci := 2) X Y S k0 rfl i_Ag 8 (by decide) rfl lk_Ag_75 (fun _ h9 => h9) d_Ag_putBody_31 (fun z6 e6 l6 u6 => ?_)
  refine lv_iconst (v := iI 2) X.1 X.2.1 d_Ag_putBody_34 (by decide) ?_
  have J8 : ∀ (f7 : pF) (H : Heap) (locs : List Loc) (ls : Array Slot), pH D cCl (pA L sz) s.heap L f7 H locs → tS E T (tFr κ L [1, 13] []) κ L f κ L f7 → lv_has ls 9 [(0, .ref h), (2, .int (iI a2)), (3, .int (iI a3)), (4, .ref b2), (5, .int (iI z4))] → W p l e (kRm 7 156 0 0) s m AV below meth c H locs 0 0 QQ (F0 m 49 ls []) := by
    intro f7 H locs ls  Y S hl
    refine lv_aload X.1 X.2.1 d_Ag_putBody_49 (lv_at hl 3 rfl) ?_
    refine lv_iconst (v := iI 2) X.1 X.2.1 d_Ag_putBody_51 (by decide) ?_
    refine t_nv (t_runV (As := [.int (iI 2)]) (rest := []) (n := 1) X Y S k2 hml hl.1 (c_By_putRealm l D E T κ L f7 H.size b2 512 k2 (by omega) 2 (by omega) (by omega) S.1) (ok_k X Y hA KS KR) rfl kl_Ag_By_putRealm ks_By_putRealm kx_By_putRealm ki_By_putRealm ini_By ⟨rfl, rfl⟩ hd_By_putRealm ⟨Nat.le_of_ble_eq_true rfl, Nat.le_of_ble_eq_true rfl⟩ rfl (Nat.le_of_ble_eq_true rfl) d_Ag_putBody_52 ⟨Nat.le_of_ble_eq_true rfl, Nat.le_of_ble_eq_true rfl⟩) X Y hA S (by decide) (fun f12 H locs Y S s12 p12 => ?_)
    refine lv_aload X.1 X.2.1 d_Ag_putBody_55 (lv_at hl 3 rfl) ?_
    refine lv_iconst (v := iI 3) X.1 X.2.1 d_Ag_putBody_57 (by decide) ?_
    refine lv_iconst (v := iI 2) X.1 X.2.1 d_Ag_putBody_58 (by decide) ?_
    refine lv_aload_n X.1 X.2.1 d_Ag_putBody_59 rfl (lv_at hl 0 rfl) ?_
    refine t_getr (ci := 2) X Y S k0 rfl i_Ag 13 (by decide) rfl (k1 := 13) (k2 := 40) rfl rfl lk_Ag_33 (fun _ h9 => h9) d_Ag_putBody_60 (fun b13 e13 k13 => ?_)
    refine t_nv (t_runV (As := [.int (iI 3), .int (iI 2), .ref b13]) (rest := []) (n := 3) X Y S k2 hml hl.1 (c_By_putName l D E T κ L f12 H.size b2 512 k2 (by omega) 3 (by omega) (by omega) 2 (by omega) (by omega) b13 40 k13 (by omega) S.1) (ok_k X Y hA KS KR) rfl kl_Ag_By_putName ks_By_putName kx_By_putName ki_By_putName ini_By ⟨rfl, rfl⟩ hd_By_putName ⟨Nat.le_of_ble_eq_true rfl, Nat.le_of_ble_eq_true rfl⟩ rfl (Nat.le_of_ble_eq_true rfl) d_Ag_putBody_63 ⟨Nat.le_of_ble_eq_true rfl, Nat.le_of_ble_eq_true rfl⟩) X Y hA S (by decide) (fun f14 H locs Y S s14 p14 => ?_)
    refine lv_aload X.1 X.2.1 d_Ag_putBody_66 (lv_at hl 3 rfl) ?_
    refine lv_iconst (v := iI 5) X.1 X.2.1 d_Ag_putBody_68 (by decide) ?_
    refine lv_iload_n X.1 X.2.1 d_Ag_putBody_69 rfl (lv_at hl 1 rfl) ?_
    have J16 : ∀ (z15 : Int) (H : Heap) (locs : List Loc) (ls : Array Slot), ((-2147483648) ≤ z15) → (z15 ≤ 2145916799) → pH D cCl (pA L sz) s.heap L f14 H locs → tS E T (tFr κ L [1, 13] []) κ L f κ L f14 → lv_has ls 9 [(0, .ref h), (3, .int (iI a3)), (4, .ref b2), (5, .int (iI z4))] → W p l e (kRm 7 156 0 0) s m AV below meth c H locs 0 0 QQ (F0 m 88 ls [.int (iI z15), .int (iI 5), .ref b2]) := by
      intro z15 H locs ls l15 u15 Y S hl
      refine t_nv (t_runV (As := [.int (iI 5), .int (iI z15)]) (rest := []) (n := 2) X Y S k2 hml hl.1 (c_By_putTime l D E T κ L f14 H.size b2 512 k2 (by omega) 5 (by omega) (by omega) z15 (by omega) (by omega) S.1) (ok_k X Y hA KS KR) rfl kl_Ag_By_putTime ks_By_putTime kx_By_putTime ki_By_putTime ini_By ⟨rfl, rfl⟩ hd_By_putTime ⟨Nat.le_of_ble_eq_true rfl, Nat.le_of_ble_eq_true rfl⟩ rfl (Nat.le_of_ble_eq_true rfl) d_Ag_putBody_88 ⟨Nat.le_of_ble_eq_true rfl, Nat.le_of_ble_eq_true rfl⟩) X Y hA S (by decide) (fun f20 H locs Y S s20 p20 => ?_)
      refine lv_iload_n X.1 X.2.1 d_Ag_putBody_91 rfl (lv_at hl 1 rfl) ?_
      have J22 : ∀ (f21 : pF) (H : Heap) (locs : List Loc) (ls : Array Slot), pH D cCl (pA L sz) s.heap L f21 H locs → tS E T (tFr κ L [1, 13] []) κ L f κ L f21 → lv_has ls 9 [(0, .ref h), (4, .ref b2), (5, .int (iI z4))] → W p l e (kRm 7 156 0 0) s m AV below meth c H locs 0 0 QQ (F0 m 113 ls []) := by
        intro f21 H locs ls  Y S hl
        refine lv_aload X.1 X.2.1 d_Ag_putBody_113 (lv_at hl 1 rfl) ?_
        refine lv_bipush (v := iI 7) X.1 X.2.1 d_Ag_putBody_115 (by decide) ?_
        refine lv_aload_n X.1 X.2.1 d_Ag_putBody_117 rfl (lv_at hl 0 rfl) ?_
        refine t_geti (ci := 2) X Y S k0 rfl i_Ag 9 (by decide) rfl lk_Ag_123 (fun _ h9 => h9) d_Ag_putBody_118 (fun z26 e26 l26 u26 => ?_)
        refine lv_i2l X.1 X.2.1 d_Ag_putBody_121 rfl ?_
        refine t_anyl (fun v27 => ?_)
        refine t_nv (t_runV (As := [.int (iI 7), .long v27]) (rest := []) (n := 2) X Y S k2 hml hl.1 (c_By_putNumber l D E T κ L f21 H.size b2 512 k2 (by omega) 7 (by omega) (by omega) v27 S.1) (ok_k X Y hA KS KR) rfl kl_Ag_By_putNumber ks_By_putNumber kx_By_putNumber ki_By_putNumber ini_By ⟨rfl, rfl⟩ hd_By_putNumber ⟨Nat.le_of_ble_eq_true rfl, Nat.le_of_ble_eq_true rfl⟩ rfl (Nat.le_of_ble_eq_true rfl) d_Ag_putBody_122 ⟨Nat.le_of_ble_eq_true rfl, Nat.le_of_ble_eq_true rfl⟩) X Y hA S (by decide) (fun f28 H locs Y S s28 p28 => ?_)
        refine lv_aload X.1 X.2.1 d_Ag_putBody_125 (lv_at hl 1 rfl) ?_
        refine lv_bipush (v := iI 8) X.1 X.2.1 d_Ag_putBody_127 (by decide) ?_
        refine t_ni (t_runV (As := [.int (iI 8)]) (rest := []) (n := 1) X Y S k2 hml hl.1 (c_By_openField l D E T κ L f28 H.size b2 512 k2 (by omega) 8 (by omega) (by omega) S.1) (ok_k X Y hA KS KR) rfl kl_Ag_By_openField ks_By_openField kx_By_openField ki_By_openField ini_By ⟨rfl, rfl⟩ hd_By_openField ⟨Nat.le_of_ble_eq_true rfl, Nat.le_of_ble_eq_true rfl⟩ rfl (Nat.le_of_ble_eq_true rfl) d_Ag_putBody_129 ⟨Nat.le_of_ble_eq_true rfl, Nat.le_of_ble_eq_true rfl⟩) X Y hA S (by decide) (fun z29 f29 H locs Y S s29 p29 => ?_)
        obtain ⟨l29, u29⟩ := p29
        refine lv_istore (lv' := [(6, .int (iI z29)), (0, .ref h), (4, .ref b2), (5, .int (iI z4))]) X.1 X.2.1 d_Ag_putBody_132 hl (by decide) rfl (fun ls hl => ?_)
        refine lv_aload X.1 X.2.1 d_Ag_putBody_134 (lv_at hl 2 rfl) ?_
        refine lv_bipush (v := iI 48) X.1 X.2.1 d_Ag_putBody_136 (by decide) ?_
        refine t_ni (t_runV (As := [.int (iI 48)]) (rest := []) (n := 1) X Y S k2 hml hl.1 (c_By_open l D E T κ L f29 H.size b2 512 k2 (by omega) 48 (by omega) (by omega) S.1) (ok_k X Y hA KS KR) rfl kl_Ag_By_open ks_By_open kx_By_open ki_By_open ini_By ⟨rfl, rfl⟩ hd_By_open ⟨Nat.le_of_ble_eq_true rfl, Nat.le_of_ble_eq_true rfl⟩ rfl (Nat.le_of_ble_eq_true rfl) d_Ag_putBody_138 ⟨Nat.le_of_ble_eq_true rfl, Nat.le_of_ble_eq_true rfl⟩) X Y hA S (by decide) (fun z30 f30 H locs Y S s30 p30 => ?_)
        obtain ⟨l30, u30⟩ := p30
        refine lv_istore (lv' := [(7, .int (iI z30)), (6, .int (iI z29)), (0, .ref h), (4, .ref b2), (5, .int (iI z4))]) X.1 X.2.1 d_Ag_putBody_141 hl (by decide) rfl (fun ls hl => ?_)
        refine lv_aload_n X.1 X.2.1 d_Ag_putBody_143 rfl (lv_at hl 2 rfl) ?_
        refine t_geti (ci := 2) X Y S k0 rfl i_Ag 11 (by decide) rfl lk_Ag_105 (fun _ h9 => h9) d_Ag_putBody_144 (fun z31 e31 l31 u31 => ?_)
        refine lv_iconst (v := iI 1) X.1 X.2.1 d_Ag_putBody_147 (by decide) ?_
        have J33 : ∀ (z32 : Int) (H : Heap) (locs : List Loc) (ls : Array Slot), (17 ≤ z32) → (z32 ≤ 18) → pH D cCl (pA L sz) s.heap L f30 H locs → tS E T (tFr κ L [1, 13] []) κ L f κ L f30 → lv_has ls 9 [(0, .ref h), (4, .ref b2), (5, .int (iI z4)), (6, .int (iI z29)), (7, .int (iI z30))] → W p l e (kRm 7 156 0 0) s m AV below meth c H locs 0 0 QQ (F0 m 166 ls [.int (iI z32)]) := by
          intro z32 H locs ls l32 u32 Y S hl
          refine lv_istore (lv' := [(8, .int (iI z32)), (0, .ref h), (4, .ref b2), (5, .int (iI z4)), (6, .int (iI z29)), (7, .int (iI z30))]) X.1 X.2.1 d_Ag_putBody_166 hl (by decide) rfl (fun ls hl => ?_)
          refine lv_aload X.1 X.2.1 d_Ag_putBody_168 (lv_at hl 2 rfl) ?_
          refine lv_iload X.1 X.2.1 d_Ag_putBody_170 (lv_at hl 0 rfl) ?_
          refine lv_i2l X.1 X.2.1 d_Ag_putBody_172 rfl ?_
          refine t_anyl (fun v37 => ?_)
          refine t_nv (t_runV (As := [.long v37]) (rest := []) (n := 1) X Y S k2 hml hl.1 (c_By_putInteger l D E T κ L f30 H.size b2 512 k2 (by omega) v37 S.1) (ok_k X Y hA KS KR) rfl kl_Ag_By_putInteger ks_By_putInteger kx_By_putInteger ki_By_putInteger ini_By ⟨rfl, rfl⟩ hd_By_putInteger ⟨Nat.le_of_ble_eq_true rfl, Nat.le_of_ble_eq_true rfl⟩ rfl (Nat.le_of_ble_eq_true rfl) d_Ag_putBody_173 ⟨Nat.le_of_ble_eq_true rfl, Nat.le_of_ble_eq_true rfl⟩) X Y hA S (by decide) (fun f38 H locs Y S s38 p38 => ?_)
          refine lv_aload_n X.1 X.2.1 d_Ag_putBody_176 rfl (lv_at hl 1 rfl) ?_
          refine t_get0 (ci := 2) X Y S k0 rfl i_Ag 11 (by decide) rfl lk_Ag_105 (fun _ h9 => h9) d_Ag_putBody_177 ((gF_same (s38.2.2.2 _ ⟨(t_obj S.1 k0).1, by rw [k0]; decide, by simp⟩).1 11).trans e31) ?_
          refine lv_iconst (v := iI 2) X.1 X.2.1 d_Ag_putBody_180 (by decide) ?_
          have J40 : ∀ (f39 : pF) (H : Heap) (locs : List Loc) (ls : Array Slot), pH D cCl (pA L sz) s.heap L f39 H locs → tS E T (tFr κ L [1, 13] []) κ L f κ L f39 → lv_has ls 9 [(4, .ref b2), (5, .int (iI z4)), (6, .int (iI z29)), (7, .int (iI z30))] → W p l e (kRm 7 156 0 0) s m AV below meth c H locs 0 0 QQ (F0 m 195 ls []) := by
            intro f39 H locs ls  Y S hl
            refine lv_aload X.1 X.2.1 d_Ag_putBody_195 (lv_at hl 0 rfl) ?_
            refine lv_iload X.1 X.2.1 d_Ag_putBody_197 (lv_at hl 3 rfl) ?_
            refine t_nv (t_runV (As := [.int (iI z30)]) (rest := []) (n := 1) X Y S k2 hml hl.1 (c_By_close l D E T κ L f39 H.size b2 512 k2 (by omega) z30 (by omega) (by omega) S.1) (ok_k X Y hA KS KR) rfl kl_Ag_By_close ks_By_close kx_By_close ki_By_close ini_By ⟨rfl, rfl⟩ hd_By_close ⟨Nat.le_of_ble_eq_true rfl, Nat.le_of_ble_eq_true rfl⟩ rfl (Nat.le_of_ble_eq_true rfl) d_Ag_putBody_199 ⟨Nat.le_of_ble_eq_true rfl, Nat.le_of_ble_eq_true rfl⟩) X Y hA S (by decide) (fun f44 H locs Y S s44 p44 => ?_)
            refine lv_aload X.1 X.2.1 d_Ag_putBody_202 (lv_at hl 0 rfl) ?_
            refine lv_iload X.1 X.2.1 d_Ag_putBody_204 (lv_at hl 2 rfl) ?_
            refine t_nv (t_runV (As := [.int (iI z29)]) (rest := []) (n := 1) X Y S k2 hml hl.1 (c_By_close l D E T κ L f44 H.size b2 512 k2 (by omega) z29 (by omega) (by omega) S.1) (ok_k X Y hA KS KR) rfl kl_Ag_By_close ks_By_close kx_By_close ki_By_close ini_By ⟨rfl, rfl⟩ hd_By_close ⟨Nat.le_of_ble_eq_true rfl, Nat.le_of_ble_eq_true rfl⟩ rfl (Nat.le_of_ble_eq_true rfl) d_Ag_putBody_206 ⟨Nat.le_of_ble_eq_true rfl, Nat.le_of_ble_eq_true rfl⟩) X Y hA S (by decide) (fun f45 H locs Y S s45 p45 => ?_)
            refine lv_aload X.1 X.2.1 d_Ag_putBody_209 (lv_at hl 0 rfl) ?_
            refine lv_iload X.1 X.2.1 d_Ag_putBody_211 (lv_at hl 1 rfl) ?_
            refine t_nv (t_runV (As := [.int (iI z4)]) (rest := []) (n := 1) X Y S k2 hml hl.1 (c_By_close l D E T κ L f45 H.size b2 512 k2 (by omega) z4 (by omega) (by omega) S.1) (ok_k X Y hA KS KR) rfl kl_Ag_By_close ks_By_close kx_By_close ki_By_close ini_By ⟨rfl, rfl⟩ hd_By_close ⟨Nat.le_of_ble_eq_true rfl, Nat.le_of_ble_eq_true rfl⟩ rfl (Nat.le_of_ble_eq_true rfl) d_Ag_putBody_213 ⟨Nat.le_of_ble_eq_true rfl, Nat.le_of_ble_eq_true rfl⟩) X Y hA S (by decide) (fun f46 H locs Y S s46 p46 => ?_)
            exact c_retv hQQ X Y hr hlk ⟨rfl, S, trivial⟩ d_Ag_putBody_216
          refine z_icmp_le (tgt := 195) X.1 X.2.1 d_Ag_putBody_181 (by decide) ⟨by omega, by omega⟩ ⟨by omega, by omega⟩ (fun h47 => ?_) (fun h47 => ?_)
          · exact J40 f38 _ _ _  Y S (lv_sub hl [2, 3, 4, 5] rfl)
          · refine lv_aload X.1 X.2.1 d_Ag_putBody_184 (lv_at hl 2 rfl) ?_
            refine lv_bipush (v := iI 35) X.1 X.2.1 d_Ag_putBody_186 (by decide) ?_
            refine lv_iload X.1 X.2.1 d_Ag_putBody_188 (lv_at hl 0 rfl) ?_
            refine z_isub X.1 X.2.1 d_Ag_putBody_190 ?_
            refine lv_i2l X.1 X.2.1 d_Ag_putBody_191 rfl ?_
            refine t_anyl (fun v48 => ?_)
            refine t_nv (t_runV (As := [.long v48]) (rest := []) (n := 1) X Y S k2 hml hl.1 (c_By_putInteger l D E T κ L f38 H.size b2 512 k2 (by omega) v48 S.1) (ok_k X Y hA KS KR) rfl kl_Ag_By_putInteger ks_By_putInteger kx_By_putInteger ki_By_putInteger ini_By ⟨rfl, rfl⟩ hd_By_putInteger ⟨Nat.le_of_ble_eq_true rfl, Nat.le_of_ble_eq_true rfl⟩ rfl (Nat.le_of_ble_eq_true rfl) d_Ag_putBody_192 ⟨Nat.le_of_ble_eq_true rfl, Nat.le_of_ble_eq_true rfl⟩) X Y hA S (by decide) (fun f49 H locs Y S s49 p49 => ?_)
            exact J40 f49 _ _ _  Y S (lv_sub hl [2, 3, 4, 5] rfl)
        have J50 : ∀  (H : Heap) (locs : List Loc) (ls : Array Slot), pH D cCl (pA L sz) s.heap L f30 H locs → tS E T (tFr κ L [1, 13] []) κ L f κ L f30 → lv_has ls 9 [(0, .ref h), (4, .ref b2), (5, .int (iI z4)), (6, .int (iI z29)), (7, .int (iI z30))] → W p l e (kRm 7 156 0 0) s m AV below meth c H locs 0 0 QQ (F0 m 159 ls []) := by
          intro  H locs ls  Y S hl
          refine lv_bipush (v := iI 17) X.1 X.2.1 d_Ag_putBody_159 (by decide) ?_
          refine lv_goto (tgt := 166) X.1 X.2.1 d_Ag_putBody_161 (by decide) ?_
          exact J33 17 _ _ _ (by omega) (by omega) Y S (lv_sub hl [0, 1, 2, 3, 4] rfl)
        refine z_icmp_eq (tgt := 159) X.1 X.2.1 d_Ag_putBody_148 (by decide) ⟨by omega, by omega⟩ ⟨by omega, by omega⟩ (fun h54 => ?_) (fun h54 => ?_)
        · exact J50  _ _ _  Y S (lv_sub hl [2, 3, 4, 1, 0] rfl)
        · refine lv_aload_n X.1 X.2.1 d_Ag_putBody_151 rfl (lv_at hl 2 rfl) ?_
          refine t_get0 (ci := 2) X Y S k0 rfl i_Ag 11 (by decide) rfl lk_Ag_105 (fun _ h9 => h9) d_Ag_putBody_152 e31 ?_
          refine lv_iconst (v := iI 3) X.1 X.2.1 d_Ag_putBody_155 (by decide) ?_
          refine z_icmp_ne (tgt := 164) X.1 X.2.1 d_Ag_putBody_156 (by decide) ⟨by omega, by omega⟩ ⟨by omega, by omega⟩ (fun h55 => ?_) (fun h55 => ?_)
          · refine lv_bipush (v := iI 18) X.1 X.2.1 d_Ag_putBody_164 (by decide) ?_
            exact J33 18 _ _ _ (by omega) (by omega) Y S (lv_sub hl [2, 3, 4, 1, 0] rfl)
          · exact J50  _ _ _  Y S (lv_sub hl [2, 3, 4, 1, 0] rfl)
      refine z_if_le (tgt := 113) X.1 X.2.1 d_Ag_putBody_92 (by decide) ⟨by omega, by omega⟩ (fun h56 => ?_) (fun h56 => ?_)
      · exact J22 f20 _ _ _  Y S (lv_sub hl [0, 2, 3] rfl)
      · refine lv_aload X.1 X.2.1 d_Ag_putBody_95 (lv_at hl 2 rfl) ?_
        refine lv_bipush (v := iI 6) X.1 X.2.1 d_Ag_putBody_97 (by decide) ?_
        refine lv_ldc (v := (2145916799)) X.1 X.2.1 X.2.2.2.1 (X.2.2.1 _ cn_Ag_158) d_Ag_putBody_99 ?_
        refine t_eq (y := iI 2145916799) (by decide) ?_
        refine lv_aload_n X.1 X.2.1 d_Ag_putBody_101 rfl (lv_at hl 0 rfl) ?_
        refine t_ui (t_runV (As := []) (rest := [.int (iI 2145916799), .int (iI 6), .ref b2]) (n := 0) X Y S k0 hml hl.1 (c_Ag_time l D E T κ L f20 H.size h k0 S.1) (ok_k X Y hA KS KR) rfl kl_Ag_Ag_time ks_Ag_time kx_Ag_time ki_Ag_time ini_Ag ⟨rfl, rfl⟩ hd_Ag_time ⟨Nat.le_of_ble_eq_true rfl, Nat.le_of_ble_eq_true rfl⟩ rfl (Nat.le_of_ble_eq_true rfl) d_Ag_putBody_102 ⟨Nat.le_of_ble_eq_true rfl, Nat.le_of_ble_eq_true rfl⟩) X Y hA (fun z57 H locs Y p57 => ?_)
        obtain ⟨l57, u57⟩ := p57
        refine lv_iload_n X.1 X.2.1 d_Ag_putBody_105 rfl (lv_at hl 1 rfl) ?_
        refine lv_iadd X.1 X.2.1 d_Ag_putBody_106 ?_
        refine t_u (fun z58 l58 u58 => ?_)
        refine z_min X.1 X.2.1 (hml.trans hl.1.symm) X.2.2.2.1 (X.2.2.1 _ kl_Ag_mmin) (X.2.2.1 _ ks_mmin) (X.2.2.1 _ ini_Math) (X.2.2.1 _ ki_mmin) (Nat.le_of_ble_eq_true rfl) (Nat.le_of_ble_eq_true rfl) (Nat.le_of_ble_eq_true rfl) (Nat.le_of_ble_eq_true rfl) ⟨by omega, by omega⟩ ⟨by omega, by omega⟩ d_Ag_putBody_107 (fun z59 l59 u59 x59 => ?_)
        refine t_nv (t_runV (As := [.int (iI 6), .int (iI z59)]) (rest := []) (n := 2) X Y S k2 hml hl.1 (c_By_putTime l D E T κ L f20 H.size b2 512 k2 (by omega) 6 (by omega) (by omega) z59 (by omega) (by omega) S.1) (ok_k X Y hA KS KR) rfl kl_Ag_By_putTime ks_By_putTime kx_By_putTime ki_By_putTime ini_By ⟨rfl, rfl⟩ hd_By_putTime ⟨Nat.le_of_ble_eq_true rfl, Nat.le_of_ble_eq_true rfl⟩ rfl (Nat.le_of_ble_eq_true rfl) d_Ag_putBody_110 ⟨Nat.le_of_ble_eq_true rfl, Nat.le_of_ble_eq_true rfl⟩) X Y hA S (by decide) (fun f60 H locs Y S s60 p60 => ?_)
        exact J22 f60 _ _ _  Y S (lv_sub hl [0, 2, 3] rfl)
    refine z_if_ne (tgt := 77) X.1 X.2.1 d_Ag_putBody_70 (by decide) ⟨by omega, by omega⟩ (fun h61 => ?_) (fun h61 => ?_)
    · refine lv_ldc (v := (2145916799)) X.1 X.2.1 X.2.2.2.1 (X.2.2.1 _ cn_Ag_158) d_Ag_putBody_77 ?_
      refine t_eq (y := iI 2145916799) (by decide) ?_
      refine lv_aload_n X.1 X.2.1 d_Ag_putBody_79 rfl (lv_at hl 0 rfl) ?_
      refine t_ui (t_runV (As := []) (rest := [.int (iI 2145916799), .int (iI 5), .ref b2]) (n := 0) X Y S k0 hml hl.1 (c_Ag_time l D E T κ L f14 H.size h k0 S.1) (ok_k X Y hA KS KR) rfl kl_Ag_Ag_time ks_Ag_time kx_Ag_time ki_Ag_time ini_Ag ⟨rfl, rfl⟩ hd_Ag_time ⟨Nat.le_of_ble_eq_true rfl, Nat.le_of_ble_eq_true rfl⟩ rfl (Nat.le_of_ble_eq_true rfl) d_Ag_putBody_80 ⟨Nat.le_of_ble_eq_true rfl, Nat.le_of_ble_eq_true rfl⟩) X Y hA (fun z62 H locs Y p62 => ?_)
      obtain ⟨l62, u62⟩ := p62
      refine lv_iload_n X.1 X.2.1 d_Ag_putBody_83 rfl (lv_at hl 1 rfl) ?_
      refine lv_iadd X.1 X.2.1 d_Ag_putBody_84 ?_
      refine t_u (fun z63 l63 u63 => ?_)
      refine z_min X.1 X.2.1 (hml.trans hl.1.symm) X.2.2.2.1 (X.2.2.1 _ kl_Ag_mmin) (X.2.2.1 _ ks_mmin) (X.2.2.1 _ ini_Math) (X.2.2.1 _ ki_mmin) (Nat.le_of_ble_eq_true rfl) (Nat.le_of_ble_eq_true rfl) (Nat.le_of_ble_eq_true rfl) (Nat.le_of_ble_eq_true rfl) ⟨by omega, by omega⟩ ⟨by omega, by omega⟩ d_Ag_putBody_85 (fun z64 l64 u64 x64 => ?_)
      exact J16 z64 _ _ _ (by omega) (by omega) Y S (lv_sub hl [0, 2, 3, 4] rfl)
    · refine lv_iconst (v := iI 0) X.1 X.2.1 d_Ag_putBody_73 (by decide) ?_
      refine lv_goto (tgt := 88) X.1 X.2.1 d_Ag_putBody_74 (by decide) ?_
      exact J16 0 _ _ _ (by omega) (by omega) Y S (lv_sub hl [0, 2, 3, 4] rfl)
  refine z_icmp_eq (tgt := 49) X.1 X.2.1 d_Ag_putBody_35 (by decide) ⟨by omega, by omega⟩ ⟨by omega, by omega⟩ (fun h65 => ?_) (fun h65 => ?_)
  · exact J8 f5 _ _ _  Y S (lv_sub hl [2, 4, 5, 1, 0] rfl)
  · refine lv_aload X.1 X.2.1 d_Ag_putBody_38 (lv_at hl 1 rfl) ?_
    refine lv_iconst (v := iI 1) X.1 X.2.1 d_Ag_putBody_40 (by decide) ?_
    refine lv_iconst (v := iI 1) X.1 X.2.1 d_Ag_putBody_41 (by decide) ?_
    refine lv_aload_n X.1 X.2.1 d_Ag_putBody_42 rfl (lv_at hl 2 rfl) ?_
    refine t_getr (ci := 2) X Y S k0 rfl i_Ag 4 (by decide) rfl (k1 := 13) (k2 := 40) rfl rfl lk_Ag_14 (fun _ h9 => h9) d_Ag_putBody_43 (fun b66 e66 k66 => ?_)
    refine t_nv (t_runV (As := [.int (iI 1), .int (iI 1), .ref b66]) (rest := []) (n := 3) X Y S k2 hml hl.1 (c_By_putName l D E T κ L f5 H.size b2 512 k2 (by omega) 1 (by omega) (by omega) 1 (by omega) (by omega) b66 40 k66 (by omega) S.1) (ok_k X Y hA KS KR) rfl kl_Ag_By_putName ks_By_putName kx_By_putName ki_By_putName ini_By ⟨rfl, rfl⟩ hd_By_putName ⟨Nat.le_of_ble_eq_true rfl, Nat.le_of_ble_eq_true rfl⟩ rfl (Nat.le_of_ble_eq_true rfl) d_Ag_putBody_46 ⟨Nat.le_of_ble_eq_true rfl, Nat.le_of_ble_eq_true rfl⟩) X Y hA S (by decide) (fun f67 H locs Y S s67 p67 => ?_)
    exact J8 f67 _ _ _  Y S (lv_sub hl [2, 4, 5, 1, 0] rfl)
set_option maxHeartbeats 4000000 in
set_option maxRecDepth 100000 in
theorem c_Ag_putShown (l : Launch) (D : va_G) (E : cE) (T : cT) (κ : tK) (L : List Nat) (f : pF) (sz : Nat) (h : Nat) (k0 : κ h = (12, 0)) (a1 n1 : Nat) (k1 : κ a1 = (13, n1)) (x1 : n1 ≤ 12288) (hw : tW E T κ L f) : Met l y_Ag_putShown (k_Ag_putShown :: lw_tg) (kRm 6 187 0 0) (va_Pc [.ref h, .ref a1] (kPre D E T L f sz)) (va_Qv (nPv E T [1, 2, 3, 4, 11, 12, 13, 16, 21] κ L f (fun (g : pF) => True)) (cPost D E (pA L sz)) (pA L sz)) 0 0 (pA L sz) := by
  refine k_enter (own := R_Ag) (by decide) rfl (Nat.le_of_ble_eq_true rfl) (fun p e s m below meth c ls AV QQ H locs hQQ X Y hA hin hr hlk hml hl KS KR => ?_)
  have hl : lv_has ls 4 [(0, .ref h), (1, .ref a1)] := hl
  have S : tS E T (tFr κ L [1, 2, 3, 4, 11, 12, 13, 16, 21] []) κ L f κ L f := tS_rf hw
  refine lv_aload_n X.1 X.2.1 d_Ag_putShown_0 rfl (lv_at hl 0 rfl) ?_
  refine t_getr (ci := 2) X Y S k0 rfl i_Ag 0 (by decide) rfl (k1 := 21) (k2 := 0) rfl rfl lk_Ag_42 (fun _ h9 => h9) d_Ag_putShown_1 (fun b1 e1 k1 => ?_)
  refine t_getr (ci := 11) X Y S k1 rfl i_Va 1 (by decide) rfl (k1 := 13) (k2 := 6144) rfl rfl lk_Ag_196 (fun _ h9 => h9) d_Ag_putShown_4 (fun b2 e2 k2 => ?_)
  refine lv_astore_n (lv' := [(2, .ref b2), (0, .ref h), (1, .ref a1)]) X.1 X.2.1 d_Ag_putShown_7 rfl hl (by decide) rfl (fun ls hl => ?_)
  refine lv_aload_n X.1 X.2.1 d_Ag_putShown_8 rfl (lv_at hl 0 rfl) ?_
  refine t_nv (t_runV (As := []) (rest := []) (n := 0) X Y S k2 hml hl.1 (c_By_clear l D E T κ L f H.size b2 6144 k2 (by omega) S.1) (ok_k X Y hA KS KR) rfl kl_Ag_By_clear ks_By_clear kx_By_clear ki_By_clear ini_By ⟨rfl, rfl⟩ hd_By_clear ⟨Nat.le_of_ble_eq_true rfl, Nat.le_of_ble_eq_true rfl⟩ rfl (Nat.le_of_ble_eq_true rfl) d_Ag_putShown_9 ⟨Nat.le_of_ble_eq_true rfl, Nat.le_of_ble_eq_true rfl⟩) X Y hA S (by decide) (fun f3 H locs Y S s3 p3 => ?_)
  refine lv_aload_n X.1 X.2.1 d_Ag_putShown_12 rfl (lv_at hl 0 rfl) ?_
  refine lv_bipush (v := iI 48) X.1 X.2.1 d_Ag_putShown_13 (by decide) ?_
  refine t_ni (t_runV (As := [.int (iI 48)]) (rest := []) (n := 1) X Y S k2 hml hl.1 (c_By_open l D E T κ L f3 H.size b2 6144 k2 (by omega) 48 (by omega) (by omega) S.1) (ok_k X Y hA KS KR) rfl kl_Ag_By_open ks_By_open kx_By_open ki_By_open ini_By ⟨rfl, rfl⟩ hd_By_open ⟨Nat.le_of_ble_eq_true rfl, Nat.le_of_ble_eq_true rfl⟩ rfl (Nat.le_of_ble_eq_true rfl) d_Ag_putShown_15 ⟨Nat.le_of_ble_eq_true rfl, Nat.le_of_ble_eq_true rfl⟩) X Y hA S (by decide) (fun z4 f4 H locs Y S s4 p4 => ?_)
  obtain ⟨l4, u4⟩ := p4
  refine lv_istore_n (lv' := [(3, .int (iI z4)), (2, .ref b2), (0, .ref h), (1, .ref a1)]) X.1 X.2.1 d_Ag_putShown_18 rfl hl (by decide) rfl (fun ls hl => ?_)
  refine lv_aload_n X.1 X.2.1 d_Ag_putShown_19 rfl (lv_at hl 1 rfl) ?_
  refine lv_iconst (v := iI 0) X.1 X.2.1 d_Ag_putShown_20 (by decide) ?_
  refine lv_aload_n X.1 X.2.1 d_Ag_putShown_21 rfl (lv_at hl 2 rfl) ?_
  refine t_ui (t_runV (As := []) (rest := [.int (iI 0), .ref b2]) (n := 0) X Y S k0 hml hl.1 (c_Ag_time l D E T κ L f4 H.size h k0 S.1) (ok_k X Y hA KS KR) rfl kl_Ag_Ag_time ks_Ag_time kx_Ag_time ki_Ag_time ini_Ag ⟨rfl, rfl⟩ hd_Ag_time ⟨Nat.le_of_ble_eq_true rfl, Nat.le_of_ble_eq_true rfl⟩ rfl (Nat.le_of_ble_eq_true rfl) d_Ag_putShown_22 ⟨Nat.le_of_ble_eq_true rfl, Nat.le_of_ble_eq_true rfl⟩) X Y hA (fun z5 H locs Y p5 => ?_)
  obtain ⟨l5, u5⟩ := p5
  refine t_nv (t_runV (As := [.int (iI 0), .int (iI z5)]) (rest := []) (n := 2) X Y S k2 hml hl.1 (c_By_putTime l D E T κ L f4 H.size b2 6144 k2 (by omega) 0 (by omega) (by omega) z5 (by omega) (by omega) S.1) (ok_k X Y hA KS KR) rfl kl_Ag_By_putTime ks_By_putTime kx_By_putTime ki_By_putTime ini_By ⟨rfl, rfl⟩ hd_By_putTime ⟨Nat.le_of_ble_eq_true rfl, Nat.le_of_ble_eq_true rfl⟩ rfl (Nat.le_of_ble_eq_true rfl) d_Ag_putShown_25 ⟨Nat.le_of_ble_eq_true rfl, Nat.le_of_ble_eq_true rfl⟩) X Y hA S (by decide) (fun f6 H locs Y S s6 p6 => ?_)
  refine lv_aload_n X.1 X.2.1 d_Ag_putShown_28 rfl (lv_at hl 1 rfl) ?_
  refine lv_iconst (v := iI 1) X.1 X.2.1 d_Ag_putShown_29 (by decide) ?_
  refine lv_aload_n X.1 X.2.1 d_Ag_putShown_30 rfl (lv_at hl 2 rfl) ?_
  refine t_geti (ci := 2) X Y S k0 rfl i_Ag 7 (by decide) rfl lk_Ag_72 (fun _ h9 => h9) d_Ag_putShown_31 (fun z7 e7 l7 u7 => ?_)
  refine lv_ldc (v := (1000000)) X.1 X.2.1 X.2.2.2.1 (X.2.2.1 _ cn_Ag_199) d_Ag_putShown_34 ?_
  refine t_eq (y := iI 1000000) (by decide) ?_
  refine z_iremg X.1 X.2.1 ⟨by omega, by omega⟩ ⟨by decide, by decide⟩ d_Ag_putShown_36 (fun z8 l8 u8 x8 => ?_)
  refine lv_i2l X.1 X.2.1 d_Ag_putShown_37 rfl ?_
  refine t_anyl (fun v9 => ?_)
  refine t_nv (t_runV (As := [.int (iI 1), .long v9]) (rest := []) (n := 2) X Y S k2 hml hl.1 (c_By_putNumber l D E T κ L f6 H.size b2 6144 k2 (by omega) 1 (by omega) (by omega) v9 S.1) (ok_k X Y hA KS KR) rfl kl_Ag_By_putNumber ks_By_putNumber kx_By_putNumber ki_By_putNumber ini_By ⟨rfl, rfl⟩ hd_By_putNumber ⟨Nat.le_of_ble_eq_true rfl, Nat.le_of_ble_eq_true rfl⟩ rfl (Nat.le_of_ble_eq_true rfl) d_Ag_putShown_38 ⟨Nat.le_of_ble_eq_true rfl, Nat.le_of_ble_eq_true rfl⟩) X Y hA S (by decide) (fun f10 H locs Y S s10 p10 => ?_)
  refine lv_aload_n X.1 X.2.1 d_Ag_putShown_41 rfl (lv_at hl 1 rfl) ?_
  refine lv_iload_n X.1 X.2.1 d_Ag_putShown_42 rfl (lv_at hl 0 rfl) ?_
  refine t_nv (t_runV (As := [.int (iI z4)]) (rest := []) (n := 1) X Y S k2 hml hl.1 (c_By_close l D E T κ L f10 H.size b2 6144 k2 (by omega) z4 (by omega) (by omega) S.1) (ok_k X Y hA KS KR) rfl kl_Ag_By_close ks_By_close kx_By_close ki_By_close ini_By ⟨rfl, rfl⟩ hd_By_close ⟨Nat.le_of_ble_eq_true rfl, Nat.le_of_ble_eq_true rfl⟩ rfl (Nat.le_of_ble_eq_true rfl) d_Ag_putShown_43 ⟨Nat.le_of_ble_eq_true rfl, Nat.le_of_ble_eq_true rfl⟩) X Y hA S (by decide) (fun f11 H locs Y S s11 p11 => ?_)
  refine lv_aload_n X.1 X.2.1 d_Ag_putShown_46 rfl (lv_at hl 2 rfl) ?_
  refine lv_dup X.1 X.2.1 d_Ag_putShown_47 rfl ?_
  refine t_get0 (ci := 2) X Y S k0 rfl i_Ag 7 (by decide) rfl lk_Ag_72 (fun _ h9 => h9) d_Ag_putShown_48 ((gF_same (s11.2.2.2 _ ⟨(t_obj S.1 k0).1, by rw [k0]; decide, by simp⟩).1 7).trans ((gF_same (s10.2.2.2 _ ⟨(t_obj S.1 k0).1, by rw [k0]; decide, by simp⟩).1 7).trans e7)) ?_
  refine lv_iconst (v := iI 1) X.1 X.2.1 d_Ag_putShown_51 (by decide) ?_
  refine lv_iadd X.1 X.2.1 d_Ag_putShown_52 ?_
  refine t_u (fun z12 l12 u12 => ?_)
  refine t_put (ci := 2) X Y S k0 rfl i_Ag t_Ag t_Ag_ok n_Ag 7 (by decide) rfl lk_Ag_72 (fun _ h9 => h9) rfl (t_Ag_ok 7 (by decide)) rfl rfl ⟨_, rfl, by omega, by omega⟩ (fun h9 => h9.2.1 (by rw [← (S.2.2.2 _ h9).2, k0]; decide)) d_Ag_putShown_53 (fun f13 H locs Y S w13 => ?_)
  refine lv_aload_n X.1 X.2.1 d_Ag_putShown_56 rfl (lv_at hl 2 rfl) ?_
  refine t_get0 (ci := 2) X Y S k0 rfl i_Ag 0 (by decide) rfl lk_Ag_42 (fun _ h9 => h9) d_Ag_putShown_57 ((gF_put w13 (Or.inr (by decide))).trans ((gF_same (s11.2.2.2 _ ⟨(t_obj S.1 k0).1, by rw [k0]; decide, by simp⟩).1 0).trans ((gF_same (s10.2.2.2 _ ⟨(t_obj S.1 k0).1, by rw [k0]; decide, by simp⟩).1 0).trans ((gF_same (s6.2.2.2 _ ⟨(t_obj S.1 k0).1, by rw [k0]; decide, by simp⟩).1 0).trans ((gF_same (s4.2.2.2 _ ⟨(t_obj S.1 k0).1, by rw [k0]; decide, by simp⟩).1 0).trans ((gF_same (s3.2.2.2 _ ⟨(t_obj S.1 k0).1, by rw [k0]; decide, by simp⟩).1 0).trans e1)))))) ?_
  refine lv_aload_n X.1 X.2.1 d_Ag_putShown_60 rfl (lv_at hl 3 rfl) ?_
  refine lv_aload_n X.1 X.2.1 d_Ag_putShown_61 rfl (lv_at hl 2 rfl) ?_
  refine lv_aload_n X.1 X.2.1 d_Ag_putShown_62 rfl (lv_at hl 2 rfl) ?_
  refine t_geti (ci := 2) X Y S k0 rfl i_Ag 11 (by decide) rfl lk_Ag_105 (fun _ h9 => h9) d_Ag_putShown_63 (fun z14 e14 l14 u14 => ?_)
  refine lv_iconst (v := iI 1) X.1 X.2.1 d_Ag_putShown_66 (by decide) ?_
  have J16 : ∀ (v15 : Int64) (H : Heap) (locs : List Loc) (ls : Array Slot), pH D cCl (pA L sz) s.heap L f13 H locs → tS E T (tFr κ L [1, 2, 3, 4, 11, 12, 13, 16, 21] []) κ L f κ L f13 → lv_has ls 4 [] → W p l e (kRm 6 187 0 0) s m AV below meth c H locs 0 0 QQ (F0 m 87 ls [.long v15, .ref h, .ref a1, .ref b1]) := by
    intro v15 H locs ls  Y S hl
    refine t_ur (t_runV (As := [.long v15]) (rest := [.ref a1, .ref b1]) (n := 1) X Y S k0 hml hl.1 (c_Ag_keyOf l D E T κ L f13 H.size h k0 v15 S.1) (ok_k X Y hA KS KR) rfl kl_Ag_Ag_keyOf ks_Ag_keyOf kx_Ag_keyOf ki_Ag_keyOf ini_Ag ⟨rfl, rfl⟩ hd_Ag_keyOf ⟨Nat.le_of_ble_eq_true rfl, Nat.le_of_ble_eq_true rfl⟩ rfl (Nat.le_of_ble_eq_true rfl) d_Ag_putShown_87 ⟨Nat.le_of_ble_eq_true rfl, Nat.le_of_ble_eq_true rfl⟩) X Y hA (fun b20 H locs Y p20 => ?_)
    obtain ⟨n20, k20⟩ := p20
    have x20 := tKey_n k20
    refine lv_iconst (v := iI 1) X.1 X.2.1 d_Ag_putShown_90 (by decide) ?_
    refine lv_iconst (v := iI 0) X.1 X.2.1 d_Ag_putShown_91 (by decide) ?_
    refine t_nv (t_runV (As := [.ref a1, .ref b20, .int (iI 1), .int (iI 0)]) (rest := []) (n := 4) X Y S k1 hml hl.1 (c_Va_putSealed l D E T κ L f13 H.size b1 k1 a1 n1 k1 (by omega) b20 n20 k20 (by omega) 1 (by omega) (by omega) 0 (by omega) (by omega) S.1) (ok_k X Y hA KS KR) rfl kl_Ag_Va_putSealed ks_Va_putSealed kx_Va_putSealed ki_Va_putSealed ini_Va ⟨rfl, rfl⟩ hd_Va_putSealed ⟨Nat.le_of_ble_eq_true rfl, Nat.le_of_ble_eq_true rfl⟩ rfl (Nat.le_of_ble_eq_true rfl) d_Ag_putShown_92 ⟨Nat.le_of_ble_eq_true rfl, Nat.le_of_ble_eq_true rfl⟩) X Y hA S (by decide) (fun f21 H locs Y S s21 p21 => ?_)
    exact c_retv hQQ X Y hr hlk ⟨rfl, S, trivial⟩ d_Ag_putShown_95
  have J22 : ∀  (H : Heap) (locs : List Loc) (ls : Array Slot), pH D cCl (pA L sz) s.heap L f13 H locs → tS E T (tFr κ L [1, 2, 3, 4, 11, 12, 13, 16, 21] []) κ L f κ L f13 → lv_has ls 4 [] → W p l e (kRm 6 187 0 0) s m AV below meth c H locs 0 0 QQ (F0 m 78 ls [.ref h, .ref a1, .ref b1]) := by
    intro  H locs ls  Y S hl
    refine lv_ldc2 (v := (17)) X.1 X.2.1 X.2.2.2.1 (X.2.2.1 _ cl_Ag_103) d_Ag_putShown_78 ?_
    refine lv_goto (tgt := 87) X.1 X.2.1 d_Ag_putShown_81 (by decide) ?_
    exact J16 ((17)) _ _ _  Y S (lv_sub hl [] rfl)
  refine z_icmp_eq (tgt := 78) X.1 X.2.1 d_Ag_putShown_67 (by decide) ⟨by omega, by omega⟩ ⟨by omega, by omega⟩ (fun h26 => ?_) (fun h26 => ?_)
  · exact J22  _ _ _  Y S (lv_sub hl [] rfl)
  · refine lv_aload_n X.1 X.2.1 d_Ag_putShown_70 rfl (lv_at hl 2 rfl) ?_
    refine t_get0 (ci := 2) X Y S k0 rfl i_Ag 11 (by decide) rfl lk_Ag_105 (fun _ h9 => h9) d_Ag_putShown_71 e14 ?_
    refine lv_iconst (v := iI 3) X.1 X.2.1 d_Ag_putShown_74 (by decide) ?_
    refine z_icmp_ne (tgt := 84) X.1 X.2.1 d_Ag_putShown_75 (by decide) ⟨by omega, by omega⟩ ⟨by omega, by omega⟩ (fun h27 => ?_) (fun h27 => ?_)
    · refine lv_ldc2 (v := (18)) X.1 X.2.1 X.2.2.2.1 (X.2.2.1 _ cl_Ag_108) d_Ag_putShown_84 ?_
      exact J16 ((18)) _ _ _  Y S (lv_sub hl [] rfl)
    · exact J22  _ _ _  Y S (lv_sub hl [] rfl)
set_option maxHeartbeats 4000000 in
set_option maxRecDepth 100000 in
theorem c_Ag_putAuthenticator (l : Launch) (D : va_G) (E : cE) (T : cT) (κ : tK) (L : List Nat) (f : pF) (sz : Nat) (h : Nat) (k0 : κ h = (12, 0)) (a1 : Nat) (k1 : κ a1 = (20, 0)) (a2 n2 : Nat) (k2 : tKey T κ a2 n2) (x2 : n2 = 0 ∨ n2 = 16 ∨ n2 = 32) (a3 n3 : Nat) (k3 : κ a3 = (13, n3)) (x3 : n3 ≤ 12288) (a4 : Int64) (hw : tW E T κ L f) : Met l y_Ag_putAuthenticator (k_Ag_putAuthenticator :: lw_tg) (kRm 7 181 0 0) (va_Pc [.ref h, .ref a1, .ref a2, .ref a3, .long a4] (kPre D E T L f sz)) (va_Qv (nPv E T [1, 2, 3, 4, 11, 12, 13, 16] κ L f (fun (g : pF) => True)) (cPost D E (pA L sz)) (pA L sz)) 0 0 (pA L sz) := by
  refine k_enter (own := R_Ag) (by decide) rfl (Nat.le_of_ble_eq_true rfl) (fun p e s m below meth c ls AV QQ H locs hQQ X Y hA hin hr hlk hml hl KS KR => ?_)
  have hl : lv_has ls 9 [(0, .ref h), (1, .ref a1), (2, .ref a2), (3, .ref a3), (4, .long a4)] := hl
  have S : tS E T (tFr κ L [1, 2, 3, 4, 11, 12, 13, 16] []) κ L f κ L f := tS_rf hw
  refine lv_aload_n X.1 X.2.1 d_Ag_putAuthenticator_0 rfl (lv_at hl 0 rfl) ?_
  refine t_getr (ci := 2) X Y S k0 rfl i_Ag 0 (by decide) rfl (k1 := 21) (k2 := 0) rfl rfl lk_Ag_42 (fun _ h9 => h9) d_Ag_putAuthenticator_1 (fun b1 e1 k1 => ?_)
  refine t_getr (ci := 11) X Y S k1 rfl i_Va 1 (by decide) rfl (k1 := 13) (k2 := 6144) rfl rfl lk_Ag_196 (fun _ h9 => h9) d_Ag_putAuthenticator_4 (fun b2 e2 k2 => ?_)
  refine lv_astore (lv' := [(6, .ref b2), (0, .ref h), (1, .ref a1), (2, .ref a2), (3, .ref a3), (4, .long a4)]) X.1 X.2.1 d_Ag_putAuthenticator_7 hl (by decide) rfl (fun ls hl => ?_)
  refine lv_aload X.1 X.2.1 d_Ag_putAuthenticator_9 (lv_at hl 0 rfl) ?_
  refine t_nv (t_runV (As := []) (rest := []) (n := 0) X Y S k2 hml hl.1 (c_By_clear l D E T κ L f H.size b2 6144 k2 (by omega) S.1) (ok_k X Y hA KS KR) rfl kl_Ag_By_clear ks_By_clear kx_By_clear ki_By_clear ini_By ⟨rfl, rfl⟩ hd_By_clear ⟨Nat.le_of_ble_eq_true rfl, Nat.le_of_ble_eq_true rfl⟩ rfl (Nat.le_of_ble_eq_true rfl) d_Ag_putAuthenticator_11 ⟨Nat.le_of_ble_eq_true rfl, Nat.le_of_ble_eq_true rfl⟩) X Y hA S (by decide) (fun f3 H locs Y S s3 p3 => ?_)
  refine lv_aload X.1 X.2.1 d_Ag_putAuthenticator_14 (lv_at hl 0 rfl) ?_
  refine lv_bipush (v := iI 98) X.1 X.2.1 d_Ag_putAuthenticator_16 (by decide) ?_
  refine t_ni (t_runV (As := [.int (iI 98)]) (rest := []) (n := 1) X Y S k2 hml hl.1 (c_By_open l D E T κ L f3 H.size b2 6144 k2 (by omega) 98 (by omega) (by omega) S.1) (ok_k X Y hA KS KR) rfl kl_Ag_By_open ks_By_open kx_By_open ki_By_open ini_By ⟨rfl, rfl⟩ hd_By_open ⟨Nat.le_of_ble_eq_true rfl, Nat.le_of_ble_eq_true rfl⟩ rfl (Nat.le_of_ble_eq_true rfl) d_Ag_putAuthenticator_18 ⟨Nat.le_of_ble_eq_true rfl, Nat.le_of_ble_eq_true rfl⟩) X Y hA S (by decide) (fun z4 f4 H locs Y S s4 p4 => ?_)
  obtain ⟨l4, u4⟩ := p4
  refine lv_istore (lv' := [(7, .int (iI z4)), (6, .ref b2), (0, .ref h), (1, .ref a1), (2, .ref a2), (3, .ref a3), (4, .long a4)]) X.1 X.2.1 d_Ag_putAuthenticator_21 hl (by decide) rfl (fun ls hl => ?_)
  refine lv_aload X.1 X.2.1 d_Ag_putAuthenticator_23 (lv_at hl 1 rfl) ?_
  refine lv_bipush (v := iI 48) X.1 X.2.1 d_Ag_putAuthenticator_25 (by decide) ?_
  refine t_ni (t_runV (As := [.int (iI 48)]) (rest := []) (n := 1) X Y S k2 hml hl.1 (c_By_open l D E T κ L f4 H.size b2 6144 k2 (by omega) 48 (by omega) (by omega) S.1) (ok_k X Y hA KS KR) rfl kl_Ag_By_open ks_By_open kx_By_open ki_By_open ini_By ⟨rfl, rfl⟩ hd_By_open ⟨Nat.le_of_ble_eq_true rfl, Nat.le_of_ble_eq_true rfl⟩ rfl (Nat.le_of_ble_eq_true rfl) d_Ag_putAuthenticator_27 ⟨Nat.le_of_ble_eq_true rfl, Nat.le_of_ble_eq_true rfl⟩) X Y hA S (by decide) (fun z5 f5 H locs Y S s5 p5 => ?_)
  obtain ⟨l5, u5⟩ := p5
  refine lv_istore (lv' := [(8, .int (iI z5)), (7, .int (iI z4)), (6, .ref b2), (0, .ref h), (1, .ref a1), (2, .ref a2), (3, .ref a3), (4, .long a4)]) X.1 X.2.1 d_Ag_putAuthenticator_30 hl (by decide) rfl (fun ls hl => ?_)
  refine lv_aload X.1 X.2.1 d_Ag_putAuthenticator_32 (lv_at hl 2 rfl) ?_
  refine lv_iconst (v := iI 0) X.1 X.2.1 d_Ag_putAuthenticator_34 (by decide) ?_
  refine lv_ldc2 (v := (5)) X.1 X.2.1 X.2.2.2.1 (X.2.2.1 _ cl_Ag_179) d_Ag_putAuthenticator_35 ?_
  refine t_nv (t_runV (As := [.int (iI 0), .long ((5))]) (rest := []) (n := 2) X Y S k2 hml hl.1 (c_By_putNumber l D E T κ L f5 H.size b2 6144 k2 (by omega) 0 (by omega) (by omega) ((5)) S.1) (ok_k X Y hA KS KR) rfl kl_Ag_By_putNumber ks_By_putNumber kx_By_putNumber ki_By_putNumber ini_By ⟨rfl, rfl⟩ hd_By_putNumber ⟨Nat.le_of_ble_eq_true rfl, Nat.le_of_ble_eq_true rfl⟩ rfl (Nat.le_of_ble_eq_true rfl) d_Ag_putAuthenticator_38 ⟨Nat.le_of_ble_eq_true rfl, Nat.le_of_ble_eq_true rfl⟩) X Y hA S (by decide) (fun f6 H locs Y S s6 p6 => ?_)
  refine lv_aload X.1 X.2.1 d_Ag_putAuthenticator_41 (lv_at hl 2 rfl) ?_
  refine lv_iconst (v := iI 1) X.1 X.2.1 d_Ag_putAuthenticator_43 (by decide) ?_
  refine t_nv (t_runV (As := [.int (iI 1)]) (rest := []) (n := 1) X Y S k2 hml hl.1 (c_By_putRealm l D E T κ L f6 H.size b2 6144 k2 (by omega) 1 (by omega) (by omega) S.1) (ok_k X Y hA KS KR) rfl kl_Ag_By_putRealm ks_By_putRealm kx_By_putRealm ki_By_putRealm ini_By ⟨rfl, rfl⟩ hd_By_putRealm ⟨Nat.le_of_ble_eq_true rfl, Nat.le_of_ble_eq_true rfl⟩ rfl (Nat.le_of_ble_eq_true rfl) d_Ag_putAuthenticator_44 ⟨Nat.le_of_ble_eq_true rfl, Nat.le_of_ble_eq_true rfl⟩) X Y hA S (by decide) (fun f7 H locs Y S s7 p7 => ?_)
  refine lv_aload X.1 X.2.1 d_Ag_putAuthenticator_47 (lv_at hl 2 rfl) ?_
  refine lv_iconst (v := iI 2) X.1 X.2.1 d_Ag_putAuthenticator_49 (by decide) ?_
  refine lv_aload_n X.1 X.2.1 d_Ag_putAuthenticator_50 rfl (lv_at hl 4 rfl) ?_
  refine t_geti (ci := 10) X Y S k1 rfl i_Ti 2 (by decide) rfl lk_Ag_208 (fun _ h9 => h9) d_Ag_putAuthenticator_51 (fun z8 e8 l8 u8 => ?_)
  refine lv_aload_n X.1 X.2.1 d_Ag_putAuthenticator_54 rfl (lv_at hl 4 rfl) ?_
  refine t_getr (ci := 10) X Y S k1 rfl i_Ti 1 (by decide) rfl (k1 := 13) (k2 := 40) rfl rfl lk_Ag_117 (fun _ h9 => h9) d_Ag_putAuthenticator_55 (fun b9 e9 k9 => ?_)
  refine t_nv (t_runV (As := [.int (iI 2), .int (iI z8), .ref b9]) (rest := []) (n := 3) X Y S k2 hml hl.1 (c_By_putName l D E T κ L f7 H.size b2 6144 k2 (by omega) 2 (by omega) (by omega) z8 (by omega) (by omega) b9 40 k9 (by omega) S.1) (ok_k X Y hA KS KR) rfl kl_Ag_By_putName ks_By_putName kx_By_putName ki_By_putName ini_By ⟨rfl, rfl⟩ hd_By_putName ⟨Nat.le_of_ble_eq_true rfl, Nat.le_of_ble_eq_true rfl⟩ rfl (Nat.le_of_ble_eq_true rfl) d_Ag_putAuthenticator_58 ⟨Nat.le_of_ble_eq_true rfl, Nat.le_of_ble_eq_true rfl⟩) X Y hA S (by decide) (fun f10 H locs Y S s10 p10 => ?_)
  refine lv_aload_n X.1 X.2.1 d_Ag_putAuthenticator_61 rfl (lv_at hl 6 rfl) ?_
  refine t_gets (ci := 3) X Y S k3 rfl i_By 1 (by decide) rfl lk_Ag_211 (fun _ h9 => h9) d_Ag_putAuthenticator_62 (fun z11 e11 l11 u11 => ?_)
  have J13 : ∀ (f12 : pF) (H : Heap) (locs : List Loc) (ls : Array Slot), pH D cCl (pA L sz) s.heap L f12 H locs → tS E T (tFr κ L [1, 2, 3, 4, 11, 12, 13, 16] []) κ L f κ L f12 → lv_has ls 9 [(0, .ref h), (2, .ref a2), (4, .long a4), (6, .ref b2), (7, .int (iI z4)), (8, .int (iI z5))] → W p l e (kRm 7 181 0 0) s m AV below meth c H locs 0 0 QQ (F0 m 100 ls []) := by
    intro f12 H locs ls  Y S hl
    refine lv_aload X.1 X.2.1 d_Ag_putAuthenticator_100 (lv_at hl 3 rfl) ?_
    refine lv_iconst (v := iI 4) X.1 X.2.1 d_Ag_putAuthenticator_102 (by decide) ?_
    refine lv_aload_n X.1 X.2.1 d_Ag_putAuthenticator_103 rfl (lv_at hl 0 rfl) ?_
    refine t_geti (ci := 2) X Y S k0 rfl i_Ag 7 (by decide) rfl lk_Ag_72 (fun _ h9 => h9) d_Ag_putAuthenticator_104 (fun z17 e17 l17 u17 => ?_)
    refine lv_ldc (v := (1000000)) X.1 X.2.1 X.2.2.2.1 (X.2.2.1 _ cn_Ag_199) d_Ag_putAuthenticator_107 ?_
    refine t_eq (y := iI 1000000) (by decide) ?_
    refine z_iremg X.1 X.2.1 ⟨by omega, by omega⟩ ⟨by decide, by decide⟩ d_Ag_putAuthenticator_109 (fun z18 l18 u18 x18 => ?_)
    refine lv_i2l X.1 X.2.1 d_Ag_putAuthenticator_110 rfl ?_
    refine t_anyl (fun v19 => ?_)
    refine t_nv (t_runV (As := [.int (iI 4), .long v19]) (rest := []) (n := 2) X Y S k2 hml hl.1 (c_By_putNumber l D E T κ L f12 H.size b2 6144 k2 (by omega) 4 (by omega) (by omega) v19 S.1) (ok_k X Y hA KS KR) rfl kl_Ag_By_putNumber ks_By_putNumber kx_By_putNumber ki_By_putNumber ini_By ⟨rfl, rfl⟩ hd_By_putNumber ⟨Nat.le_of_ble_eq_true rfl, Nat.le_of_ble_eq_true rfl⟩ rfl (Nat.le_of_ble_eq_true rfl) d_Ag_putAuthenticator_111 ⟨Nat.le_of_ble_eq_true rfl, Nat.le_of_ble_eq_true rfl⟩) X Y hA S (by decide) (fun f20 H locs Y S s20 p20 => ?_)
    refine lv_aload X.1 X.2.1 d_Ag_putAuthenticator_114 (lv_at hl 3 rfl) ?_
    refine lv_iconst (v := iI 5) X.1 X.2.1 d_Ag_putAuthenticator_116 (by decide) ?_
    refine lv_aload_n X.1 X.2.1 d_Ag_putAuthenticator_117 rfl (lv_at hl 0 rfl) ?_
    refine t_ui (t_runV (As := []) (rest := [.int (iI 5), .ref b2]) (n := 0) X Y S k0 hml hl.1 (c_Ag_time l D E T κ L f20 H.size h k0 S.1) (ok_k X Y hA KS KR) rfl kl_Ag_Ag_time ks_Ag_time kx_Ag_time ki_Ag_time ini_Ag ⟨rfl, rfl⟩ hd_Ag_time ⟨Nat.le_of_ble_eq_true rfl, Nat.le_of_ble_eq_true rfl⟩ rfl (Nat.le_of_ble_eq_true rfl) d_Ag_putAuthenticator_118 ⟨Nat.le_of_ble_eq_true rfl, Nat.le_of_ble_eq_true rfl⟩) X Y hA (fun z21 H locs Y p21 => ?_)
    obtain ⟨l21, u21⟩ := p21
    refine t_nv (t_runV (As := [.int (iI 5), .int (iI z21)]) (rest := []) (n := 2) X Y S k2 hml hl.1 (c_By_putTime l D E T κ L f20 H.size b2 6144 k2 (by omega) 5 (by omega) (by omega) z21 (by omega) (by omega) S.1) (ok_k X Y hA KS KR) rfl kl_Ag_By_putTime ks_By_putTime kx_By_putTime ki_By_putTime ini_By ⟨rfl, rfl⟩ hd_By_putTime ⟨Nat.le_of_ble_eq_true rfl, Nat.le_of_ble_eq_true rfl⟩ rfl (Nat.le_of_ble_eq_true rfl) d_Ag_putAuthenticator_121 ⟨Nat.le_of_ble_eq_true rfl, Nat.le_of_ble_eq_true rfl⟩) X Y hA S (by decide) (fun f22 H locs Y S s22 p22 => ?_)
    refine lv_aload_n X.1 X.2.1 d_Ag_putAuthenticator_124 rfl (lv_at hl 1 rfl) ?_
    refine t_alen X Y S KS (tKey_src k2) (by omega) d_Ag_putAuthenticator_125 ?_
    have J24 : ∀ (f23 : pF) (H : Heap) (locs : List Loc) (ls : Array Slot), pH D cCl (pA L sz) s.heap L f23 H locs → tS E T (tFr κ L [1, 2, 3, 4, 11, 12, 13, 16] []) κ L f κ L f23 → lv_has ls 9 [(0, .ref h), (4, .long a4), (6, .ref b2), (7, .int (iI z4)), (8, .int (iI z5))] → W p l e (kRm 7 181 0 0) s m AV below meth c H locs 0 0 QQ (F0 m 137 ls []) := by
      intro f23 H locs ls  Y S hl
      refine lv_lload X.1 X.2.1 d_Ag_putAuthenticator_137 (lv_at hl 1 rfl) ?_
      refine lv_lconst (v := 0) X.1 X.2.1 d_Ag_putAuthenticator_139 rfl ?_
      refine W.lcmp X.1 X.2.1 d_Ag_putAuthenticator_140 ?_
      refine t_u (fun z28 l28 u28 => ?_)
      have J30 : ∀ (f29 : pF) (H : Heap) (locs : List Loc) (ls : Array Slot), pH D cCl (pA L sz) s.heap L f29 H locs → tS E T (tFr κ L [1, 2, 3, 4, 11, 12, 13, 16] []) κ L f κ L f29 → lv_has ls 9 [(0, .ref h), (6, .ref b2), (7, .int (iI z4)), (8, .int (iI z5))] → W p l e (kRm 7 181 0 0) s m AV below meth c H locs 0 0 QQ (F0 m 153 ls []) := by
        intro f29 H locs ls  Y S hl
        refine lv_aload X.1 X.2.1 d_Ag_putAuthenticator_153 (lv_at hl 1 rfl) ?_
        refine lv_iload X.1 X.2.1 d_Ag_putAuthenticator_155 (lv_at hl 3 rfl) ?_
        refine t_nv (t_runV (As := [.int (iI z5)]) (rest := []) (n := 1) X Y S k2 hml hl.1 (c_By_close l D E T κ L f29 H.size b2 6144 k2 (by omega) z5 (by omega) (by omega) S.1) (ok_k X Y hA KS KR) rfl kl_Ag_By_close ks_By_close kx_By_close ki_By_close ini_By ⟨rfl, rfl⟩ hd_By_close ⟨Nat.le_of_ble_eq_true rfl, Nat.le_of_ble_eq_true rfl⟩ rfl (Nat.le_of_ble_eq_true rfl) d_Ag_putAuthenticator_157 ⟨Nat.le_of_ble_eq_true rfl, Nat.le_of_ble_eq_true rfl⟩) X Y hA S (by decide) (fun f34 H locs Y S s34 p34 => ?_)
        refine lv_aload X.1 X.2.1 d_Ag_putAuthenticator_160 (lv_at hl 1 rfl) ?_
        refine lv_iload X.1 X.2.1 d_Ag_putAuthenticator_162 (lv_at hl 2 rfl) ?_
        refine t_nv (t_runV (As := [.int (iI z4)]) (rest := []) (n := 1) X Y S k2 hml hl.1 (c_By_close l D E T κ L f34 H.size b2 6144 k2 (by omega) z4 (by omega) (by omega) S.1) (ok_k X Y hA KS KR) rfl kl_Ag_By_close ks_By_close kx_By_close ki_By_close ini_By ⟨rfl, rfl⟩ hd_By_close ⟨Nat.le_of_ble_eq_true rfl, Nat.le_of_ble_eq_true rfl⟩ rfl (Nat.le_of_ble_eq_true rfl) d_Ag_putAuthenticator_164 ⟨Nat.le_of_ble_eq_true rfl, Nat.le_of_ble_eq_true rfl⟩) X Y hA S (by decide) (fun f35 H locs Y S s35 p35 => ?_)
        refine lv_aload_n X.1 X.2.1 d_Ag_putAuthenticator_167 rfl (lv_at hl 0 rfl) ?_
        refine lv_dup X.1 X.2.1 d_Ag_putAuthenticator_168 rfl ?_
        refine t_geti (ci := 2) X Y S k0 rfl i_Ag 7 (by decide) rfl lk_Ag_72 (fun _ h9 => h9) d_Ag_putAuthenticator_169 (fun z36 e36 l36 u36 => ?_)
        refine lv_iconst (v := iI 1) X.1 X.2.1 d_Ag_putAuthenticator_172 (by decide) ?_
        refine lv_iadd X.1 X.2.1 d_Ag_putAuthenticator_173 ?_
        refine t_u (fun z37 l37 u37 => ?_)
        refine t_put (ci := 2) X Y S k0 rfl i_Ag t_Ag t_Ag_ok n_Ag 7 (by decide) rfl lk_Ag_72 (fun _ h9 => h9) rfl (t_Ag_ok 7 (by decide)) rfl rfl ⟨_, rfl, by omega, by omega⟩ (fun h9 => h9.2.1 (by rw [← (S.2.2.2 _ h9).2, k0]; decide)) d_Ag_putAuthenticator_174 (fun f38 H locs Y S w38 => ?_)
        exact c_retv hQQ X Y hr hlk ⟨rfl, S, trivial⟩ d_Ag_putAuthenticator_177
      refine z_if_lt (tgt := 153) X.1 X.2.1 d_Ag_putAuthenticator_141 (by decide) ⟨by omega, by omega⟩ (fun h39 => ?_) (fun h39 => ?_)
      · exact J30 f23 _ _ _  Y S (lv_sub hl [0, 2, 3, 4] rfl)
      · refine lv_aload X.1 X.2.1 d_Ag_putAuthenticator_144 (lv_at hl 2 rfl) ?_
        refine lv_bipush (v := iI 7) X.1 X.2.1 d_Ag_putAuthenticator_146 (by decide) ?_
        refine lv_lload X.1 X.2.1 d_Ag_putAuthenticator_148 (lv_at hl 1 rfl) ?_
        refine t_nv (t_runV (As := [.int (iI 7), .long a4]) (rest := []) (n := 2) X Y S k2 hml hl.1 (c_By_putNumber l D E T κ L f23 H.size b2 6144 k2 (by omega) 7 (by omega) (by omega) a4 S.1) (ok_k X Y hA KS KR) rfl kl_Ag_By_putNumber ks_By_putNumber kx_By_putNumber ki_By_putNumber ini_By ⟨rfl, rfl⟩ hd_By_putNumber ⟨Nat.le_of_ble_eq_true rfl, Nat.le_of_ble_eq_true rfl⟩ rfl (Nat.le_of_ble_eq_true rfl) d_Ag_putAuthenticator_150 ⟨Nat.le_of_ble_eq_true rfl, Nat.le_of_ble_eq_true rfl⟩) X Y hA S (by decide) (fun f40 H locs Y S s40 p40 => ?_)
        exact J30 f40 _ _ _  Y S (lv_sub hl [0, 2, 3, 4] rfl)
    refine z_if_le (tgt := 137) X.1 X.2.1 d_Ag_putAuthenticator_126 (by decide) ⟨by omega, by omega⟩ (fun h41 => ?_) (fun h41 => ?_)
    · exact J24 f22 _ _ _  Y S (lv_sub hl [0, 2, 3, 4, 5] rfl)
    · refine lv_aload X.1 X.2.1 d_Ag_putAuthenticator_129 (lv_at hl 3 rfl) ?_
      refine lv_bipush (v := iI 6) X.1 X.2.1 d_Ag_putAuthenticator_131 (by decide) ?_
      refine lv_aload_n X.1 X.2.1 d_Ag_putAuthenticator_133 rfl (lv_at hl 1 rfl) ?_
      refine t_nv (t_runV (As := [.int (iI 6), .ref a2]) (rest := []) (n := 2) X Y S k2 hml hl.1 (c_By_putKey l D E T κ L f22 H.size b2 6144 k2 (by omega) 6 (by omega) (by omega) a2 n2 k2 (by omega) S.1) (ok_k X Y hA KS KR) rfl kl_Ag_By_putKey ks_By_putKey kx_By_putKey ki_By_putKey ini_By ⟨rfl, rfl⟩ hd_By_putKey ⟨Nat.le_of_ble_eq_true rfl, Nat.le_of_ble_eq_true rfl⟩ rfl (Nat.le_of_ble_eq_true rfl) d_Ag_putAuthenticator_134 ⟨Nat.le_of_ble_eq_true rfl, Nat.le_of_ble_eq_true rfl⟩) X Y hA S (by decide) (fun f42 H locs Y S s42 p42 => ?_)
      exact J24 f42 _ _ _  Y S (lv_sub hl [0, 2, 3, 4, 5] rfl)
  refine z_if_le (tgt := 100) X.1 X.2.1 d_Ag_putAuthenticator_65 (by decide) ⟨by omega, by omega⟩ (fun h43 => ?_) (fun h43 => ?_)
  · exact J13 f10 _ _ _  Y S (lv_sub hl [3, 5, 7, 2, 1, 0] rfl)
  · refine lv_aload_n X.1 X.2.1 d_Ag_putAuthenticator_68 rfl (lv_at hl 3 rfl) ?_
    refine t_get0 (ci := 2) X Y S k0 rfl i_Ag 0 (by decide) rfl lk_Ag_42 (fun _ h9 => h9) d_Ag_putAuthenticator_69 ((gF_same (s10.2.2.2 _ ⟨(t_obj S.1 k0).1, by rw [k0]; decide, by simp⟩).1 0).trans ((gF_same (s7.2.2.2 _ ⟨(t_obj S.1 k0).1, by rw [k0]; decide, by simp⟩).1 0).trans ((gF_same (s6.2.2.2 _ ⟨(t_obj S.1 k0).1, by rw [k0]; decide, by simp⟩).1 0).trans ((gF_same (s5.2.2.2 _ ⟨(t_obj S.1 k0).1, by rw [k0]; decide, by simp⟩).1 0).trans ((gF_same (s4.2.2.2 _ ⟨(t_obj S.1 k0).1, by rw [k0]; decide, by simp⟩).1 0).trans ((gF_same (s3.2.2.2 _ ⟨(t_obj S.1 k0).1, by rw [k0]; decide, by simp⟩).1 0).trans e1)))))) ?_
    refine lv_aload_n X.1 X.2.1 d_Ag_putAuthenticator_72 rfl (lv_at hl 4 rfl) ?_
    refine t_getk (ci := 10) X Y S k1 rfl i_Ti 4 (by decide) rfl lk_Ag_126 (fun _ h9 => h9) d_Ag_putAuthenticator_73 (fun b44 n44 e44 k44 x44 => ?_)
    refine lv_bipush (v := iI 6) X.1 X.2.1 d_Ag_putAuthenticator_76 (by decide) ?_
    refine lv_aload_n X.1 X.2.1 d_Ag_putAuthenticator_78 rfl (lv_at hl 6 rfl) ?_
    refine lv_iconst (v := iI 0) X.1 X.2.1 d_Ag_putAuthenticator_79 (by decide) ?_
    refine lv_aload_n X.1 X.2.1 d_Ag_putAuthenticator_80 rfl (lv_at hl 6 rfl) ?_
    refine t_get0 (ci := 3) X Y S k3 rfl i_By 1 (by decide) rfl lk_Ag_211 (fun _ h9 => h9) d_Ag_putAuthenticator_81 e11 ?_
    refine t_nv (t_runV (As := [.ref b44, .int (iI 6), .ref a3, .int (iI 0), .int (iI z11)]) (rest := []) (n := 5) X Y S k1 hml hl.1 (c_Va_sum l D E T κ L f10 H.size b1 k1 b44 n44 k44 (by omega) 6 (by omega) (by omega) a3 n3 k3 (by omega) 0 (by omega) (by omega) z11 (by omega) (by omega) S.1) (ok_k X Y hA KS KR) rfl kl_Ag_Va_sum ks_Va_sum kx_Va_sum ki_Va_sum ini_Va ⟨rfl, rfl⟩ hd_Va_sum ⟨Nat.le_of_ble_eq_true rfl, Nat.le_of_ble_eq_true rfl⟩ rfl (Nat.le_of_ble_eq_true rfl) d_Ag_putAuthenticator_84 ⟨Nat.le_of_ble_eq_true rfl, Nat.le_of_ble_eq_true rfl⟩) X Y hA S (by decide) (fun f45 H locs Y S s45 p45 => ?_)
    refine lv_aload_n X.1 X.2.1 d_Ag_putAuthenticator_87 rfl (lv_at hl 3 rfl) ?_
    refine t_get0 (ci := 2) X Y S k0 rfl i_Ag 0 (by decide) rfl lk_Ag_42 (fun _ h9 => h9) d_Ag_putAuthenticator_88 ((gF_same (s45.2.2.2 _ ⟨(t_obj S.1 k0).1, by rw [k0]; decide, by simp⟩).1 0).trans ((gF_same (s10.2.2.2 _ ⟨(t_obj S.1 k0).1, by rw [k0]; decide, by simp⟩).1 0).trans ((gF_same (s7.2.2.2 _ ⟨(t_obj S.1 k0).1, by rw [k0]; decide, by simp⟩).1 0).trans ((gF_same (s6.2.2.2 _ ⟨(t_obj S.1 k0).1, by rw [k0]; decide, by simp⟩).1 0).trans ((gF_same (s5.2.2.2 _ ⟨(t_obj S.1 k0).1, by rw [k0]; decide, by simp⟩).1 0).trans ((gF_same (s4.2.2.2 _ ⟨(t_obj S.1 k0).1, by rw [k0]; decide, by simp⟩).1 0).trans ((gF_same (s3.2.2.2 _ ⟨(t_obj S.1 k0).1, by rw [k0]; decide, by simp⟩).1 0).trans e1))))))) ?_
    refine lv_aload X.1 X.2.1 d_Ag_putAuthenticator_91 (lv_at hl 2 rfl) ?_
    refine lv_aload_n X.1 X.2.1 d_Ag_putAuthenticator_93 rfl (lv_at hl 4 rfl) ?_
    refine t_get0 (ci := 10) X Y S k1 rfl i_Ti 4 (by decide) rfl lk_Ag_126 (fun _ h9 => h9) d_Ag_putAuthenticator_94 ((gF_same (s45.2.2.2 _ ⟨(t_obj S.1 k1).1, by rw [k1]; decide, by simp⟩).1 4).trans e44) ?_
    refine t_nv (t_runV (As := [.ref b2, .ref b44]) (rest := []) (n := 2) X Y S k1 hml hl.1 (c_Va_putSum l D E T κ L f45 H.size b1 k1 b2 6144 k2 (by omega) b44 n44 k44 (by omega) S.1) (ok_k X Y hA KS KR) rfl kl_Ag_Va_putSum ks_Va_putSum kx_Va_putSum ki_Va_putSum ini_Va ⟨rfl, rfl⟩ hd_Va_putSum ⟨Nat.le_of_ble_eq_true rfl, Nat.le_of_ble_eq_true rfl⟩ rfl (Nat.le_of_ble_eq_true rfl) d_Ag_putAuthenticator_97 ⟨Nat.le_of_ble_eq_true rfl, Nat.le_of_ble_eq_true rfl⟩) X Y hA S (by decide) (fun f46 H locs Y S s46 p46 => ?_)
    exact J13 f46 _ _ _  Y S (lv_sub hl [3, 5, 7, 2, 1, 0] rfl)
set_option maxHeartbeats 4000000 in
set_option maxRecDepth 100000 in
theorem c_Ag_putApReq (l : Launch) (D : va_G) (E : cE) (T : cT) (κ : tK) (L : List Nat) (f : pF) (sz : Nat) (h : Nat) (k0 : κ h = (12, 0)) (a1 : Nat) (k1 : κ a1 = (20, 0)) (a2 : Int) (l_a2 : (-2147483648) ≤ a2) (u_a2 : a2 ≤ 2147483647) (a3 : Int) (l_a3 : (-2147483648) ≤ a3) (u_a3 : a3 ≤ 2147483647) (a4 n4 : Nat) (k4 : κ a4 = (13, n4)) (x4 : n4 ≤ 12288) (hw : tW E T κ L f) : Met l y_Ag_putApReq (k_Ag_putApReq :: lw_tg) (kRm 6 187 0 0) (va_Pc [.ref h, .ref a1, .int (iI a2), .int (iI a3), .ref a4] (kPre D E T L f sz)) (va_Qv (nPv E T [1, 2, 3, 4, 11, 13, 16, 21] κ L f (fun (g : pF) => True)) (cPost D E (pA L sz)) (pA L sz)) 0 0 (pA L sz) := by
  refine k_enter (own := R_Ag) (by decide) rfl (Nat.le_of_ble_eq_true rfl) (fun p e s m below meth c ls AV QQ H locs hQQ X Y hA hin hr hlk hml hl KS KR => ?_)
  have hl : lv_has ls 8 [(0, .ref h), (1, .ref a1), (2, .int (iI a2)), (3, .int (iI a3)), (4, .ref a4)] := hl
  have S : tS E T (tFr κ L [1, 2, 3, 4, 11, 13, 16, 21] []) κ L f κ L f := tS_rf hw
  refine lv_aload X.1 X.2.1 d_Ag_putApReq_0 (lv_at hl 4 rfl) ?_
  refine lv_bipush (v := iI 110) X.1 X.2.1 d_Ag_putApReq_2 (by decide) ?_
  refine t_ni (t_runV (As := [.int (iI 110)]) (rest := []) (n := 1) X Y S k4 hml hl.1 (c_By_open l D E T κ L f H.size a4 n4 k4 (by omega) 110 (by omega) (by omega) S.1) (ok_k X Y hA KS KR) rfl kl_Ag_By_open ks_By_open kx_By_open ki_By_open ini_By ⟨rfl, rfl⟩ hd_By_open ⟨Nat.le_of_ble_eq_true rfl, Nat.le_of_ble_eq_true rfl⟩ rfl (Nat.le_of_ble_eq_true rfl) d_Ag_putApReq_4 ⟨Nat.le_of_ble_eq_true rfl, Nat.le_of_ble_eq_true rfl⟩) X Y hA S (by decide) (fun z1 f1 H locs Y S s1 p1 => ?_)
  obtain ⟨l1, u1⟩ := p1
  refine lv_istore (lv' := [(5, .int (iI z1)), (0, .ref h), (1, .ref a1), (2, .int (iI a2)), (3, .int (iI a3)), (4, .ref a4)]) X.1 X.2.1 d_Ag_putApReq_7 hl (by decide) rfl (fun ls hl => ?_)
  refine lv_aload X.1 X.2.1 d_Ag_putApReq_9 (lv_at hl 5 rfl) ?_
  refine lv_bipush (v := iI 48) X.1 X.2.1 d_Ag_putApReq_11 (by decide) ?_
  refine t_ni (t_runV (As := [.int (iI 48)]) (rest := []) (n := 1) X Y S k4 hml hl.1 (c_By_open l D E T κ L f1 H.size a4 n4 k4 (by omega) 48 (by omega) (by omega) S.1) (ok_k X Y hA KS KR) rfl kl_Ag_By_open ks_By_open kx_By_open ki_By_open ini_By ⟨rfl, rfl⟩ hd_By_open ⟨Nat.le_of_ble_eq_true rfl, Nat.le_of_ble_eq_true rfl⟩ rfl (Nat.le_of_ble_eq_true rfl) d_Ag_putApReq_13 ⟨Nat.le_of_ble_eq_true rfl, Nat.le_of_ble_eq_true rfl⟩) X Y hA S (by decide) (fun z2 f2 H locs Y S s2 p2 => ?_)
  obtain ⟨l2, u2⟩ := p2
  refine lv_istore (lv' := [(6, .int (iI z2)), (5, .int (iI z1)), (0, .ref h), (1, .ref a1), (2, .int (iI a2)), (3, .int (iI a3)), (4, .ref a4)]) X.1 X.2.1 d_Ag_putApReq_16 hl (by decide) rfl (fun ls hl => ?_)
  refine lv_aload X.1 X.2.1 d_Ag_putApReq_18 (lv_at hl 6 rfl) ?_
  refine lv_iconst (v := iI 0) X.1 X.2.1 d_Ag_putApReq_20 (by decide) ?_
  refine lv_ldc2 (v := (5)) X.1 X.2.1 X.2.2.2.1 (X.2.2.1 _ cl_Ag_179) d_Ag_putApReq_21 ?_
  refine t_nv (t_runV (As := [.int (iI 0), .long ((5))]) (rest := []) (n := 2) X Y S k4 hml hl.1 (c_By_putNumber l D E T κ L f2 H.size a4 n4 k4 (by omega) 0 (by omega) (by omega) ((5)) S.1) (ok_k X Y hA KS KR) rfl kl_Ag_By_putNumber ks_By_putNumber kx_By_putNumber ki_By_putNumber ini_By ⟨rfl, rfl⟩ hd_By_putNumber ⟨Nat.le_of_ble_eq_true rfl, Nat.le_of_ble_eq_true rfl⟩ rfl (Nat.le_of_ble_eq_true rfl) d_Ag_putApReq_24 ⟨Nat.le_of_ble_eq_true rfl, Nat.le_of_ble_eq_true rfl⟩) X Y hA S (by decide) (fun f3 H locs Y S s3 p3 => ?_)
  refine lv_aload X.1 X.2.1 d_Ag_putApReq_27 (lv_at hl 6 rfl) ?_
  refine lv_iconst (v := iI 1) X.1 X.2.1 d_Ag_putApReq_29 (by decide) ?_
  refine lv_ldc2 (v := (14)) X.1 X.2.1 X.2.2.2.1 (X.2.2.1 _ cl_Ag_226) d_Ag_putApReq_30 ?_
  refine t_nv (t_runV (As := [.int (iI 1), .long ((14))]) (rest := []) (n := 2) X Y S k4 hml hl.1 (c_By_putNumber l D E T κ L f3 H.size a4 n4 k4 (by omega) 1 (by omega) (by omega) ((14)) S.1) (ok_k X Y hA KS KR) rfl kl_Ag_By_putNumber ks_By_putNumber kx_By_putNumber ki_By_putNumber ini_By ⟨rfl, rfl⟩ hd_By_putNumber ⟨Nat.le_of_ble_eq_true rfl, Nat.le_of_ble_eq_true rfl⟩ rfl (Nat.le_of_ble_eq_true rfl) d_Ag_putApReq_33 ⟨Nat.le_of_ble_eq_true rfl, Nat.le_of_ble_eq_true rfl⟩) X Y hA S (by decide) (fun f4 H locs Y S s4 p4 => ?_)
  refine lv_aload X.1 X.2.1 d_Ag_putApReq_36 (lv_at hl 6 rfl) ?_
  refine lv_iconst (v := iI 2) X.1 X.2.1 d_Ag_putApReq_38 (by decide) ?_
  refine lv_iload_n X.1 X.2.1 d_Ag_putApReq_39 rfl (lv_at hl 4 rfl) ?_
  refine t_nv (t_runV (As := [.int (iI 2), .int (iI a2)]) (rest := []) (n := 2) X Y S k4 hml hl.1 (c_By_putBits l D E T κ L f4 H.size a4 n4 k4 (by omega) 2 (by omega) (by omega) a2 (by omega) (by omega) S.1) (ok_k X Y hA KS KR) rfl kl_Ag_By_putBits ks_By_putBits kx_By_putBits ki_By_putBits ini_By ⟨rfl, rfl⟩ hd_By_putBits ⟨Nat.le_of_ble_eq_true rfl, Nat.le_of_ble_eq_true rfl⟩ rfl (Nat.le_of_ble_eq_true rfl) d_Ag_putApReq_40 ⟨Nat.le_of_ble_eq_true rfl, Nat.le_of_ble_eq_true rfl⟩) X Y hA S (by decide) (fun f5 H locs Y S s5 p5 => ?_)
  refine lv_aload X.1 X.2.1 d_Ag_putApReq_43 (lv_at hl 6 rfl) ?_
  refine lv_iconst (v := iI 3) X.1 X.2.1 d_Ag_putApReq_45 (by decide) ?_
  refine lv_aload_n X.1 X.2.1 d_Ag_putApReq_46 rfl (lv_at hl 3 rfl) ?_
  refine t_getm (ci := 10) X Y S k1 rfl i_Ti 0 (by decide) rfl (k1 := 13) (k2 := 4000) rfl rfl lk_Ag_228 (fun _ h9 => h9) d_Ag_putApReq_47 (fun b6 n6 e6 k6 x6 => ?_)
  refine lv_iconst (v := iI 0) X.1 X.2.1 d_Ag_putApReq_50 (by decide) ?_
  refine t_nv (t_runV (As := [.int (iI 3), .ref b6, .int (iI 0)]) (rest := []) (n := 3) X Y S k4 hml hl.1 (c_By_putCopy l D E T κ L f5 H.size a4 n4 k4 (by omega) 3 (by omega) (by omega) b6 n6 k6 (by omega) 0 (by omega) (by omega) S.1) (ok_k X Y hA KS KR) rfl kl_Ag_By_putCopy ks_By_putCopy kx_By_putCopy ki_By_putCopy ini_By ⟨rfl, rfl⟩ hd_By_putCopy ⟨Nat.le_of_ble_eq_true rfl, Nat.le_of_ble_eq_true rfl⟩ rfl (Nat.le_of_ble_eq_true rfl) d_Ag_putApReq_51 ⟨Nat.le_of_ble_eq_true rfl, Nat.le_of_ble_eq_true rfl⟩) X Y hA S (by decide) (fun f7 H locs Y S s7 p7 => ?_)
  refine lv_aload X.1 X.2.1 d_Ag_putApReq_54 (lv_at hl 6 rfl) ?_
  refine lv_iconst (v := iI 4) X.1 X.2.1 d_Ag_putApReq_56 (by decide) ?_
  refine t_ni (t_runV (As := [.int (iI 4)]) (rest := []) (n := 1) X Y S k4 hml hl.1 (c_By_openField l D E T κ L f7 H.size a4 n4 k4 (by omega) 4 (by omega) (by omega) S.1) (ok_k X Y hA KS KR) rfl kl_Ag_By_openField ks_By_openField kx_By_openField ki_By_openField ini_By ⟨rfl, rfl⟩ hd_By_openField ⟨Nat.le_of_ble_eq_true rfl, Nat.le_of_ble_eq_true rfl⟩ rfl (Nat.le_of_ble_eq_true rfl) d_Ag_putApReq_57 ⟨Nat.le_of_ble_eq_true rfl, Nat.le_of_ble_eq_true rfl⟩) X Y hA S (by decide) (fun z8 f8 H locs Y S s8 p8 => ?_)
  obtain ⟨l8, u8⟩ := p8
  refine lv_istore (lv' := [(7, .int (iI z8)), (6, .int (iI z2)), (5, .int (iI z1)), (0, .ref h), (1, .ref a1), (2, .int (iI a2)), (3, .int (iI a3)), (4, .ref a4)]) X.1 X.2.1 d_Ag_putApReq_60 hl (by decide) rfl (fun ls hl => ?_)
  refine lv_aload_n X.1 X.2.1 d_Ag_putApReq_62 rfl (lv_at hl 3 rfl) ?_
  refine t_getr (ci := 2) X Y S k0 rfl i_Ag 0 (by decide) rfl (k1 := 21) (k2 := 0) rfl rfl lk_Ag_42 (fun _ h9 => h9) d_Ag_putApReq_63 (fun b9 e9 k9 => ?_)
  refine lv_aload X.1 X.2.1 d_Ag_putApReq_66 (lv_at hl 7 rfl) ?_
  refine lv_aload_n X.1 X.2.1 d_Ag_putApReq_68 rfl (lv_at hl 4 rfl) ?_
  refine t_getk (ci := 10) X Y S k1 rfl i_Ti 4 (by decide) rfl lk_Ag_126 (fun _ h9 => h9) d_Ag_putApReq_69 (fun b10 n10 e10 k10 x10 => ?_)
  refine lv_iload_n X.1 X.2.1 d_Ag_putApReq_72 rfl (lv_at hl 6 rfl) ?_
  refine lv_iconst (v := iI 0) X.1 X.2.1 d_Ag_putApReq_73 (by decide) ?_
  refine t_nv (t_runV (As := [.ref a4, .ref b10, .int (iI a3), .int (iI 0)]) (rest := []) (n := 4) X Y S k9 hml hl.1 (c_Va_putSealed l D E T κ L f8 H.size b9 k9 a4 n4 k4 (by omega) b10 n10 k10 (by omega) a3 (by omega) (by omega) 0 (by omega) (by omega) S.1) (ok_k X Y hA KS KR) rfl kl_Ag_Va_putSealed ks_Va_putSealed kx_Va_putSealed ki_Va_putSealed ini_Va ⟨rfl, rfl⟩ hd_Va_putSealed ⟨Nat.le_of_ble_eq_true rfl, Nat.le_of_ble_eq_true rfl⟩ rfl (Nat.le_of_ble_eq_true rfl) d_Ag_putApReq_74 ⟨Nat.le_of_ble_eq_true rfl, Nat.le_of_ble_eq_true rfl⟩) X Y hA S (by decide) (fun f11 H locs Y S s11 p11 => ?_)
  refine lv_aload X.1 X.2.1 d_Ag_putApReq_77 (lv_at hl 7 rfl) ?_
  refine lv_iload X.1 X.2.1 d_Ag_putApReq_79 (lv_at hl 0 rfl) ?_
  refine t_nv (t_runV (As := [.int (iI z8)]) (rest := []) (n := 1) X Y S k4 hml hl.1 (c_By_close l D E T κ L f11 H.size a4 n4 k4 (by omega) z8 (by omega) (by omega) S.1) (ok_k X Y hA KS KR) rfl kl_Ag_By_close ks_By_close kx_By_close ki_By_close ini_By ⟨rfl, rfl⟩ hd_By_close ⟨Nat.le_of_ble_eq_true rfl, Nat.le_of_ble_eq_true rfl⟩ rfl (Nat.le_of_ble_eq_true rfl) d_Ag_putApReq_81 ⟨Nat.le_of_ble_eq_true rfl, Nat.le_of_ble_eq_true rfl⟩) X Y hA S (by decide) (fun f12 H locs Y S s12 p12 => ?_)
  refine lv_aload X.1 X.2.1 d_Ag_putApReq_84 (lv_at hl 7 rfl) ?_
  refine lv_iload X.1 X.2.1 d_Ag_putApReq_86 (lv_at hl 1 rfl) ?_
  refine t_nv (t_runV (As := [.int (iI z2)]) (rest := []) (n := 1) X Y S k4 hml hl.1 (c_By_close l D E T κ L f12 H.size a4 n4 k4 (by omega) z2 (by omega) (by omega) S.1) (ok_k X Y hA KS KR) rfl kl_Ag_By_close ks_By_close kx_By_close ki_By_close ini_By ⟨rfl, rfl⟩ hd_By_close ⟨Nat.le_of_ble_eq_true rfl, Nat.le_of_ble_eq_true rfl⟩ rfl (Nat.le_of_ble_eq_true rfl) d_Ag_putApReq_88 ⟨Nat.le_of_ble_eq_true rfl, Nat.le_of_ble_eq_true rfl⟩) X Y hA S (by decide) (fun f13 H locs Y S s13 p13 => ?_)
  refine lv_aload X.1 X.2.1 d_Ag_putApReq_91 (lv_at hl 7 rfl) ?_
  refine lv_iload X.1 X.2.1 d_Ag_putApReq_93 (lv_at hl 2 rfl) ?_
  refine t_nv (t_runV (As := [.int (iI z1)]) (rest := []) (n := 1) X Y S k4 hml hl.1 (c_By_close l D E T κ L f13 H.size a4 n4 k4 (by omega) z1 (by omega) (by omega) S.1) (ok_k X Y hA KS KR) rfl kl_Ag_By_close ks_By_close kx_By_close ki_By_close ini_By ⟨rfl, rfl⟩ hd_By_close ⟨Nat.le_of_ble_eq_true rfl, Nat.le_of_ble_eq_true rfl⟩ rfl (Nat.le_of_ble_eq_true rfl) d_Ag_putApReq_95 ⟨Nat.le_of_ble_eq_true rfl, Nat.le_of_ble_eq_true rfl⟩) X Y hA S (by decide) (fun f14 H locs Y S s14 p14 => ?_)
  exact c_retv hQQ X Y hr hlk ⟨rfl, S, trivial⟩ d_Ag_putApReq_98
set_option maxHeartbeats 4000000 in
set_option maxRecDepth 100000 in
theorem c_Ag_putRequest (l : Launch) (D : va_G) (E : cE) (T : cT) (κ : tK) (L : List Nat) (f : pF) (sz : Nat) (h : Nat) (k0 : κ h = (12, 0)) (a1 : Int) (l_a1 : (-2147483648) ≤ a1) (u_a1 : a1 ≤ 2147483647) (a2 n2 : Nat) (k2 : κ a2 = (13, n2)) (x2 : n2 ≤ 12288) (hw : tW E T κ L f) : Met l y_Ag_putRequest (k_Ag_putRequest :: lw_tg) (kRm 8 214 0 0) (va_Pc [.ref h, .int (iI a1), .ref a2] (kPre D E T L f sz)) (va_Qv (nPv E T [1, 2, 3, 4, 11, 12, 13, 16, 21] κ L f (fun (g : pF) => True)) (cPost D E (pA L sz)) (pA L sz)) 0 0 (pA L sz) := by
  refine k_enter (own := R_Ag) (by decide) rfl (Nat.le_of_ble_eq_true rfl) (fun p e s m below meth c ls AV QQ H locs hQQ X Y hA hin hr hlk hml hl KS KR => ?_)
  have hl : lv_has ls 11 [(0, .ref h), (1, .int (iI a1)), (2, .ref a2)] := hl
  have S : tS E T (tFr κ L [1, 2, 3, 4, 11, 12, 13, 16, 21] []) κ L f κ L f := tS_rf hw
  refine lv_aload_n X.1 X.2.1 d_Ag_putRequest_0 rfl (lv_at hl 0 rfl) ?_
  refine t_geti (ci := 2) X Y S k0 rfl i_Ag 8 (by decide) rfl lk_Ag_75 (fun _ h9 => h9) d_Ag_putRequest_1 (fun z1 e1 l1 u1 => ?_)
  refine lv_iconst (v := iI 2) X.1 X.2.1 d_Ag_putRequest_4 (by decide) ?_
  have J3 : ∀ (z2 : Int) (H : Heap) (locs : List Loc) (ls : Array Slot), (10 ≤ z2) → (z2 ≤ 12) → pH D cCl (pA L sz) s.heap L f H locs → tS E T (tFr κ L [1, 2, 3, 4, 11, 12, 13, 16, 21] []) κ L f κ L f → lv_has ls 11 [(0, .ref h), (1, .int (iI a1)), (2, .ref a2)] → W p l e (kRm 8 214 0 0) s m AV below meth c H locs 0 0 QQ (F0 m 15 ls [.int (iI z2)]) := by
    intro z2 H locs ls l2 u2 Y S hl
    refine lv_istore_n (lv' := [(3, .int (iI z2)), (0, .ref h), (1, .int (iI a1)), (2, .ref a2)]) X.1 X.2.1 d_Ag_putRequest_15 rfl hl (by decide) rfl (fun ls hl => ?_)
    refine lv_aload_n X.1 X.2.1 d_Ag_putRequest_16 rfl (lv_at hl 3 rfl) ?_
    refine t_nv (t_runV (As := []) (rest := []) (n := 0) X Y S k2 hml hl.1 (c_By_clear l D E T κ L f H.size a2 n2 k2 (by omega) S.1) (ok_k X Y hA KS KR) rfl kl_Ag_By_clear ks_By_clear kx_By_clear ki_By_clear ini_By ⟨rfl, rfl⟩ hd_By_clear ⟨Nat.le_of_ble_eq_true rfl, Nat.le_of_ble_eq_true rfl⟩ rfl (Nat.le_of_ble_eq_true rfl) d_Ag_putRequest_17 ⟨Nat.le_of_ble_eq_true rfl, Nat.le_of_ble_eq_true rfl⟩) X Y hA S (by decide) (fun f7 H locs Y S s7 p7 => ?_)
    refine lv_aload_n X.1 X.2.1 d_Ag_putRequest_20 rfl (lv_at hl 3 rfl) ?_
    refine lv_bipush (v := iI 96) X.1 X.2.1 d_Ag_putRequest_21 (by decide) ?_
    refine lv_iload_n X.1 X.2.1 d_Ag_putRequest_23 rfl (lv_at hl 0 rfl) ?_
    refine z_iadd X.1 X.2.1 d_Ag_putRequest_24 ?_
    refine t_ni (t_runV (As := [.int (iI (96 + z2))]) (rest := []) (n := 1) X Y S k2 hml hl.1 (c_By_open l D E T κ L f7 H.size a2 n2 k2 (by omega) (96 + z2) (by omega) (by omega) S.1) (ok_k X Y hA KS KR) rfl kl_Ag_By_open ks_By_open kx_By_open ki_By_open ini_By ⟨rfl, rfl⟩ hd_By_open ⟨Nat.le_of_ble_eq_true rfl, Nat.le_of_ble_eq_true rfl⟩ rfl (Nat.le_of_ble_eq_true rfl) d_Ag_putRequest_25 ⟨Nat.le_of_ble_eq_true rfl, Nat.le_of_ble_eq_true rfl⟩) X Y hA S (by decide) (fun z8 f8 H locs Y S s8 p8 => ?_)
    obtain ⟨l8, u8⟩ := p8
    refine lv_istore (lv' := [(4, .int (iI z8)), (3, .int (iI z2)), (0, .ref h), (1, .int (iI a1)), (2, .ref a2)]) X.1 X.2.1 d_Ag_putRequest_28 hl (by decide) rfl (fun ls hl => ?_)
    refine lv_aload_n X.1 X.2.1 d_Ag_putRequest_30 rfl (lv_at hl 4 rfl) ?_
    refine lv_bipush (v := iI 48) X.1 X.2.1 d_Ag_putRequest_31 (by decide) ?_
    refine t_ni (t_runV (As := [.int (iI 48)]) (rest := []) (n := 1) X Y S k2 hml hl.1 (c_By_open l D E T κ L f8 H.size a2 n2 k2 (by omega) 48 (by omega) (by omega) S.1) (ok_k X Y hA KS KR) rfl kl_Ag_By_open ks_By_open kx_By_open ki_By_open ini_By ⟨rfl, rfl⟩ hd_By_open ⟨Nat.le_of_ble_eq_true rfl, Nat.le_of_ble_eq_true rfl⟩ rfl (Nat.le_of_ble_eq_true rfl) d_Ag_putRequest_33 ⟨Nat.le_of_ble_eq_true rfl, Nat.le_of_ble_eq_true rfl⟩) X Y hA S (by decide) (fun z9 f9 H locs Y S s9 p9 => ?_)
    obtain ⟨l9, u9⟩ := p9
    refine lv_istore (lv' := [(5, .int (iI z9)), (4, .int (iI z8)), (3, .int (iI z2)), (0, .ref h), (1, .int (iI a1)), (2, .ref a2)]) X.1 X.2.1 d_Ag_putRequest_36 hl (by decide) rfl (fun ls hl => ?_)
    refine lv_aload_n X.1 X.2.1 d_Ag_putRequest_38 rfl (lv_at hl 5 rfl) ?_
    refine lv_iconst (v := iI 1) X.1 X.2.1 d_Ag_putRequest_39 (by decide) ?_
    refine lv_ldc2 (v := (5)) X.1 X.2.1 X.2.2.2.1 (X.2.2.1 _ cl_Ag_179) d_Ag_putRequest_40 ?_
    refine t_nv (t_runV (As := [.int (iI 1), .long ((5))]) (rest := []) (n := 2) X Y S k2 hml hl.1 (c_By_putNumber l D E T κ L f9 H.size a2 n2 k2 (by omega) 1 (by omega) (by omega) ((5)) S.1) (ok_k X Y hA KS KR) rfl kl_Ag_By_putNumber ks_By_putNumber kx_By_putNumber ki_By_putNumber ini_By ⟨rfl, rfl⟩ hd_By_putNumber ⟨Nat.le_of_ble_eq_true rfl, Nat.le_of_ble_eq_true rfl⟩ rfl (Nat.le_of_ble_eq_true rfl) d_Ag_putRequest_43 ⟨Nat.le_of_ble_eq_true rfl, Nat.le_of_ble_eq_true rfl⟩) X Y hA S (by decide) (fun f10 H locs Y S s10 p10 => ?_)
    refine lv_aload_n X.1 X.2.1 d_Ag_putRequest_46 rfl (lv_at hl 5 rfl) ?_
    refine lv_iconst (v := iI 2) X.1 X.2.1 d_Ag_putRequest_47 (by decide) ?_
    refine lv_iload_n X.1 X.2.1 d_Ag_putRequest_48 rfl (lv_at hl 2 rfl) ?_
    refine lv_i2l X.1 X.2.1 d_Ag_putRequest_49 rfl ?_
    refine t_anyl (fun v11 => ?_)
    refine t_nv (t_runV (As := [.int (iI 2), .long v11]) (rest := []) (n := 2) X Y S k2 hml hl.1 (c_By_putNumber l D E T κ L f10 H.size a2 n2 k2 (by omega) 2 (by omega) (by omega) v11 S.1) (ok_k X Y hA KS KR) rfl kl_Ag_By_putNumber ks_By_putNumber kx_By_putNumber ki_By_putNumber ini_By ⟨rfl, rfl⟩ hd_By_putNumber ⟨Nat.le_of_ble_eq_true rfl, Nat.le_of_ble_eq_true rfl⟩ rfl (Nat.le_of_ble_eq_true rfl) d_Ag_putRequest_50 ⟨Nat.le_of_ble_eq_true rfl, Nat.le_of_ble_eq_true rfl⟩) X Y hA S (by decide) (fun f12 H locs Y S s12 p12 => ?_)
    refine lv_aload_n X.1 X.2.1 d_Ag_putRequest_53 rfl (lv_at hl 3 rfl) ?_
    refine t_get0 (ci := 2) X Y S k0 rfl i_Ag 8 (by decide) rfl lk_Ag_75 (fun _ h9 => h9) d_Ag_putRequest_54 ((gF_same (s12.2.2.2 _ ⟨(t_obj S.1 k0).1, by rw [k0]; decide, by simp⟩).1 8).trans ((gF_same (s10.2.2.2 _ ⟨(t_obj S.1 k0).1, by rw [k0]; decide, by simp⟩).1 8).trans ((gF_same (s9.2.2.2 _ ⟨(t_obj S.1 k0).1, by rw [k0]; decide, by simp⟩).1 8).trans ((gF_same (s8.2.2.2 _ ⟨(t_obj S.1 k0).1, by rw [k0]; decide, by simp⟩).1 8).trans ((gF_same (s7.2.2.2 _ ⟨(t_obj S.1 k0).1, by rw [k0]; decide, by simp⟩).1 8).trans e1))))) ?_
    have J14 : ∀ (f13 : pF) (H : Heap) (locs : List Loc) (ls : Array Slot), pH D cCl (pA L sz) s.heap L f13 H locs → tS E T (tFr κ L [1, 2, 3, 4, 11, 12, 13, 16, 21] []) κ L f κ L f13 → lv_has ls 11 [(0, .ref h), (2, .ref a2), (4, .int (iI z5)), (5, .int (iI z6))] → W p l e (kRm 8 214 0 0) s m AV below meth c H locs 0 0 QQ (F0 m 201 ls []) := by
      intro f13 H locs ls  Y S hl
      refine lv_aload_n X.1 X.2.1 d_Ag_putRequest_201 rfl (lv_at hl 1 rfl) ?_
      refine lv_iconst (v := iI 4) X.1 X.2.1 d_Ag_putRequest_202 (by decide) ?_
      refine lv_aload_n X.1 X.2.1 d_Ag_putRequest_203 rfl (lv_at hl 0 rfl) ?_
      refine t_getr (ci := 2) X Y S k0 rfl i_Ag 0 (by decide) rfl (k1 := 21) (k2 := 0) rfl rfl lk_Ag_42 (fun _ h9 => h9) d_Ag_putRequest_204 (fun b18 e18 k18 => ?_)
      refine t_getr (ci := 11) X Y S k18 rfl i_Va 2 (by decide) rfl (k1 := 13) (k2 := 512) rfl rfl lk_Ag_137 (fun _ h9 => h9) d_Ag_putRequest_207 (fun b19 e19 k19 => ?_)
      refine lv_iconst (v := iI 0) X.1 X.2.1 d_Ag_putRequest_210 (by decide) ?_
      refine t_nv (t_runV (As := [.int (iI 4), .ref b19, .int (iI 0)]) (rest := []) (n := 3) X Y S k2 hml hl.1 (c_By_putCopy l D E T κ L f13 H.size a2 n2 k2 (by omega) 4 (by omega) (by omega) b19 512 k19 (by omega) 0 (by omega) (by omega) S.1) (ok_k X Y hA KS KR) rfl kl_Ag_By_putCopy ks_By_putCopy kx_By_putCopy ki_By_putCopy ini_By ⟨rfl, rfl⟩ hd_By_putCopy ⟨Nat.le_of_ble_eq_true rfl, Nat.le_of_ble_eq_true rfl⟩ rfl (Nat.le_of_ble_eq_true rfl) d_Ag_putRequest_211 ⟨Nat.le_of_ble_eq_true rfl, Nat.le_of_ble_eq_true rfl⟩) X Y hA S (by decide) (fun f20 H locs Y S s20 p20 => ?_)
      refine lv_aload_n X.1 X.2.1 d_Ag_putRequest_214 rfl (lv_at hl 1 rfl) ?_
      refine lv_iload X.1 X.2.1 d_Ag_putRequest_215 (lv_at hl 3 rfl) ?_
      refine t_nv (t_runV (As := [.int (iI z6)]) (rest := []) (n := 1) X Y S k2 hml hl.1 (c_By_close l D E T κ L f20 H.size a2 n2 k2 (by omega) z6 (by omega) (by omega) S.1) (ok_k X Y hA KS KR) rfl kl_Ag_By_close ks_By_close kx_By_close ki_By_close ini_By ⟨rfl, rfl⟩ hd_By_close ⟨Nat.le_of_ble_eq_true rfl, Nat.le_of_ble_eq_true rfl⟩ rfl (Nat.le_of_ble_eq_true rfl) d_Ag_putRequest_217 ⟨Nat.le_of_ble_eq_true rfl, Nat.le_of_ble_eq_true rfl⟩) X Y hA S (by decide) (fun f21 H locs Y S s21 p21 => ?_)
      refine lv_aload_n X.1 X.2.1 d_Ag_putRequest_220 rfl (lv_at hl 1 rfl) ?_
      refine lv_iload X.1 X.2.1 d_Ag_putRequest_221 (lv_at hl 2 rfl) ?_
      refine t_nv (t_runV (As := [.int (iI z5)]) (rest := []) (n := 1) X Y S k2 hml hl.1 (c_By_close l D E T κ L f21 H.size a2 n2 k2 (by omega) z5 (by omega) (by omega) S.1) (ok_k X Y hA KS KR) rfl kl_Ag_By_close ks_By_close kx_By_close ki_By_close ini_By ⟨rfl, rfl⟩ hd_By_close ⟨Nat.le_of_ble_eq_true rfl, Nat.le_of_ble_eq_true rfl⟩ rfl (Nat.le_of_ble_eq_true rfl) d_Ag_putRequest_223 ⟨Nat.le_of_ble_eq_true rfl, Nat.le_of_ble_eq_true rfl⟩) X Y hA S (by decide) (fun f22 H locs Y S s22 p22 => ?_)
      exact c_retv hQQ X Y hr hlk ⟨rfl, S, trivial⟩ d_Ag_putRequest_226
    refine z_if_le (tgt := 201) X.1 X.2.1 d_Ag_putRequest_57 (by decide) ⟨by omega, by omega⟩ (fun h23 => ?_) (fun h23 => ?_)
    · exact J14 f12 _ _ _  Y S (lv_sub hl [3, 5, 1, 0] rfl)
    · refine lv_aload_n X.1 X.2.1 d_Ag_putRequest_60 rfl (lv_at hl 5 rfl) ?_
      refine lv_iconst (v := iI 3) X.1 X.2.1 d_Ag_putRequest_61 (by decide) ?_
      refine t_ni (t_runV (As := [.int (iI 3)]) (rest := []) (n := 1) X Y S k2 hml hl.1 (c_By_openField l D E T κ L f12 H.size a2 n2 k2 (by omega) 3 (by omega) (by omega) S.1) (ok_k X Y hA KS KR) rfl kl_Ag_By_openField ks_By_openField kx_By_openField ki_By_openField ini_By ⟨rfl, rfl⟩ hd_By_openField ⟨Nat.le_of_ble_eq_true rfl, Nat.le_of_ble_eq_true rfl⟩ rfl (Nat.le_of_ble_eq_true rfl) d_Ag_putRequest_62 ⟨Nat.le_of_ble_eq_true rfl, Nat.le_of_ble_eq_true rfl⟩) X Y hA S (by decide) (fun z24 f24 H locs Y S s24 p24 => ?_)
      obtain ⟨l24, u24⟩ := p24
      refine lv_istore (lv' := [(6, .int (iI z24)), (5, .int (iI z9)), (4, .int (iI z8)), (3, .int (iI z2)), (0, .ref h), (1, .int (iI a1)), (2, .ref a2)]) X.1 X.2.1 d_Ag_putRequest_65 hl (by decide) rfl (fun ls hl => ?_)
      refine lv_aload_n X.1 X.2.1 d_Ag_putRequest_67 rfl (lv_at hl 6 rfl) ?_
      refine lv_bipush (v := iI 48) X.1 X.2.1 d_Ag_putRequest_68 (by decide) ?_
      refine t_ni (t_runV (As := [.int (iI 48)]) (rest := []) (n := 1) X Y S k2 hml hl.1 (c_By_open l D E T κ L f24 H.size a2 n2 k2 (by omega) 48 (by omega) (by omega) S.1) (ok_k X Y hA KS KR) rfl kl_Ag_By_open ks_By_open kx_By_open ki_By_open ini_By ⟨rfl, rfl⟩ hd_By_open ⟨Nat.le_of_ble_eq_true rfl, Nat.le_of_ble_eq_true rfl⟩ rfl (Nat.le_of_ble_eq_true rfl) d_Ag_putRequest_70 ⟨Nat.le_of_ble_eq_true rfl, Nat.le_of_ble_eq_true rfl⟩) X Y hA S (by decide) (fun z25 f25 H locs Y S s25 p25 => ?_)
      obtain ⟨l25, u25⟩ := p25
      refine lv_istore (lv' := [(7, .int (iI z25)), (6, .int (iI z24)), (5, .int (iI z9)), (4, .int (iI z8)), (3, .int (iI z2)), (0, .ref h), (1, .int (iI a1)), (2, .ref a2)]) X.1 X.2.1 d_Ag_putRequest_73 hl (by decide) rfl (fun ls hl => ?_)
      refine lv_aload_n X.1 X.2.1 d_Ag_putRequest_75 rfl (lv_at hl 7 rfl) ?_
      refine lv_bipush (v := iI 48) X.1 X.2.1 d_Ag_putRequest_76 (by decide) ?_
      refine t_ni (t_runV (As := [.int (iI 48)]) (rest := []) (n := 1) X Y S k2 hml hl.1 (c_By_open l D E T κ L f25 H.size a2 n2 k2 (by omega) 48 (by omega) (by omega) S.1) (ok_k X Y hA KS KR) rfl kl_Ag_By_open ks_By_open kx_By_open ki_By_open ini_By ⟨rfl, rfl⟩ hd_By_open ⟨Nat.le_of_ble_eq_true rfl, Nat.le_of_ble_eq_true rfl⟩ rfl (Nat.le_of_ble_eq_true rfl) d_Ag_putRequest_78 ⟨Nat.le_of_ble_eq_true rfl, Nat.le_of_ble_eq_true rfl⟩) X Y hA S (by decide) (fun z26 f26 H locs Y S s26 p26 => ?_)
      obtain ⟨l26, u26⟩ := p26
      refine lv_istore (lv' := [(8, .int (iI z26)), (7, .int (iI z25)), (6, .int (iI z24)), (5, .int (iI z9)), (4, .int (iI z8)), (3, .int (iI z2)), (0, .ref h), (1, .int (iI a1)), (2, .ref a2)]) X.1 X.2.1 d_Ag_putRequest_81 hl (by decide) rfl (fun ls hl => ?_)
      refine lv_aload_n X.1 X.2.1 d_Ag_putRequest_83 rfl (lv_at hl 8 rfl) ?_
      refine lv_iconst (v := iI 1) X.1 X.2.1 d_Ag_putRequest_84 (by decide) ?_
      refine lv_iconst (v := iI 3) X.1 X.2.1 d_Ag_putRequest_85 (by decide) ?_
      refine lv_aload_n X.1 X.2.1 d_Ag_putRequest_86 rfl (lv_at hl 6 rfl) ?_
      refine t_get0 (ci := 2) X Y S k0 rfl i_Ag 8 (by decide) rfl lk_Ag_75 (fun _ h9 => h9) d_Ag_putRequest_87 ((gF_same (s26.2.2.2 _ ⟨(t_obj S.1 k0).1, by rw [k0]; decide, by simp⟩).1 8).trans ((gF_same (s25.2.2.2 _ ⟨(t_obj S.1 k0).1, by rw [k0]; decide, by simp⟩).1 8).trans ((gF_same (s24.2.2.2 _ ⟨(t_obj S.1 k0).1, by rw [k0]; decide, by simp⟩).1 8).trans ((gF_same (s12.2.2.2 _ ⟨(t_obj S.1 k0).1, by rw [k0]; decide, by simp⟩).1 8).trans ((gF_same (s10.2.2.2 _ ⟨(t_obj S.1 k0).1, by rw [k0]; decide, by simp⟩).1 8).trans ((gF_same (s9.2.2.2 _ ⟨(t_obj S.1 k0).1, by rw [k0]; decide, by simp⟩).1 8).trans ((gF_same (s8.2.2.2 _ ⟨(t_obj S.1 k0).1, by rw [k0]; decide, by simp⟩).1 8).trans ((gF_same (s7.2.2.2 _ ⟨(t_obj S.1 k0).1, by rw [k0]; decide, by simp⟩).1 8).trans e1)))))))) ?_
      refine z_isub X.1 X.2.1 d_Ag_putRequest_90 ?_
      refine lv_i2l X.1 X.2.1 d_Ag_putRequest_91 rfl ?_
      refine t_anyl (fun v27 => ?_)
      refine t_nv (t_runV (As := [.int (iI 1), .long v27]) (rest := []) (n := 2) X Y S k2 hml hl.1 (c_By_putNumber l D E T κ L f26 H.size a2 n2 k2 (by omega) 1 (by omega) (by omega) v27 S.1) (ok_k X Y hA KS KR) rfl kl_Ag_By_putNumber ks_By_putNumber kx_By_putNumber ki_By_putNumber ini_By ⟨rfl, rfl⟩ hd_By_putNumber ⟨Nat.le_of_ble_eq_true rfl, Nat.le_of_ble_eq_true rfl⟩ rfl (Nat.le_of_ble_eq_true rfl) d_Ag_putRequest_92 ⟨Nat.le_of_ble_eq_true rfl, Nat.le_of_ble_eq_true rfl⟩) X Y hA S (by decide) (fun f28 H locs Y S s28 p28 => ?_)
      refine lv_aload_n X.1 X.2.1 d_Ag_putRequest_95 rfl (lv_at hl 8 rfl) ?_
      refine lv_iconst (v := iI 2) X.1 X.2.1 d_Ag_putRequest_96 (by decide) ?_
      refine t_ni (t_runV (As := [.int (iI 2)]) (rest := []) (n := 1) X Y S k2 hml hl.1 (c_By_openField l D E T κ L f28 H.size a2 n2 k2 (by omega) 2 (by omega) (by omega) S.1) (ok_k X Y hA KS KR) rfl kl_Ag_By_openField ks_By_openField kx_By_openField ki_By_openField ini_By ⟨rfl, rfl⟩ hd_By_openField ⟨Nat.le_of_ble_eq_true rfl, Nat.le_of_ble_eq_true rfl⟩ rfl (Nat.le_of_ble_eq_true rfl) d_Ag_putRequest_97 ⟨Nat.le_of_ble_eq_true rfl, Nat.le_of_ble_eq_true rfl⟩) X Y hA S (by decide) (fun z29 f29 H locs Y S s29 p29 => ?_)
      obtain ⟨l29, u29⟩ := p29
      refine lv_istore (lv' := [(9, .int (iI z29)), (8, .int (iI z26)), (7, .int (iI z25)), (6, .int (iI z24)), (5, .int (iI z9)), (4, .int (iI z8)), (3, .int (iI z2)), (0, .ref h), (1, .int (iI a1)), (2, .ref a2)]) X.1 X.2.1 d_Ag_putRequest_100 hl (by decide) rfl (fun ls hl => ?_)
      refine lv_aload_n X.1 X.2.1 d_Ag_putRequest_102 rfl (lv_at hl 9 rfl) ?_
      refine lv_iconst (v := iI 4) X.1 X.2.1 d_Ag_putRequest_103 (by decide) ?_
      refine t_ni (t_runV (As := [.int (iI 4)]) (rest := []) (n := 1) X Y S k2 hml hl.1 (c_By_open l D E T κ L f29 H.size a2 n2 k2 (by omega) 4 (by omega) (by omega) S.1) (ok_k X Y hA KS KR) rfl kl_Ag_By_open ks_By_open kx_By_open ki_By_open ini_By ⟨rfl, rfl⟩ hd_By_open ⟨Nat.le_of_ble_eq_true rfl, Nat.le_of_ble_eq_true rfl⟩ rfl (Nat.le_of_ble_eq_true rfl) d_Ag_putRequest_104 ⟨Nat.le_of_ble_eq_true rfl, Nat.le_of_ble_eq_true rfl⟩) X Y hA S (by decide) (fun z30 f30 H locs Y S s30 p30 => ?_)
      obtain ⟨l30, u30⟩ := p30
      refine lv_istore (lv' := [(10, .int (iI z30)), (9, .int (iI z29)), (8, .int (iI z26)), (7, .int (iI z25)), (6, .int (iI z24)), (5, .int (iI z9)), (4, .int (iI z8)), (3, .int (iI z2)), (0, .ref h), (1, .int (iI a1)), (2, .ref a2)]) X.1 X.2.1 d_Ag_putRequest_107 hl (by decide) rfl (fun ls hl => ?_)
      refine lv_aload_n X.1 X.2.1 d_Ag_putRequest_109 rfl (lv_at hl 8 rfl) ?_
      refine t_get0 (ci := 2) X Y S k0 rfl i_Ag 8 (by decide) rfl lk_Ag_75 (fun _ h9 => h9) d_Ag_putRequest_110 ((gF_same (s30.2.2.2 _ ⟨(t_obj S.1 k0).1, by rw [k0]; decide, by simp⟩).1 8).trans ((gF_same (s29.2.2.2 _ ⟨(t_obj S.1 k0).1, by rw [k0]; decide, by simp⟩).1 8).trans ((gF_same (s28.2.2.2 _ ⟨(t_obj S.1 k0).1, by rw [k0]; decide, by simp⟩).1 8).trans ((gF_same (s26.2.2.2 _ ⟨(t_obj S.1 k0).1, by rw [k0]; decide, by simp⟩).1 8).trans ((gF_same (s25.2.2.2 _ ⟨(t_obj S.1 k0).1, by rw [k0]; decide, by simp⟩).1 8).trans ((gF_same (s24.2.2.2 _ ⟨(t_obj S.1 k0).1, by rw [k0]; decide, by simp⟩).1 8).trans ((gF_same (s12.2.2.2 _ ⟨(t_obj S.1 k0).1, by rw [k0]; decide, by simp⟩).1 8).trans ((gF_same (s10.2.2.2 _ ⟨(t_obj S.1 k0).1, by rw [k0]; decide, by simp⟩).1 8).trans ((gF_same (s9.2.2.2 _ ⟨(t_obj S.1 k0).1, by rw [k0]; decide, by simp⟩).1 8).trans ((gF_same (s8.2.2.2 _ ⟨(t_obj S.1 k0).1, by rw [k0]; decide, by simp⟩).1 8).trans ((gF_same (s7.2.2.2 _ ⟨(t_obj S.1 k0).1, by rw [k0]; decide, by simp⟩).1 8).trans e1))))))))))) ?_
      refine lv_iconst (v := iI 1) X.1 X.2.1 d_Ag_putRequest_113 (by decide) ?_
      have J32 : ∀ (f31 : pF) (H : Heap) (locs : List Loc) (ls : Array Slot), pH D cCl (pA L sz) s.heap L f31 H locs → tS E T (tFr κ L [1, 2, 3, 4, 11, 12, 13, 16, 21] []) κ L f κ L f31 → lv_has ls 11 [(0, .ref h), (2, .ref a2), (4, .int (iI z5)), (5, .int (iI z6)), (6, .int (iI z11)), (7, .int (iI z12)), (8, .int (iI z13)), (9, .int (iI z16)), (10, .int (iI z17))] → W p l e (kRm 8 214 0 0) s m AV below meth c H locs 0 0 QQ (F0 m 171 ls []) := by
        intro f31 H locs ls  Y S hl
        refine lv_aload_n X.1 X.2.1 d_Ag_putRequest_171 rfl (lv_at hl 1 rfl) ?_
        refine lv_iload X.1 X.2.1 d_Ag_putRequest_172 (lv_at hl 8 rfl) ?_
        refine t_nv (t_runV (As := [.int (iI z17)]) (rest := []) (n := 1) X Y S k2 hml hl.1 (c_By_close l D E T κ L f31 H.size a2 n2 k2 (by omega) z17 (by omega) (by omega) S.1) (ok_k X Y hA KS KR) rfl kl_Ag_By_close ks_By_close kx_By_close ki_By_close ini_By ⟨rfl, rfl⟩ hd_By_close ⟨Nat.le_of_ble_eq_true rfl, Nat.le_of_ble_eq_true rfl⟩ rfl (Nat.le_of_ble_eq_true rfl) d_Ag_putRequest_174 ⟨Nat.le_of_ble_eq_true rfl, Nat.le_of_ble_eq_true rfl⟩) X Y hA S (by decide) (fun f36 H locs Y S s36 p36 => ?_)
        refine lv_aload_n X.1 X.2.1 d_Ag_putRequest_177 rfl (lv_at hl 1 rfl) ?_
        refine lv_iload X.1 X.2.1 d_Ag_putRequest_178 (lv_at hl 7 rfl) ?_
        refine t_nv (t_runV (As := [.int (iI z16)]) (rest := []) (n := 1) X Y S k2 hml hl.1 (c_By_close l D E T κ L f36 H.size a2 n2 k2 (by omega) z16 (by omega) (by omega) S.1) (ok_k X Y hA KS KR) rfl kl_Ag_By_close ks_By_close kx_By_close ki_By_close ini_By ⟨rfl, rfl⟩ hd_By_close ⟨Nat.le_of_ble_eq_true rfl, Nat.le_of_ble_eq_true rfl⟩ rfl (Nat.le_of_ble_eq_true rfl) d_Ag_putRequest_180 ⟨Nat.le_of_ble_eq_true rfl, Nat.le_of_ble_eq_true rfl⟩) X Y hA S (by decide) (fun f37 H locs Y S s37 p37 => ?_)
        refine lv_aload_n X.1 X.2.1 d_Ag_putRequest_183 rfl (lv_at hl 1 rfl) ?_
        refine lv_iload X.1 X.2.1 d_Ag_putRequest_184 (lv_at hl 6 rfl) ?_
        refine t_nv (t_runV (As := [.int (iI z13)]) (rest := []) (n := 1) X Y S k2 hml hl.1 (c_By_close l D E T κ L f37 H.size a2 n2 k2 (by omega) z13 (by omega) (by omega) S.1) (ok_k X Y hA KS KR) rfl kl_Ag_By_close ks_By_close kx_By_close ki_By_close ini_By ⟨rfl, rfl⟩ hd_By_close ⟨Nat.le_of_ble_eq_true rfl, Nat.le_of_ble_eq_true rfl⟩ rfl (Nat.le_of_ble_eq_true rfl) d_Ag_putRequest_186 ⟨Nat.le_of_ble_eq_true rfl, Nat.le_of_ble_eq_true rfl⟩) X Y hA S (by decide) (fun f38 H locs Y S s38 p38 => ?_)
        refine lv_aload_n X.1 X.2.1 d_Ag_putRequest_189 rfl (lv_at hl 1 rfl) ?_
        refine lv_iload X.1 X.2.1 d_Ag_putRequest_190 (lv_at hl 5 rfl) ?_
        refine t_nv (t_runV (As := [.int (iI z12)]) (rest := []) (n := 1) X Y S k2 hml hl.1 (c_By_close l D E T κ L f38 H.size a2 n2 k2 (by omega) z12 (by omega) (by omega) S.1) (ok_k X Y hA KS KR) rfl kl_Ag_By_close ks_By_close kx_By_close ki_By_close ini_By ⟨rfl, rfl⟩ hd_By_close ⟨Nat.le_of_ble_eq_true rfl, Nat.le_of_ble_eq_true rfl⟩ rfl (Nat.le_of_ble_eq_true rfl) d_Ag_putRequest_192 ⟨Nat.le_of_ble_eq_true rfl, Nat.le_of_ble_eq_true rfl⟩) X Y hA S (by decide) (fun f39 H locs Y S s39 p39 => ?_)
        refine lv_aload_n X.1 X.2.1 d_Ag_putRequest_195 rfl (lv_at hl 1 rfl) ?_
        refine lv_iload X.1 X.2.1 d_Ag_putRequest_196 (lv_at hl 4 rfl) ?_
        refine t_nv (t_runV (As := [.int (iI z11)]) (rest := []) (n := 1) X Y S k2 hml hl.1 (c_By_close l D E T κ L f39 H.size a2 n2 k2 (by omega) z11 (by omega) (by omega) S.1) (ok_k X Y hA KS KR) rfl kl_Ag_By_close ks_By_close kx_By_close ki_By_close ini_By ⟨rfl, rfl⟩ hd_By_close ⟨Nat.le_of_ble_eq_true rfl, Nat.le_of_ble_eq_true rfl⟩ rfl (Nat.le_of_ble_eq_true rfl) d_Ag_putRequest_198 ⟨Nat.le_of_ble_eq_true rfl, Nat.le_of_ble_eq_true rfl⟩) X Y hA S (by decide) (fun f40 H locs Y S s40 p40 => ?_)
        exact J14 f40 _ _ _  Y S (lv_sub hl [0, 1, 2, 3] rfl)
      refine z_icmp_ne (tgt := 125) X.1 X.2.1 d_Ag_putRequest_114 (by decide) ⟨by omega, by omega⟩ ⟨by omega, by omega⟩ (fun h41 => ?_) (fun h41 => ?_)
      · refine lv_aload_n X.1 X.2.1 d_Ag_putRequest_125 rfl (lv_at hl 8 rfl) ?_
        refine lv_iload_n X.1 X.2.1 d_Ag_putRequest_126 rfl (lv_at hl 9 rfl) ?_
        refine t_ui (t_runV (As := [.int (iI a1)]) (rest := []) (n := 1) X Y S k0 hml hl.1 (c_Ag_has l D E T κ L f30 H.size h k0 a1 (by omega) (by omega) S.1) (ok_k X Y hA KS KR) rfl kl_Ag_Ag_has ks_Ag_has kx_Ag_has ki_Ag_has ini_Ag ⟨rfl, rfl⟩ hd_Ag_has ⟨Nat.le_of_ble_eq_true rfl, Nat.le_of_ble_eq_true rfl⟩ rfl (Nat.le_of_ble_eq_true rfl) d_Ag_putRequest_127 ⟨Nat.le_of_ble_eq_true rfl, Nat.le_of_ble_eq_true rfl⟩) X Y hA (fun z42 H locs Y p42 => ?_)
        obtain ⟨l42, u42, x42⟩ := p42
        refine z_if_eq (tgt := 171) X.1 X.2.1 d_Ag_putRequest_130 (by decide) ⟨by omega, by omega⟩ (fun h43 => ?_) (fun h43 => ?_)
        · exact J32 f30 _ _ _  Y S (lv_sub hl [8, 10, 6, 5, 4, 3, 2, 1, 0] rfl)
        · refine lv_aload_n X.1 X.2.1 d_Ag_putRequest_133 rfl (lv_at hl 8 rfl) ?_
          refine lv_aload_n X.1 X.2.1 d_Ag_putRequest_134 rfl (lv_at hl 8 rfl) ?_
          refine t_getr (ci := 2) X Y S k0 rfl i_Ag 1 (by decide) rfl (k1 := 8) (k2 := 8) rfl rfl lk_Ag_48 (fun _ h9 => h9) d_Ag_putRequest_135 (fun b44 e44 k44 => ?_)
          refine lv_iload_n X.1 X.2.1 d_Ag_putRequest_138 rfl (lv_at hl 9 rfl) ?_
          refine t_aald X Y S k44 (fun h9 => h9) (t0 := 5) rfl (by omega) (by omega) (by omega) d_Ag_putRequest_139 (fun b45 e45 k45 => ?_)
          refine lv_aload_n X.1 X.2.1 d_Ag_putRequest_140 rfl (lv_at hl 8 rfl) ?_
          refine t_getk (ci := 2) X Y S k0 rfl i_Ag 14 (by decide) rfl lk_Ag_36 (fun _ h9 => h9) d_Ag_putRequest_141 (fun b46 n46 e46 k46 x46 => ?_)
          refine lv_aload_n X.1 X.2.1 d_Ag_putRequest_144 rfl (lv_at hl 8 rfl) ?_
          refine t_getr (ci := 2) X Y S k0 rfl i_Ag 0 (by decide) rfl (k1 := 21) (k2 := 0) rfl rfl lk_Ag_42 (fun _ h9 => h9) d_Ag_putRequest_145 (fun b47 e47 k47 => ?_)
          refine t_getr (ci := 11) X Y S k47 rfl i_Va 2 (by decide) rfl (k1 := 13) (k2 := 512) rfl rfl lk_Ag_137 (fun _ h9 => h9) d_Ag_putRequest_148 (fun b48 e48 k48 => ?_)
          refine lv_ldc2 (v := (-1)) X.1 X.2.1 X.2.2.2.1 (X.2.2.1 _ cl_Ag_78) d_Ag_putRequest_151 ?_
          refine t_nv (t_runV (As := [.ref b45, .ref b46, .ref b48, .long ((-1))]) (rest := []) (n := 4) X Y S k0 hml hl.1 (c_Ag_putAuthenticator l D E T κ L f30 H.size h k0 b45 k45 b46 n46 k46 (by omega) b48 512 k48 (by omega) ((-1)) S.1) (ok_k X Y hA KS KR) rfl kl_Ag_Ag_putAuthenticator ks_Ag_putAuthenticator kx_Ag_putAuthenticator ki_Ag_putAuthenticator ini_Ag ⟨rfl, rfl⟩ hd_Ag_putAuthenticator ⟨Nat.le_of_ble_eq_true rfl, Nat.le_of_ble_eq_true rfl⟩ rfl (Nat.le_of_ble_eq_true rfl) d_Ag_putRequest_154 ⟨Nat.le_of_ble_eq_true rfl, Nat.le_of_ble_eq_true rfl⟩) X Y hA S (by decide) (fun f49 H locs Y S s49 p49 => ?_)
          refine lv_aload_n X.1 X.2.1 d_Ag_putRequest_157 rfl (lv_at hl 8 rfl) ?_
          refine lv_aload_n X.1 X.2.1 d_Ag_putRequest_158 rfl (lv_at hl 8 rfl) ?_
          refine t_getr (ci := 2) X Y S k0 rfl i_Ag 1 (by decide) rfl (k1 := 8) (k2 := 8) rfl rfl lk_Ag_48 (fun _ h9 => h9) d_Ag_putRequest_159 (fun b50 e50 k50 => ?_)
          refine lv_iload_n X.1 X.2.1 d_Ag_putRequest_162 rfl (lv_at hl 9 rfl) ?_
          refine t_aald X Y S k50 (fun h9 => h9) (t0 := 5) rfl (by omega) (by omega) (by omega) d_Ag_putRequest_163 (fun b51 e51 k51 => ?_)
          refine lv_iconst (v := iI 0) X.1 X.2.1 d_Ag_putRequest_164 (by decide) ?_
          refine lv_bipush (v := iI 7) X.1 X.2.1 d_Ag_putRequest_165 (by decide) ?_
          refine lv_aload_n X.1 X.2.1 d_Ag_putRequest_167 rfl (lv_at hl 10 rfl) ?_
          refine t_nv (t_runV (As := [.ref b51, .int (iI 0), .int (iI 7), .ref a2]) (rest := []) (n := 4) X Y S k0 hml hl.1 (c_Ag_putApReq l D E T κ L f49 H.size h k0 b51 k51 0 (by omega) (by omega) 7 (by omega) (by omega) a2 n2 k2 (by omega) S.1) (ok_k X Y hA KS KR) rfl kl_Ag_Ag_putApReq ks_Ag_putApReq kx_Ag_putApReq ki_Ag_putApReq ini_Ag ⟨rfl, rfl⟩ hd_Ag_putApReq ⟨Nat.le_of_ble_eq_true rfl, Nat.le_of_ble_eq_true rfl⟩ rfl (Nat.le_of_ble_eq_true rfl) d_Ag_putRequest_168 ⟨Nat.le_of_ble_eq_true rfl, Nat.le_of_ble_eq_true rfl⟩) X Y hA S (by decide) (fun f52 H locs Y S s52 p52 => ?_)
          exact J32 f52 _ _ _  Y S (lv_sub hl [8, 10, 6, 5, 4, 3, 2, 1, 0] rfl)
      · refine lv_aload_n X.1 X.2.1 d_Ag_putRequest_117 rfl (lv_at hl 8 rfl) ?_
        refine lv_aload_n X.1 X.2.1 d_Ag_putRequest_118 rfl (lv_at hl 10 rfl) ?_
        refine t_nv (t_runV (As := [.ref a2]) (rest := []) (n := 1) X Y S k0 hml hl.1 (c_Ag_putShown l D E T κ L f30 H.size h k0 a2 n2 k2 (by omega) S.1) (ok_k X Y hA KS KR) rfl kl_Ag_Ag_putShown ks_Ag_putShown kx_Ag_putShown ki_Ag_putShown ini_Ag ⟨rfl, rfl⟩ hd_Ag_putShown ⟨Nat.le_of_ble_eq_true rfl, Nat.le_of_ble_eq_true rfl⟩ rfl (Nat.le_of_ble_eq_true rfl) d_Ag_putRequest_119 ⟨Nat.le_of_ble_eq_true rfl, Nat.le_of_ble_eq_true rfl⟩) X Y hA S (by decide) (fun f53 H locs Y S s53 p53 => ?_)
        refine lv_goto (tgt := 171) X.1 X.2.1 d_Ag_putRequest_122 (by decide) ?_
        exact J32 f53 _ _ _  Y S (lv_sub hl [8, 10, 6, 5, 4, 3, 2, 1, 0] rfl)
  refine z_icmp_ne (tgt := 13) X.1 X.2.1 d_Ag_putRequest_5 (by decide) ⟨by omega, by omega⟩ ⟨by omega, by omega⟩ (fun h54 => ?_) (fun h54 => ?_)
  · refine lv_bipush (v := iI 10) X.1 X.2.1 d_Ag_putRequest_13 (by decide) ?_
    exact J3 10 _ _ _ (by omega) (by omega) Y S (lv_sub hl [0, 1, 2] rfl)
  · refine lv_bipush (v := iI 12) X.1 X.2.1 d_Ag_putRequest_8 (by decide) ?_
    refine lv_goto (tgt := 15) X.1 X.2.1 d_Ag_putRequest_10 (by decide) ?_
    exact J3 12 _ _ _ (by omega) (by omega) Y S (lv_sub hl [0, 1, 2] rfl)
set_option maxHeartbeats 4000000 in
set_option maxRecDepth 100000 in
theorem c_Ag_goWith (l : Launch) (D : va_G) (E : cE) (T : cT) (κ : tK) (L : List Nat) (f : pF) (sz : Nat) (h : Nat) (k0 : κ h = (12, 0)) (a1 : Nat) (k1 : κ a1 = (20, 0)) (a2 : Int) (l_a2 : (-2147483648) ≤ a2) (u_a2 : a2 ≤ 2147483647) (a3 n3 : Nat) (k3 : κ a3 = (13, n3)) (x3 : n3 ≤ 12288) (hw : tW E T κ L f) : Met l y_Ag_goWith (k_Ag_goWith :: lw_tg) (kRm 8 214 1 32) (va_Pc [.ref h, .ref a1, .int (iI a2), .ref a3] (kPre D E T L f sz)) (va_Qv (aPv E T [1, 2, 3, 4, 5, 6, 7, 8, 9, 10, 11, 12, 13, 14, 15, 16, 17, 18, 19, 20, 21] [] κ L f (fun (k : tK) (g : pF) => True)) (cPost D E (pA L sz)) (pA L sz)) 1 32 (pA L sz) := by
  refine k_enter (own := R_Ag) (by decide) rfl (Nat.le_of_ble_eq_true rfl) (fun p e s m below meth c ls AV QQ H locs hQQ X Y hA hin hr hlk hml hl KS KR => ?_)
  have hl : lv_has ls 5 [(0, .ref h), (1, .ref a1), (2, .int (iI a2)), (3, .ref a3)] := hl
  have S : tS E T (tFr κ L [1, 2, 3, 4, 5, 6, 7, 8, 9, 10, 11, 12, 13, 14, 15, 16, 17, 18, 19, 20, 21] []) κ L f κ L f := tS_rf hw
  have hF0 : ∀ b, tFr κ L [1, 2, 3, 4, 5, 6, 7, 8, 9, 10, 11, 12, 13, 14, 15, 16, 17, 18, 19, 20, 21] [] b → b ∈ L := fun b h9 => h9.1
  refine lv_iload_n X.1 X.2.1 d_Ag_goWith_0 rfl (lv_at hl 2 rfl) ?_
  refine lv_iconst (v := iI 2) X.1 X.2.1 d_Ag_goWith_1 (by decide) ?_
  refine z_iand X.1 X.2.1 (by omega) (by omega) d_Ag_goWith_2 (fun z1 l1 u1 => ?_)
  have J11 : ∀ (κ3 : tK) (L4 : List Nat) (b8 n10 : Nat) (f2 : pF) (H : Heap) (locs : List Loc) (ls : Array Slot), (κ3 h = (12, 0)) → (κ3 a1 = (20, 0)) → (κ3 a3 = (13, n3)) → (n10 = 0 ∨ n10 = 16 ∨ n10 = 32) → (tKey T κ3 b8 n10) → pH D cCl (pA L sz) s.heap L4 f2 H locs → tS E T (tFr κ L [1, 2, 3, 4, 5, 6, 7, 8, 9, 10, 11, 12, 13, 14, 15, 16, 17, 18, 19, 20, 21] []) κ L f κ3 L4 f2 → lv_has ls 5 [(0, .ref h), (1, .ref a1), (2, .int (iI a2)), (3, .ref a3)] → W p l e (kRm 8 214 1 32) s m AV below meth c H locs 1 32 QQ (F0 m 26 ls [.ref b8]) := by
    intro κ3 L4 b8 n10 f2 H locs ls k5 k6 k7 xn10 k9 Y S hl
    refine lv_astore (lv' := [(4, .ref b8), (0, .ref h), (1, .ref a1), (2, .int (iI a2)), (3, .ref a3)]) X.1 X.2.1 d_Ag_goWith_26 hl (by decide) rfl (fun ls hl => ?_)
    refine lv_aload_n X.1 X.2.1 d_Ag_goWith_28 rfl (lv_at hl 1 rfl) ?_
    refine lv_iload_n X.1 X.2.1 d_Ag_goWith_29 rfl (lv_at hl 3 rfl) ?_
    refine lv_iconst (v := iI 1) X.1 X.2.1 d_Ag_goWith_30 (by decide) ?_
    refine z_iand X.1 X.2.1 (by omega) (by omega) d_Ag_goWith_31 (fun z15 l15 u15 => ?_)
    have J17 : ∀ (z16 : Int) (H : Heap) (locs : List Loc) (ls : Array Slot), (0 ≤ z16) → (z16 ≤ 1) → pH D cCl (pA L sz) s.heap L4 f2 H locs → tS E T (tFr κ L [1, 2, 3, 4, 5, 6, 7, 8, 9, 10, 11, 12, 13, 14, 15, 16, 17, 18, 19, 20, 21] []) κ L f κ3 L4 f2 → lv_has ls 5 [(0, .ref h), (1, .ref a1), (3, .ref a3), (4, .ref b16)] → W p l e (kRm 8 214 1 32) s m AV below meth c H locs 1 32 QQ (F0 m 40 ls [.int (iI z16), .ref h]) := by
      intro z16 H locs ls l16 u16 Y S hl
      refine t_put (ci := 2) X Y S k13 rfl i_Ag t_Ag t_Ag_ok n_Ag 20 (by decide) rfl lk_Ag_87 (fun _ h9 => h9) rfl (t_Ag_ok 20 (by decide)) (iI_bool (by omega) (by omega)).1 (iI_bool (by omega) (by omega)).2 ⟨_, rfl, by omega, by omega⟩ (fun h9 => h9.2.1 (by rw [← (S.2.2.2 _ h9).2, k13]; decide)) d_Ag_goWith_40 (fun f21 H locs Y S w21 => ?_)
      refine lv_aload_n X.1 X.2.1 d_Ag_goWith_43 rfl (lv_at hl 0 rfl) ?_
      refine lv_aload_n X.1 X.2.1 d_Ag_goWith_44 rfl (lv_at hl 0 rfl) ?_
      refine t_ui (t_runV (As := []) (rest := [.ref h]) (n := 0) X Y S k13 hml hl.1 (c_Ag_time l D E T κ3 L4 f21 H.size h k13 S.1) (ok_k X Y hA KS KR) rfl kl_Ag_Ag_time ks_Ag_time kx_Ag_time ki_Ag_time ini_Ag ⟨rfl, rfl⟩ hd_Ag_time ⟨Nat.le_of_ble_eq_true rfl, Nat.le_of_ble_eq_true rfl⟩ rfl (Nat.le_of_ble_eq_true rfl) d_Ag_goWith_45 ⟨Nat.le_of_ble_eq_true rfl, Nat.le_of_ble_eq_true rfl⟩) X Y hA (fun z22 H locs Y p22 => ?_)
      obtain ⟨l22, u22⟩ := p22
      refine t_put (ci := 2) X Y S k13 rfl i_Ag t_Ag t_Ag_ok n_Ag 15 (by decide) rfl lk_Ag_231 (fun _ h9 => h9) rfl (t_Ag_ok 15 (by decide)) rfl rfl ⟨_, rfl, by omega, by omega⟩ (fun h9 => h9.2.1 (by rw [← (S.2.2.2 _ h9).2, k13]; decide)) d_Ag_goWith_48 (fun f23 H locs Y S w23 => ?_)
      refine lv_aload_n X.1 X.2.1 d_Ag_goWith_51 rfl (lv_at hl 0 rfl) ?_
      refine lv_aload_n X.1 X.2.1 d_Ag_goWith_52 rfl (lv_at hl 0 rfl) ?_
      refine t_geti (ci := 2) X Y S k13 rfl i_Ag 7 (by decide) rfl lk_Ag_72 (fun _ h9 => h9) d_Ag_goWith_53 (fun z24 e24 l24 u24 => ?_)
      refine lv_ldc (v := (1000000)) X.1 X.2.1 X.2.2.2.1 (X.2.2.1 _ cn_Ag_199) d_Ag_goWith_56 ?_
      refine t_eq (y := iI 1000000) (by decide) ?_
      refine z_iremg X.1 X.2.1 ⟨by omega, by omega⟩ ⟨by decide, by decide⟩ d_Ag_goWith_58 (fun z25 l25 u25 x25 => ?_)
      refine t_put (ci := 2) X Y S k13 rfl i_Ag t_Ag t_Ag_ok n_Ag 16 (by decide) rfl lk_Ag_234 (fun _ h9 => h9) rfl (t_Ag_ok 16 (by decide)) rfl rfl ⟨_, rfl, by omega, by omega⟩ (fun h9 => h9.2.1 (by rw [← (S.2.2.2 _ h9).2, k13]; decide)) d_Ag_goWith_59 (fun f26 H locs Y S w26 => ?_)
      refine lv_aload_n X.1 X.2.1 d_Ag_goWith_62 rfl (lv_at hl 0 rfl) ?_
      refine lv_aload_n X.1 X.2.1 d_Ag_goWith_63 rfl (lv_at hl 0 rfl) ?_
      refine t_getr (ci := 2) X Y S k13 rfl i_Ag 0 (by decide) rfl (k1 := 21) (k2 := 0) rfl rfl lk_Ag_42 (fun _ h9 => h9) d_Ag_goWith_64 (fun b27 e27 k27 => ?_)
      refine t_ni (t_runV (As := []) (rest := [.ref h]) (n := 0) X Y S k27 hml hl.1 (c_Va_freshNumber l D E T κ3 L4 f26 H.size b27 k27 S.1) (ok_k X Y hA KS KR) rfl kl_Ag_Va_freshNumber ks_Va_freshNumber kx_Va_freshNumber ki_Va_freshNumber ini_Va ⟨rfl, rfl⟩ hd_Va_freshNumber ⟨Nat.le_of_ble_eq_true rfl, Nat.le_of_ble_eq_true rfl⟩ rfl (Nat.le_of_ble_eq_true rfl) d_Ag_goWith_67 ⟨Nat.le_of_ble_eq_true rfl, Nat.le_of_ble_eq_true rfl⟩) X Y hA S (by decide) (fun z28 f28 H locs Y S s28 p28 => ?_)
      obtain ⟨l28, u28⟩ := p28
      refine lv_ldc (v := (1073741823)) X.1 X.2.1 X.2.2.2.1 (X.2.2.1 _ cn_Ag_237) d_Ag_goWith_70 ?_
      refine t_eq (y := iI 1073741823) (by decide) ?_
      refine z_iand X.1 X.2.1 (by omega) (by omega) d_Ag_goWith_72 (fun z29 l29 u29 => ?_)
      refine lv_i2l X.1 X.2.1 d_Ag_goWith_73 rfl ?_
      refine t_anyl (fun v30 => ?_)
      refine t_put (ci := 2) X Y S k13 rfl i_Ag t_Ag t_Ag_ok n_Ag 17 (by decide) rfl lk_Ag_80 (fun _ h9 => h9) rfl (t_Ag_ok 17 (by decide)) rfl rfl ⟨_, rfl⟩ (fun h9 => h9.2.1 (by rw [← (S.2.2.2 _ h9).2, k13]; decide)) d_Ag_goWith_74 (fun f31 H locs Y S w31 => ?_)
      refine lv_aload_n X.1 X.2.1 d_Ag_goWith_77 rfl (lv_at hl 0 rfl) ?_
      refine lv_aload_n X.1 X.2.1 d_Ag_goWith_78 rfl (lv_at hl 1 rfl) ?_
      refine t_getk (ci := 10) X Y S k14 rfl i_Ti 4 (by decide) rfl lk_Ag_126 (fun _ h9 => h9) d_Ag_goWith_79 (fun b32 n32 e32 k32 x32 => ?_)
      refine t_put (ci := 2) X Y S k13 rfl i_Ag t_Ag t_Ag_ok n_Ag 18 (by decide) rfl lk_Ag_39 (fun _ h9 => h9) rfl (t_Ag_ok 18 (by decide)) rfl rfl ⟨_, n32, rfl, k32⟩ (fun h9 => h9.2.1 (by rw [← (S.2.2.2 _ h9).2, k13]; decide)) d_Ag_goWith_82 (fun f33 H locs Y S w33 => ?_)
      refine lv_aload_n X.1 X.2.1 d_Ag_goWith_85 rfl (lv_at hl 0 rfl) ?_
      refine lv_lconst (v := 0) X.1 X.2.1 d_Ag_goWith_86 rfl ?_
      refine t_put (ci := 2) X Y S k13 rfl i_Ag t_Ag t_Ag_ok n_Ag 19 (by decide) rfl lk_Ag_84 (fun _ h9 => h9) rfl (t_Ag_ok 19 (by decide)) rfl rfl ⟨_, rfl⟩ (fun h9 => h9.2.1 (by rw [← (S.2.2.2 _ h9).2, k13]; decide)) d_Ag_goWith_87 (fun f34 H locs Y S w34 => ?_)
      refine lv_aload_n X.1 X.2.1 d_Ag_goWith_90 rfl (lv_at hl 0 rfl) ?_
      refine t_get0 (ci := 2) X Y S k13 rfl i_Ag 0 (by decide) rfl lk_Ag_42 (fun _ h9 => h9) d_Ag_goWith_91 ((gF_put w34 (Or.inr (by decide))).trans ((gF_put w33 (Or.inr (by decide))).trans ((gF_put w31 (Or.inr (by decide))).trans ((gF_same (s28.2.2.2 _ ⟨(t_obj S.1 k13).1, by rw [k13]; decide, by simp⟩).1 0).trans e27)))) ?_
      refine t_getr (ci := 11) X Y S k27 rfl i_Va 2 (by decide) rfl (k1 := 13) (k2 := 512) rfl rfl lk_Ag_137 (fun _ h9 => h9) d_Ag_goWith_94 (fun b35 e35 k35 => ?_)
      refine t_nv (t_runV (As := []) (rest := []) (n := 0) X Y S k35 hml hl.1 (c_By_clear l D E T κ3 L4 f34 H.size b35 512 k35 (by omega) S.1) (ok_k X Y hA KS KR) rfl kl_Ag_By_clear ks_By_clear kx_By_clear ki_By_clear ini_By ⟨rfl, rfl⟩ hd_By_clear ⟨Nat.le_of_ble_eq_true rfl, Nat.le_of_ble_eq_true rfl⟩ rfl (Nat.le_of_ble_eq_true rfl) d_Ag_goWith_97 ⟨Nat.le_of_ble_eq_true rfl, Nat.le_of_ble_eq_true rfl⟩) X Y hA S (by decide) (fun f36 H locs Y S s36 p36 => ?_)
      refine lv_aload_n X.1 X.2.1 d_Ag_goWith_100 rfl (lv_at hl 0 rfl) ?_
      refine lv_aload_n X.1 X.2.1 d_Ag_goWith_101 rfl (lv_at hl 1 rfl) ?_
      refine lv_aload X.1 X.2.1 d_Ag_goWith_102 (lv_at hl 3 rfl) ?_
      refine lv_aload_n X.1 X.2.1 d_Ag_goWith_104 rfl (lv_at hl 0 rfl) ?_
      refine t_get0 (ci := 2) X Y S k13 rfl i_Ag 0 (by decide) rfl lk_Ag_42 (fun _ h9 => h9) d_Ag_goWith_105 ((gF_same (s36.2.2.2 _ ⟨(t_obj S.1 k13).1, by rw [k13]; decide, by simp⟩).1 0).trans ((gF_put w34 (Or.inr (by decide))).trans ((gF_put w33 (Or.inr (by decide))).trans ((gF_put w31 (Or.inr (by decide))).trans ((gF_same (s28.2.2.2 _ ⟨(t_obj S.1 k13).1, by rw [k13]; decide, by simp⟩).1 0).trans e27))))) ?_
      refine t_get0 (ci := 11) X Y S k27 rfl i_Va 2 (by decide) rfl lk_Ag_137 (fun _ h9 => h9) d_Ag_goWith_108 ((gF_same (s36.2.2.2 _ ⟨(t_obj S.1 k27).1, by rw [k27]; decide, by simp⟩).1 2).trans e35) ?_
      refine lv_aload_n X.1 X.2.1 d_Ag_goWith_111 rfl (lv_at hl 0 rfl) ?_
      refine t_get0 (ci := 2) X Y S k13 rfl i_Ag 17 (by decide) rfl lk_Ag_80 (fun _ h9 => h9) d_Ag_goWith_112 ((gF_same (s36.2.2.2 _ ⟨(t_obj S.1 k13).1, by rw [k13]; decide, by simp⟩).1 17).trans ((gF_put w34 (Or.inr (by decide))).trans ((gF_put w33 (Or.inr (by decide))).trans w31.2.1))) ?_
      refine t_nv (t_runV (As := [.ref a1, .ref b16, .ref b35, .long v30]) (rest := []) (n := 4) X Y S k13 hml hl.1 (c_Ag_putAuthenticator l D E T κ3 L4 f36 H.size h k13 a1 k14 b16 n18 k17 (by omega) b35 512 k35 (by omega) v30 S.1) (ok_k X Y hA KS KR) rfl kl_Ag_Ag_putAuthenticator ks_Ag_putAuthenticator kx_Ag_putAuthenticator ki_Ag_putAuthenticator ini_Ag ⟨rfl, rfl⟩ hd_Ag_putAuthenticator ⟨Nat.le_of_ble_eq_true rfl, Nat.le_of_ble_eq_true rfl⟩ rfl (Nat.le_of_ble_eq_true rfl) d_Ag_goWith_115 ⟨Nat.le_of_ble_eq_true rfl, Nat.le_of_ble_eq_true rfl⟩) X Y hA S (by decide) (fun f37 H locs Y S s37 p37 => ?_)
      refine lv_aload_n X.1 X.2.1 d_Ag_goWith_118 rfl (lv_at hl 2 rfl) ?_
      refine t_nv (t_runV (As := []) (rest := []) (n := 0) X Y S k15 hml hl.1 (c_By_clear l D E T κ3 L4 f37 H.size a3 n3 k15 (by omega) S.1) (ok_k X Y hA KS KR) rfl kl_Ag_By_clear ks_By_clear kx_By_clear ki_By_clear ini_By ⟨rfl, rfl⟩ hd_By_clear ⟨Nat.le_of_ble_eq_true rfl, Nat.le_of_ble_eq_true rfl⟩ rfl (Nat.le_of_ble_eq_true rfl) d_Ag_goWith_119 ⟨Nat.le_of_ble_eq_true rfl, Nat.le_of_ble_eq_true rfl⟩) X Y hA S (by decide) (fun f38 H locs Y S s38 p38 => ?_)
      refine lv_aload_n X.1 X.2.1 d_Ag_goWith_122 rfl (lv_at hl 0 rfl) ?_
      refine lv_aload_n X.1 X.2.1 d_Ag_goWith_123 rfl (lv_at hl 1 rfl) ?_
      refine lv_aload_n X.1 X.2.1 d_Ag_goWith_124 rfl (lv_at hl 0 rfl) ?_
      refine t_geti (ci := 2) X Y S k13 rfl i_Ag 20 (by decide) rfl lk_Ag_87 (fun _ h9 => h9) d_Ag_goWith_125 (fun z39 e39 l39 u39 => ?_)
      have J41 : ∀ (z40 : Int) (H : Heap) (locs : List Loc) (ls : Array Slot), (0 ≤ z40) → (z40 ≤ 536870912) → pH D cCl (pA L sz) s.heap L4 f38 H locs → tS E T (tFr κ L [1, 2, 3, 4, 5, 6, 7, 8, 9, 10, 11, 12, 13, 14, 15, 16, 17, 18, 19, 20, 21] []) κ L f κ3 L4 f38 → lv_has ls 5 [(3, .ref a3)] → W p l e (kRm 8 214 1 32) s m AV below meth c H locs 1 32 QQ (F0 m 137 ls [.int (iI z40), .ref a1, .ref h]) := by
        intro z40 H locs ls l40 u40 Y S hl
        refine lv_bipush (v := iI 11) X.1 X.2.1 d_Ag_goWith_137 (by decide) ?_
        refine lv_aload_n X.1 X.2.1 d_Ag_goWith_139 rfl (lv_at hl 0 rfl) ?_
        refine t_nv (t_runV (As := [.ref a1, .int (iI z40), .int (iI 11), .ref a3]) (rest := []) (n := 4) X Y S k13 hml hl.1 (c_Ag_putApReq l D E T κ3 L4 f38 H.size h k13 a1 k14 z40 (by omega) (by omega) 11 (by omega) (by omega) a3 n3 k15 (by omega) S.1) (ok_k X Y hA KS KR) rfl kl_Ag_Ag_putApReq ks_Ag_putApReq kx_Ag_putApReq ki_Ag_putApReq ini_Ag ⟨rfl, rfl⟩ hd_Ag_putApReq ⟨Nat.le_of_ble_eq_true rfl, Nat.le_of_ble_eq_true rfl⟩ rfl (Nat.le_of_ble_eq_true rfl) d_Ag_goWith_140 ⟨Nat.le_of_ble_eq_true rfl, Nat.le_of_ble_eq_true rfl⟩) X Y hA S (by decide) (fun f45 H locs Y S s45 p45 => ?_)
        exact c_retv hQQ X Y hr hlk ⟨κ3, S, trivial⟩ d_Ag_goWith_143
      refine z_if_eq (tgt := 136) X.1 X.2.1 d_Ag_goWith_128 (by decide) ⟨by omega, by omega⟩ (fun h46 => ?_) (fun h46 => ?_)
      · refine lv_iconst (v := iI 0) X.1 X.2.1 d_Ag_goWith_136 (by decide) ?_
        exact J41 0 _ _ _ (by omega) (by omega) Y S (lv_sub hl [2] rfl)
      · refine lv_ldc (v := (536870912)) X.1 X.2.1 X.2.2.2.1 (X.2.2.1 _ cn_Ag_238) d_Ag_goWith_131 ?_
        refine t_eq (y := iI 536870912) (by decide) ?_
        refine lv_goto (tgt := 137) X.1 X.2.1 d_Ag_goWith_133 (by decide) ?_
        exact J41 536870912 _ _ _ (by omega) (by omega) Y S (lv_sub hl [2] rfl)
    refine z_if_eq (tgt := 39) X.1 X.2.1 d_Ag_goWith_32 (by decide) ⟨by omega, by omega⟩ (fun h47 => ?_) (fun h47 => ?_)
    · refine lv_iconst (v := iI 0) X.1 X.2.1 d_Ag_goWith_39 (by decide) ?_
      exact J17 0 _ _ _ (by omega) (by omega) Y S (lv_sub hl [1, 2, 4, 0] rfl)
    · refine lv_iconst (v := iI 1) X.1 X.2.1 d_Ag_goWith_35 (by decide) ?_
      refine lv_goto (tgt := 40) X.1 X.2.1 d_Ag_goWith_36 (by decide) ?_
      exact J17 1 _ _ _ (by omega) (by omega) Y S (lv_sub hl [1, 2, 4, 0] rfl)
  refine z_if_eq (tgt := 23) X.1 X.2.1 d_Ag_goWith_3 (by decide) ⟨by omega, by omega⟩ (fun h48 => ?_) (fun h48 => ?_)
  · refine k_getsN X Y KS KR (by decide) d_Ag_goWith_23 ?_
    refine W.widen (k := 1) (n := 32) (Nat.le_of_ble_eq_true rfl) (Nat.le_of_ble_eq_true rfl) ?_
    exact J11 κ L ((T.1 0)) 0 f _ _ _ k0 k1 k3 (by omega) tKey_no Y S (lv_sub hl [0, 1, 2, 3] rfl)
  · refine lv_aload_n X.1 X.2.1 d_Ag_goWith_6 rfl (lv_at hl 0 rfl) ?_
    refine t_getr (ci := 2) X Y S k0 rfl i_Ag 0 (by decide) rfl (k1 := 21) (k2 := 0) rfl rfl lk_Ag_42 (fun _ h9 => h9) d_Ag_goWith_7 (fun b49 e49 k49 => ?_)
    refine lv_aload_n X.1 X.2.1 d_Ag_goWith_10 rfl (lv_at hl 1 rfl) ?_
    refine t_getk (ci := 10) X Y S k1 rfl i_Ti 4 (by decide) rfl lk_Ag_126 (fun _ h9 => h9) d_Ag_goWith_11 (fun b50 n50 e50 k50 x50 => ?_)
    refine t_ui (x_runS (As := [.ref b50]) (rest := [.ref b49]) (n := 1) X hml hl.1 (c_Va_typeOf l D E T κ L f H.size b50 n50 k50 (by omega) S.1) (ok_k X Y hA KS KR) kl_Ag_Va_typeOf ks_Va_typeOf ki_Va_typeOf ini_Va ⟨rfl, rfl⟩ hd_Va_typeOf.2 ⟨Nat.le_of_ble_eq_true rfl, Nat.le_of_ble_eq_true rfl⟩ rfl (Nat.le_of_ble_eq_true rfl) d_Ag_goWith_14 ⟨Nat.le_of_ble_eq_true rfl, Nat.le_of_ble_eq_true rfl⟩) X Y hA (fun z51 H locs Y p51 => ?_)
    obtain ⟨l51, u51⟩ := p51
    refine t_ar (t_runV (As := [.int (iI z51)]) (rest := []) (n := 1) X Y S k49 hml hl.1 (c_Va_freshKey l D E T κ L f H.size b49 k49 z51 (by omega) (by omega) S.1) (ok_k X Y hA KS KR) rfl kl_Ag_Va_freshKey ks_Va_freshKey kx_Va_freshKey ki_Va_freshKey ini_Va ⟨rfl, rfl⟩ hd_Va_freshKey ⟨Nat.le_of_ble_eq_true rfl, Nat.le_of_ble_eq_true rfl⟩ rfl (Nat.le_of_ble_eq_true rfl) d_Ag_goWith_17 ⟨Nat.le_of_ble_eq_true rfl, Nat.le_of_ble_eq_true rfl⟩) X Y hA S (by decide) (fun b52 κ52 L52 f52 H locs Y S s52 p52 => ?_)
    obtain ⟨n52, k52⟩ := p52
    have x52 := tKey_n k52
    have k53 : κ52 h = (12, 0) := tLe_k s52.2.2.1 k0
    have k54 : κ52 a1 = (20, 0) := tLe_k s52.2.2.1 k1
    have k55 : κ52 a3 = (13, n3) := tLe_k s52.2.2.1 k3
    refine lv_goto (tgt := 26) X.1 X.2.1 d_Ag_goWith_20 (by decide) ?_
    exact J11 κ52 L52 b52 n52 f52 _ _ _ k53 k54 k55 (by omega) k52 Y S (lv_sub hl [0, 1, 2, 3] rfl)
set_option maxHeartbeats 4000000 in
set_option maxRecDepth 100000 in
theorem c_Ag_openReply (l : Launch) (D : va_G) (E : cE) (T : cT) (κ : tK) (L : List Nat) (f : pF) (sz : Nat) (h : Nat) (k0 : κ h = (12, 0)) (a1 : Int) (l_a1 : (-2147483648) ≤ a1) (u_a1 : a1 ≤ 2147483647) (a2 n2 : Nat) (k2 : κ a2 = (13, n2)) (x2 : n2 ≤ 12288) (hw : tW E T κ L f) : Met l y_Ag_openReply (k_Ag_openReply :: lw_tg) (kRm 71 2363 0 0) (va_Pc [.ref h, .int (iI a1), .ref a2] (kPre D E T L f sz)) (va_Qi (nPi E T [1, 2, 3, 4, 11, 13, 16] κ L f (fun (z : Int) (g : pF) => (-2147483648) ≤ z ∧ z ≤ 2147483647)) (cPost D E (pA L sz)) (pA L sz)) 0 0 (pA L sz) := by
  refine k_enter (own := R_Ag) (by decide) rfl (Nat.le_of_ble_eq_true rfl) (fun p e s m below meth c ls AV QQ H locs hQQ X Y hA hin hr hlk hml hl KS KR => ?_)
  have hl : lv_has ls 10 [(0, .ref h), (1, .int (iI a1)), (2, .ref a2)] := hl
  have S : tS E T (tFr κ L [1, 2, 3, 4, 11, 13, 16] []) κ L f κ L f := tS_rf hw
  refine lv_aload_n X.1 X.2.1 d_Ag_openReply_0 rfl (lv_at hl 2 rfl) ?_
  refine lv_iconst (v := iI 0) X.1 X.2.1 d_Ag_openReply_1 (by decide) ?_
  refine lv_bipush (v := iI 6) X.1 X.2.1 d_Ag_openReply_2 (by decide) ?_
  refine t_ui (t_runV (As := [.int (iI 0), .int (iI 6)]) (rest := []) (n := 2) X Y S k2 hml hl.1 (c_By_field l D E T κ L f H.size a2 n2 k2 (by omega) 0 (by omega) (by omega) 6 (by omega) (by omega) S.1) (ok_k X Y hA KS KR) rfl kl_Ag_By_field ks_By_field kx_By_field ki_By_field ini_By ⟨rfl, rfl⟩ hd_By_field ⟨Nat.le_of_ble_eq_true rfl, Nat.le_of_ble_eq_true rfl⟩ rfl (Nat.le_of_ble_eq_true rfl) d_Ag_openReply_4 ⟨Nat.le_of_ble_eq_true rfl, Nat.le_of_ble_eq_true rfl⟩) X Y hA (fun z1 H locs Y p1 => ?_)
  obtain ⟨l1, u1⟩ := p1
  refine lv_istore_n (lv' := [(3, .int (iI z1)), (0, .ref h), (1, .int (iI a1)), (2, .ref a2)]) X.1 X.2.1 d_Ag_openReply_7 rfl hl (by decide) rfl (fun ls hl => ?_)
  refine lv_aload_n X.1 X.2.1 d_Ag_openReply_8 rfl (lv_at hl 3 rfl) ?_
  refine lv_aload_n X.1 X.2.1 d_Ag_openReply_9 rfl (lv_at hl 3 rfl) ?_
  refine lv_iload_n X.1 X.2.1 d_Ag_openReply_10 rfl (lv_at hl 0 rfl) ?_
  refine lv_iconst (v := iI 0) X.1 X.2.1 d_Ag_openReply_11 (by decide) ?_
  refine t_ui (t_runV (As := [.int (iI z1), .int (iI 0)]) (rest := [.ref a2]) (n := 2) X Y S k2 hml hl.1 (c_By_field l D E T κ L f H.size a2 n2 k2 (by omega) z1 (by omega) (by omega) 0 (by omega) (by omega) S.1) (ok_k X Y hA KS KR) rfl kl_Ag_By_field ks_By_field kx_By_field ki_By_field ini_By ⟨rfl, rfl⟩ hd_By_field ⟨Nat.le_of_ble_eq_true rfl, Nat.le_of_ble_eq_true rfl⟩ rfl (Nat.le_of_ble_eq_true rfl) d_Ag_openReply_12 ⟨Nat.le_of_ble_eq_true rfl, Nat.le_of_ble_eq_true rfl⟩) X Y hA (fun z2 H locs Y p2 => ?_)
  obtain ⟨l2, u2⟩ := p2
  refine t_ul (t_runV (As := [.int (iI z2)]) (rest := []) (n := 1) X Y S k2 hml hl.1 (c_By_numberAt l D E T κ L f H.size a2 n2 k2 (by omega) z2 (by omega) (by omega) S.1) (ok_k X Y hA KS KR) rfl kl_Ag_By_numberAt ks_By_numberAt kx_By_numberAt ki_By_numberAt ini_By ⟨rfl, rfl⟩ hd_By_numberAt ⟨Nat.le_of_ble_eq_true rfl, Nat.le_of_ble_eq_true rfl⟩ rfl (Nat.le_of_ble_eq_true rfl) d_Ag_openReply_15 ⟨Nat.le_of_ble_eq_true rfl, Nat.le_of_ble_eq_true rfl⟩) X Y hA (fun v3 H locs Y p3 => ?_)
  refine lv_lstore (lv' := [(4, .long v3), (3, .int (iI z1)), (0, .ref h), (1, .int (iI a1)), (2, .ref a2)]) X.1 X.2.1 d_Ag_openReply_18 hl (by decide) rfl (fun ls hl => ?_)
  refine lv_iload_n X.1 X.2.1 d_Ag_openReply_20 rfl (lv_at hl 3 rfl) ?_
  refine lv_iconst (v := iI 2) X.1 X.2.1 d_Ag_openReply_21 (by decide) ?_
  have J4 : ∀  (H : Heap) (locs : List Loc) (ls : Array Slot), pH D cCl (pA L sz) s.heap L f H locs → tS E T (tFr κ L [1, 2, 3, 4, 11, 13, 16] []) κ L f κ L f → lv_has ls 10 [(0, .ref h), (1, .int (iI a1)), (2, .ref a2), (3, .int (iI z1)), (4, .long v3)] → W p l e (kRm 71 2363 0 0) s m AV below meth c H locs 0 0 QQ (F0 m 54 ls []) := by
    intro  H locs ls  Y S hl
    refine lv_iload_n X.1 X.2.1 d_Ag_openReply_54 rfl (lv_at hl 1 rfl) ?_
    refine lv_iconst (v := iI 2) X.1 X.2.1 d_Ag_openReply_55 (by decide) ?_
    have J11 : ∀ (b8 n10 : Nat) (H : Heap) (locs : List Loc) (ls : Array Slot), (n10 = 0 ∨ n10 = 16 ∨ n10 = 32) → (tKey T κ b8 n10) → pH D cCl (pA L sz) s.heap L f H locs → tS E T (tFr κ L [1, 2, 3, 4, 11, 13, 16] []) κ L f κ L f → lv_has ls 10 [(0, .ref h), (1, .int (iI a1)), (2, .ref a2), (3, .int (iI z1))] → W p l e (kRm 71 2363 0 0) s m AV below meth c H locs 0 0 QQ (F0 m 72 ls [.ref b8]) := by
      intro b8 n10 H locs ls xn10 k9 Y S hl
      refine lv_astore (lv' := [(6, .ref b8), (0, .ref h), (1, .int (iI a1)), (2, .ref a2), (3, .int (iI z1))]) X.1 X.2.1 d_Ag_openReply_72 hl (by decide) rfl (fun ls hl => ?_)
      refine lv_iload_n X.1 X.2.1 d_Ag_openReply_74 rfl (lv_at hl 2 rfl) ?_
      refine lv_iconst (v := iI 2) X.1 X.2.1 d_Ag_openReply_75 (by decide) ?_
      have J16 : ∀ (z15 : Int) (H : Heap) (locs : List Loc) (ls : Array Slot), (3 ≤ z15) → (z15 ≤ 9) → pH D cCl (pA L sz) s.heap L f H locs → tS E T (tFr κ L [1, 2, 3, 4, 11, 13, 16] []) κ L f κ L f → lv_has ls 10 [(0, .ref h), (1, .int (iI a1)), (2, .ref a2), (3, .int (iI z1)), (6, .ref b15)] → W p l e (kRm 71 2363 0 0) s m AV below meth c H locs 0 0 QQ (F0 m 85 ls [.int (iI z15)]) := by
        intro z15 H locs ls l15 u15 Y S hl
        refine lv_istore (lv' := [(7, .int (iI z15)), (0, .ref h), (1, .int (iI a1)), (2, .ref a2), (3, .int (iI z1)), (6, .ref b15)]) X.1 X.2.1 d_Ag_openReply_85 hl (by decide) rfl (fun ls hl => ?_)
        refine lv_aload_n X.1 X.2.1 d_Ag_openReply_87 rfl (lv_at hl 1 rfl) ?_
        refine t_getr (ci := 2) X Y S k0 rfl i_Ag 0 (by decide) rfl (k1 := 21) (k2 := 0) rfl rfl lk_Ag_42 (fun _ h9 => h9) d_Ag_openReply_88 (fun b20 e20 k20 => ?_)
        refine t_getr (ci := 11) X Y S k20 rfl i_Va 1 (by decide) rfl (k1 := 13) (k2 := 6144) rfl rfl lk_Ag_196 (fun _ h9 => h9) d_Ag_openReply_91 (fun b21 e21 k21 => ?_)
        refine lv_astore (lv' := [(8, .ref b21), (7, .int (iI z15)), (0, .ref h), (1, .int (iI a1)), (2, .ref a2), (3, .int (iI z1)), (6, .ref b15)]) X.1 X.2.1 d_Ag_openReply_94 hl (by decide) rfl (fun ls hl => ?_)
        refine lv_aload_n X.1 X.2.1 d_Ag_openReply_96 rfl (lv_at hl 2 rfl) ?_
        refine t_get0 (ci := 2) X Y S k0 rfl i_Ag 0 (by decide) rfl lk_Ag_42 (fun _ h9 => h9) d_Ag_openReply_97 e20 ?_
        refine lv_aload_n X.1 X.2.1 d_Ag_openReply_100 rfl (lv_at hl 4 rfl) ?_
        refine lv_iload_n X.1 X.2.1 d_Ag_openReply_101 rfl (lv_at hl 5 rfl) ?_
        refine lv_aload X.1 X.2.1 d_Ag_openReply_102 (lv_at hl 6 rfl) ?_
        refine lv_iload X.1 X.2.1 d_Ag_openReply_104 (lv_at hl 1 rfl) ?_
        refine lv_aload X.1 X.2.1 d_Ag_openReply_106 (lv_at hl 0 rfl) ?_
        refine t_ni (t_runV (As := [.ref a2, .int (iI z1), .ref b15, .int (iI z15), .ref b21]) (rest := []) (n := 5) X Y S k20 hml hl.1 (c_Va_opens l D E T κ L f H.size b20 k20 a2 n2 k2 (by omega) z1 (by omega) (by omega) b15 n17 k16 (by omega) z15 (by omega) (by omega) b21 6144 k21 (by omega) S.1) (ok_k X Y hA KS KR) rfl kl_Ag_Va_opens ks_Va_opens kx_Va_opens ki_Va_opens ini_Va ⟨rfl, rfl⟩ hd_Va_opens ⟨Nat.le_of_ble_eq_true rfl, Nat.le_of_ble_eq_true rfl⟩ rfl (Nat.le_of_ble_eq_true rfl) d_Ag_openReply_108 ⟨Nat.le_of_ble_eq_true rfl, Nat.le_of_ble_eq_true rfl⟩) X Y hA S (by decide) (fun z22 f22 H locs Y S s22 p22 => ?_)
        obtain ⟨l22, u22⟩ := p22
        refine z_if_ne (tgt := 117) X.1 X.2.1 d_Ag_openReply_111 (by decide) ⟨by omega, by omega⟩ (fun h23 => ?_) (fun h23 => ?_)
        · refine lv_aload X.1 X.2.1 d_Ag_openReply_117 (lv_at hl 0 rfl) ?_
          refine lv_sipush (v := iI 378) X.1 X.2.1 d_Ag_openReply_119 (by decide) ?_
          refine lv_iconst (v := iI 0) X.1 X.2.1 d_Ag_openReply_122 (by decide) ?_
          refine lv_aload X.1 X.2.1 d_Ag_openReply_123 (lv_at hl 0 rfl) ?_
          refine t_gets (ci := 3) X Y S k21 rfl i_By 1 (by decide) rfl lk_Ag_211 (fun _ h9 => h9) d_Ag_openReply_125 (fun z24 e24 l24 u24 => ?_)
          refine t_ui (t_runV (As := [.int (iI 378), .int (iI 0), .int (iI z24)]) (rest := []) (n := 3) X Y S k21 hml hl.1 (c_By_isA l D E T κ L f22 H.size b21 6144 k21 (by omega) 378 (by omega) (by omega) 0 (by omega) (by omega) z24 (by omega) (by omega) S.1) (ok_k X Y hA KS KR) rfl kl_Ag_By_isA ks_By_isA kx_By_isA ki_By_isA ini_By ⟨rfl, rfl⟩ hd_By_isA ⟨Nat.le_of_ble_eq_true rfl, Nat.le_of_ble_eq_true rfl⟩ rfl (Nat.le_of_ble_eq_true rfl) d_Ag_openReply_128 ⟨Nat.le_of_ble_eq_true rfl, Nat.le_of_ble_eq_true rfl⟩) X Y hA (fun z25 H locs Y p25 => ?_)
          obtain ⟨l25, u25⟩ := p25
          have J27 : ∀ (z26 : Int) (H : Heap) (locs : List Loc) (ls : Array Slot), (0 ≤ z26) → (z26 ≤ 1) → pH D cCl (pA L sz) s.heap L f22 H locs → tS E T (tFr κ L [1, 2, 3, 4, 11, 13, 16] []) κ L f κ L f22 → lv_has ls 10 [] → W p l e (kRm 71 2363 0 0) s m AV below meth c H locs 0 0 QQ (F0 m 161 ls [.int (iI z26)]) := by
            intro z26 H locs ls l26 u26 Y S hl
            refine lv_istore (lv' := [(9, .int (iI z26))]) X.1 X.2.1 d_Ag_openReply_161 hl (by decide) rfl (fun ls hl => ?_)
            refine lv_iload X.1 X.2.1 d_Ag_openReply_163 (lv_at hl 0 rfl) ?_
            refine z_if_eq (tgt := 172) X.1 X.2.1 d_Ag_openReply_165 (by decide) ⟨by omega, by omega⟩ (fun h31 => ?_) (fun h31 => ?_)
            · refine lv_bipush (v := iI (-60)) X.1 X.2.1 d_Ag_openReply_172 (by decide) ?_
              exact c_reti hQQ X Y hr hlk ⟨rfl, S, (-60), rfl, ⟨by omega, by omega⟩⟩ d_Ag_openReply_174
            · refine lv_iconst (v := iI 0) X.1 X.2.1 d_Ag_openReply_168 (by decide) ?_
              refine lv_goto (tgt := 174) X.1 X.2.1 d_Ag_openReply_169 (by decide) ?_
              exact c_reti hQQ X Y hr hlk ⟨rfl, S, 0, rfl, ⟨by omega, by omega⟩⟩ d_Ag_openReply_174
          have J32 : ∀  (H : Heap) (locs : List Loc) (ls : Array Slot), pH D cCl (pA L sz) s.heap L f22 H locs → tS E T (tFr κ L [1, 2, 3, 4, 11, 13, 16] []) κ L f κ L f22 → lv_has ls 10 [] → W p l e (kRm 71 2363 0 0) s m AV below meth c H locs 0 0 QQ (F0 m 156 ls []) := by
            intro  H locs ls  Y S hl
            refine lv_iconst (v := iI 1) X.1 X.2.1 d_Ag_openReply_156 (by decide) ?_
            refine lv_goto (tgt := 161) X.1 X.2.1 d_Ag_openReply_157 (by decide) ?_
            exact J27 1 _ _ _ (by omega) (by omega) Y S (lv_sub hl [] rfl)
          refine z_if_ne (tgt := 156) X.1 X.2.1 d_Ag_openReply_131 (by decide) ⟨by omega, by omega⟩ (fun h36 => ?_) (fun h36 => ?_)
          · exact J32  _ _ _  Y S (lv_sub hl [] rfl)
          · refine lv_iload_n X.1 X.2.1 d_Ag_openReply_134 rfl (lv_at hl 3 rfl) ?_
            refine lv_iconst (v := iI 2) X.1 X.2.1 d_Ag_openReply_135 (by decide) ?_
            have J37 : ∀  (H : Heap) (locs : List Loc) (ls : Array Slot), pH D cCl (pA L sz) s.heap L f22 H locs → tS E T (tFr κ L [1, 2, 3, 4, 11, 13, 16] []) κ L f κ L f22 → lv_has ls 10 [] → W p l e (kRm 71 2363 0 0) s m AV below meth c H locs 0 0 QQ (F0 m 160 ls []) := by
              intro  H locs ls  Y S hl
              refine lv_iconst (v := iI 0) X.1 X.2.1 d_Ag_openReply_160 (by decide) ?_
              exact J27 0 _ _ _ (by omega) (by omega) Y S (lv_sub hl [] rfl)
            refine z_icmp_eq (tgt := 160) X.1 X.2.1 d_Ag_openReply_136 (by decide) ⟨by omega, by omega⟩ ⟨by omega, by omega⟩ (fun h41 => ?_) (fun h41 => ?_)
            · exact J37  _ _ _  Y S (lv_sub hl [] rfl)
            · refine lv_aload X.1 X.2.1 d_Ag_openReply_139 (lv_at hl 0 rfl) ?_
              refine lv_sipush (v := iI 377) X.1 X.2.1 d_Ag_openReply_141 (by decide) ?_
              refine lv_iconst (v := iI 0) X.1 X.2.1 d_Ag_openReply_144 (by decide) ?_
              refine lv_aload X.1 X.2.1 d_Ag_openReply_145 (lv_at hl 0 rfl) ?_
              refine t_get0 (ci := 3) X Y S k21 rfl i_By 1 (by decide) rfl lk_Ag_211 (fun _ h9 => h9) d_Ag_openReply_147 e24 ?_
              refine t_ui (t_runV (As := [.int (iI 377), .int (iI 0), .int (iI z24)]) (rest := []) (n := 3) X Y S k21 hml hl.1 (c_By_isA l D E T κ L f22 H.size b21 6144 k21 (by omega) 377 (by omega) (by omega) 0 (by omega) (by omega) z24 (by omega) (by omega) S.1) (ok_k X Y hA KS KR) rfl kl_Ag_By_isA ks_By_isA kx_By_isA ki_By_isA ini_By ⟨rfl, rfl⟩ hd_By_isA ⟨Nat.le_of_ble_eq_true rfl, Nat.le_of_ble_eq_true rfl⟩ rfl (Nat.le_of_ble_eq_true rfl) d_Ag_openReply_150 ⟨Nat.le_of_ble_eq_true rfl, Nat.le_of_ble_eq_true rfl⟩) X Y hA (fun z42 H locs Y p42 => ?_)
              obtain ⟨l42, u42⟩ := p42
              refine z_if_eq (tgt := 160) X.1 X.2.1 d_Ag_openReply_153 (by decide) ⟨by omega, by omega⟩ (fun h43 => ?_) (fun h43 => ?_)
              · exact J37  _ _ _  Y S (lv_sub hl [] rfl)
              · exact J32  _ _ _  Y S (lv_sub hl [] rfl)
        · refine lv_bipush (v := iI (-31)) X.1 X.2.1 d_Ag_openReply_114 (by decide) ?_
          exact c_reti hQQ X Y hr hlk ⟨rfl, S, (-31), rfl, ⟨by omega, by omega⟩⟩ d_Ag_openReply_116
      refine z_icmp_ne (tgt := 84) X.1 X.2.1 d_Ag_openReply_76 (by decide) ⟨by omega, by omega⟩ ⟨by omega, by omega⟩ (fun h44 => ?_) (fun h44 => ?_)
      · refine lv_iconst (v := iI 3) X.1 X.2.1 d_Ag_openReply_84 (by decide) ?_
        exact J16 3 _ _ _ (by omega) (by omega) Y S (lv_sub hl [1, 2, 3, 4, 0] rfl)
      · refine lv_bipush (v := iI 9) X.1 X.2.1 d_Ag_openReply_79 (by decide) ?_
        refine lv_goto (tgt := 85) X.1 X.2.1 d_Ag_openReply_81 (by decide) ?_
        exact J16 9 _ _ _ (by omega) (by omega) Y S (lv_sub hl [1, 2, 3, 4, 0] rfl)
    refine z_icmp_ne (tgt := 66) X.1 X.2.1 d_Ag_openReply_56 (by decide) ⟨by omega, by omega⟩ ⟨by omega, by omega⟩ (fun h45 => ?_) (fun h45 => ?_)
    · refine lv_aload_n X.1 X.2.1 d_Ag_openReply_66 rfl (lv_at hl 0 rfl) ?_
      refine lv_lload X.1 X.2.1 d_Ag_openReply_67 (lv_at hl 4 rfl) ?_
      refine t_ur (t_runV (As := [.long v3]) (rest := []) (n := 1) X Y S k0 hml hl.1 (c_Ag_keyOf l D E T κ L f H.size h k0 v3 S.1) (ok_k X Y hA KS KR) rfl kl_Ag_Ag_keyOf ks_Ag_keyOf kx_Ag_keyOf ki_Ag_keyOf ini_Ag ⟨rfl, rfl⟩ hd_Ag_keyOf ⟨Nat.le_of_ble_eq_true rfl, Nat.le_of_ble_eq_true rfl⟩ rfl (Nat.le_of_ble_eq_true rfl) d_Ag_openReply_69 ⟨Nat.le_of_ble_eq_true rfl, Nat.le_of_ble_eq_true rfl⟩) X Y hA (fun b46 H locs Y p46 => ?_)
      obtain ⟨n46, k46⟩ := p46
      have x46 := tKey_n k46
      exact J11 b46 n46 _ _ _ (by omega) k46 Y S (lv_sub hl [0, 1, 2, 3] rfl)
    · refine lv_aload_n X.1 X.2.1 d_Ag_openReply_59 rfl (lv_at hl 0 rfl) ?_
      refine t_getk (ci := 2) X Y S k0 rfl i_Ag 14 (by decide) rfl lk_Ag_36 (fun _ h9 => h9) d_Ag_openReply_60 (fun b47 n47 e47 k47 x47 => ?_)
      refine lv_goto (tgt := 72) X.1 X.2.1 d_Ag_openReply_63 (by decide) ?_
      exact J11 b47 n47 _ _ _ (by omega) k47 Y S (lv_sub hl [0, 1, 2, 3] rfl)
  refine z_icmp_ne (tgt := 42) X.1 X.2.1 d_Ag_openReply_22 (by decide) ⟨by omega, by omega⟩ ⟨by omega, by omega⟩ (fun h48 => ?_) (fun h48 => ?_)
  · refine lv_aload_n X.1 X.2.1 d_Ag_openReply_42 rfl (lv_at hl 2 rfl) ?_
    refine lv_lload X.1 X.2.1 d_Ag_openReply_43 (lv_at hl 0 rfl) ?_
    refine t_ui (t_runV (As := [.long v3]) (rest := []) (n := 1) X Y S k0 hml hl.1 (c_Ag_isAsked l D E T κ L f H.size h k0 v3 S.1) (ok_k X Y hA KS KR) rfl kl_Ag_Ag_isAsked ks_Ag_isAsked kx_Ag_isAsked ki_Ag_isAsked ini_Ag ⟨rfl, rfl⟩ hd_Ag_isAsked ⟨Nat.le_of_ble_eq_true rfl, Nat.le_of_ble_eq_true rfl⟩ rfl (Nat.le_of_ble_eq_true rfl) d_Ag_openReply_45 ⟨Nat.le_of_ble_eq_true rfl, Nat.le_of_ble_eq_true rfl⟩) X Y hA (fun z49 H locs Y p49 => ?_)
    obtain ⟨l49, u49⟩ := p49
    refine z_if_ne (tgt := 54) X.1 X.2.1 d_Ag_openReply_48 (by decide) ⟨by omega, by omega⟩ (fun h50 => ?_) (fun h50 => ?_)
    · exact J4  _ _ _  Y S (lv_sub hl [2, 3, 4, 1, 0] rfl)
    · refine lv_bipush (v := iI (-14)) X.1 X.2.1 d_Ag_openReply_51 (by decide) ?_
      exact c_reti hQQ X Y hr hlk ⟨rfl, S, (-14), rfl, ⟨by omega, by omega⟩⟩ d_Ag_openReply_53
  · refine lv_lload X.1 X.2.1 d_Ag_openReply_25 (lv_at hl 0 rfl) ?_
    refine lv_aload_n X.1 X.2.1 d_Ag_openReply_27 rfl (lv_at hl 2 rfl) ?_
    refine t_getk (ci := 2) X Y S k0 rfl i_Ag 14 (by decide) rfl lk_Ag_36 (fun _ h9 => h9) d_Ag_openReply_28 (fun b51 n51 e51 k51 x51 => ?_)
    refine t_ui (x_runS (As := [.ref b51]) (rest := [.long v3]) (n := 1) X hml hl.1 (c_Va_typeOf l D E T κ L f H.size b51 n51 k51 (by omega) S.1) (ok_k X Y hA KS KR) kl_Ag_Va_typeOf ks_Va_typeOf ki_Va_typeOf ini_Va ⟨rfl, rfl⟩ hd_Va_typeOf.2 ⟨Nat.le_of_ble_eq_true rfl, Nat.le_of_ble_eq_true rfl⟩ rfl (Nat.le_of_ble_eq_true rfl) d_Ag_openReply_31 ⟨Nat.le_of_ble_eq_true rfl, Nat.le_of_ble_eq_true rfl⟩) X Y hA (fun z52 H locs Y p52 => ?_)
    obtain ⟨l52, u52⟩ := p52
    refine lv_i2l X.1 X.2.1 d_Ag_openReply_34 rfl ?_
    refine t_anyl (fun v53 => ?_)
    refine W.lcmp X.1 X.2.1 d_Ag_openReply_35 ?_
    refine t_u (fun z54 l54 u54 => ?_)
    refine z_if_eq (tgt := 54) X.1 X.2.1 d_Ag_openReply_36 (by decide) ⟨by omega, by omega⟩ (fun h55 => ?_) (fun h55 => ?_)
    · exact J4  _ _ _  Y S (lv_sub hl [2, 3, 4, 1, 0] rfl)
    · refine lv_goto (tgt := 51) X.1 X.2.1 d_Ag_openReply_39 (by decide) ?_
      refine lv_bipush (v := iI (-14)) X.1 X.2.1 d_Ag_openReply_51 (by decide) ?_
      exact c_reti hQQ X Y hr hlk ⟨rfl, S, (-14), rfl, ⟨by omega, by omega⟩⟩ d_Ag_openReply_53
set_option maxHeartbeats 4000000 in
set_option maxRecDepth 100000 in
theorem c_Ag_judgeReply (l : Launch) (D : va_G) (E : cE) (T : cT) (κ : tK) (L : List Nat) (f : pF) (sz : Nat) (h : Nat) (k0 : κ h = (12, 0)) (a1 n1 : Nat) (k1 : κ a1 = (13, n1)) (x1 : n1 ≤ 4000) (hw : tW E T κ L f) : Met l y_Ag_judgeReply (k_Ag_judgeReply :: lw_tg) (kRm 6 154 3 4035) (va_Pc [.ref h, .ref a1] (kPre D E T L f sz)) (va_Qi (aPi E T [1, 2, 3, 4, 5, 6, 7, 8, 9, 10, 11, 12, 13, 14, 15, 16, 17, 18, 19, 20, 21] [] κ L f (fun (z : Int) (k : tK) (g : pF) => (-2147483648) ≤ z ∧ z ≤ 2147483647)) (cPost D E (pA L sz)) (pA L sz)) 3 4035 (pA L sz) := by
  refine k_enter (own := R_Ag) (by decide) rfl (Nat.le_of_ble_eq_true rfl) (fun p e s m below meth c ls AV QQ H locs hQQ X Y hA hin hr hlk hml hl KS KR => ?_)
  have hl : lv_has ls 7 [(0, .ref h), (1, .ref a1)] := hl
  have S : tS E T (tFr κ L [1, 2, 3, 4, 5, 6, 7, 8, 9, 10, 11, 12, 13, 14, 15, 16, 17, 18, 19, 20, 21] []) κ L f κ L f := tS_rf hw
  have hF0 : ∀ b, tFr κ L [1, 2, 3, 4, 5, 6, 7, 8, 9, 10, 11, 12, 13, 14, 15, 16, 17, 18, 19, 20, 21] [] b → b ∈ L := fun b h9 => h9.1
  refine lv_aload_n X.1 X.2.1 d_Ag_judgeReply_0 rfl (lv_at hl 0 rfl) ?_
  refine t_getr (ci := 2) X Y S k0 rfl i_Ag 0 (by decide) rfl (k1 := 21) (k2 := 0) rfl rfl lk_Ag_42 (fun _ h9 => h9) d_Ag_judgeReply_1 (fun b1 e1 k1 => ?_)
  refine t_getr (ci := 11) X Y S k1 rfl i_Va 1 (by decide) rfl (k1 := 13) (k2 := 6144) rfl rfl lk_Ag_196 (fun _ h9 => h9) d_Ag_judgeReply_4 (fun b2 e2 k2 => ?_)
  refine lv_astore_n (lv' := [(2, .ref b2), (0, .ref h), (1, .ref a1)]) X.1 X.2.1 d_Ag_judgeReply_7 rfl hl (by decide) rfl (fun ls hl => ?_)
  refine lv_aload_n X.1 X.2.1 d_Ag_judgeReply_8 rfl (lv_at hl 2 rfl) ?_
  refine lv_iconst (v := iI 0) X.1 X.2.1 d_Ag_judgeReply_9 (by decide) ?_
  refine lv_iconst (v := iI 5) X.1 X.2.1 d_Ag_judgeReply_10 (by decide) ?_
  refine t_ui (t_runV (As := [.int (iI 0), .int (iI 5)]) (rest := []) (n := 2) X Y S k1 hml hl.1 (c_By_field l D E T κ L f H.size a1 n1 k1 (by omega) 0 (by omega) (by omega) 5 (by omega) (by omega) S.1) (ok_k X Y hA KS KR) rfl kl_Ag_By_field ks_By_field kx_By_field ki_By_field ini_By ⟨rfl, rfl⟩ hd_By_field ⟨Nat.le_of_ble_eq_true rfl, Nat.le_of_ble_eq_true rfl⟩ rfl (Nat.le_of_ble_eq_true rfl) d_Ag_judgeReply_11 ⟨Nat.le_of_ble_eq_true rfl, Nat.le_of_ble_eq_true rfl⟩) X Y hA (fun z3 H locs Y p3 => ?_)
  obtain ⟨l3, u3⟩ := p3
  refine lv_istore_n (lv' := [(3, .int (iI z3)), (2, .ref b2), (0, .ref h), (1, .ref a1)]) X.1 X.2.1 d_Ag_judgeReply_14 rfl hl (by decide) rfl (fun ls hl => ?_)
  refine lv_aload_n X.1 X.2.1 d_Ag_judgeReply_15 rfl (lv_at hl 1 rfl) ?_
  refine lv_aload_n X.1 X.2.1 d_Ag_judgeReply_16 rfl (lv_at hl 1 rfl) ?_
  refine lv_iconst (v := iI 0) X.1 X.2.1 d_Ag_judgeReply_17 (by decide) ?_
  refine lv_iconst (v := iI 2) X.1 X.2.1 d_Ag_judgeReply_18 (by decide) ?_
  refine t_ui (t_runV (As := [.int (iI 0), .int (iI 2)]) (rest := [.ref b2]) (n := 2) X Y S k2 hml hl.1 (c_By_field l D E T κ L f H.size b2 6144 k2 (by omega) 0 (by omega) (by omega) 2 (by omega) (by omega) S.1) (ok_k X Y hA KS KR) rfl kl_Ag_By_field ks_By_field kx_By_field ki_By_field ini_By ⟨rfl, rfl⟩ hd_By_field ⟨Nat.le_of_ble_eq_true rfl, Nat.le_of_ble_eq_true rfl⟩ rfl (Nat.le_of_ble_eq_true rfl) d_Ag_judgeReply_19 ⟨Nat.le_of_ble_eq_true rfl, Nat.le_of_ble_eq_true rfl⟩) X Y hA (fun z4 H locs Y p4 => ?_)
  obtain ⟨l4, u4⟩ := p4
  refine t_ul (t_runV (As := [.int (iI z4)]) (rest := []) (n := 1) X Y S k2 hml hl.1 (c_By_numberAt l D E T κ L f H.size b2 6144 k2 (by omega) z4 (by omega) (by omega) S.1) (ok_k X Y hA KS KR) rfl kl_Ag_By_numberAt ks_By_numberAt kx_By_numberAt ki_By_numberAt ini_By ⟨rfl, rfl⟩ hd_By_numberAt ⟨Nat.le_of_ble_eq_true rfl, Nat.le_of_ble_eq_true rfl⟩ rfl (Nat.le_of_ble_eq_true rfl) d_Ag_judgeReply_22 ⟨Nat.le_of_ble_eq_true rfl, Nat.le_of_ble_eq_true rfl⟩) X Y hA (fun v5 H locs Y p5 => ?_)
  refine lv_aload_n X.1 X.2.1 d_Ag_judgeReply_25 rfl (lv_at hl 2 rfl) ?_
  refine t_geti (ci := 2) X Y S k0 rfl i_Ag 9 (by decide) rfl lk_Ag_123 (fun _ h9 => h9) d_Ag_judgeReply_26 (fun z6 e6 l6 u6 => ?_)
  refine lv_i2l X.1 X.2.1 d_Ag_judgeReply_29 rfl ?_
  refine t_anyl (fun v7 => ?_)
  refine W.lcmp X.1 X.2.1 d_Ag_judgeReply_30 ?_
  refine t_u (fun z8 l8 u8 => ?_)
  refine z_if_eq (tgt := 37) X.1 X.2.1 d_Ag_judgeReply_31 (by decide) ⟨by omega, by omega⟩ (fun h9 => ?_) (fun h9 => ?_)
  · refine lv_aload_n X.1 X.2.1 d_Ag_judgeReply_37 rfl (lv_at hl 3 rfl) ?_
    refine lv_aload_n X.1 X.2.1 d_Ag_judgeReply_38 rfl (lv_at hl 3 rfl) ?_
    refine lv_iconst (v := iI 0) X.1 X.2.1 d_Ag_judgeReply_39 (by decide) ?_
    refine lv_iconst (v := iI 3) X.1 X.2.1 d_Ag_judgeReply_40 (by decide) ?_
    refine t_ui (t_runV (As := [.int (iI 0), .int (iI 3)]) (rest := [.ref a1]) (n := 2) X Y S k1 hml hl.1 (c_By_field l D E T κ L f H.size a1 n1 k1 (by omega) 0 (by omega) (by omega) 3 (by omega) (by omega) S.1) (ok_k X Y hA KS KR) rfl kl_Ag_By_field ks_By_field kx_By_field ki_By_field ini_By ⟨rfl, rfl⟩ hd_By_field ⟨Nat.le_of_ble_eq_true rfl, Nat.le_of_ble_eq_true rfl⟩ rfl (Nat.le_of_ble_eq_true rfl) d_Ag_judgeReply_41 ⟨Nat.le_of_ble_eq_true rfl, Nat.le_of_ble_eq_true rfl⟩) X Y hA (fun z10 H locs Y p10 => ?_)
    obtain ⟨l10, u10⟩ := p10
    refine t_ui (t_runV (As := [.int (iI z10)]) (rest := []) (n := 1) X Y S k1 hml hl.1 (c_By_isRealm l D E T κ L f H.size a1 n1 k1 (by omega) z10 (by omega) (by omega) S.1) (ok_k X Y hA KS KR) rfl kl_Ag_By_isRealm ks_By_isRealm kx_By_isRealm ki_By_isRealm ini_By ⟨rfl, rfl⟩ hd_By_isRealm ⟨Nat.le_of_ble_eq_true rfl, Nat.le_of_ble_eq_true rfl⟩ rfl (Nat.le_of_ble_eq_true rfl) d_Ag_judgeReply_44 ⟨Nat.le_of_ble_eq_true rfl, Nat.le_of_ble_eq_true rfl⟩) X Y hA (fun z11 H locs Y p11 => ?_)
    obtain ⟨l11, u11⟩ := p11
    refine z_if_eq (tgt := 129) X.1 X.2.1 d_Ag_judgeReply_47 (by decide) ⟨by omega, by omega⟩ (fun h12 => ?_) (fun h12 => ?_)
    · refine lv_bipush (v := iI (-41)) X.1 X.2.1 d_Ag_judgeReply_129 (by decide) ?_
      refine W.widen (k := 3) (n := 4035) (Nat.le_of_ble_eq_true rfl) (Nat.le_of_ble_eq_true rfl) ?_
      exact c_reti hQQ X Y hr hlk ⟨κ, S, (-41), rfl, ⟨by omega, by omega⟩⟩ d_Ag_judgeReply_131
    · refine lv_aload_n X.1 X.2.1 d_Ag_judgeReply_50 rfl (lv_at hl 3 rfl) ?_
      refine lv_aload_n X.1 X.2.1 d_Ag_judgeReply_51 rfl (lv_at hl 3 rfl) ?_
      refine lv_iconst (v := iI 0) X.1 X.2.1 d_Ag_judgeReply_52 (by decide) ?_
      refine lv_iconst (v := iI 4) X.1 X.2.1 d_Ag_judgeReply_53 (by decide) ?_
      refine t_ui (t_runV (As := [.int (iI 0), .int (iI 4)]) (rest := [.ref a1]) (n := 2) X Y S k1 hml hl.1 (c_By_field l D E T κ L f H.size a1 n1 k1 (by omega) 0 (by omega) (by omega) 4 (by omega) (by omega) S.1) (ok_k X Y hA KS KR) rfl kl_Ag_By_field ks_By_field kx_By_field ki_By_field ini_By ⟨rfl, rfl⟩ hd_By_field ⟨Nat.le_of_ble_eq_true rfl, Nat.le_of_ble_eq_true rfl⟩ rfl (Nat.le_of_ble_eq_true rfl) d_Ag_judgeReply_54 ⟨Nat.le_of_ble_eq_true rfl, Nat.le_of_ble_eq_true rfl⟩) X Y hA (fun z13 H locs Y p13 => ?_)
      obtain ⟨l13, u13⟩ := p13
      refine lv_aload_n X.1 X.2.1 d_Ag_judgeReply_57 rfl (lv_at hl 2 rfl) ?_
      refine t_getr (ci := 2) X Y S k0 rfl i_Ag 12 (by decide) rfl (k1 := 13) (k2 := 40) rfl rfl lk_Ag_30 (fun _ h9 => h9) d_Ag_judgeReply_58 (fun b14 e14 k14 => ?_)
      refine t_ui (t_runV (As := [.int (iI z13), .ref b14]) (rest := []) (n := 2) X Y S k1 hml hl.1 (c_By_isNamed l D E T κ L f H.size a1 n1 k1 (by omega) z13 (by omega) (by omega) b14 40 k14 (by omega) S.1) (ok_k X Y hA KS KR) rfl kl_Ag_By_isNamed ks_By_isNamed kx_By_isNamed ki_By_isNamed ini_By ⟨rfl, rfl⟩ hd_By_isNamed ⟨Nat.le_of_ble_eq_true rfl, Nat.le_of_ble_eq_true rfl⟩ rfl (Nat.le_of_ble_eq_true rfl) d_Ag_judgeReply_61 ⟨Nat.le_of_ble_eq_true rfl, Nat.le_of_ble_eq_true rfl⟩) X Y hA (fun z15 H locs Y p15 => ?_)
      obtain ⟨l15, u15⟩ := p15
      refine z_if_eq (tgt := 129) X.1 X.2.1 d_Ag_judgeReply_64 (by decide) ⟨by omega, by omega⟩ (fun h16 => ?_) (fun h16 => ?_)
      · refine lv_bipush (v := iI (-41)) X.1 X.2.1 d_Ag_judgeReply_129 (by decide) ?_
        refine W.widen (k := 3) (n := 4035) (Nat.le_of_ble_eq_true rfl) (Nat.le_of_ble_eq_true rfl) ?_
        exact c_reti hQQ X Y hr hlk ⟨κ, S, (-41), rfl, ⟨by omega, by omega⟩⟩ d_Ag_judgeReply_131
      · refine lv_aload_n X.1 X.2.1 d_Ag_judgeReply_67 rfl (lv_at hl 1 rfl) ?_
        refine lv_aload_n X.1 X.2.1 d_Ag_judgeReply_68 rfl (lv_at hl 1 rfl) ?_
        refine lv_iconst (v := iI 0) X.1 X.2.1 d_Ag_judgeReply_69 (by decide) ?_
        refine lv_bipush (v := iI 9) X.1 X.2.1 d_Ag_judgeReply_70 (by decide) ?_
        refine t_ui (t_runV (As := [.int (iI 0), .int (iI 9)]) (rest := [.ref b2]) (n := 2) X Y S k2 hml hl.1 (c_By_field l D E T κ L f H.size b2 6144 k2 (by omega) 0 (by omega) (by omega) 9 (by omega) (by omega) S.1) (ok_k X Y hA KS KR) rfl kl_Ag_By_field ks_By_field kx_By_field ki_By_field ini_By ⟨rfl, rfl⟩ hd_By_field ⟨Nat.le_of_ble_eq_true rfl, Nat.le_of_ble_eq_true rfl⟩ rfl (Nat.le_of_ble_eq_true rfl) d_Ag_judgeReply_72 ⟨Nat.le_of_ble_eq_true rfl, Nat.le_of_ble_eq_true rfl⟩) X Y hA (fun z17 H locs Y p17 => ?_)
        obtain ⟨l17, u17⟩ := p17
        refine t_ui (t_runV (As := [.int (iI z17)]) (rest := []) (n := 1) X Y S k2 hml hl.1 (c_By_isRealm l D E T κ L f H.size b2 6144 k2 (by omega) z17 (by omega) (by omega) S.1) (ok_k X Y hA KS KR) rfl kl_Ag_By_isRealm ks_By_isRealm kx_By_isRealm ki_By_isRealm ini_By ⟨rfl, rfl⟩ hd_By_isRealm ⟨Nat.le_of_ble_eq_true rfl, Nat.le_of_ble_eq_true rfl⟩ rfl (Nat.le_of_ble_eq_true rfl) d_Ag_judgeReply_75 ⟨Nat.le_of_ble_eq_true rfl, Nat.le_of_ble_eq_true rfl⟩) X Y hA (fun z18 H locs Y p18 => ?_)
        obtain ⟨l18, u18⟩ := p18
        refine z_if_eq (tgt := 129) X.1 X.2.1 d_Ag_judgeReply_78 (by decide) ⟨by omega, by omega⟩ (fun h19 => ?_) (fun h19 => ?_)
        · refine lv_bipush (v := iI (-41)) X.1 X.2.1 d_Ag_judgeReply_129 (by decide) ?_
          refine W.widen (k := 3) (n := 4035) (Nat.le_of_ble_eq_true rfl) (Nat.le_of_ble_eq_true rfl) ?_
          exact c_reti hQQ X Y hr hlk ⟨κ, S, (-41), rfl, ⟨by omega, by omega⟩⟩ d_Ag_judgeReply_131
        · refine lv_aload_n X.1 X.2.1 d_Ag_judgeReply_81 rfl (lv_at hl 1 rfl) ?_
          refine lv_aload_n X.1 X.2.1 d_Ag_judgeReply_82 rfl (lv_at hl 1 rfl) ?_
          refine lv_iconst (v := iI 0) X.1 X.2.1 d_Ag_judgeReply_83 (by decide) ?_
          refine lv_bipush (v := iI 10) X.1 X.2.1 d_Ag_judgeReply_84 (by decide) ?_
          refine t_ui (t_runV (As := [.int (iI 0), .int (iI 10)]) (rest := [.ref b2]) (n := 2) X Y S k2 hml hl.1 (c_By_field l D E T κ L f H.size b2 6144 k2 (by omega) 0 (by omega) (by omega) 10 (by omega) (by omega) S.1) (ok_k X Y hA KS KR) rfl kl_Ag_By_field ks_By_field kx_By_field ki_By_field ini_By ⟨rfl, rfl⟩ hd_By_field ⟨Nat.le_of_ble_eq_true rfl, Nat.le_of_ble_eq_true rfl⟩ rfl (Nat.le_of_ble_eq_true rfl) d_Ag_judgeReply_86 ⟨Nat.le_of_ble_eq_true rfl, Nat.le_of_ble_eq_true rfl⟩) X Y hA (fun z20 H locs Y p20 => ?_)
          obtain ⟨l20, u20⟩ := p20
          refine lv_aload_n X.1 X.2.1 d_Ag_judgeReply_89 rfl (lv_at hl 2 rfl) ?_
          refine t_getr (ci := 2) X Y S k0 rfl i_Ag 13 (by decide) rfl (k1 := 13) (k2 := 40) rfl rfl lk_Ag_33 (fun _ h9 => h9) d_Ag_judgeReply_90 (fun b21 e21 k21 => ?_)
          refine t_ui (t_runV (As := [.int (iI z20), .ref b21]) (rest := []) (n := 2) X Y S k2 hml hl.1 (c_By_isNamed l D E T κ L f H.size b2 6144 k2 (by omega) z20 (by omega) (by omega) b21 40 k21 (by omega) S.1) (ok_k X Y hA KS KR) rfl kl_Ag_By_isNamed ks_By_isNamed kx_By_isNamed ki_By_isNamed ini_By ⟨rfl, rfl⟩ hd_By_isNamed ⟨Nat.le_of_ble_eq_true rfl, Nat.le_of_ble_eq_true rfl⟩ rfl (Nat.le_of_ble_eq_true rfl) d_Ag_judgeReply_93 ⟨Nat.le_of_ble_eq_true rfl, Nat.le_of_ble_eq_true rfl⟩) X Y hA (fun z22 H locs Y p22 => ?_)
          obtain ⟨l22, u22⟩ := p22
          refine z_if_eq (tgt := 129) X.1 X.2.1 d_Ag_judgeReply_96 (by decide) ⟨by omega, by omega⟩ (fun h23 => ?_) (fun h23 => ?_)
          · refine lv_bipush (v := iI (-41)) X.1 X.2.1 d_Ag_judgeReply_129 (by decide) ?_
            refine W.widen (k := 3) (n := 4035) (Nat.le_of_ble_eq_true rfl) (Nat.le_of_ble_eq_true rfl) ?_
            exact c_reti hQQ X Y hr hlk ⟨κ, S, (-41), rfl, ⟨by omega, by omega⟩⟩ d_Ag_judgeReply_131
          · refine lv_aload_n X.1 X.2.1 d_Ag_judgeReply_99 rfl (lv_at hl 3 rfl) ?_
            refine lv_aload_n X.1 X.2.1 d_Ag_judgeReply_100 rfl (lv_at hl 3 rfl) ?_
            refine lv_iload_n X.1 X.2.1 d_Ag_judgeReply_101 rfl (lv_at hl 0 rfl) ?_
            refine lv_iconst (v := iI 1) X.1 X.2.1 d_Ag_judgeReply_102 (by decide) ?_
            refine t_ui (t_runV (As := [.int (iI z3), .int (iI 1)]) (rest := [.ref a1]) (n := 2) X Y S k1 hml hl.1 (c_By_field l D E T κ L f H.size a1 n1 k1 (by omega) z3 (by omega) (by omega) 1 (by omega) (by omega) S.1) (ok_k X Y hA KS KR) rfl kl_Ag_By_field ks_By_field kx_By_field ki_By_field ini_By ⟨rfl, rfl⟩ hd_By_field ⟨Nat.le_of_ble_eq_true rfl, Nat.le_of_ble_eq_true rfl⟩ rfl (Nat.le_of_ble_eq_true rfl) d_Ag_judgeReply_103 ⟨Nat.le_of_ble_eq_true rfl, Nat.le_of_ble_eq_true rfl⟩) X Y hA (fun z24 H locs Y p24 => ?_)
            obtain ⟨l24, u24⟩ := p24
            refine t_ui (t_runV (As := [.int (iI z24)]) (rest := []) (n := 1) X Y S k1 hml hl.1 (c_By_isRealm l D E T κ L f H.size a1 n1 k1 (by omega) z24 (by omega) (by omega) S.1) (ok_k X Y hA KS KR) rfl kl_Ag_By_isRealm ks_By_isRealm kx_By_isRealm ki_By_isRealm ini_By ⟨rfl, rfl⟩ hd_By_isRealm ⟨Nat.le_of_ble_eq_true rfl, Nat.le_of_ble_eq_true rfl⟩ rfl (Nat.le_of_ble_eq_true rfl) d_Ag_judgeReply_106 ⟨Nat.le_of_ble_eq_true rfl, Nat.le_of_ble_eq_true rfl⟩) X Y hA (fun z25 H locs Y p25 => ?_)
            obtain ⟨l25, u25⟩ := p25
            refine z_if_eq (tgt := 129) X.1 X.2.1 d_Ag_judgeReply_109 (by decide) ⟨by omega, by omega⟩ (fun h26 => ?_) (fun h26 => ?_)
            · refine lv_bipush (v := iI (-41)) X.1 X.2.1 d_Ag_judgeReply_129 (by decide) ?_
              refine W.widen (k := 3) (n := 4035) (Nat.le_of_ble_eq_true rfl) (Nat.le_of_ble_eq_true rfl) ?_
              exact c_reti hQQ X Y hr hlk ⟨κ, S, (-41), rfl, ⟨by omega, by omega⟩⟩ d_Ag_judgeReply_131
            · refine lv_aload_n X.1 X.2.1 d_Ag_judgeReply_112 rfl (lv_at hl 3 rfl) ?_
              refine lv_aload_n X.1 X.2.1 d_Ag_judgeReply_113 rfl (lv_at hl 3 rfl) ?_
              refine lv_iload_n X.1 X.2.1 d_Ag_judgeReply_114 rfl (lv_at hl 0 rfl) ?_
              refine lv_iconst (v := iI 2) X.1 X.2.1 d_Ag_judgeReply_115 (by decide) ?_
              refine t_ui (t_runV (As := [.int (iI z3), .int (iI 2)]) (rest := [.ref a1]) (n := 2) X Y S k1 hml hl.1 (c_By_field l D E T κ L f H.size a1 n1 k1 (by omega) z3 (by omega) (by omega) 2 (by omega) (by omega) S.1) (ok_k X Y hA KS KR) rfl kl_Ag_By_field ks_By_field kx_By_field ki_By_field ini_By ⟨rfl, rfl⟩ hd_By_field ⟨Nat.le_of_ble_eq_true rfl, Nat.le_of_ble_eq_true rfl⟩ rfl (Nat.le_of_ble_eq_true rfl) d_Ag_judgeReply_116 ⟨Nat.le_of_ble_eq_true rfl, Nat.le_of_ble_eq_true rfl⟩) X Y hA (fun z27 H locs Y p27 => ?_)
              obtain ⟨l27, u27⟩ := p27
              refine lv_aload_n X.1 X.2.1 d_Ag_judgeReply_119 rfl (lv_at hl 2 rfl) ?_
              refine t_get0 (ci := 2) X Y S k0 rfl i_Ag 13 (by decide) rfl lk_Ag_33 (fun _ h9 => h9) d_Ag_judgeReply_120 e21 ?_
              refine t_ui (t_runV (As := [.int (iI z27), .ref b21]) (rest := []) (n := 2) X Y S k1 hml hl.1 (c_By_isNamed l D E T κ L f H.size a1 n1 k1 (by omega) z27 (by omega) (by omega) b21 40 k21 (by omega) S.1) (ok_k X Y hA KS KR) rfl kl_Ag_By_isNamed ks_By_isNamed kx_By_isNamed ki_By_isNamed ini_By ⟨rfl, rfl⟩ hd_By_isNamed ⟨Nat.le_of_ble_eq_true rfl, Nat.le_of_ble_eq_true rfl⟩ rfl (Nat.le_of_ble_eq_true rfl) d_Ag_judgeReply_123 ⟨Nat.le_of_ble_eq_true rfl, Nat.le_of_ble_eq_true rfl⟩) X Y hA (fun z28 H locs Y p28 => ?_)
              obtain ⟨l28, u28⟩ := p28
              refine z_if_ne (tgt := 132) X.1 X.2.1 d_Ag_judgeReply_126 (by decide) ⟨by omega, by omega⟩ (fun h29 => ?_) (fun h29 => ?_)
              · refine lv_aload_n X.1 X.2.1 d_Ag_judgeReply_132 rfl (lv_at hl 1 rfl) ?_
                refine lv_aload_n X.1 X.2.1 d_Ag_judgeReply_133 rfl (lv_at hl 1 rfl) ?_
                refine lv_iconst (v := iI 0) X.1 X.2.1 d_Ag_judgeReply_134 (by decide) ?_
                refine lv_iconst (v := iI 0) X.1 X.2.1 d_Ag_judgeReply_135 (by decide) ?_
                refine t_ui (t_runV (As := [.int (iI 0), .int (iI 0)]) (rest := [.ref b2]) (n := 2) X Y S k2 hml hl.1 (c_By_field l D E T κ L f H.size b2 6144 k2 (by omega) 0 (by omega) (by omega) 0 (by omega) (by omega) S.1) (ok_k X Y hA KS KR) rfl kl_Ag_By_field ks_By_field kx_By_field ki_By_field ini_By ⟨rfl, rfl⟩ hd_By_field ⟨Nat.le_of_ble_eq_true rfl, Nat.le_of_ble_eq_true rfl⟩ rfl (Nat.le_of_ble_eq_true rfl) d_Ag_judgeReply_136 ⟨Nat.le_of_ble_eq_true rfl, Nat.le_of_ble_eq_true rfl⟩) X Y hA (fun z30 H locs Y p30 => ?_)
                obtain ⟨l30, u30⟩ := p30
                refine t_ar (x_runS (As := [.ref b2, .int (iI z30)]) (rest := []) (n := 2) X hml hl.1 (c_Va_keyAt l D E T κ L f H.size b2 6144 k2 (by omega) z30 (by omega) (by omega) S.1) (ok_k X Y hA KS KR) kl_Ag_Va_keyAt ks_Va_keyAt ki_Va_keyAt ini_Va ⟨rfl, rfl⟩ hd_Va_keyAt.2 ⟨Nat.le_of_ble_eq_true rfl, Nat.le_of_ble_eq_true rfl⟩ rfl (Nat.le_of_ble_eq_true rfl) d_Ag_judgeReply_139 ⟨Nat.le_of_ble_eq_true rfl, Nat.le_of_ble_eq_true rfl⟩) X Y hA S (by decide) (fun b31 κ31 L31 f31 H locs Y S s31 p31 => ?_)
                obtain ⟨n31, k31⟩ := p31
                have x31 := tKey_n k31
                have k32 : κ31 h = (12, 0) := tLe_k s31.2.2.1 k0
                have k33 : κ31 a1 = (13, n1) := tLe_k s31.2.2.1 k1
                have k34 : κ31 b2 = (13, 6144) := tLe_k s31.2.2.1 k2
                refine lv_astore (lv' := [(4, .ref b31), (3, .int (iI z3)), (2, .ref b2), (0, .ref h), (1, .ref a1)]) X.1 X.2.1 d_Ag_judgeReply_142 hl (by decide) rfl (fun ls hl => ?_)
                refine lv_aload X.1 X.2.1 d_Ag_judgeReply_144 (lv_at hl 0 rfl) ?_
                refine t_alen X Y S KS (tKey_src k31) (by omega) d_Ag_judgeReply_146 ?_
                refine z_if_ne (tgt := 153) X.1 X.2.1 d_Ag_judgeReply_147 (by decide) ⟨by omega, by omega⟩ (fun h35 => ?_) (fun h35 => ?_)
                · refine lv_aload_n X.1 X.2.1 d_Ag_judgeReply_153 rfl (lv_at hl 2 rfl) ?_
                  refine lv_aload_n X.1 X.2.1 d_Ag_judgeReply_154 rfl (lv_at hl 2 rfl) ?_
                  refine lv_iconst (v := iI 0) X.1 X.2.1 d_Ag_judgeReply_155 (by decide) ?_
                  refine lv_aload_n X.1 X.2.1 d_Ag_judgeReply_156 rfl (lv_at hl 2 rfl) ?_
                  refine lv_iconst (v := iI 0) X.1 X.2.1 d_Ag_judgeReply_157 (by decide) ?_
                  refine lv_bipush (v := iI 6) X.1 X.2.1 d_Ag_judgeReply_158 (by decide) ?_
                  refine t_ui (t_runV (As := [.int (iI 0), .int (iI 6)]) (rest := [.int (iI 0), .ref b2, .ref b2]) (n := 2) X Y S k34 hml hl.1 (c_By_field l D E T κ31 L31 f31 H.size b2 6144 k34 (by omega) 0 (by omega) (by omega) 6 (by omega) (by omega) S.1) (ok_k X Y hA KS KR) rfl kl_Ag_By_field ks_By_field kx_By_field ki_By_field ini_By ⟨rfl, rfl⟩ hd_By_field ⟨Nat.le_of_ble_eq_true rfl, Nat.le_of_ble_eq_true rfl⟩ rfl (Nat.le_of_ble_eq_true rfl) d_Ag_judgeReply_160 ⟨Nat.le_of_ble_eq_true rfl, Nat.le_of_ble_eq_true rfl⟩) X Y hA (fun z36 H locs Y p36 => ?_)
                  obtain ⟨l36, u36⟩ := p36
                  have J38 : ∀ (z37 : Int) (H : Heap) (locs : List Loc) (ls : Array Slot), (5 ≤ z37) → (z37 ≤ 6) → pH D cCl (pA L sz) s.heap L31 f31 H locs → tS E T (tFr κ L [1, 2, 3, 4, 5, 6, 7, 8, 9, 10, 11, 12, 13, 14, 15, 16, 17, 18, 19, 20, 21] []) κ L f κ31 L31 f31 → lv_has ls 7 [(0, .ref h), (1, .ref a1), (2, .ref b2), (3, .int (iI z3)), (4, .ref b31)] → W p l e (kRm 6 154 3 4035) s m AV below meth c H locs 1 32 QQ (F0 m 172 ls [.int (iI z37), .int (iI 0), .ref b2, .ref b2]) := by
                    intro z37 H locs ls l37 u37 Y S hl
                    refine t_ui (t_runV (As := [.int (iI 0), .int (iI z37)]) (rest := [.ref b2]) (n := 2) X Y S k34 hml hl.1 (c_By_field l D E T κ31 L31 f31 H.size b2 6144 k34 (by omega) 0 (by omega) (by omega) z37 (by omega) (by omega) S.1) (ok_k X Y hA KS KR) rfl kl_Ag_By_field ks_By_field kx_By_field ki_By_field ini_By ⟨rfl, rfl⟩ hd_By_field ⟨Nat.le_of_ble_eq_true rfl, Nat.le_of_ble_eq_true rfl⟩ rfl (Nat.le_of_ble_eq_true rfl) d_Ag_judgeReply_172 ⟨Nat.le_of_ble_eq_true rfl, Nat.le_of_ble_eq_true rfl⟩) X Y hA (fun z42 H locs Y p42 => ?_)
                    obtain ⟨l42, u42⟩ := p42
                    refine t_ui (t_runV (As := [.int (iI z42)]) (rest := []) (n := 1) X Y S k34 hml hl.1 (c_By_timeAt l D E T κ31 L31 f31 H.size b2 6144 k34 (by omega) z42 (by omega) (by omega) S.1) (ok_k X Y hA KS KR) rfl kl_Ag_By_timeAt ks_By_timeAt kx_By_timeAt ki_By_timeAt ini_By ⟨rfl, rfl⟩ hd_By_timeAt ⟨Nat.le_of_ble_eq_true rfl, Nat.le_of_ble_eq_true rfl⟩ rfl (Nat.le_of_ble_eq_true rfl) d_Ag_judgeReply_175 ⟨Nat.le_of_ble_eq_true rfl, Nat.le_of_ble_eq_true rfl⟩) X Y hA (fun z43 H locs Y p43 => ?_)
                    obtain ⟨l43, u43⟩ := p43
                    refine lv_istore (lv' := [(5, .int (iI z43)), (0, .ref h), (1, .ref a1), (2, .ref b2), (3, .int (iI z3)), (4, .ref b31)]) X.1 X.2.1 d_Ag_judgeReply_178 hl (by decide) rfl (fun ls hl => ?_)
                    refine lv_aload_n X.1 X.2.1 d_Ag_judgeReply_180 rfl (lv_at hl 1 rfl) ?_
                    refine t_geti (ci := 2) X Y S k32 rfl i_Ag 10 (by decide) rfl lk_Ag_114 (fun _ h9 => h9) d_Ag_judgeReply_181 (fun z44 e44 l44 u44 => ?_)
                    have J45 : ∀  (H : Heap) (locs : List Loc) (ls : Array Slot), pH D cCl (pA L sz) s.heap L31 f31 H locs → tS E T (tFr κ L [1, 2, 3, 4, 5, 6, 7, 8, 9, 10, 11, 12, 13, 14, 15, 16, 17, 18, 19, 20, 21] []) κ L f κ31 L31 f31 → lv_has ls 7 [(0, .ref h), (1, .ref a1), (2, .ref b2), (3, .int (iI z3)), (4, .ref b31)] → W p l e (kRm 6 154 3 4035) s m AV below meth c H locs 1 32 QQ (F0 m 206 ls []) := by
                      intro  H locs ls  Y S hl
                      refine lv_aload_n X.1 X.2.1 d_Ag_judgeReply_206 rfl (lv_at hl 0 rfl) ?_
                      refine t_ui (t_runV (As := []) (rest := []) (n := 0) X Y S k32 hml hl.1 (c_Ag_freePlace l D E T κ31 L31 f31 H.size h k32 S.1) (ok_k X Y hA KS KR) rfl kl_Ag_Ag_freePlace ks_Ag_freePlace kx_Ag_freePlace ki_Ag_freePlace ini_Ag ⟨rfl, rfl⟩ hd_Ag_freePlace ⟨Nat.le_of_ble_eq_true rfl, Nat.le_of_ble_eq_true rfl⟩ rfl (Nat.le_of_ble_eq_true rfl) d_Ag_judgeReply_207 ⟨Nat.le_of_ble_eq_true rfl, Nat.le_of_ble_eq_true rfl⟩) X Y hA (fun z49 H locs Y p49 => ?_)
                      obtain ⟨l49, u49⟩ := p49
                      refine lv_istore (lv' := [(6, .int (iI z49)), (0, .ref h), (1, .ref a1), (2, .ref b2), (3, .int (iI z3)), (4, .ref b31)]) X.1 X.2.1 d_Ag_judgeReply_210 hl (by decide) rfl (fun ls hl => ?_)
                      refine lv_iload X.1 X.2.1 d_Ag_judgeReply_212 (lv_at hl 0 rfl) ?_
                      refine z_if_lt (tgt := 261) X.1 X.2.1 d_Ag_judgeReply_214 (by decide) ⟨by omega, by omega⟩ (fun h50 => ?_) (fun h50 => ?_)
                      · refine lv_iload X.1 X.2.1 d_Ag_judgeReply_261 (lv_at hl 0 rfl) ?_
                        refine W.widen (k := 3) (n := 4035) (Nat.le_of_ble_eq_true rfl) (Nat.le_of_ble_eq_true rfl) ?_
                        exact c_reti hQQ X Y hr hlk ⟨κ31, S, z49, rfl, ⟨by omega, by omega⟩⟩ d_Ag_judgeReply_263
                      · refine lv_aload_n X.1 X.2.1 d_Ag_judgeReply_217 rfl (lv_at hl 1 rfl) ?_
                        refine t_getr (ci := 2) X Y S k32 rfl i_Ag 1 (by decide) rfl (k1 := 8) (k2 := 8) rfl rfl lk_Ag_48 (fun _ h9 => h9) d_Ag_judgeReply_218 (fun b51 e51 k51 => ?_)
                        refine lv_iload X.1 X.2.1 d_Ag_judgeReply_221 (lv_at hl 0 rfl) ?_
                        refine t_aald X Y S k51 (fun h9 => h9) (t0 := 5) rfl (by omega) (by omega) (by omega) d_Ag_judgeReply_223 (fun b52 e52 k52 => ?_)
                        refine lv_aload_n X.1 X.2.1 d_Ag_judgeReply_224 rfl (lv_at hl 2 rfl) ?_
                        refine lv_iload_n X.1 X.2.1 d_Ag_judgeReply_225 rfl (lv_at hl 4 rfl) ?_
                        refine t_av (t_runV (As := [.ref a1, .int (iI z3)]) (rest := []) (n := 2) X Y S k52 hml hl.1 (c_Ti_setRaw l D E T κ31 L31 f31 H.size b52 k52 a1 n1 k33 (by omega) z3 (by omega) (by omega) S.1) (ok_k X Y hA KS KR) rfl kl_Ag_Ti_setRaw ks_Ti_setRaw kx_Ti_setRaw ki_Ti_setRaw ini_Ti ⟨rfl, rfl⟩ hd_Ti_setRaw ⟨Nat.le_of_ble_eq_true rfl, Nat.le_of_ble_eq_true rfl⟩ rfl (Nat.le_of_ble_eq_true rfl) d_Ag_judgeReply_226 ⟨Nat.le_of_ble_eq_true rfl, Nat.le_of_ble_eq_true rfl⟩) X Y hA S (by decide) (fun κ53 L53 f53 H locs Y S s53 p53 => ?_)
                        have k54 : κ53 h = (12, 0) := tLe_k s53.2.2.1 k32
                        have k55 : κ53 a1 = (13, n1) := tLe_k s53.2.2.1 k33
                        have k56 : κ53 b2 = (13, 6144) := tLe_k s53.2.2.1 k34
                        have k57 : tKey T κ53 b31 n31 := tLe_key s53.2.2.1 k31
                        refine lv_aload_n X.1 X.2.1 d_Ag_judgeReply_229 rfl (lv_at hl 1 rfl) ?_
                        refine t_getr (ci := 2) X Y S k54 rfl i_Ag 1 (by decide) rfl (k1 := 8) (k2 := 8) rfl rfl lk_Ag_48 (fun _ h9 => h9) d_Ag_judgeReply_230 (fun b58 e58 k58 => ?_)
                        refine lv_iload X.1 X.2.1 d_Ag_judgeReply_233 (lv_at hl 0 rfl) ?_
                        refine t_aald X Y S k58 (fun h9 => h9) (t0 := 5) rfl (by omega) (by omega) (by omega) d_Ag_judgeReply_235 (fun b59 e59 k59 => ?_)
                        refine lv_aload_n X.1 X.2.1 d_Ag_judgeReply_236 rfl (lv_at hl 2 rfl) ?_
                        refine lv_aload_n X.1 X.2.1 d_Ag_judgeReply_237 rfl (lv_at hl 2 rfl) ?_
                        refine lv_iconst (v := iI 0) X.1 X.2.1 d_Ag_judgeReply_238 (by decide) ?_
                        refine lv_iconst (v := iI 4) X.1 X.2.1 d_Ag_judgeReply_239 (by decide) ?_
                        refine t_ui (t_runV (As := [.int (iI 0), .int (iI 4)]) (rest := [.ref a1, .ref b59]) (n := 2) X Y S k55 hml hl.1 (c_By_field l D E T κ53 L53 f53 H.size a1 n1 k55 (by omega) 0 (by omega) (by omega) 4 (by omega) (by omega) S.1) (ok_k X Y hA KS KR) rfl kl_Ag_By_field ks_By_field kx_By_field ki_By_field ini_By ⟨rfl, rfl⟩ hd_By_field ⟨Nat.le_of_ble_eq_true rfl, Nat.le_of_ble_eq_true rfl⟩ rfl (Nat.le_of_ble_eq_true rfl) d_Ag_judgeReply_240 ⟨Nat.le_of_ble_eq_true rfl, Nat.le_of_ble_eq_true rfl⟩) X Y hA (fun z60 H locs Y p60 => ?_)
                        obtain ⟨l60, u60⟩ := p60
                        refine t_nv (t_runV (As := [.ref a1, .int (iI z60)]) (rest := []) (n := 2) X Y S k59 hml hl.1 (c_Ti_setName l D E T κ53 L53 f53 H.size b59 k59 a1 n1 k55 (by omega) z60 (by omega) (by omega) S.1) (ok_k X Y hA KS KR) rfl kl_Ag_Ti_setName ks_Ti_setName kx_Ti_setName ki_Ti_setName ini_Ti ⟨rfl, rfl⟩ hd_Ti_setName ⟨Nat.le_of_ble_eq_true rfl, Nat.le_of_ble_eq_true rfl⟩ rfl (Nat.le_of_ble_eq_true rfl) d_Ag_judgeReply_243 ⟨Nat.le_of_ble_eq_true rfl, Nat.le_of_ble_eq_true rfl⟩) X Y hA S (by decide) (fun f61 H locs Y S s61 p61 => ?_)
                        refine lv_aload_n X.1 X.2.1 d_Ag_judgeReply_246 rfl (lv_at hl 1 rfl) ?_
                        refine t_get0 (ci := 2) X Y S k54 rfl i_Ag 1 (by decide) rfl lk_Ag_48 (fun _ h9 => h9) d_Ag_judgeReply_247 ((gF_same (s61.2.2.2 _ ⟨(t_obj S.1 k54).1, by rw [k54]; decide, by simp⟩).1 1).trans e58) ?_
                        refine lv_iload X.1 X.2.1 d_Ag_judgeReply_250 (lv_at hl 0 rfl) ?_
                        refine t_aald X Y S k58 (fun h9 => h9) (t0 := 5) rfl (by omega) (by omega) (by omega) d_Ag_judgeReply_252 (fun b62 e62 k62 => ?_)
                        refine lv_aload X.1 X.2.1 d_Ag_judgeReply_253 (lv_at hl 5 rfl) ?_
                        refine lv_aload_n X.1 X.2.1 d_Ag_judgeReply_255 rfl (lv_at hl 3 rfl) ?_
                        refine lv_iconst (v := iI 0) X.1 X.2.1 d_Ag_judgeReply_256 (by decide) ?_
                        refine lv_iconst (v := iI 4) X.1 X.2.1 d_Ag_judgeReply_257 (by decide) ?_
                        refine t_nv (t_runV (As := [.ref b31, .ref b2, .int (iI 0), .int (iI 4)]) (rest := []) (n := 4) X Y S k62 hml hl.1 (c_Ti_setTold l D E T κ53 L53 f61 H.size b62 k62 b31 n31 k57 (by omega) b2 6144 k56 (by omega) 0 (by omega) (by omega) 4 (by omega) (by omega) S.1) (ok_k X Y hA KS KR) rfl kl_Ag_Ti_setTold ks_Ti_setTold kx_Ti_setTold ki_Ti_setTold ini_Ti ⟨rfl, rfl⟩ hd_Ti_setTold ⟨Nat.le_of_ble_eq_true rfl, Nat.le_of_ble_eq_true rfl⟩ rfl (Nat.le_of_ble_eq_true rfl) d_Ag_judgeReply_258 ⟨Nat.le_of_ble_eq_true rfl, Nat.le_of_ble_eq_true rfl⟩) X Y hA S (by decide) (fun f63 H locs Y S s63 p63 => ?_)
                        refine lv_iload X.1 X.2.1 d_Ag_judgeReply_261 (lv_at hl 0 rfl) ?_
                        exact c_reti hQQ X Y hr hlk ⟨κ53, S, z49, rfl, ⟨by omega, by omega⟩⟩ d_Ag_judgeReply_263
                    refine z_if_ne (tgt := 206) X.1 X.2.1 d_Ag_judgeReply_184 (by decide) ⟨by omega, by omega⟩ (fun h64 => ?_) (fun h64 => ?_)
                    · exact J45  _ _ _  Y S (lv_sub hl [1, 2, 3, 4, 5] rfl)
                    · refine lv_iload X.1 X.2.1 d_Ag_judgeReply_187 (lv_at hl 0 rfl) ?_
                      refine lv_aload_n X.1 X.2.1 d_Ag_judgeReply_189 rfl (lv_at hl 1 rfl) ?_
                      refine t_ui (t_runV (As := []) (rest := [.int (iI z43)]) (n := 0) X Y S k32 hml hl.1 (c_Ag_time l D E T κ31 L31 f31 H.size h k32 S.1) (ok_k X Y hA KS KR) rfl kl_Ag_Ag_time ks_Ag_time kx_Ag_time ki_Ag_time ini_Ag ⟨rfl, rfl⟩ hd_Ag_time ⟨Nat.le_of_ble_eq_true rfl, Nat.le_of_ble_eq_true rfl⟩ rfl (Nat.le_of_ble_eq_true rfl) d_Ag_judgeReply_190 ⟨Nat.le_of_ble_eq_true rfl, Nat.le_of_ble_eq_true rfl⟩) X Y hA (fun z65 H locs Y p65 => ?_)
                      obtain ⟨l65, u65⟩ := p65
                      refine lv_isub X.1 X.2.1 d_Ag_judgeReply_193 ?_
                      refine t_u (fun z66 l66 u66 => ?_)
                      refine va_mabs X.1 X.2.1 (hml.trans hl.1.symm) X.2.2.2.1 (X.2.2.1 _ kl_Ag_mabs) (X.2.2.1 _ ks_mabs) (X.2.2.1 _ ini_Math) (X.2.2.1 _ ki_mabs) (Nat.le_of_ble_eq_true rfl) (Nat.le_of_ble_eq_true rfl) (Nat.le_of_ble_eq_true rfl) (Nat.le_of_ble_eq_true rfl) d_Ag_judgeReply_194 ?_
                      refine t_u (fun z67 l67 u67 => ?_)
                      refine lv_sipush (v := iI 300) X.1 X.2.1 d_Ag_judgeReply_197 (by decide) ?_
                      refine z_icmp_le (tgt := 206) X.1 X.2.1 d_Ag_judgeReply_200 (by decide) ⟨by omega, by omega⟩ ⟨by omega, by omega⟩ (fun h68 => ?_) (fun h68 => ?_)
                      · exact J45  _ _ _  Y S (lv_sub hl [1, 2, 3, 4, 5] rfl)
                      · refine lv_bipush (v := iI (-37)) X.1 X.2.1 d_Ag_judgeReply_203 (by decide) ?_
                        refine W.widen (k := 3) (n := 4035) (Nat.le_of_ble_eq_true rfl) (Nat.le_of_ble_eq_true rfl) ?_
                        exact c_reti hQQ X Y hr hlk ⟨κ31, S, (-37), rfl, ⟨by omega, by omega⟩⟩ d_Ag_judgeReply_205
                  refine z_if_lt (tgt := 171) X.1 X.2.1 d_Ag_judgeReply_163 (by decide) ⟨by omega, by omega⟩ (fun h69 => ?_) (fun h69 => ?_)
                  · refine lv_iconst (v := iI 5) X.1 X.2.1 d_Ag_judgeReply_171 (by decide) ?_
                    exact J38 5 _ _ _ (by omega) (by omega) Y S (lv_sub hl [3, 4, 2, 1, 0] rfl)
                  · refine lv_bipush (v := iI 6) X.1 X.2.1 d_Ag_judgeReply_166 (by decide) ?_
                    refine lv_goto (tgt := 172) X.1 X.2.1 d_Ag_judgeReply_168 (by decide) ?_
                    exact J38 6 _ _ _ (by omega) (by omega) Y S (lv_sub hl [3, 4, 2, 1, 0] rfl)
                · refine lv_bipush (v := iI (-14)) X.1 X.2.1 d_Ag_judgeReply_150 (by decide) ?_
                  refine W.widen (k := 3) (n := 4035) (Nat.le_of_ble_eq_true rfl) (Nat.le_of_ble_eq_true rfl) ?_
                  exact c_reti hQQ X Y hr hlk ⟨κ31, S, (-14), rfl, ⟨by omega, by omega⟩⟩ d_Ag_judgeReply_152
              · refine lv_bipush (v := iI (-41)) X.1 X.2.1 d_Ag_judgeReply_129 (by decide) ?_
                refine W.widen (k := 3) (n := 4035) (Nat.le_of_ble_eq_true rfl) (Nat.le_of_ble_eq_true rfl) ?_
                exact c_reti hQQ X Y hr hlk ⟨κ, S, (-41), rfl, ⟨by omega, by omega⟩⟩ d_Ag_judgeReply_131
  · refine lv_bipush (v := iI (-41)) X.1 X.2.1 d_Ag_judgeReply_34 (by decide) ?_
    refine W.widen (k := 3) (n := 4035) (Nat.le_of_ble_eq_true rfl) (Nat.le_of_ble_eq_true rfl) ?_
    exact c_reti hQQ X Y hr hlk ⟨κ, S, (-41), rfl, ⟨by omega, by omega⟩⟩ d_Ag_judgeReply_36
set_option maxHeartbeats 4000000 in
set_option maxRecDepth 100000 in
theorem c_Ag_hearReply (l : Launch) (D : va_G) (E : cE) (T : cT) (κ : tK) (L : List Nat) (f : pF) (sz : Nat) (h : Nat) (k0 : κ h = (12, 0)) (a1 n1 : Nat) (k1 : κ a1 = (13, n1)) (x1 : n1 ≤ 4000) (hw : tW E T κ L f) : Met l y_Ag_hearReply (k_Ag_hearReply :: lw_tg) (kRm 72 2392 3 4035) (va_Pc [.ref h, .ref a1] (kPre D E T L f sz)) (va_Qi (aPi E T [1, 2, 3, 4, 5, 6, 7, 8, 9, 10, 11, 12, 13, 14, 15, 16, 17, 18, 19, 20, 21] [] κ L f (fun (z : Int) (k : tK) (g : pF) => (-2147483648) ≤ z ∧ z ≤ 2147483647)) (cPost D E (pA L sz)) (pA L sz)) 3 4035 (pA L sz) := by
  refine k_enter (own := R_Ag) (by decide) rfl (Nat.le_of_ble_eq_true rfl) (fun p e s m below meth c ls AV QQ H locs hQQ X Y hA hin hr hlk hml hl KS KR => ?_)
  have hl : lv_has ls 6 [(0, .ref h), (1, .ref a1)] := hl
  have S : tS E T (tFr κ L [1, 2, 3, 4, 5, 6, 7, 8, 9, 10, 11, 12, 13, 14, 15, 16, 17, 18, 19, 20, 21] []) κ L f κ L f := tS_rf hw
  have hF0 : ∀ b, tFr κ L [1, 2, 3, 4, 5, 6, 7, 8, 9, 10, 11, 12, 13, 14, 15, 16, 17, 18, 19, 20, 21] [] b → b ∈ L := fun b h9 => h9.1
  refine lv_aload_n X.1 X.2.1 d_Ag_hearReply_0 rfl (lv_at hl 0 rfl) ?_
  refine t_geti (ci := 2) X Y S k0 rfl i_Ag 8 (by decide) rfl lk_Ag_75 (fun _ h9 => h9) d_Ag_hearReply_1 (fun z1 e1 l1 u1 => ?_)
  refine z_if_ge (tgt := 10) X.1 X.2.1 d_Ag_hearReply_4 (by decide) ⟨by omega, by omega⟩ (fun h2 => ?_) (fun h2 => ?_)
  · refine lv_aload_n X.1 X.2.1 d_Ag_hearReply_10 rfl (lv_at hl 0 rfl) ?_
    refine t_get0 (ci := 2) X Y S k0 rfl i_Ag 8 (by decide) rfl lk_Ag_75 (fun _ h9 => h9) d_Ag_hearReply_11 e1 ?_
    refine lv_istore_n (lv' := [(2, .int (iI z1)), (0, .ref h), (1, .ref a1)]) X.1 X.2.1 d_Ag_hearReply_14 rfl hl (by decide) rfl (fun ls hl => ?_)
    refine lv_aload_n X.1 X.2.1 d_Ag_hearReply_15 rfl (lv_at hl 1 rfl) ?_
    refine lv_iconst (v := iI (-1)) X.1 X.2.1 d_Ag_hearReply_16 (by decide) ?_
    refine t_put (ci := 2) X Y S k0 rfl i_Ag t_Ag t_Ag_ok n_Ag 8 (by decide) rfl lk_Ag_75 (fun _ h9 => h9) rfl (t_Ag_ok 8 (by decide)) rfl rfl ⟨_, rfl, by omega, by omega⟩ (fun h9 => h9.2.1 (by rw [← (S.2.2.2 _ h9).2, k0]; decide)) d_Ag_hearReply_17 (fun f3 H locs Y S w3 => ?_)
    refine lv_aload_n X.1 X.2.1 d_Ag_hearReply_20 rfl (lv_at hl 2 rfl) ?_
    refine lv_iconst (v := iI 0) X.1 X.2.1 d_Ag_hearReply_21 (by decide) ?_
    refine t_ui (t_runV (As := [.int (iI 0)]) (rest := []) (n := 1) X Y S k1 hml hl.1 (c_By_at l D E T κ L f3 H.size a1 n1 k1 (by omega) 0 (by omega) (by omega) S.1) (ok_k X Y hA KS KR) rfl kl_Ag_By_at ks_By_at kx_By_at ki_By_at ini_By ⟨rfl, rfl⟩ hd_By_at ⟨Nat.le_of_ble_eq_true rfl, Nat.le_of_ble_eq_true rfl⟩ rfl (Nat.le_of_ble_eq_true rfl) d_Ag_hearReply_22 ⟨Nat.le_of_ble_eq_true rfl, Nat.le_of_ble_eq_true rfl⟩) X Y hA (fun z4 H locs Y p4 => ?_)
    obtain ⟨l4, u4⟩ := p4
    refine lv_istore_n (lv' := [(3, .int (iI z4)), (2, .int (iI z1)), (0, .ref h), (1, .ref a1)]) X.1 X.2.1 d_Ag_hearReply_25 rfl hl (by decide) rfl (fun ls hl => ?_)
    refine lv_iload_n X.1 X.2.1 d_Ag_hearReply_26 rfl (lv_at hl 0 rfl) ?_
    refine lv_bipush (v := iI 107) X.1 X.2.1 d_Ag_hearReply_27 (by decide) ?_
    have J5 : ∀  (H : Heap) (locs : List Loc) (ls : Array Slot), pH D cCl (pA L sz) s.heap L f3 H locs → tS E T (tFr κ L [1, 2, 3, 4, 5, 6, 7, 8, 9, 10, 11, 12, 13, 14, 15, 16, 17, 18, 19, 20, 21] []) κ L f κ L f3 → lv_has ls 6 [(0, .ref h), (1, .ref a1), (2, .int (iI z1)), (3, .int (iI z4))] → W p l e (kRm 72 2392 3 4035) s m AV below meth c H locs 0 0 QQ (F0 m 44 ls []) := by
      intro  H locs ls  Y S hl
      refine lv_aload_n X.1 X.2.1 d_Ag_hearReply_44 rfl (lv_at hl 1 rfl) ?_
      refine lv_sipush (v := iI 256) X.1 X.2.1 d_Ag_hearReply_45 (by decide) ?_
      refine lv_iload_n X.1 X.2.1 d_Ag_hearReply_48 rfl (lv_at hl 3 rfl) ?_
      refine z_iadd X.1 X.2.1 d_Ag_hearReply_49 ?_
      refine lv_iconst (v := iI 0) X.1 X.2.1 d_Ag_hearReply_50 (by decide) ?_
      refine lv_aload_n X.1 X.2.1 d_Ag_hearReply_51 rfl (lv_at hl 1 rfl) ?_
      refine t_gets (ci := 3) X Y S k1 rfl i_By 1 (by decide) rfl lk_Ag_211 (fun _ h9 => h9) d_Ag_hearReply_52 (fun z9 e9 l9 u9 => ?_)
      refine t_ui (t_runV (As := [.int (iI (256 + z4)), .int (iI 0), .int (iI z9)]) (rest := []) (n := 3) X Y S k1 hml hl.1 (c_By_isA l D E T κ L f3 H.size a1 n1 k1 (by omega) (256 + z4) (by omega) (by omega) 0 (by omega) (by omega) z9 (by omega) (by omega) S.1) (ok_k X Y hA KS KR) rfl kl_Ag_By_isA ks_By_isA kx_By_isA ki_By_isA ini_By ⟨rfl, rfl⟩ hd_By_isA ⟨Nat.le_of_ble_eq_true rfl, Nat.le_of_ble_eq_true rfl⟩ rfl (Nat.le_of_ble_eq_true rfl) d_Ag_hearReply_55 ⟨Nat.le_of_ble_eq_true rfl, Nat.le_of_ble_eq_true rfl⟩) X Y hA (fun z10 H locs Y p10 => ?_)
      obtain ⟨l10, u10⟩ := p10
      refine z_if_ne (tgt := 64) X.1 X.2.1 d_Ag_hearReply_58 (by decide) ⟨by omega, by omega⟩ (fun h11 => ?_) (fun h11 => ?_)
      · refine lv_iload_n X.1 X.2.1 d_Ag_hearReply_64 rfl (lv_at hl 3 rfl) ?_
        refine lv_bipush (v := iI 126) X.1 X.2.1 d_Ag_hearReply_65 (by decide) ?_
        refine z_icmp_ne (tgt := 109) X.1 X.2.1 d_Ag_hearReply_67 (by decide) ⟨by omega, by omega⟩ ⟨by omega, by omega⟩ (fun h12 => ?_) (fun h12 => ?_)
        · refine lv_iload_n X.1 X.2.1 d_Ag_hearReply_109 rfl (lv_at hl 3 rfl) ?_
          refine lv_iload_n X.1 X.2.1 d_Ag_hearReply_110 rfl (lv_at hl 2 rfl) ?_
          refine lv_iconst (v := iI 2) X.1 X.2.1 d_Ag_hearReply_111 (by decide) ?_
          have J14 : ∀ (z13 : Int) (H : Heap) (locs : List Loc) (ls : Array Slot), (107 ≤ z13) → (z13 ≤ 109) → pH D cCl (pA L sz) s.heap L f3 H locs → tS E T (tFr κ L [1, 2, 3, 4, 5, 6, 7, 8, 9, 10, 11, 12, 13, 14, 15, 16, 17, 18, 19, 20, 21] []) κ L f κ L f3 → lv_has ls 6 [(0, .ref h), (1, .ref a1), (2, .int (iI z1))] → W p l e (kRm 72 2392 3 4035) s m AV below meth c H locs 0 0 QQ (F0 m 122 ls [.int (iI z13), .int (iI z4)]) := by
            intro z13 H locs ls l13 u13 Y S hl
            refine z_icmp_eq (tgt := 128) X.1 X.2.1 d_Ag_hearReply_122 (by decide) ⟨by omega, by omega⟩ ⟨by omega, by omega⟩ (fun h18 => ?_) (fun h18 => ?_)
            · refine lv_aload_n X.1 X.2.1 d_Ag_hearReply_128 rfl (lv_at hl 0 rfl) ?_
              refine lv_iload_n X.1 X.2.1 d_Ag_hearReply_129 rfl (lv_at hl 2 rfl) ?_
              refine lv_aload_n X.1 X.2.1 d_Ag_hearReply_130 rfl (lv_at hl 1 rfl) ?_
              refine t_ni (t_runV (As := [.int (iI z1), .ref a1]) (rest := []) (n := 2) X Y S k0 hml hl.1 (c_Ag_openReply l D E T κ L f3 H.size h k0 z1 (by omega) (by omega) a1 n1 k1 (by omega) S.1) (ok_k X Y hA KS KR) rfl kl_Ag_Ag_openReply ks_Ag_openReply kx_Ag_openReply ki_Ag_openReply ini_Ag ⟨rfl, rfl⟩ hd_Ag_openReply ⟨Nat.le_of_ble_eq_true rfl, Nat.le_of_ble_eq_true rfl⟩ rfl (Nat.le_of_ble_eq_true rfl) d_Ag_hearReply_131 ⟨Nat.le_of_ble_eq_true rfl, Nat.le_of_ble_eq_true rfl⟩) X Y hA S (by decide) (fun z19 f19 H locs Y S s19 p19 => ?_)
              obtain ⟨l19, u19⟩ := p19
              refine lv_istore (lv' := [(4, .int (iI z19)), (0, .ref h), (1, .ref a1), (2, .int (iI z1))]) X.1 X.2.1 d_Ag_hearReply_134 hl (by decide) rfl (fun ls hl => ?_)
              refine lv_iload X.1 X.2.1 d_Ag_hearReply_136 (lv_at hl 0 rfl) ?_
              refine z_if_ge (tgt := 146) X.1 X.2.1 d_Ag_hearReply_138 (by decide) ⟨by omega, by omega⟩ (fun h20 => ?_) (fun h20 => ?_)
              · refine lv_aload_n X.1 X.2.1 d_Ag_hearReply_146 rfl (lv_at hl 1 rfl) ?_
                refine lv_aload_n X.1 X.2.1 d_Ag_hearReply_147 rfl (lv_at hl 2 rfl) ?_
                refine t_ai (t_runV (As := [.ref a1]) (rest := []) (n := 1) X Y S k0 hml hl.1 (c_Ag_judgeReply l D E T κ L f19 H.size h k0 a1 n1 k1 (by omega) S.1) (ok_k X Y hA KS KR) rfl kl_Ag_Ag_judgeReply ks_Ag_judgeReply kx_Ag_judgeReply ki_Ag_judgeReply ini_Ag ⟨rfl, rfl⟩ hd_Ag_judgeReply ⟨Nat.le_of_ble_eq_true rfl, Nat.le_of_ble_eq_true rfl⟩ rfl (Nat.le_of_ble_eq_true rfl) d_Ag_hearReply_148 ⟨Nat.le_of_ble_eq_true rfl, Nat.le_of_ble_eq_true rfl⟩) X Y hA S (by decide) (fun z21 κ21 L21 f21 H locs Y S s21 p21 => ?_)
                obtain ⟨l21, u21⟩ := p21
                have k22 : κ21 h = (12, 0) := tLe_k s21.2.2.1 k0
                have k23 : κ21 a1 = (13, n1) := tLe_k s21.2.2.1 k1
                exact c_reti hQQ X Y hr hlk ⟨κ21, S, z21, rfl, ⟨by omega, by omega⟩⟩ d_Ag_hearReply_151
              · refine lv_iload X.1 X.2.1 d_Ag_hearReply_141 (lv_at hl 0 rfl) ?_
                refine lv_goto (tgt := 151) X.1 X.2.1 d_Ag_hearReply_143 (by decide) ?_
                refine W.widen (k := 3) (n := 4035) (Nat.le_of_ble_eq_true rfl) (Nat.le_of_ble_eq_true rfl) ?_
                exact c_reti hQQ X Y hr hlk ⟨κ, S, z19, rfl, ⟨by omega, by omega⟩⟩ d_Ag_hearReply_151
            · refine lv_bipush (v := iI (-40)) X.1 X.2.1 d_Ag_hearReply_125 (by decide) ?_
              refine W.widen (k := 3) (n := 4035) (Nat.le_of_ble_eq_true rfl) (Nat.le_of_ble_eq_true rfl) ?_
              exact c_reti hQQ X Y hr hlk ⟨κ, S, (-40), rfl, ⟨by omega, by omega⟩⟩ d_Ag_hearReply_127
          refine z_icmp_ne (tgt := 120) X.1 X.2.1 d_Ag_hearReply_112 (by decide) ⟨by omega, by omega⟩ ⟨by omega, by omega⟩ (fun h24 => ?_) (fun h24 => ?_)
          · refine lv_bipush (v := iI 107) X.1 X.2.1 d_Ag_hearReply_120 (by decide) ?_
            exact J14 107 _ _ _ (by omega) (by omega) Y S (lv_sub hl [0, 1, 2] rfl)
          · refine lv_bipush (v := iI 109) X.1 X.2.1 d_Ag_hearReply_115 (by decide) ?_
            refine lv_goto (tgt := 122) X.1 X.2.1 d_Ag_hearReply_117 (by decide) ?_
            exact J14 109 _ _ _ (by omega) (by omega) Y S (lv_sub hl [0, 1, 2] rfl)
        · refine lv_aload_n X.1 X.2.1 d_Ag_hearReply_70 rfl (lv_at hl 1 rfl) ?_
          refine lv_aload_n X.1 X.2.1 d_Ag_hearReply_71 rfl (lv_at hl 1 rfl) ?_
          refine lv_iconst (v := iI 0) X.1 X.2.1 d_Ag_hearReply_72 (by decide) ?_
          refine lv_bipush (v := iI 6) X.1 X.2.1 d_Ag_hearReply_73 (by decide) ?_
          refine t_ui (t_runV (As := [.int (iI 0), .int (iI 6)]) (rest := [.ref a1]) (n := 2) X Y S k1 hml hl.1 (c_By_field l D E T κ L f3 H.size a1 n1 k1 (by omega) 0 (by omega) (by omega) 6 (by omega) (by omega) S.1) (ok_k X Y hA KS KR) rfl kl_Ag_By_field ks_By_field kx_By_field ki_By_field ini_By ⟨rfl, rfl⟩ hd_By_field ⟨Nat.le_of_ble_eq_true rfl, Nat.le_of_ble_eq_true rfl⟩ rfl (Nat.le_of_ble_eq_true rfl) d_Ag_hearReply_75 ⟨Nat.le_of_ble_eq_true rfl, Nat.le_of_ble_eq_true rfl⟩) X Y hA (fun z25 H locs Y p25 => ?_)
          obtain ⟨l25, u25⟩ := p25
          refine t_ul (t_runV (As := [.int (iI z25)]) (rest := []) (n := 1) X Y S k1 hml hl.1 (c_By_numberAt l D E T κ L f3 H.size a1 n1 k1 (by omega) z25 (by omega) (by omega) S.1) (ok_k X Y hA KS KR) rfl kl_Ag_By_numberAt ks_By_numberAt kx_By_numberAt ki_By_numberAt ini_By ⟨rfl, rfl⟩ hd_By_numberAt ⟨Nat.le_of_ble_eq_true rfl, Nat.le_of_ble_eq_true rfl⟩ rfl (Nat.le_of_ble_eq_true rfl) d_Ag_hearReply_78 ⟨Nat.le_of_ble_eq_true rfl, Nat.le_of_ble_eq_true rfl⟩) X Y hA (fun v26 H locs Y p26 => ?_)
          refine lv_lstore (lv' := [(4, .long v26), (0, .ref h), (1, .ref a1), (2, .int (iI z1)), (3, .int (iI z4))]) X.1 X.2.1 d_Ag_hearReply_81 hl (by decide) rfl (fun ls hl => ?_)
          refine lv_lload X.1 X.2.1 d_Ag_hearReply_83 (lv_at hl 0 rfl) ?_
          refine lv_lconst (v := 1) X.1 X.2.1 d_Ag_hearReply_85 rfl ?_
          refine W.lcmp X.1 X.2.1 d_Ag_hearReply_86 ?_
          refine t_u (fun z27 l27 u27 => ?_)
          refine z_if_lt (tgt := 99) X.1 X.2.1 d_Ag_hearReply_87 (by decide) ⟨by omega, by omega⟩ (fun h28 => ?_) (fun h28 => ?_)
          · refine lv_bipush (v := iI (-60)) X.1 X.2.1 d_Ag_hearReply_99 (by decide) ?_
            refine lv_goto (tgt := 108) X.1 X.2.1 d_Ag_hearReply_101 (by decide) ?_
            refine W.widen (k := 3) (n := 4035) (Nat.le_of_ble_eq_true rfl) (Nat.le_of_ble_eq_true rfl) ?_
            exact c_reti hQQ X Y hr hlk ⟨κ, S, (-60), rfl, ⟨by omega, by omega⟩⟩ d_Ag_hearReply_108
          · refine lv_lload X.1 X.2.1 d_Ag_hearReply_90 (lv_at hl 0 rfl) ?_
            refine lv_ldc2 (v := (1000)) X.1 X.2.1 X.2.2.2.1 (X.2.2.1 _ cl_Ag_253) d_Ag_hearReply_92 ?_
            refine W.lcmp X.1 X.2.1 d_Ag_hearReply_95 ?_
            refine t_u (fun z29 l29 u29 => ?_)
            refine z_if_le (tgt := 104) X.1 X.2.1 d_Ag_hearReply_96 (by decide) ⟨by omega, by omega⟩ (fun h30 => ?_) (fun h30 => ?_)
            · refine lv_lload X.1 X.2.1 d_Ag_hearReply_104 (lv_at hl 0 rfl) ?_
              refine lv_lneg X.1 X.2.1 d_Ag_hearReply_106 ?_
              refine t_anyl (fun v31 => ?_)
              refine lv_l2i X.1 X.2.1 d_Ag_hearReply_107 rfl ?_
              refine t_u (fun z32 l32 u32 => ?_)
              refine W.widen (k := 3) (n := 4035) (Nat.le_of_ble_eq_true rfl) (Nat.le_of_ble_eq_true rfl) ?_
              exact c_reti hQQ X Y hr hlk ⟨κ, S, z32, rfl, ⟨by omega, by omega⟩⟩ d_Ag_hearReply_108
            · refine lv_bipush (v := iI (-60)) X.1 X.2.1 d_Ag_hearReply_99 (by decide) ?_
              refine lv_goto (tgt := 108) X.1 X.2.1 d_Ag_hearReply_101 (by decide) ?_
              refine W.widen (k := 3) (n := 4035) (Nat.le_of_ble_eq_true rfl) (Nat.le_of_ble_eq_true rfl) ?_
              exact c_reti hQQ X Y hr hlk ⟨κ, S, (-60), rfl, ⟨by omega, by omega⟩⟩ d_Ag_hearReply_108
      · refine lv_bipush (v := iI (-60)) X.1 X.2.1 d_Ag_hearReply_61 (by decide) ?_
        refine W.widen (k := 3) (n := 4035) (Nat.le_of_ble_eq_true rfl) (Nat.le_of_ble_eq_true rfl) ?_
        exact c_reti hQQ X Y hr hlk ⟨κ, S, (-60), rfl, ⟨by omega, by omega⟩⟩ d_Ag_hearReply_63
    refine z_icmp_eq (tgt := 44) X.1 X.2.1 d_Ag_hearReply_29 (by decide) ⟨by omega, by omega⟩ ⟨by omega, by omega⟩ (fun h33 => ?_) (fun h33 => ?_)
    · exact J5  _ _ _  Y S (lv_sub hl [2, 3, 1, 0] rfl)
    · refine lv_iload_n X.1 X.2.1 d_Ag_hearReply_32 rfl (lv_at hl 0 rfl) ?_
      refine lv_bipush (v := iI 109) X.1 X.2.1 d_Ag_hearReply_33 (by decide) ?_
      refine z_icmp_eq (tgt := 44) X.1 X.2.1 d_Ag_hearReply_35 (by decide) ⟨by omega, by omega⟩ ⟨by omega, by omega⟩ (fun h34 => ?_) (fun h34 => ?_)
      · exact J5  _ _ _  Y S (lv_sub hl [2, 3, 1, 0] rfl)
      · refine lv_iload_n X.1 X.2.1 d_Ag_hearReply_38 rfl (lv_at hl 0 rfl) ?_
        refine lv_bipush (v := iI 126) X.1 X.2.1 d_Ag_hearReply_39 (by decide) ?_
        refine z_icmp_ne (tgt := 61) X.1 X.2.1 d_Ag_hearReply_41 (by decide) ⟨by omega, by omega⟩ ⟨by omega, by omega⟩ (fun h35 => ?_) (fun h35 => ?_)
        · refine lv_bipush (v := iI (-60)) X.1 X.2.1 d_Ag_hearReply_61 (by decide) ?_
          refine W.widen (k := 3) (n := 4035) (Nat.le_of_ble_eq_true rfl) (Nat.le_of_ble_eq_true rfl) ?_
          exact c_reti hQQ X Y hr hlk ⟨κ, S, (-60), rfl, ⟨by omega, by omega⟩⟩ d_Ag_hearReply_63
        · exact J5  _ _ _  Y S (lv_sub hl [2, 3, 1, 0] rfl)
  · refine lv_bipush (v := iI (-3)) X.1 X.2.1 d_Ag_hearReply_7 (by decide) ?_
    refine W.widen (k := 3) (n := 4035) (Nat.le_of_ble_eq_true rfl) (Nat.le_of_ble_eq_true rfl) ?_
    exact c_reti hQQ X Y hr hlk ⟨κ, S, (-3), rfl, ⟨by omega, by omega⟩⟩ d_Ag_hearReply_9
set_option maxHeartbeats 4000000 in
set_option maxRecDepth 100000 in
theorem c_Ag_hearService (l : Launch) (D : va_G) (E : cE) (T : cT) (κ : tK) (L : List Nat) (f : pF) (sz : Nat) (h : Nat) (k0 : κ h = (12, 0)) (a1 n1 : Nat) (k1 : κ a1 = (13, n1)) (x1 : n1 ≤ 12288) (hw : tW E T κ L f) : Met l y_Ag_hearService (k_Ag_hearService :: lw_tg) (kRm 71 2363 0 0) (va_Pc [.ref h, .ref a1] (kPre D E T L f sz)) (va_Qi (nPi E T [1, 2, 3, 4, 11, 12, 13, 16] κ L f (fun (z : Int) (g : pF) => (-2147483648) ≤ z ∧ z ≤ 2147483647)) (cPost D E (pA L sz)) (pA L sz)) 0 0 (pA L sz) := by
  refine k_enter (own := R_Ag) (by decide) rfl (Nat.le_of_ble_eq_true rfl) (fun p e s m below meth c ls AV QQ H locs hQQ X Y hA hin hr hlk hml hl KS KR => ?_)
  have hl : lv_has ls 3 [(0, .ref h), (1, .ref a1)] := hl
  have S : tS E T (tFr κ L [1, 2, 3, 4, 11, 12, 13, 16] []) κ L f κ L f := tS_rf hw
  refine lv_aload_n X.1 X.2.1 d_Ag_hearService_0 rfl (lv_at hl 0 rfl) ?_
  refine t_geti (ci := 2) X Y S k0 rfl i_Ag 20 (by decide) rfl lk_Ag_87 (fun _ h9 => h9) d_Ag_hearService_1 (fun z1 e1 l1 u1 => ?_)
  refine z_if_ne (tgt := 10) X.1 X.2.1 d_Ag_hearService_4 (by decide) ⟨by omega, by omega⟩ (fun h2 => ?_) (fun h2 => ?_)
  · refine lv_aload_n X.1 X.2.1 d_Ag_hearService_10 rfl (lv_at hl 0 rfl) ?_
    refine lv_iconst (v := iI 0) X.1 X.2.1 d_Ag_hearService_11 (by decide) ?_
    refine t_put (ci := 2) X Y S k0 rfl i_Ag t_Ag t_Ag_ok n_Ag 20 (by decide) rfl lk_Ag_87 (fun _ h9 => h9) rfl (t_Ag_ok 20 (by decide)) (iI_bool (by omega) (by omega)).1 (iI_bool (by omega) (by omega)).2 ⟨_, rfl, by omega, by omega⟩ (fun h9 => h9.2.1 (by rw [← (S.2.2.2 _ h9).2, k0]; decide)) d_Ag_hearService_12 (fun f3 H locs Y S w3 => ?_)
    refine lv_aload_n X.1 X.2.1 d_Ag_hearService_15 rfl (lv_at hl 1 rfl) ?_
    refine lv_sipush (v := iI 367) X.1 X.2.1 d_Ag_hearService_16 (by decide) ?_
    refine lv_iconst (v := iI 0) X.1 X.2.1 d_Ag_hearService_19 (by decide) ?_
    refine lv_aload_n X.1 X.2.1 d_Ag_hearService_20 rfl (lv_at hl 1 rfl) ?_
    refine t_gets (ci := 3) X Y S k1 rfl i_By 1 (by decide) rfl lk_Ag_211 (fun _ h9 => h9) d_Ag_hearService_21 (fun z4 e4 l4 u4 => ?_)
    refine t_ui (t_runV (As := [.int (iI 367), .int (iI 0), .int (iI z4)]) (rest := []) (n := 3) X Y S k1 hml hl.1 (c_By_isA l D E T κ L f3 H.size a1 n1 k1 (by omega) 367 (by omega) (by omega) 0 (by omega) (by omega) z4 (by omega) (by omega) S.1) (ok_k X Y hA KS KR) rfl kl_Ag_By_isA ks_By_isA kx_By_isA ki_By_isA ini_By ⟨rfl, rfl⟩ hd_By_isA ⟨Nat.le_of_ble_eq_true rfl, Nat.le_of_ble_eq_true rfl⟩ rfl (Nat.le_of_ble_eq_true rfl) d_Ag_hearService_24 ⟨Nat.le_of_ble_eq_true rfl, Nat.le_of_ble_eq_true rfl⟩) X Y hA (fun z5 H locs Y p5 => ?_)
    obtain ⟨l5, u5⟩ := p5
    refine z_if_ne (tgt := 33) X.1 X.2.1 d_Ag_hearService_27 (by decide) ⟨by omega, by omega⟩ (fun h6 => ?_) (fun h6 => ?_)
    · refine lv_aload_n X.1 X.2.1 d_Ag_hearService_33 rfl (lv_at hl 1 rfl) ?_
      refine lv_aload_n X.1 X.2.1 d_Ag_hearService_34 rfl (lv_at hl 1 rfl) ?_
      refine lv_iconst (v := iI 0) X.1 X.2.1 d_Ag_hearService_35 (by decide) ?_
      refine lv_iconst (v := iI 0) X.1 X.2.1 d_Ag_hearService_36 (by decide) ?_
      refine t_ui (t_runV (As := [.int (iI 0), .int (iI 0)]) (rest := [.ref a1]) (n := 2) X Y S k1 hml hl.1 (c_By_field l D E T κ L f3 H.size a1 n1 k1 (by omega) 0 (by omega) (by omega) 0 (by omega) (by omega) S.1) (ok_k X Y hA KS KR) rfl kl_Ag_By_field ks_By_field kx_By_field ki_By_field ini_By ⟨rfl, rfl⟩ hd_By_field ⟨Nat.le_of_ble_eq_true rfl, Nat.le_of_ble_eq_true rfl⟩ rfl (Nat.le_of_ble_eq_true rfl) d_Ag_hearService_37 ⟨Nat.le_of_ble_eq_true rfl, Nat.le_of_ble_eq_true rfl⟩) X Y hA (fun z7 H locs Y p7 => ?_)
      obtain ⟨l7, u7⟩ := p7
      refine t_ul (t_runV (As := [.int (iI z7)]) (rest := []) (n := 1) X Y S k1 hml hl.1 (c_By_numberAt l D E T κ L f3 H.size a1 n1 k1 (by omega) z7 (by omega) (by omega) S.1) (ok_k X Y hA KS KR) rfl kl_Ag_By_numberAt ks_By_numberAt kx_By_numberAt ki_By_numberAt ini_By ⟨rfl, rfl⟩ hd_By_numberAt ⟨Nat.le_of_ble_eq_true rfl, Nat.le_of_ble_eq_true rfl⟩ rfl (Nat.le_of_ble_eq_true rfl) d_Ag_hearService_40 ⟨Nat.le_of_ble_eq_true rfl, Nat.le_of_ble_eq_true rfl⟩) X Y hA (fun v8 H locs Y p8 => ?_)
      refine lv_ldc2 (v := (5)) X.1 X.2.1 X.2.2.2.1 (X.2.2.1 _ cl_Ag_179) d_Ag_hearService_43 ?_
      refine W.lcmp X.1 X.2.1 d_Ag_hearService_46 ?_
      refine t_u (fun z9 l9 u9 => ?_)
      refine z_if_eq (tgt := 53) X.1 X.2.1 d_Ag_hearService_47 (by decide) ⟨by omega, by omega⟩ (fun h10 => ?_) (fun h10 => ?_)
      · refine lv_aload_n X.1 X.2.1 d_Ag_hearService_53 rfl (lv_at hl 1 rfl) ?_
        refine lv_aload_n X.1 X.2.1 d_Ag_hearService_54 rfl (lv_at hl 1 rfl) ?_
        refine lv_iconst (v := iI 0) X.1 X.2.1 d_Ag_hearService_55 (by decide) ?_
        refine lv_iconst (v := iI 1) X.1 X.2.1 d_Ag_hearService_56 (by decide) ?_
        refine t_ui (t_runV (As := [.int (iI 0), .int (iI 1)]) (rest := [.ref a1]) (n := 2) X Y S k1 hml hl.1 (c_By_field l D E T κ L f3 H.size a1 n1 k1 (by omega) 0 (by omega) (by omega) 1 (by omega) (by omega) S.1) (ok_k X Y hA KS KR) rfl kl_Ag_By_field ks_By_field kx_By_field ki_By_field ini_By ⟨rfl, rfl⟩ hd_By_field ⟨Nat.le_of_ble_eq_true rfl, Nat.le_of_ble_eq_true rfl⟩ rfl (Nat.le_of_ble_eq_true rfl) d_Ag_hearService_57 ⟨Nat.le_of_ble_eq_true rfl, Nat.le_of_ble_eq_true rfl⟩) X Y hA (fun z11 H locs Y p11 => ?_)
        obtain ⟨l11, u11⟩ := p11
        refine t_ul (t_runV (As := [.int (iI z11)]) (rest := []) (n := 1) X Y S k1 hml hl.1 (c_By_numberAt l D E T κ L f3 H.size a1 n1 k1 (by omega) z11 (by omega) (by omega) S.1) (ok_k X Y hA KS KR) rfl kl_Ag_By_numberAt ks_By_numberAt kx_By_numberAt ki_By_numberAt ini_By ⟨rfl, rfl⟩ hd_By_numberAt ⟨Nat.le_of_ble_eq_true rfl, Nat.le_of_ble_eq_true rfl⟩ rfl (Nat.le_of_ble_eq_true rfl) d_Ag_hearService_60 ⟨Nat.le_of_ble_eq_true rfl, Nat.le_of_ble_eq_true rfl⟩) X Y hA (fun v12 H locs Y p12 => ?_)
        refine lv_ldc2 (v := (15)) X.1 X.2.1 X.2.2.2.1 (X.2.2.1 _ cl_Ag_302) d_Ag_hearService_63 ?_
        refine W.lcmp X.1 X.2.1 d_Ag_hearService_66 ?_
        refine t_u (fun z13 l13 u13 => ?_)
        refine z_if_eq (tgt := 73) X.1 X.2.1 d_Ag_hearService_67 (by decide) ⟨by omega, by omega⟩ (fun h14 => ?_) (fun h14 => ?_)
        · refine lv_aload_n X.1 X.2.1 d_Ag_hearService_73 rfl (lv_at hl 0 rfl) ?_
          refine t_getr (ci := 2) X Y S k0 rfl i_Ag 0 (by decide) rfl (k1 := 21) (k2 := 0) rfl rfl lk_Ag_42 (fun _ h9 => h9) d_Ag_hearService_74 (fun b15 e15 k15 => ?_)
          refine t_getr (ci := 11) X Y S k15 rfl i_Va 1 (by decide) rfl (k1 := 13) (k2 := 6144) rfl rfl lk_Ag_196 (fun _ h9 => h9) d_Ag_hearService_77 (fun b16 e16 k16 => ?_)
          refine lv_astore_n (lv' := [(2, .ref b16), (0, .ref h), (1, .ref a1)]) X.1 X.2.1 d_Ag_hearService_80 rfl hl (by decide) rfl (fun ls hl => ?_)
          refine lv_aload_n X.1 X.2.1 d_Ag_hearService_81 rfl (lv_at hl 1 rfl) ?_
          refine t_get0 (ci := 2) X Y S k0 rfl i_Ag 0 (by decide) rfl lk_Ag_42 (fun _ h9 => h9) d_Ag_hearService_82 e15 ?_
          refine lv_aload_n X.1 X.2.1 d_Ag_hearService_85 rfl (lv_at hl 2 rfl) ?_
          refine lv_aload_n X.1 X.2.1 d_Ag_hearService_86 rfl (lv_at hl 2 rfl) ?_
          refine lv_iconst (v := iI 0) X.1 X.2.1 d_Ag_hearService_87 (by decide) ?_
          refine lv_iconst (v := iI 2) X.1 X.2.1 d_Ag_hearService_88 (by decide) ?_
          refine t_ui (t_runV (As := [.int (iI 0), .int (iI 2)]) (rest := [.ref a1, .ref b15]) (n := 2) X Y S k1 hml hl.1 (c_By_field l D E T κ L f3 H.size a1 n1 k1 (by omega) 0 (by omega) (by omega) 2 (by omega) (by omega) S.1) (ok_k X Y hA KS KR) rfl kl_Ag_By_field ks_By_field kx_By_field ki_By_field ini_By ⟨rfl, rfl⟩ hd_By_field ⟨Nat.le_of_ble_eq_true rfl, Nat.le_of_ble_eq_true rfl⟩ rfl (Nat.le_of_ble_eq_true rfl) d_Ag_hearService_89 ⟨Nat.le_of_ble_eq_true rfl, Nat.le_of_ble_eq_true rfl⟩) X Y hA (fun z17 H locs Y p17 => ?_)
          obtain ⟨l17, u17⟩ := p17
          refine lv_aload_n X.1 X.2.1 d_Ag_hearService_92 rfl (lv_at hl 1 rfl) ?_
          refine t_getk (ci := 2) X Y S k0 rfl i_Ag 18 (by decide) rfl lk_Ag_39 (fun _ h9 => h9) d_Ag_hearService_93 (fun b18 n18 e18 k18 x18 => ?_)
          refine lv_bipush (v := iI 12) X.1 X.2.1 d_Ag_hearService_96 (by decide) ?_
          refine lv_aload_n X.1 X.2.1 d_Ag_hearService_98 rfl (lv_at hl 0 rfl) ?_
          refine t_ni (t_runV (As := [.ref a1, .int (iI z17), .ref b18, .int (iI 12), .ref b16]) (rest := []) (n := 5) X Y S k15 hml hl.1 (c_Va_opens l D E T κ L f3 H.size b15 k15 a1 n1 k1 (by omega) z17 (by omega) (by omega) b18 n18 k18 (by omega) 12 (by omega) (by omega) b16 6144 k16 (by omega) S.1) (ok_k X Y hA KS KR) rfl kl_Ag_Va_opens ks_Va_opens kx_Va_opens ki_Va_opens ini_Va ⟨rfl, rfl⟩ hd_Va_opens ⟨Nat.le_of_ble_eq_true rfl, Nat.le_of_ble_eq_true rfl⟩ rfl (Nat.le_of_ble_eq_true rfl) d_Ag_hearService_99 ⟨Nat.le_of_ble_eq_true rfl, Nat.le_of_ble_eq_true rfl⟩) X Y hA S (by decide) (fun z19 f19 H locs Y S s19 p19 => ?_)
          obtain ⟨l19, u19⟩ := p19
          refine z_if_ne (tgt := 108) X.1 X.2.1 d_Ag_hearService_102 (by decide) ⟨by omega, by omega⟩ (fun h20 => ?_) (fun h20 => ?_)
          · refine lv_aload_n X.1 X.2.1 d_Ag_hearService_108 rfl (lv_at hl 0 rfl) ?_
            refine lv_sipush (v := iI 379) X.1 X.2.1 d_Ag_hearService_109 (by decide) ?_
            refine lv_iconst (v := iI 0) X.1 X.2.1 d_Ag_hearService_112 (by decide) ?_
            refine lv_aload_n X.1 X.2.1 d_Ag_hearService_113 rfl (lv_at hl 0 rfl) ?_
            refine t_gets (ci := 3) X Y S k16 rfl i_By 1 (by decide) rfl lk_Ag_211 (fun _ h9 => h9) d_Ag_hearService_114 (fun z21 e21 l21 u21 => ?_)
            refine t_ui (t_runV (As := [.int (iI 379), .int (iI 0), .int (iI z21)]) (rest := []) (n := 3) X Y S k16 hml hl.1 (c_By_isA l D E T κ L f19 H.size b16 6144 k16 (by omega) 379 (by omega) (by omega) 0 (by omega) (by omega) z21 (by omega) (by omega) S.1) (ok_k X Y hA KS KR) rfl kl_Ag_By_isA ks_By_isA kx_By_isA ki_By_isA ini_By ⟨rfl, rfl⟩ hd_By_isA ⟨Nat.le_of_ble_eq_true rfl, Nat.le_of_ble_eq_true rfl⟩ rfl (Nat.le_of_ble_eq_true rfl) d_Ag_hearService_117 ⟨Nat.le_of_ble_eq_true rfl, Nat.le_of_ble_eq_true rfl⟩) X Y hA (fun z22 H locs Y p22 => ?_)
            obtain ⟨l22, u22⟩ := p22
            refine z_if_ne (tgt := 126) X.1 X.2.1 d_Ag_hearService_120 (by decide) ⟨by omega, by omega⟩ (fun h23 => ?_) (fun h23 => ?_)
            · refine lv_aload_n X.1 X.2.1 d_Ag_hearService_126 rfl (lv_at hl 0 rfl) ?_
              refine lv_aload_n X.1 X.2.1 d_Ag_hearService_127 rfl (lv_at hl 0 rfl) ?_
              refine lv_iconst (v := iI 0) X.1 X.2.1 d_Ag_hearService_128 (by decide) ?_
              refine lv_iconst (v := iI 0) X.1 X.2.1 d_Ag_hearService_129 (by decide) ?_
              refine t_ui (t_runV (As := [.int (iI 0), .int (iI 0)]) (rest := [.ref b16]) (n := 2) X Y S k16 hml hl.1 (c_By_field l D E T κ L f19 H.size b16 6144 k16 (by omega) 0 (by omega) (by omega) 0 (by omega) (by omega) S.1) (ok_k X Y hA KS KR) rfl kl_Ag_By_field ks_By_field kx_By_field ki_By_field ini_By ⟨rfl, rfl⟩ hd_By_field ⟨Nat.le_of_ble_eq_true rfl, Nat.le_of_ble_eq_true rfl⟩ rfl (Nat.le_of_ble_eq_true rfl) d_Ag_hearService_130 ⟨Nat.le_of_ble_eq_true rfl, Nat.le_of_ble_eq_true rfl⟩) X Y hA (fun z24 H locs Y p24 => ?_)
              obtain ⟨l24, u24⟩ := p24
              refine t_ui (t_runV (As := [.int (iI z24)]) (rest := []) (n := 1) X Y S k16 hml hl.1 (c_By_timeAt l D E T κ L f19 H.size b16 6144 k16 (by omega) z24 (by omega) (by omega) S.1) (ok_k X Y hA KS KR) rfl kl_Ag_By_timeAt ks_By_timeAt kx_By_timeAt ki_By_timeAt ini_By ⟨rfl, rfl⟩ hd_By_timeAt ⟨Nat.le_of_ble_eq_true rfl, Nat.le_of_ble_eq_true rfl⟩ rfl (Nat.le_of_ble_eq_true rfl) d_Ag_hearService_133 ⟨Nat.le_of_ble_eq_true rfl, Nat.le_of_ble_eq_true rfl⟩) X Y hA (fun z25 H locs Y p25 => ?_)
              obtain ⟨l25, u25⟩ := p25
              refine lv_aload_n X.1 X.2.1 d_Ag_hearService_136 rfl (lv_at hl 1 rfl) ?_
              refine t_geti (ci := 2) X Y S k0 rfl i_Ag 15 (by decide) rfl lk_Ag_231 (fun _ h9 => h9) d_Ag_hearService_137 (fun z26 e26 l26 u26 => ?_)
              refine z_icmp_ne (tgt := 162) X.1 X.2.1 d_Ag_hearService_140 (by decide) ⟨by omega, by omega⟩ ⟨by omega, by omega⟩ (fun h27 => ?_) (fun h27 => ?_)
              · refine lv_bipush (v := iI (-46)) X.1 X.2.1 d_Ag_hearService_162 (by decide) ?_
                exact c_reti hQQ X Y hr hlk ⟨rfl, S, (-46), rfl, ⟨by omega, by omega⟩⟩ d_Ag_hearService_164
              · refine lv_aload_n X.1 X.2.1 d_Ag_hearService_143 rfl (lv_at hl 0 rfl) ?_
                refine lv_aload_n X.1 X.2.1 d_Ag_hearService_144 rfl (lv_at hl 0 rfl) ?_
                refine lv_iconst (v := iI 0) X.1 X.2.1 d_Ag_hearService_145 (by decide) ?_
                refine lv_iconst (v := iI 1) X.1 X.2.1 d_Ag_hearService_146 (by decide) ?_
                refine t_ui (t_runV (As := [.int (iI 0), .int (iI 1)]) (rest := [.ref b16]) (n := 2) X Y S k16 hml hl.1 (c_By_field l D E T κ L f19 H.size b16 6144 k16 (by omega) 0 (by omega) (by omega) 1 (by omega) (by omega) S.1) (ok_k X Y hA KS KR) rfl kl_Ag_By_field ks_By_field kx_By_field ki_By_field ini_By ⟨rfl, rfl⟩ hd_By_field ⟨Nat.le_of_ble_eq_true rfl, Nat.le_of_ble_eq_true rfl⟩ rfl (Nat.le_of_ble_eq_true rfl) d_Ag_hearService_147 ⟨Nat.le_of_ble_eq_true rfl, Nat.le_of_ble_eq_true rfl⟩) X Y hA (fun z28 H locs Y p28 => ?_)
                obtain ⟨l28, u28⟩ := p28
                refine t_ul (t_runV (As := [.int (iI z28)]) (rest := []) (n := 1) X Y S k16 hml hl.1 (c_By_numberAt l D E T κ L f19 H.size b16 6144 k16 (by omega) z28 (by omega) (by omega) S.1) (ok_k X Y hA KS KR) rfl kl_Ag_By_numberAt ks_By_numberAt kx_By_numberAt ki_By_numberAt ini_By ⟨rfl, rfl⟩ hd_By_numberAt ⟨Nat.le_of_ble_eq_true rfl, Nat.le_of_ble_eq_true rfl⟩ rfl (Nat.le_of_ble_eq_true rfl) d_Ag_hearService_150 ⟨Nat.le_of_ble_eq_true rfl, Nat.le_of_ble_eq_true rfl⟩) X Y hA (fun v29 H locs Y p29 => ?_)
                refine lv_aload_n X.1 X.2.1 d_Ag_hearService_153 rfl (lv_at hl 1 rfl) ?_
                refine t_geti (ci := 2) X Y S k0 rfl i_Ag 16 (by decide) rfl lk_Ag_234 (fun _ h9 => h9) d_Ag_hearService_154 (fun z30 e30 l30 u30 => ?_)
                refine lv_i2l X.1 X.2.1 d_Ag_hearService_157 rfl ?_
                refine t_anyl (fun v31 => ?_)
                refine W.lcmp X.1 X.2.1 d_Ag_hearService_158 ?_
                refine t_u (fun z32 l32 u32 => ?_)
                refine z_if_eq (tgt := 165) X.1 X.2.1 d_Ag_hearService_159 (by decide) ⟨by omega, by omega⟩ (fun h33 => ?_) (fun h33 => ?_)
                · refine lv_aload_n X.1 X.2.1 d_Ag_hearService_165 rfl (lv_at hl 1 rfl) ?_
                  refine lv_aload_n X.1 X.2.1 d_Ag_hearService_166 rfl (lv_at hl 0 rfl) ?_
                  refine lv_aload_n X.1 X.2.1 d_Ag_hearService_167 rfl (lv_at hl 0 rfl) ?_
                  refine lv_iconst (v := iI 0) X.1 X.2.1 d_Ag_hearService_168 (by decide) ?_
                  refine lv_iconst (v := iI 3) X.1 X.2.1 d_Ag_hearService_169 (by decide) ?_
                  refine t_ui (t_runV (As := [.int (iI 0), .int (iI 3)]) (rest := [.ref b16, .ref h]) (n := 2) X Y S k16 hml hl.1 (c_By_field l D E T κ L f19 H.size b16 6144 k16 (by omega) 0 (by omega) (by omega) 3 (by omega) (by omega) S.1) (ok_k X Y hA KS KR) rfl kl_Ag_By_field ks_By_field kx_By_field ki_By_field ini_By ⟨rfl, rfl⟩ hd_By_field ⟨Nat.le_of_ble_eq_true rfl, Nat.le_of_ble_eq_true rfl⟩ rfl (Nat.le_of_ble_eq_true rfl) d_Ag_hearService_170 ⟨Nat.le_of_ble_eq_true rfl, Nat.le_of_ble_eq_true rfl⟩) X Y hA (fun z34 H locs Y p34 => ?_)
                  obtain ⟨l34, u34⟩ := p34
                  refine t_ul (t_runV (As := [.int (iI z34)]) (rest := [.ref h]) (n := 1) X Y S k16 hml hl.1 (c_By_numberAt l D E T κ L f19 H.size b16 6144 k16 (by omega) z34 (by omega) (by omega) S.1) (ok_k X Y hA KS KR) rfl kl_Ag_By_numberAt ks_By_numberAt kx_By_numberAt ki_By_numberAt ini_By ⟨rfl, rfl⟩ hd_By_numberAt ⟨Nat.le_of_ble_eq_true rfl, Nat.le_of_ble_eq_true rfl⟩ rfl (Nat.le_of_ble_eq_true rfl) d_Ag_hearService_173 ⟨Nat.le_of_ble_eq_true rfl, Nat.le_of_ble_eq_true rfl⟩) X Y hA (fun v35 H locs Y p35 => ?_)
                  refine t_put (ci := 2) X Y S k0 rfl i_Ag t_Ag t_Ag_ok n_Ag 19 (by decide) rfl lk_Ag_84 (fun _ h9 => h9) rfl (t_Ag_ok 19 (by decide)) rfl rfl ⟨_, rfl⟩ (fun h9 => h9.2.1 (by rw [← (S.2.2.2 _ h9).2, k0]; decide)) d_Ag_hearService_176 (fun f36 H locs Y S w36 => ?_)
                  refine lv_iconst (v := iI 0) X.1 X.2.1 d_Ag_hearService_179 (by decide) ?_
                  exact c_reti hQQ X Y hr hlk ⟨rfl, S, 0, rfl, ⟨by omega, by omega⟩⟩ d_Ag_hearService_180
                · refine lv_bipush (v := iI (-46)) X.1 X.2.1 d_Ag_hearService_162 (by decide) ?_
                  exact c_reti hQQ X Y hr hlk ⟨rfl, S, (-46), rfl, ⟨by omega, by omega⟩⟩ d_Ag_hearService_164
            · refine lv_bipush (v := iI (-60)) X.1 X.2.1 d_Ag_hearService_123 (by decide) ?_
              exact c_reti hQQ X Y hr hlk ⟨rfl, S, (-60), rfl, ⟨by omega, by omega⟩⟩ d_Ag_hearService_125
          · refine lv_bipush (v := iI (-31)) X.1 X.2.1 d_Ag_hearService_105 (by decide) ?_
            exact c_reti hQQ X Y hr hlk ⟨rfl, S, (-31), rfl, ⟨by omega, by omega⟩⟩ d_Ag_hearService_107
        · refine lv_bipush (v := iI (-40)) X.1 X.2.1 d_Ag_hearService_70 (by decide) ?_
          exact c_reti hQQ X Y hr hlk ⟨rfl, S, (-40), rfl, ⟨by omega, by omega⟩⟩ d_Ag_hearService_72
      · refine lv_bipush (v := iI (-3)) X.1 X.2.1 d_Ag_hearService_50 (by decide) ?_
        exact c_reti hQQ X Y hr hlk ⟨rfl, S, (-3), rfl, ⟨by omega, by omega⟩⟩ d_Ag_hearService_52
    · refine lv_bipush (v := iI (-60)) X.1 X.2.1 d_Ag_hearService_30 (by decide) ?_
      exact c_reti hQQ X Y hr hlk ⟨rfl, S, (-60), rfl, ⟨by omega, by omega⟩⟩ d_Ag_hearService_32
  · refine lv_bipush (v := iI (-3)) X.1 X.2.1 d_Ag_hearService_7 (by decide) ?_
    exact c_reti hQQ X Y hr hlk ⟨rfl, S, (-3), rfl, ⟨by omega, by omega⟩⟩ d_Ag_hearService_9
set_option maxHeartbeats 4000000 in
set_option maxRecDepth 100000 in
theorem c_Ag_keepHanded (l : Launch) (D : va_G) (E : cE) (T : cT) (κ : tK) (L : List Nat) (f : pF) (sz : Nat) (h : Nat) (k0 : κ h = (12, 0)) (a1 n1 : Nat) (k1 : κ a1 = (13, n1)) (x1 : n1 ≤ 4000) (hw : tW E T κ L f) : Met l y_Ag_keepHanded (k_Ag_keepHanded :: lw_tg) (kRm 5 154 3 4035) (va_Pc [.ref h, .ref a1] (kPre D E T L f sz)) (va_Qi (aPi E T [1, 2, 3, 4, 5, 6, 7, 8, 9, 10, 11, 12, 13, 14, 15, 16, 17, 18, 19, 20, 21] [] κ L f (fun (z : Int) (k : tK) (g : pF) => (-2147483648) ≤ z ∧ z ≤ 2147483647)) (cPost D E (pA L sz)) (pA L sz)) 3 4035 (pA L sz) := by
  refine k_enter (own := R_Ag) (by decide) rfl (Nat.le_of_ble_eq_true rfl) (fun p e s m below meth c ls AV QQ H locs hQQ X Y hA hin hr hlk hml hl KS KR => ?_)
  have hl : lv_has ls 6 [(0, .ref h), (1, .ref a1)] := hl
  have S : tS E T (tFr κ L [1, 2, 3, 4, 5, 6, 7, 8, 9, 10, 11, 12, 13, 14, 15, 16, 17, 18, 19, 20, 21] []) κ L f κ L f := tS_rf hw
  have hF0 : ∀ b, tFr κ L [1, 2, 3, 4, 5, 6, 7, 8, 9, 10, 11, 12, 13, 14, 15, 16, 17, 18, 19, 20, 21] [] b → b ∈ L := fun b h9 => h9.1
  refine lv_aload_n X.1 X.2.1 d_Ag_keepHanded_0 rfl (lv_at hl 0 rfl) ?_
  refine t_getr (ci := 2) X Y S k0 rfl i_Ag 0 (by decide) rfl (k1 := 21) (k2 := 0) rfl rfl lk_Ag_42 (fun _ h9 => h9) d_Ag_keepHanded_1 (fun b1 e1 k1 => ?_)
  refine t_getr (ci := 11) X Y S k1 rfl i_Va 1 (by decide) rfl (k1 := 13) (k2 := 6144) rfl rfl lk_Ag_196 (fun _ h9 => h9) d_Ag_keepHanded_4 (fun b2 e2 k2 => ?_)
  refine lv_astore_n (lv' := [(2, .ref b2), (0, .ref h), (1, .ref a1)]) X.1 X.2.1 d_Ag_keepHanded_7 rfl hl (by decide) rfl (fun ls hl => ?_)
  refine lv_aload_n X.1 X.2.1 d_Ag_keepHanded_8 rfl (lv_at hl 0 rfl) ?_
  refine lv_aload_n X.1 X.2.1 d_Ag_keepHanded_9 rfl (lv_at hl 0 rfl) ?_
  refine lv_iconst (v := iI 0) X.1 X.2.1 d_Ag_keepHanded_10 (by decide) ?_
  refine lv_iconst (v := iI 0) X.1 X.2.1 d_Ag_keepHanded_11 (by decide) ?_
  refine t_ui (t_runV (As := [.int (iI 0), .int (iI 0)]) (rest := [.ref b2]) (n := 2) X Y S k2 hml hl.1 (c_By_field l D E T κ L f H.size b2 6144 k2 (by omega) 0 (by omega) (by omega) 0 (by omega) (by omega) S.1) (ok_k X Y hA KS KR) rfl kl_Ag_By_field ks_By_field kx_By_field ki_By_field ini_By ⟨rfl, rfl⟩ hd_By_field ⟨Nat.le_of_ble_eq_true rfl, Nat.le_of_ble_eq_true rfl⟩ rfl (Nat.le_of_ble_eq_true rfl) d_Ag_keepHanded_12 ⟨Nat.le_of_ble_eq_true rfl, Nat.le_of_ble_eq_true rfl⟩) X Y hA (fun z3 H locs Y p3 => ?_)
  obtain ⟨l3, u3⟩ := p3
  refine lv_iconst (v := iI 0) X.1 X.2.1 d_Ag_keepHanded_15 (by decide) ?_
  refine t_ui (t_runV (As := [.int (iI z3), .int (iI 0)]) (rest := []) (n := 2) X Y S k2 hml hl.1 (c_By_element l D E T κ L f H.size b2 6144 k2 (by omega) z3 (by omega) (by omega) 0 (by omega) (by omega) S.1) (ok_k X Y hA KS KR) rfl kl_Ag_By_element ks_By_element kx_By_element ki_By_element ini_By ⟨rfl, rfl⟩ hd_By_element ⟨Nat.le_of_ble_eq_true rfl, Nat.le_of_ble_eq_true rfl⟩ rfl (Nat.le_of_ble_eq_true rfl) d_Ag_keepHanded_16 ⟨Nat.le_of_ble_eq_true rfl, Nat.le_of_ble_eq_true rfl⟩) X Y hA (fun z4 H locs Y p4 => ?_)
  obtain ⟨l4, u4⟩ := p4
  refine lv_istore_n (lv' := [(3, .int (iI z4)), (2, .ref b2), (0, .ref h), (1, .ref a1)]) X.1 X.2.1 d_Ag_keepHanded_19 rfl hl (by decide) rfl (fun ls hl => ?_)
  refine lv_aload_n X.1 X.2.1 d_Ag_keepHanded_20 rfl (lv_at hl 1 rfl) ?_
  refine lv_aload_n X.1 X.2.1 d_Ag_keepHanded_21 rfl (lv_at hl 1 rfl) ?_
  refine lv_iload_n X.1 X.2.1 d_Ag_keepHanded_22 rfl (lv_at hl 0 rfl) ?_
  refine lv_iconst (v := iI 2) X.1 X.2.1 d_Ag_keepHanded_23 (by decide) ?_
  refine t_ui (t_runV (As := [.int (iI z4), .int (iI 2)]) (rest := [.ref b2]) (n := 2) X Y S k2 hml hl.1 (c_By_field l D E T κ L f H.size b2 6144 k2 (by omega) z4 (by omega) (by omega) 2 (by omega) (by omega) S.1) (ok_k X Y hA KS KR) rfl kl_Ag_By_field ks_By_field kx_By_field ki_By_field ini_By ⟨rfl, rfl⟩ hd_By_field ⟨Nat.le_of_ble_eq_true rfl, Nat.le_of_ble_eq_true rfl⟩ rfl (Nat.le_of_ble_eq_true rfl) d_Ag_keepHanded_24 ⟨Nat.le_of_ble_eq_true rfl, Nat.le_of_ble_eq_true rfl⟩) X Y hA (fun z5 H locs Y p5 => ?_)
  obtain ⟨l5, u5⟩ := p5
  refine t_ui (t_runV (As := [.int (iI z5)]) (rest := []) (n := 1) X Y S k2 hml hl.1 (c_By_partsSize l D E T κ L f H.size b2 6144 k2 (by omega) z5 (by omega) (by omega) S.1) (ok_k X Y hA KS KR) rfl kl_Ag_By_partsSize ks_By_partsSize kx_By_partsSize ki_By_partsSize ini_By ⟨rfl, rfl⟩ hd_By_partsSize ⟨Nat.le_of_ble_eq_true rfl, Nat.le_of_ble_eq_true rfl⟩ rfl (Nat.le_of_ble_eq_true rfl) d_Ag_keepHanded_27 ⟨Nat.le_of_ble_eq_true rfl, Nat.le_of_ble_eq_true rfl⟩) X Y hA (fun z6 H locs Y p6 => ?_)
  obtain ⟨l6, u6⟩ := p6
  refine lv_bipush (v := iI 40) X.1 X.2.1 d_Ag_keepHanded_30 (by decide) ?_
  refine z_icmp_le (tgt := 38) X.1 X.2.1 d_Ag_keepHanded_32 (by decide) ⟨by omega, by omega⟩ ⟨by omega, by omega⟩ (fun h7 => ?_) (fun h7 => ?_)
  · refine lv_aload_n X.1 X.2.1 d_Ag_keepHanded_38 rfl (lv_at hl 1 rfl) ?_
    refine lv_aload_n X.1 X.2.1 d_Ag_keepHanded_39 rfl (lv_at hl 1 rfl) ?_
    refine lv_iload_n X.1 X.2.1 d_Ag_keepHanded_40 rfl (lv_at hl 0 rfl) ?_
    refine lv_iconst (v := iI 0) X.1 X.2.1 d_Ag_keepHanded_41 (by decide) ?_
    refine t_ui (t_runV (As := [.int (iI z4), .int (iI 0)]) (rest := [.ref b2]) (n := 2) X Y S k2 hml hl.1 (c_By_field l D E T κ L f H.size b2 6144 k2 (by omega) z4 (by omega) (by omega) 0 (by omega) (by omega) S.1) (ok_k X Y hA KS KR) rfl kl_Ag_By_field ks_By_field kx_By_field ki_By_field ini_By ⟨rfl, rfl⟩ hd_By_field ⟨Nat.le_of_ble_eq_true rfl, Nat.le_of_ble_eq_true rfl⟩ rfl (Nat.le_of_ble_eq_true rfl) d_Ag_keepHanded_42 ⟨Nat.le_of_ble_eq_true rfl, Nat.le_of_ble_eq_true rfl⟩) X Y hA (fun z8 H locs Y p8 => ?_)
    obtain ⟨l8, u8⟩ := p8
    refine t_ar (x_runS (As := [.ref b2, .int (iI z8)]) (rest := []) (n := 2) X hml hl.1 (c_Va_keyAt l D E T κ L f H.size b2 6144 k2 (by omega) z8 (by omega) (by omega) S.1) (ok_k X Y hA KS KR) kl_Ag_Va_keyAt ks_Va_keyAt ki_Va_keyAt ini_Va ⟨rfl, rfl⟩ hd_Va_keyAt.2 ⟨Nat.le_of_ble_eq_true rfl, Nat.le_of_ble_eq_true rfl⟩ rfl (Nat.le_of_ble_eq_true rfl) d_Ag_keepHanded_45 ⟨Nat.le_of_ble_eq_true rfl, Nat.le_of_ble_eq_true rfl⟩) X Y hA S (by decide) (fun b9 κ9 L9 f9 H locs Y S s9 p9 => ?_)
    obtain ⟨n9, k9⟩ := p9
    have x9 := tKey_n k9
    have k10 : κ9 h = (12, 0) := tLe_k s9.2.2.1 k0
    have k11 : κ9 a1 = (13, n1) := tLe_k s9.2.2.1 k1
    have k12 : κ9 b2 = (13, 6144) := tLe_k s9.2.2.1 k2
    refine lv_astore (lv' := [(4, .ref b9), (3, .int (iI z4)), (2, .ref b2), (0, .ref h), (1, .ref a1)]) X.1 X.2.1 d_Ag_keepHanded_48 hl (by decide) rfl (fun ls hl => ?_)
    refine lv_aload X.1 X.2.1 d_Ag_keepHanded_50 (lv_at hl 0 rfl) ?_
    refine t_alen X Y S KS (tKey_src k9) (by omega) d_Ag_keepHanded_52 ?_
    refine z_if_ne (tgt := 59) X.1 X.2.1 d_Ag_keepHanded_53 (by decide) ⟨by omega, by omega⟩ (fun h13 => ?_) (fun h13 => ?_)
    · refine lv_aload_n X.1 X.2.1 d_Ag_keepHanded_59 rfl (lv_at hl 3 rfl) ?_
      refine t_ui (t_runV (As := []) (rest := []) (n := 0) X Y S k10 hml hl.1 (c_Ag_freePlace l D E T κ9 L9 f9 H.size h k10 S.1) (ok_k X Y hA KS KR) rfl kl_Ag_Ag_freePlace ks_Ag_freePlace kx_Ag_freePlace ki_Ag_freePlace ini_Ag ⟨rfl, rfl⟩ hd_Ag_freePlace ⟨Nat.le_of_ble_eq_true rfl, Nat.le_of_ble_eq_true rfl⟩ rfl (Nat.le_of_ble_eq_true rfl) d_Ag_keepHanded_60 ⟨Nat.le_of_ble_eq_true rfl, Nat.le_of_ble_eq_true rfl⟩) X Y hA (fun z14 H locs Y p14 => ?_)
      obtain ⟨l14, u14⟩ := p14
      refine lv_istore (lv' := [(5, .int (iI z14)), (4, .ref b9), (3, .int (iI z4)), (2, .ref b2), (0, .ref h), (1, .ref a1)]) X.1 X.2.1 d_Ag_keepHanded_63 hl (by decide) rfl (fun ls hl => ?_)
      refine lv_iload X.1 X.2.1 d_Ag_keepHanded_65 (lv_at hl 0 rfl) ?_
      refine z_if_lt (tgt := 124) X.1 X.2.1 d_Ag_keepHanded_67 (by decide) ⟨by omega, by omega⟩ (fun h15 => ?_) (fun h15 => ?_)
      · refine lv_iload X.1 X.2.1 d_Ag_keepHanded_124 (lv_at hl 0 rfl) ?_
        refine W.widen (k := 3) (n := 4035) (Nat.le_of_ble_eq_true rfl) (Nat.le_of_ble_eq_true rfl) ?_
        exact c_reti hQQ X Y hr hlk ⟨κ9, S, z14, rfl, ⟨by omega, by omega⟩⟩ d_Ag_keepHanded_126
      · refine lv_aload_n X.1 X.2.1 d_Ag_keepHanded_70 rfl (lv_at hl 4 rfl) ?_
        refine t_getr (ci := 2) X Y S k10 rfl i_Ag 1 (by decide) rfl (k1 := 8) (k2 := 8) rfl rfl lk_Ag_48 (fun _ h9 => h9) d_Ag_keepHanded_71 (fun b16 e16 k16 => ?_)
        refine lv_iload X.1 X.2.1 d_Ag_keepHanded_74 (lv_at hl 0 rfl) ?_
        refine t_aald X Y S k16 (fun h9 => h9) (t0 := 5) rfl (by omega) (by omega) (by omega) d_Ag_keepHanded_76 (fun b17 e17 k17 => ?_)
        refine lv_aload_n X.1 X.2.1 d_Ag_keepHanded_77 rfl (lv_at hl 5 rfl) ?_
        refine lv_aload_n X.1 X.2.1 d_Ag_keepHanded_78 rfl (lv_at hl 5 rfl) ?_
        refine lv_aload_n X.1 X.2.1 d_Ag_keepHanded_79 rfl (lv_at hl 5 rfl) ?_
        refine lv_iconst (v := iI 0) X.1 X.2.1 d_Ag_keepHanded_80 (by decide) ?_
        refine lv_iconst (v := iI 2) X.1 X.2.1 d_Ag_keepHanded_81 (by decide) ?_
        refine t_ui (t_runV (As := [.int (iI 0), .int (iI 2)]) (rest := [.ref a1, .ref a1, .ref b17]) (n := 2) X Y S k11 hml hl.1 (c_By_field l D E T κ9 L9 f9 H.size a1 n1 k11 (by omega) 0 (by omega) (by omega) 2 (by omega) (by omega) S.1) (ok_k X Y hA KS KR) rfl kl_Ag_By_field ks_By_field kx_By_field ki_By_field ini_By ⟨rfl, rfl⟩ hd_By_field ⟨Nat.le_of_ble_eq_true rfl, Nat.le_of_ble_eq_true rfl⟩ rfl (Nat.le_of_ble_eq_true rfl) d_Ag_keepHanded_82 ⟨Nat.le_of_ble_eq_true rfl, Nat.le_of_ble_eq_true rfl⟩) X Y hA (fun z18 H locs Y p18 => ?_)
        obtain ⟨l18, u18⟩ := p18
        refine lv_iconst (v := iI 0) X.1 X.2.1 d_Ag_keepHanded_85 (by decide) ?_
        refine t_ui (t_runV (As := [.int (iI z18), .int (iI 0)]) (rest := [.ref a1, .ref b17]) (n := 2) X Y S k11 hml hl.1 (c_By_element l D E T κ9 L9 f9 H.size a1 n1 k11 (by omega) z18 (by omega) (by omega) 0 (by omega) (by omega) S.1) (ok_k X Y hA KS KR) rfl kl_Ag_By_element ks_By_element kx_By_element ki_By_element ini_By ⟨rfl, rfl⟩ hd_By_element ⟨Nat.le_of_ble_eq_true rfl, Nat.le_of_ble_eq_true rfl⟩ rfl (Nat.le_of_ble_eq_true rfl) d_Ag_keepHanded_86 ⟨Nat.le_of_ble_eq_true rfl, Nat.le_of_ble_eq_true rfl⟩) X Y hA (fun z19 H locs Y p19 => ?_)
        obtain ⟨l19, u19⟩ := p19
        refine t_av (t_runV (As := [.ref a1, .int (iI z19)]) (rest := []) (n := 2) X Y S k17 hml hl.1 (c_Ti_setRaw l D E T κ9 L9 f9 H.size b17 k17 a1 n1 k11 (by omega) z19 (by omega) (by omega) S.1) (ok_k X Y hA KS KR) rfl kl_Ag_Ti_setRaw ks_Ti_setRaw kx_Ti_setRaw ki_Ti_setRaw ini_Ti ⟨rfl, rfl⟩ hd_Ti_setRaw ⟨Nat.le_of_ble_eq_true rfl, Nat.le_of_ble_eq_true rfl⟩ rfl (Nat.le_of_ble_eq_true rfl) d_Ag_keepHanded_89 ⟨Nat.le_of_ble_eq_true rfl, Nat.le_of_ble_eq_true rfl⟩) X Y hA S (by decide) (fun κ20 L20 f20 H locs Y S s20 p20 => ?_)
        have k21 : κ20 h = (12, 0) := tLe_k s20.2.2.1 k10
        have k22 : κ20 a1 = (13, n1) := tLe_k s20.2.2.1 k11
        have k23 : κ20 b2 = (13, 6144) := tLe_k s20.2.2.1 k12
        have k24 : tKey T κ20 b9 n9 := tLe_key s20.2.2.1 k9
        refine lv_aload_n X.1 X.2.1 d_Ag_keepHanded_92 rfl (lv_at hl 4 rfl) ?_
        refine t_getr (ci := 2) X Y S k21 rfl i_Ag 1 (by decide) rfl (k1 := 8) (k2 := 8) rfl rfl lk_Ag_48 (fun _ h9 => h9) d_Ag_keepHanded_93 (fun b25 e25 k25 => ?_)
        refine lv_iload X.1 X.2.1 d_Ag_keepHanded_96 (lv_at hl 0 rfl) ?_
        refine t_aald X Y S k25 (fun h9 => h9) (t0 := 5) rfl (by omega) (by omega) (by omega) d_Ag_keepHanded_98 (fun b26 e26 k26 => ?_)
        refine lv_aload_n X.1 X.2.1 d_Ag_keepHanded_99 rfl (lv_at hl 3 rfl) ?_
        refine lv_aload_n X.1 X.2.1 d_Ag_keepHanded_100 rfl (lv_at hl 3 rfl) ?_
        refine lv_iload_n X.1 X.2.1 d_Ag_keepHanded_101 rfl (lv_at hl 2 rfl) ?_
        refine lv_iconst (v := iI 2) X.1 X.2.1 d_Ag_keepHanded_102 (by decide) ?_
        refine t_ui (t_runV (As := [.int (iI z4), .int (iI 2)]) (rest := [.ref b2, .ref b26]) (n := 2) X Y S k23 hml hl.1 (c_By_field l D E T κ20 L20 f20 H.size b2 6144 k23 (by omega) z4 (by omega) (by omega) 2 (by omega) (by omega) S.1) (ok_k X Y hA KS KR) rfl kl_Ag_By_field ks_By_field kx_By_field ki_By_field ini_By ⟨rfl, rfl⟩ hd_By_field ⟨Nat.le_of_ble_eq_true rfl, Nat.le_of_ble_eq_true rfl⟩ rfl (Nat.le_of_ble_eq_true rfl) d_Ag_keepHanded_103 ⟨Nat.le_of_ble_eq_true rfl, Nat.le_of_ble_eq_true rfl⟩) X Y hA (fun z27 H locs Y p27 => ?_)
        obtain ⟨l27, u27⟩ := p27
        refine t_nv (t_runV (As := [.ref b2, .int (iI z27)]) (rest := []) (n := 2) X Y S k26 hml hl.1 (c_Ti_setName l D E T κ20 L20 f20 H.size b26 k26 b2 6144 k23 (by omega) z27 (by omega) (by omega) S.1) (ok_k X Y hA KS KR) rfl kl_Ag_Ti_setName ks_Ti_setName kx_Ti_setName ki_Ti_setName ini_Ti ⟨rfl, rfl⟩ hd_Ti_setName ⟨Nat.le_of_ble_eq_true rfl, Nat.le_of_ble_eq_true rfl⟩ rfl (Nat.le_of_ble_eq_true rfl) d_Ag_keepHanded_106 ⟨Nat.le_of_ble_eq_true rfl, Nat.le_of_ble_eq_true rfl⟩) X Y hA S (by decide) (fun f28 H locs Y S s28 p28 => ?_)
        refine lv_aload_n X.1 X.2.1 d_Ag_keepHanded_109 rfl (lv_at hl 4 rfl) ?_
        refine t_get0 (ci := 2) X Y S k21 rfl i_Ag 1 (by decide) rfl lk_Ag_48 (fun _ h9 => h9) d_Ag_keepHanded_110 ((gF_same (s28.2.2.2 _ ⟨(t_obj S.1 k21).1, by rw [k21]; decide, by simp⟩).1 1).trans e25) ?_
        refine lv_iload X.1 X.2.1 d_Ag_keepHanded_113 (lv_at hl 0 rfl) ?_
        refine t_aald X Y S k25 (fun h9 => h9) (t0 := 5) rfl (by omega) (by omega) (by omega) d_Ag_keepHanded_115 (fun b29 e29 k29 => ?_)
        refine lv_aload X.1 X.2.1 d_Ag_keepHanded_116 (lv_at hl 1 rfl) ?_
        refine lv_aload_n X.1 X.2.1 d_Ag_keepHanded_118 rfl (lv_at hl 3 rfl) ?_
        refine lv_iload_n X.1 X.2.1 d_Ag_keepHanded_119 rfl (lv_at hl 2 rfl) ?_
        refine lv_iconst (v := iI 3) X.1 X.2.1 d_Ag_keepHanded_120 (by decide) ?_
        refine t_nv (t_runV (As := [.ref b9, .ref b2, .int (iI z4), .int (iI 3)]) (rest := []) (n := 4) X Y S k29 hml hl.1 (c_Ti_setTold l D E T κ20 L20 f28 H.size b29 k29 b9 n9 k24 (by omega) b2 6144 k23 (by omega) z4 (by omega) (by omega) 3 (by omega) (by omega) S.1) (ok_k X Y hA KS KR) rfl kl_Ag_Ti_setTold ks_Ti_setTold kx_Ti_setTold ki_Ti_setTold ini_Ti ⟨rfl, rfl⟩ hd_Ti_setTold ⟨Nat.le_of_ble_eq_true rfl, Nat.le_of_ble_eq_true rfl⟩ rfl (Nat.le_of_ble_eq_true rfl) d_Ag_keepHanded_121 ⟨Nat.le_of_ble_eq_true rfl, Nat.le_of_ble_eq_true rfl⟩) X Y hA S (by decide) (fun f30 H locs Y S s30 p30 => ?_)
        refine lv_iload X.1 X.2.1 d_Ag_keepHanded_124 (lv_at hl 0 rfl) ?_
        exact c_reti hQQ X Y hr hlk ⟨κ20, S, z14, rfl, ⟨by omega, by omega⟩⟩ d_Ag_keepHanded_126
    · refine lv_bipush (v := iI (-14)) X.1 X.2.1 d_Ag_keepHanded_56 (by decide) ?_
      refine W.widen (k := 3) (n := 4035) (Nat.le_of_ble_eq_true rfl) (Nat.le_of_ble_eq_true rfl) ?_
      exact c_reti hQQ X Y hr hlk ⟨κ9, S, (-14), rfl, ⟨by omega, by omega⟩⟩ d_Ag_keepHanded_58
  · refine lv_bipush (v := iI (-60)) X.1 X.2.1 d_Ag_keepHanded_35 (by decide) ?_
    refine W.widen (k := 3) (n := 4035) (Nat.le_of_ble_eq_true rfl) (Nat.le_of_ble_eq_true rfl) ?_
    exact c_reti hQQ X Y hr hlk ⟨κ, S, (-60), rfl, ⟨by omega, by omega⟩⟩ d_Ag_keepHanded_37
