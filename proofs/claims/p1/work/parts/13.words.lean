abbrev b_putWord : ByteArray := prog_14_method_66_code
def y_putWord : MethodName := ⟨R_M, "putWord", "(Ljava/lang/String;)V"⟩
abbrev k_putWord : Cond := .code y_putWord b_putWord 4 none
theorem ki_putWord : k_putWord ∈ lw_tg := in_t 2617 (by decide +kernel)
theorem ks_putWord : Cond.instanceMethod y_putWord ∈ lw_tg := in_t 2616 (by decide +kernel)
theorem kl_putWord : Cond.methodLink R_M 570 y_putWord ∈ lw_tg := in_t 2614 (by decide +kernel)
theorem d_putWord_0 : decode b_putWord 0 = .ok (.aload_n 0, 1) := by decide +kernel
theorem d_putWord_1 : decode b_putWord 1 = .ok (.getfield 553, 3) := by decide +kernel
theorem d_putWord_4 : decode b_putWord 4 = .ok (.istore_n 2, 1) := by decide +kernel
theorem d_putWord_5 : decode b_putWord 5 = .ok (.aload_n 1, 1) := by decide +kernel
theorem d_putWord_6 : decode b_putWord 6 = .ok (.invokevirtual 339, 3) := by decide +kernel
theorem d_putWord_9 : decode b_putWord 9 = .ok (.iconst 1, 1) := by decide +kernel
theorem d_putWord_10 : decode b_putWord 10 = .ok (.isub, 1) := by decide +kernel
theorem d_putWord_11 : decode b_putWord 11 = .ok (.istore_n 3, 1) := by decide +kernel
theorem d_putWord_12 : decode b_putWord 12 = .ok (.iload_n 3, 1) := by decide +kernel
theorem d_putWord_13 : decode b_putWord 13 = .ok (.ifCond .lt 18, 3) := by decide +kernel
theorem d_putWord_16 : decode b_putWord 16 = .ok (.aload_n 0, 1) := by decide +kernel
theorem d_putWord_17 : decode b_putWord 17 = .ok (.aload_n 1, 1) := by decide +kernel
theorem d_putWord_18 : decode b_putWord 18 = .ok (.iload_n 3, 1) := by decide +kernel
theorem d_putWord_19 : decode b_putWord 19 = .ok (.invokevirtual 344, 3) := by decide +kernel
theorem d_putWord_22 : decode b_putWord 22 = .ok (.invokevirtual 556, 3) := by decide +kernel
theorem d_putWord_25 : decode b_putWord 25 = .ok (.iinc 3 (-1), 3) := by decide +kernel
theorem d_putWord_28 : decode b_putWord 28 = .ok (.goto (-16), 3) := by decide +kernel
theorem d_putWord_31 : decode b_putWord 31 = .ok (.aload_n 0, 1) := by decide +kernel
theorem d_putWord_32 : decode b_putWord 32 = .ok (.bipush 27, 2) := by decide +kernel
theorem d_putWord_34 : decode b_putWord 34 = .ok (.iload_n 2, 1) := by decide +kernel
theorem d_putWord_35 : decode b_putWord 35 = .ok (.invokevirtual 559, 3) := by decide +kernel
theorem d_putWord_38 : decode b_putWord 38 = .ok (.return_, 1) := by decide +kernel
abbrev b_wordField : ByteArray := prog_14_method_67_code
def y_wordField : MethodName := ⟨R_M, "wordField", "(ILjava/lang/String;)V"⟩
abbrev k_wordField : Cond := .code y_wordField b_wordField 4 none
theorem ki_wordField : k_wordField ∈ lw_tg := in_t 2613 (by decide +kernel)
theorem ks_wordField : Cond.instanceMethod y_wordField ∈ lw_tg := in_t 2612 (by decide +kernel)
theorem kl_wordField : Cond.methodLink R_M 878 y_wordField ∈ lw_tg := in_t 2610 (by decide +kernel)
theorem d_wordField_0 : decode b_wordField 0 = .ok (.aload_n 0, 1) := by decide +kernel
theorem d_wordField_1 : decode b_wordField 1 = .ok (.getfield 553, 3) := by decide +kernel
theorem d_wordField_4 : decode b_wordField 4 = .ok (.istore_n 3, 1) := by decide +kernel
theorem d_wordField_5 : decode b_wordField 5 = .ok (.aload_n 0, 1) := by decide +kernel
theorem d_wordField_6 : decode b_wordField 6 = .ok (.aload_n 2, 1) := by decide +kernel
theorem d_wordField_7 : decode b_wordField 7 = .ok (.invokevirtual 570, 3) := by decide +kernel
theorem d_wordField_10 : decode b_wordField 10 = .ok (.aload_n 0, 1) := by decide +kernel
theorem d_wordField_11 : decode b_wordField 11 = .ok (.iload_n 1, 1) := by decide +kernel
theorem d_wordField_12 : decode b_wordField 12 = .ok (.iload_n 3, 1) := by decide +kernel
theorem d_wordField_13 : decode b_wordField 13 = .ok (.invokevirtual 567, 3) := by decide +kernel
theorem d_wordField_16 : decode b_wordField 16 = .ok (.return_, 1) := by decide +kernel
theorem kx_putWord : Cond.selects R_M y_putWord y_putWord ∈ lw_tg := List.mem_filter.mpr ⟨List.mem_append_left _ (List.mem_of_getElem? (i := 147) (by decide +kernel)), rfl⟩
theorem hd_putWord : y_putWord.cls = R_M ∧ y_putWord.cls ≠ "java/lang/invoke/MethodHandle" ∧ y_putWord.cls ≠ "java/lang/invoke/VarHandle" ∧ (parseMethodDescriptor y_putWord.desc).map (fun d => d.parameters.length) = some 1 := by decide +kernel
theorem kx_wordField : Cond.selects R_M y_wordField y_wordField ∈ lw_tg := List.mem_filter.mpr ⟨List.mem_append_left _ (List.mem_of_getElem? (i := 146) (by decide +kernel)), rfl⟩
theorem hd_wordField : y_wordField.cls = R_M ∧ y_wordField.cls ≠ "java/lang/invoke/MethodHandle" ∧ y_wordField.cls ≠ "java/lang/invoke/VarHandle" ∧ (parseMethodDescriptor y_wordField.desc).map (fun d => d.parameters.length) = some 2 := by decide +kernel
set_option maxHeartbeats 4000000 in
set_option maxRecDepth 100000 in
theorem c_putWord_HOUSE (l : Launch) (D : mD) (E : mE) (h : Nat) (q : Nat → Nat) (sz : Nat) (I : Nat → Int32) (J : Nat → Int64) (B : Nat → Nat → Int32) (G : Nat → Nat → Int64) (V : Nat) (hV : I 42 = nI V) (hV2 : 20 ≤ V) (hV6 : V ≤ 60000) : Met l y_putWord (k_putWord :: lw_tg) (mR 4 85) (va_Pc [.ref h, .ref (D.2.1 2)] (mPre D E h q (I, J, B, G) sz)) (va_Qv (fun (u : mS) => (∀ j, j ≠ 42 → u.1 j = I j) ∧ u.2.1 = J ∧ (∀ j, j ≠ 0 → u.2.2.1 j = B j) ∧ u.2.2.2 = G ∧ (∃ V2, V ≤ V2 + 10 ∧ V2 + 7 ≤ V ∧ u.1 42 = nI V2)) (mPost D E h q (mA E h q sz)) (mA E h q sz)) 0 0 (mA E h q sz) := by
  refine m_enter (by decide) rfl (Nat.le_of_ble_eq_true rfl) (fun p e s m below meth c ls AV QQ H locs hQQ X Y hZ hA hr hlk hml hl => ?_)
  have Y : mH D E (mA E h q sz) s.heap h q I J B G H locs := Y
  have hl : lv_has ls 4 [(0, .ref h), (1, .ref (D.2.1 2))] := hl
  refine lv_aload_n X.1 X.2.1 d_putWord_0 rfl (lv_at hl 0 rfl) ?_
  refine m_get X Y 42 (by decide) lk_w0 (gf_w0 _ _ _) rfl d_putWord_1 ?_
  refine t_eq (show I 42 = nI (V) from hV) ?_
  refine lv_istore_n (lv' := [(2, .int (nI (V))), (0, .ref h), (1, .ref (D.2.1 2))]) X.1 X.2.1 d_putWord_4 rfl hl (by decide) rfl (fun ls hl => ?_)
  refine lv_aload_n X.1 X.2.1 d_putWord_5 rfl (lv_at hl 2 rfl) ?_
  refine m_length (i := 2) X Y hZ (by decide) hml hl.1 ⟨by decide, by decide⟩ (Nat.le_of_ble_eq_true rfl) d_putWord_6 ⟨Nat.le_refl _, Nat.le_refl _⟩ (fun H locs Y => ?_)
  refine t_eq (y := nI 5) (by decide) ?_
  refine lv_iconst (v := (nI 1)) X.1 X.2.1 d_putWord_9 (by decide) ?_
  refine lv_isub X.1 X.2.1 d_putWord_10 ?_
  refine t_eq (y := nI 4) (by decide) ?_
  refine lv_istore_n (lv' := [(3, .int (nI 4)), (2, .int (nI (V))), (0, .ref h), (1, .ref (D.2.1 2))]) X.1 X.2.1 d_putWord_11 rfl hl (by decide) rfl (fun ls hl => ?_)
  have lp4 : ∀ (n1 : Nat) (I5 : Nat → Int32) (B6 : Nat → Nat → Int32) (H : Heap) (locs : List Loc) (ls : Array Slot), n1 ≤ 5 → (∀ j, j ≠ 0 → B6 j = B j) → (∀ j, j ≠ 42 → I5 j = I j) → I5 42 = nI (V - 5 + n1) → mH D E (mA E h q sz) s.heap h q I5 J B6 G H locs → lv_has ls 4 [(3, .int (nI n1 + (-1))), (2, .int (nI (V))), (0, .ref h), (1, .ref (D.2.1 2))] → W p l e (mR 4 85) s m AV below meth c H locs 0 0 QQ (F0 m 12 ls []) := by
    intro n1
    induction n1 with
    | zero =>
      intro  I5 B6 H locs ls hii2  hB7 hI8 hk9  Y hl
      refine lv_iload_n X.1 X.2.1 d_putWord_12 rfl (lv_at hl 0 rfl) ?_
      refine lv_if_lt (tgt := 31) X.1 X.2.1 d_putWord_13 (by decide) (fun c10 => ?_) (fun c10 => absurd ?_ c10)
      rotate_left
      · decide
      refine lv_aload_n X.1 X.2.1 d_putWord_31 rfl (lv_at hl 2 rfl) ?_
      refine lv_bipush (v := (nI 27)) X.1 X.2.1 d_putWord_32 (by decide) ?_
      refine lv_iload_n X.1 X.2.1 d_putWord_34 rfl (lv_at hl 1 rfl) ?_
      refine m_callv (As := [.int (nI 27), .int (nI (V))]) (rest := []) (n := 2) X Y hZ hA hml hl.1 (c_head l D E h q H.size I5 J B6 G (nI 27) (V) (V - 5 + 0) (show I5 42 = nI (V - 5 + 0) from hk9) (by omega) (by omega) (by omega)) kl_head ks_head kx_head ki_head ini_M hd_head ⟨by decide, by decide⟩ rfl (Nat.le_of_ble_eq_true rfl) d_putWord_35 ⟨Nat.le_refl _, Nat.le_refl _⟩ (fun u H locs hp Y => ?_)
      obtain ⟨I11, J12, B13, G14⟩ := u
      obtain ⟨hI15, eJ17, hB16, eG18, hx20⟩ := hp
      dsimp only at hI15 eJ17 hB16 eG18 hx20 Y
      rw [eJ17, eG18] at Y
      have hI21 : (∀ j, j ≠ 42 → I11 j = I j) := fun j h42 => (hI15 j h42).trans ((fun j h42 => (hI8 j h42)) j h42)
      have hB22 : (∀ j, j ≠ 0 → B13 j = B j) := fun j h0 => (hB16 j h0).trans ((fun j h0 => (hB7 j h0)) j h0)
      obtain ⟨V23, hV23a, hV23b, hV23c⟩ := hx20
      exact m_retv hQQ X Y hr hlk ⟨(fun j h42 => (hI21 j h42)), rfl, (fun j h0 => (hB22 j h0)), rfl, ⟨V23, by omega, by omega, (show I11 42 = nI (V23) from hV23c)⟩⟩ d_putWord_38
    | succ n1 ih3 =>
      intro  I5 B6 H locs ls hii2  hB7 hI8 hk9  Y hl
      rw [show nI (n1 + 1) + (-1) = nI n1 from pk_m1 n1] at hl
      refine lv_iload_n X.1 X.2.1 d_putWord_12 rfl (lv_at hl 0 rfl) ?_
      refine lv_if_lt (tgt := 31) X.1 X.2.1 d_putWord_13 (by decide) (fun c24 => absurd c24 ?_) (fun c24 => ?_)
      · (exact nI_pos (by omega))
      rw [← nI_0] at c24
      rw [nI_ltI (by omega) (by omega)] at c24
      refine lv_aload_n X.1 X.2.1 d_putWord_16 rfl (lv_at hl 2 rfl) ?_
      refine lv_aload_n X.1 X.2.1 d_putWord_17 rfl (lv_at hl 3 rfl) ?_
      refine lv_iload_n X.1 X.2.1 d_putWord_18 rfl (lv_at hl 0 rfl) ?_
      refine m_charAt (i := 2) (k := n1) X Y hZ (by decide) (show n1 < 5 by omega) hml hl.1 ⟨by decide, by decide⟩ (Nat.le_of_ble_eq_true rfl) d_putWord_19 ⟨Nat.le_refl _, Nat.le_refl _⟩ (fun H locs Y => ?_)
      refine t_any (fun v25 => ?_)
      refine m_callv (As := [.int v25]) (rest := []) (n := 1) X Y hZ hA hml hl.1 (c_one l D E h q H.size I5 J B6 G v25 (V - 5 + (n1 + 1) - 1) ((show I5 42 = nI (V - 5 + (n1 + 1)) from hk9).trans (congrArg nI (show (V - 5 + (n1 + 1) : Nat) = V - 5 + (n1 + 1) - 1 + 1 by omega))) (by omega)) kl_one ks_one kx_one ki_one ini_M hd_one ⟨by decide, by decide⟩ rfl (Nat.le_of_ble_eq_true rfl) d_putWord_22 ⟨Nat.le_refl _, Nat.le_refl _⟩ (fun u H locs hp Y => ?_)
      obtain ⟨I26, J27, B28, G29⟩ := u
      obtain ⟨hI30, eJ32, hB31, eG33, hk35⟩ := hp
      dsimp only at hI30 eJ32 hB31 eG33 hk35 Y
      rw [eJ32, eG33] at Y
      have hI36 : (∀ j, j ≠ 42 → I26 j = I j) := fun j h42 => (hI30 j h42).trans ((fun j h42 => (hI8 j h42)) j h42)
      have hB37 : (∀ j, j ≠ 0 → B28 j = B j) := fun j h0 => (hB31 j h0).trans ((fun j h0 => (hB7 j h0)) j h0)
      refine lv_iinc (v := (nI n1 + (-1))) (lv' := [(3, .int (nI n1 + (-1))), (2, .int (nI (V))), (0, .ref h), (1, .ref (D.2.1 2))]) X.1 X.2.1 d_putWord_25 hl (k := 0) rfl (congrArg (fun z => nI n1 + z) (by decide)) (by decide) rfl (fun ls hl => ?_)
      refine lv_goto (tgt := 12) X.1 X.2.1 d_putWord_28 (by decide) ?_
      exact ih3  I26 B28 _ _ _ (by omega)  (fun j h0 => (hB37 j h0)) (fun j h42 => (hI36 j h42)) ((show I26 42 = nI ((V - 5 + (n1 + 1) - 1)) from hk35).trans (congrArg nI (show ((V - 5 + (n1 + 1) - 1) : Nat) = V - 5 + n1 by omega)))  Y (lv_sub hl [0, 1, 2, 3] rfl)
  rw [show (nI 4) = nI 5 + (-1) from rfl] at hl
  exact lp4 (5)  I B _ _ _ (by omega)  (fun j h0 => rfl) (fun j h42 => rfl) ((show I 42 = nI (V) from hV).trans (congrArg nI (show (V : Nat) = V - 5 + 5 by omega)))  Y (lv_sub hl [0, 1, 2, 3] rfl)
set_option maxHeartbeats 4000000 in
set_option maxRecDepth 100000 in
theorem c_wordField_HOUSE (l : Launch) (D : mD) (E : mE) (h : Nat) (q : Nat → Nat) (sz : Nat) (I : Nat → Int32) (J : Nat → Int64) (B : Nat → Nat → Int32) (G : Nat → Nat → Int64) (a1 : Int32) (V : Nat) (hV : I 42 = nI V) (hV2 : 25 ≤ V) (hV6 : V ≤ 60000) : Met l y_wordField (k_wordField :: lw_tg) (mR 5 108) (va_Pc [.ref h, .int a1, .ref (D.2.1 2)] (mPre D E h q (I, J, B, G) sz)) (va_Qv (fun (u : mS) => (∀ j, j ≠ 42 → u.1 j = I j) ∧ u.2.1 = J ∧ (∀ j, j ≠ 0 → u.2.2.1 j = B j) ∧ u.2.2.2 = G ∧ (∃ V2, V ≤ V2 + 15 ∧ V2 + 9 ≤ V ∧ u.1 42 = nI V2)) (mPost D E h q (mA E h q sz)) (mA E h q sz)) 0 0 (mA E h q sz) := by
  refine m_enter (by decide) rfl (Nat.le_of_ble_eq_true rfl) (fun p e s m below meth c ls AV QQ H locs hQQ X Y hZ hA hr hlk hml hl => ?_)
  have Y : mH D E (mA E h q sz) s.heap h q I J B G H locs := Y
  have hl : lv_has ls 4 [(0, .ref h), (1, .int a1), (2, .ref (D.2.1 2))] := hl
  refine lv_aload_n X.1 X.2.1 d_wordField_0 rfl (lv_at hl 0 rfl) ?_
  refine m_get X Y 42 (by decide) lk_w0 (gf_w0 _ _ _) rfl d_wordField_1 ?_
  refine t_eq (show I 42 = nI (V) from hV) ?_
  refine lv_istore_n (lv' := [(3, .int (nI (V))), (0, .ref h), (1, .int a1), (2, .ref (D.2.1 2))]) X.1 X.2.1 d_wordField_4 rfl hl (by decide) rfl (fun ls hl => ?_)
  refine lv_aload_n X.1 X.2.1 d_wordField_5 rfl (lv_at hl 1 rfl) ?_
  refine lv_aload_n X.1 X.2.1 d_wordField_6 rfl (lv_at hl 3 rfl) ?_
  refine m_callv (As := [.ref (D.2.1 2)]) (rest := []) (n := 1) X Y hZ hA hml hl.1 (c_putWord_HOUSE l D E h q H.size I J B G (V) (show I 42 = nI (V) from hV) (by omega) (by omega)) kl_putWord ks_putWord kx_putWord ki_putWord ini_M hd_putWord ⟨by decide, by decide⟩ rfl (Nat.le_of_ble_eq_true rfl) d_wordField_7 ⟨Nat.le_refl _, Nat.le_refl _⟩ (fun u H locs hp Y => ?_)
  obtain ⟨I1, J2, B3, G4⟩ := u
  obtain ⟨hI5, eJ7, hB6, eG8, hx10⟩ := hp
  dsimp only at hI5 eJ7 hB6 eG8 hx10 Y
  rw [eJ7, eG8] at Y
  have hI11 : (∀ j, j ≠ 42 → I1 j = I j) := fun j h42 => (hI5 j h42).trans ((fun j h42 => rfl) j h42)
  have hB12 : (∀ j, j ≠ 0 → B3 j = B j) := fun j h0 => (hB6 j h0).trans ((fun j h0 => rfl) j h0)
  obtain ⟨V13, hV13a, hV13b, hV13c⟩ := hx10
  refine lv_aload_n X.1 X.2.1 d_wordField_10 rfl (lv_at hl 1 rfl) ?_
  refine lv_iload_n X.1 X.2.1 d_wordField_11 rfl (lv_at hl 2 rfl) ?_
  refine lv_iload_n X.1 X.2.1 d_wordField_12 rfl (lv_at hl 0 rfl) ?_
  refine m_callv (As := [.int a1, .int (nI (V))]) (rest := []) (n := 2) X Y hZ hA hml hl.1 (c_field l D E h q H.size I1 J B3 G a1 (V) (V13) (show I1 42 = nI (V13) from hV13c) (by omega) (by omega) (by omega)) kl_field ks_field kx_field ki_field ini_M hd_field ⟨by decide, by decide⟩ rfl (Nat.le_of_ble_eq_true rfl) d_wordField_13 ⟨Nat.le_refl _, Nat.le_refl _⟩ (fun u H locs hp Y => ?_)
  obtain ⟨I14, J15, B16, G17⟩ := u
  obtain ⟨hI18, eJ20, hB19, eG21, hx23⟩ := hp
  dsimp only at hI18 eJ20 hB19 eG21 hx23 Y
  rw [eJ20, eG21] at Y
  have hI24 : (∀ j, j ≠ 42 → I14 j = I j) := fun j h42 => (hI18 j h42).trans ((fun j h42 => (hI11 j h42)) j h42)
  have hB25 : (∀ j, j ≠ 0 → B16 j = B j) := fun j h0 => (hB19 j h0).trans ((fun j h0 => (hB12 j h0)) j h0)
  obtain ⟨V26, hV26a, hV26b, hV26c⟩ := hx23
  exact m_retv hQQ X Y hr hlk ⟨(fun j h42 => (hI24 j h42)), rfl, (fun j h0 => (hB25 j h0)), rfl, ⟨V26, by omega, by omega, (show I14 42 = nI (V26) from hV26c)⟩⟩ d_wordField_16
set_option maxHeartbeats 4000000 in
set_option maxRecDepth 100000 in
theorem c_findName (l : Launch) (D : mD) (E : mE) (h : Nat) (q : Nat → Nat) (sz : Nat) (I : Nat → Int32) (J : Nat → Int64) (B : Nat → Nat → Int32) (G : Nat → Nat → Int64) (np ns : Nat) (hnp : I 43 = nI np) (hnp2 : np ≤ 12) (hns : I 54 = nI ns) (hns2 : ns ≤ 40) : Met l y_findName (k_findName :: lw_tg) (mR 0 0) (va_Pc [.ref h] (mPre D E h q (I, J, B, G) sz)) (va_Qi (fun (r : Int32) (u : mS) => (∀ j, u.1 j = I j) ∧ u.2.1 = J ∧ (∀ j, u.2.2.1 j = B j) ∧ u.2.2.2 = G ∧ (r = (-1) ∨ ∃ j, j < np ∧ r = nI j)) (mPost D E h q (mA E h q sz)) (mA E h q sz)) 0 0 (mA E h q sz) := by
  refine m_enter (by decide) rfl (Nat.le_of_ble_eq_true rfl) (fun p e s m below meth c ls AV QQ H locs hQQ X Y hZ hA hr hlk hml hl => ?_)
  have Y : mH D E (mA E h q sz) s.heap h q I J B G H locs := Y
  have hl : lv_has ls 4 [(0, .ref h)] := hl
  refine lv_iconst (v := (nI 0)) X.1 X.2.1 d_findName_0 (by decide) ?_
  refine lv_istore_n (lv' := [(1, .int (nI 0)), (0, .ref h)]) X.1 X.2.1 d_findName_1 rfl hl (by decide) rfl (fun ls hl => ?_)
  have lp4 : ∀ (n1 i2 : Nat)  (H : Heap) (locs : List Loc) (ls : Array Slot), i2 + n1 = np → 0 ≤ i2 → mH D E (mA E h q sz) s.heap h q I J B G H locs → lv_has ls 4 [(1, .int (nI i2)), (0, .ref h)] → W p l e (mR 0 0) s m AV below meth c H locs 0 0 QQ (F0 m 2 ls []) := by
    intro n1
    induction n1 with
    | zero =>
      intro i2  H locs ls hii2 hsi2   Y hl
      refine lv_iload_n X.1 X.2.1 d_findName_2 rfl (lv_at hl 0 rfl) ?_
      refine lv_aload_n X.1 X.2.1 d_findName_3 rfl (lv_at hl 1 rfl) ?_
      refine m_get X Y 43 (by decide) lk_principals (gf_principals _ _ _) rfl d_findName_4 ?_
      refine t_eq (show I 43 = nI (np) from hnp) ?_
      refine lv_icmp_ge (tgt := 87) X.1 X.2.1 d_findName_7 (by decide) (fun c5 => ?_) (fun c5 => absurd ?_ c5)
      rotate_left
      · (rw [nI_leI (by omega) (by omega)] <;> omega)
      rw [nI_leI (by omega) (by omega)] at c5
      refine lv_iconst (v := (-1)) X.1 X.2.1 d_findName_87 (by decide) ?_
      exact m_reti hQQ X Y hr hlk ⟨(fun j  => rfl), rfl, (fun j  => rfl), rfl, Or.inl rfl⟩ d_findName_88
    | succ n1 ih3 =>
      intro i2  H locs ls hii2 hsi2   Y hl
      refine lv_iload_n X.1 X.2.1 d_findName_2 rfl (lv_at hl 0 rfl) ?_
      refine lv_aload_n X.1 X.2.1 d_findName_3 rfl (lv_at hl 1 rfl) ?_
      refine m_get X Y 43 (by decide) lk_principals (gf_principals _ _ _) rfl d_findName_4 ?_
      refine t_eq (show I 43 = nI (np) from hnp) ?_
      refine lv_icmp_ge (tgt := 87) X.1 X.2.1 d_findName_7 (by decide) (fun c6 => absurd c6 ?_) (fun c6 => ?_)
      · (rw [nI_leI (by omega) (by omega)] <;> omega)
      rw [nI_leI (by omega) (by omega)] at c6
      have jn8 : ∀ w7 : Int32, W p l e (mR 0 0) s m AV below meth c H locs 0 0 QQ (F0 m 28 ls [.int w7]) := by
        intro w7
        refine lv_istore_n (lv' := [(2, .int w7), (1, .int (nI i2)), (0, .ref h)]) X.1 X.2.1 d_findName_28 rfl hl (by decide) rfl (fun ls hl => ?_)
        refine lv_iconst (v := (nI 0)) X.1 X.2.1 d_findName_29 (by decide) ?_
        refine lv_istore_n (lv' := [(3, .int (nI 0)), (2, .int w7), (1, .int (nI i2)), (0, .ref h)]) X.1 X.2.1 d_findName_30 rfl hl (by decide) rfl (fun ls hl => ?_)
        have lp12 : ∀ (n9 i10 : Nat) (x13 : Int32) (H : Heap) (locs : List Loc) (ls : Array Slot), i10 + n9 = ns → 0 ≤ i10 → mH D E (mA E h q sz) s.heap h q I J B G H locs → lv_has ls 4 [(3, .int (nI i10)), (2, .int x13), (1, .int (nI i2)), (0, .ref h)] → W p l e (mR 0 0) s m AV below meth c H locs 0 0 QQ (F0 m 31 ls []) := by
          intro n9
          induction n9 with
          | zero =>
            intro i10 x13 H locs ls hii10 hsi10   Y hl
            refine lv_iload_n X.1 X.2.1 d_findName_31 rfl (lv_at hl 0 rfl) ?_
            refine lv_aload_n X.1 X.2.1 d_findName_32 rfl (lv_at hl 3 rfl) ?_
            refine m_get X Y 54 (by decide) lk_nameSize (gf_nameSize _ _ _) rfl d_findName_33 ?_
            refine t_eq (show I 54 = nI (ns) from hns) ?_
            refine lv_icmp_ge (tgt := 75) X.1 X.2.1 d_findName_36 (by decide) (fun c14 => ?_) (fun c14 => absurd ?_ c14)
            rotate_left
            · (rw [nI_leI (by omega) (by omega)] <;> omega)
            rw [nI_leI (by omega) (by omega)] at c14
            refine lv_iload_n X.1 X.2.1 d_findName_75 rfl (lv_at hl 1 rfl) ?_
            refine lv_if_eq (tgt := 81) X.1 X.2.1 d_findName_76 (by decide) (fun c15 => ?_) (fun c15 => ?_)
            · skip
              refine lv_iinc (v := (nI (i2 + 1))) (lv' := [(1, .int (nI (i2 + 1))), (3, .int (nI i10)), (2, .int x13), (0, .ref h)]) X.1 X.2.1 d_findName_81 hl (k := 2) rfl (nI_add _ 1) (by decide) rfl (fun ls hl => ?_)
              refine lv_goto (tgt := 2) X.1 X.2.1 d_findName_84 (by decide) ?_
              exact ih3 (i2 + 1)  _ _ _ (by omega) (by omega)   Y (lv_sub hl [0, 3] rfl)
            · skip
              refine lv_iload_n X.1 X.2.1 d_findName_79 rfl (lv_at hl 2 rfl) ?_
              exact m_reti hQQ X Y hr hlk ⟨(fun j  => rfl), rfl, (fun j  => rfl), rfl, Or.inr ⟨i2, by omega, rfl⟩⟩ d_findName_80
          | succ n9 ih11 =>
            intro i10 x13 H locs ls hii10 hsi10   Y hl
            refine lv_iload_n X.1 X.2.1 d_findName_31 rfl (lv_at hl 0 rfl) ?_
            refine lv_aload_n X.1 X.2.1 d_findName_32 rfl (lv_at hl 3 rfl) ?_
            refine m_get X Y 54 (by decide) lk_nameSize (gf_nameSize _ _ _) rfl d_findName_33 ?_
            refine t_eq (show I 54 = nI (ns) from hns) ?_
            refine lv_icmp_ge (tgt := 75) X.1 X.2.1 d_findName_36 (by decide) (fun c16 => absurd c16 ?_) (fun c16 => ?_)
            · (rw [nI_leI (by omega) (by omega)] <;> omega)
            rw [nI_leI (by omega) (by omega)] at c16
            refine lv_iload_n X.1 X.2.1 d_findName_39 rfl (lv_at hl 1 rfl) ?_
            refine lv_if_eq (tgt := 75) X.1 X.2.1 d_findName_40 (by decide) (fun c17 => ?_) (fun c17 => ?_)
            · skip
              refine lv_iload_n X.1 X.2.1 d_findName_75 rfl (lv_at hl 1 rfl) ?_
              refine lv_if_eq (tgt := 81) X.1 X.2.1 d_findName_76 (by decide) (fun c18 => ?_) (fun c18 => ?_)
              · skip
                refine lv_iinc (v := (nI (i2 + 1))) (lv' := [(1, .int (nI (i2 + 1))), (3, .int (nI i10)), (2, .int x13), (0, .ref h)]) X.1 X.2.1 d_findName_81 hl (k := 2) rfl (nI_add _ 1) (by decide) rfl (fun ls hl => ?_)
                refine lv_goto (tgt := 2) X.1 X.2.1 d_findName_84 (by decide) ?_
                exact ih3 (i2 + 1)  _ _ _ (by omega) (by omega)   Y (lv_sub hl [0, 3] rfl)
              · skip
                refine lv_iload_n X.1 X.2.1 d_findName_79 rfl (lv_at hl 2 rfl) ?_
                exact m_reti hQQ X Y hr hlk ⟨(fun j  => rfl), rfl, (fun j  => rfl), rfl, Or.inr ⟨i2, by omega, rfl⟩⟩ d_findName_80
            · skip
              have jn20 : ∀ w19 : Int32, W p l e (mR 0 0) s m AV below meth c H locs 0 0 QQ (F0 m 68 ls [.int w19]) := by
                intro w19
                refine lv_istore_n (lv' := [(2, .int w19), (3, .int (nI i10)), (1, .int (nI i2)), (0, .ref h)]) X.1 X.2.1 d_findName_68 rfl hl (by decide) rfl (fun ls hl => ?_)
                refine lv_iinc (v := (nI (i10 + 1))) (lv' := [(3, .int (nI (i10 + 1))), (2, .int w19), (1, .int (nI i2)), (0, .ref h)]) X.1 X.2.1 d_findName_69 hl (k := 1) rfl (nI_add _ 1) (by decide) rfl (fun ls hl => ?_)
                refine lv_goto (tgt := 31) X.1 X.2.1 d_findName_72 (by decide) ?_
                exact ih11 (i10 + 1) (w19) _ _ _ (by omega) (by omega)   Y (lv_sub hl [0, 1, 2, 3] rfl)
              refine lv_aload_n X.1 X.2.1 d_findName_43 rfl (lv_at hl 3 rfl) ?_
              refine m_get X Y 44 (by decide) lk_names (gf_names _ _ _) rfl d_findName_44 ?_
              refine lv_bipush (v := (nI 40)) X.1 X.2.1 d_findName_47 (by decide) ?_
              refine lv_iload_n X.1 X.2.1 d_findName_49 rfl (lv_at hl 2 rfl) ?_
              refine lv_imul X.1 X.2.1 d_findName_50 ?_
              refine t_eq (y := nI ((40) * (i2))) (pk_mul _ _) ?_
              refine lv_iload_n X.1 X.2.1 d_findName_51 rfl (lv_at hl 0 rfl) ?_
              refine lv_iadd X.1 X.2.1 d_findName_52 ?_
              refine t_eq (y := nI ((40) * (i2) + i10)) (nI_add _ _) ?_
              refine m_bald X Y (aw_names _ _ _ _ _ _ _) (vp_in_nI (by omega) (by decide)) d_findName_53 ?_
              refine t_any (fun v21 => ?_)
              refine lv_aload_n X.1 X.2.1 d_findName_54 rfl (lv_at hl 3 rfl) ?_
              refine m_get X Y 53 (by decide) lk_name (gf_name _ _ _) rfl d_findName_55 ?_
              refine lv_iload_n X.1 X.2.1 d_findName_58 rfl (lv_at hl 0 rfl) ?_
              refine m_bald X Y (aw_name _ _ _ _ _ _ _) (vp_in_nI (by omega) (by decide)) d_findName_59 ?_
              refine t_any (fun v22 => ?_)
              refine lv_icmp_ne (tgt := 67) X.1 X.2.1 d_findName_60 (by decide) (fun c23 => ?_) (fun c23 => ?_)
              · skip
                refine lv_iconst (v := (nI 0)) X.1 X.2.1 d_findName_67 (by decide) ?_
                exact jn20 _
              · skip
                refine lv_iconst (v := (nI 1)) X.1 X.2.1 d_findName_63 (by decide) ?_
                refine lv_goto (tgt := 68) X.1 X.2.1 d_findName_64 (by decide) ?_
                exact jn20 _
        exact lp12 (ns) 0 (w7) _ _ _ (by omega) (by omega)   Y (lv_sub hl [0, 1, 2, 3] rfl)
      refine lv_aload_n X.1 X.2.1 d_findName_10 rfl (lv_at hl 1 rfl) ?_
      refine m_get X Y 45 (by decide) lk_nameSizes (gf_nameSizes _ _ _) rfl d_findName_11 ?_
      refine lv_iload_n X.1 X.2.1 d_findName_14 rfl (lv_at hl 0 rfl) ?_
      refine m_iald X Y (aw_nameSizes _ _ _ _ _ _ _) (vp_in_nI (by omega) (by decide)) d_findName_15 ?_
      refine t_any (fun v24 => ?_)
      refine lv_aload_n X.1 X.2.1 d_findName_16 rfl (lv_at hl 1 rfl) ?_
      refine m_get X Y 54 (by decide) lk_nameSize (gf_nameSize _ _ _) rfl d_findName_17 ?_
      refine t_eq (show I 54 = nI (ns) from hns) ?_
      refine lv_icmp_ne (tgt := 27) X.1 X.2.1 d_findName_20 (by decide) (fun c25 => ?_) (fun c25 => ?_)
      · skip
        refine lv_iconst (v := (nI 0)) X.1 X.2.1 d_findName_27 (by decide) ?_
        exact jn8 _
      · skip
        refine lv_iconst (v := (nI 1)) X.1 X.2.1 d_findName_23 (by decide) ?_
        refine lv_goto (tgt := 28) X.1 X.2.1 d_findName_24 (by decide) ?_
        exact jn8 _
  exact lp4 (np) 0  _ _ _ (by omega) (by omega)   Y (lv_sub hl [0, 1] rfl)
