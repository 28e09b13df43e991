/-! A long, byte by byte: after c bytes what is left is small; it ends in nine. -/
def PN (c x mr : Int) : Prop := (mr = 0 ∧ 0 ≤ c ∧ c ≤ 9) ∨ (mr = 1 ∧ ((c = 0 ∧ -9223372036854775808 ≤ x ∧ x ≤ 9223372036854775807) ∨ (c = 1 ∧ -36028797018963968 ≤ x ∧ x ≤ 36028797018963967) ∨ (c = 2 ∧ -140737488355328 ≤ x ∧ x ≤ 140737488355327) ∨ (c = 3 ∧ -549755813888 ≤ x ∧ x ≤ 549755813887) ∨ (c = 4 ∧ -2147483648 ≤ x ∧ x ≤ 2147483647) ∨ (c = 5 ∧ -8388608 ≤ x ∧ x ≤ 8388607) ∨ (c = 6 ∧ -32768 ≤ x ∧ x ≤ 32767) ∨ (c = 7 ∧ -128 ≤ x ∧ x ≤ 127) ∨ (c = 8 ∧ -1 ≤ x ∧ x ≤ 0)))
theorem PN_0 {c x : Int} (hc : c = 0) (h : -9223372036854775808 ≤ x ∧ x ≤ 9223372036854775807) : PN c x 1 := .inr ⟨rfl, .inl ⟨hc, h⟩⟩
theorem PN_le {c x mr : Int} (h : PN c x mr) (hm : mr = 1) : 0 ≤ c ∧ c ≤ 8 := by unfold PN at h; omega
theorem PN_step {c c2 x x2 xi la mr mr2 : Int} (hc : c2 = c + 1) (hm : mr = 1) (h : PN c x mr) (hx : x2 = x / 256) (hi : -2147483648 ≤ x → x ≤ 2147483647 → xi = x) (h0 : xi = 0 → la = 0) (h1 : xi = -1 → la = 128) (hm2 : mr2 = 0 ∨ mr2 = 1 ∧ ¬ (x2 = 0 ∧ la = 0) ∧ ¬ (x2 = -1 ∧ la ≠ 0)) : PN c2 x2 mr2 := by
  subst hc hm
  rcases hm2 with e | ⟨e, e1, e2⟩
  · subst e
    have k := PN_le h rfl
    exact .inl ⟨rfl, by omega, by omega⟩
  · subst e
    rcases h with h | ⟨_, h⟩
    · omega
    · refine .inr ⟨rfl, ?_⟩
      rcases h with h | h | h | h | h | h | h | h | h
      · exact .inr (.inl ⟨by omega, by omega, by omega⟩)
      · exact .inr (.inr (.inl ⟨by omega, by omega, by omega⟩))
      · exact .inr (.inr (.inr (.inl ⟨by omega, by omega, by omega⟩)))
      · exact .inr (.inr (.inr (.inr (.inl ⟨by omega, by omega, by omega⟩))))
      · exact .inr (.inr (.inr (.inr (.inr (.inl ⟨by omega, by omega, by omega⟩)))))
      · exact .inr (.inr (.inr (.inr (.inr (.inr (.inl ⟨by omega, by omega, by omega⟩))))))
      · exact .inr (.inr (.inr (.inr (.inr (.inr (.inr (.inl ⟨by omega, by omega, by omega⟩)))))))
      · exact .inr (.inr (.inr (.inr (.inr (.inr (.inr (.inr (⟨by omega, by omega, by omega⟩))))))))
      · have e3 : xi = x := hi (by omega) (by omega)
        rcases (show x = 0 ∨ x = -1 by omega) with e4 | e4
        · exact absurd ⟨by omega, h0 (by omega)⟩ e1
        · exact absurd ⟨by omega, by have := h1 (by omega); omega⟩ e2
set_option maxHeartbeats 4000000 in
set_option maxRecDepth 100000 in
theorem r_M_one (l : Launch) (D : mD) (E : mE) (h : Nat) (q : Nat → Nat) (sz : Nat) (I : Nat → Int32) (J : Nat → Int64) (B : Nat → Nat → Int32) (G : Nat → Nat → Int64) (a1 : Int) (l_a1 : (-2147483648) ≤ a1) (u_a1 : a1 ≤ 2147483647) (hT : rT I B) (wn : Int) (gwn : I 42 = iI wn) (lwn : 30001 ≤ wn) (uwn : wn ≤ 60000) : Met l y_M_one (k_M_one :: lw_tg) (mR 1 60) (va_Pc [.ref h, .int (iI a1)] (mPre D E h q (I, J, B, G) sz)) (va_Qv (rPv [42] [0] I B (fun (u : mS) => u.1 42 = iI (wn - 1) ∧ mmF 30000 60000 (B 0) (u.2.2.1 0))) (mPost D E h q (mA E h q sz)) (mA E h q sz)) 0 0 (mA E h q sz) := by
  refine m_enter (by decide) rfl (Nat.le_of_ble_eq_true rfl) (fun p e s m below meth c ls AV QQ H locs hQQ X Y hZ hA hr hlk hml hl => ?_)
  have Y : mH D E (mA E h q sz) s.heap h q I J B G H locs := Y
  have S : rS [42] [0] I B I B := rS_rf hT
  have hl : lv_has ls 2 [(0, .ref h), (1, .int (iI a1))] := hl
  refine lv_aload_n X.1 X.2.1 d_M_one_0 rfl (lv_at hl 0 rfl) ?_
  refine lv_dup X.1 X.2.1 d_M_one_1 rfl ?_
  refine r_get0 X Y (by decide) lk_w0 (gf_w0 _ _ _) rfl gwn d_M_one_2 ?_
  refine lv_iconst (v := iI 1) X.1 X.2.1 d_M_one_5 (by decide) ?_
  refine z_isub X.1 X.2.1 d_M_one_6 ?_
  refine r_puti (k := 42) X Y S (by decide) lk_w0 rfl rfl (t_M_ok 42 (by decide)) rfl rfl (sf_w0 _ _ _ _) (Nat.le_of_ble_eq_true rfl) rfl (show (0 : Int) ≤ wn - 1 by omega) (show wn - 1 ≤ (60000 : Int) by omega) ⟨by omega, by omega⟩ (by decide) d_M_one_7 (fun I101 H locs Y S w101 => ?_)
  refine lv_aload_n X.1 X.2.1 d_M_one_10 rfl (lv_at hl 0 rfl) ?_
  refine m_get X Y 0 (by decide) lk_mem (gf_mem _ _ _) rfl d_M_one_11 ?_
  refine lv_aload_n X.1 X.2.1 d_M_one_14 rfl (lv_at hl 0 rfl) ?_
  refine r_get0 X Y (by decide) lk_w0 (gf_w0 _ _ _) rfl w101.1 d_M_one_15 ?_
  refine lv_iload_n X.1 X.2.1 d_M_one_18 rfl (lv_at hl 1 rfl) ?_
  refine lv_i2b X.1 X.2.1 d_M_one_19 rfl ?_
  refine t_u (fun z102 l102 u102 => ?_)
  refine r_bast X Y S (aw_mem _ _ _ _ _ _ _) (sw_mem _ _ _ _ _ _ _) rfl (by omega) (show wn - 1 < ((60000 : Nat) : Int) by omega) (by omega) (by decide) d_M_one_20 (fun B103 H locs Y S w103 => ?_)
  have f104 : mmF 30000 60000 (B 0) (B103 0) := mmF_w (mmF_cg rfl mmF_rf) w103 (by omega) (by omega)
  exact m_retv hQQ X Y hr hlk ⟨S, ⟨((w101.1).trans (congrArg iI (show (wn - 1 : Int) = wn - 1 by omega))), f104⟩⟩ d_M_one_21
set_option maxHeartbeats 4000000 in
set_option maxRecDepth 100000 in
theorem r_M_head (l : Launch) (D : mD) (E : mE) (h : Nat) (q : Nat → Nat) (sz : Nat) (I : Nat → Int32) (J : Nat → Int64) (B : Nat → Nat → Int32) (G : Nat → Nat → Int64) (a1 : Int) (l_a1 : (-2147483648) ≤ a1) (u_a1 : a1 ≤ 2147483647) (a2 : Int) (l_a2 : 0 ≤ a2) (u_a2 : a2 ≤ 60000) (hT : rT I B) (wn : Int) (gwn : I 42 = iI wn) (lwn : 30010 ≤ wn) (uwn : wn ≤ 60000) : Met l y_M_head (k_M_head :: lw_tg) (mR 2 81) (va_Pc [.ref h, .int (iI a1), .int (iI a2)] (mPre D E h q (I, J, B, G) sz)) (va_Qv (rPv [42] [0] I B (fun (u : mS) => (∃ V2 : Int, u.1 42 = iI V2 ∧ wn - (4) ≤ V2 ∧ V2 ≤ wn) ∧ mmF 30000 60000 (B 0) (u.2.2.1 0))) (mPost D E h q (mA E h q sz)) (mA E h q sz)) 0 0 (mA E h q sz) := by
  refine m_enter (by decide) rfl (Nat.le_of_ble_eq_true rfl) (fun p e s m below meth c ls AV QQ H locs hQQ X Y hZ hA hr hlk hml hl => ?_)
  have Y : mH D E (mA E h q sz) s.heap h q I J B G H locs := Y
  have S : rS [42] [0] I B I B := rS_rf hT
  have hl : lv_has ls 6 [(0, .ref h), (1, .int (iI a1)), (2, .int (iI a2))] := hl
  refine lv_iload_n X.1 X.2.1 d_M_head_0 rfl (lv_at hl 2 rfl) ?_
  refine lv_aload_n X.1 X.2.1 d_M_head_1 rfl (lv_at hl 0 rfl) ?_
  refine r_get0 X Y (by decide) lk_w0 (gf_w0 _ _ _) rfl gwn d_M_head_2 ?_
  refine z_isub X.1 X.2.1 d_M_head_5 ?_
  refine lv_istore_n (lv' := [(3, .int (iI (a2 - wn))), (0, .ref h), (1, .int (iI a1)), (2, .int (iI a2))]) X.1 X.2.1 d_M_head_6 rfl hl (by decide) rfl (fun ls hl => ?_)
  refine lv_iload_n X.1 X.2.1 d_M_head_7 rfl (lv_at hl 0 rfl) ?_
  refine lv_bipush (v := iI 127) X.1 X.2.1 d_M_head_8 (by decide) ?_
  have J106 : ∀ (z103 : Int) (I101 : Nat → Int32) (J101 : Nat → Int64) (B101 : Nat → Nat → Int32) (G101 : Nat → Nat → Int64) (H : Heap) (locs : List Loc) (ls : Array Slot), (mmF 30000 60000 (B 0) (B101 0)) → (I101 42 = iI z103) → (0 ≤ z103) → (z103 ≤ 60000) → (wn - 3 ≤ z103) → (z103 ≤ wn) → mH D E (mA E h q sz) s.heap h q I101 J101 B101 G101 H locs → rS [42] [0] I B I101 B101 → lv_has ls 6 [(0, .ref h), (1, .int (iI a1))] → W p l e (mR 2 81) s m AV below meth c H locs 0 0 QQ (F0 m 61 ls []) := by
    intro z103 I101 J101 B101 G101 H locs ls f102 e103 l103 u103 i104 i105 Y S hl
    refine lv_aload_n X.1 X.2.1 d_M_head_61 rfl (lv_at hl 0 rfl) ?_
    refine lv_iload_n X.1 X.2.1 d_M_head_62 rfl (lv_at hl 1 rfl) ?_
    refine r_nv (m_run (As := [.int (iI a1)]) (rest := []) (n := 1) X Y hZ hA hml hl.1 (r_M_one l D E h q H.size I101 J101 B101 G101 a1 (by omega) (by omega) S.1 z103 e103 (by omega) (by omega)) kl_M_one ks_M_one kx_M_one ki_M_one ini_M hd_M_one ⟨Nat.le_of_ble_eq_true rfl, Nat.le_of_ble_eq_true rfl⟩ rfl (Nat.le_of_ble_eq_true rfl) d_M_head_63 ⟨Nat.le_refl _, Nat.le_refl _⟩) X Y hA S (by decide) (by decide) (fun u H locs Y S s110 p110 => ?_)
    obtain ⟨I110, J110, B110, G110⟩ := u
    dsimp only at Y S s110 p110
    obtain ⟨x110, g110_MF⟩ := p110
    exact m_retv hQQ X Y hr hlk ⟨S, ⟨⟨z103 - 1, (x110.trans (congrArg iI (show (z103 - 1 : Int) = z103 - 1 by omega))), by omega, by omega⟩, (mmF_tr f102 g110_MF (by decide))⟩⟩ d_M_head_66
  refine z_icmp_le (tgt := 56) X.1 X.2.1 d_M_head_10 (by decide) ⟨by omega, by omega⟩ ⟨by omega, by omega⟩ (fun h111 => ?_) (fun h111 => ?_)
  · refine lv_aload_n X.1 X.2.1 d_M_head_56 rfl (lv_at hl 1 rfl) ?_
    refine lv_iload_n X.1 X.2.1 d_M_head_57 rfl (lv_at hl 0 rfl) ?_
    refine r_nv (m_run (As := [.int (iI (a2 - wn))]) (rest := []) (n := 1) X Y hZ hA hml hl.1 (r_M_one l D E h q H.size I J B G (a2 - wn) (by omega) (by omega) S.1 wn gwn (by omega) (by omega)) kl_M_one ks_M_one kx_M_one ki_M_one ini_M hd_M_one ⟨Nat.le_of_ble_eq_true rfl, Nat.le_of_ble_eq_true rfl⟩ rfl (Nat.le_of_ble_eq_true rfl) d_M_head_58 ⟨Nat.le_refl _, Nat.le_refl _⟩) X Y hA S (by decide) (by decide) (fun u H locs Y S s112 p112 => ?_)
    obtain ⟨I112, J112, B112, G112⟩ := u
    dsimp only at Y S s112 p112
    obtain ⟨x112, g112_MF⟩ := p112
    exact J106 (wn - 1) I112 J112 B112 G112 _ _ _ (mmF_tr mmF_rf g112_MF (by decide)) (x112.trans (congrArg iI (show (wn - 1 : Int) = wn - 1 by omega))) (by omega) (by omega) (by omega) (by omega) Y S (lv_sub hl [1, 2] rfl)
  · refine lv_iconst (v := iI 0) X.1 X.2.1 d_M_head_13 (by decide) ?_
    refine lv_istore (lv' := [(4, .int (iI 0)), (3, .int (iI (a2 - wn))), (0, .ref h), (1, .int (iI a1)), (2, .int (iI a2))]) X.1 X.2.1 d_M_head_14 hl (by decide) rfl (fun ls hl => ?_)
    refine lv_iload_n X.1 X.2.1 d_M_head_16 rfl (lv_at hl 1 rfl) ?_
    have J120 : ∀ (n122 : Nat) (z114 : Int) (z115 : Int) (z117 : Int) (I113 : Nat → Int32) (J113 : Nat → Int64) (B113 : Nat → Nat → Int32) (G113 : Nat → Nat → Int64) (H : Heap) (locs : List Loc) (ls : Array Slot), (z115).toNat = n122 → (0 ≤ z114) → (z114 ≤ 2) → (0 ≤ z115) → (z115 ≤ 29990) → (mmF 30000 60000 (B 0) (B113 0)) → (I113 42 = iI z117) → (0 ≤ z117) → (z117 ≤ 60000) → (z114 = 0 ∨ z114 = 1 ∧ z115 < 256 ∨ z114 = 2 ∧ z115 < 1) → (z117 = wn - z114) → mH D E (mA E h q sz) s.heap h q I113 J113 B113 G113 H locs → rS [42] [0] I B I113 B113 → lv_has ls 6 [(0, .ref h), (1, .int (iI a1)), (4, .int (iI z114)), (5, .int (iI z115))] → W p l e (mR 2 81) s m AV below meth c H locs 0 0 QQ (F0 m 19 ls []) := by
      intro n122
      induction n122 using Nat.strongRecOn with
      | ind n122 ih121 =>
        intro z114 z115 z117 I113 J113 B113 G113 H locs ls hm123 l114 u114 l115 u115 f116 e117 l117 u117 i118 i119 Y S hl
        refine lv_iload X.1 X.2.1 d_M_head_19 (lv_at hl 3 rfl) ?_
        refine z_if_le (tgt := 43) X.1 X.2.1 d_M_head_21 (by decide) ⟨by omega, by omega⟩ (fun h124 => ?_) (fun h124 => ?_)
        · refine lv_aload_n X.1 X.2.1 d_M_head_43 rfl (lv_at hl 0 rfl) ?_
          refine lv_sipush (v := iI 128) X.1 X.2.1 d_M_head_44 (by decide) ?_
          refine lv_iload X.1 X.2.1 d_M_head_47 (lv_at hl 2 rfl) ?_
          refine z_iadd X.1 X.2.1 d_M_head_49 ?_
          refine r_nv (m_run (As := [.int (iI (128 + z114))]) (rest := []) (n := 1) X Y hZ hA hml hl.1 (r_M_one l D E h q H.size I113 J113 B113 G113 (128 + z114) (by omega) (by omega) S.1 z117 e117 (by omega) (by omega)) kl_M_one ks_M_one kx_M_one ki_M_one ini_M hd_M_one ⟨Nat.le_of_ble_eq_true rfl, Nat.le_of_ble_eq_true rfl⟩ rfl (Nat.le_of_ble_eq_true rfl) d_M_head_50 ⟨Nat.le_refl _, Nat.le_refl _⟩) X Y hA S (by decide) (by decide) (fun u H locs Y S s125 p125 => ?_)
          obtain ⟨I125, J125, B125, G125⟩ := u
          dsimp only at Y S s125 p125
          obtain ⟨x125, g125_MF⟩ := p125
          refine lv_goto (tgt := 61) X.1 X.2.1 d_M_head_53 (by decide) ?_
          exact J106 (z117 - 1) I125 J125 B125 G125 _ _ _ (mmF_tr f116 g125_MF (by decide)) (x125.trans (congrArg iI (show (z117 - 1 : Int) = z117 - 1 by omega))) (by omega) (by omega) (by omega) (by omega) Y S (lv_sub hl [0, 1] rfl)
        · refine lv_aload_n X.1 X.2.1 d_M_head_24 rfl (lv_at hl 0 rfl) ?_
          refine lv_iload X.1 X.2.1 d_M_head_25 (lv_at hl 3 rfl) ?_
          refine r_nv (m_run (As := [.int (iI z115)]) (rest := []) (n := 1) X Y hZ hA hml hl.1 (r_M_one l D E h q H.size I113 J113 B113 G113 z115 (by omega) (by omega) S.1 z117 e117 (by omega) (by omega)) kl_M_one ks_M_one kx_M_one ki_M_one ini_M hd_M_one ⟨Nat.le_of_ble_eq_true rfl, Nat.le_of_ble_eq_true rfl⟩ rfl (Nat.le_of_ble_eq_true rfl) d_M_head_27 ⟨Nat.le_refl _, Nat.le_refl _⟩) X Y hA S (by decide) (by decide) (fun u H locs Y S s126 p126 => ?_)
          obtain ⟨I126, J126, B126, G126⟩ := u
          dsimp only at Y S s126 p126
          obtain ⟨x126, g126_MF⟩ := p126
          refine lv_iinc (v := iI (z114 + 1)) (lv' := [(4, .int (iI (z114 + 1))), (0, .ref h), (1, .int (iI a1)), (5, .int (iI z115))]) X.1 X.2.1 d_M_head_30 hl (k := 2) rfl ((iI_add _ _).trans (congrArg iI (by omega))) (by decide) rfl (fun ls hl => ?_)
          refine lv_iload X.1 X.2.1 d_M_head_33 (lv_at hl 3 rfl) ?_
          refine lv_bipush (v := iI 8) X.1 X.2.1 d_M_head_35 (by decide) ?_
          refine z_ishr 8 256 X.1 X.2.1 (by omega) (by omega) (by decide) rfl d_M_head_37 ?_
          refine lv_istore (lv' := [(5, .int (iI (z115 / 256))), (4, .int (iI (z114 + 1))), (0, .ref h), (1, .int (iI a1))]) X.1 X.2.1 d_M_head_38 hl (by decide) rfl (fun ls hl => ?_)
          refine lv_goto (tgt := 19) X.1 X.2.1 d_M_head_40 (by decide) ?_
          exact ih121 ((z115 / 256).toNat) (by omega) (z114 + 1) (z115 / 256) (z117 - 1) I126 J126 B126 G126 _ _ _ rfl (by omega) (by omega) (by omega) (by omega) (mmF_tr f116 g126_MF (by decide)) (x126.trans (congrArg iI (show (z117 - 1 : Int) = z117 - 1 by omega))) (by omega) (by omega) (by omega) (by omega) Y S (lv_sub hl [2, 3, 1, 0] rfl)
    refine lv_istore (lv' := [(5, .int (iI (a2 - wn))), (4, .int (iI 0)), (3, .int (iI (a2 - wn))), (0, .ref h), (1, .int (iI a1)), (2, .int (iI a2))]) X.1 X.2.1 d_M_head_17 hl (by decide) rfl (fun ls hl => ?_)
    exact J120 _ 0 (a2 - wn) wn I J B G _ _ _ rfl (by omega) (by omega) (by omega) (by omega) mmF_rf gwn (by omega) (by omega) (by omega) (by omega) Y S (lv_sub hl [3, 4, 1, 0] rfl)
set_option maxHeartbeats 4000000 in
set_option maxRecDepth 100000 in
theorem r_M_field (l : Launch) (D : mD) (E : mE) (h : Nat) (q : Nat → Nat) (sz : Nat) (I : Nat → Int32) (J : Nat → Int64) (B : Nat → Nat → Int32) (G : Nat → Nat → Int64) (a1 : Int) (l_a1 : (-2147483648) ≤ a1) (u_a1 : a1 ≤ 2147483647) (a2 : Int) (l_a2 : 0 ≤ a2) (u_a2 : a2 ≤ 60000) (hT : rT I B) (wn : Int) (gwn : I 42 = iI wn) (lwn : 30010 ≤ wn) (uwn : wn ≤ 60000) : Met l y_M_field (k_M_field :: lw_tg) (mR 3 106) (va_Pc [.ref h, .int (iI a1), .int (iI a2)] (mPre D E h q (I, J, B, G) sz)) (va_Qv (rPv [42] [0] I B (fun (u : mS) => (∃ V2 : Int, u.1 42 = iI V2 ∧ wn - (4) ≤ V2 ∧ V2 ≤ wn) ∧ mmF 30000 60000 (B 0) (u.2.2.1 0))) (mPost D E h q (mA E h q sz)) (mA E h q sz)) 0 0 (mA E h q sz) := by
  refine m_enter (by decide) rfl (Nat.le_of_ble_eq_true rfl) (fun p e s m below meth c ls AV QQ H locs hQQ X Y hZ hA hr hlk hml hl => ?_)
  have Y : mH D E (mA E h q sz) s.heap h q I J B G H locs := Y
  have S : rS [42] [0] I B I B := rS_rf hT
  have hl : lv_has ls 3 [(0, .ref h), (1, .int (iI a1)), (2, .int (iI a2))] := hl
  refine lv_aload_n X.1 X.2.1 d_M_field_0 rfl (lv_at hl 0 rfl) ?_
  refine lv_sipush (v := iI 160) X.1 X.2.1 d_M_field_1 (by decide) ?_
  refine lv_iload_n X.1 X.2.1 d_M_field_4 rfl (lv_at hl 1 rfl) ?_
  refine lv_iadd X.1 X.2.1 d_M_field_5 ?_
  refine t_u (fun z101 l101 u101 => ?_)
  refine lv_iload_n X.1 X.2.1 d_M_field_6 rfl (lv_at hl 2 rfl) ?_
  refine r_nv (m_run (As := [.int (iI z101), .int (iI a2)]) (rest := []) (n := 2) X Y hZ hA hml hl.1 (r_M_head l D E h q H.size I J B G z101 (by omega) (by omega) a2 (by omega) (by omega) S.1 wn gwn (by omega) (by omega)) kl_M_head ks_M_head kx_M_head ki_M_head ini_M hd_M_head ⟨Nat.le_of_ble_eq_true rfl, Nat.le_of_ble_eq_true rfl⟩ rfl (Nat.le_of_ble_eq_true rfl) d_M_field_7 ⟨Nat.le_refl _, Nat.le_refl _⟩) X Y hA S (by decide) (by decide) (fun u H locs Y S s102 p102 => ?_)
  obtain ⟨I102, J102, B102, G102⟩ := u
  dsimp only at Y S s102 p102
  obtain ⟨x102, g102_MF⟩ := p102
  obtain ⟨z103, e103, l103, u103⟩ := x102
  exact m_retv hQQ X Y hr hlk ⟨S, ⟨⟨z103, e103, by omega, by omega⟩, (mmF_tr mmF_rf g102_MF (by decide))⟩⟩ d_M_field_10
set_option maxHeartbeats 4000000 in
set_option maxRecDepth 100000 in
theorem r_M_putWord (l : Launch) (D : mD) (E : mE) (h : Nat) (q : Nat → Nat) (sz : Nat) (I : Nat → Int32) (J : Nat → Int64) (B : Nat → Nat → Int32) (G : Nat → Nat → Int64) (a1 : Nat) (k1 : a1 < nZ) (hT : rT I B) (wn : Int) (gwn : I 42 = iI wn) (lwn : 30100 ≤ wn) (uwn : wn ≤ 60000) : Met l y_M_putWord (k_M_putWord :: lw_tg) (mR 4 106) (va_Pc [.ref h, .ref (D.2.1 a1)] (mPre D E h q (I, J, B, G) sz)) (va_Qv (rPv [42] [0] I B (fun (u : mS) => (∃ V2 : Int, u.1 42 = iI V2 ∧ wn - (70) ≤ V2 ∧ V2 ≤ wn) ∧ mmF 30000 60000 (B 0) (u.2.2.1 0))) (mPost D E h q (mA E h q sz)) (mA E h q sz)) 0 0 (mA E h q sz) := by
  refine m_enter (by decide) rfl (Nat.le_of_ble_eq_true rfl) (fun p e s m below meth c ls AV QQ H locs hQQ X Y hZ hA hr hlk hml hl => ?_)
  have Y : mH D E (mA E h q sz) s.heap h q I J B G H locs := Y
  have S : rS [42] [0] I B I B := rS_rf hT
  have hl : lv_has ls 4 [(0, .ref h), (1, .ref ((D.2.1 a1)))] := hl
  refine lv_aload_n X.1 X.2.1 d_M_putWord_0 rfl (lv_at hl 0 rfl) ?_
  refine r_get0 X Y (by decide) lk_w0 (gf_w0 _ _ _) rfl gwn d_M_putWord_1 ?_
  refine lv_istore_n (lv' := [(2, .int (iI wn)), (0, .ref h), (1, .ref ((D.2.1 a1)))]) X.1 X.2.1 d_M_putWord_4 rfl hl (by decide) rfl (fun ls hl => ?_)
  refine lv_aload_n X.1 X.2.1 d_M_putWord_5 rfl (lv_at hl 2 rfl) ?_
  refine r_length (i := a1) X Y hZ k1 hml hl.1 ⟨Nat.le_of_ble_eq_true rfl, Nat.le_of_ble_eq_true rfl⟩ (Nat.le_of_ble_eq_true rfl) d_M_putWord_6 ⟨Nat.le_refl _, Nat.le_refl _⟩ (fun H locs Y => ?_)
  have y101 := zn_64 a1 k1
  refine lv_iconst (v := iI 1) X.1 X.2.1 d_M_putWord_9 (by decide) ?_
  refine z_isub X.1 X.2.1 d_M_putWord_10 ?_
  have J108 : ∀ (n110 : Nat) (z103 : Int) (z105 : Int) (I102 : Nat → Int32) (J102 : Nat → Int64) (B102 : Nat → Nat → Int32) (G102 : Nat → Nat → Int64) (H : Heap) (locs : List Loc) (ls : Array Slot), (z103 - (-1)).toNat = n110 → ((-1) ≤ z103) → (z103 ≤ 63) → (mmF 30000 60000 (B 0) (B102 0)) → (I102 42 = iI z105) → (0 ≤ z105) → (z105 ≤ 60000) → (z105 = wn - ((zn a1 : Int) - 1 - z103)) → (z103 ≤ (zn a1 : Int) - 1) → mH D E (mA E h q sz) s.heap h q I102 J102 B102 G102 H locs → rS [42] [0] I B I102 B102 → lv_has ls 4 [(0, .ref h), (1, .ref ((D.2.1 a1))), (2, .int (iI wn)), (3, .int (iI z103))] → W p l e (mR 4 106) s m AV below meth c H locs 0 0 QQ (F0 m 12 ls []) := by
    intro n110
    induction n110 using Nat.strongRecOn with
    | ind n110 ih109 =>
      intro z103 z105 I102 J102 B102 G102 H locs ls hm111 l103 u103 f104 e105 l105 u105 i106 i107 Y S hl
      refine lv_iload_n X.1 X.2.1 d_M_putWord_12 rfl (lv_at hl 3 rfl) ?_
      refine z_if_lt (tgt := 31) X.1 X.2.1 d_M_putWord_13 (by decide) ⟨by omega, by omega⟩ (fun h112 => ?_) (fun h112 => ?_)
      · refine lv_aload_n X.1 X.2.1 d_M_putWord_31 rfl (lv_at hl 0 rfl) ?_
        refine lv_bipush (v := iI 27) X.1 X.2.1 d_M_putWord_32 (by decide) ?_
        refine lv_iload_n X.1 X.2.1 d_M_putWord_34 rfl (lv_at hl 2 rfl) ?_
        refine r_nv (m_run (As := [.int (iI 27), .int (iI wn)]) (rest := []) (n := 2) X Y hZ hA hml hl.1 (r_M_head l D E h q H.size I102 J102 B102 G102 27 (by omega) (by omega) wn (by omega) (by omega) S.1 z105 e105 (by omega) (by omega)) kl_M_head ks_M_head kx_M_head ki_M_head ini_M hd_M_head ⟨Nat.le_of_ble_eq_true rfl, Nat.le_of_ble_eq_true rfl⟩ rfl (Nat.le_of_ble_eq_true rfl) d_M_putWord_35 ⟨Nat.le_refl _, Nat.le_refl _⟩) X Y hA S (by decide) (by decide) (fun u H locs Y S s113 p113 => ?_)
        obtain ⟨I113, J113, B113, G113⟩ := u
        dsimp only at Y S s113 p113
        obtain ⟨x113, g113_MF⟩ := p113
        obtain ⟨z114, e114, l114, u114⟩ := x113
        exact m_retv hQQ X Y hr hlk ⟨S, ⟨⟨z114, e114, by omega, by omega⟩, (mmF_tr f104 g113_MF (by decide))⟩⟩ d_M_putWord_38
      · refine lv_aload_n X.1 X.2.1 d_M_putWord_16 rfl (lv_at hl 0 rfl) ?_
        refine lv_aload_n X.1 X.2.1 d_M_putWord_17 rfl (lv_at hl 1 rfl) ?_
        refine lv_iload_n X.1 X.2.1 d_M_putWord_18 rfl (lv_at hl 3 rfl) ?_
        refine r_charAt (i := a1) X Y hZ k1 (by omega) (by omega) hml hl.1 ⟨Nat.le_of_ble_eq_true rfl, Nat.le_of_ble_eq_true rfl⟩ (Nat.le_of_ble_eq_true rfl) d_M_putWord_19 ⟨Nat.le_refl _, Nat.le_refl _⟩ (fun H locs z115 Y e115 l115 u115 => ?_)
        refine r_nv (m_run (As := [.int (iI z115)]) (rest := []) (n := 1) X Y hZ hA hml hl.1 (r_M_one l D E h q H.size I102 J102 B102 G102 z115 (by omega) (by omega) S.1 z105 e105 (by omega) (by omega)) kl_M_one ks_M_one kx_M_one ki_M_one ini_M hd_M_one ⟨Nat.le_of_ble_eq_true rfl, Nat.le_of_ble_eq_true rfl⟩ rfl (Nat.le_of_ble_eq_true rfl) d_M_putWord_22 ⟨Nat.le_refl _, Nat.le_refl _⟩) X Y hA S (by decide) (by decide) (fun u H locs Y S s116 p116 => ?_)
        obtain ⟨I116, J116, B116, G116⟩ := u
        dsimp only at Y S s116 p116
        obtain ⟨x116, g116_MF⟩ := p116
        refine lv_iinc (v := iI (z103 - 1)) (lv' := [(3, .int (iI (z103 - 1))), (0, .ref h), (1, .ref ((D.2.1 a1))), (2, .int (iI wn))]) X.1 X.2.1 d_M_putWord_25 hl (k := 3) rfl ((iI_add _ _).trans (congrArg iI (by omega))) (by decide) rfl (fun ls hl => ?_)
        refine lv_goto (tgt := 12) X.1 X.2.1 d_M_putWord_28 (by decide) ?_
        exact ih109 (((z103 - 1) - (-1)).toNat) (by omega) (z103 - 1) (z105 - 1) I116 J116 B116 G116 _ _ _ rfl (by omega) (by omega) (mmF_tr f104 g116_MF (by decide)) (x116.trans (congrArg iI (show (z105 - 1 : Int) = z105 - 1 by omega))) (by omega) (by omega) (by omega) (by omega) Y S (lv_sub hl [1, 2, 3, 0] rfl)
  refine lv_istore_n (lv' := [(3, .int (iI (((zn a1 : Int)) - 1))), (2, .int (iI wn)), (0, .ref h), (1, .ref ((D.2.1 a1)))]) X.1 X.2.1 d_M_putWord_11 rfl hl (by decide) rfl (fun ls hl => ?_)
  exact J108 _ (((zn a1 : Int)) - 1) wn I J B G _ _ _ rfl (by omega) (by omega) mmF_rf gwn (by omega) (by omega) (by omega) (by omega) Y S (lv_sub hl [2, 3, 1, 0] rfl)
set_option maxHeartbeats 4000000 in
set_option maxRecDepth 100000 in
theorem r_M_wordField (l : Launch) (D : mD) (E : mE) (h : Nat) (q : Nat → Nat) (sz : Nat) (I : Nat → Int32) (J : Nat → Int64) (B : Nat → Nat → Int32) (G : Nat → Nat → Int64) (a1 : Int) (l_a1 : (-2147483648) ≤ a1) (u_a1 : a1 ≤ 2147483647) (a2 : Nat) (k2 : a2 < nZ) (hT : rT I B) (wn : Int) (gwn : I 42 = iI wn) (lwn : 30200 ≤ wn) (uwn : wn ≤ 60000) : Met l y_M_wordField (k_M_wordField :: lw_tg) (mR 5 129) (va_Pc [.ref h, .int (iI a1), .ref (D.2.1 a2)] (mPre D E h q (I, J, B, G) sz)) (va_Qv (rPv [42] [0] I B (fun (u : mS) => (∃ V2 : Int, u.1 42 = iI V2 ∧ wn - (80) ≤ V2 ∧ V2 ≤ wn) ∧ mmF 30000 60000 (B 0) (u.2.2.1 0))) (mPost D E h q (mA E h q sz)) (mA E h q sz)) 0 0 (mA E h q sz) := by
  refine m_enter (by decide) rfl (Nat.le_of_ble_eq_true rfl) (fun p e s m below meth c ls AV QQ H locs hQQ X Y hZ hA hr hlk hml hl => ?_)
  have Y : mH D E (mA E h q sz) s.heap h q I J B G H locs := Y
  have S : rS [42] [0] I B I B := rS_rf hT
  have hl : lv_has ls 4 [(0, .ref h), (1, .int (iI a1)), (2, .ref ((D.2.1 a2)))] := hl
  refine lv_aload_n X.1 X.2.1 d_M_wordField_0 rfl (lv_at hl 0 rfl) ?_
  refine r_get0 X Y (by decide) lk_w0 (gf_w0 _ _ _) rfl gwn d_M_wordField_1 ?_
  refine lv_istore_n (lv' := [(3, .int (iI wn)), (0, .ref h), (1, .int (iI a1)), (2, .ref ((D.2.1 a2)))]) X.1 X.2.1 d_M_wordField_4 rfl hl (by decide) rfl (fun ls hl => ?_)
  refine lv_aload_n X.1 X.2.1 d_M_wordField_5 rfl (lv_at hl 1 rfl) ?_
  refine lv_aload_n X.1 X.2.1 d_M_wordField_6 rfl (lv_at hl 3 rfl) ?_
  refine r_nv (m_run (As := [.ref ((D.2.1 a2))]) (rest := []) (n := 1) X Y hZ hA hml hl.1 (r_M_putWord l D E h q H.size I J B G a2 k2 S.1 wn gwn (by omega) (by omega)) kl_M_putWord ks_M_putWord kx_M_putWord ki_M_putWord ini_M hd_M_putWord ⟨Nat.le_of_ble_eq_true rfl, Nat.le_of_ble_eq_true rfl⟩ rfl (Nat.le_of_ble_eq_true rfl) d_M_wordField_7 ⟨Nat.le_refl _, Nat.le_refl _⟩) X Y hA S (by decide) (by decide) (fun u H locs Y S s101 p101 => ?_)
  obtain ⟨I101, J101, B101, G101⟩ := u
  dsimp only at Y S s101 p101
  obtain ⟨x101, g101_MF⟩ := p101
  obtain ⟨z102, e102, l102, u102⟩ := x101
  refine lv_aload_n X.1 X.2.1 d_M_wordField_10 rfl (lv_at hl 1 rfl) ?_
  refine lv_iload_n X.1 X.2.1 d_M_wordField_11 rfl (lv_at hl 2 rfl) ?_
  refine lv_iload_n X.1 X.2.1 d_M_wordField_12 rfl (lv_at hl 0 rfl) ?_
  refine r_nv (m_run (As := [.int (iI a1), .int (iI wn)]) (rest := []) (n := 2) X Y hZ hA hml hl.1 (r_M_field l D E h q H.size I101 J101 B101 G101 a1 (by omega) (by omega) wn (by omega) (by omega) S.1 z102 e102 (by omega) (by omega)) kl_M_field ks_M_field kx_M_field ki_M_field ini_M hd_M_field ⟨Nat.le_of_ble_eq_true rfl, Nat.le_of_ble_eq_true rfl⟩ rfl (Nat.le_of_ble_eq_true rfl) d_M_wordField_13 ⟨Nat.le_refl _, Nat.le_refl _⟩) X Y hA S (by decide) (by decide) (fun u H locs Y S s103 p103 => ?_)
  obtain ⟨I103, J103, B103, G103⟩ := u
  dsimp only at Y S s103 p103
  obtain ⟨x103, g103_MF⟩ := p103
  obtain ⟨z104, e104, l104, u104⟩ := x103
  exact m_retv hQQ X Y hr hlk ⟨S, ⟨⟨z104, e104, by omega, by omega⟩, (mmF_tr (mmF_tr mmF_rf g101_MF (by decide)) g103_MF (by decide))⟩⟩ d_M_wordField_16
set_option maxHeartbeats 4000000 in
set_option maxRecDepth 100000 in
theorem r_M_putTwo (l : Launch) (D : mD) (E : mE) (h : Nat) (q : Nat → Nat) (sz : Nat) (I : Nat → Int32) (J : Nat → Int64) (B : Nat → Nat → Int32) (G : Nat → Nat → Int64) (a1 : Int) (l_a1 : (-2147483648) ≤ a1) (u_a1 : a1 ≤ 2147483647) (hT : rT I B) (wn : Int) (gwn : I 42 = iI wn) (lwn : 30010 ≤ wn) (uwn : wn ≤ 60000) : Met l y_M_putTwo (k_M_putTwo :: lw_tg) (mR 2 81) (va_Pc [.ref h, .int (iI a1)] (mPre D E h q (I, J, B, G) sz)) (va_Qv (rPv [42] [0] I B (fun (u : mS) => (∃ V2 : Int, u.1 42 = iI V2 ∧ wn - (2) ≤ V2 ∧ V2 ≤ wn) ∧ mmF 30000 60000 (B 0) (u.2.2.1 0))) (mPost D E h q (mA E h q sz)) (mA E h q sz)) 0 0 (mA E h q sz) := by
  refine m_enter (by decide) rfl (Nat.le_of_ble_eq_true rfl) (fun p e s m below meth c ls AV QQ H locs hQQ X Y hZ hA hr hlk hml hl => ?_)
  have Y : mH D E (mA E h q sz) s.heap h q I J B G H locs := Y
  have S : rS [42] [0] I B I B := rS_rf hT
  have hl : lv_has ls 2 [(0, .ref h), (1, .int (iI a1))] := hl
  refine lv_aload_n X.1 X.2.1 d_M_putTwo_0 rfl (lv_at hl 0 rfl) ?_
  refine lv_bipush (v := iI 48) X.1 X.2.1 d_M_putTwo_1 (by decide) ?_
  refine lv_iload_n X.1 X.2.1 d_M_putTwo_3 rfl (lv_at hl 1 rfl) ?_
  refine lv_bipush (v := iI 10) X.1 X.2.1 d_M_putTwo_4 (by decide) ?_
  refine z_iremg X.1 X.2.1 ⟨by omega, by omega⟩ ⟨by decide, by decide⟩ d_M_putTwo_6 (fun z101 l101 u101 x101 => ?_)
  refine z_iadd X.1 X.2.1 d_M_putTwo_7 ?_
  refine r_nv (m_run (As := [.int (iI (48 + z101))]) (rest := []) (n := 1) X Y hZ hA hml hl.1 (r_M_one l D E h q H.size I J B G (48 + z101) (by omega) (by omega) S.1 wn gwn (by omega) (by omega)) kl_M_one ks_M_one kx_M_one ki_M_one ini_M hd_M_one ⟨Nat.le_of_ble_eq_true rfl, Nat.le_of_ble_eq_true rfl⟩ rfl (Nat.le_of_ble_eq_true rfl) d_M_putTwo_8 ⟨Nat.le_refl _, Nat.le_refl _⟩) X Y hA S (by decide) (by decide) (fun u H locs Y S s102 p102 => ?_)
  obtain ⟨I102, J102, B102, G102⟩ := u
  dsimp only at Y S s102 p102
  obtain ⟨x102, g102_MF⟩ := p102
  refine lv_aload_n X.1 X.2.1 d_M_putTwo_11 rfl (lv_at hl 0 rfl) ?_
  refine lv_bipush (v := iI 48) X.1 X.2.1 d_M_putTwo_12 (by decide) ?_
  refine lv_iload_n X.1 X.2.1 d_M_putTwo_14 rfl (lv_at hl 1 rfl) ?_
  refine lv_bipush (v := iI 10) X.1 X.2.1 d_M_putTwo_15 (by decide) ?_
  refine z_idivg X.1 X.2.1 ⟨by omega, by omega⟩ ⟨by decide, by decide⟩ d_M_putTwo_17 (fun z103 l103 u103 x103 y103 => ?_)
  refine z_iadd X.1 X.2.1 d_M_putTwo_18 ?_
  refine r_nv (m_run (As := [.int (iI (48 + z103))]) (rest := []) (n := 1) X Y hZ hA hml hl.1 (r_M_one l D E h q H.size I102 J102 B102 G102 (48 + z103) (by omega) (by omega) S.1 (wn - 1) (x102.trans (congrArg iI (show (wn - 1 : Int) = wn - 1 by omega))) (by omega) (by omega)) kl_M_one ks_M_one kx_M_one ki_M_one ini_M hd_M_one ⟨Nat.le_of_ble_eq_true rfl, Nat.le_of_ble_eq_true rfl⟩ rfl (Nat.le_of_ble_eq_true rfl) d_M_putTwo_19 ⟨Nat.le_refl _, Nat.le_refl _⟩) X Y hA S (by decide) (by decide) (fun u H locs Y S s104 p104 => ?_)
  obtain ⟨I104, J104, B104, G104⟩ := u
  dsimp only at Y S s104 p104
  obtain ⟨x104, g104_MF⟩ := p104
  exact m_retv hQQ X Y hr hlk ⟨S, ⟨⟨wn - 2, (x104.trans (congrArg iI (show (wn - 1 - 1 : Int) = wn - 2 by omega))), by omega, by omega⟩, (mmF_tr (mmF_tr mmF_rf g102_MF (by decide)) g104_MF (by decide))⟩⟩ d_M_putTwo_22
set_option maxHeartbeats 4000000 in
set_option maxRecDepth 100000 in
theorem r_M_putBytes_mem (l : Launch) (D : mD) (E : mE) (h : Nat) (q : Nat → Nat) (sz : Nat) (I : Nat → Int32) (J : Nat → Int64) (B : Nat → Nat → Int32) (G : Nat → Nat → Int64) (a2 : Int) (l_a2 : (-1) ≤ a2) (u_a2 : a2 ≤ 60000) (a3 : Int) (l_a3 : 0 ≤ a3) (u_a3 : a3 ≤ 19100) (hT : rT I B) (wn : Int) (gwn : I 42 = iI wn) (lwn : 30000 ≤ wn) (uwn : wn ≤ 60000) (q0 : a2 + a3 ≤ 60000) (q1 : 30000 + a3 ≤ wn) (q2 : 0 ≤ a2 ∨ a3 = 0) : Met l y_M_putBytes (k_M_putBytes :: lw_tg) (mR 2 81) (va_Pc [.ref h, .ref (q 0), .int (iI a2), .int (iI a3)] (mPre D E h q (I, J, B, G) sz)) (va_Qv (rPv [42] [0] I B (fun (u : mS) => (∃ V2 : Int, u.1 42 = iI V2 ∧ wn - (a3) ≤ V2 ∧ V2 ≤ wn) ∧ mmF 30000 60000 (B 0) (u.2.2.1 0))) (mPost D E h q (mA E h q sz)) (mA E h q sz)) 0 0 (mA E h q sz) := by
  refine m_enter (by decide) rfl (Nat.le_of_ble_eq_true rfl) (fun p e s m below meth c ls AV QQ H locs hQQ X Y hZ hA hr hlk hml hl => ?_)
  have Y : mH D E (mA E h q sz) s.heap h q I J B G H locs := Y
  have S : rS [42] [0] I B I B := rS_rf hT
  have hl : lv_has ls 5 [(0, .ref h), (1, .ref ((q 0))), (2, .int (iI a2)), (3, .int (iI a3))] := hl
  refine lv_iload_n X.1 X.2.1 d_M_putBytes_0 rfl (lv_at hl 3 rfl) ?_
  refine lv_iconst (v := iI 1) X.1 X.2.1 d_M_putBytes_1 (by decide) ?_
  refine z_isub X.1 X.2.1 d_M_putBytes_2 ?_
  have J107 : ∀ (n109 : Nat) (z102 : Int) (z104 : Int) (I101 : Nat → Int32) (J101 : Nat → Int64) (B101 : Nat → Nat → Int32) (G101 : Nat → Nat → Int64) (H : Heap) (locs : List Loc) (ls : Array Slot), (z102 - (-1)).toNat = n109 → ((-1) ≤ z102) → (z102 ≤ 19099) → (mmF 30000 60000 (B 0) (B101 0)) → (I101 42 = iI z104) → (0 ≤ z104) → (z104 ≤ 60000) → (z104 = wn - (a3 - 1 - z102)) → (z102 ≤ a3 - 1) → mH D E (mA E h q sz) s.heap h q I101 J101 B101 G101 H locs → rS [42] [0] I B I101 B101 → lv_has ls 5 [(0, .ref h), (1, .ref ((q 0))), (2, .int (iI a2)), (4, .int (iI z102))] → W p l e (mR 2 81) s m AV below meth c H locs 0 0 QQ (F0 m 5 ls []) := by
    intro n109
    induction n109 using Nat.strongRecOn with
    | ind n109 ih108 =>
      intro z102 z104 I101 J101 B101 G101 H locs ls hm110 l102 u102 f103 e104 l104 u104 i105 i106 Y S hl
      refine lv_iload X.1 X.2.1 d_M_putBytes_5 (lv_at hl 3 rfl) ?_
      refine z_if_lt (tgt := 26) X.1 X.2.1 d_M_putBytes_7 (by decide) ⟨by omega, by omega⟩ (fun h111 => ?_) (fun h111 => ?_)
      · exact m_retv hQQ X Y hr hlk ⟨S, ⟨⟨z104, e104, by omega, by omega⟩, f103⟩⟩ d_M_putBytes_26
      · refine lv_aload_n X.1 X.2.1 d_M_putBytes_10 rfl (lv_at hl 0 rfl) ?_
        refine lv_aload_n X.1 X.2.1 d_M_putBytes_11 rfl (lv_at hl 1 rfl) ?_
        refine lv_iload_n X.1 X.2.1 d_M_putBytes_12 rfl (lv_at hl 2 rfl) ?_
        refine lv_iload X.1 X.2.1 d_M_putBytes_13 (lv_at hl 3 rfl) ?_
        refine z_iadd X.1 X.2.1 d_M_putBytes_15 ?_
        refine r_bald X Y S (aw_mem _ _ _ _ _ _ _) rfl (by omega) (show a2 + z102 < ((60000 : Nat) : Int) by omega) (by omega) d_M_putBytes_16 (fun z112 q112 l112 u112 => ?_)
        refine r_nv (m_run (As := [.int (iI z112)]) (rest := []) (n := 1) X Y hZ hA hml hl.1 (r_M_one l D E h q H.size I101 J101 B101 G101 z112 (by omega) (by omega) S.1 z104 e104 (by omega) (by omega)) kl_M_one ks_M_one kx_M_one ki_M_one ini_M hd_M_one ⟨Nat.le_of_ble_eq_true rfl, Nat.le_of_ble_eq_true rfl⟩ rfl (Nat.le_of_ble_eq_true rfl) d_M_putBytes_17 ⟨Nat.le_refl _, Nat.le_refl _⟩) X Y hA S (by decide) (by decide) (fun u H locs Y S s113 p113 => ?_)
        obtain ⟨I113, J113, B113, G113⟩ := u
        dsimp only at Y S s113 p113
        obtain ⟨x113, g113_MF⟩ := p113
        refine lv_iinc (v := iI (z102 - 1)) (lv' := [(4, .int (iI (z102 - 1))), (0, .ref h), (1, .ref ((q 0))), (2, .int (iI a2))]) X.1 X.2.1 d_M_putBytes_20 hl (k := 3) rfl ((iI_add _ _).trans (congrArg iI (by omega))) (by decide) rfl (fun ls hl => ?_)
        refine lv_goto (tgt := 5) X.1 X.2.1 d_M_putBytes_23 (by decide) ?_
        exact ih108 (((z102 - 1) - (-1)).toNat) (by omega) (z102 - 1) (z104 - 1) I113 J113 B113 G113 _ _ _ rfl (by omega) (by omega) (mmF_tr f103 g113_MF (by decide)) (x113.trans (congrArg iI (show (z104 - 1 : Int) = z104 - 1 by omega))) (by omega) (by omega) (by omega) (by omega) Y S (lv_sub hl [1, 2, 3, 0] rfl)
  refine lv_istore (lv' := [(4, .int (iI (a3 - 1))), (0, .ref h), (1, .ref ((q 0))), (2, .int (iI a2)), (3, .int (iI a3))]) X.1 X.2.1 d_M_putBytes_3 hl (by decide) rfl (fun ls hl => ?_)
  exact J107 _ (a3 - 1) wn I J B G _ _ _ rfl (by omega) (by omega) mmF_rf gwn (by omega) (by omega) (by omega) (by omega) Y S (lv_sub hl [1, 2, 3, 0] rfl)
set_option maxHeartbeats 4000000 in
set_option maxRecDepth 100000 in
theorem r_M_putBytes_secret (l : Launch) (D : mD) (E : mE) (h : Nat) (q : Nat → Nat) (sz : Nat) (I : Nat → Int32) (J : Nat → Int64) (B : Nat → Nat → Int32) (G : Nat → Nat → Int64) (a2 : Int) (l_a2 : 0 ≤ a2) (u_a2 : a2 ≤ 20000) (a3 : Int) (l_a3 : 0 ≤ a3) (u_a3 : a3 ≤ 19100) (hT : rT I B) (wn : Int) (gwn : I 42 = iI wn) (lwn : 30000 ≤ wn) (uwn : wn ≤ 60000) (q0 : a2 + a3 ≤ 20000) (q1 : 30000 + a3 ≤ wn) : Met l y_M_putBytes (k_M_putBytes :: lw_tg) (mR 2 81) (va_Pc [.ref h, .ref (q 35), .int (iI a2), .int (iI a3)] (mPre D E h q (I, J, B, G) sz)) (va_Qv (rPv [42] [0] I B (fun (u : mS) => (∃ V2 : Int, u.1 42 = iI V2 ∧ wn - (a3) ≤ V2 ∧ V2 ≤ wn) ∧ mmF 30000 60000 (B 0) (u.2.2.1 0))) (mPost D E h q (mA E h q sz)) (mA E h q sz)) 0 0 (mA E h q sz) := by
  refine m_enter (by decide) rfl (Nat.le_of_ble_eq_true rfl) (fun p e s m below meth c ls AV QQ H locs hQQ X Y hZ hA hr hlk hml hl => ?_)
  have Y : mH D E (mA E h q sz) s.heap h q I J B G H locs := Y
  have S : rS [42] [0] I B I B := rS_rf hT
  have hl : lv_has ls 5 [(0, .ref h), (1, .ref ((q 35))), (2, .int (iI a2)), (3, .int (iI a3))] := hl
  refine lv_iload_n X.1 X.2.1 d_M_putBytes_0 rfl (lv_at hl 3 rfl) ?_
  refine lv_iconst (v := iI 1) X.1 X.2.1 d_M_putBytes_1 (by decide) ?_
  refine z_isub X.1 X.2.1 d_M_putBytes_2 ?_
  have J107 : ∀ (n109 : Nat) (z102 : Int) (z104 : Int) (I101 : Nat → Int32) (J101 : Nat → Int64) (B101 : Nat → Nat → Int32) (G101 : Nat → Nat → Int64) (H : Heap) (locs : List Loc) (ls : Array Slot), (z102 - (-1)).toNat = n109 → ((-1) ≤ z102) → (z102 ≤ 19099) → (mmF 30000 60000 (B 0) (B101 0)) → (I101 42 = iI z104) → (0 ≤ z104) → (z104 ≤ 60000) → (z104 = wn - (a3 - 1 - z102)) → (z102 ≤ a3 - 1) → mH D E (mA E h q sz) s.heap h q I101 J101 B101 G101 H locs → rS [42] [0] I B I101 B101 → lv_has ls 5 [(0, .ref h), (1, .ref ((q 35))), (2, .int (iI a2)), (4, .int (iI z102))] → W p l e (mR 2 81) s m AV below meth c H locs 0 0 QQ (F0 m 5 ls []) := by
    intro n109
    induction n109 using Nat.strongRecOn with
    | ind n109 ih108 =>
      intro z102 z104 I101 J101 B101 G101 H locs ls hm110 l102 u102 f103 e104 l104 u104 i105 i106 Y S hl
      refine lv_iload X.1 X.2.1 d_M_putBytes_5 (lv_at hl 3 rfl) ?_
      refine z_if_lt (tgt := 26) X.1 X.2.1 d_M_putBytes_7 (by decide) ⟨by omega, by omega⟩ (fun h111 => ?_) (fun h111 => ?_)
      · exact m_retv hQQ X Y hr hlk ⟨S, ⟨⟨z104, e104, by omega, by omega⟩, f103⟩⟩ d_M_putBytes_26
      · refine lv_aload_n X.1 X.2.1 d_M_putBytes_10 rfl (lv_at hl 0 rfl) ?_
        refine lv_aload_n X.1 X.2.1 d_M_putBytes_11 rfl (lv_at hl 1 rfl) ?_
        refine lv_iload_n X.1 X.2.1 d_M_putBytes_12 rfl (lv_at hl 2 rfl) ?_
        refine lv_iload X.1 X.2.1 d_M_putBytes_13 (lv_at hl 3 rfl) ?_
        refine z_iadd X.1 X.2.1 d_M_putBytes_15 ?_
        refine r_bald X Y S (aw_secret _ _ _ _ _ _ _) rfl (by omega) (show a2 + z102 < ((20000 : Nat) : Int) by omega) (by omega) d_M_putBytes_16 (fun z112 q112 l112 u112 => ?_)
        refine r_nv (m_run (As := [.int (iI z112)]) (rest := []) (n := 1) X Y hZ hA hml hl.1 (r_M_one l D E h q H.size I101 J101 B101 G101 z112 (by omega) (by omega) S.1 z104 e104 (by omega) (by omega)) kl_M_one ks_M_one kx_M_one ki_M_one ini_M hd_M_one ⟨Nat.le_of_ble_eq_true rfl, Nat.le_of_ble_eq_true rfl⟩ rfl (Nat.le_of_ble_eq_true rfl) d_M_putBytes_17 ⟨Nat.le_refl _, Nat.le_refl _⟩) X Y hA S (by decide) (by decide) (fun u H locs Y S s113 p113 => ?_)
        obtain ⟨I113, J113, B113, G113⟩ := u
        dsimp only at Y S s113 p113
        obtain ⟨x113, g113_MF⟩ := p113
        refine lv_iinc (v := iI (z102 - 1)) (lv' := [(4, .int (iI (z102 - 1))), (0, .ref h), (1, .ref ((q 35))), (2, .int (iI a2))]) X.1 X.2.1 d_M_putBytes_20 hl (k := 3) rfl ((iI_add _ _).trans (congrArg iI (by omega))) (by decide) rfl (fun ls hl => ?_)
        refine lv_goto (tgt := 5) X.1 X.2.1 d_M_putBytes_23 (by decide) ?_
        exact ih108 (((z102 - 1) - (-1)).toNat) (by omega) (z102 - 1) (z104 - 1) I113 J113 B113 G113 _ _ _ rfl (by omega) (by omega) (mmF_tr f103 g113_MF (by decide)) (x113.trans (congrArg iI (show (z104 - 1 : Int) = z104 - 1 by omega))) (by omega) (by omega) (by omega) (by omega) Y S (lv_sub hl [1, 2, 3, 0] rfl)
  refine lv_istore (lv' := [(4, .int (iI (a3 - 1))), (0, .ref h), (1, .ref ((q 35))), (2, .int (iI a2)), (3, .int (iI a3))]) X.1 X.2.1 d_M_putBytes_3 hl (by decide) rfl (fun ls hl => ?_)
  exact J107 _ (a3 - 1) wn I J B G _ _ _ rfl (by omega) (by omega) mmF_rf gwn (by omega) (by omega) (by omega) (by omega) Y S (lv_sub hl [1, 2, 3, 0] rfl)
set_option maxHeartbeats 4000000 in
set_option maxRecDepth 100000 in
theorem r_M_octetField_secret (l : Launch) (D : mD) (E : mE) (h : Nat) (q : Nat → Nat) (sz : Nat) (I : Nat → Int32) (J : Nat → Int64) (B : Nat → Nat → Int32) (G : Nat → Nat → Int64) (a1 : Int) (l_a1 : (-2147483648) ≤ a1) (u_a1 : a1 ≤ 2147483647) (a3 : Int) (l_a3 : 0 ≤ a3) (u_a3 : a3 ≤ 20000) (a4 : Int) (l_a4 : 0 ≤ a4) (u_a4 : a4 ≤ 19100) (hT : rT I B) (wn : Int) (gwn : I 42 = iI wn) (lwn : 30100 ≤ wn) (uwn : wn ≤ 60000) (q0 : a3 + a4 ≤ 20000) (q1 : 30100 + a4 ≤ wn) : Met l y_M_octetField (k_M_octetField :: lw_tg) (mR 4 128) (va_Pc [.ref h, .int (iI a1), .ref (q 35), .int (iI a3), .int (iI a4)] (mPre D E h q (I, J, B, G) sz)) (va_Qv (rPv [42] [0] I B (fun (u : mS) => (∃ V2 : Int, u.1 42 = iI V2 ∧ wn - (a4 + 8) ≤ V2 ∧ V2 ≤ wn) ∧ mmF 30000 60000 (B 0) (u.2.2.1 0))) (mPost D E h q (mA E h q sz)) (mA E h q sz)) 0 0 (mA E h q sz) := by
  refine m_enter (by decide) rfl (Nat.le_of_ble_eq_true rfl) (fun p e s m below meth c ls AV QQ H locs hQQ X Y hZ hA hr hlk hml hl => ?_)
  have Y : mH D E (mA E h q sz) s.heap h q I J B G H locs := Y
  have S : rS [42] [0] I B I B := rS_rf hT
  have hl : lv_has ls 6 [(0, .ref h), (1, .int (iI a1)), (2, .ref ((q 35))), (3, .int (iI a3)), (4, .int (iI a4))] := hl
  refine lv_aload_n X.1 X.2.1 d_M_octetField_0 rfl (lv_at hl 0 rfl) ?_
  refine r_get0 X Y (by decide) lk_w0 (gf_w0 _ _ _) rfl gwn d_M_octetField_1 ?_
  refine lv_istore (lv' := [(5, .int (iI wn)), (0, .ref h), (1, .int (iI a1)), (2, .ref ((q 35))), (3, .int (iI a3)), (4, .int (iI a4))]) X.1 X.2.1 d_M_octetField_4 hl (by decide) rfl (fun ls hl => ?_)
  refine lv_aload_n X.1 X.2.1 d_M_octetField_6 rfl (lv_at hl 1 rfl) ?_
  refine lv_aload_n X.1 X.2.1 d_M_octetField_7 rfl (lv_at hl 3 rfl) ?_
  refine lv_iload_n X.1 X.2.1 d_M_octetField_8 rfl (lv_at hl 4 rfl) ?_
  refine lv_iload X.1 X.2.1 d_M_octetField_9 (lv_at hl 5 rfl) ?_
  refine r_nv (m_run (As := [.ref ((q 35)), .int (iI a3), .int (iI a4)]) (rest := []) (n := 3) X Y hZ hA hml hl.1 (r_M_putBytes_secret l D E h q H.size I J B G a3 (by omega) (by omega) a4 (by omega) (by omega) S.1 wn gwn (by omega) (by omega) (by omega) (by omega)) kl_M_putBytes ks_M_putBytes kx_M_putBytes ki_M_putBytes ini_M hd_M_putBytes ⟨Nat.le_of_ble_eq_true rfl, Nat.le_of_ble_eq_true rfl⟩ rfl (Nat.le_of_ble_eq_true rfl) d_M_octetField_11 ⟨Nat.le_refl _, Nat.le_refl _⟩) X Y hA S (by decide) (by decide) (fun u H locs Y S s101 p101 => ?_)
  obtain ⟨I101, J101, B101, G101⟩ := u
  dsimp only at Y S s101 p101
  obtain ⟨x101, g101_MF⟩ := p101
  obtain ⟨z102, e102, l102, u102⟩ := x101
  refine lv_aload_n X.1 X.2.1 d_M_octetField_14 rfl (lv_at hl 1 rfl) ?_
  refine lv_iconst (v := iI 4) X.1 X.2.1 d_M_octetField_15 (by decide) ?_
  refine lv_iload X.1 X.2.1 d_M_octetField_16 (lv_at hl 0 rfl) ?_
  refine r_nv (m_run (As := [.int (iI 4), .int (iI wn)]) (rest := []) (n := 2) X Y hZ hA hml hl.1 (r_M_head l D E h q H.size I101 J101 B101 G101 4 (by omega) (by omega) wn (by omega) (by omega) S.1 z102 e102 (by omega) (by omega)) kl_M_head ks_M_head kx_M_head ki_M_head ini_M hd_M_head ⟨Nat.le_of_ble_eq_true rfl, Nat.le_of_ble_eq_true rfl⟩ rfl (Nat.le_of_ble_eq_true rfl) d_M_octetField_18 ⟨Nat.le_refl _, Nat.le_refl _⟩) X Y hA S (by decide) (by decide) (fun u H locs Y S s103 p103 => ?_)
  obtain ⟨I103, J103, B103, G103⟩ := u
  dsimp only at Y S s103 p103
  obtain ⟨x103, g103_MF⟩ := p103
  obtain ⟨z104, e104, l104, u104⟩ := x103
  refine lv_aload_n X.1 X.2.1 d_M_octetField_21 rfl (lv_at hl 1 rfl) ?_
  refine lv_iload_n X.1 X.2.1 d_M_octetField_22 rfl (lv_at hl 2 rfl) ?_
  refine lv_iload X.1 X.2.1 d_M_octetField_23 (lv_at hl 0 rfl) ?_
  refine r_nv (m_run (As := [.int (iI a1), .int (iI wn)]) (rest := []) (n := 2) X Y hZ hA hml hl.1 (r_M_field l D E h q H.size I103 J103 B103 G103 a1 (by omega) (by omega) wn (by omega) (by omega) S.1 z104 e104 (by omega) (by omega)) kl_M_field ks_M_field kx_M_field ki_M_field ini_M hd_M_field ⟨Nat.le_of_ble_eq_true rfl, Nat.le_of_ble_eq_true rfl⟩ rfl (Nat.le_of_ble_eq_true rfl) d_M_octetField_25 ⟨Nat.le_refl _, Nat.le_refl _⟩) X Y hA S (by decide) (by decide) (fun u H locs Y S s105 p105 => ?_)
  obtain ⟨I105, J105, B105, G105⟩ := u
  dsimp only at Y S s105 p105
  obtain ⟨x105, g105_MF⟩ := p105
  obtain ⟨z106, e106, l106, u106⟩ := x105
  exact m_retv hQQ X Y hr hlk ⟨S, ⟨⟨z106, e106, by omega, by omega⟩, (mmF_tr (mmF_tr (mmF_tr mmF_rf g101_MF (by decide)) g103_MF (by decide)) g105_MF (by decide))⟩⟩ d_M_octetField_28
set_option maxHeartbeats 4000000 in
set_option maxRecDepth 100000 in
theorem r_M_putBytes_key (l : Launch) (D : mD) (E : mE) (h : Nat) (q : Nat → Nat) (sz : Nat) (I : Nat → Int32) (J : Nat → Int64) (B : Nat → Nat → Int32) (G : Nat → Nat → Int64) (a2 : Int) (l_a2 : 0 ≤ a2) (u_a2 : a2 ≤ 32) (a3 : Int) (l_a3 : 0 ≤ a3) (u_a3 : a3 ≤ 32) (hT : rT I B) (wn : Int) (gwn : I 42 = iI wn) (lwn : 30000 ≤ wn) (uwn : wn ≤ 60000) (q0 : a2 + a3 ≤ 32) (q1 : 30000 + a3 ≤ wn) : Met l y_M_putBytes (k_M_putBytes :: lw_tg) (mR 2 81) (va_Pc [.ref h, .ref (q 58), .int (iI a2), .int (iI a3)] (mPre D E h q (I, J, B, G) sz)) (va_Qv (rPv [42] [0] I B (fun (u : mS) => (∃ V2 : Int, u.1 42 = iI V2 ∧ wn - (a3) ≤ V2 ∧ V2 ≤ wn) ∧ mmF 30000 60000 (B 0) (u.2.2.1 0))) (mPost D E h q (mA E h q sz)) (mA E h q sz)) 0 0 (mA E h q sz) := by
  refine m_enter (by decide) rfl (Nat.le_of_ble_eq_true rfl) (fun p e s m below meth c ls AV QQ H locs hQQ X Y hZ hA hr hlk hml hl => ?_)
  have Y : mH D E (mA E h q sz) s.heap h q I J B G H locs := Y
  have S : rS [42] [0] I B I B := rS_rf hT
  have hl : lv_has ls 5 [(0, .ref h), (1, .ref ((q 58))), (2, .int (iI a2)), (3, .int (iI a3))] := hl
  refine lv_iload_n X.1 X.2.1 d_M_putBytes_0 rfl (lv_at hl 3 rfl) ?_
  refine lv_iconst (v := iI 1) X.1 X.2.1 d_M_putBytes_1 (by decide) ?_
  refine z_isub X.1 X.2.1 d_M_putBytes_2 ?_
  have J107 : ∀ (n109 : Nat) (z102 : Int) (z104 : Int) (I101 : Nat → Int32) (J101 : Nat → Int64) (B101 : Nat → Nat → Int32) (G101 : Nat → Nat → Int64) (H : Heap) (locs : List Loc) (ls : Array Slot), (z102 - (-1)).toNat = n109 → ((-1) ≤ z102) → (z102 ≤ 31) → (mmF 30000 60000 (B 0) (B101 0)) → (I101 42 = iI z104) → (0 ≤ z104) → (z104 ≤ 60000) → (z104 = wn - (a3 - 1 - z102)) → (z102 ≤ a3 - 1) → mH D E (mA E h q sz) s.heap h q I101 J101 B101 G101 H locs → rS [42] [0] I B I101 B101 → lv_has ls 5 [(0, .ref h), (1, .ref ((q 58))), (2, .int (iI a2)), (4, .int (iI z102))] → W p l e (mR 2 81) s m AV below meth c H locs 0 0 QQ (F0 m 5 ls []) := by
    intro n109
    induction n109 using Nat.strongRecOn with
    | ind n109 ih108 =>
      intro z102 z104 I101 J101 B101 G101 H locs ls hm110 l102 u102 f103 e104 l104 u104 i105 i106 Y S hl
      refine lv_iload X.1 X.2.1 d_M_putBytes_5 (lv_at hl 3 rfl) ?_
      refine z_if_lt (tgt := 26) X.1 X.2.1 d_M_putBytes_7 (by decide) ⟨by omega, by omega⟩ (fun h111 => ?_) (fun h111 => ?_)
      · exact m_retv hQQ X Y hr hlk ⟨S, ⟨⟨z104, e104, by omega, by omega⟩, f103⟩⟩ d_M_putBytes_26
      · refine lv_aload_n X.1 X.2.1 d_M_putBytes_10 rfl (lv_at hl 0 rfl) ?_
        refine lv_aload_n X.1 X.2.1 d_M_putBytes_11 rfl (lv_at hl 1 rfl) ?_
        refine lv_iload_n X.1 X.2.1 d_M_putBytes_12 rfl (lv_at hl 2 rfl) ?_
        refine lv_iload X.1 X.2.1 d_M_putBytes_13 (lv_at hl 3 rfl) ?_
        refine z_iadd X.1 X.2.1 d_M_putBytes_15 ?_
        refine r_bald X Y S (aw_key _ _ _ _ _ _ _) rfl (by omega) (show a2 + z102 < ((32 : Nat) : Int) by omega) (by omega) d_M_putBytes_16 (fun z112 q112 l112 u112 => ?_)
        refine r_nv (m_run (As := [.int (iI z112)]) (rest := []) (n := 1) X Y hZ hA hml hl.1 (r_M_one l D E h q H.size I101 J101 B101 G101 z112 (by omega) (by omega) S.1 z104 e104 (by omega) (by omega)) kl_M_one ks_M_one kx_M_one ki_M_one ini_M hd_M_one ⟨Nat.le_of_ble_eq_true rfl, Nat.le_of_ble_eq_true rfl⟩ rfl (Nat.le_of_ble_eq_true rfl) d_M_putBytes_17 ⟨Nat.le_refl _, Nat.le_refl _⟩) X Y hA S (by decide) (by decide) (fun u H locs Y S s113 p113 => ?_)
        obtain ⟨I113, J113, B113, G113⟩ := u
        dsimp only at Y S s113 p113
        obtain ⟨x113, g113_MF⟩ := p113
        refine lv_iinc (v := iI (z102 - 1)) (lv' := [(4, .int (iI (z102 - 1))), (0, .ref h), (1, .ref ((q 58))), (2, .int (iI a2))]) X.1 X.2.1 d_M_putBytes_20 hl (k := 3) rfl ((iI_add _ _).trans (congrArg iI (by omega))) (by decide) rfl (fun ls hl => ?_)
        refine lv_goto (tgt := 5) X.1 X.2.1 d_M_putBytes_23 (by decide) ?_
        exact ih108 (((z102 - 1) - (-1)).toNat) (by omega) (z102 - 1) (z104 - 1) I113 J113 B113 G113 _ _ _ rfl (by omega) (by omega) (mmF_tr f103 g113_MF (by decide)) (x113.trans (congrArg iI (show (z104 - 1 : Int) = z104 - 1 by omega))) (by omega) (by omega) (by omega) (by omega) Y S (lv_sub hl [1, 2, 3, 0] rfl)
  refine lv_istore (lv' := [(4, .int (iI (a3 - 1))), (0, .ref h), (1, .ref ((q 58))), (2, .int (iI a2)), (3, .int (iI a3))]) X.1 X.2.1 d_M_putBytes_3 hl (by decide) rfl (fun ls hl => ?_)
  exact J107 _ (a3 - 1) wn I J B G _ _ _ rfl (by omega) (by omega) mmF_rf gwn (by omega) (by omega) (by omega) (by omega) Y S (lv_sub hl [1, 2, 3, 0] rfl)
set_option maxHeartbeats 4000000 in
set_option maxRecDepth 100000 in
theorem r_M_octetField_key (l : Launch) (D : mD) (E : mE) (h : Nat) (q : Nat → Nat) (sz : Nat) (I : Nat → Int32) (J : Nat → Int64) (B : Nat → Nat → Int32) (G : Nat → Nat → Int64) (a1 : Int) (l_a1 : (-2147483648) ≤ a1) (u_a1 : a1 ≤ 2147483647) (a3 : Int) (l_a3 : 0 ≤ a3) (u_a3 : a3 ≤ 32) (a4 : Int) (l_a4 : 0 ≤ a4) (u_a4 : a4 ≤ 32) (hT : rT I B) (wn : Int) (gwn : I 42 = iI wn) (lwn : 30100 ≤ wn) (uwn : wn ≤ 60000) (q0 : a3 + a4 ≤ 32) (q1 : 30100 + a4 ≤ wn) : Met l y_M_octetField (k_M_octetField :: lw_tg) (mR 4 128) (va_Pc [.ref h, .int (iI a1), .ref (q 58), .int (iI a3), .int (iI a4)] (mPre D E h q (I, J, B, G) sz)) (va_Qv (rPv [42] [0] I B (fun (u : mS) => (∃ V2 : Int, u.1 42 = iI V2 ∧ wn - (a4 + 8) ≤ V2 ∧ V2 ≤ wn) ∧ mmF 30000 60000 (B 0) (u.2.2.1 0))) (mPost D E h q (mA E h q sz)) (mA E h q sz)) 0 0 (mA E h q sz) := by
  refine m_enter (by decide) rfl (Nat.le_of_ble_eq_true rfl) (fun p e s m below meth c ls AV QQ H locs hQQ X Y hZ hA hr hlk hml hl => ?_)
  have Y : mH D E (mA E h q sz) s.heap h q I J B G H locs := Y
  have S : rS [42] [0] I B I B := rS_rf hT
  have hl : lv_has ls 6 [(0, .ref h), (1, .int (iI a1)), (2, .ref ((q 58))), (3, .int (iI a3)), (4, .int (iI a4))] := hl
  refine lv_aload_n X.1 X.2.1 d_M_octetField_0 rfl (lv_at hl 0 rfl) ?_
  refine r_get0 X Y (by decide) lk_w0 (gf_w0 _ _ _) rfl gwn d_M_octetField_1 ?_
  refine lv_istore (lv' := [(5, .int (iI wn)), (0, .ref h), (1, .int (iI a1)), (2, .ref ((q 58))), (3, .int (iI a3)), (4, .int (iI a4))]) X.1 X.2.1 d_M_octetField_4 hl (by decide) rfl (fun ls hl => ?_)
  refine lv_aload_n X.1 X.2.1 d_M_octetField_6 rfl (lv_at hl 1 rfl) ?_
  refine lv_aload_n X.1 X.2.1 d_M_octetField_7 rfl (lv_at hl 3 rfl) ?_
  refine lv_iload_n X.1 X.2.1 d_M_octetField_8 rfl (lv_at hl 4 rfl) ?_
  refine lv_iload X.1 X.2.1 d_M_octetField_9 (lv_at hl 5 rfl) ?_
  refine r_nv (m_run (As := [.ref ((q 58)), .int (iI a3), .int (iI a4)]) (rest := []) (n := 3) X Y hZ hA hml hl.1 (r_M_putBytes_key l D E h q H.size I J B G a3 (by omega) (by omega) a4 (by omega) (by omega) S.1 wn gwn (by omega) (by omega) (by omega) (by omega)) kl_M_putBytes ks_M_putBytes kx_M_putBytes ki_M_putBytes ini_M hd_M_putBytes ⟨Nat.le_of_ble_eq_true rfl, Nat.le_of_ble_eq_true rfl⟩ rfl (Nat.le_of_ble_eq_true rfl) d_M_octetField_11 ⟨Nat.le_refl _, Nat.le_refl _⟩) X Y hA S (by decide) (by decide) (fun u H locs Y S s101 p101 => ?_)
  obtain ⟨I101, J101, B101, G101⟩ := u
  dsimp only at Y S s101 p101
  obtain ⟨x101, g101_MF⟩ := p101
  obtain ⟨z102, e102, l102, u102⟩ := x101
  refine lv_aload_n X.1 X.2.1 d_M_octetField_14 rfl (lv_at hl 1 rfl) ?_
  refine lv_iconst (v := iI 4) X.1 X.2.1 d_M_octetField_15 (by decide) ?_
  refine lv_iload X.1 X.2.1 d_M_octetField_16 (lv_at hl 0 rfl) ?_
  refine r_nv (m_run (As := [.int (iI 4), .int (iI wn)]) (rest := []) (n := 2) X Y hZ hA hml hl.1 (r_M_head l D E h q H.size I101 J101 B101 G101 4 (by omega) (by omega) wn (by omega) (by omega) S.1 z102 e102 (by omega) (by omega)) kl_M_head ks_M_head kx_M_head ki_M_head ini_M hd_M_head ⟨Nat.le_of_ble_eq_true rfl, Nat.le_of_ble_eq_true rfl⟩ rfl (Nat.le_of_ble_eq_true rfl) d_M_octetField_18 ⟨Nat.le_refl _, Nat.le_refl _⟩) X Y hA S (by decide) (by decide) (fun u H locs Y S s103 p103 => ?_)
  obtain ⟨I103, J103, B103, G103⟩ := u
  dsimp only at Y S s103 p103
  obtain ⟨x103, g103_MF⟩ := p103
  obtain ⟨z104, e104, l104, u104⟩ := x103
  refine lv_aload_n X.1 X.2.1 d_M_octetField_21 rfl (lv_at hl 1 rfl) ?_
  refine lv_iload_n X.1 X.2.1 d_M_octetField_22 rfl (lv_at hl 2 rfl) ?_
  refine lv_iload X.1 X.2.1 d_M_octetField_23 (lv_at hl 0 rfl) ?_
  refine r_nv (m_run (As := [.int (iI a1), .int (iI wn)]) (rest := []) (n := 2) X Y hZ hA hml hl.1 (r_M_field l D E h q H.size I103 J103 B103 G103 a1 (by omega) (by omega) wn (by omega) (by omega) S.1 z104 e104 (by omega) (by omega)) kl_M_field ks_M_field kx_M_field ki_M_field ini_M hd_M_field ⟨Nat.le_of_ble_eq_true rfl, Nat.le_of_ble_eq_true rfl⟩ rfl (Nat.le_of_ble_eq_true rfl) d_M_octetField_25 ⟨Nat.le_refl _, Nat.le_refl _⟩) X Y hA S (by decide) (by decide) (fun u H locs Y S s105 p105 => ?_)
  obtain ⟨I105, J105, B105, G105⟩ := u
  dsimp only at Y S s105 p105
  obtain ⟨x105, g105_MF⟩ := p105
  obtain ⟨z106, e106, l106, u106⟩ := x105
  exact m_retv hQQ X Y hr hlk ⟨S, ⟨⟨z106, e106, by omega, by omega⟩, (mmF_tr (mmF_tr (mmF_tr mmF_rf g101_MF (by decide)) g103_MF (by decide)) g105_MF (by decide))⟩⟩ d_M_octetField_28
set_option maxHeartbeats 4000000 in
set_option maxRecDepth 100000 in
theorem r_M_copyField (l : Launch) (D : mD) (E : mE) (h : Nat) (q : Nat → Nat) (sz : Nat) (I : Nat → Int32) (J : Nat → Int64) (B : Nat → Nat → Int32) (G : Nat → Nat → Int64) (a1 : Int) (l_a1 : (-2147483648) ≤ a1) (u_a1 : a1 ≤ 2147483647) (a2 : Int) (l_a2 : (-1) ≤ a2) (u_a2 : a2 ≤ 60000) (a3 : Int) (l_a3 : (-1) ≤ a3) (u_a3 : a3 ≤ 60000) (hT : rT I B) (wn : Int) (gwn : I 42 = iI wn) (lwn : 30100 ≤ wn) (uwn : wn ≤ 60000) (q0 : a2 ≤ a3) (q1 : a3 - a2 ≤ 19000) (q2 : 0 ≤ a2 ∨ a2 = a3) (q3 : 30100 + (a3 - a2) ≤ wn) : Met l y_M_copyField (k_M_copyField :: lw_tg) (mR 4 128) (va_Pc [.ref h, .int (iI a1), .int (iI a2), .int (iI a3)] (mPre D E h q (I, J, B, G) sz)) (va_Qv (rPv [42] [0] I B (fun (u : mS) => (∃ V2 : Int, u.1 42 = iI V2 ∧ wn - (a3 - a2 + 4) ≤ V2 ∧ V2 ≤ wn) ∧ mmF 30000 60000 (B 0) (u.2.2.1 0))) (mPost D E h q (mA E h q sz)) (mA E h q sz)) 0 0 (mA E h q sz) := by
  refine m_enter (by decide) rfl (Nat.le_of_ble_eq_true rfl) (fun p e s m below meth c ls AV QQ H locs hQQ X Y hZ hA hr hlk hml hl => ?_)
  have Y : mH D E (mA E h q sz) s.heap h q I J B G H locs := Y
  have S : rS [42] [0] I B I B := rS_rf hT
  have hl : lv_has ls 5 [(0, .ref h), (1, .int (iI a1)), (2, .int (iI a2)), (3, .int (iI a3))] := hl
  refine lv_aload_n X.1 X.2.1 d_M_copyField_0 rfl (lv_at hl 0 rfl) ?_
  refine r_get0 X Y (by decide) lk_w0 (gf_w0 _ _ _) rfl gwn d_M_copyField_1 ?_
  refine lv_istore (lv' := [(4, .int (iI wn)), (0, .ref h), (1, .int (iI a1)), (2, .int (iI a2)), (3, .int (iI a3))]) X.1 X.2.1 d_M_copyField_4 hl (by decide) rfl (fun ls hl => ?_)
  refine lv_aload_n X.1 X.2.1 d_M_copyField_6 rfl (lv_at hl 1 rfl) ?_
  refine lv_aload_n X.1 X.2.1 d_M_copyField_7 rfl (lv_at hl 1 rfl) ?_
  refine m_get X Y 0 (by decide) lk_mem (gf_mem _ _ _) rfl d_M_copyField_8 ?_
  refine lv_iload_n X.1 X.2.1 d_M_copyField_11 rfl (lv_at hl 3 rfl) ?_
  refine lv_iload_n X.1 X.2.1 d_M_copyField_12 rfl (lv_at hl 4 rfl) ?_
  refine lv_iload_n X.1 X.2.1 d_M_copyField_13 rfl (lv_at hl 3 rfl) ?_
  refine z_isub X.1 X.2.1 d_M_copyField_14 ?_
  refine r_nv (m_run (As := [.ref ((q 0)), .int (iI a2), .int (iI (a3 - a2))]) (rest := []) (n := 3) X Y hZ hA hml hl.1 (r_M_putBytes_mem l D E h q H.size I J B G a2 (by omega) (by omega) (a3 - a2) (by omega) (by omega) S.1 wn gwn (by omega) (by omega) (by omega) (by omega) (by omega)) kl_M_putBytes ks_M_putBytes kx_M_putBytes ki_M_putBytes ini_M hd_M_putBytes ⟨Nat.le_of_ble_eq_true rfl, Nat.le_of_ble_eq_true rfl⟩ rfl (Nat.le_of_ble_eq_true rfl) d_M_copyField_15 ⟨Nat.le_refl _, Nat.le_refl _⟩) X Y hA S (by decide) (by decide) (fun u H locs Y S s101 p101 => ?_)
  obtain ⟨I101, J101, B101, G101⟩ := u
  dsimp only at Y S s101 p101
  obtain ⟨x101, g101_MF⟩ := p101
  obtain ⟨z102, e102, l102, u102⟩ := x101
  refine lv_aload_n X.1 X.2.1 d_M_copyField_18 rfl (lv_at hl 1 rfl) ?_
  refine lv_iload_n X.1 X.2.1 d_M_copyField_19 rfl (lv_at hl 2 rfl) ?_
  refine lv_iload X.1 X.2.1 d_M_copyField_20 (lv_at hl 0 rfl) ?_
  refine r_nv (m_run (As := [.int (iI a1), .int (iI wn)]) (rest := []) (n := 2) X Y hZ hA hml hl.1 (r_M_field l D E h q H.size I101 J101 B101 G101 a1 (by omega) (by omega) wn (by omega) (by omega) S.1 z102 e102 (by omega) (by omega)) kl_M_field ks_M_field kx_M_field ki_M_field ini_M hd_M_field ⟨Nat.le_of_ble_eq_true rfl, Nat.le_of_ble_eq_true rfl⟩ rfl (Nat.le_of_ble_eq_true rfl) d_M_copyField_22 ⟨Nat.le_refl _, Nat.le_refl _⟩) X Y hA S (by decide) (by decide) (fun u H locs Y S s103 p103 => ?_)
  obtain ⟨I103, J103, B103, G103⟩ := u
  dsimp only at Y S s103 p103
  obtain ⟨x103, g103_MF⟩ := p103
  obtain ⟨z104, e104, l104, u104⟩ := x103
  exact m_retv hQQ X Y hr hlk ⟨S, ⟨⟨z104, e104, by omega, by omega⟩, (mmF_tr (mmF_tr mmF_rf g101_MF (by decide)) g103_MF (by decide))⟩⟩ d_M_copyField_25
set_option maxHeartbeats 4000000 in
set_option maxRecDepth 100000 in
theorem r_M_putTime (l : Launch) (D : mD) (E : mE) (h : Nat) (q : Nat → Nat) (sz : Nat) (I : Nat → Int32) (J : Nat → Int64) (B : Nat → Nat → Int32) (G : Nat → Nat → Int64) (a1 : Int64) (hT : rT I B) (wn : Int) (gwn : I 42 = iI wn) (lwn : 30100 ≤ wn) (uwn : wn ≤ 60000) : Met l y_M_putTime (k_M_putTime :: lw_tg) (mR 3 106) (va_Pc [.ref h, .long a1] (mPre D E h q (I, J, B, G) sz)) (va_Qv (rPv [42] [0] I B (fun (u : mS) => (∃ V2 : Int, u.1 42 = iI V2 ∧ wn - (20) ≤ V2 ∧ V2 ≤ wn) ∧ mmF 30000 60000 (B 0) (u.2.2.1 0))) (mPost D E h q (mA E h q sz)) (mA E h q sz)) 0 0 (mA E h q sz) := by
  refine m_enter (by decide) rfl (Nat.le_of_ble_eq_true rfl) (fun p e s m below meth c ls AV QQ H locs hQQ X Y hZ hA hr hlk hml hl => ?_)
  have Y : mH D E (mA E h q sz) s.heap h q I J B G H locs := Y
  have S : rS [42] [0] I B I B := rS_rf hT
  have hl : lv_has ls 8 [(0, .ref h), (1, .long a1)] := hl
  refine lv_aload_n X.1 X.2.1 d_M_putTime_0 rfl (lv_at hl 0 rfl) ?_
  refine r_get0 X Y (by decide) lk_w0 (gf_w0 _ _ _) rfl gwn d_M_putTime_1 ?_
  refine lv_istore_n (lv' := [(3, .int (iI wn)), (0, .ref h), (1, .long a1)]) X.1 X.2.1 d_M_putTime_4 rfl hl (by decide) rfl (fun ls hl => ?_)
  refine lv_lload_n X.1 X.2.1 d_M_putTime_5 rfl (lv_at hl 2 rfl) ?_
  refine lv_ldc2 (v := (86400)) X.1 X.2.1 X.2.2.2.1 (X.2.2.1 _ cl_M_464) d_M_putTime_6 ?_
  refine lv_ldiv X.1 X.2.1 d_M_putTime_9 (by decide) ?_
  refine t_anyl (fun v101 => ?_)
  refine lv_l2i X.1 X.2.1 d_M_putTime_10 rfl ?_
  refine t_u (fun z102 l102 u102 => ?_)
  refine lv_istore (lv' := [(4, .int (iI z102)), (3, .int (iI wn)), (0, .ref h), (1, .long a1)]) X.1 X.2.1 d_M_putTime_11 hl (by decide) rfl (fun ls hl => ?_)
  refine lv_lload_n X.1 X.2.1 d_M_putTime_13 rfl (lv_at hl 3 rfl) ?_
  refine lv_ldc2 (v := (86400)) X.1 X.2.1 X.2.2.2.1 (X.2.2.1 _ cl_M_464) d_M_putTime_14 ?_
  refine lv_lrem X.1 X.2.1 d_M_putTime_17 (by decide) ?_
  refine t_anyl (fun v103 => ?_)
  refine lv_l2i X.1 X.2.1 d_M_putTime_18 rfl ?_
  refine t_u (fun z104 l104 u104 => ?_)
  refine lv_istore (lv' := [(5, .int (iI z104)), (4, .int (iI z102)), (3, .int (iI wn)), (0, .ref h), (1, .long a1)]) X.1 X.2.1 d_M_putTime_19 hl (by decide) rfl (fun ls hl => ?_)
  refine lv_sipush (v := iI 1970) X.1 X.2.1 d_M_putTime_21 (by decide) ?_
  have J108 : ∀ (n110 : Nat) (z105 : Int) (z106 : Int) (H : Heap) (locs : List Loc) (ls : Array Slot), (z105).toNat = n110 → ((-2147483648) ≤ z105) → (z105 ≤ 2147483647) → (1970 ≤ z106) → (z106 ≤ 6000000) → (365 * z106 + z105 ≤ 2148202697) → mH D E (mA E h q sz) s.heap h q I J B G H locs → rS [42] [0] I B I B → lv_has ls 8 [(0, .ref h), (3, .int (iI wn)), (4, .int (iI z105)), (5, .int (iI z104)), (6, .int (iI z106))] → W p l e (mR 3 106) s m AV below meth c H locs 0 0 QQ (F0 m 26 ls []) := by
    intro n110
    induction n110 using Nat.strongRecOn with
    | ind n110 ih109 =>
      intro z105 z106 H locs ls hm111 l105 u105 l106 u106 i107 Y S hl
      refine lv_iload X.1 X.2.1 d_M_putTime_26 (lv_at hl 2 rfl) ?_
      refine lv_iload X.1 X.2.1 d_M_putTime_28 (lv_at hl 4 rfl) ?_
      refine lv_iconst (v := iI 4) X.1 X.2.1 d_M_putTime_30 (by decide) ?_
      refine z_irem X.1 X.2.1 (by omega) (by omega) ⟨by decide, by decide⟩ d_M_putTime_31 ?_
      have J113 : ∀ (z112 : Int) (H : Heap) (locs : List Loc) (ls : Array Slot), (365 ≤ z112) → (z112 ≤ 366) → mH D E (mA E h q sz) s.heap h q I J B G H locs → rS [42] [0] I B I B → lv_has ls 8 [(0, .ref h), (3, .int (iI wn)), (4, .int (iI z105)), (5, .int (iI z104)), (6, .int (iI z106))] → W p l e (mR 3 106) s m AV below meth c H locs 0 0 QQ (F0 m 52 ls [.int (iI z112), .int (iI z105)]) := by
        intro z112 H locs ls l112 u112 Y S hl
        refine z_icmp_lt (tgt := 90) X.1 X.2.1 d_M_putTime_52 (by decide) ⟨by omega, by omega⟩ ⟨by omega, by omega⟩ (fun h117 => ?_) (fun h117 => ?_)
        · refine lv_iconst (v := iI 1) X.1 X.2.1 d_M_putTime_90 (by decide) ?_
          have J121 : ∀ (n123 : Nat) (z118 : Int) (z119 : Int) (H : Heap) (locs : List Loc) (ls : Array Slot), (z118).toNat = n123 → ((-2147483648) ≤ z118) → (z118 ≤ 365) → (1 ≤ z119) → (z119 ≤ 80000000) → (28 * z119 + z118 ≤ 2147483675) → mH D E (mA E h q sz) s.heap h q I J B G H locs → rS [42] [0] I B I B → lv_has ls 8 [(0, .ref h), (3, .int (iI wn)), (4, .int (iI z118)), (5, .int (iI z104)), (6, .int (iI z106)), (7, .int (iI z119))] → W p l e (mR 3 106) s m AV below meth c H locs 0 0 QQ (F0 m 93 ls []) := by
            intro n123
            induction n123 using Nat.strongRecOn with
            | ind n123 ih122 =>
              intro z118 z119 H locs ls hm124 l118 u118 l119 u119 i120 Y S hl
              refine lv_iload X.1 X.2.1 d_M_putTime_93 (lv_at hl 2 rfl) ?_
              refine lv_iload X.1 X.2.1 d_M_putTime_95 (lv_at hl 4 rfl) ?_
              refine lv_iload X.1 X.2.1 d_M_putTime_97 (lv_at hl 5 rfl) ?_
              refine p_calli (As := [.int (iI z106), .int (iI z119)]) (rest := [.int (iI z118)]) (n := 2) X Y hml hl.1 (r_M_daysOf l z106 (by omega) (by omega) z119 (by omega) (by omega)) kl_M_daysOf ks_M_daysOf ki_M_daysOf ini_M hd_M_daysOf ⟨Nat.le_of_ble_eq_true rfl, Nat.le_of_ble_eq_true rfl⟩ rfl (Nat.le_of_ble_eq_true rfl) d_M_putTime_99 ⟨Nat.le_refl _, Nat.le_refl _⟩ (fun r125 H locs p125 Y => ?_)
              obtain ⟨z125, e125, p125⟩ := p125
              subst e125
              obtain ⟨l125, u125⟩ := p125
              refine z_icmp_lt (tgt := 123) X.1 X.2.1 d_M_putTime_102 (by decide) ⟨by omega, by omega⟩ ⟨by omega, by omega⟩ (fun h126 => ?_) (fun h126 => ?_)
              · refine lv_aload_n X.1 X.2.1 d_M_putTime_123 rfl (lv_at hl 0 rfl) ?_
                refine lv_bipush (v := iI 90) X.1 X.2.1 d_M_putTime_124 (by decide) ?_
                refine r_nv (m_run (As := [.int (iI 90)]) (rest := []) (n := 1) X Y hZ hA hml hl.1 (r_M_one l D E h q H.size I J B G 90 (by omega) (by omega) S.1 wn gwn (by omega) (by omega)) kl_M_one ks_M_one kx_M_one ki_M_one ini_M hd_M_one ⟨Nat.le_of_ble_eq_true rfl, Nat.le_of_ble_eq_true rfl⟩ rfl (Nat.le_of_ble_eq_true rfl) d_M_putTime_126 ⟨Nat.le_refl _, Nat.le_refl _⟩) X Y hA S (by decide) (by decide) (fun u H locs Y S s127 p127 => ?_)
                obtain ⟨I127, J127, B127, G127⟩ := u
                dsimp only at Y S s127 p127
                obtain ⟨x127, g127_MF⟩ := p127
                refine lv_aload_n X.1 X.2.1 d_M_putTime_129 rfl (lv_at hl 0 rfl) ?_
                refine lv_iload X.1 X.2.1 d_M_putTime_130 (lv_at hl 3 rfl) ?_
                refine lv_bipush (v := iI 60) X.1 X.2.1 d_M_putTime_132 (by decide) ?_
                refine z_iremg X.1 X.2.1 ⟨by omega, by omega⟩ ⟨by decide, by decide⟩ d_M_putTime_134 (fun z128 l128 u128 x128 => ?_)
                refine r_nv (m_run (As := [.int (iI z128)]) (rest := []) (n := 1) X Y hZ hA hml hl.1 (r_M_putTwo l D E h q H.size I127 J127 B127 G127 z128 (by omega) (by omega) S.1 (wn - 1) (x127.trans (congrArg iI (show (wn - 1 : Int) = wn - 1 by omega))) (by omega) (by omega)) kl_M_putTwo ks_M_putTwo kx_M_putTwo ki_M_putTwo ini_M hd_M_putTwo ⟨Nat.le_of_ble_eq_true rfl, Nat.le_of_ble_eq_true rfl⟩ rfl (Nat.le_of_ble_eq_true rfl) d_M_putTime_135 ⟨Nat.le_refl _, Nat.le_refl _⟩) X Y hA S (by decide) (by decide) (fun u H locs Y S s129 p129 => ?_)
                obtain ⟨I129, J129, B129, G129⟩ := u
                dsimp only at Y S s129 p129
                obtain ⟨x129, g129_MF⟩ := p129
                obtain ⟨z130, e130, l130, u130⟩ := x129
                refine lv_aload_n X.1 X.2.1 d_M_putTime_138 rfl (lv_at hl 0 rfl) ?_
                refine lv_iload X.1 X.2.1 d_M_putTime_139 (lv_at hl 3 rfl) ?_
                refine lv_bipush (v := iI 60) X.1 X.2.1 d_M_putTime_141 (by decide) ?_
                refine z_idivg X.1 X.2.1 ⟨by omega, by omega⟩ ⟨by decide, by decide⟩ d_M_putTime_143 (fun z131 l131 u131 x131 y131 => ?_)
                refine lv_bipush (v := iI 60) X.1 X.2.1 d_M_putTime_144 (by decide) ?_
                refine z_iremg X.1 X.2.1 ⟨by omega, by omega⟩ ⟨by decide, by decide⟩ d_M_putTime_146 (fun z132 l132 u132 x132 => ?_)
                refine r_nv (m_run (As := [.int (iI z132)]) (rest := []) (n := 1) X Y hZ hA hml hl.1 (r_M_putTwo l D E h q H.size I129 J129 B129 G129 z132 (by omega) (by omega) S.1 z130 e130 (by omega) (by omega)) kl_M_putTwo ks_M_putTwo kx_M_putTwo ki_M_putTwo ini_M hd_M_putTwo ⟨Nat.le_of_ble_eq_true rfl, Nat.le_of_ble_eq_true rfl⟩ rfl (Nat.le_of_ble_eq_true rfl) d_M_putTime_147 ⟨Nat.le_refl _, Nat.le_refl _⟩) X Y hA S (by decide) (by decide) (fun u H locs Y S s133 p133 => ?_)
                obtain ⟨I133, J133, B133, G133⟩ := u
                dsimp only at Y S s133 p133
                obtain ⟨x133, g133_MF⟩ := p133
                obtain ⟨z134, e134, l134, u134⟩ := x133
                refine lv_aload_n X.1 X.2.1 d_M_putTime_150 rfl (lv_at hl 0 rfl) ?_
                refine lv_iload X.1 X.2.1 d_M_putTime_151 (lv_at hl 3 rfl) ?_
                refine lv_sipush (v := iI 3600) X.1 X.2.1 d_M_putTime_153 (by decide) ?_
                refine z_idivg X.1 X.2.1 ⟨by omega, by omega⟩ ⟨by decide, by decide⟩ d_M_putTime_156 (fun z135 l135 u135 x135 y135 => ?_)
                refine r_nv (m_run (As := [.int (iI z135)]) (rest := []) (n := 1) X Y hZ hA hml hl.1 (r_M_putTwo l D E h q H.size I133 J133 B133 G133 z135 (by omega) (by omega) S.1 z134 e134 (by omega) (by omega)) kl_M_putTwo ks_M_putTwo kx_M_putTwo ki_M_putTwo ini_M hd_M_putTwo ⟨Nat.le_of_ble_eq_true rfl, Nat.le_of_ble_eq_true rfl⟩ rfl (Nat.le_of_ble_eq_true rfl) d_M_putTime_157 ⟨Nat.le_refl _, Nat.le_refl _⟩) X Y hA S (by decide) (by decide) (fun u H locs Y S s136 p136 => ?_)
                obtain ⟨I136, J136, B136, G136⟩ := u
                dsimp only at Y S s136 p136
                obtain ⟨x136, g136_MF⟩ := p136
                obtain ⟨z137, e137, l137, u137⟩ := x136
                refine lv_aload_n X.1 X.2.1 d_M_putTime_160 rfl (lv_at hl 0 rfl) ?_
                refine lv_iload X.1 X.2.1 d_M_putTime_161 (lv_at hl 2 rfl) ?_
                refine lv_iconst (v := iI 1) X.1 X.2.1 d_M_putTime_163 (by decide) ?_
                refine z_iadd X.1 X.2.1 d_M_putTime_164 ?_
                refine r_nv (m_run (As := [.int (iI (z118 + 1))]) (rest := []) (n := 1) X Y hZ hA hml hl.1 (r_M_putTwo l D E h q H.size I136 J136 B136 G136 (z118 + 1) (by omega) (by omega) S.1 z137 e137 (by omega) (by omega)) kl_M_putTwo ks_M_putTwo kx_M_putTwo ki_M_putTwo ini_M hd_M_putTwo ⟨Nat.le_of_ble_eq_true rfl, Nat.le_of_ble_eq_true rfl⟩ rfl (Nat.le_of_ble_eq_true rfl) d_M_putTime_165 ⟨Nat.le_refl _, Nat.le_refl _⟩) X Y hA S (by decide) (by decide) (fun u H locs Y S s138 p138 => ?_)
                obtain ⟨I138, J138, B138, G138⟩ := u
                dsimp only at Y S s138 p138
                obtain ⟨x138, g138_MF⟩ := p138
                obtain ⟨z139, e139, l139, u139⟩ := x138
                refine lv_aload_n X.1 X.2.1 d_M_putTime_168 rfl (lv_at hl 0 rfl) ?_
                refine lv_iload X.1 X.2.1 d_M_putTime_169 (lv_at hl 5 rfl) ?_
                refine r_nv (m_run (As := [.int (iI z119)]) (rest := []) (n := 1) X Y hZ hA hml hl.1 (r_M_putTwo l D E h q H.size I138 J138 B138 G138 z119 (by omega) (by omega) S.1 z139 e139 (by omega) (by omega)) kl_M_putTwo ks_M_putTwo kx_M_putTwo ki_M_putTwo ini_M hd_M_putTwo ⟨Nat.le_of_ble_eq_true rfl, Nat.le_of_ble_eq_true rfl⟩ rfl (Nat.le_of_ble_eq_true rfl) d_M_putTime_171 ⟨Nat.le_refl _, Nat.le_refl _⟩) X Y hA S (by decide) (by decide) (fun u H locs Y S s140 p140 => ?_)
                obtain ⟨I140, J140, B140, G140⟩ := u
                dsimp only at Y S s140 p140
                obtain ⟨x140, g140_MF⟩ := p140
                obtain ⟨z141, e141, l141, u141⟩ := x140
                refine lv_aload_n X.1 X.2.1 d_M_putTime_174 rfl (lv_at hl 0 rfl) ?_
                refine lv_iload X.1 X.2.1 d_M_putTime_175 (lv_at hl 4 rfl) ?_
                refine lv_bipush (v := iI 100) X.1 X.2.1 d_M_putTime_177 (by decide) ?_
                refine z_irem X.1 X.2.1 (by omega) (by omega) ⟨by decide, by decide⟩ d_M_putTime_179 ?_
                refine r_nv (m_run (As := [.int (iI (z106 % 100))]) (rest := []) (n := 1) X Y hZ hA hml hl.1 (r_M_putTwo l D E h q H.size I140 J140 B140 G140 (z106 % 100) (by omega) (by omega) S.1 z141 e141 (by omega) (by omega)) kl_M_putTwo ks_M_putTwo kx_M_putTwo ki_M_putTwo ini_M hd_M_putTwo ⟨Nat.le_of_ble_eq_true rfl, Nat.le_of_ble_eq_true rfl⟩ rfl (Nat.le_of_ble_eq_true rfl) d_M_putTime_180 ⟨Nat.le_refl _, Nat.le_refl _⟩) X Y hA S (by decide) (by decide) (fun u H locs Y S s142 p142 => ?_)
                obtain ⟨I142, J142, B142, G142⟩ := u
                dsimp only at Y S s142 p142
                obtain ⟨x142, g142_MF⟩ := p142
                obtain ⟨z143, e143, l143, u143⟩ := x142
                refine lv_aload_n X.1 X.2.1 d_M_putTime_183 rfl (lv_at hl 0 rfl) ?_
                refine lv_iload X.1 X.2.1 d_M_putTime_184 (lv_at hl 4 rfl) ?_
                refine lv_bipush (v := iI 100) X.1 X.2.1 d_M_putTime_186 (by decide) ?_
                refine z_idiv X.1 X.2.1 (by omega) (by omega) ⟨by decide, by decide⟩ d_M_putTime_188 ?_
                refine r_nv (m_run (As := [.int (iI (z106 / 100))]) (rest := []) (n := 1) X Y hZ hA hml hl.1 (r_M_putTwo l D E h q H.size I142 J142 B142 G142 (z106 / 100) (by omega) (by omega) S.1 z143 e143 (by omega) (by omega)) kl_M_putTwo ks_M_putTwo kx_M_putTwo ki_M_putTwo ini_M hd_M_putTwo ⟨Nat.le_of_ble_eq_true rfl, Nat.le_of_ble_eq_true rfl⟩ rfl (Nat.le_of_ble_eq_true rfl) d_M_putTime_189 ⟨Nat.le_refl _, Nat.le_refl _⟩) X Y hA S (by decide) (by decide) (fun u H locs Y S s144 p144 => ?_)
                obtain ⟨I144, J144, B144, G144⟩ := u
                dsimp only at Y S s144 p144
                obtain ⟨x144, g144_MF⟩ := p144
                obtain ⟨z145, e145, l145, u145⟩ := x144
                refine lv_aload_n X.1 X.2.1 d_M_putTime_192 rfl (lv_at hl 0 rfl) ?_
                refine lv_bipush (v := iI 24) X.1 X.2.1 d_M_putTime_193 (by decide) ?_
                refine lv_iload_n X.1 X.2.1 d_M_putTime_195 rfl (lv_at hl 1 rfl) ?_
                refine r_nv (m_run (As := [.int (iI 24), .int (iI wn)]) (rest := []) (n := 2) X Y hZ hA hml hl.1 (r_M_head l D E h q H.size I144 J144 B144 G144 24 (by omega) (by omega) wn (by omega) (by omega) S.1 z145 e145 (by omega) (by omega)) kl_M_head ks_M_head kx_M_head ki_M_head ini_M hd_M_head ⟨Nat.le_of_ble_eq_true rfl, Nat.le_of_ble_eq_true rfl⟩ rfl (Nat.le_of_ble_eq_true rfl) d_M_putTime_196 ⟨Nat.le_refl _, Nat.le_refl _⟩) X Y hA S (by decide) (by decide) (fun u H locs Y S s146 p146 => ?_)
                obtain ⟨I146, J146, B146, G146⟩ := u
                dsimp only at Y S s146 p146
                obtain ⟨x146, g146_MF⟩ := p146
                have f147 : mmF 30000 60000 (B 0) (B146 0) := (mmF_tr (mmF_tr (mmF_tr (mmF_tr (mmF_tr (mmF_tr (mmF_tr (mmF_tr (mmF_tr mmF_rf g127_MF (by decide)) g129_MF (by decide)) g133_MF (by decide)) g136_MF (by decide)) g138_MF (by decide)) g140_MF (by decide)) g142_MF (by decide)) g144_MF (by decide)) g146_MF (by decide))
                obtain ⟨z148, e148, l148, u148⟩ := x146
                exact m_retv hQQ X Y hr hlk ⟨S, ⟨⟨z148, e148, by omega, by omega⟩, f147⟩⟩ d_M_putTime_199
              · refine lv_iload X.1 X.2.1 d_M_putTime_105 (lv_at hl 2 rfl) ?_
                refine lv_iload X.1 X.2.1 d_M_putTime_107 (lv_at hl 4 rfl) ?_
                refine lv_iload X.1 X.2.1 d_M_putTime_109 (lv_at hl 5 rfl) ?_
                refine p_calli (As := [.int (iI z106), .int (iI z119)]) (rest := [.int (iI z118)]) (n := 2) X Y hml hl.1 (r_M_daysOf l z106 (by omega) (by omega) z119 (by omega) (by omega)) kl_M_daysOf ks_M_daysOf ki_M_daysOf ini_M hd_M_daysOf ⟨Nat.le_of_ble_eq_true rfl, Nat.le_of_ble_eq_true rfl⟩ rfl (Nat.le_of_ble_eq_true rfl) d_M_putTime_111 ⟨Nat.le_refl _, Nat.le_refl _⟩ (fun r149 H locs p149 Y => ?_)
                obtain ⟨z149, e149, p149⟩ := p149
                subst e149
                obtain ⟨l149, u149⟩ := p149
                refine z_isub X.1 X.2.1 d_M_putTime_114 ?_
                refine lv_istore (lv' := [(4, .int (iI (z118 - z149))), (0, .ref h), (3, .int (iI wn)), (5, .int (iI z104)), (6, .int (iI z106)), (7, .int (iI z119))]) X.1 X.2.1 d_M_putTime_115 hl (by decide) rfl (fun ls hl => ?_)
                refine lv_iinc (v := iI (z119 + 1)) (lv' := [(7, .int (iI (z119 + 1))), (4, .int (iI (z118 - z149))), (0, .ref h), (3, .int (iI wn)), (5, .int (iI z104)), (6, .int (iI z106))]) X.1 X.2.1 d_M_putTime_117 hl (k := 5) rfl ((iI_add _ _).trans (congrArg iI (by omega))) (by decide) rfl (fun ls hl => ?_)
                refine lv_goto (tgt := 93) X.1 X.2.1 d_M_putTime_120 (by decide) ?_
                exact ih122 ((z118 - z149).toNat) (by omega) (z118 - z149) (z119 + 1) _ _ _ rfl (by omega) (by omega) (by omega) (by omega) (by omega) Y S (lv_sub hl [2, 3, 1, 4, 5, 0] rfl)
          refine lv_istore (lv' := [(7, .int (iI 1)), (0, .ref h), (3, .int (iI wn)), (4, .int (iI z105)), (5, .int (iI z104)), (6, .int (iI z106))]) X.1 X.2.1 d_M_putTime_91 hl (by decide) rfl (fun ls hl => ?_)
          exact J121 _ z105 1 _ _ _ rfl (by omega) (by omega) (by omega) (by omega) (by omega) Y S (lv_sub hl [1, 2, 3, 4, 5, 0] rfl)
        · refine lv_iload X.1 X.2.1 d_M_putTime_55 (lv_at hl 2 rfl) ?_
          refine lv_iload X.1 X.2.1 d_M_putTime_57 (lv_at hl 4 rfl) ?_
          refine lv_iconst (v := iI 4) X.1 X.2.1 d_M_putTime_59 (by decide) ?_
          refine z_irem X.1 X.2.1 (by omega) (by omega) ⟨by decide, by decide⟩ d_M_putTime_60 ?_
          have J151 : ∀ (z150 : Int) (H : Heap) (locs : List Loc) (ls : Array Slot), (365 ≤ z150) → (z150 ≤ 366) → mH D E (mA E h q sz) s.heap h q I J B G H locs → rS [42] [0] I B I B → lv_has ls 8 [(0, .ref h), (3, .int (iI wn)), (5, .int (iI z104)), (6, .int (iI z106))] → W p l e (mR 3 106) s m AV below meth c H locs 0 0 QQ (F0 m 81 ls [.int (iI z150), .int (iI z105)]) := by
            intro z150 H locs ls l150 u150 Y S hl
            refine z_isub X.1 X.2.1 d_M_putTime_81 ?_
            refine lv_istore (lv' := [(4, .int (iI (z105 - z150))), (0, .ref h), (3, .int (iI wn)), (5, .int (iI z104)), (6, .int (iI z106))]) X.1 X.2.1 d_M_putTime_82 hl (by decide) rfl (fun ls hl => ?_)
            refine lv_iinc (v := iI (z106 + 1)) (lv' := [(6, .int (iI (z106 + 1))), (4, .int (iI (z105 - z150))), (0, .ref h), (3, .int (iI wn)), (5, .int (iI z104))]) X.1 X.2.1 d_M_putTime_84 hl (k := 4) rfl ((iI_add _ _).trans (congrArg iI (by omega))) (by decide) rfl (fun ls hl => ?_)
            refine lv_goto (tgt := 26) X.1 X.2.1 d_M_putTime_87 (by decide) ?_
            exact ih109 ((z105 - z150).toNat) (by omega) (z105 - z150) (z106 + 1) _ _ _ rfl (by omega) (by omega) (by omega) (by omega) (by omega) Y S (lv_sub hl [2, 3, 1, 4, 0] rfl)
          have J155 : ∀  (H : Heap) (locs : List Loc) (ls : Array Slot), mH D E (mA E h q sz) s.heap h q I J B G H locs → rS [42] [0] I B I B → lv_has ls 8 [(0, .ref h), (3, .int (iI wn)), (5, .int (iI z104)), (6, .int (iI z106))] → W p l e (mR 3 106) s m AV below meth c H locs 0 0 QQ (F0 m 78 ls [.int (iI z105)]) := by
            intro  H locs ls  Y S hl
            refine lv_sipush (v := iI 365) X.1 X.2.1 d_M_putTime_78 (by decide) ?_
            exact J151 365 _ _ _ (by omega) (by omega) Y S (lv_sub hl [0, 1, 2, 3] rfl)
          refine z_if_ne (tgt := 78) X.1 X.2.1 d_M_putTime_61 (by decide) ⟨by omega, by omega⟩ (fun h159 => ?_) (fun h159 => ?_)
          · exact J155  _ _ _  Y S (lv_sub hl [0, 1, 3, 4] rfl)
          · refine lv_iload X.1 X.2.1 d_M_putTime_64 (lv_at hl 4 rfl) ?_
            refine lv_sipush (v := iI 2100) X.1 X.2.1 d_M_putTime_66 (by decide) ?_
            refine z_icmp_eq (tgt := 78) X.1 X.2.1 d_M_putTime_69 (by decide) ⟨by omega, by omega⟩ ⟨by omega, by omega⟩ (fun h160 => ?_) (fun h160 => ?_)
            · exact J155  _ _ _  Y S (lv_sub hl [0, 1, 3, 4] rfl)
            · refine lv_sipush (v := iI 366) X.1 X.2.1 d_M_putTime_72 (by decide) ?_
              refine lv_goto (tgt := 81) X.1 X.2.1 d_M_putTime_75 (by decide) ?_
              exact J151 366 _ _ _ (by omega) (by omega) Y S (lv_sub hl [0, 1, 3, 4] rfl)
      have J161 : ∀  (H : Heap) (locs : List Loc) (ls : Array Slot), mH D E (mA E h q sz) s.heap h q I J B G H locs → rS [42] [0] I B I B → lv_has ls 8 [(0, .ref h), (3, .int (iI wn)), (4, .int (iI z105)), (5, .int (iI z104)), (6, .int (iI z106))] → W p l e (mR 3 106) s m AV below meth c H locs 0 0 QQ (F0 m 49 ls [.int (iI z105)]) := by
        intro  H locs ls  Y S hl
        refine lv_sipush (v := iI 365) X.1 X.2.1 d_M_putTime_49 (by decide) ?_
        exact J113 365 _ _ _ (by omega) (by omega) Y S (lv_sub hl [0, 1, 2, 3, 4] rfl)
      refine z_if_ne (tgt := 49) X.1 X.2.1 d_M_putTime_32 (by decide) ⟨by omega, by omega⟩ (fun h165 => ?_) (fun h165 => ?_)
      · exact J161  _ _ _  Y S (lv_sub hl [0, 1, 2, 3, 4] rfl)
      · refine lv_iload X.1 X.2.1 d_M_putTime_35 (lv_at hl 4 rfl) ?_
        refine lv_sipush (v := iI 2100) X.1 X.2.1 d_M_putTime_37 (by decide) ?_
        refine z_icmp_eq (tgt := 49) X.1 X.2.1 d_M_putTime_40 (by decide) ⟨by omega, by omega⟩ ⟨by omega, by omega⟩ (fun h166 => ?_) (fun h166 => ?_)
        · exact J161  _ _ _  Y S (lv_sub hl [0, 1, 2, 3, 4] rfl)
        · refine lv_sipush (v := iI 366) X.1 X.2.1 d_M_putTime_43 (by decide) ?_
          refine lv_goto (tgt := 52) X.1 X.2.1 d_M_putTime_46 (by decide) ?_
          exact J113 366 _ _ _ (by omega) (by omega) Y S (lv_sub hl [0, 1, 2, 3, 4] rfl)
  refine lv_istore (lv' := [(6, .int (iI 1970)), (5, .int (iI z104)), (4, .int (iI z102)), (3, .int (iI wn)), (0, .ref h), (1, .long a1)]) X.1 X.2.1 d_M_putTime_24 hl (by decide) rfl (fun ls hl => ?_)
  exact J108 _ z102 1970 _ _ _ rfl (by omega) (by omega) (by omega) (by omega) (by omega) Y S (lv_sub hl [4, 3, 2, 1, 0] rfl)
set_option maxHeartbeats 4000000 in
set_option maxRecDepth 100000 in
theorem r_M_timeField (l : Launch) (D : mD) (E : mE) (h : Nat) (q : Nat → Nat) (sz : Nat) (I : Nat → Int32) (J : Nat → Int64) (B : Nat → Nat → Int32) (G : Nat → Nat → Int64) (a1 : Int) (l_a1 : (-2147483648) ≤ a1) (u_a1 : a1 ≤ 2147483647) (a2 : Int64) (hT : rT I B) (wn : Int) (gwn : I 42 = iI wn) (lwn : 30200 ≤ wn) (uwn : wn ≤ 60000) : Met l y_M_timeField (k_M_timeField :: lw_tg) (mR 4 133) (va_Pc [.ref h, .int (iI a1), .long a2] (mPre D E h q (I, J, B, G) sz)) (va_Qv (rPv [42] [0] I B (fun (u : mS) => (∃ V2 : Int, u.1 42 = iI V2 ∧ wn - (24) ≤ V2 ∧ V2 ≤ wn) ∧ mmF 30000 60000 (B 0) (u.2.2.1 0))) (mPost D E h q (mA E h q sz)) (mA E h q sz)) 0 0 (mA E h q sz) := by
  refine m_enter (by decide) rfl (Nat.le_of_ble_eq_true rfl) (fun p e s m below meth c ls AV QQ H locs hQQ X Y hZ hA hr hlk hml hl => ?_)
  have Y : mH D E (mA E h q sz) s.heap h q I J B G H locs := Y
  have S : rS [42] [0] I B I B := rS_rf hT
  have hl : lv_has ls 5 [(0, .ref h), (1, .int (iI a1)), (2, .long a2)] := hl
  refine lv_aload_n X.1 X.2.1 d_M_timeField_0 rfl (lv_at hl 0 rfl) ?_
  refine r_get0 X Y (by decide) lk_w0 (gf_w0 _ _ _) rfl gwn d_M_timeField_1 ?_
  refine lv_istore (lv' := [(4, .int (iI wn)), (0, .ref h), (1, .int (iI a1)), (2, .long a2)]) X.1 X.2.1 d_M_timeField_4 hl (by decide) rfl (fun ls hl => ?_)
  refine lv_aload_n X.1 X.2.1 d_M_timeField_6 rfl (lv_at hl 1 rfl) ?_
  refine lv_lload_n X.1 X.2.1 d_M_timeField_7 rfl (lv_at hl 3 rfl) ?_
  refine r_nv (m_run (As := [.long a2]) (rest := []) (n := 1) X Y hZ hA hml hl.1 (r_M_putTime l D E h q H.size I J B G a2 S.1 wn gwn (by omega) (by omega)) kl_M_putTime ks_M_putTime kx_M_putTime ki_M_putTime ini_M hd_M_putTime ⟨Nat.le_of_ble_eq_true rfl, Nat.le_of_ble_eq_true rfl⟩ rfl (Nat.le_of_ble_eq_true rfl) d_M_timeField_8 ⟨Nat.le_refl _, Nat.le_refl _⟩) X Y hA S (by decide) (by decide) (fun u H locs Y S s101 p101 => ?_)
  obtain ⟨I101, J101, B101, G101⟩ := u
  dsimp only at Y S s101 p101
  obtain ⟨x101, g101_MF⟩ := p101
  obtain ⟨z102, e102, l102, u102⟩ := x101
  refine lv_aload_n X.1 X.2.1 d_M_timeField_11 rfl (lv_at hl 1 rfl) ?_
  refine lv_iload_n X.1 X.2.1 d_M_timeField_12 rfl (lv_at hl 2 rfl) ?_
  refine lv_iload X.1 X.2.1 d_M_timeField_13 (lv_at hl 0 rfl) ?_
  refine r_nv (m_run (As := [.int (iI a1), .int (iI wn)]) (rest := []) (n := 2) X Y hZ hA hml hl.1 (r_M_field l D E h q H.size I101 J101 B101 G101 a1 (by omega) (by omega) wn (by omega) (by omega) S.1 z102 e102 (by omega) (by omega)) kl_M_field ks_M_field kx_M_field ki_M_field ini_M hd_M_field ⟨Nat.le_of_ble_eq_true rfl, Nat.le_of_ble_eq_true rfl⟩ rfl (Nat.le_of_ble_eq_true rfl) d_M_timeField_15 ⟨Nat.le_refl _, Nat.le_refl _⟩) X Y hA S (by decide) (by decide) (fun u H locs Y S s103 p103 => ?_)
  obtain ⟨I103, J103, B103, G103⟩ := u
  dsimp only at Y S s103 p103
  obtain ⟨x103, g103_MF⟩ := p103
  obtain ⟨z104, e104, l104, u104⟩ := x103
  exact m_retv hQQ X Y hr hlk ⟨S, ⟨⟨z104, e104, by omega, by omega⟩, (mmF_tr (mmF_tr mmF_rf g101_MF (by decide)) g103_MF (by decide))⟩⟩ d_M_timeField_18
set_option maxHeartbeats 4000000 in
set_option maxRecDepth 100000 in
theorem r_M_flagsField (l : Launch) (D : mD) (E : mE) (h : Nat) (q : Nat → Nat) (sz : Nat) (I : Nat → Int32) (J : Nat → Int64) (B : Nat → Nat → Int32) (G : Nat → Nat → Int64) (a1 : Int) (l_a1 : (-2147483648) ≤ a1) (u_a1 : a1 ≤ 2147483647) (a2 : Int) (l_a2 : (-2147483648) ≤ a2) (u_a2 : a2 ≤ 2147483647) (hT : rT I B) (wn : Int) (gwn : I 42 = iI wn) (lwn : 30100 ≤ wn) (uwn : wn ≤ 60000) : Met l y_M_flagsField (k_M_flagsField :: lw_tg) (mR 4 128) (va_Pc [.ref h, .int (iI a1), .int (iI a2)] (mPre D E h q (I, J, B, G) sz)) (va_Qv (rPv [42] [0] I B (fun (u : mS) => (∃ V2 : Int, u.1 42 = iI V2 ∧ wn - (13) ≤ V2 ∧ V2 ≤ wn) ∧ mmF 30000 60000 (B 0) (u.2.2.1 0))) (mPost D E h q (mA E h q sz)) (mA E h q sz)) 0 0 (mA E h q sz) := by
  refine m_enter (by decide) rfl (Nat.le_of_ble_eq_true rfl) (fun p e s m below meth c ls AV QQ H locs hQQ X Y hZ hA hr hlk hml hl => ?_)
  have Y : mH D E (mA E h q sz) s.heap h q I J B G H locs := Y
  have S : rS [42] [0] I B I B := rS_rf hT
  have hl : lv_has ls 5 [(0, .ref h), (1, .int (iI a1)), (2, .int (iI a2))] := hl
  refine lv_aload_n X.1 X.2.1 d_M_flagsField_0 rfl (lv_at hl 0 rfl) ?_
  refine r_get0 X Y (by decide) lk_w0 (gf_w0 _ _ _) rfl gwn d_M_flagsField_1 ?_
  refine lv_istore_n (lv' := [(3, .int (iI wn)), (0, .ref h), (1, .int (iI a1)), (2, .int (iI a2))]) X.1 X.2.1 d_M_flagsField_4 rfl hl (by decide) rfl (fun ls hl => ?_)
  refine lv_iconst (v := iI 0) X.1 X.2.1 d_M_flagsField_5 (by decide) ?_
  have J106 : ∀ (n108 : Nat) (z102 : Int) (z104 : Int) (I101 : Nat → Int32) (J101 : Nat → Int64) (B101 : Nat → Nat → Int32) (G101 : Nat → Nat → Int64) (H : Heap) (locs : List Loc) (ls : Array Slot), (4 - z102).toNat = n108 → (0 ≤ z102) → (z102 ≤ 4) → (mmF 30000 60000 (B 0) (B101 0)) → (I101 42 = iI z104) → (0 ≤ z104) → (z104 ≤ 60000) → (z104 = wn - z102) → mH D E (mA E h q sz) s.heap h q I101 J101 B101 G101 H locs → rS [42] [0] I B I101 B101 → lv_has ls 5 [(0, .ref h), (1, .int (iI a1)), (2, .int (iI a2)), (3, .int (iI wn)), (4, .int (iI z102))] → W p l e (mR 4 128) s m AV below meth c H locs 0 0 QQ (F0 m 8 ls []) := by
    intro n108
    induction n108 using Nat.strongRecOn with
    | ind n108 ih107 =>
      intro z102 z104 I101 J101 B101 G101 H locs ls hm109 l102 u102 f103 e104 l104 u104 i105 Y S hl
      refine lv_iload X.1 X.2.1 d_M_flagsField_8 (lv_at hl 4 rfl) ?_
      refine lv_iconst (v := iI 4) X.1 X.2.1 d_M_flagsField_10 (by decide) ?_
      refine z_icmp_ge (tgt := 31) X.1 X.2.1 d_M_flagsField_11 (by decide) ⟨by omega, by omega⟩ ⟨by omega, by omega⟩ (fun h110 => ?_) (fun h110 => ?_)
      · refine lv_aload_n X.1 X.2.1 d_M_flagsField_31 rfl (lv_at hl 0 rfl) ?_
        refine lv_iconst (v := iI 0) X.1 X.2.1 d_M_flagsField_32 (by decide) ?_
        refine r_nv (m_run (As := [.int (iI 0)]) (rest := []) (n := 1) X Y hZ hA hml hl.1 (r_M_one l D E h q H.size I101 J101 B101 G101 0 (by omega) (by omega) S.1 z104 e104 (by omega) (by omega)) kl_M_one ks_M_one kx_M_one ki_M_one ini_M hd_M_one ⟨Nat.le_of_ble_eq_true rfl, Nat.le_of_ble_eq_true rfl⟩ rfl (Nat.le_of_ble_eq_true rfl) d_M_flagsField_33 ⟨Nat.le_refl _, Nat.le_refl _⟩) X Y hA S (by decide) (by decide) (fun u H locs Y S s111 p111 => ?_)
        obtain ⟨I111, J111, B111, G111⟩ := u
        dsimp only at Y S s111 p111
        obtain ⟨x111, g111_MF⟩ := p111
        refine lv_aload_n X.1 X.2.1 d_M_flagsField_36 rfl (lv_at hl 0 rfl) ?_
        refine lv_iconst (v := iI 3) X.1 X.2.1 d_M_flagsField_37 (by decide) ?_
        refine lv_iload_n X.1 X.2.1 d_M_flagsField_38 rfl (lv_at hl 3 rfl) ?_
        refine r_nv (m_run (As := [.int (iI 3), .int (iI wn)]) (rest := []) (n := 2) X Y hZ hA hml hl.1 (r_M_head l D E h q H.size I111 J111 B111 G111 3 (by omega) (by omega) wn (by omega) (by omega) S.1 (z104 - 1) (x111.trans (congrArg iI (show (z104 - 1 : Int) = z104 - 1 by omega))) (by omega) (by omega)) kl_M_head ks_M_head kx_M_head ki_M_head ini_M hd_M_head ⟨Nat.le_of_ble_eq_true rfl, Nat.le_of_ble_eq_true rfl⟩ rfl (Nat.le_of_ble_eq_true rfl) d_M_flagsField_39 ⟨Nat.le_refl _, Nat.le_refl _⟩) X Y hA S (by decide) (by decide) (fun u H locs Y S s112 p112 => ?_)
        obtain ⟨I112, J112, B112, G112⟩ := u
        dsimp only at Y S s112 p112
        obtain ⟨x112, g112_MF⟩ := p112
        obtain ⟨z113, e113, l113, u113⟩ := x112
        refine lv_aload_n X.1 X.2.1 d_M_flagsField_42 rfl (lv_at hl 0 rfl) ?_
        refine lv_iload_n X.1 X.2.1 d_M_flagsField_43 rfl (lv_at hl 1 rfl) ?_
        refine lv_iload_n X.1 X.2.1 d_M_flagsField_44 rfl (lv_at hl 3 rfl) ?_
        refine r_nv (m_run (As := [.int (iI a1), .int (iI wn)]) (rest := []) (n := 2) X Y hZ hA hml hl.1 (r_M_field l D E h q H.size I112 J112 B112 G112 a1 (by omega) (by omega) wn (by omega) (by omega) S.1 z113 e113 (by omega) (by omega)) kl_M_field ks_M_field kx_M_field ki_M_field ini_M hd_M_field ⟨Nat.le_of_ble_eq_true rfl, Nat.le_of_ble_eq_true rfl⟩ rfl (Nat.le_of_ble_eq_true rfl) d_M_flagsField_45 ⟨Nat.le_refl _, Nat.le_refl _⟩) X Y hA S (by decide) (by decide) (fun u H locs Y S s114 p114 => ?_)
        obtain ⟨I114, J114, B114, G114⟩ := u
        dsimp only at Y S s114 p114
        obtain ⟨x114, g114_MF⟩ := p114
        obtain ⟨z115, e115, l115, u115⟩ := x114
        exact m_retv hQQ X Y hr hlk ⟨S, ⟨⟨z115, e115, by omega, by omega⟩, (mmF_tr (mmF_tr (mmF_tr f103 g111_MF (by decide)) g112_MF (by decide)) g114_MF (by decide))⟩⟩ d_M_flagsField_48
      · refine lv_aload_n X.1 X.2.1 d_M_flagsField_14 rfl (lv_at hl 0 rfl) ?_
        refine lv_iload_n X.1 X.2.1 d_M_flagsField_15 rfl (lv_at hl 2 rfl) ?_
        refine lv_bipush (v := iI 8) X.1 X.2.1 d_M_flagsField_16 (by decide) ?_
        refine lv_iload X.1 X.2.1 d_M_flagsField_18 (lv_at hl 4 rfl) ?_
        refine z_imul X.1 X.2.1 d_M_flagsField_20 ?_
        refine lv_iushr X.1 X.2.1 d_M_flagsField_21 rfl ?_
        refine t_u (fun z116 l116 u116 => ?_)
        refine r_nv (m_run (As := [.int (iI z116)]) (rest := []) (n := 1) X Y hZ hA hml hl.1 (r_M_one l D E h q H.size I101 J101 B101 G101 z116 (by omega) (by omega) S.1 z104 e104 (by omega) (by omega)) kl_M_one ks_M_one kx_M_one ki_M_one ini_M hd_M_one ⟨Nat.le_of_ble_eq_true rfl, Nat.le_of_ble_eq_true rfl⟩ rfl (Nat.le_of_ble_eq_true rfl) d_M_flagsField_22 ⟨Nat.le_refl _, Nat.le_refl _⟩) X Y hA S (by decide) (by decide) (fun u H locs Y S s117 p117 => ?_)
        obtain ⟨I117, J117, B117, G117⟩ := u
        dsimp only at Y S s117 p117
        obtain ⟨x117, g117_MF⟩ := p117
        refine lv_iinc (v := iI (z102 + 1)) (lv' := [(4, .int (iI (z102 + 1))), (0, .ref h), (1, .int (iI a1)), (2, .int (iI a2)), (3, .int (iI wn))]) X.1 X.2.1 d_M_flagsField_25 hl (k := 4) rfl ((iI_add _ _).trans (congrArg iI (by omega))) (by decide) rfl (fun ls hl => ?_)
        refine lv_goto (tgt := 8) X.1 X.2.1 d_M_flagsField_28 (by decide) ?_
        exact ih107 ((4 - (z102 + 1)).toNat) (by omega) (z102 + 1) (z104 - 1) I117 J117 B117 G117 _ _ _ rfl (by omega) (by omega) (mmF_tr f103 g117_MF (by decide)) (x117.trans (congrArg iI (show (z104 - 1 : Int) = z104 - 1 by omega))) (by omega) (by omega) (by omega) Y S (lv_sub hl [1, 2, 3, 4, 0] rfl)
  refine lv_istore (lv' := [(4, .int (iI 0)), (3, .int (iI wn)), (0, .ref h), (1, .int (iI a1)), (2, .int (iI a2))]) X.1 X.2.1 d_M_flagsField_6 hl (by decide) rfl (fun ls hl => ?_)
  exact J106 _ 0 wn I J B G _ _ _ rfl (by omega) (by omega) mmF_rf gwn (by omega) (by omega) (by omega) Y S (lv_sub hl [2, 3, 4, 1, 0] rfl)
set_option maxHeartbeats 4000000 in
set_option maxRecDepth 100000 in
theorem r_M_toOut (l : Launch) (D : mD) (E : mE) (h : Nat) (q : Nat → Nat) (sz : Nat) (I : Nat → Int32) (J : Nat → Int64) (B : Nat → Nat → Int32) (G : Nat → Nat → Int64) (a1 : Int) (l_a1 : 0 ≤ a1) (u_a1 : a1 ≤ 60000) (a2 : Int) (l_a2 : 0 ≤ a2) (u_a2 : a2 ≤ 60000) (hT : rT I B) (q0 : a1 ≤ a2) (q1 : a2 - a1 ≤ 20000) : Met l y_M_toOut (k_M_toOut :: lw_tg) (mR 1 60) (va_Pc [.ref h, .int (iI a1), .int (iI a2)] (mPre D E h q (I, J, B, G) sz)) (va_Qv (rPv [3] [1] I B (fun (u : mS) => True)) (mPost D E h q (mA E h q sz)) (mA E h q sz)) 0 0 (mA E h q sz) := by
  refine m_enter (by decide) rfl (Nat.le_of_ble_eq_true rfl) (fun p e s m below meth c ls AV QQ H locs hQQ X Y hZ hA hr hlk hml hl => ?_)
  have Y : mH D E (mA E h q sz) s.heap h q I J B G H locs := Y
  have S : rS [3] [1] I B I B := rS_rf hT
  have hl : lv_has ls 4 [(0, .ref h), (1, .int (iI a1)), (2, .int (iI a2))] := hl
  refine lv_aload_n X.1 X.2.1 d_M_toOut_0 rfl (lv_at hl 0 rfl) ?_
  refine lv_iload_n X.1 X.2.1 d_M_toOut_1 rfl (lv_at hl 2 rfl) ?_
  refine lv_iload_n X.1 X.2.1 d_M_toOut_2 rfl (lv_at hl 1 rfl) ?_
  refine z_isub X.1 X.2.1 d_M_toOut_3 ?_
  refine r_puti (k := 3) X Y S (by decide) lk_outMany rfl rfl (t_M_ok 3 (by decide)) rfl rfl (sf_outMany _ _ _ _) (Nat.le_of_ble_eq_true rfl) rfl (show (0 : Int) ≤ a2 - a1 by omega) (show a2 - a1 ≤ (20000 : Int) by omega) ⟨by omega, by omega⟩ (by decide) d_M_toOut_4 (fun I101 H locs Y S w101 => ?_)
  refine lv_iconst (v := iI 0) X.1 X.2.1 d_M_toOut_7 (by decide) ?_
  have J105 : ∀ (n107 : Nat) (z103 : Int) (I102 : Nat → Int32) (J102 : Nat → Int64) (B102 : Nat → Nat → Int32) (G102 : Nat → Nat → Int64) (H : Heap) (locs : List Loc) (ls : Array Slot), (60000 - z103).toNat = n107 → (0 ≤ z103) → (z103 ≤ 60000) → (I102 3 = iI (a2 - a1)) → mH D E (mA E h q sz) s.heap h q I102 J102 B102 G102 H locs → rS [3] [1] I B I102 B102 → lv_has ls 4 [(0, .ref h), (1, .int (iI a1)), (3, .int (iI z103))] → W p l e (mR 1 60) s m AV below meth c H locs 0 0 QQ (F0 m 9 ls []) := by
    intro n107
    induction n107 using Nat.strongRecOn with
    | ind n107 ih106 =>
      intro z103 I102 J102 B102 G102 H locs ls hm108 l103 u103 e104 Y S hl
      refine lv_iload_n X.1 X.2.1 d_M_toOut_9 rfl (lv_at hl 2 rfl) ?_
      refine lv_aload_n X.1 X.2.1 d_M_toOut_10 rfl (lv_at hl 0 rfl) ?_
      refine r_get0 X Y (by decide) lk_outMany (gf_outMany _ _ _) rfl e104 d_M_toOut_11 ?_
      refine z_icmp_ge (tgt := 37) X.1 X.2.1 d_M_toOut_14 (by decide) ⟨by omega, by omega⟩ ⟨by omega, by omega⟩ (fun h109 => ?_) (fun h109 => ?_)
      · exact m_retv hQQ X Y hr hlk ⟨S, trivial⟩ d_M_toOut_37
      · refine lv_aload_n X.1 X.2.1 d_M_toOut_17 rfl (lv_at hl 0 rfl) ?_
        refine m_get X Y 1 (by decide) lk_outs (gf_outs _ _ _) rfl d_M_toOut_18 ?_
        refine lv_iload_n X.1 X.2.1 d_M_toOut_21 rfl (lv_at hl 2 rfl) ?_
        refine lv_aload_n X.1 X.2.1 d_M_toOut_22 rfl (lv_at hl 0 rfl) ?_
        refine m_get X Y 0 (by decide) lk_mem (gf_mem _ _ _) rfl d_M_toOut_23 ?_
        refine lv_iload_n X.1 X.2.1 d_M_toOut_26 rfl (lv_at hl 1 rfl) ?_
        refine lv_iload_n X.1 X.2.1 d_M_toOut_27 rfl (lv_at hl 2 rfl) ?_
        refine z_iadd X.1 X.2.1 d_M_toOut_28 ?_
        refine r_bald X Y S (aw_mem _ _ _ _ _ _ _) rfl (by omega) (show a1 + z103 < ((60000 : Nat) : Int) by omega) (by omega) d_M_toOut_29 (fun z110 q110 l110 u110 => ?_)
        refine r_bast X Y S (aw_outs _ _ _ _ _ _ _) (sw_outs _ _ _ _ _ _ _) rfl (by omega) (show z103 < ((20000 : Nat) : Int) by omega) (by omega) (by decide) d_M_toOut_30 (fun B111 H locs Y S w111 => ?_)
        refine lv_iinc (v := iI (z103 + 1)) (lv' := [(3, .int (iI (z103 + 1))), (0, .ref h), (1, .int (iI a1))]) X.1 X.2.1 d_M_toOut_31 hl (k := 2) rfl ((iI_add _ _).trans (congrArg iI (by omega))) (by decide) rfl (fun ls hl => ?_)
        refine lv_goto (tgt := 9) X.1 X.2.1 d_M_toOut_34 (by decide) ?_
        exact ih106 ((60000 - (z103 + 1)).toNat) (by omega) (z103 + 1) I102 J102 B111 G102 _ _ _ rfl (by omega) (by omega) e104 Y S (lv_sub hl [1, 2, 0] rfl)
  refine lv_istore_n (lv' := [(3, .int (iI 0)), (0, .ref h), (1, .int (iI a1)), (2, .int (iI a2))]) X.1 X.2.1 d_M_toOut_8 rfl hl (by decide) rfl (fun ls hl => ?_)
  exact J105 _ 0 I101 J B G _ _ _ rfl (by omega) (by omega) w101.1 Y S (lv_sub hl [1, 2, 0] rfl)
set_option maxHeartbeats 4000000 in
set_option maxRecDepth 100000 in
theorem r_M_written (l : Launch) (D : mD) (E : mE) (h : Nat) (q : Nat → Nat) (sz : Nat) (I : Nat → Int32) (J : Nat → Int64) (B : Nat → Nat → Int32) (G : Nat → Nat → Int64) (hT : rT I B) (wn : Int) (gwn : I 42 = iI wn) (lwn : 40000 ≤ wn) (uwn : wn ≤ 60000) : Met l y_M_written (k_M_written :: lw_tg) (mR 2 83) (va_Pc [.ref h] (mPre D E h q (I, J, B, G) sz)) (va_Qv (rPv [3] [1] I B (fun (u : mS) => mmF 30000 60000 (B 0) (u.2.2.1 0))) (mPost D E h q (mA E h q sz)) (mA E h q sz)) 0 0 (mA E h q sz) := by
  refine m_enter (by decide) rfl (Nat.le_of_ble_eq_true rfl) (fun p e s m below meth c ls AV QQ H locs hQQ X Y hZ hA hr hlk hml hl => ?_)
  have Y : mH D E (mA E h q sz) s.heap h q I J B G H locs := Y
  have S : rS [3] [1] I B I B := rS_rf hT
  have hl : lv_has ls 1 [(0, .ref h)] := hl
  refine lv_aload_n X.1 X.2.1 d_M_written_0 rfl (lv_at hl 0 rfl) ?_
  refine lv_aload_n X.1 X.2.1 d_M_written_1 rfl (lv_at hl 0 rfl) ?_
  refine r_get0 X Y (by decide) lk_w0 (gf_w0 _ _ _) rfl gwn d_M_written_2 ?_
  refine lv_ldc (v := (60000)) X.1 X.2.1 X.2.2.2.1 (X.2.2.1 _ cn_M_9) d_M_written_5 ?_
  refine t_eq (y := iI 60000) (by decide) ?_
  refine r_nv (m_run (As := [.int (iI wn), .int (iI 60000)]) (rest := []) (n := 2) X Y hZ hA hml hl.1 (r_M_toOut l D E h q H.size I J B G wn (by omega) (by omega) 60000 (by omega) (by omega) S.1 (by omega) (by omega)) kl_M_toOut ks_M_toOut kx_M_toOut ki_M_toOut ini_M hd_M_toOut ⟨Nat.le_of_ble_eq_true rfl, Nat.le_of_ble_eq_true rfl⟩ rfl (Nat.le_of_ble_eq_true rfl) d_M_written_7 ⟨Nat.le_refl _, Nat.le_refl _⟩) X Y hA S (by decide) (by decide) (fun u H locs Y S s101 p101 => ?_)
  obtain ⟨I101, J101, B101, G101⟩ := u
  dsimp only at Y S s101 p101
  exact m_retv hQQ X Y hr hlk ⟨S, (mmF_cg (s101.2.2 0 (by decide)) mmF_rf)⟩ d_M_written_10
set_option maxHeartbeats 4000000 in
set_option maxRecDepth 100000 in
theorem r_M_putNumber (l : Launch) (D : mD) (E : mE) (h : Nat) (q : Nat → Nat) (sz : Nat) (I : Nat → Int32) (J : Nat → Int64) (B : Nat → Nat → Int32) (G : Nat → Nat → Int64) (a1 : Int64) (hT : rT I B) (wn : Int) (gwn : I 42 = iI wn) (lwn : 30100 ≤ wn) (uwn : wn ≤ 60000) : Met l y_M_putNumber (k_M_putNumber :: lw_tg) (mR 3 106) (va_Pc [.ref h, .long a1] (mPre D E h q (I, J, B, G) sz)) (va_Qv (rPv [42] [0] I B (fun (u : mS) => (∃ V2 : Int, u.1 42 = iI V2 ∧ wn - (13) ≤ V2 ∧ V2 ≤ wn) ∧ mmF 30000 60000 (B 0) (u.2.2.1 0))) (mPost D E h q (mA E h q sz)) (mA E h q sz)) 0 0 (mA E h q sz) := by
  refine m_enter (by decide) rfl (Nat.le_of_ble_eq_true rfl) (fun p e s m below meth c ls AV QQ H locs hQQ X Y hZ hA hr hlk hml hl => ?_)
  have Y : mH D E (mA E h q sz) s.heap h q I J B G H locs := Y
  have S : rS [42] [0] I B I B := rS_rf hT
  have hl : lv_has ls 8 [(0, .ref h), (1, .long a1)] := hl
  have la1 := l_rng a1
  refine lv_aload_n X.1 X.2.1 d_M_putNumber_0 rfl (lv_at hl 0 rfl) ?_
  refine r_get0 X Y (by decide) lk_w0 (gf_w0 _ _ _) rfl gwn d_M_putNumber_1 ?_
  refine lv_istore_n (lv' := [(3, .int (iI wn)), (0, .ref h), (1, .long a1)]) X.1 X.2.1 d_M_putNumber_4 rfl hl (by decide) rfl (fun ls hl => ?_)
  refine lv_lload_n X.1 X.2.1 d_M_putNumber_5 rfl (lv_at hl 2 rfl) ?_
  refine lv_lstore (lv' := [(4, .long a1), (3, .int (iI wn)), (0, .ref h), (1, .long a1)]) X.1 X.2.1 d_M_putNumber_6 hl (by decide) rfl (fun ls hl => ?_)
  refine lv_iconst (v := iI 1) X.1 X.2.1 d_M_putNumber_8 (by decide) ?_
  have J109 : ∀ (n111 : Nat) (v102 : Int64) (z103 : Int) (z105 : Int) (I101 : Nat → Int32) (J101 : Nat → Int64) (B101 : Nat → Nat → Int32) (G101 : Nat → Nat → Int64) (H : Heap) (locs : List Loc) (ls : Array Slot), (10 - (wn - z105)).toNat = n111 → (0 ≤ z103) → (z103 ≤ 1) → (mmF 30000 60000 (B 0) (B101 0)) → (I101 42 = iI z105) → (0 ≤ z105) → (z105 ≤ 60000) → (PN (wn - z105) (v102).toInt z103) → (wn - 9 ≤ z105) → (z105 ≤ wn) → mH D E (mA E h q sz) s.heap h q I101 J101 B101 G101 H locs → rS [42] [0] I B I101 B101 → lv_has ls 8 [(0, .ref h), (3, .int (iI wn)), (4, .long v102), (6, .int (iI z103))] → W p l e (mR 3 106) s m AV below meth c H locs 0 0 QQ (F0 m 11 ls []) := by
    intro n111
    induction n111 using Nat.strongRecOn with
    | ind n111 ih110 =>
      intro v102 z103 z105 I101 J101 B101 G101 H locs ls hm112 l103 u103 f104 e105 l105 u105 i106 i107 i108 Y S hl
      refine lv_iload X.1 X.2.1 d_M_putNumber_11 (lv_at hl 3 rfl) ?_
      refine z_if_eq (tgt := 75) X.1 X.2.1 d_M_putNumber_13 (by decide) ⟨by omega, by omega⟩ (fun h113 => ?_) (fun h113 => ?_)
      · refine lv_aload_n X.1 X.2.1 d_M_putNumber_75 rfl (lv_at hl 0 rfl) ?_
        refine lv_iconst (v := iI 2) X.1 X.2.1 d_M_putNumber_76 (by decide) ?_
        refine lv_iload_n X.1 X.2.1 d_M_putNumber_77 rfl (lv_at hl 1 rfl) ?_
        refine r_nv (m_run (As := [.int (iI 2), .int (iI wn)]) (rest := []) (n := 2) X Y hZ hA hml hl.1 (r_M_head l D E h q H.size I101 J101 B101 G101 2 (by omega) (by omega) wn (by omega) (by omega) S.1 z105 e105 (by omega) (by omega)) kl_M_head ks_M_head kx_M_head ki_M_head ini_M hd_M_head ⟨Nat.le_of_ble_eq_true rfl, Nat.le_of_ble_eq_true rfl⟩ rfl (Nat.le_of_ble_eq_true rfl) d_M_putNumber_78 ⟨Nat.le_refl _, Nat.le_refl _⟩) X Y hA S (by decide) (by decide) (fun u H locs Y S s114 p114 => ?_)
        obtain ⟨I114, J114, B114, G114⟩ := u
        dsimp only at Y S s114 p114
        obtain ⟨x114, g114_MF⟩ := p114
        obtain ⟨z115, e115, l115, u115⟩ := x114
        exact m_retv hQQ X Y hr hlk ⟨S, ⟨⟨z115, e115, by omega, by omega⟩, (mmF_tr f104 g114_MF (by decide))⟩⟩ d_M_putNumber_81
      · refine lv_aload_n X.1 X.2.1 d_M_putNumber_16 rfl (lv_at hl 0 rfl) ?_
        refine lv_lload X.1 X.2.1 d_M_putNumber_17 (lv_at hl 2 rfl) ?_
        refine z_l2i X.1 X.2.1 d_M_putNumber_19 (fun z116 l116 u116 x116 => ?_)
        refine r_nv (m_run (As := [.int (iI z116)]) (rest := []) (n := 1) X Y hZ hA hml hl.1 (r_M_one l D E h q H.size I101 J101 B101 G101 z116 (by omega) (by omega) S.1 z105 e105 (by omega) (by omega)) kl_M_one ks_M_one kx_M_one ki_M_one ini_M hd_M_one ⟨Nat.le_of_ble_eq_true rfl, Nat.le_of_ble_eq_true rfl⟩ rfl (Nat.le_of_ble_eq_true rfl) d_M_putNumber_20 ⟨Nat.le_refl _, Nat.le_refl _⟩) X Y hA S (by decide) (by decide) (fun u H locs Y S s117 p117 => ?_)
        obtain ⟨I117, J117, B117, G117⟩ := u
        dsimp only at Y S s117 p117
        obtain ⟨x117, g117_MF⟩ := p117
        refine lv_lload X.1 X.2.1 d_M_putNumber_23 (lv_at hl 2 rfl) ?_
        refine z_l2i X.1 X.2.1 d_M_putNumber_25 (fun z118 l118 u118 x118 => ?_)
        refine lv_sipush (v := iI 128) X.1 X.2.1 d_M_putNumber_26 (by decide) ?_
        refine z_iand128 X.1 X.2.1 d_M_putNumber_29 (fun z119 l119 u119 x119 y119 => ?_)
        refine lv_istore (lv' := [(7, .int (iI z119)), (0, .ref h), (3, .int (iI wn)), (4, .long v102), (6, .int (iI z103))]) X.1 X.2.1 d_M_putNumber_30 hl (by decide) rfl (fun ls hl => ?_)
        refine lv_lload X.1 X.2.1 d_M_putNumber_32 (lv_at hl 3 rfl) ?_
        refine lv_bipush (v := iI 8) X.1 X.2.1 d_M_putNumber_34 (by decide) ?_
        refine z_lshr8 X.1 X.2.1 d_M_putNumber_36 (fun v120 tv120 => ?_)
        refine lv_lstore (lv' := [(4, .long v120), (7, .int (iI z119)), (0, .ref h), (3, .int (iI wn)), (6, .int (iI z103))]) X.1 X.2.1 d_M_putNumber_37 hl (by decide) rfl (fun ls hl => ?_)
        refine lv_lload X.1 X.2.1 d_M_putNumber_39 (lv_at hl 0 rfl) ?_
        refine lv_lconst (v := 0) X.1 X.2.1 d_M_putNumber_41 rfl ?_
        refine z_lcmp X.1 X.2.1 d_M_putNumber_42 (fun z121 l121 u121 x121 y121 => ?_)
        have c121 : (0 : Int64).toInt = 0 := by decide
        refine z_if_ne (tgt := 51) X.1 X.2.1 d_M_putNumber_43 (by decide) ⟨by omega, by omega⟩ (fun h122 => ?_) (fun h122 => ?_)
        · refine lv_lload X.1 X.2.1 d_M_putNumber_51 (lv_at hl 0 rfl) ?_
          refine lv_ldc2 (v := (-1)) X.1 X.2.1 X.2.2.2.1 (X.2.2.1 _ cl_M_459) d_M_putNumber_53 ?_
          refine z_lcmp X.1 X.2.1 d_M_putNumber_56 (fun z123 l123 u123 x123 y123 => ?_)
          have c123 : ((-1) : Int64).toInt = (-1) := by decide
          refine z_if_ne (tgt := 65) X.1 X.2.1 d_M_putNumber_57 (by decide) ⟨by omega, by omega⟩ (fun h124 => ?_) (fun h124 => ?_)
          · refine lv_iconst (v := iI 1) X.1 X.2.1 d_M_putNumber_65 (by decide) ?_
            refine lv_goto (tgt := 70) X.1 X.2.1 d_M_putNumber_66 (by decide) ?_
            refine lv_istore (lv' := [(6, .int (iI 1)), (4, .long v120), (7, .int (iI z119)), (0, .ref h), (3, .int (iI wn))]) X.1 X.2.1 d_M_putNumber_70 hl (by decide) rfl (fun ls hl => ?_)
            refine lv_goto (tgt := 11) X.1 X.2.1 d_M_putNumber_72 (by decide) ?_
            exact ih110 ((10 - (wn - (z105 - 1))).toNat) (by omega) v120 1 (z105 - 1) I117 J117 B117 G117 _ _ _ rfl (by omega) (by omega) (mmF_tr f104 g117_MF (by decide)) (x117.trans (congrArg iI (show (z105 - 1 : Int) = z105 - 1 by omega))) (by omega) (by omega) (PN_step (show wn - (z105 - 1) = wn - z105 + 1 by omega) (show z103 = 1 by omega) i106 tv120 x118 x119 y119 (by omega)) (by have pn := PN_le i106 (show z103 = 1 by omega); omega) (by omega) Y S (lv_sub hl [3, 4, 1, 0] rfl)
          · refine lv_iload X.1 X.2.1 d_M_putNumber_60 (lv_at hl 1 rfl) ?_
            refine z_if_ne (tgt := 69) X.1 X.2.1 d_M_putNumber_62 (by decide) ⟨by omega, by omega⟩ (fun h125 => ?_) (fun h125 => ?_)
            · refine lv_iconst (v := iI 0) X.1 X.2.1 d_M_putNumber_69 (by decide) ?_
              refine lv_istore (lv' := [(6, .int (iI 0)), (4, .long v120), (7, .int (iI z119)), (0, .ref h), (3, .int (iI wn))]) X.1 X.2.1 d_M_putNumber_70 hl (by decide) rfl (fun ls hl => ?_)
              refine lv_goto (tgt := 11) X.1 X.2.1 d_M_putNumber_72 (by decide) ?_
              exact ih110 ((10 - (wn - (z105 - 1))).toNat) (by omega) v120 0 (z105 - 1) I117 J117 B117 G117 _ _ _ rfl (by omega) (by omega) (mmF_tr f104 g117_MF (by decide)) (x117.trans (congrArg iI (show (z105 - 1 : Int) = z105 - 1 by omega))) (by omega) (by omega) (PN_step (show wn - (z105 - 1) = wn - z105 + 1 by omega) (show z103 = 1 by omega) i106 tv120 x118 x119 y119 (by omega)) (by have pn := PN_le i106 (show z103 = 1 by omega); omega) (by omega) Y S (lv_sub hl [3, 4, 1, 0] rfl)
            · refine lv_iconst (v := iI 1) X.1 X.2.1 d_M_putNumber_65 (by decide) ?_
              refine lv_goto (tgt := 70) X.1 X.2.1 d_M_putNumber_66 (by decide) ?_
              refine lv_istore (lv' := [(6, .int (iI 1)), (4, .long v120), (7, .int (iI z119)), (0, .ref h), (3, .int (iI wn))]) X.1 X.2.1 d_M_putNumber_70 hl (by decide) rfl (fun ls hl => ?_)
              refine lv_goto (tgt := 11) X.1 X.2.1 d_M_putNumber_72 (by decide) ?_
              exact ih110 ((10 - (wn - (z105 - 1))).toNat) (by omega) v120 1 (z105 - 1) I117 J117 B117 G117 _ _ _ rfl (by omega) (by omega) (mmF_tr f104 g117_MF (by decide)) (x117.trans (congrArg iI (show (z105 - 1 : Int) = z105 - 1 by omega))) (by omega) (by omega) (PN_step (show wn - (z105 - 1) = wn - z105 + 1 by omega) (show z103 = 1 by omega) i106 tv120 x118 x119 y119 (by omega)) (by have pn := PN_le i106 (show z103 = 1 by omega); omega) (by omega) Y S (lv_sub hl [3, 4, 1, 0] rfl)
        · refine lv_iload X.1 X.2.1 d_M_putNumber_46 (lv_at hl 1 rfl) ?_
          refine z_if_eq (tgt := 69) X.1 X.2.1 d_M_putNumber_48 (by decide) ⟨by omega, by omega⟩ (fun h126 => ?_) (fun h126 => ?_)
          · refine lv_iconst (v := iI 0) X.1 X.2.1 d_M_putNumber_69 (by decide) ?_
            refine lv_istore (lv' := [(6, .int (iI 0)), (4, .long v120), (7, .int (iI z119)), (0, .ref h), (3, .int (iI wn))]) X.1 X.2.1 d_M_putNumber_70 hl (by decide) rfl (fun ls hl => ?_)
            refine lv_goto (tgt := 11) X.1 X.2.1 d_M_putNumber_72 (by decide) ?_
            exact ih110 ((10 - (wn - (z105 - 1))).toNat) (by omega) v120 0 (z105 - 1) I117 J117 B117 G117 _ _ _ rfl (by omega) (by omega) (mmF_tr f104 g117_MF (by decide)) (x117.trans (congrArg iI (show (z105 - 1 : Int) = z105 - 1 by omega))) (by omega) (by omega) (PN_step (show wn - (z105 - 1) = wn - z105 + 1 by omega) (show z103 = 1 by omega) i106 tv120 x118 x119 y119 (by omega)) (by have pn := PN_le i106 (show z103 = 1 by omega); omega) (by omega) Y S (lv_sub hl [3, 4, 1, 0] rfl)
          · refine lv_lload X.1 X.2.1 d_M_putNumber_51 (lv_at hl 0 rfl) ?_
            refine lv_ldc2 (v := (-1)) X.1 X.2.1 X.2.2.2.1 (X.2.2.1 _ cl_M_459) d_M_putNumber_53 ?_
            refine z_lcmp X.1 X.2.1 d_M_putNumber_56 (fun z127 l127 u127 x127 y127 => ?_)
            have c127 : ((-1) : Int64).toInt = (-1) := by decide
            refine z_if_ne (tgt := 65) X.1 X.2.1 d_M_putNumber_57 (by decide) ⟨by omega, by omega⟩ (fun h128 => ?_) (fun h128 => ?_)
            · refine lv_iconst (v := iI 1) X.1 X.2.1 d_M_putNumber_65 (by decide) ?_
              refine lv_goto (tgt := 70) X.1 X.2.1 d_M_putNumber_66 (by decide) ?_
              refine lv_istore (lv' := [(6, .int (iI 1)), (4, .long v120), (7, .int (iI z119)), (0, .ref h), (3, .int (iI wn))]) X.1 X.2.1 d_M_putNumber_70 hl (by decide) rfl (fun ls hl => ?_)
              refine lv_goto (tgt := 11) X.1 X.2.1 d_M_putNumber_72 (by decide) ?_
              exact ih110 ((10 - (wn - (z105 - 1))).toNat) (by omega) v120 1 (z105 - 1) I117 J117 B117 G117 _ _ _ rfl (by omega) (by omega) (mmF_tr f104 g117_MF (by decide)) (x117.trans (congrArg iI (show (z105 - 1 : Int) = z105 - 1 by omega))) (by omega) (by omega) (PN_step (show wn - (z105 - 1) = wn - z105 + 1 by omega) (show z103 = 1 by omega) i106 tv120 x118 x119 y119 (by omega)) (by have pn := PN_le i106 (show z103 = 1 by omega); omega) (by omega) Y S (lv_sub hl [3, 4, 1, 0] rfl)
            · refine lv_iload X.1 X.2.1 d_M_putNumber_60 (lv_at hl 1 rfl) ?_
              refine z_if_ne (tgt := 69) X.1 X.2.1 d_M_putNumber_62 (by decide) ⟨by omega, by omega⟩ (fun h129 => ?_) (fun h129 => False.elim (by omega))
              · refine lv_iconst (v := iI 0) X.1 X.2.1 d_M_putNumber_69 (by decide) ?_
                refine lv_istore (lv' := [(6, .int (iI 0)), (4, .long v120), (7, .int (iI z119)), (0, .ref h), (3, .int (iI wn))]) X.1 X.2.1 d_M_putNumber_70 hl (by decide) rfl (fun ls hl => ?_)
                refine lv_goto (tgt := 11) X.1 X.2.1 d_M_putNumber_72 (by decide) ?_
                exact ih110 ((10 - (wn - (z105 - 1))).toNat) (by omega) v120 0 (z105 - 1) I117 J117 B117 G117 _ _ _ rfl (by omega) (by omega) (mmF_tr f104 g117_MF (by decide)) (x117.trans (congrArg iI (show (z105 - 1 : Int) = z105 - 1 by omega))) (by omega) (by omega) (PN_step (show wn - (z105 - 1) = wn - z105 + 1 by omega) (show z103 = 1 by omega) i106 tv120 x118 x119 y119 (by omega)) (by have pn := PN_le i106 (show z103 = 1 by omega); omega) (by omega) Y S (lv_sub hl [3, 4, 1, 0] rfl)
  refine lv_istore (lv' := [(6, .int (iI 1)), (4, .long a1), (3, .int (iI wn)), (0, .ref h), (1, .long a1)]) X.1 X.2.1 d_M_putNumber_9 hl (by decide) rfl (fun ls hl => ?_)
  exact J109 _ a1 1 wn I J B G _ _ _ rfl (by omega) (by omega) mmF_rf gwn (by omega) (by omega) (PN_0 (by omega) la1) (by omega) (by omega) Y S (lv_sub hl [3, 2, 1, 0] rfl)
set_option maxHeartbeats 4000000 in
set_option maxRecDepth 100000 in
theorem r_M_numberField (l : Launch) (D : mD) (E : mE) (h : Nat) (q : Nat → Nat) (sz : Nat) (I : Nat → Int32) (J : Nat → Int64) (B : Nat → Nat → Int32) (G : Nat → Nat → Int64) (a1 : Int) (l_a1 : (-2147483648) ≤ a1) (u_a1 : a1 ≤ 2147483647) (a2 : Int64) (hT : rT I B) (wn : Int) (gwn : I 42 = iI wn) (lwn : 30200 ≤ wn) (uwn : wn ≤ 60000) : Met l y_M_numberField (k_M_numberField :: lw_tg) (mR 4 133) (va_Pc [.ref h, .int (iI a1), .long a2] (mPre D E h q (I, J, B, G) sz)) (va_Qv (rPv [42] [0] I B (fun (u : mS) => (∃ V2 : Int, u.1 42 = iI V2 ∧ wn - (17) ≤ V2 ∧ V2 ≤ wn) ∧ mmF 30000 60000 (B 0) (u.2.2.1 0))) (mPost D E h q (mA E h q sz)) (mA E h q sz)) 0 0 (mA E h q sz) := by
  refine m_enter (by decide) rfl (Nat.le_of_ble_eq_true rfl) (fun p e s m below meth c ls AV QQ H locs hQQ X Y hZ hA hr hlk hml hl => ?_)
  have Y : mH D E (mA E h q sz) s.heap h q I J B G H locs := Y
  have S : rS [42] [0] I B I B := rS_rf hT
  have hl : lv_has ls 5 [(0, .ref h), (1, .int (iI a1)), (2, .long a2)] := hl
  refine lv_aload_n X.1 X.2.1 d_M_numberField_0 rfl (lv_at hl 0 rfl) ?_
  refine r_get0 X Y (by decide) lk_w0 (gf_w0 _ _ _) rfl gwn d_M_numberField_1 ?_
  refine lv_istore (lv' := [(4, .int (iI wn)), (0, .ref h), (1, .int (iI a1)), (2, .long a2)]) X.1 X.2.1 d_M_numberField_4 hl (by decide) rfl (fun ls hl => ?_)
  refine lv_aload_n X.1 X.2.1 d_M_numberField_6 rfl (lv_at hl 1 rfl) ?_
  refine lv_lload_n X.1 X.2.1 d_M_numberField_7 rfl (lv_at hl 3 rfl) ?_
  refine r_nv (m_run (As := [.long a2]) (rest := []) (n := 1) X Y hZ hA hml hl.1 (r_M_putNumber l D E h q H.size I J B G a2 S.1 wn gwn (by omega) (by omega)) kl_M_putNumber ks_M_putNumber kx_M_putNumber ki_M_putNumber ini_M hd_M_putNumber ⟨Nat.le_of_ble_eq_true rfl, Nat.le_of_ble_eq_true rfl⟩ rfl (Nat.le_of_ble_eq_true rfl) d_M_numberField_8 ⟨Nat.le_refl _, Nat.le_refl _⟩) X Y hA S (by decide) (by decide) (fun u H locs Y S s101 p101 => ?_)
  obtain ⟨I101, J101, B101, G101⟩ := u
  dsimp only at Y S s101 p101
  obtain ⟨x101, g101_MF⟩ := p101
  obtain ⟨z102, e102, l102, u102⟩ := x101
  refine lv_aload_n X.1 X.2.1 d_M_numberField_11 rfl (lv_at hl 1 rfl) ?_
  refine lv_iload_n X.1 X.2.1 d_M_numberField_12 rfl (lv_at hl 2 rfl) ?_
  refine lv_iload X.1 X.2.1 d_M_numberField_13 (lv_at hl 0 rfl) ?_
  refine r_nv (m_run (As := [.int (iI a1), .int (iI wn)]) (rest := []) (n := 2) X Y hZ hA hml hl.1 (r_M_field l D E h q H.size I101 J101 B101 G101 a1 (by omega) (by omega) wn (by omega) (by omega) S.1 z102 e102 (by omega) (by omega)) kl_M_field ks_M_field kx_M_field ki_M_field ini_M hd_M_field ⟨Nat.le_of_ble_eq_true rfl, Nat.le_of_ble_eq_true rfl⟩ rfl (Nat.le_of_ble_eq_true rfl) d_M_numberField_15 ⟨Nat.le_refl _, Nat.le_refl _⟩) X Y hA S (by decide) (by decide) (fun u H locs Y S s103 p103 => ?_)
  obtain ⟨I103, J103, B103, G103⟩ := u
  dsimp only at Y S s103 p103
  obtain ⟨x103, g103_MF⟩ := p103
  obtain ⟨z104, e104, l104, u104⟩ := x103
  exact m_retv hQQ X Y hr hlk ⟨S, ⟨⟨z104, e104, by omega, by omega⟩, (mmF_tr (mmF_tr mmF_rf g101_MF (by decide)) g103_MF (by decide))⟩⟩ d_M_numberField_18
