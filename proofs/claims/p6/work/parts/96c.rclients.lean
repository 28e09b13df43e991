set_option maxHeartbeats 40000000 in
set_option maxRecDepth 100000 in
theorem r_M_hand (l : Launch) (D : mD) (E : mE) (h : Nat) (q : Nat → Nat) (sz : Nat) (I : Nat → Int32) (J : Nat → Int64) (B : Nat → Nat → Int32) (G : Nat → Nat → Int64) (a1 : Int) (l_a1 : (-2147483648) ≤ a1) (u_a1 : a1 ≤ 2147483647) (a2 : Int) (l_a2 : (-2147483648) ≤ a2) (u_a2 : a2 ≤ 2147483647) (hT : rT I B) (cn : Int) (gcn : I 33 = iI cn) (lcn : 0 ≤ cn) (ucn : cn ≤ 1900000) (f_P1 : pG1 I) (f_P2 : pG2 (B 37) (B 38)) (f_FT : stT (B 97) (B 98) (B 100) (B 107) (B 108) (B 109)) : Met l y_M_hand (k_M_hand :: lw_tg) (mR 43 1992) (va_Pc [.ref h, .int (iI a1), .int (iI a2)] (mPre D E h q (I, J, B, G) sz)) (va_Qi (rPi [3, 8, 14, 18, 33, 36, 39, 40, 42] [0, 1, 5, 6, 7, 9, 10, 11, 12, 13, 15, 16, 17, 19, 20, 21, 22, 23, 34, 35, 37, 38, 58, 59] I B (fun (z : Int) (u : mS) => (-2147483648) ≤ z ∧ z ≤ 2147483647 ∧ (∃ V2 : Int, u.1 33 = iI V2 ∧ cn ≤ V2 ∧ V2 ≤ cn + 1000) ∧ pG1 u.1 ∧ pG2 (u.2.2.1 37) (u.2.2.1 38))) (mPost D E h q (mA E h q sz)) (mA E h q sz)) 0 0 (mA E h q sz) := by
  refine m_enter (by decide) rfl (Nat.le_of_ble_eq_true rfl) (fun p e s m below meth c ls AV QQ H locs hQQ X Y hZ hA hr hlk hml hl => ?_)
  have Y : mH D E (mA E h q sz) s.heap h q I J B G H locs := Y
  have S : rS [3, 8, 14, 18, 33, 36, 39, 40, 42] [0, 1, 5, 6, 7, 9, 10, 11, 12, 13, 15, 16, 17, 19, 20, 21, 22, 23, 34, 35, 37, 38, 58, 59] I B I B := rS_rf hT
  have hl : lv_has ls 7 [(0, .ref h), (1, .int (iI a1)), (2, .int (iI a2))] := hl
  refine lv_aload_n X.1 X.2.1 d_M_hand_0 rfl (lv_at hl 0 rfl) ?_
  refine lv_iload_n X.1 X.2.1 d_M_hand_1 rfl (lv_at hl 1 rfl) ?_
  refine lv_iconst (v := iI 0) X.1 X.2.1 d_M_hand_2 (by decide) ?_
  refine r_ni (m_run (As := [.int (iI a1), .int (iI 0)]) (rest := []) (n := 2) X Y hZ hA hml hl.1 (r_M_hasSide l D E h q H.size I J B G a1 (by omega) (by omega) 0 (by decide) (by decide) S.1) kl_M_hasSide ks_M_hasSide kx_M_hasSide ki_M_hasSide ini_M hd_M_hasSide ⟨Nat.le_of_ble_eq_true rfl, Nat.le_of_ble_eq_true rfl⟩ rfl (Nat.le_of_ble_eq_true rfl) d_M_hand_3 ⟨Nat.le_refl _, Nat.le_refl _⟩) X Y hA S (by decide) (by decide) (fun z101 u H locs Y S s101 p101 => ?_)
  obtain ⟨I101, J101, B101, G101⟩ := u
  dsimp only at Y S s101 p101
  have i101 : I = I101 := (funext (fun j => s101.2.1 j (by simp))).symm
  subst i101
  have b101 : B = B101 := (funext (fun j => s101.2.2 j (by simp))).symm
  subst b101
  obtain ⟨l101, u101, x101, st101⟩ := p101
  refine z_if_eq (tgt := 23) X.1 X.2.1 d_M_hand_6 (by decide) ⟨by omega, by omega⟩ (fun h102 => ?_) (fun h102 => ?_)
  · refine lv_iconst (v := iI (-1)) X.1 X.2.1 d_M_hand_23 (by decide) ?_
    exact m_reti hQQ X Y hr hlk ⟨S, (-1), rfl, ⟨by omega, by omega, ⟨cn, gcn, by omega, by omega⟩, (pG1_cg rfl rfl f_P1), (pG2_cg rfl rfl f_P2)⟩⟩ d_M_hand_24
  · as_aux_lemma =>
      refine lv_aload_n X.1 X.2.1 d_M_hand_9 rfl (lv_at hl 0 rfl) ?_
      refine lv_aload_n X.1 X.2.1 d_M_hand_10 rfl (lv_at hl 0 rfl) ?_
      refine m_get X Y 135 (by decide) lk_sessionAgents (gf_sessionAgents _ _ _) rfl d_M_hand_11 ?_
      refine lv_iload_n X.1 X.2.1 d_M_hand_14 rfl (lv_at hl 1 rfl) ?_
      refine r_iald X Y S (aw_sessionAgents _ _ _ _ _ _ _) rfl (by omega) (show a1 < ((8 : Nat) : Int) by omega) (by omega) d_M_hand_15 (fun z103 q103 l103 u103 => ?_)
      refine lv_iload_n X.1 X.2.1 d_M_hand_16 rfl (lv_at hl 2 rfl) ?_
      refine r_ni (m_run (As := [.int (iI z103), .int (iI a2)]) (rest := []) (n := 2) X Y hZ hA hml hl.1 (r_M_hasTicket l D E h q H.size I J101 B G101 z103 (by omega) (by omega) a2 (by omega) (by omega) S.1) kl_M_hasTicket ks_M_hasTicket kx_M_hasTicket ki_M_hasTicket ini_M hd_M_hasTicket ⟨Nat.le_of_ble_eq_true rfl, Nat.le_of_ble_eq_true rfl⟩ rfl (Nat.le_of_ble_eq_true rfl) d_M_hand_17 ⟨Nat.le_refl _, Nat.le_refl _⟩) X Y hA S (by decide) (by decide) (fun z104 u H locs Y S s104 p104 => ?_)
      obtain ⟨I104, J104, B104, G104⟩ := u
      dsimp only at Y S s104 p104
      have i104 : I = I104 := (funext (fun j => s104.2.1 j (by simp))).symm
      subst i104
      have b104 : B = B104 := (funext (fun j => s104.2.2 j (by simp))).symm
      subst b104
      obtain ⟨l104, u104, x104, st104⟩ := p104
      refine z_if_ne (tgt := 25) X.1 X.2.1 d_M_hand_20 (by decide) ⟨by omega, by omega⟩ (fun h105 => ?_) (fun h105 => ?_)
      · as_aux_lemma =>
          refine lv_aload_n X.1 X.2.1 d_M_hand_25 rfl (lv_at hl 0 rfl) ?_
          refine m_get X Y 135 (by decide) lk_sessionAgents (gf_sessionAgents _ _ _) rfl d_M_hand_26 ?_
          refine lv_iload_n X.1 X.2.1 d_M_hand_29 rfl (lv_at hl 1 rfl) ?_
          refine r_iald X Y S (aw_sessionAgents _ _ _ _ _ _ _) rfl (by omega) (show a1 < ((8 : Nat) : Int) by omega) (by omega) d_M_hand_30 (fun z106 q106 l106 u106 => ?_)
          refine lv_istore_n (lv' := [(3, .int (iI z106)), (0, .ref h), (1, .int (iI a1)), (2, .int (iI a2))]) X.1 X.2.1 d_M_hand_31 rfl hl (by decide) rfl (fun ls hl => ?_)
          refine lv_bipush (v := iI 8) X.1 X.2.1 d_M_hand_32 (by decide) ?_
          refine lv_iload_n X.1 X.2.1 d_M_hand_34 rfl (lv_at hl 0 rfl) ?_
          refine z_imul X.1 X.2.1 d_M_hand_35 ?_
          refine lv_iload_n X.1 X.2.1 d_M_hand_36 rfl (lv_at hl 3 rfl) ?_
          refine z_iadd X.1 X.2.1 d_M_hand_37 ?_
          refine lv_istore (lv' := [(4, .int (iI ((8 * z106) + a2))), (3, .int (iI z106)), (0, .ref h), (1, .int (iI a1)), (2, .int (iI a2))]) X.1 X.2.1 d_M_hand_38 hl (by decide) rfl (fun ls hl => ?_)
          have f107 : (B 97 ((8 * z106) + a2).toNat).toInt ≠ 0 := by rw [show (8 * z106) + a2 = 8 * z103 + a2 by omega]; exact st104 (by omega)
          have f108 : (B 97 ((8 * z106) + a2).toNat).toInt ≠ 0 := by rw [show (8 * z106) + a2 = 8 * z103 + a2 by omega]; exact st104 (by omega)
          refine lv_iconst (v := iI 0) X.1 X.2.1 d_M_hand_40 (by decide) ?_
          have J118 : ∀ (n120 : Nat) (z110 : Int) (I109 : Nat → Int32) (J109 : Nat → Int64) (B109 : Nat → Nat → Int32) (G109 : Nat → Nat → Int64) (H : Heap) (locs : List Loc) (ls : Array Slot), (4200 - z110).toNat = n120 → (0 ≤ z110) → (z110 ≤ 4200) → (stT (B109 97) (B109 98) (B109 100) (B109 107) (B109 108) (B109 109)) → ((B109 97 ((8 * z106) + a2).toNat).toInt ≠ 0) → (pG1 I109) → (pG2 (B109 37) (B109 38)) → (I109 33 = iI cn) → (cpy (B109 0) (B109 98) (22200) (4200 * ((8 * z106) + a2)) z110) → (z110 ≤ (B109 100 ((8 * z106) + a2).toNat).toInt) → mH D E (mA E h q sz) s.heap h q I109 J109 B109 G109 H locs → rS [3, 8, 14, 18, 33, 36, 39, 40, 42] [0, 1, 5, 6, 7, 9, 10, 11, 12, 13, 15, 16, 17, 19, 20, 21, 22, 23, 34, 35, 37, 38, 58, 59] I B I109 B109 → lv_has ls 7 [(0, .ref h), (1, .int (iI a1)), (3, .int (iI z106)), (4, .int (iI ((8 * z106) + a2))), (5, .int (iI z110))] → W p l e (mR 43 1992) s m AV below meth c H locs 0 0 QQ (F0 m 43 ls []) := by
            as_aux_lemma =>
              intro n120
              induction n120 using Nat.strongRecOn with
              | ind n120 ih119 =>
                intro z110 I109 J109 B109 G109 H locs ls hm121 l110 u110 f111 f112 f113 f114 e115 i116 i117 Y S hl
                refine lv_iload X.1 X.2.1 d_M_hand_43 (lv_at hl 4 rfl) ?_
                refine lv_aload_n X.1 X.2.1 d_M_hand_45 rfl (lv_at hl 0 rfl) ?_
                refine m_get X Y 100 (by decide) lk_ticketSizes (gf_ticketSizes _ _ _) rfl d_M_hand_46 ?_
                refine lv_iload X.1 X.2.1 d_M_hand_49 (lv_at hl 3 rfl) ?_
                refine r_iald X Y S (aw_ticketSizes _ _ _ _ _ _ _) rfl (by omega) (show (8 * z106) + a2 < ((32 : Nat) : Int) by omega) (by omega) d_M_hand_51 (fun z122 q122 l122 u122 => ?_)
                refine z_icmp_ge (tgt := 86) X.1 X.2.1 d_M_hand_52 (by decide) ⟨by omega, by omega⟩ ⟨by omega, by omega⟩ (fun h123 => ?_) (fun h123 => ?_)
                · as_aux_lemma =>
                    have cpx : cpy (B109 0) (B109 98) 22200 (4200 * ((8 * z106) + a2)) (B109 100 ((8 * z106) + a2).toNat).toInt := by rw [show (B109 100 ((8 * z106) + a2).toNat).toInt = z110 by omega]; exact i116
                    have cpx : cpy (B109 0) (B109 98) 22200 (4200 * ((8 * z106) + a2)) (B109 100 ((8 * z106) + a2).toNat).toInt := by rw [show (B109 100 ((8 * z106) + a2).toNat).toInt = z110 by omega]; exact i116
                    refine lv_aload_n X.1 X.2.1 d_M_hand_86 rfl (lv_at hl 0 rfl) ?_
                    refine lv_sipush (v := iI 22200) X.1 X.2.1 d_M_hand_87 (by decide) ?_
                    refine lv_sipush (v := iI 22200) X.1 X.2.1 d_M_hand_90 (by decide) ?_
                    refine lv_aload_n X.1 X.2.1 d_M_hand_93 rfl (lv_at hl 0 rfl) ?_
                    refine m_get X Y 100 (by decide) lk_ticketSizes (gf_ticketSizes _ _ _) rfl d_M_hand_94 ?_
                    refine lv_iload X.1 X.2.1 d_M_hand_97 (lv_at hl 3 rfl) ?_
                    refine r_iald X Y S (aw_ticketSizes _ _ _ _ _ _ _) rfl (by omega) (show (8 * z106) + a2 < ((32 : Nat) : Int) by omega) (by omega) d_M_hand_99 (fun z124 q124 l124 u124 => ?_)
                    refine z_iadd X.1 X.2.1 d_M_hand_100 ?_
                    refine lv_bipush (v := iI 97) X.1 X.2.1 d_M_hand_101 (by decide) ?_
                    refine r_ni (m_run (As := [.int (iI 22200), .int (iI (22200 + z124)), .int (iI 97)]) (rest := []) (n := 3) X Y hZ hA hml hl.1 (r_M_whole l D E h q H.size I109 J109 B109 G109 22200 (by decide) (by decide) (22200 + z124) (by omega) (by omega) 97 (by decide) (by decide) S.1 (B109 0) rfl f113 (by omega) (by omega)) kl_M_whole ks_M_whole kx_M_whole ki_M_whole ini_M hd_M_whole ⟨Nat.le_of_ble_eq_true rfl, Nat.le_of_ble_eq_true rfl⟩ rfl (Nat.le_of_ble_eq_true rfl) d_M_hand_103 ⟨Nat.le_refl _, Nat.le_refl _⟩) X Y hA S (by decide) (by decide) (fun z125 u H locs Y S s125 p125 => ?_)
                    obtain ⟨I125, J125, B125, G125⟩ := u
                    dsimp only at Y S s125 p125
                    have b125 : B109 = B125 := (funext (fun j => s125.2.2 j (by simp))).symm
                    subst b125
                    obtain ⟨l125, u125, x125, st125⟩ := p125
                    obtain ⟨x126, y126, ex126, ey126, lx126, ly126, uy126, dy126, iy126⟩ := st125
                    have zw125 : z125 = 1 := x125.mpr (by rw [show 22200 + z124 = 22200 + (B109 100 ((8 * z106) + a2).toNat).toInt by omega]; exact wh_of f111 f112 (by omega) (by omega) (show 0 ≤ _ from (S.1.2 100 _).1) cpx)
                    refine lv_pop X.1 X.2.1 d_M_hand_106 rfl ?_
                    refine lv_aload_n X.1 X.2.1 d_M_hand_107 rfl (lv_at hl 0 rfl) ?_
                    refine m_ldcSW (i := 7) X (by decide) (by decide) d_M_hand_108 ?_
                    refine lv_aload_n X.1 X.2.1 d_M_hand_111 rfl (lv_at hl 0 rfl) ?_
                    refine r_get0 X Y (by decide) lk_inside (gf_inside _ _ _) rfl ex126 d_M_hand_112 ?_
                    refine lv_sipush (v := iI 22200) X.1 X.2.1 d_M_hand_115 (by decide) ?_
                    refine lv_aload_n X.1 X.2.1 d_M_hand_118 rfl (lv_at hl 0 rfl) ?_
                    refine m_get X Y 100 (by decide) lk_ticketSizes (gf_ticketSizes _ _ _) rfl d_M_hand_119 ?_
                    refine lv_iload X.1 X.2.1 d_M_hand_122 (lv_at hl 3 rfl) ?_
                    refine r_iald X Y S (aw_ticketSizes _ _ _ _ _ _ _) rfl (by omega) (show (8 * z106) + a2 < ((32 : Nat) : Int) by omega) (by omega) d_M_hand_124 (fun z127 q127 l127 u127 => ?_)
                    refine z_iadd X.1 X.2.1 d_M_hand_125 ?_
                    refine lv_iconst (v := iI 3) X.1 X.2.1 d_M_hand_126 (by decide) ?_
                    refine r_ni (m_run (As := [.ref ((D.2.1 7)), .int (iI x126), .int (iI (22200 + z127)), .int (iI 3)]) (rest := []) (n := 4) X Y hZ hA hml hl.1 (r_M_sequence_t l D E h q H.size I125 J125 B109 G125 7 (show 7 < nZ by decide) x126 (by omega) (by omega) (22200 + z127) (by omega) (by omega) 3 (by decide) (by decide) S.1 5 (B109 0) rfl (isF (B109 0) 5) (by decide) (hisU (show rki 7 ≤ 5 by decide)) (show pG1 I125 from ⟨x126, y126, ex126, ey126, by omega, by omega, by omega, by omega⟩) (pG2_cg rfl rfl f114) (by omega) (by omega)) kl_M_sequence ks_M_sequence kx_M_sequence ki_M_sequence ini_M hd_M_sequence ⟨Nat.le_of_ble_eq_true rfl, Nat.le_of_ble_eq_true rfl⟩ rfl (Nat.le_of_ble_eq_true rfl) d_M_hand_127 ⟨Nat.le_refl _, Nat.le_refl _⟩) X Y hA S (by decide) (by decide) (fun z128 u H locs Y S s128 p128 => ?_)
                    obtain ⟨I128, J128, B128, G128⟩ := u
                    dsimp only at Y S s128 p128
                    obtain ⟨l128, u128, x128, st128, g128_P1, g128_P2⟩ := p128
                    have g128_TF : thF [3] (B109 37) (B109 38) (B128 37) (B128 38) := thF_of st128.1
                    refine lv_pop X.1 X.2.1 d_M_hand_130 rfl ?_
                    refine lv_aload_n X.1 X.2.1 d_M_hand_131 rfl (lv_at hl 0 rfl) ?_
                    refine r_nv (m_run (As := []) (rest := []) (n := 0) X Y hZ hA hml hl.1 (r_M_start l D E h q H.size I128 J128 B128 G128 S.1) kl_M_start ks_M_start kx_M_start ki_M_start ini_M hd_M_start ⟨Nat.le_of_ble_eq_true rfl, Nat.le_of_ble_eq_true rfl⟩ rfl (Nat.le_of_ble_eq_true rfl) d_M_hand_132 ⟨Nat.le_refl _, Nat.le_refl _⟩) X Y hA S (by decide) (by decide) (fun u H locs Y S s129 p129 => ?_)
                    obtain ⟨I129, J129, B129, G129⟩ := u
                    dsimp only at Y S s129 p129
                    have b129 : B128 = B129 := (funext (fun j => s129.2.2 j (by simp))).symm
                    subst b129
                    have x129 := p129
                    refine lv_aload_n X.1 X.2.1 d_M_hand_135 rfl (lv_at hl 0 rfl) ?_
                    refine lv_iconst (v := iI 3) X.1 X.2.1 d_M_hand_136 (by decide) ?_
                    refine lv_lconst (v := 0) X.1 X.2.1 d_M_hand_137 rfl ?_
                    refine r_nv (m_run (As := [.int (iI 3), .long 0]) (rest := []) (n := 2) X Y hZ hA hml hl.1 (r_M_numberField l D E h q H.size I129 J129 B128 G129 3 (by decide) (by decide) 0 S.1 60000 (x129.trans (congrArg iI (show (60000 : Int) = 60000 by omega))) (by omega) (by omega)) kl_M_numberField ks_M_numberField kx_M_numberField ki_M_numberField ini_M hd_M_numberField ⟨Nat.le_of_ble_eq_true rfl, Nat.le_of_ble_eq_true rfl⟩ rfl (Nat.le_of_ble_eq_true rfl) d_M_hand_138 ⟨Nat.le_refl _, Nat.le_refl _⟩) X Y hA S (by decide) (by decide) (fun u H locs Y S s130 p130 => ?_)
                    obtain ⟨I130, J130, B130, G130⟩ := u
                    dsimp only at Y S s130 p130
                    have f131 : stT (B130 97) (B130 98) (B130 100) (B130 107) (B130 108) (B130 109) := (stT_cg (s130.2.2 97 (by decide)) (s130.2.2 98 (by decide)) (s130.2.2 100 (by decide)) (s130.2.2 107 (by decide)) (s130.2.2 108 (by decide)) (s130.2.2 109 (by decide)) (stT_cg rfl rfl rfl rfl rfl rfl (stT_cg (s128.2.2 97 (by decide)) (s128.2.2 98 (by decide)) (s128.2.2 100 (by decide)) (s128.2.2 107 (by decide)) (s128.2.2 108 (by decide)) (s128.2.2 109 (by decide)) (stT_cg rfl rfl rfl rfl rfl rfl f111))))
                    obtain ⟨x130, g130_MF⟩ := p130
                    obtain ⟨z132, e132, l132, u132⟩ := x130
                    refine lv_aload_n X.1 X.2.1 d_M_hand_141 rfl (lv_at hl 0 rfl) ?_
                    refine lv_iconst (v := iI 2) X.1 X.2.1 d_M_hand_142 (by decide) ?_
                    refine lv_aload_n X.1 X.2.1 d_M_hand_143 rfl (lv_at hl 0 rfl) ?_
                    refine lv_iload_n X.1 X.2.1 d_M_hand_144 rfl (lv_at hl 2 rfl) ?_
                    refine r_nl (m_run (As := [.int (iI z106)]) (rest := [.int (iI 2), .ref h]) (n := 1) X Y hZ hA hml hl.1 (r_M_clockOf l D E h q H.size I130 J130 B130 G130 z106 (by omega) (by omega) S.1) kl_M_clockOf ks_M_clockOf kx_M_clockOf ki_M_clockOf ini_M hd_M_clockOf ⟨Nat.le_of_ble_eq_true rfl, Nat.le_of_ble_eq_true rfl⟩ rfl (Nat.le_of_ble_eq_true rfl) d_M_hand_145 ⟨Nat.le_refl _, Nat.le_refl _⟩) X Y hA S (by decide) (by decide) (fun v133 u H locs Y S s133 p133 => ?_)
                    obtain ⟨I133, J133, B133, G133⟩ := u
                    dsimp only at Y S s133 p133
                    have i133 : I130 = I133 := (funext (fun j => s133.2.1 j (by simp))).symm
                    subst i133
                    have b133 : B130 = B133 := (funext (fun j => s133.2.2 j (by simp))).symm
                    subst b133
                    refine r_nv (m_run (As := [.int (iI 2), .long v133]) (rest := []) (n := 2) X Y hZ hA hml hl.1 (r_M_timeField l D E h q H.size I130 J133 B130 G133 2 (by decide) (by decide) v133 S.1 z132 e132 (by omega) (by omega)) kl_M_timeField ks_M_timeField kx_M_timeField ki_M_timeField ini_M hd_M_timeField ⟨Nat.le_of_ble_eq_true rfl, Nat.le_of_ble_eq_true rfl⟩ rfl (Nat.le_of_ble_eq_true rfl) d_M_hand_148 ⟨Nat.le_refl _, Nat.le_refl _⟩) X Y hA S (by decide) (by decide) (fun u H locs Y S s134 p134 => ?_)
                    obtain ⟨I134, J134, B134, G134⟩ := u
                    dsimp only at Y S s134 p134
                    obtain ⟨x134, g134_MF⟩ := p134
                    obtain ⟨z135, e135, l135, u135⟩ := x134
                    refine lv_aload_n X.1 X.2.1 d_M_hand_151 rfl (lv_at hl 0 rfl) ?_
                    refine r_get0 X Y (by decide) lk_w0 (gf_w0 _ _ _) rfl e135 d_M_hand_152 ?_
                    refine lv_istore (lv' := [(5, .int (iI z135)), (0, .ref h), (1, .int (iI a1)), (3, .int (iI z106)), (4, .int (iI ((8 * z106) + a2)))]) X.1 X.2.1 d_M_hand_155 hl (by decide) rfl (fun ls hl => ?_)
                    refine lv_aload_n X.1 X.2.1 d_M_hand_157 rfl (lv_at hl 1 rfl) ?_
                    refine lv_bipush (v := iI 9) X.1 X.2.1 d_M_hand_158 (by decide) ?_
                    refine lv_aload_n X.1 X.2.1 d_M_hand_160 rfl (lv_at hl 1 rfl) ?_
                    refine lv_iconst (v := iI 3) X.1 X.2.1 d_M_hand_161 (by decide) ?_
                    refine lv_iconst (v := iI 2) X.1 X.2.1 d_M_hand_162 (by decide) ?_
                    refine r_ni (m_run (As := [.int (iI 3), .int (iI 2)]) (rest := [.int (iI 9), .ref h]) (n := 2) X Y hZ hA hml hl.1 (r_M_a l D E h q H.size I134 J134 B134 G134 3 (by decide) (by decide) 2 (by decide) (by decide) S.1) kl_M_a ks_M_a kx_M_a ki_M_a ini_M hd_M_a ⟨Nat.le_of_ble_eq_true rfl, Nat.le_of_ble_eq_true rfl⟩ rfl (Nat.le_of_ble_eq_true rfl) d_M_hand_163 ⟨Nat.le_refl _, Nat.le_refl _⟩) X Y hA S (by decide) (by decide) (fun z136 u H locs Y S s136 p136 => ?_)
                    obtain ⟨I136, J136, B136, G136⟩ := u
                    dsimp only at Y S s136 p136
                    have i136 : I134 = I136 := (funext (fun j => s136.2.1 j (by simp))).symm
                    subst i136
                    have b136 : B134 = B136 := (funext (fun j => s136.2.2 j (by simp))).symm
                    subst b136
                    obtain ⟨l136, u136, x136⟩ := p136
                    refine lv_aload_n X.1 X.2.1 d_M_hand_166 rfl (lv_at hl 1 rfl) ?_
                    refine lv_iconst (v := iI 3) X.1 X.2.1 d_M_hand_167 (by decide) ?_
                    refine lv_iconst (v := iI 2) X.1 X.2.1 d_M_hand_168 (by decide) ?_
                    refine r_ni (m_run (As := [.int (iI 3), .int (iI 2)]) (rest := [.int (iI z136), .int (iI 9), .ref h]) (n := 2) X Y hZ hA hml hl.1 (r_M_b l D E h q H.size I134 J136 B134 G136 3 (by decide) (by decide) 2 (by decide) (by decide) S.1) kl_M_b ks_M_b kx_M_b ki_M_b ini_M hd_M_b ⟨Nat.le_of_ble_eq_true rfl, Nat.le_of_ble_eq_true rfl⟩ rfl (Nat.le_of_ble_eq_true rfl) d_M_hand_169 ⟨Nat.le_refl _, Nat.le_refl _⟩) X Y hA S (by decide) (by decide) (fun z137 u H locs Y S s137 p137 => ?_)
                    obtain ⟨I137, J137, B137, G137⟩ := u
                    dsimp only at Y S s137 p137
                    have i137 : I134 = I137 := (funext (fun j => s137.2.1 j (by simp))).symm
                    subst i137
                    have b137 : B134 = B137 := (funext (fun j => s137.2.2 j (by simp))).symm
                    subst b137
                    have f138 : stT (B134 97) (B134 98) (B134 100) (B134 107) (B134 108) (B134 109) := (stT_cg rfl rfl rfl rfl rfl rfl (stT_cg rfl rfl rfl rfl rfl rfl (stT_cg (s134.2.2 97 (by decide)) (s134.2.2 98 (by decide)) (s134.2.2 100 (by decide)) (s134.2.2 107 (by decide)) (s134.2.2 108 (by decide)) (s134.2.2 109 (by decide)) (stT_cg rfl rfl rfl rfl rfl rfl f131))))
                    obtain ⟨l137, u137, x137⟩ := p137
                    have p139 : pr z136 z137 := by rw [x136, x137]; exact (pG2_cg rfl rfl (pG2_cg rfl rfl (pG2_cg (s134.2.2 37 (by decide)) (s134.2.2 38 (by decide)) (pG2_cg rfl rfl (pG2_cg (s130.2.2 37 (by decide)) (s130.2.2 38 (by decide)) (pG2_cg rfl rfl g128_P2)))))) (16 * 3 + 2 : Int).toNat (by omega)
                    unfold pr at p139
                    refine r_nv (m_run (As := [.int (iI 9), .int (iI z136), .int (iI z137)]) (rest := []) (n := 3) X Y hZ hA hml hl.1 (r_M_copyField l D E h q H.size I134 J137 B134 G137 9 (by decide) (by decide) z136 (by omega) (by omega) z137 (by omega) (by omega) S.1 z135 e135 (by omega) (by omega) (by omega) (by omega) (by omega) (by omega)) kl_M_copyField ks_M_copyField kx_M_copyField ki_M_copyField ini_M hd_M_copyField ⟨Nat.le_of_ble_eq_true rfl, Nat.le_of_ble_eq_true rfl⟩ rfl (Nat.le_of_ble_eq_true rfl) d_M_hand_172 ⟨Nat.le_refl _, Nat.le_refl _⟩) X Y hA S (by decide) (by decide) (fun u H locs Y S s140 p140 => ?_)
                    obtain ⟨I140, J140, B140, G140⟩ := u
                    dsimp only at Y S s140 p140
                    have f141 : pG1 I140 := (pG1_cg (s140.2.1 39 (by decide)) (s140.2.1 40 (by decide)) (pG1_cg rfl rfl (pG1_cg rfl rfl (pG1_cg (s134.2.1 39 (by decide)) (s134.2.1 40 (by decide)) (pG1_cg rfl rfl (pG1_cg (s130.2.1 39 (by decide)) (s130.2.1 40 (by decide)) (pG1_cg (s129.2.1 39 (by decide)) (s129.2.1 40 (by decide)) g128_P1)))))))
                    have f142 : pG2 (B140 37) (B140 38) := (pG2_cg (s140.2.2 37 (by decide)) (s140.2.2 38 (by decide)) (pG2_cg rfl rfl (pG2_cg rfl rfl (pG2_cg (s134.2.2 37 (by decide)) (s134.2.2 38 (by decide)) (pG2_cg rfl rfl (pG2_cg (s130.2.2 37 (by decide)) (s130.2.2 38 (by decide)) (pG2_cg rfl rfl g128_P2)))))))
                    obtain ⟨x140, g140_MF⟩ := p140
                    obtain ⟨z143, e143, l143, u143⟩ := x140
                    refine lv_aload_n X.1 X.2.1 d_M_hand_175 rfl (lv_at hl 1 rfl) ?_
                    refine lv_bipush (v := iI 8) X.1 X.2.1 d_M_hand_176 (by decide) ?_
                    refine m_ldcSW (i := 2) X (by decide) (by decide) d_M_hand_178 ?_
                    refine r_nv (m_run (As := [.int (iI 8), .ref ((D.2.1 2))]) (rest := []) (n := 2) X Y hZ hA hml hl.1 (r_M_wordField l D E h q H.size I140 J140 B140 G140 8 (by decide) (by decide) 2 (show 2 < nZ by decide) S.1 z143 e143 (by omega) (by omega)) kl_M_wordField ks_M_wordField kx_M_wordField ki_M_wordField ini_M hd_M_wordField ⟨Nat.le_of_ble_eq_true rfl, Nat.le_of_ble_eq_true rfl⟩ rfl (Nat.le_of_ble_eq_true rfl) d_M_hand_181 ⟨Nat.le_refl _, Nat.le_refl _⟩) X Y hA S (by decide) (by decide) (fun u H locs Y S s144 p144 => ?_)
                    obtain ⟨I144, J144, B144, G144⟩ := u
                    dsimp only at Y S s144 p144
                    have f145 : stT (B144 97) (B144 98) (B144 100) (B144 107) (B144 108) (B144 109) := (stT_cg (s144.2.2 97 (by decide)) (s144.2.2 98 (by decide)) (s144.2.2 100 (by decide)) (s144.2.2 107 (by decide)) (s144.2.2 108 (by decide)) (s144.2.2 109 (by decide)) (stT_cg (s140.2.2 97 (by decide)) (s140.2.2 98 (by decide)) (s140.2.2 100 (by decide)) (s140.2.2 107 (by decide)) (s140.2.2 108 (by decide)) (s140.2.2 109 (by decide)) f138))
                    obtain ⟨x144, g144_MF⟩ := p144
                    obtain ⟨z146, e146, l146, u146⟩ := x144
                    refine lv_aload_n X.1 X.2.1 d_M_hand_184 rfl (lv_at hl 1 rfl) ?_
                    refine m_get X Y 106 (by decide) lk_renewTimes (gf_renewTimes _ _ _) rfl d_M_hand_185 ?_
                    refine lv_iload X.1 X.2.1 d_M_hand_188 (lv_at hl 4 rfl) ?_
                    refine r_lald X Y (aw_renewTimes _ _ _ _ _ _ _) (by omega) (show (8 * z106) + a2 < ((32 : Nat) : Int) by omega) (by omega) d_M_hand_190 (fun v147 => ?_)
                    refine lv_lconst (v := 0) X.1 X.2.1 d_M_hand_191 rfl ?_
                    refine W.lcmp X.1 X.2.1 d_M_hand_192 ?_
                    refine t_u (fun z148 l148 u148 => ?_)
                    have J158 : ∀ (z155 : Int) (I149 : Nat → Int32) (J149 : Nat → Int64) (B149 : Nat → Nat → Int32) (G149 : Nat → Nat → Int64) (H : Heap) (locs : List Loc) (ls : Array Slot), (stT (B149 97) (B149 98) (B149 100) (B149 107) (B149 108) (B149 109)) → ((B149 97 ((8 * z106) + a2).toNat).toInt ≠ 0) → (pG1 I149) → (pG2 (B149 37) (B149 38)) → (I149 33 = iI cn) → (I149 42 = iI z155) → (0 ≤ z155) → (z155 ≤ 60000) → (60000 - (4400) ≤ z155) → (z155 ≤ 60000) → mH D E (mA E h q sz) s.heap h q I149 J149 B149 G149 H locs → rS [3, 8, 14, 18, 33, 36, 39, 40, 42] [0, 1, 5, 6, 7, 9, 10, 11, 12, 13, 15, 16, 17, 19, 20, 21, 22, 23, 34, 35, 37, 38, 58, 59] I B I149 B149 → lv_has ls 7 [(0, .ref h), (1, .int (iI a1)), (4, .int (iI ((8 * z106) + a2))), (5, .int (iI z135))] → W p l e (mR 43 1992) s m AV below meth c H locs 0 0 QQ (F0 m 209 ls []) := by
                      as_aux_lemma =>
                        intro z155 I149 J149 B149 G149 H locs ls f150 f151 f152 f153 e154 e155 l155 u155 i156 i157 Y S hl
                        refine lv_aload_n X.1 X.2.1 d_M_hand_209 rfl (lv_at hl 0 rfl) ?_
                        refine lv_bipush (v := iI 6) X.1 X.2.1 d_M_hand_210 (by decide) ?_
                        refine lv_aload_n X.1 X.2.1 d_M_hand_212 rfl (lv_at hl 0 rfl) ?_
                        refine m_get X Y 105 (by decide) lk_endTimes (gf_endTimes _ _ _) rfl d_M_hand_213 ?_
                        refine lv_iload X.1 X.2.1 d_M_hand_216 (lv_at hl 2 rfl) ?_
                        refine r_lald X Y (aw_endTimes _ _ _ _ _ _ _) (by omega) (show (8 * z106) + a2 < ((32 : Nat) : Int) by omega) (by omega) d_M_hand_218 (fun v162 => ?_)
                        refine r_nv (m_run (As := [.int (iI 6), .long v162]) (rest := []) (n := 2) X Y hZ hA hml hl.1 (r_M_timeField l D E h q H.size I149 J149 B149 G149 6 (by decide) (by decide) v162 S.1 z155 e155 (by omega) (by omega)) kl_M_timeField ks_M_timeField kx_M_timeField ki_M_timeField ini_M hd_M_timeField ⟨Nat.le_of_ble_eq_true rfl, Nat.le_of_ble_eq_true rfl⟩ rfl (Nat.le_of_ble_eq_true rfl) d_M_hand_219 ⟨Nat.le_refl _, Nat.le_refl _⟩) X Y hA S (by decide) (by decide) (fun u H locs Y S s163 p163 => ?_)
                        obtain ⟨I163, J163, B163, G163⟩ := u
                        dsimp only at Y S s163 p163
                        obtain ⟨x163, g163_MF⟩ := p163
                        obtain ⟨z164, e164, l164, u164⟩ := x163
                        refine lv_aload_n X.1 X.2.1 d_M_hand_222 rfl (lv_at hl 0 rfl) ?_
                        refine m_get X Y 104 (by decide) lk_startTimes (gf_startTimes _ _ _) rfl d_M_hand_223 ?_
                        refine lv_iload X.1 X.2.1 d_M_hand_226 (lv_at hl 2 rfl) ?_
                        refine r_lald X Y (aw_startTimes _ _ _ _ _ _ _) (by omega) (show (8 * z106) + a2 < ((32 : Nat) : Int) by omega) (by omega) d_M_hand_228 (fun v165 => ?_)
                        refine lv_lconst (v := 0) X.1 X.2.1 d_M_hand_229 rfl ?_
                        refine W.lcmp X.1 X.2.1 d_M_hand_230 ?_
                        refine t_u (fun z166 l166 u166 => ?_)
                        have J176 : ∀ (z173 : Int) (I167 : Nat → Int32) (J167 : Nat → Int64) (B167 : Nat → Nat → Int32) (G167 : Nat → Nat → Int64) (H : Heap) (locs : List Loc) (ls : Array Slot), (stT (B167 97) (B167 98) (B167 100) (B167 107) (B167 108) (B167 109)) → ((B167 97 ((8 * z106) + a2).toNat).toInt ≠ 0) → (pG1 I167) → (pG2 (B167 37) (B167 38)) → (I167 33 = iI cn) → (I167 42 = iI z173) → (0 ≤ z173) → (z173 ≤ 60000) → (60000 - (4500) ≤ z173) → (z173 ≤ 60000) → mH D E (mA E h q sz) s.heap h q I167 J167 B167 G167 H locs → rS [3, 8, 14, 18, 33, 36, 39, 40, 42] [0, 1, 5, 6, 7, 9, 10, 11, 12, 13, 15, 16, 17, 19, 20, 21, 22, 23, 34, 35, 37, 38, 58, 59] I B I167 B167 → lv_has ls 7 [(0, .ref h), (1, .int (iI a1)), (4, .int (iI ((8 * z106) + a2))), (5, .int (iI z135))] → W p l e (mR 43 1992) s m AV below meth c H locs 0 0 QQ (F0 m 246 ls []) := by
                          as_aux_lemma =>
                            intro z173 I167 J167 B167 G167 H locs ls f168 f169 f170 f171 e172 e173 l173 u173 i174 i175 Y S hl
                            refine lv_aload_n X.1 X.2.1 d_M_hand_246 rfl (lv_at hl 0 rfl) ?_
                            refine lv_iconst (v := iI 4) X.1 X.2.1 d_M_hand_247 (by decide) ?_
                            refine lv_aload_n X.1 X.2.1 d_M_hand_248 rfl (lv_at hl 0 rfl) ?_
                            refine m_get X Y 103 (by decide) lk_authTimes (gf_authTimes _ _ _) rfl d_M_hand_249 ?_
                            refine lv_iload X.1 X.2.1 d_M_hand_252 (lv_at hl 2 rfl) ?_
                            refine r_lald X Y (aw_authTimes _ _ _ _ _ _ _) (by omega) (show (8 * z106) + a2 < ((32 : Nat) : Int) by omega) (by omega) d_M_hand_254 (fun v180 => ?_)
                            refine r_nv (m_run (As := [.int (iI 4), .long v180]) (rest := []) (n := 2) X Y hZ hA hml hl.1 (r_M_timeField l D E h q H.size I167 J167 B167 G167 4 (by decide) (by decide) v180 S.1 z173 e173 (by omega) (by omega)) kl_M_timeField ks_M_timeField kx_M_timeField ki_M_timeField ini_M hd_M_timeField ⟨Nat.le_of_ble_eq_true rfl, Nat.le_of_ble_eq_true rfl⟩ rfl (Nat.le_of_ble_eq_true rfl) d_M_hand_255 ⟨Nat.le_refl _, Nat.le_refl _⟩) X Y hA S (by decide) (by decide) (fun u H locs Y S s181 p181 => ?_)
                            obtain ⟨I181, J181, B181, G181⟩ := u
                            dsimp only at Y S s181 p181
                            obtain ⟨x181, g181_MF⟩ := p181
                            obtain ⟨z182, e182, l182, u182⟩ := x181
                            refine lv_aload_n X.1 X.2.1 d_M_hand_258 rfl (lv_at hl 0 rfl) ?_
                            refine lv_iconst (v := iI 3) X.1 X.2.1 d_M_hand_259 (by decide) ?_
                            refine lv_aload_n X.1 X.2.1 d_M_hand_260 rfl (lv_at hl 0 rfl) ?_
                            refine m_get X Y 101 (by decide) lk_ticketFlags (gf_ticketFlags _ _ _) rfl d_M_hand_261 ?_
                            refine lv_iload X.1 X.2.1 d_M_hand_264 (lv_at hl 2 rfl) ?_
                            refine r_iald X Y S (aw_ticketFlags _ _ _ _ _ _ _) rfl (by omega) (show (8 * z106) + a2 < ((32 : Nat) : Int) by omega) (by omega) d_M_hand_266 (fun z183 q183 l183 u183 => ?_)
                            refine r_nv (m_run (As := [.int (iI 3), .int (iI z183)]) (rest := []) (n := 2) X Y hZ hA hml hl.1 (r_M_flagsField l D E h q H.size I181 J181 B181 G181 3 (by decide) (by decide) z183 (by omega) (by omega) S.1 z182 e182 (by omega) (by omega)) kl_M_flagsField ks_M_flagsField kx_M_flagsField ki_M_flagsField ini_M hd_M_flagsField ⟨Nat.le_of_ble_eq_true rfl, Nat.le_of_ble_eq_true rfl⟩ rfl (Nat.le_of_ble_eq_true rfl) d_M_hand_267 ⟨Nat.le_refl _, Nat.le_refl _⟩) X Y hA S (by decide) (by decide) (fun u H locs Y S s184 p184 => ?_)
                            obtain ⟨I184, J184, B184, G184⟩ := u
                            dsimp only at Y S s184 p184
                            have f185 : stT (B184 97) (B184 98) (B184 100) (B184 107) (B184 108) (B184 109) := (stT_cg (s184.2.2 97 (by decide)) (s184.2.2 98 (by decide)) (s184.2.2 100 (by decide)) (s184.2.2 107 (by decide)) (s184.2.2 108 (by decide)) (s184.2.2 109 (by decide)) (stT_cg (s181.2.2 97 (by decide)) (s181.2.2 98 (by decide)) (s181.2.2 100 (by decide)) (s181.2.2 107 (by decide)) (s181.2.2 108 (by decide)) (s181.2.2 109 (by decide)) f168))
                            obtain ⟨x184, g184_MF⟩ := p184
                            obtain ⟨z186, e186, l186, u186⟩ := x184
                            refine lv_aload_n X.1 X.2.1 d_M_hand_270 rfl (lv_at hl 0 rfl) ?_
                            refine lv_iconst (v := iI 2) X.1 X.2.1 d_M_hand_271 (by decide) ?_
                            refine lv_aload_n X.1 X.2.1 d_M_hand_272 rfl (lv_at hl 0 rfl) ?_
                            refine m_get X Y 107 (by decide) lk_clientBytes (gf_clientBytes _ _ _) rfl d_M_hand_273 ?_
                            refine lv_sipush (v := iI 400) X.1 X.2.1 d_M_hand_276 (by decide) ?_
                            refine lv_iload X.1 X.2.1 d_M_hand_279 (lv_at hl 2 rfl) ?_
                            refine z_imul X.1 X.2.1 d_M_hand_281 ?_
                            refine lv_aload_n X.1 X.2.1 d_M_hand_282 rfl (lv_at hl 0 rfl) ?_
                            refine m_get X Y 108 (by decide) lk_realmSizes (gf_realmSizes _ _ _) rfl d_M_hand_283 ?_
                            refine lv_iload X.1 X.2.1 d_M_hand_286 (lv_at hl 2 rfl) ?_
                            refine r_iald X Y S (aw_realmSizes _ _ _ _ _ _ _) rfl (by omega) (show (8 * z106) + a2 < ((32 : Nat) : Int) by omega) (by omega) d_M_hand_288 (fun z187 q187 l187 u187 => ?_)
                            refine z_iadd X.1 X.2.1 d_M_hand_289 ?_
                            refine lv_aload_n X.1 X.2.1 d_M_hand_290 rfl (lv_at hl 0 rfl) ?_
                            refine m_get X Y 109 (by decide) lk_clientSizes (gf_clientSizes _ _ _) rfl d_M_hand_291 ?_
                            refine lv_iload X.1 X.2.1 d_M_hand_294 (lv_at hl 2 rfl) ?_
                            refine r_iald X Y S (aw_clientSizes _ _ _ _ _ _ _) rfl (by omega) (show (8 * z106) + a2 < ((32 : Nat) : Int) by omega) (by omega) d_M_hand_296 (fun z188 q188 l188 u188 => ?_)
                            refine r_nv (m_run (As := [.int (iI 2), .ref ((q 107)), .int (iI ((400 * ((8 * z106) + a2)) + z187)), .int (iI z188)]) (rest := []) (n := 4) X Y hZ hA hml hl.1 (r_M_rowField_clientBytes l D E h q H.size I184 J184 B184 G184 2 (by decide) (by decide) ((400 * ((8 * z106) + a2)) + z187) (by omega) (by omega) z188 (by omega) (by omega) S.1 z186 e186 (by omega) (by omega) (by omega) (by omega)) kl_M_rowField ks_M_rowField kx_M_rowField ki_M_rowField ini_M hd_M_rowField ⟨Nat.le_of_ble_eq_true rfl, Nat.le_of_ble_eq_true rfl⟩ rfl (Nat.le_of_ble_eq_true rfl) d_M_hand_297 ⟨Nat.le_refl _, Nat.le_refl _⟩) X Y hA S (by decide) (by decide) (fun u H locs Y S s189 p189 => ?_)
                            obtain ⟨I189, J189, B189, G189⟩ := u
                            dsimp only at Y S s189 p189
                            obtain ⟨x189, g189_MF⟩ := p189
                            obtain ⟨z190, e190, l190, u190⟩ := x189
                            refine lv_aload_n X.1 X.2.1 d_M_hand_300 rfl (lv_at hl 0 rfl) ?_
                            refine lv_iconst (v := iI 1) X.1 X.2.1 d_M_hand_301 (by decide) ?_
                            refine m_ldcSW (i := 2) X (by decide) (by decide) d_M_hand_302 ?_
                            refine r_nv (m_run (As := [.int (iI 1), .ref ((D.2.1 2))]) (rest := []) (n := 2) X Y hZ hA hml hl.1 (r_M_wordField l D E h q H.size I189 J189 B189 G189 1 (by decide) (by decide) 2 (show 2 < nZ by decide) S.1 z190 e190 (by omega) (by omega)) kl_M_wordField ks_M_wordField kx_M_wordField ki_M_wordField ini_M hd_M_wordField ⟨Nat.le_of_ble_eq_true rfl, Nat.le_of_ble_eq_true rfl⟩ rfl (Nat.le_of_ble_eq_true rfl) d_M_hand_305 ⟨Nat.le_refl _, Nat.le_refl _⟩) X Y hA S (by decide) (by decide) (fun u H locs Y S s191 p191 => ?_)
                            obtain ⟨I191, J191, B191, G191⟩ := u
                            dsimp only at Y S s191 p191
                            have f192 : stT (B191 97) (B191 98) (B191 100) (B191 107) (B191 108) (B191 109) := (stT_cg (s191.2.2 97 (by decide)) (s191.2.2 98 (by decide)) (s191.2.2 100 (by decide)) (s191.2.2 107 (by decide)) (s191.2.2 108 (by decide)) (s191.2.2 109 (by decide)) (stT_cg (s189.2.2 97 (by decide)) (s189.2.2 98 (by decide)) (s189.2.2 100 (by decide)) (s189.2.2 107 (by decide)) (s189.2.2 108 (by decide)) (s189.2.2 109 (by decide)) f185))
                            obtain ⟨x191, g191_MF⟩ := p191
                            obtain ⟨z193, e193, l193, u193⟩ := x191
                            refine lv_iconst (v := iI 0) X.1 X.2.1 d_M_hand_308 (by decide) ?_
                            have J202 : ∀ (n204 : Nat) (z195 : Int) (I194 : Nat → Int32) (J194 : Nat → Int64) (B194 : Nat → Nat → Int32) (G194 : Nat → Nat → Int64) (H : Heap) (locs : List Loc) (ls : Array Slot), (32 - z195).toNat = n204 → (0 ≤ z195) → (z195 ≤ 32) → (stT (B194 97) (B194 98) (B194 100) (B194 107) (B194 108) (B194 109)) → ((B194 97 ((8 * z106) + a2).toNat).toInt ≠ 0) → (pG1 I194) → (pG2 (B194 37) (B194 38)) → (I194 42 = iI z193) → (I194 33 = iI cn) → mH D E (mA E h q sz) s.heap h q I194 J194 B194 G194 H locs → rS [3, 8, 14, 18, 33, 36, 39, 40, 42] [0, 1, 5, 6, 7, 9, 10, 11, 12, 13, 15, 16, 17, 19, 20, 21, 22, 23, 34, 35, 37, 38, 58, 59] I B I194 B194 → lv_has ls 7 [(0, .ref h), (1, .int (iI a1)), (4, .int (iI ((8 * z106) + a2))), (5, .int (iI z135)), (6, .int (iI z195))] → W p l e (mR 43 1992) s m AV below meth c H locs 0 0 QQ (F0 m 311 ls []) := by
                              as_aux_lemma =>
                                intro n204
                                induction n204 using Nat.strongRecOn with
                                | ind n204 ih203 =>
                                  intro z195 I194 J194 B194 G194 H locs ls hm205 l195 u195 f196 f197 f198 f199 e200 e201 Y S hl
                                  refine lv_iload X.1 X.2.1 d_M_hand_311 (lv_at hl 4 rfl) ?_
                                  refine lv_bipush (v := iI 32) X.1 X.2.1 d_M_hand_313 (by decide) ?_
                                  refine z_icmp_ge (tgt := 344) X.1 X.2.1 d_M_hand_315 (by decide) ⟨by omega, by omega⟩ ⟨by decide, by decide⟩ (fun h206 => ?_) (fun h206 => ?_)
                                  · as_aux_lemma =>
                                      refine lv_aload_n X.1 X.2.1 d_M_hand_344 rfl (lv_at hl 0 rfl) ?_
                                      refine lv_iconst (v := iI 0) X.1 X.2.1 d_M_hand_345 (by decide) ?_
                                      refine lv_aload_n X.1 X.2.1 d_M_hand_346 rfl (lv_at hl 0 rfl) ?_
                                      refine m_get X Y 102 (by decide) lk_ticketTypes (gf_ticketTypes _ _ _) rfl d_M_hand_347 ?_
                                      refine lv_iload X.1 X.2.1 d_M_hand_350 (lv_at hl 2 rfl) ?_
                                      refine r_iald X Y S (aw_ticketTypes _ _ _ _ _ _ _) rfl (by omega) (show (8 * z106) + a2 < ((32 : Nat) : Int) by omega) (by omega) d_M_hand_352 (fun z207 q207 l207 u207 => ?_)
                                      refine lv_aload_n X.1 X.2.1 d_M_hand_353 rfl (lv_at hl 0 rfl) ?_
                                      refine m_get X Y 59 (by decide) lk_sub (gf_sub _ _ _) rfl d_M_hand_354 ?_
                                      refine r_nv (m_run (As := [.int (iI 0), .int (iI z207), .ref ((q 59))]) (rest := []) (n := 3) X Y hZ hA hml hl.1 (r_M_keyField_sub l D E h q H.size I194 J194 B194 G194 0 (by decide) (by decide) z207 (by omega) (by omega) S.1 z193 e200 (by omega) (by omega)) kl_M_keyField ks_M_keyField kx_M_keyField ki_M_keyField ini_M hd_M_keyField ⟨Nat.le_of_ble_eq_true rfl, Nat.le_of_ble_eq_true rfl⟩ rfl (Nat.le_of_ble_eq_true rfl) d_M_hand_357 ⟨Nat.le_refl _, Nat.le_refl _⟩) X Y hA S (by decide) (by decide) (fun u H locs Y S s208 p208 => ?_)
                                      obtain ⟨I208, J208, B208, G208⟩ := u
                                      dsimp only at Y S s208 p208
                                      obtain ⟨x208, g208_MF⟩ := p208
                                      obtain ⟨z209, e209, l209, u209⟩ := x208
                                      refine lv_aload_n X.1 X.2.1 d_M_hand_360 rfl (lv_at hl 0 rfl) ?_
                                      refine lv_bipush (v := iI 48) X.1 X.2.1 d_M_hand_361 (by decide) ?_
                                      refine lv_iload X.1 X.2.1 d_M_hand_363 (lv_at hl 3 rfl) ?_
                                      refine r_nv (m_run (As := [.int (iI 48), .int (iI z135)]) (rest := []) (n := 2) X Y hZ hA hml hl.1 (r_M_head l D E h q H.size I208 J208 B208 G208 48 (by decide) (by decide) z135 (by omega) (by omega) S.1 z209 e209 (by omega) (by omega)) kl_M_head ks_M_head kx_M_head ki_M_head ini_M hd_M_head ⟨Nat.le_of_ble_eq_true rfl, Nat.le_of_ble_eq_true rfl⟩ rfl (Nat.le_of_ble_eq_true rfl) d_M_hand_365 ⟨Nat.le_refl _, Nat.le_refl _⟩) X Y hA S (by decide) (by decide) (fun u H locs Y S s210 p210 => ?_)
                                      obtain ⟨I210, J210, B210, G210⟩ := u
                                      dsimp only at Y S s210 p210
                                      have f211 : stT (B210 97) (B210 98) (B210 100) (B210 107) (B210 108) (B210 109) := (stT_cg (s210.2.2 97 (by decide)) (s210.2.2 98 (by decide)) (s210.2.2 100 (by decide)) (s210.2.2 107 (by decide)) (s210.2.2 108 (by decide)) (s210.2.2 109 (by decide)) (stT_cg (s208.2.2 97 (by decide)) (s208.2.2 98 (by decide)) (s208.2.2 100 (by decide)) (s208.2.2 107 (by decide)) (s208.2.2 108 (by decide)) (s208.2.2 109 (by decide)) f196))
                                      obtain ⟨x210, g210_MF⟩ := p210
                                      obtain ⟨z212, e212, l212, u212⟩ := x210
                                      refine lv_aload_n X.1 X.2.1 d_M_hand_368 rfl (lv_at hl 0 rfl) ?_
                                      refine lv_bipush (v := iI 48) X.1 X.2.1 d_M_hand_369 (by decide) ?_
                                      refine lv_iload X.1 X.2.1 d_M_hand_371 (lv_at hl 3 rfl) ?_
                                      refine r_nv (m_run (As := [.int (iI 48), .int (iI z135)]) (rest := []) (n := 2) X Y hZ hA hml hl.1 (r_M_head l D E h q H.size I210 J210 B210 G210 48 (by decide) (by decide) z135 (by omega) (by omega) S.1 z212 e212 (by omega) (by omega)) kl_M_head ks_M_head kx_M_head ki_M_head ini_M hd_M_head ⟨Nat.le_of_ble_eq_true rfl, Nat.le_of_ble_eq_true rfl⟩ rfl (Nat.le_of_ble_eq_true rfl) d_M_hand_373 ⟨Nat.le_refl _, Nat.le_refl _⟩) X Y hA S (by decide) (by decide) (fun u H locs Y S s213 p213 => ?_)
                                      obtain ⟨I213, J213, B213, G213⟩ := u
                                      dsimp only at Y S s213 p213
                                      obtain ⟨x213, g213_MF⟩ := p213
                                      obtain ⟨z214, e214, l214, u214⟩ := x213
                                      refine lv_aload_n X.1 X.2.1 d_M_hand_376 rfl (lv_at hl 0 rfl) ?_
                                      refine lv_iconst (v := iI 0) X.1 X.2.1 d_M_hand_377 (by decide) ?_
                                      refine lv_iload X.1 X.2.1 d_M_hand_378 (lv_at hl 3 rfl) ?_
                                      refine r_nv (m_run (As := [.int (iI 0), .int (iI z135)]) (rest := []) (n := 2) X Y hZ hA hml hl.1 (r_M_field l D E h q H.size I213 J213 B213 G213 0 (by decide) (by decide) z135 (by omega) (by omega) S.1 z214 e214 (by omega) (by omega)) kl_M_field ks_M_field kx_M_field ki_M_field ini_M hd_M_field ⟨Nat.le_of_ble_eq_true rfl, Nat.le_of_ble_eq_true rfl⟩ rfl (Nat.le_of_ble_eq_true rfl) d_M_hand_380 ⟨Nat.le_refl _, Nat.le_refl _⟩) X Y hA S (by decide) (by decide) (fun u H locs Y S s215 p215 => ?_)
                                      obtain ⟨I215, J215, B215, G215⟩ := u
                                      dsimp only at Y S s215 p215
                                      have f216 : stT (B215 97) (B215 98) (B215 100) (B215 107) (B215 108) (B215 109) := (stT_cg (s215.2.2 97 (by decide)) (s215.2.2 98 (by decide)) (s215.2.2 100 (by decide)) (s215.2.2 107 (by decide)) (s215.2.2 108 (by decide)) (s215.2.2 109 (by decide)) (stT_cg (s213.2.2 97 (by decide)) (s213.2.2 98 (by decide)) (s213.2.2 100 (by decide)) (s213.2.2 107 (by decide)) (s213.2.2 108 (by decide)) (s213.2.2 109 (by decide)) f211))
                                      obtain ⟨x215, g215_MF⟩ := p215
                                      obtain ⟨z217, e217, l217, u217⟩ := x215
                                      refine lv_aload_n X.1 X.2.1 d_M_hand_383 rfl (lv_at hl 0 rfl) ?_
                                      refine lv_bipush (v := iI 48) X.1 X.2.1 d_M_hand_384 (by decide) ?_
                                      refine lv_ldc (v := (60000)) X.1 X.2.1 X.2.2.2.1 (X.2.2.1 _ cn_M_9) d_M_hand_386 ?_
                                      refine t_eq (y := iI 60000) (by decide) ?_
                                      refine r_nv (m_run (As := [.int (iI 48), .int (iI 60000)]) (rest := []) (n := 2) X Y hZ hA hml hl.1 (r_M_head l D E h q H.size I215 J215 B215 G215 48 (by decide) (by decide) 60000 (by decide) (by decide) S.1 z217 e217 (by omega) (by omega)) kl_M_head ks_M_head kx_M_head ki_M_head ini_M hd_M_head ⟨Nat.le_of_ble_eq_true rfl, Nat.le_of_ble_eq_true rfl⟩ rfl (Nat.le_of_ble_eq_true rfl) d_M_hand_388 ⟨Nat.le_refl _, Nat.le_refl _⟩) X Y hA S (by decide) (by decide) (fun u H locs Y S s218 p218 => ?_)
                                      obtain ⟨I218, J218, B218, G218⟩ := u
                                      dsimp only at Y S s218 p218
                                      have f219 : pG1 I218 := (pG1_cg (s218.2.1 39 (by decide)) (s218.2.1 40 (by decide)) (pG1_cg (s215.2.1 39 (by decide)) (s215.2.1 40 (by decide)) (pG1_cg (s213.2.1 39 (by decide)) (s213.2.1 40 (by decide)) (pG1_cg (s210.2.1 39 (by decide)) (s210.2.1 40 (by decide)) (pG1_cg (s208.2.1 39 (by decide)) (s208.2.1 40 (by decide)) f198)))))
                                      have f220 : pG2 (B218 37) (B218 38) := (pG2_cg (s218.2.2 37 (by decide)) (s218.2.2 38 (by decide)) (pG2_cg (s215.2.2 37 (by decide)) (s215.2.2 38 (by decide)) (pG2_cg (s213.2.2 37 (by decide)) (s213.2.2 38 (by decide)) (pG2_cg (s210.2.2 37 (by decide)) (s210.2.2 38 (by decide)) (pG2_cg (s208.2.2 37 (by decide)) (s208.2.2 38 (by decide)) f199)))))
                                      obtain ⟨x218, g218_MF⟩ := p218
                                      obtain ⟨z221, e221, l221, u221⟩ := x218
                                      refine lv_aload_n X.1 X.2.1 d_M_hand_391 rfl (lv_at hl 0 rfl) ?_
                                      refine lv_bipush (v := iI 125) X.1 X.2.1 d_M_hand_392 (by decide) ?_
                                      refine lv_ldc (v := (60000)) X.1 X.2.1 X.2.2.2.1 (X.2.2.1 _ cn_M_9) d_M_hand_394 ?_
                                      refine t_eq (y := iI 60000) (by decide) ?_
                                      refine r_nv (m_run (As := [.int (iI 125), .int (iI 60000)]) (rest := []) (n := 2) X Y hZ hA hml hl.1 (r_M_head l D E h q H.size I218 J218 B218 G218 125 (by decide) (by decide) 60000 (by decide) (by decide) S.1 z221 e221 (by omega) (by omega)) kl_M_head ks_M_head kx_M_head ki_M_head ini_M hd_M_head ⟨Nat.le_of_ble_eq_true rfl, Nat.le_of_ble_eq_true rfl⟩ rfl (Nat.le_of_ble_eq_true rfl) d_M_hand_396 ⟨Nat.le_refl _, Nat.le_refl _⟩) X Y hA S (by decide) (by decide) (fun u H locs Y S s222 p222 => ?_)
                                      obtain ⟨I222, J222, B222, G222⟩ := u
                                      dsimp only at Y S s222 p222
                                      have f223 : stT (B222 97) (B222 98) (B222 100) (B222 107) (B222 108) (B222 109) := (stT_cg (s222.2.2 97 (by decide)) (s222.2.2 98 (by decide)) (s222.2.2 100 (by decide)) (s222.2.2 107 (by decide)) (s222.2.2 108 (by decide)) (s222.2.2 109 (by decide)) (stT_cg (s218.2.2 97 (by decide)) (s218.2.2 98 (by decide)) (s218.2.2 100 (by decide)) (s218.2.2 107 (by decide)) (s218.2.2 108 (by decide)) (s218.2.2 109 (by decide)) f216))
                                      obtain ⟨x222, g222_MF⟩ := p222
                                      obtain ⟨z224, e224, l224, u224⟩ := x222
                                      refine lv_iconst (v := iI 0) X.1 X.2.1 d_M_hand_399 (by decide) ?_
                                      have J233 : ∀ (n235 : Nat) (z226 : Int) (I225 : Nat → Int32) (J225 : Nat → Int64) (B225 : Nat → Nat → Int32) (G225 : Nat → Nat → Int64) (H : Heap) (locs : List Loc) (ls : Array Slot), (32 - z226).toNat = n235 → (0 ≤ z226) → (z226 ≤ 32) → (stT (B225 97) (B225 98) (B225 100) (B225 107) (B225 108) (B225 109)) → ((B225 97 ((8 * z106) + a2).toNat).toInt ≠ 0) → (pG1 I225) → (pG2 (B225 37) (B225 38)) → (I225 42 = iI z224) → (I225 33 = iI cn) → mH D E (mA E h q sz) s.heap h q I225 J225 B225 G225 H locs → rS [3, 8, 14, 18, 33, 36, 39, 40, 42] [0, 1, 5, 6, 7, 9, 10, 11, 12, 13, 15, 16, 17, 19, 20, 21, 22, 23, 34, 35, 37, 38, 58, 59] I B I225 B225 → lv_has ls 7 [(0, .ref h), (1, .int (iI a1)), (4, .int (iI ((8 * z106) + a2))), (6, .int (iI z226))] → W p l e (mR 43 1992) s m AV below meth c H locs 0 0 QQ (F0 m 402 ls []) := by
                                        as_aux_lemma =>
                                          intro n235
                                          induction n235 using Nat.strongRecOn with
                                          | ind n235 ih234 =>
                                            intro z226 I225 J225 B225 G225 H locs ls hm236 l226 u226 f227 f228 f229 f230 e231 e232 Y S hl
                                            refine lv_iload X.1 X.2.1 d_M_hand_402 (lv_at hl 3 rfl) ?_
                                            refine lv_bipush (v := iI 32) X.1 X.2.1 d_M_hand_404 (by decide) ?_
                                            refine z_icmp_ge (tgt := 434) X.1 X.2.1 d_M_hand_406 (by decide) ⟨by omega, by omega⟩ ⟨by decide, by decide⟩ (fun h237 => ?_) (fun h237 => ?_)
                                            · as_aux_lemma =>
                                                refine lv_aload_n X.1 X.2.1 d_M_hand_434 rfl (lv_at hl 0 rfl) ?_
                                                refine lv_aload_n X.1 X.2.1 d_M_hand_435 rfl (lv_at hl 0 rfl) ?_
                                                refine m_get X Y 58 (by decide) lk_key (gf_key _ _ _) rfl d_M_hand_436 ?_
                                                refine lv_aload_n X.1 X.2.1 d_M_hand_439 rfl (lv_at hl 0 rfl) ?_
                                                refine m_get X Y 134 (by decide) lk_sessionTypes (gf_sessionTypes _ _ _) rfl d_M_hand_440 ?_
                                                refine lv_iload_n X.1 X.2.1 d_M_hand_443 rfl (lv_at hl 1 rfl) ?_
                                                refine r_iald X Y S (aw_sessionTypes _ _ _ _ _ _ _) rfl (by omega) (show a1 < ((8 : Nat) : Int) by omega) (by omega) d_M_hand_444 (fun z238 q238 l238 u238 => ?_)
                                                refine lv_bipush (v := iI 14) X.1 X.2.1 d_M_hand_445 (by decide) ?_
                                                refine lv_aload_n X.1 X.2.1 d_M_hand_447 rfl (lv_at hl 0 rfl) ?_
                                                refine r_get0 X Y (by decide) lk_w0 (gf_w0 _ _ _) rfl e231 d_M_hand_448 ?_
                                                refine lv_ldc (v := (60000)) X.1 X.2.1 X.2.2.2.1 (X.2.2.1 _ cn_M_9) d_M_hand_451 ?_
                                                refine t_eq (y := iI 60000) (by decide) ?_
                                                refine r_nv (m_run (As := [.ref ((q 58)), .int (iI z238), .int (iI 14), .int (iI z224), .int (iI 60000)]) (rest := []) (n := 5) X Y hZ hA hml hl.1 (r_M_seal_key l D E h q H.size I225 J225 B225 G225 z238 (by omega) (by omega) 14 (by decide) (by decide) z224 (by omega) (by omega) 60000 (by decide) (by decide) S.1 cn e232 (by omega) (by omega) (by omega) (by omega)) kl_M_seal ks_M_seal kx_M_seal ki_M_seal ini_M hd_M_seal ⟨Nat.le_of_ble_eq_true rfl, Nat.le_of_ble_eq_true rfl⟩ rfl (Nat.le_of_ble_eq_true rfl) d_M_hand_453 ⟨Nat.le_refl _, Nat.le_refl _⟩) X Y hA S (by decide) (by decide) (fun u H locs Y S s239 p239 => ?_)
                                                obtain ⟨I239, J239, B239, G239⟩ := u
                                                dsimp only at Y S s239 p239
                                                have x239 := p239
                                                obtain ⟨x239_0, x239_1⟩ := x239
                                                refine lv_aload_n X.1 X.2.1 d_M_hand_456 rfl (lv_at hl 0 rfl) ?_
                                                refine r_nv (m_run (As := []) (rest := []) (n := 0) X Y hZ hA hml hl.1 (r_M_start l D E h q H.size I239 J239 B239 G239 S.1) kl_M_start ks_M_start kx_M_start ki_M_start ini_M hd_M_start ⟨Nat.le_of_ble_eq_true rfl, Nat.le_of_ble_eq_true rfl⟩ rfl (Nat.le_of_ble_eq_true rfl) d_M_hand_457 ⟨Nat.le_refl _, Nat.le_refl _⟩) X Y hA S (by decide) (by decide) (fun u H locs Y S s240 p240 => ?_)
                                                obtain ⟨I240, J240, B240, G240⟩ := u
                                                dsimp only at Y S s240 p240
                                                have b240 : B239 = B240 := (funext (fun j => s240.2.2 j (by simp))).symm
                                                subst b240
                                                have x240 := p240
                                                refine lv_aload_n X.1 X.2.1 d_M_hand_460 rfl (lv_at hl 0 rfl) ?_
                                                refine lv_iconst (v := iI 3) X.1 X.2.1 d_M_hand_461 (by decide) ?_
                                                refine lv_aload_n X.1 X.2.1 d_M_hand_462 rfl (lv_at hl 0 rfl) ?_
                                                refine m_get X Y 134 (by decide) lk_sessionTypes (gf_sessionTypes _ _ _) rfl d_M_hand_463 ?_
                                                refine lv_iload_n X.1 X.2.1 d_M_hand_466 rfl (lv_at hl 1 rfl) ?_
                                                refine r_iald X Y S (aw_sessionTypes _ _ _ _ _ _ _) rfl (by omega) (show a1 < ((8 : Nat) : Int) by omega) (by omega) d_M_hand_467 (fun z241 q241 l241 u241 => ?_)
                                                refine lv_lconst (v := 0) X.1 X.2.1 d_M_hand_468 rfl ?_
                                                refine r_nv (m_run (As := [.int (iI 3), .int (iI z241), .long 0]) (rest := []) (n := 3) X Y hZ hA hml hl.1 (r_M_sealedField l D E h q H.size I240 J240 B239 G240 3 (by decide) (by decide) z241 (by omega) (by omega) 0 S.1 60000 (x240.trans (congrArg iI (show (60000 : Int) = 60000 by omega))) (by omega) (by omega) (60000 - z224 + 28) ((s240.2.1 36 (by decide)).trans (x239_0.trans (congrArg iI (show (60000 - z224 + 28 : Int) = 60000 - z224 + 28 by omega)))) (by omega) (by omega) (by omega)) kl_M_sealedField ks_M_sealedField kx_M_sealedField ki_M_sealedField ini_M hd_M_sealedField ⟨Nat.le_of_ble_eq_true rfl, Nat.le_of_ble_eq_true rfl⟩ rfl (Nat.le_of_ble_eq_true rfl) d_M_hand_469 ⟨Nat.le_refl _, Nat.le_refl _⟩) X Y hA S (by decide) (by decide) (fun u H locs Y S s242 p242 => ?_)
                                                obtain ⟨I242, J242, B242, G242⟩ := u
                                                dsimp only at Y S s242 p242
                                                have f243 : stT (B242 97) (B242 98) (B242 100) (B242 107) (B242 108) (B242 109) := (stT_cg (s242.2.2 97 (by decide)) (s242.2.2 98 (by decide)) (s242.2.2 100 (by decide)) (s242.2.2 107 (by decide)) (s242.2.2 108 (by decide)) (s242.2.2 109 (by decide)) (stT_cg rfl rfl rfl rfl rfl rfl (stT_cg (s239.2.2 97 (by decide)) (s239.2.2 98 (by decide)) (s239.2.2 100 (by decide)) (s239.2.2 107 (by decide)) (s239.2.2 108 (by decide)) (s239.2.2 109 (by decide)) f227)))
                                                obtain ⟨x242, g242_MF⟩ := p242
                                                obtain ⟨z244, e244, l244, u244⟩ := x242
                                                refine lv_aload_n X.1 X.2.1 d_M_hand_472 rfl (lv_at hl 0 rfl) ?_
                                                refine r_get0 X Y (by decide) lk_w0 (gf_w0 _ _ _) rfl e244 d_M_hand_473 ?_
                                                refine lv_istore (lv' := [(6, .int (iI z244)), (0, .ref h), (1, .int (iI a1)), (4, .int (iI ((8 * z106) + a2)))]) X.1 X.2.1 d_M_hand_476 hl (by decide) rfl (fun ls hl => ?_)
                                                refine lv_aload_n X.1 X.2.1 d_M_hand_478 rfl (lv_at hl 1 rfl) ?_
                                                refine lv_aload_n X.1 X.2.1 d_M_hand_479 rfl (lv_at hl 1 rfl) ?_
                                                refine m_get X Y 0 (by decide) lk_mem (gf_mem _ _ _) rfl d_M_hand_480 ?_
                                                refine lv_sipush (v := iI 22200) X.1 X.2.1 d_M_hand_483 (by decide) ?_
                                                refine lv_aload_n X.1 X.2.1 d_M_hand_486 rfl (lv_at hl 1 rfl) ?_
                                                refine m_get X Y 100 (by decide) lk_ticketSizes (gf_ticketSizes _ _ _) rfl d_M_hand_487 ?_
                                                refine lv_iload X.1 X.2.1 d_M_hand_490 (lv_at hl 3 rfl) ?_
                                                refine r_iald X Y S (aw_ticketSizes _ _ _ _ _ _ _) rfl (by omega) (show (8 * z106) + a2 < ((32 : Nat) : Int) by omega) (by omega) d_M_hand_492 (fun z245 q245 l245 u245 => ?_)
                                                refine r_nv (m_run (As := [.ref ((q 0)), .int (iI 22200), .int (iI z245)]) (rest := []) (n := 3) X Y hZ hA hml hl.1 (r_M_putBytes_mem l D E h q H.size I242 J242 B242 G242 22200 (by decide) (by decide) z245 (by omega) (by omega) S.1 z244 e244 (by omega) (by omega) (by omega) (by omega) (by omega)) kl_M_putBytes ks_M_putBytes kx_M_putBytes ki_M_putBytes ini_M hd_M_putBytes ⟨Nat.le_of_ble_eq_true rfl, Nat.le_of_ble_eq_true rfl⟩ rfl (Nat.le_of_ble_eq_true rfl) d_M_hand_493 ⟨Nat.le_refl _, Nat.le_refl _⟩) X Y hA S (by decide) (by decide) (fun u H locs Y S s246 p246 => ?_)
                                                obtain ⟨I246, J246, B246, G246⟩ := u
                                                dsimp only at Y S s246 p246
                                                obtain ⟨x246, g246_MF⟩ := p246
                                                obtain ⟨z247, e247, l247, u247⟩ := x246
                                                refine lv_aload_n X.1 X.2.1 d_M_hand_496 rfl (lv_at hl 1 rfl) ?_
                                                refine lv_bipush (v := iI 48) X.1 X.2.1 d_M_hand_497 (by decide) ?_
                                                refine lv_iload X.1 X.2.1 d_M_hand_499 (lv_at hl 0 rfl) ?_
                                                refine r_nv (m_run (As := [.int (iI 48), .int (iI z244)]) (rest := []) (n := 2) X Y hZ hA hml hl.1 (r_M_head l D E h q H.size I246 J246 B246 G246 48 (by decide) (by decide) z244 (by omega) (by omega) S.1 z247 e247 (by omega) (by omega)) kl_M_head ks_M_head kx_M_head ki_M_head ini_M hd_M_head ⟨Nat.le_of_ble_eq_true rfl, Nat.le_of_ble_eq_true rfl⟩ rfl (Nat.le_of_ble_eq_true rfl) d_M_hand_501 ⟨Nat.le_refl _, Nat.le_refl _⟩) X Y hA S (by decide) (by decide) (fun u H locs Y S s248 p248 => ?_)
                                                obtain ⟨I248, J248, B248, G248⟩ := u
                                                dsimp only at Y S s248 p248
                                                have f249 : stT (B248 97) (B248 98) (B248 100) (B248 107) (B248 108) (B248 109) := (stT_cg (s248.2.2 97 (by decide)) (s248.2.2 98 (by decide)) (s248.2.2 100 (by decide)) (s248.2.2 107 (by decide)) (s248.2.2 108 (by decide)) (s248.2.2 109 (by decide)) (stT_cg (s246.2.2 97 (by decide)) (s246.2.2 98 (by decide)) (s246.2.2 100 (by decide)) (s246.2.2 107 (by decide)) (s246.2.2 108 (by decide)) (s246.2.2 109 (by decide)) f243))
                                                have f250 : pG1 I248 := (pG1_cg (s248.2.1 39 (by decide)) (s248.2.1 40 (by decide)) (pG1_cg (s246.2.1 39 (by decide)) (s246.2.1 40 (by decide)) (pG1_cg (s242.2.1 39 (by decide)) (s242.2.1 40 (by decide)) (pG1_cg (s240.2.1 39 (by decide)) (s240.2.1 40 (by decide)) (pG1_cg (s239.2.1 39 (by decide)) (s239.2.1 40 (by decide)) f229)))))
                                                have f251 : pG2 (B248 37) (B248 38) := (pG2_cg (s248.2.2 37 (by decide)) (s248.2.2 38 (by decide)) (pG2_cg (s246.2.2 37 (by decide)) (s246.2.2 38 (by decide)) (pG2_cg (s242.2.2 37 (by decide)) (s242.2.2 38 (by decide)) (pG2_cg rfl rfl (pG2_cg (s239.2.2 37 (by decide)) (s239.2.2 38 (by decide)) f230)))))
                                                obtain ⟨x248, g248_MF⟩ := p248
                                                obtain ⟨z252, e252, l252, u252⟩ := x248
                                                refine lv_aload_n X.1 X.2.1 d_M_hand_504 rfl (lv_at hl 1 rfl) ?_
                                                refine lv_iconst (v := iI 2) X.1 X.2.1 d_M_hand_505 (by decide) ?_
                                                refine lv_iload X.1 X.2.1 d_M_hand_506 (lv_at hl 0 rfl) ?_
                                                refine r_nv (m_run (As := [.int (iI 2), .int (iI z244)]) (rest := []) (n := 2) X Y hZ hA hml hl.1 (r_M_field l D E h q H.size I248 J248 B248 G248 2 (by decide) (by decide) z244 (by omega) (by omega) S.1 z252 e252 (by omega) (by omega)) kl_M_field ks_M_field kx_M_field ki_M_field ini_M hd_M_field ⟨Nat.le_of_ble_eq_true rfl, Nat.le_of_ble_eq_true rfl⟩ rfl (Nat.le_of_ble_eq_true rfl) d_M_hand_508 ⟨Nat.le_refl _, Nat.le_refl _⟩) X Y hA S (by decide) (by decide) (fun u H locs Y S s253 p253 => ?_)
                                                obtain ⟨I253, J253, B253, G253⟩ := u
                                                dsimp only at Y S s253 p253
                                                obtain ⟨x253, g253_MF⟩ := p253
                                                obtain ⟨z254, e254, l254, u254⟩ := x253
                                                refine lv_aload_n X.1 X.2.1 d_M_hand_511 rfl (lv_at hl 1 rfl) ?_
                                                refine lv_iconst (v := iI 1) X.1 X.2.1 d_M_hand_512 (by decide) ?_
                                                refine lv_ldc2 (v := (22)) X.1 X.2.1 X.2.2.2.1 (X.2.2.1 _ cl_M_1007) d_M_hand_513 ?_
                                                refine r_nv (m_run (As := [.int (iI 1), .long ((22))]) (rest := []) (n := 2) X Y hZ hA hml hl.1 (r_M_numberField l D E h q H.size I253 J253 B253 G253 1 (by decide) (by decide) ((22)) S.1 z254 e254 (by omega) (by omega)) kl_M_numberField ks_M_numberField kx_M_numberField ki_M_numberField ini_M hd_M_numberField ⟨Nat.le_of_ble_eq_true rfl, Nat.le_of_ble_eq_true rfl⟩ rfl (Nat.le_of_ble_eq_true rfl) d_M_hand_516 ⟨Nat.le_refl _, Nat.le_refl _⟩) X Y hA S (by decide) (by decide) (fun u H locs Y S s255 p255 => ?_)
                                                obtain ⟨I255, J255, B255, G255⟩ := u
                                                dsimp only at Y S s255 p255
                                                have f256 : stT (B255 97) (B255 98) (B255 100) (B255 107) (B255 108) (B255 109) := (stT_cg (s255.2.2 97 (by decide)) (s255.2.2 98 (by decide)) (s255.2.2 100 (by decide)) (s255.2.2 107 (by decide)) (s255.2.2 108 (by decide)) (s255.2.2 109 (by decide)) (stT_cg (s253.2.2 97 (by decide)) (s253.2.2 98 (by decide)) (s253.2.2 100 (by decide)) (s253.2.2 107 (by decide)) (s253.2.2 108 (by decide)) (s253.2.2 109 (by decide)) f249))
                                                obtain ⟨x255, g255_MF⟩ := p255
                                                obtain ⟨z257, e257, l257, u257⟩ := x255
                                                refine lv_aload_n X.1 X.2.1 d_M_hand_519 rfl (lv_at hl 1 rfl) ?_
                                                refine lv_iconst (v := iI 0) X.1 X.2.1 d_M_hand_520 (by decide) ?_
                                                refine lv_ldc2 (v := (5)) X.1 X.2.1 X.2.2.2.1 (X.2.2.1 _ cl_M_669) d_M_hand_521 ?_
                                                refine r_nv (m_run (As := [.int (iI 0), .long ((5))]) (rest := []) (n := 2) X Y hZ hA hml hl.1 (r_M_numberField l D E h q H.size I255 J255 B255 G255 0 (by decide) (by decide) ((5)) S.1 z257 e257 (by omega) (by omega)) kl_M_numberField ks_M_numberField kx_M_numberField ki_M_numberField ini_M hd_M_numberField ⟨Nat.le_of_ble_eq_true rfl, Nat.le_of_ble_eq_true rfl⟩ rfl (Nat.le_of_ble_eq_true rfl) d_M_hand_524 ⟨Nat.le_refl _, Nat.le_refl _⟩) X Y hA S (by decide) (by decide) (fun u H locs Y S s258 p258 => ?_)
                                                obtain ⟨I258, J258, B258, G258⟩ := u
                                                dsimp only at Y S s258 p258
                                                have f259 : (B258 97 ((8 * z106) + a2).toNat).toInt ≠ 0 := (i97_cg (s258.2.2 97 (by decide)) (i97_cg (s255.2.2 97 (by decide)) (i97_cg (s253.2.2 97 (by decide)) (i97_cg (s248.2.2 97 (by decide)) (i97_cg (s246.2.2 97 (by decide)) (i97_cg (s242.2.2 97 (by decide)) (i97_cg rfl (i97_cg (s239.2.2 97 (by decide)) f228))))))))
                                                obtain ⟨x258, g258_MF⟩ := p258
                                                obtain ⟨z260, e260, l260, u260⟩ := x258
                                                refine lv_aload_n X.1 X.2.1 d_M_hand_527 rfl (lv_at hl 1 rfl) ?_
                                                refine lv_bipush (v := iI 48) X.1 X.2.1 d_M_hand_528 (by decide) ?_
                                                refine lv_ldc (v := (60000)) X.1 X.2.1 X.2.2.2.1 (X.2.2.1 _ cn_M_9) d_M_hand_530 ?_
                                                refine t_eq (y := iI 60000) (by decide) ?_
                                                refine r_nv (m_run (As := [.int (iI 48), .int (iI 60000)]) (rest := []) (n := 2) X Y hZ hA hml hl.1 (r_M_head l D E h q H.size I258 J258 B258 G258 48 (by decide) (by decide) 60000 (by decide) (by decide) S.1 z260 e260 (by omega) (by omega)) kl_M_head ks_M_head kx_M_head ki_M_head ini_M hd_M_head ⟨Nat.le_of_ble_eq_true rfl, Nat.le_of_ble_eq_true rfl⟩ rfl (Nat.le_of_ble_eq_true rfl) d_M_hand_532 ⟨Nat.le_refl _, Nat.le_refl _⟩) X Y hA S (by decide) (by decide) (fun u H locs Y S s261 p261 => ?_)
                                                obtain ⟨I261, J261, B261, G261⟩ := u
                                                dsimp only at Y S s261 p261
                                                have f262 : stT (B261 97) (B261 98) (B261 100) (B261 107) (B261 108) (B261 109) := (stT_cg (s261.2.2 97 (by decide)) (s261.2.2 98 (by decide)) (s261.2.2 100 (by decide)) (s261.2.2 107 (by decide)) (s261.2.2 108 (by decide)) (s261.2.2 109 (by decide)) (stT_cg (s258.2.2 97 (by decide)) (s258.2.2 98 (by decide)) (s258.2.2 100 (by decide)) (s258.2.2 107 (by decide)) (s258.2.2 108 (by decide)) (s258.2.2 109 (by decide)) f256))
                                                obtain ⟨x261, g261_MF⟩ := p261
                                                obtain ⟨z263, e263, l263, u263⟩ := x261
                                                refine lv_aload_n X.1 X.2.1 d_M_hand_535 rfl (lv_at hl 1 rfl) ?_
                                                refine lv_bipush (v := iI 118) X.1 X.2.1 d_M_hand_536 (by decide) ?_
                                                refine lv_ldc (v := (60000)) X.1 X.2.1 X.2.2.2.1 (X.2.2.1 _ cn_M_9) d_M_hand_538 ?_
                                                refine t_eq (y := iI 60000) (by decide) ?_
                                                refine r_nv (m_run (As := [.int (iI 118), .int (iI 60000)]) (rest := []) (n := 2) X Y hZ hA hml hl.1 (r_M_head l D E h q H.size I261 J261 B261 G261 118 (by decide) (by decide) 60000 (by decide) (by decide) S.1 z263 e263 (by omega) (by omega)) kl_M_head ks_M_head kx_M_head ki_M_head ini_M hd_M_head ⟨Nat.le_of_ble_eq_true rfl, Nat.le_of_ble_eq_true rfl⟩ rfl (Nat.le_of_ble_eq_true rfl) d_M_hand_540 ⟨Nat.le_refl _, Nat.le_refl _⟩) X Y hA S (by decide) (by decide) (fun u H locs Y S s264 p264 => ?_)
                                                obtain ⟨I264, J264, B264, G264⟩ := u
                                                dsimp only at Y S s264 p264
                                                have f265 : pG1 I264 := (pG1_cg (s264.2.1 39 (by decide)) (s264.2.1 40 (by decide)) (pG1_cg (s261.2.1 39 (by decide)) (s261.2.1 40 (by decide)) (pG1_cg (s258.2.1 39 (by decide)) (s258.2.1 40 (by decide)) (pG1_cg (s255.2.1 39 (by decide)) (s255.2.1 40 (by decide)) (pG1_cg (s253.2.1 39 (by decide)) (s253.2.1 40 (by decide)) f250)))))
                                                have f266 : pG2 (B264 37) (B264 38) := (pG2_cg (s264.2.2 37 (by decide)) (s264.2.2 38 (by decide)) (pG2_cg (s261.2.2 37 (by decide)) (s261.2.2 38 (by decide)) (pG2_cg (s258.2.2 37 (by decide)) (s258.2.2 38 (by decide)) (pG2_cg (s255.2.2 37 (by decide)) (s255.2.2 38 (by decide)) (pG2_cg (s253.2.2 37 (by decide)) (s253.2.2 38 (by decide)) f251)))))
                                                obtain ⟨x264, g264_MF⟩ := p264
                                                obtain ⟨z267, e267, l267, u267⟩ := x264
                                                refine lv_aload_n X.1 X.2.1 d_M_hand_543 rfl (lv_at hl 1 rfl) ?_
                                                refine r_nv (m_run (As := []) (rest := []) (n := 0) X Y hZ hA hml hl.1 (r_M_written l D E h q H.size I264 J264 B264 G264 S.1 z267 e267 (by omega) (by omega)) kl_M_written ks_M_written kx_M_written ki_M_written ini_M hd_M_written ⟨Nat.le_of_ble_eq_true rfl, Nat.le_of_ble_eq_true rfl⟩ rfl (Nat.le_of_ble_eq_true rfl) d_M_hand_544 ⟨Nat.le_refl _, Nat.le_refl _⟩) X Y hA S (by decide) (by decide) (fun u H locs Y S s268 p268 => ?_)
                                                obtain ⟨I268, J268, B268, G268⟩ := u
                                                dsimp only at Y S s268 p268
                                                have f269 : stT (B268 97) (B268 98) (B268 100) (B268 107) (B268 108) (B268 109) := (stT_cg (s268.2.2 97 (by decide)) (s268.2.2 98 (by decide)) (s268.2.2 100 (by decide)) (s268.2.2 107 (by decide)) (s268.2.2 108 (by decide)) (s268.2.2 109 (by decide)) (stT_cg (s264.2.2 97 (by decide)) (s264.2.2 98 (by decide)) (s264.2.2 100 (by decide)) (s264.2.2 107 (by decide)) (s264.2.2 108 (by decide)) (s264.2.2 109 (by decide)) f262))
                                                have g268_MF := p268
                                                refine lv_aload_n X.1 X.2.1 d_M_hand_547 rfl (lv_at hl 1 rfl) ?_
                                                refine r_geti (k := 3) X Y S (by decide) lk_outMany (gf_outMany _ _ _) rfl rfl d_M_hand_548 (fun z270 e270 l270 u270 => ?_)
                                                exact m_reti hQQ X Y hr hlk ⟨S, z270, rfl, ⟨by omega, by omega, ⟨cn + 16, ((s268.2.1 33 (by decide)).trans ((s264.2.1 33 (by decide)).trans ((s261.2.1 33 (by decide)).trans ((s258.2.1 33 (by decide)).trans ((s255.2.1 33 (by decide)).trans ((s253.2.1 33 (by decide)).trans ((s248.2.1 33 (by decide)).trans ((s246.2.1 33 (by decide)).trans ((s242.2.1 33 (by decide)).trans ((s240.2.1 33 (by decide)).trans (x239_1.trans (congrArg iI (show (cn + 16 : Int) = cn + 16 by omega))))))))))))), by omega, by omega⟩, (pG1_cg (s268.2.1 39 (by decide)) (s268.2.1 40 (by decide)) f265), (pG2_cg (s268.2.2 37 (by decide)) (s268.2.2 38 (by decide)) f266)⟩⟩ d_M_hand_551
                                            · refine lv_aload_n X.1 X.2.1 d_M_hand_409 rfl (lv_at hl 0 rfl) ?_
                                              refine m_get X Y 58 (by decide) lk_key (gf_key _ _ _) rfl d_M_hand_410 ?_
                                              refine lv_iload X.1 X.2.1 d_M_hand_413 (lv_at hl 3 rfl) ?_
                                              refine lv_aload_n X.1 X.2.1 d_M_hand_415 rfl (lv_at hl 0 rfl) ?_
                                              refine m_get X Y 136 (by decide) lk_sessionKeys (gf_sessionKeys _ _ _) rfl d_M_hand_416 ?_
                                              refine lv_bipush (v := iI 32) X.1 X.2.1 d_M_hand_419 (by decide) ?_
                                              refine lv_iload_n X.1 X.2.1 d_M_hand_421 rfl (lv_at hl 1 rfl) ?_
                                              refine z_imul X.1 X.2.1 d_M_hand_422 ?_
                                              refine lv_iload X.1 X.2.1 d_M_hand_423 (lv_at hl 3 rfl) ?_
                                              refine z_iadd X.1 X.2.1 d_M_hand_425 ?_
                                              refine r_bald X Y S (aw_sessionKeys _ _ _ _ _ _ _) rfl (by omega) (show (32 * a1) + z226 < ((256 : Nat) : Int) by omega) (by omega) d_M_hand_426 (fun z271 q271 l271 u271 => ?_)
                                              refine r_bast X Y S (aw_key _ _ _ _ _ _ _) (sw_key _ _ _ _ _ _ _) rfl (by omega) (show z226 < ((32 : Nat) : Int) by omega) (by omega) (by decide) d_M_hand_427 (fun B272 H locs Y S w272 => ?_)
                                              refine lv_iinc (v := iI (z226 + 1)) (lv' := [(6, .int (iI (z226 + 1))), (0, .ref h), (1, .int (iI a1)), (4, .int (iI ((8 * z106) + a2)))]) X.1 X.2.1 d_M_hand_428 hl (k := 3) rfl ((iI_add _ _).trans (congrArg iI (by omega))) (by decide) rfl (fun ls hl => ?_)
                                              refine lv_goto (tgt := 402) X.1 X.2.1 d_M_hand_431 (by decide) ?_
                                              exact ih234 ((32 - (z226 + 1)).toNat) (by omega) (z226 + 1) I225 J225 B272 G225 _ _ _ rfl (by omega) (by omega) (stT_cg (w272.2 97 (by decide)) (w272.2 98 (by decide)) (w272.2 100 (by decide)) (w272.2 107 (by decide)) (w272.2 108 (by decide)) (w272.2 109 (by decide)) f227) (i97_cg (w272.2 97 (by decide)) f228) (pG1_cg rfl rfl f229) (pG2_cg (w272.2 37 (by decide)) (w272.2 38 (by decide)) f230) e231 e232 Y S (lv_sub hl [1, 2, 3, 0] rfl)
                                      refine lv_istore (lv' := [(6, .int (iI 0)), (0, .ref h), (1, .int (iI a1)), (4, .int (iI ((8 * z106) + a2))), (5, .int (iI z135))]) X.1 X.2.1 d_M_hand_400 hl (by decide) rfl (fun ls hl => ?_)
                                      exact J233 _ 0 I222 J222 B222 G222 _ _ _ rfl (by omega) (by omega) f223 (i97_cg (s222.2.2 97 (by decide)) (i97_cg (s218.2.2 97 (by decide)) (i97_cg (s215.2.2 97 (by decide)) (i97_cg (s213.2.2 97 (by decide)) (i97_cg (s210.2.2 97 (by decide)) (i97_cg (s208.2.2 97 (by decide)) f197)))))) (pG1_cg (s222.2.1 39 (by decide)) (s222.2.1 40 (by decide)) f219) (pG2_cg (s222.2.2 37 (by decide)) (s222.2.2 38 (by decide)) f220) e224 ((s222.2.1 33 (by decide)).trans ((s218.2.1 33 (by decide)).trans ((s215.2.1 33 (by decide)).trans ((s213.2.1 33 (by decide)).trans ((s210.2.1 33 (by decide)).trans ((s208.2.1 33 (by decide)).trans e201)))))) Y S (lv_sub hl [1, 2, 3, 0] rfl)
                                  · refine lv_aload_n X.1 X.2.1 d_M_hand_318 rfl (lv_at hl 0 rfl) ?_
                                    refine m_get X Y 59 (by decide) lk_sub (gf_sub _ _ _) rfl d_M_hand_319 ?_
                                    refine lv_iload X.1 X.2.1 d_M_hand_322 (lv_at hl 4 rfl) ?_
                                    refine lv_aload_n X.1 X.2.1 d_M_hand_324 rfl (lv_at hl 0 rfl) ?_
                                    refine m_get X Y 99 (by decide) lk_ticketKeys (gf_ticketKeys _ _ _) rfl d_M_hand_325 ?_
                                    refine lv_bipush (v := iI 32) X.1 X.2.1 d_M_hand_328 (by decide) ?_
                                    refine lv_iload X.1 X.2.1 d_M_hand_330 (lv_at hl 2 rfl) ?_
                                    refine z_imul X.1 X.2.1 d_M_hand_332 ?_
                                    refine lv_iload X.1 X.2.1 d_M_hand_333 (lv_at hl 4 rfl) ?_
                                    refine z_iadd X.1 X.2.1 d_M_hand_335 ?_
                                    refine r_bald X Y S (aw_ticketKeys _ _ _ _ _ _ _) rfl (by omega) (show (32 * ((8 * z106) + a2)) + z195 < ((1024 : Nat) : Int) by omega) (by omega) d_M_hand_336 (fun z273 q273 l273 u273 => ?_)
                                    refine r_bast X Y S (aw_sub _ _ _ _ _ _ _) (sw_sub _ _ _ _ _ _ _) rfl (by omega) (show z195 < ((32 : Nat) : Int) by omega) (by omega) (by decide) d_M_hand_337 (fun B274 H locs Y S w274 => ?_)
                                    refine lv_iinc (v := iI (z195 + 1)) (lv' := [(6, .int (iI (z195 + 1))), (0, .ref h), (1, .int (iI a1)), (4, .int (iI ((8 * z106) + a2))), (5, .int (iI z135))]) X.1 X.2.1 d_M_hand_338 hl (k := 4) rfl ((iI_add _ _).trans (congrArg iI (by omega))) (by decide) rfl (fun ls hl => ?_)
                                    refine lv_goto (tgt := 311) X.1 X.2.1 d_M_hand_341 (by decide) ?_
                                    exact ih203 ((32 - (z195 + 1)).toNat) (by omega) (z195 + 1) I194 J194 B274 G194 _ _ _ rfl (by omega) (by omega) (stT_cg (w274.2 97 (by decide)) (w274.2 98 (by decide)) (w274.2 100 (by decide)) (w274.2 107 (by decide)) (w274.2 108 (by decide)) (w274.2 109 (by decide)) f196) (i97_cg (w274.2 97 (by decide)) f197) (pG1_cg rfl rfl f198) (pG2_cg (w274.2 37 (by decide)) (w274.2 38 (by decide)) f199) e200 e201 Y S (lv_sub hl [1, 2, 3, 4, 0] rfl)
                            refine lv_istore (lv' := [(6, .int (iI 0)), (0, .ref h), (1, .int (iI a1)), (4, .int (iI ((8 * z106) + a2))), (5, .int (iI z135))]) X.1 X.2.1 d_M_hand_309 hl (by decide) rfl (fun ls hl => ?_)
                            exact J202 _ 0 I191 J191 B191 G191 _ _ _ rfl (by omega) (by omega) f192 (i97_cg (s191.2.2 97 (by decide)) (i97_cg (s189.2.2 97 (by decide)) (i97_cg (s184.2.2 97 (by decide)) (i97_cg (s181.2.2 97 (by decide)) f169)))) (pG1_cg (s191.2.1 39 (by decide)) (s191.2.1 40 (by decide)) (pG1_cg (s189.2.1 39 (by decide)) (s189.2.1 40 (by decide)) (pG1_cg (s184.2.1 39 (by decide)) (s184.2.1 40 (by decide)) (pG1_cg (s181.2.1 39 (by decide)) (s181.2.1 40 (by decide)) f170)))) (pG2_cg (s191.2.2 37 (by decide)) (s191.2.2 38 (by decide)) (pG2_cg (s189.2.2 37 (by decide)) (s189.2.2 38 (by decide)) (pG2_cg (s184.2.2 37 (by decide)) (s184.2.2 38 (by decide)) (pG2_cg (s181.2.2 37 (by decide)) (s181.2.2 38 (by decide)) f171)))) e193 ((s191.2.1 33 (by decide)).trans ((s189.2.1 33 (by decide)).trans ((s184.2.1 33 (by decide)).trans ((s181.2.1 33 (by decide)).trans e172)))) Y S (lv_sub hl [1, 2, 3, 4, 0] rfl)
                        refine z_if_lt (tgt := 246) X.1 X.2.1 d_M_hand_231 (by decide) ⟨by omega, by omega⟩ (fun h275 => ?_) (fun h275 => ?_)
                        · exact J176 z164 I163 J163 B163 G163 _ _ _ (stT_cg (s163.2.2 97 (by decide)) (s163.2.2 98 (by decide)) (s163.2.2 100 (by decide)) (s163.2.2 107 (by decide)) (s163.2.2 108 (by decide)) (s163.2.2 109 (by decide)) f150) (i97_cg (s163.2.2 97 (by decide)) f151) (pG1_cg (s163.2.1 39 (by decide)) (s163.2.1 40 (by decide)) f152) (pG2_cg (s163.2.2 37 (by decide)) (s163.2.2 38 (by decide)) f153) ((s163.2.1 33 (by decide)).trans e154) e164 (by omega) (by omega) (by omega) (by omega) Y S (lv_sub hl [0, 1, 2, 3] rfl)
                        · refine lv_aload_n X.1 X.2.1 d_M_hand_234 rfl (lv_at hl 0 rfl) ?_
                          refine lv_iconst (v := iI 5) X.1 X.2.1 d_M_hand_235 (by decide) ?_
                          refine lv_aload_n X.1 X.2.1 d_M_hand_236 rfl (lv_at hl 0 rfl) ?_
                          refine m_get X Y 104 (by decide) lk_startTimes (gf_startTimes _ _ _) rfl d_M_hand_237 ?_
                          refine lv_iload X.1 X.2.1 d_M_hand_240 (lv_at hl 2 rfl) ?_
                          refine r_lald X Y (aw_startTimes _ _ _ _ _ _ _) (by omega) (show (8 * z106) + a2 < ((32 : Nat) : Int) by omega) (by omega) d_M_hand_242 (fun v276 => ?_)
                          refine r_nv (m_run (As := [.int (iI 5), .long v276]) (rest := []) (n := 2) X Y hZ hA hml hl.1 (r_M_timeField l D E h q H.size I163 J163 B163 G163 5 (by decide) (by decide) v276 S.1 z164 e164 (by omega) (by omega)) kl_M_timeField ks_M_timeField kx_M_timeField ki_M_timeField ini_M hd_M_timeField ⟨Nat.le_of_ble_eq_true rfl, Nat.le_of_ble_eq_true rfl⟩ rfl (Nat.le_of_ble_eq_true rfl) d_M_hand_243 ⟨Nat.le_refl _, Nat.le_refl _⟩) X Y hA S (by decide) (by decide) (fun u H locs Y S s277 p277 => ?_)
                          obtain ⟨I277, J277, B277, G277⟩ := u
                          dsimp only at Y S s277 p277
                          have f278 : stT (B277 97) (B277 98) (B277 100) (B277 107) (B277 108) (B277 109) := (stT_cg (s277.2.2 97 (by decide)) (s277.2.2 98 (by decide)) (s277.2.2 100 (by decide)) (s277.2.2 107 (by decide)) (s277.2.2 108 (by decide)) (s277.2.2 109 (by decide)) (stT_cg (s163.2.2 97 (by decide)) (s163.2.2 98 (by decide)) (s163.2.2 100 (by decide)) (s163.2.2 107 (by decide)) (s163.2.2 108 (by decide)) (s163.2.2 109 (by decide)) f150))
                          obtain ⟨x277, g277_MF⟩ := p277
                          obtain ⟨z279, e279, l279, u279⟩ := x277
                          exact J176 z279 I277 J277 B277 G277 _ _ _ f278 (i97_cg (s277.2.2 97 (by decide)) (i97_cg (s163.2.2 97 (by decide)) f151)) (pG1_cg (s277.2.1 39 (by decide)) (s277.2.1 40 (by decide)) (pG1_cg (s163.2.1 39 (by decide)) (s163.2.1 40 (by decide)) f152)) (pG2_cg (s277.2.2 37 (by decide)) (s277.2.2 38 (by decide)) (pG2_cg (s163.2.2 37 (by decide)) (s163.2.2 38 (by decide)) f153)) ((s277.2.1 33 (by decide)).trans ((s163.2.1 33 (by decide)).trans e154)) e279 (by omega) (by omega) (by omega) (by omega) Y S (lv_sub hl [0, 1, 2, 3] rfl)
                    refine z_if_lt (tgt := 209) X.1 X.2.1 d_M_hand_193 (by decide) ⟨by omega, by omega⟩ (fun h280 => ?_) (fun h280 => ?_)
                    · exact J158 z146 I144 J144 B144 G144 _ _ _ f145 (i97_cg (s144.2.2 97 (by decide)) (i97_cg (s140.2.2 97 (by decide)) (i97_cg rfl (i97_cg rfl (i97_cg (s134.2.2 97 (by decide)) (i97_cg rfl (i97_cg (s130.2.2 97 (by decide)) (i97_cg rfl (i97_cg (s128.2.2 97 (by decide)) (i97_cg rfl f112)))))))))) (pG1_cg (s144.2.1 39 (by decide)) (s144.2.1 40 (by decide)) f141) (pG2_cg (s144.2.2 37 (by decide)) (s144.2.2 38 (by decide)) f142) ((s144.2.1 33 (by decide)).trans ((s140.2.1 33 (by decide)).trans ((s134.2.1 33 (by decide)).trans ((s130.2.1 33 (by decide)).trans ((s129.2.1 33 (by decide)).trans ((s128.2.1 33 (by decide)).trans ((s125.2.1 33 (by decide)).trans e115))))))) e146 (by omega) (by omega) (by omega) (by omega) Y S (lv_sub hl [1, 2, 4, 0] rfl)
                    · refine lv_aload_n X.1 X.2.1 d_M_hand_196 rfl (lv_at hl 1 rfl) ?_
                      refine lv_bipush (v := iI 7) X.1 X.2.1 d_M_hand_197 (by decide) ?_
                      refine lv_aload_n X.1 X.2.1 d_M_hand_199 rfl (lv_at hl 1 rfl) ?_
                      refine m_get X Y 106 (by decide) lk_renewTimes (gf_renewTimes _ _ _) rfl d_M_hand_200 ?_
                      refine lv_iload X.1 X.2.1 d_M_hand_203 (lv_at hl 4 rfl) ?_
                      refine r_lald X Y (aw_renewTimes _ _ _ _ _ _ _) (by omega) (show (8 * z106) + a2 < ((32 : Nat) : Int) by omega) (by omega) d_M_hand_205 (fun v281 => ?_)
                      refine r_nv (m_run (As := [.int (iI 7), .long v281]) (rest := []) (n := 2) X Y hZ hA hml hl.1 (r_M_timeField l D E h q H.size I144 J144 B144 G144 7 (by decide) (by decide) v281 S.1 z146 e146 (by omega) (by omega)) kl_M_timeField ks_M_timeField kx_M_timeField ki_M_timeField ini_M hd_M_timeField ⟨Nat.le_of_ble_eq_true rfl, Nat.le_of_ble_eq_true rfl⟩ rfl (Nat.le_of_ble_eq_true rfl) d_M_hand_206 ⟨Nat.le_refl _, Nat.le_refl _⟩) X Y hA S (by decide) (by decide) (fun u H locs Y S s282 p282 => ?_)
                      obtain ⟨I282, J282, B282, G282⟩ := u
                      dsimp only at Y S s282 p282
                      have f283 : (B282 97 ((8 * z106) + a2).toNat).toInt ≠ 0 := (i97_cg (s282.2.2 97 (by decide)) (i97_cg (s144.2.2 97 (by decide)) (i97_cg (s140.2.2 97 (by decide)) (i97_cg rfl (i97_cg rfl (i97_cg (s134.2.2 97 (by decide)) (i97_cg rfl (i97_cg (s130.2.2 97 (by decide)) (i97_cg rfl (i97_cg (s128.2.2 97 (by decide)) (i97_cg rfl f112)))))))))))
                      obtain ⟨x282, g282_MF⟩ := p282
                      obtain ⟨z284, e284, l284, u284⟩ := x282
                      exact J158 z284 I282 J282 B282 G282 _ _ _ (stT_cg (s282.2.2 97 (by decide)) (s282.2.2 98 (by decide)) (s282.2.2 100 (by decide)) (s282.2.2 107 (by decide)) (s282.2.2 108 (by decide)) (s282.2.2 109 (by decide)) f145) f283 (pG1_cg (s282.2.1 39 (by decide)) (s282.2.1 40 (by decide)) (pG1_cg (s144.2.1 39 (by decide)) (s144.2.1 40 (by decide)) f141)) (pG2_cg (s282.2.2 37 (by decide)) (s282.2.2 38 (by decide)) (pG2_cg (s144.2.2 37 (by decide)) (s144.2.2 38 (by decide)) f142)) ((s282.2.1 33 (by decide)).trans ((s144.2.1 33 (by decide)).trans ((s140.2.1 33 (by decide)).trans ((s134.2.1 33 (by decide)).trans ((s130.2.1 33 (by decide)).trans ((s129.2.1 33 (by decide)).trans ((s128.2.1 33 (by decide)).trans ((s125.2.1 33 (by decide)).trans e115)))))))) e284 (by omega) (by omega) (by omega) (by omega) Y S (lv_sub hl [1, 2, 4, 0] rfl)
                · refine lv_aload_n X.1 X.2.1 d_M_hand_55 rfl (lv_at hl 0 rfl) ?_
                  refine m_get X Y 0 (by decide) lk_mem (gf_mem _ _ _) rfl d_M_hand_56 ?_
                  refine lv_sipush (v := iI 22200) X.1 X.2.1 d_M_hand_59 (by decide) ?_
                  refine lv_iload X.1 X.2.1 d_M_hand_62 (lv_at hl 4 rfl) ?_
                  refine z_iadd X.1 X.2.1 d_M_hand_64 ?_
                  refine lv_aload_n X.1 X.2.1 d_M_hand_65 rfl (lv_at hl 0 rfl) ?_
                  refine m_get X Y 98 (by decide) lk_ticketBytes (gf_ticketBytes _ _ _) rfl d_M_hand_66 ?_
                  refine lv_sipush (v := iI 4200) X.1 X.2.1 d_M_hand_69 (by decide) ?_
                  refine lv_iload X.1 X.2.1 d_M_hand_72 (lv_at hl 3 rfl) ?_
                  refine z_imul X.1 X.2.1 d_M_hand_74 ?_
                  refine lv_iload X.1 X.2.1 d_M_hand_75 (lv_at hl 4 rfl) ?_
                  refine z_iadd X.1 X.2.1 d_M_hand_77 ?_
                  refine r_bald X Y S (aw_ticketBytes _ _ _ _ _ _ _) rfl (by omega) (show (4200 * ((8 * z106) + a2)) + z110 < ((134400 : Nat) : Int) by omega) (by omega) d_M_hand_78 (fun z285 q285 l285 u285 => ?_)
                  refine r_bast X Y S (aw_mem _ _ _ _ _ _ _) (sw_mem _ _ _ _ _ _ _) rfl (by omega) (show 22200 + z110 < ((60000 : Nat) : Int) by omega) (by omega) (by decide) d_M_hand_79 (fun B286 H locs Y S w286 => ?_)
                  refine lv_iinc (v := iI (z110 + 1)) (lv' := [(5, .int (iI (z110 + 1))), (0, .ref h), (1, .int (iI a1)), (3, .int (iI z106)), (4, .int (iI ((8 * z106) + a2)))]) X.1 X.2.1 d_M_hand_80 hl (k := 4) rfl ((iI_add _ _).trans (congrArg iI (by omega))) (by decide) rfl (fun ls hl => ?_)
                  refine lv_goto (tgt := 43) X.1 X.2.1 d_M_hand_83 (by decide) ?_
                  exact ih119 ((4200 - (z110 + 1)).toNat) (by omega) (z110 + 1) I109 J109 B286 G109 _ _ _ rfl (by omega) (by omega) (stT_cg (w286.2 97 (by decide)) (w286.2 98 (by decide)) (w286.2 100 (by decide)) (w286.2 107 (by decide)) (w286.2 108 (by decide)) (w286.2 109 (by decide)) f111) (i97_cg (w286.2 97 (by decide)) f112) (pG1_cg rfl rfl f113) (pG2_cg (w286.2 37 (by decide)) (w286.2 38 (by decide)) f114) e115 (cpy_go (by omega) (by omega) (by decide) w286 (show 22200 + z110 = _ by omega) q285 (show (4200 * ((8 * z106) + a2)) + z110 = _ by omega) (by omega) (by omega) i116) (by rw [w286.2 100 (by decide)]; omega) Y S (lv_sub hl [1, 2, 3, 4, 0] rfl)
          refine lv_istore (lv' := [(5, .int (iI 0)), (4, .int (iI ((8 * z106) + a2))), (3, .int (iI z106)), (0, .ref h), (1, .int (iI a1)), (2, .int (iI a2))]) X.1 X.2.1 d_M_hand_41 hl (by decide) rfl (fun ls hl => ?_)
          exact J118 _ 0 I J104 B G104 _ _ _ rfl (by omega) (by omega) (stT_cg rfl rfl rfl rfl rfl rfl (stT_cg rfl rfl rfl rfl rfl rfl f_FT)) f108 (pG1_cg rfl rfl (pG1_cg rfl rfl f_P1)) (pG2_cg rfl rfl (pG2_cg rfl rfl f_P2)) gcn (cpy_0 rfl) (by omega) Y S (lv_sub hl [3, 4, 2, 1, 0] rfl)
      · refine lv_iconst (v := iI (-1)) X.1 X.2.1 d_M_hand_23 (by decide) ?_
        exact m_reti hQQ X Y hr hlk ⟨S, (-1), rfl, ⟨by omega, by omega, ⟨cn, gcn, by omega, by omega⟩, (pG1_cg rfl rfl (pG1_cg rfl rfl f_P1)), (pG2_cg rfl rfl (pG2_cg rfl rfl f_P2))⟩⟩ d_M_hand_24
