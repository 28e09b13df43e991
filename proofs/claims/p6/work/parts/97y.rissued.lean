set_option maxHeartbeats 4000000 in
set_option maxRecDepth 100000 in
theorem r_M_issued (l : Launch) (D : mD) (E : mE) (h : Nat) (q : Nat → Nat) (sz : Nat) (I : Nat → Int32) (J : Nat → Int64) (B : Nat → Nat → Int32) (G : Nat → Nat → Int64) (hT : rT I B) (cl : Int) (gcl : I 75 = iI cl) (lcl : 0 ≤ cl) (ucl : cl ≤ 11) (sv : Int) (gsv : I 76 = iI sv) (lsv : 0 ≤ sv) (usv : sv ≤ 11) (ty : Int) (gty : I 77 = iI ty) (lty : 17 ≤ ty) (uty : ty ≤ 18) (cn : Int) (gcn : I 33 = iI cn) (lcn : 0 ≤ cn) (ucn : cn ≤ 1900000) (ia : Int) (gia : I 69 = iI ia) (lia : 0 ≤ ia) (uia : ia ≤ 1) (f_P1 : pG1 I) (f_P2 : pG2 (B 37) (B 38)) (f_S1 : sz3 (16 * 1 + 1 : Int).toNat (16 * 1 + 3 : Int).toNat (16 * 1 + 9 : Int).toNat (B 37) (B 38)) (f_S4 : s4 (I 69) (B 37) (B 38)) : Met l y_M_issued (k_M_issued :: lw_tg) (mR 45 2046) (va_Pc [.ref h] (mPre D E h q (I, J, B, G) sz)) (va_Qi (rPi [3, 8, 14, 18, 29, 33, 36, 39, 40, 42, 80, 81, 84, 85, 86, 87, 88, 89] [0, 1, 5, 6, 7, 9, 10, 11, 12, 13, 15, 16, 17, 19, 20, 21, 22, 23, 24, 34, 35, 37, 38, 56, 59, 60, 90] I B (fun (z : Int) (u : mS) => 0 ≤ z ∧ z ≤ 60 ∧ (∃ V2 : Int, u.1 33 = iI V2 ∧ cn ≤ V2 ∧ V2 ≤ cn + 900) ∧ pG1 u.1 ∧ pG2 (u.2.2.1 37) (u.2.2.1 38) ∧ thF [7] (B 37) (B 38) (u.2.2.1 37) (u.2.2.1 38))) (mPost D E h q (mA E h q sz)) (mA E h q sz)) 0 0 (mA E h q sz) := by
  refine m_enter (by decide) rfl (Nat.le_of_ble_eq_true rfl) (fun p e s m below meth c ls AV QQ H locs hQQ X Y hZ hA hr hlk hml hl => ?_)
  have Y : mH D E (mA E h q sz) s.heap h q I J B G H locs := Y
  have S : rS [3, 8, 14, 18, 29, 33, 36, 39, 40, 42, 80, 81, 84, 85, 86, 87, 88, 89] [0, 1, 5, 6, 7, 9, 10, 11, 12, 13, 15, 16, 17, 19, 20, 21, 22, 23, 24, 34, 35, 37, 38, 56, 59, 60, 90] I B I B := rS_rf hT
  have hl : lv_has ls 15 [(0, .ref h)] := hl
  obtain ⟨rr, f_RR⟩ := rr_ex gia (by omega) (by omega) f_P2
  obtain ⟨ss, f_SS⟩ : ∃ ss : Int, ssP ss (B 37) (B 38) := ⟨_, rfl⟩
  have rr9 := f_RR.2
  have sp := f_P2 (16 * 1 + 3 : Int).toNat (by decide)
  have s9 : ss = _ := f_SS
  unfold pr at sp
  refine lv_aload_n X.1 X.2.1 d_M_issued_0 rfl (lv_at hl 0 rfl) ?_
  refine lv_iconst (v := iI 1) X.1 X.2.1 d_M_issued_1 (by decide) ?_
  refine lv_iconst (v := iI 0) X.1 X.2.1 d_M_issued_2 (by decide) ?_
  refine r_ni (m_run (As := [.int (iI 1), .int (iI 0)]) (rest := []) (n := 2) X Y hZ hA hml hl.1 (r_M_flagsAt l D E h q H.size I J B G 1 (by decide) (by decide) 0 (by decide) (by decide) S.1 f_P1 f_P2) kl_M_flagsAt ks_M_flagsAt kx_M_flagsAt ki_M_flagsAt ini_M hd_M_flagsAt ⟨Nat.le_of_ble_eq_true rfl, Nat.le_of_ble_eq_true rfl⟩ rfl (Nat.le_of_ble_eq_true rfl) d_M_issued_3 ⟨Nat.le_refl _, Nat.le_refl _⟩) X Y hA S (by decide) (by decide) (fun z101 u H locs Y S s101 p101 => ?_)
  obtain ⟨I101, J101, B101, G101⟩ := u
  dsimp only at Y S s101 p101
  have b101 : B = B101 := (funext (fun j => s101.2.2 j (by simp))).symm
  subst b101
  obtain ⟨l101, u101, g101_P1⟩ := p101
  refine lv_istore_n (lv' := [(1, .int (iI z101)), (0, .ref h)]) X.1 X.2.1 d_M_issued_6 rfl hl (by decide) rfl (fun ls hl => ?_)
  refine lv_aload_n X.1 X.2.1 d_M_issued_7 rfl (lv_at hl 1 rfl) ?_
  refine r_get0 X Y (by decide) lk_isAs (gf_isAs _ _ _) rfl ((s101.2.1 69 (by decide)).trans gia) d_M_issued_8 ?_
  have J116 : ∀ (z103 : Int) (I102 : Nat → Int32) (J102 : Nat → Int64) (B102 : Nat → Nat → Int32) (G102 : Nat → Nat → Int64) (H : Heap) (locs : List Loc) (ls : Array Slot), (0 ≤ z103) → (z103 ≤ 1) → (pG1 I102) → (pG2 (B102 37) (B102 38)) → (rrP rr (I102 69) (B102 37) (B102 38)) → (sz3 (16 * 1 + 1 : Int).toNat (16 * 1 + 3 : Int).toNat (16 * 1 + 9 : Int).toNat (B102 37) (B102 38)) → (s4 (I102 69) (B102 37) (B102 38)) → (ssP ss (B102 37) (B102 38)) → (thF [7] (B 37) (B 38) (B102 37) (B102 38)) → (I102 69 = iI ia) → (I102 77 = iI ty) → (I102 75 = iI cl) → (I102 76 = iI sv) → (I102 33 = iI cn) → mH D E (mA E h q sz) s.heap h q I102 J102 B102 G102 H locs → rS [3, 8, 14, 18, 29, 33, 36, 39, 40, 42, 80, 81, 84, 85, 86, 87, 88, 89] [0, 1, 5, 6, 7, 9, 10, 11, 12, 13, 15, 16, 17, 19, 20, 21, 22, 23, 24, 34, 35, 37, 38, 56, 59, 60, 90] I B I102 B102 → lv_has ls 15 [(0, .ref h), (1, .int (iI z101))] → W p l e (mR 45 2046) s m AV below meth c H locs 0 0 QQ (F0 m 29 ls [.int (iI z103)]) := by
    intro z103 I102 J102 B102 G102 H locs ls l103 u103 f104 f105 f106 f107 f108 f109 f110 e111 e112 e113 e114 e115 Y S hl
    refine lv_istore_n (lv' := [(2, .int (iI z103)), (0, .ref h), (1, .int (iI z101))]) X.1 X.2.1 d_M_issued_29 rfl hl (by decide) rfl (fun ls hl => ?_)
    refine lv_aload_n X.1 X.2.1 d_M_issued_30 rfl (lv_at hl 1 rfl) ?_
    refine m_get X Y 48 (by decide) lk_lifes (gf_lifes _ _ _) rfl d_M_issued_31 ?_
    refine lv_aload_n X.1 X.2.1 d_M_issued_34 rfl (lv_at hl 1 rfl) ?_
    refine r_get0 X Y (by decide) lk_client (gf_client _ _ _) rfl e113 d_M_issued_35 ?_
    refine r_iald X Y S (aw_lifes _ _ _ _ _ _ _) rfl (by omega) (show cl < ((12 : Nat) : Int) by omega) (by omega) d_M_issued_38 (fun z120 q120 l120 u120 => ?_)
    refine lv_i2l X.1 X.2.1 d_M_issued_39 rfl ?_
    refine t_anyl (fun v121 => ?_)
    refine lv_aload_n X.1 X.2.1 d_M_issued_40 rfl (lv_at hl 1 rfl) ?_
    refine m_get X Y 48 (by decide) lk_lifes (gf_lifes _ _ _) rfl d_M_issued_41 ?_
    refine lv_aload_n X.1 X.2.1 d_M_issued_44 rfl (lv_at hl 1 rfl) ?_
    refine r_get0 X Y (by decide) lk_service (gf_service _ _ _) rfl e114 d_M_issued_45 ?_
    refine r_iald X Y S (aw_lifes _ _ _ _ _ _ _) rfl (by omega) (show sv < ((12 : Nat) : Int) by omega) (by omega) d_M_issued_48 (fun z122 q122 l122 u122 => ?_)
    refine lv_i2l X.1 X.2.1 d_M_issued_49 rfl ?_
    refine t_anyl (fun v123 => ?_)
    refine p_calll (As := [.long v121, .long v123]) (rest := []) (n := 2) X Y hml hl.1 (r_M_lesser l v121 v123) kl_M_lesser ks_M_lesser ki_M_lesser ini_M hd_M_lesser ⟨Nat.le_of_ble_eq_true rfl, Nat.le_of_ble_eq_true rfl⟩ rfl (Nat.le_of_ble_eq_true rfl) d_M_issued_50 ⟨Nat.le_refl _, Nat.le_refl _⟩ (fun v124 H locs p124 Y => ?_)
    refine lv_lstore_n (lv' := [(3, .long v124), (2, .int (iI z103)), (0, .ref h), (1, .int (iI z101))]) X.1 X.2.1 d_M_issued_53 rfl hl (by decide) rfl (fun ls hl => ?_)
    refine lv_aload_n X.1 X.2.1 d_M_issued_54 rfl (lv_at hl 2 rfl) ?_
    refine m_get X Y 49 (by decide) lk_renews (gf_renews _ _ _) rfl d_M_issued_55 ?_
    refine lv_aload_n X.1 X.2.1 d_M_issued_58 rfl (lv_at hl 2 rfl) ?_
    refine r_get0 X Y (by decide) lk_client (gf_client _ _ _) rfl e113 d_M_issued_59 ?_
    refine r_iald X Y S (aw_renews _ _ _ _ _ _ _) rfl (by omega) (show cl < ((12 : Nat) : Int) by omega) (by omega) d_M_issued_62 (fun z125 q125 l125 u125 => ?_)
    refine lv_i2l X.1 X.2.1 d_M_issued_63 rfl ?_
    refine t_anyl (fun v126 => ?_)
    refine lv_aload_n X.1 X.2.1 d_M_issued_64 rfl (lv_at hl 2 rfl) ?_
    refine m_get X Y 49 (by decide) lk_renews (gf_renews _ _ _) rfl d_M_issued_65 ?_
    refine lv_aload_n X.1 X.2.1 d_M_issued_68 rfl (lv_at hl 2 rfl) ?_
    refine r_get0 X Y (by decide) lk_service (gf_service _ _ _) rfl e114 d_M_issued_69 ?_
    refine r_iald X Y S (aw_renews _ _ _ _ _ _ _) rfl (by omega) (show sv < ((12 : Nat) : Int) by omega) (by omega) d_M_issued_72 (fun z127 q127 l127 u127 => ?_)
    refine lv_i2l X.1 X.2.1 d_M_issued_73 rfl ?_
    refine t_anyl (fun v128 => ?_)
    refine p_calll (As := [.long v126, .long v128]) (rest := []) (n := 2) X Y hml hl.1 (r_M_lesser l v126 v128) kl_M_lesser ks_M_lesser ki_M_lesser ini_M hd_M_lesser ⟨Nat.le_of_ble_eq_true rfl, Nat.le_of_ble_eq_true rfl⟩ rfl (Nat.le_of_ble_eq_true rfl) d_M_issued_74 ⟨Nat.le_refl _, Nat.le_refl _⟩ (fun v129 H locs p129 Y => ?_)
    refine lv_lstore (lv' := [(5, .long v129), (3, .long v124), (2, .int (iI z103)), (0, .ref h), (1, .int (iI z101))]) X.1 X.2.1 d_M_issued_77 hl (by decide) rfl (fun ls hl => ?_)
    refine lv_aload_n X.1 X.2.1 d_M_issued_79 rfl (lv_at hl 3 rfl) ?_
    refine lv_iconst (v := iI 1) X.1 X.2.1 d_M_issued_80 (by decide) ?_
    refine lv_iconst (v := iI 5) X.1 X.2.1 d_M_issued_81 (by decide) ?_
    refine r_nl (m_run (As := [.int (iI 1), .int (iI 5)]) (rest := []) (n := 2) X Y hZ hA hml hl.1 (r_M_timeOf l D E h q H.size I102 J102 B102 G102 1 (by decide) (by decide) 5 (by decide) (by decide) S.1 f104 f105) kl_M_timeOf ks_M_timeOf kx_M_timeOf ki_M_timeOf ini_M hd_M_timeOf ⟨Nat.le_of_ble_eq_true rfl, Nat.le_of_ble_eq_true rfl⟩ rfl (Nat.le_of_ble_eq_true rfl) d_M_issued_82 ⟨Nat.le_refl _, Nat.le_refl _⟩) X Y hA S (by decide) (by decide) (fun v130 u H locs Y S s130 p130 => ?_)
    obtain ⟨I130, J130, B130, G130⟩ := u
    dsimp only at Y S s130 p130
    have b130 : B102 = B130 := (funext (fun j => s130.2.2 j (by simp))).symm
    subst b130
    have g130_P1 := p130
    refine lv_lstore (lv' := [(7, .long v130), (5, .long v129), (3, .long v124), (2, .int (iI z103)), (0, .ref h), (1, .int (iI z101))]) X.1 X.2.1 d_M_issued_85 hl (by decide) rfl (fun ls hl => ?_)
    refine lv_aload_n X.1 X.2.1 d_M_issued_87 rfl (lv_at hl 4 rfl) ?_
    refine lv_aload_n X.1 X.2.1 d_M_issued_88 rfl (lv_at hl 4 rfl) ?_
    refine r_geti (k := 4) X Y S (by decide) lk_now (gf_now _ _ _) rfl rfl d_M_issued_89 (fun z131 e131 l131 u131 => ?_)
    refine lv_i2l X.1 X.2.1 d_M_issued_92 rfl ?_
    refine t_anyl (fun v132 => ?_)
    refine lv_lload_n X.1 X.2.1 d_M_issued_93 rfl (lv_at hl 2 rfl) ?_
    refine lv_ladd X.1 X.2.1 d_M_issued_94 ?_
    refine t_anyl (fun v133 => ?_)
    refine r_putl X Y (by decide) lk_newEnd rfl rfl (t_M_ok 82 (by decide)) rfl rfl (sf_newEnd _ _ _ _) (Nat.le_of_ble_eq_true rfl) d_M_issued_95 (fun J134 H locs Y => ?_)
    refine lv_lload X.1 X.2.1 d_M_issued_98 (lv_at hl 0 rfl) ?_
    refine lv_lconst (v := 0) X.1 X.2.1 d_M_issued_100 rfl ?_
    refine W.lcmp X.1 X.2.1 d_M_issued_101 ?_
    refine t_u (fun z135 l135 u135 => ?_)
    have J149 : ∀ (I136 : Nat → Int32) (J136 : Nat → Int64) (B136 : Nat → Nat → Int32) (G136 : Nat → Nat → Int64) (H : Heap) (locs : List Loc) (ls : Array Slot), (pG1 I136) → (pG2 (B136 37) (B136 38)) → (rrP rr (I136 69) (B136 37) (B136 38)) → (sz3 (16 * 1 + 1 : Int).toNat (16 * 1 + 3 : Int).toNat (16 * 1 + 9 : Int).toNat (B136 37) (B136 38)) → (s4 (I136 69) (B136 37) (B136 38)) → (ssP ss (B136 37) (B136 38)) → (thF [7] (B 37) (B 38) (B136 37) (B136 38)) → (I136 69 = iI ia) → (I136 77 = iI ty) → (I136 75 = iI cl) → (I136 76 = iI sv) → (I136 33 = iI cn) → mH D E (mA E h q sz) s.heap h q I136 J136 B136 G136 H locs → rS [3, 8, 14, 18, 29, 33, 36, 39, 40, 42, 80, 81, 84, 85, 86, 87, 88, 89] [0, 1, 5, 6, 7, 9, 10, 11, 12, 13, 15, 16, 17, 19, 20, 21, 22, 23, 24, 34, 35, 37, 38, 56, 59, 60, 90] I B I136 B136 → lv_has ls 15 [(0, .ref h), (1, .int (iI z101)), (2, .int (iI z103)), (5, .long v129), (7, .long v130)] → W p l e (mR 45 2046) s m AV below meth c H locs 0 0 QQ (F0 m 118 ls []) := by
      intro I136 J136 B136 G136 H locs ls f137 f138 f139 f140 f141 f142 f143 e144 e145 e146 e147 e148 Y S hl
      refine lv_aload_n X.1 X.2.1 d_M_issued_118 rfl (lv_at hl 0 rfl) ?_
      refine r_get0 X Y (by decide) lk_isAs (gf_isAs _ _ _) rfl e144 d_M_issued_119 ?_
      have J166 : ∀ (I153 : Nat → Int32) (J153 : Nat → Int64) (B153 : Nat → Nat → Int32) (G153 : Nat → Nat → Int64) (H : Heap) (locs : List Loc) (ls : Array Slot), (pG1 I153) → (pG2 (B153 37) (B153 38)) → (rrP rr (I153 69) (B153 37) (B153 38)) → (sz3 (16 * 1 + 1 : Int).toNat (16 * 1 + 3 : Int).toNat (16 * 1 + 9 : Int).toNat (B153 37) (B153 38)) → (s4 (I153 69) (B153 37) (B153 38)) → (ssP ss (B153 37) (B153 38)) → (thF [7] (B 37) (B 38) (B153 37) (B153 38)) → (I153 69 = iI ia) → (I153 77 = iI ty) → (I153 75 = iI cl) → (I153 76 = iI sv) → (I153 33 = iI cn) → mH D E (mA E h q sz) s.heap h q I153 J153 B153 G153 H locs → rS [3, 8, 14, 18, 29, 33, 36, 39, 40, 42, 80, 81, 84, 85, 86, 87, 88, 89] [0, 1, 5, 6, 7, 9, 10, 11, 12, 13, 15, 16, 17, 19, 20, 21, 22, 23, 24, 34, 35, 37, 38, 56, 59, 60, 90] I B I153 B153 → lv_has ls 15 [(0, .ref h), (1, .int (iI z101)), (2, .int (iI z103)), (5, .long v129), (7, .long v130)] → W p l e (mR 45 2046) s m AV below meth c H locs 0 0 QQ (F0 m 143 ls []) := by
        intro I153 J153 B153 G153 H locs ls f154 f155 f156 f157 f158 f159 f160 e161 e162 e163 e164 e165 Y S hl
        refine lv_iload_n X.1 X.2.1 d_M_issued_143 rfl (lv_at hl 2 rfl) ?_
        have J183 : ∀ (I170 : Nat → Int32) (J170 : Nat → Int64) (B170 : Nat → Nat → Int32) (G170 : Nat → Nat → Int64) (H : Heap) (locs : List Loc) (ls : Array Slot), (pG1 I170) → (pG2 (B170 37) (B170 38)) → (rrP rr (I170 69) (B170 37) (B170 38)) → (sz3 (16 * 1 + 1 : Int).toNat (16 * 1 + 3 : Int).toNat (16 * 1 + 9 : Int).toNat (B170 37) (B170 38)) → (s4 (I170 69) (B170 37) (B170 38)) → (ssP ss (B170 37) (B170 38)) → (thF [7] (B 37) (B 38) (B170 37) (B170 38)) → (I170 69 = iI ia) → (I170 77 = iI ty) → (I170 75 = iI cl) → (I170 76 = iI sv) → (I170 33 = iI cn) → mH D E (mA E h q sz) s.heap h q I170 J170 B170 G170 H locs → rS [3, 8, 14, 18, 29, 33, 36, 39, 40, 42, 80, 81, 84, 85, 86, 87, 88, 89] [0, 1, 5, 6, 7, 9, 10, 11, 12, 13, 15, 16, 17, 19, 20, 21, 22, 23, 24, 34, 35, 37, 38, 56, 59, 60, 90] I B I170 B170 → lv_has ls 15 [(0, .ref h), (1, .int (iI z101)), (2, .int (iI z103)), (5, .long v129), (7, .long v130)] → W p l e (mR 45 2046) s m AV below meth c H locs 0 0 QQ (F0 m 183 ls []) := by
          intro I170 J170 B170 G170 H locs ls f171 f172 f173 f174 f175 f176 f177 e178 e179 e180 e181 e182 Y S hl
          refine lv_aload_n X.1 X.2.1 d_M_issued_183 rfl (lv_at hl 0 rfl) ?_
          refine m_get X Y 82 (by decide) lk_newEnd (gf_newEnd _ _ _) rfl d_M_issued_184 ?_
          refine lv_aload_n X.1 X.2.1 d_M_issued_187 rfl (lv_at hl 0 rfl) ?_
          refine r_geti (k := 4) X Y S (by decide) lk_now (gf_now _ _ _) rfl rfl d_M_issued_188 (fun z187 e187 l187 u187 => ?_)
          refine lv_i2l X.1 X.2.1 d_M_issued_191 rfl ?_
          refine t_anyl (fun v188 => ?_)
          refine W.lcmp X.1 X.2.1 d_M_issued_192 ?_
          refine t_u (fun z189 l189 u189 => ?_)
          refine z_if_gt (tgt := 199) X.1 X.2.1 d_M_issued_193 (by decide) ⟨by omega, by omega⟩ (fun h190 => ?_) (fun h190 => ?_)
          · refine lv_aload_n X.1 X.2.1 d_M_issued_199 rfl (lv_at hl 0 rfl) ?_
            refine lv_iconst (v := iI 0) X.1 X.2.1 d_M_issued_200 (by decide) ?_
            refine r_puti (k := 81) X Y S (by decide) lk_newFlags rfl rfl (t_M_ok 81 (by decide)) rfl rfl (sf_newFlags _ _ _ _) (Nat.le_of_ble_eq_true rfl) rfl (show ((-2147483648) : Int) ≤ 0 by omega) (show 0 ≤ (2147483647 : Int) by omega) ⟨by omega, by omega⟩ (by decide) d_M_issued_201 (fun I191 H locs Y S w191 => ?_)
            refine lv_aload_n X.1 X.2.1 d_M_issued_204 rfl (lv_at hl 0 rfl) ?_
            refine lv_iload_n X.1 X.2.1 d_M_issued_205 rfl (lv_at hl 1 rfl) ?_
            refine lv_bipush (v := iI 27) X.1 X.2.1 d_M_issued_206 (by decide) ?_
            refine r_ni (m_run (As := [.int (iI z101), .int (iI 27)]) (rest := []) (n := 2) X Y hZ hA hml hl.1 (r_M_bit l D E h q H.size I191 J170 B170 G170 z101 (by omega) (by omega) 27 (by decide) (by decide) S.1) kl_M_bit ks_M_bit kx_M_bit ki_M_bit ini_M hd_M_bit ⟨Nat.le_of_ble_eq_true rfl, Nat.le_of_ble_eq_true rfl⟩ rfl (Nat.le_of_ble_eq_true rfl) d_M_issued_208 ⟨Nat.le_refl _, Nat.le_refl _⟩) X Y hA S (by decide) (by decide) (fun z192 u H locs Y S s192 p192 => ?_)
            obtain ⟨I192, J192, B192, G192⟩ := u
            dsimp only at Y S s192 p192
            have i192 : I191 = I192 := (funext (fun j => s192.2.1 j (by simp))).symm
            subst i192
            have b192 : B170 = B192 := (funext (fun j => s192.2.2 j (by simp))).symm
            subst b192
            obtain ⟨l192, u192⟩ := p192
            have J194 : ∀ (z193 : Int) (H : Heap) (locs : List Loc) (ls : Array Slot), (0 ≤ z193) → (z193 ≤ 1) → mH D E (mA E h q sz) s.heap h q I191 J192 B170 G192 H locs → rS [3, 8, 14, 18, 29, 33, 36, 39, 40, 42, 80, 81, 84, 85, 86, 87, 88, 89] [0, 1, 5, 6, 7, 9, 10, 11, 12, 13, 15, 16, 17, 19, 20, 21, 22, 23, 24, 34, 35, 37, 38, 56, 59, 60, 90] I B I191 B170 → lv_has ls 15 [(0, .ref h), (1, .int (iI z101)), (2, .int (iI z103)), (5, .long v129), (7, .long v130)] → W p l e (mR 45 2046) s m AV below meth c H locs 0 0 QQ (F0 m 236 ls [.int (iI z193)]) := by
              intro z193 H locs ls l193 u193 Y S hl
              refine lv_istore (lv' := [(9, .int (iI z193)), (0, .ref h), (1, .int (iI z101)), (2, .int (iI z103)), (5, .long v129), (7, .long v130)]) X.1 X.2.1 d_M_issued_236 hl (by decide) rfl (fun ls hl => ?_)
              refine lv_aload_n X.1 X.2.1 d_M_issued_238 rfl (lv_at hl 1 rfl) ?_
              refine lv_iload_n X.1 X.2.1 d_M_issued_239 rfl (lv_at hl 2 rfl) ?_
              refine lv_bipush (v := iI 8) X.1 X.2.1 d_M_issued_240 (by decide) ?_
              refine r_ni (m_run (As := [.int (iI z101), .int (iI 8)]) (rest := []) (n := 2) X Y hZ hA hml hl.1 (r_M_bit l D E h q H.size I191 J192 B170 G192 z101 (by omega) (by omega) 8 (by decide) (by decide) S.1) kl_M_bit ks_M_bit kx_M_bit ki_M_bit ini_M hd_M_bit ⟨Nat.le_of_ble_eq_true rfl, Nat.le_of_ble_eq_true rfl⟩ rfl (Nat.le_of_ble_eq_true rfl) d_M_issued_242 ⟨Nat.le_refl _, Nat.le_refl _⟩) X Y hA S (by decide) (by decide) (fun z198 u H locs Y S s198 p198 => ?_)
              obtain ⟨I198, J198, B198, G198⟩ := u
              dsimp only at Y S s198 p198
              have i198 : I191 = I198 := (funext (fun j => s198.2.1 j (by simp))).symm
              subst i198
              have b198 : B170 = B198 := (funext (fun j => s198.2.2 j (by simp))).symm
              subst b198
              obtain ⟨l198, u198⟩ := p198
              have J213 : ∀ (z200 : Int) (I199 : Nat → Int32) (J199 : Nat → Int64) (B199 : Nat → Nat → Int32) (G199 : Nat → Nat → Int64) (H : Heap) (locs : List Loc) (ls : Array Slot), (0 ≤ z200) → (z200 ≤ 1) → (pG1 I199) → (pG2 (B199 37) (B199 38)) → (rrP rr (I199 69) (B199 37) (B199 38)) → (sz3 (16 * 1 + 1 : Int).toNat (16 * 1 + 3 : Int).toNat (16 * 1 + 9 : Int).toNat (B199 37) (B199 38)) → (s4 (I199 69) (B199 37) (B199 38)) → (ssP ss (B199 37) (B199 38)) → (thF [7] (B 37) (B 38) (B199 37) (B199 38)) → (I199 69 = iI ia) → (I199 77 = iI ty) → (I199 75 = iI cl) → (I199 76 = iI sv) → (I199 33 = iI cn) → mH D E (mA E h q sz) s.heap h q I199 J199 B199 G199 H locs → rS [3, 8, 14, 18, 29, 33, 36, 39, 40, 42, 80, 81, 84, 85, 86, 87, 88, 89] [0, 1, 5, 6, 7, 9, 10, 11, 12, 13, 15, 16, 17, 19, 20, 21, 22, 23, 24, 34, 35, 37, 38, 56, 59, 60, 90] I B I199 B199 → lv_has ls 15 [(0, .ref h), (1, .int (iI z101)), (2, .int (iI z103)), (5, .long v129), (7, .long v130)] → W p l e (mR 45 2046) s m AV below meth c H locs 0 0 QQ (F0 m 269 ls [.int (iI z200)]) := by
                intro z200 I199 J199 B199 G199 H locs ls l200 u200 f201 f202 f203 f204 f205 f206 f207 e208 e209 e210 e211 e212 Y S hl
                refine lv_istore (lv' := [(10, .int (iI z200)), (0, .ref h), (1, .int (iI z101)), (2, .int (iI z103)), (5, .long v129), (7, .long v130)]) X.1 X.2.1 d_M_issued_269 hl (by decide) rfl (fun ls hl => ?_)
                refine lv_iload_n X.1 X.2.1 d_M_issued_271 rfl (lv_at hl 3 rfl) ?_
                have J231 : ∀ (z218 : Int) (I217 : Nat → Int32) (J217 : Nat → Int64) (B217 : Nat → Nat → Int32) (G217 : Nat → Nat → Int64) (H : Heap) (locs : List Loc) (ls : Array Slot), (0 ≤ z218) → (z218 ≤ 1) → (pG1 I217) → (pG2 (B217 37) (B217 38)) → (rrP rr (I217 69) (B217 37) (B217 38)) → (sz3 (16 * 1 + 1 : Int).toNat (16 * 1 + 3 : Int).toNat (16 * 1 + 9 : Int).toNat (B217 37) (B217 38)) → (s4 (I217 69) (B217 37) (B217 38)) → (ssP ss (B217 37) (B217 38)) → (thF [7] (B 37) (B 38) (B217 37) (B217 38)) → (I217 69 = iI ia) → (I217 77 = iI ty) → (I217 75 = iI cl) → (I217 76 = iI sv) → (I217 33 = iI cn) → mH D E (mA E h q sz) s.heap h q I217 J217 B217 G217 H locs → rS [3, 8, 14, 18, 29, 33, 36, 39, 40, 42, 80, 81, 84, 85, 86, 87, 88, 89] [0, 1, 5, 6, 7, 9, 10, 11, 12, 13, 15, 16, 17, 19, 20, 21, 22, 23, 24, 34, 35, 37, 38, 56, 59, 60, 90] I B I217 B217 → lv_has ls 15 [(0, .ref h), (1, .int (iI z101)), (10, .int (iI z218))] → W p l e (mR 45 2046) s m AV below meth c H locs 0 0 QQ (F0 m 658 ls []) := by
                  intro z218 I217 J217 B217 G217 H locs ls l218 u218 f219 f220 f221 f222 f223 f224 f225 e226 e227 e228 e229 e230 Y S hl
                  refine lv_aload_n X.1 X.2.1 d_M_issued_658 rfl (lv_at hl 0 rfl) ?_
                  refine lv_iload X.1 X.2.1 d_M_issued_659 (lv_at hl 2 rfl) ?_
                  refine r_puti (k := 84) X Y S (by decide) lk_hasRenew rfl rfl (t_M_ok 84 (by decide)) (iI_bool (by omega) (by omega)).1 (iI_bool (by omega) (by omega)).2 (sf_hasRenew _ _ _ _) (Nat.le_of_ble_eq_true rfl) rfl (show (0 : Int) ≤ z218 by omega) (show z218 ≤ (1 : Int) by omega) ⟨by omega, by omega⟩ (by decide) d_M_issued_661 (fun I235 H locs Y S w235 => ?_)
                  refine lv_aload_n X.1 X.2.1 d_M_issued_664 rfl (lv_at hl 0 rfl) ?_
                  refine r_get0 X Y (by decide) lk_isAs (gf_isAs _ _ _) rfl ((w235.2 69 (by decide)).trans e226) d_M_issued_665 ?_
                  refine z_if_ne (tgt := 689) X.1 X.2.1 d_M_issued_668 (by decide) ⟨by omega, by omega⟩ (fun h236 => ?_) (fun h236 => ?_)
                  · refine lv_iconst (v := iI 1) X.1 X.2.1 d_M_issued_689 (by decide) ?_
                    refine lv_goto (tgt := 694) X.1 X.2.1 d_M_issued_690 (by decide) ?_
                    refine lv_istore (lv' := [(11, .int (iI 1)), (0, .ref h), (1, .int (iI z101)), (10, .int (iI z218))]) X.1 X.2.1 d_M_issued_694 hl (by decide) rfl (fun ls hl => ?_)
                    refine lv_aload_n X.1 X.2.1 d_M_issued_696 rfl (lv_at hl 1 rfl) ?_
                    refine lv_iload X.1 X.2.1 d_M_issued_697 (lv_at hl 0 rfl) ?_
                    refine z_if_eq (tgt := 712) X.1 X.2.1 d_M_issued_699 (by decide) ⟨by decide, by decide⟩ (fun h237 => False.elim (by omega)) (fun h237 => ?_)
                    · refine lv_aload_n X.1 X.2.1 d_M_issued_702 rfl (lv_at hl 1 rfl) ?_
                      refine lv_iconst (v := iI 1) X.1 X.2.1 d_M_issued_703 (by decide) ?_
                      refine lv_bipush (v := iI 9) X.1 X.2.1 d_M_issued_704 (by decide) ?_
                      refine r_ni (m_run (As := [.int (iI 1), .int (iI 9)]) (rest := [.ref h]) (n := 2) X Y hZ hA hml hl.1 (r_M_has l D E h q H.size I235 J217 B217 G217 1 (by decide) (by decide) 9 (by decide) (by decide) S.1) kl_M_has ks_M_has kx_M_has ki_M_has ini_M hd_M_has ⟨Nat.le_of_ble_eq_true rfl, Nat.le_of_ble_eq_true rfl⟩ rfl (Nat.le_of_ble_eq_true rfl) d_M_issued_706 ⟨Nat.le_refl _, Nat.le_refl _⟩) X Y hA S (by decide) (by decide) (fun z238 u H locs Y S s238 p238 => ?_)
                      obtain ⟨I238, J238, B238, G238⟩ := u
                      dsimp only at Y S s238 p238
                      have i238 : I235 = I238 := (funext (fun j => s238.2.1 j (by simp))).symm
                      subst i238
                      have b238 : B217 = B238 := (funext (fun j => s238.2.2 j (by simp))).symm
                      subst b238
                      obtain ⟨l238, u238, x238⟩ := p238
                      refine lv_goto (tgt := 719) X.1 X.2.1 d_M_issued_709 (by decide) ?_
                      refine r_puti (k := 85) X Y S (by decide) lk_hasAddress rfl rfl (t_M_ok 85 (by decide)) (iI_bool (by omega) (by omega)).1 (iI_bool (by omega) (by omega)).2 (sf_hasAddress _ _ _ _) (Nat.le_of_ble_eq_true rfl) rfl (show (0 : Int) ≤ z238 by omega) (show z238 ≤ (1 : Int) by omega) ⟨by omega, by omega⟩ (by decide) d_M_issued_719 (fun I239 H locs Y S w239 => ?_)
                      refine lv_aload_n X.1 X.2.1 d_M_issued_722 rfl (lv_at hl 1 rfl) ?_
                      refine lv_iload X.1 X.2.1 d_M_issued_723 (lv_at hl 0 rfl) ?_
                      refine z_if_eq (tgt := 738) X.1 X.2.1 d_M_issued_725 (by decide) ⟨by decide, by decide⟩ (fun h240 => False.elim (by omega)) (fun h240 => ?_)
                      · refine lv_aload_n X.1 X.2.1 d_M_issued_728 rfl (lv_at hl 1 rfl) ?_
                        refine lv_iconst (v := iI 1) X.1 X.2.1 d_M_issued_729 (by decide) ?_
                        refine lv_bipush (v := iI 9) X.1 X.2.1 d_M_issued_730 (by decide) ?_
                        refine r_ni (m_run (As := [.int (iI 1), .int (iI 9)]) (rest := [.ref h]) (n := 2) X Y hZ hA hml hl.1 (r_M_a l D E h q H.size I239 J238 B217 G238 1 (by decide) (by decide) 9 (by decide) (by decide) S.1) kl_M_a ks_M_a kx_M_a ki_M_a ini_M hd_M_a ⟨Nat.le_of_ble_eq_true rfl, Nat.le_of_ble_eq_true rfl⟩ rfl (Nat.le_of_ble_eq_true rfl) d_M_issued_732 ⟨Nat.le_refl _, Nat.le_refl _⟩) X Y hA S (by decide) (by decide) (fun z241 u H locs Y S s241 p241 => ?_)
                        obtain ⟨I241, J241, B241, G241⟩ := u
                        dsimp only at Y S s241 p241
                        have i241 : I239 = I241 := (funext (fun j => s241.2.1 j (by simp))).symm
                        subst i241
                        have b241 : B217 = B241 := (funext (fun j => s241.2.2 j (by simp))).symm
                        subst b241
                        obtain ⟨l241, u241, x241⟩ := p241
                        refine lv_goto (tgt := 745) X.1 X.2.1 d_M_issued_735 (by decide) ?_
                        refine r_puti (k := 86) X Y S (by decide) lk_addressAt rfl rfl (t_M_ok 86 (by decide)) rfl rfl (sf_addressAt _ _ _ _) (Nat.le_of_ble_eq_true rfl) rfl (show ((-2147483648) : Int) ≤ z241 by omega) (show z241 ≤ (2147483647 : Int) by omega) ⟨by omega, by omega⟩ (by decide) d_M_issued_745 (fun I242 H locs Y S w242 => ?_)
                        refine lv_aload_n X.1 X.2.1 d_M_issued_748 rfl (lv_at hl 1 rfl) ?_
                        refine lv_iload X.1 X.2.1 d_M_issued_749 (lv_at hl 0 rfl) ?_
                        refine z_if_eq (tgt := 764) X.1 X.2.1 d_M_issued_751 (by decide) ⟨by decide, by decide⟩ (fun h243 => False.elim (by omega)) (fun h243 => ?_)
                        · refine lv_aload_n X.1 X.2.1 d_M_issued_754 rfl (lv_at hl 1 rfl) ?_
                          refine lv_iconst (v := iI 1) X.1 X.2.1 d_M_issued_755 (by decide) ?_
                          refine lv_bipush (v := iI 9) X.1 X.2.1 d_M_issued_756 (by decide) ?_
                          refine r_ni (m_run (As := [.int (iI 1), .int (iI 9)]) (rest := [.ref h]) (n := 2) X Y hZ hA hml hl.1 (r_M_b l D E h q H.size I242 J241 B217 G241 1 (by decide) (by decide) 9 (by decide) (by decide) S.1) kl_M_b ks_M_b kx_M_b ki_M_b ini_M hd_M_b ⟨Nat.le_of_ble_eq_true rfl, Nat.le_of_ble_eq_true rfl⟩ rfl (Nat.le_of_ble_eq_true rfl) d_M_issued_758 ⟨Nat.le_refl _, Nat.le_refl _⟩) X Y hA S (by decide) (by decide) (fun z244 u H locs Y S s244 p244 => ?_)
                          obtain ⟨I244, J244, B244, G244⟩ := u
                          dsimp only at Y S s244 p244
                          have i244 : I242 = I244 := (funext (fun j => s244.2.1 j (by simp))).symm
                          subst i244
                          have b244 : B217 = B244 := (funext (fun j => s244.2.2 j (by simp))).symm
                          subst b244
                          obtain ⟨l244, u244, x244⟩ := p244
                          have p245 : pr z241 z244 := by rw [x241, x244]; exact (pG2_cg rfl rfl (pG2_cg rfl rfl (pG2_cg rfl rfl (pG2_cg rfl rfl (pG2_cg rfl rfl (pG2_cg rfl rfl f220)))))) (16 * 1 + 9 : Int).toNat (by omega)
                          unfold pr at p245
                          refine lv_goto (tgt := 771) X.1 X.2.1 d_M_issued_761 (by decide) ?_
                          refine r_puti (k := 87) X Y S (by decide) lk_addressEnd rfl rfl (t_M_ok 87 (by decide)) rfl rfl (sf_addressEnd _ _ _ _) (Nat.le_of_ble_eq_true rfl) rfl (show ((-2147483648) : Int) ≤ z244 by omega) (show z244 ≤ (2147483647 : Int) by omega) ⟨by omega, by omega⟩ (by decide) d_M_issued_771 (fun I246 H locs Y S w246 => ?_)
                          have f247 : pG1 I246 := (pG1_cg (w246.2 39 (by decide)) (w246.2 40 (by decide)) (pG1_cg rfl rfl (pG1_cg (w242.2 39 (by decide)) (w242.2 40 (by decide)) (pG1_cg rfl rfl (pG1_cg (w239.2 39 (by decide)) (w239.2 40 (by decide)) (pG1_cg rfl rfl (pG1_cg (w235.2 39 (by decide)) (w235.2 40 (by decide)) f219)))))))
                          refine lv_aload_n X.1 X.2.1 d_M_issued_774 rfl (lv_at hl 1 rfl) ?_
                          refine lv_aload_n X.1 X.2.1 d_M_issued_775 rfl (lv_at hl 1 rfl) ?_
                          refine r_get0 X Y (by decide) lk_isAs (gf_isAs _ _ _) rfl ((w246.2 69 (by decide)).trans ((w242.2 69 (by decide)).trans ((w239.2 69 (by decide)).trans ((w235.2 69 (by decide)).trans e226)))) d_M_issued_776 ?_
                          refine z_if_eq (tgt := 791) X.1 X.2.1 d_M_issued_779 (by decide) ⟨by omega, by omega⟩ (fun h248 => False.elim (by omega)) (fun h248 => ?_)
                          · refine lv_aload_n X.1 X.2.1 d_M_issued_782 rfl (lv_at hl 1 rfl) ?_
                            refine lv_iconst (v := iI 1) X.1 X.2.1 d_M_issued_783 (by decide) ?_
                            refine lv_iconst (v := iI 1) X.1 X.2.1 d_M_issued_784 (by decide) ?_
                            refine r_ni (m_run (As := [.int (iI 1), .int (iI 1)]) (rest := [.ref h]) (n := 2) X Y hZ hA hml hl.1 (r_M_a l D E h q H.size I246 J244 B217 G244 1 (by decide) (by decide) 1 (by decide) (by decide) S.1) kl_M_a ks_M_a kx_M_a ki_M_a ini_M hd_M_a ⟨Nat.le_of_ble_eq_true rfl, Nat.le_of_ble_eq_true rfl⟩ rfl (Nat.le_of_ble_eq_true rfl) d_M_issued_785 ⟨Nat.le_refl _, Nat.le_refl _⟩) X Y hA S (by decide) (by decide) (fun z249 u H locs Y S s249 p249 => ?_)
                            obtain ⟨I249, J249, B249, G249⟩ := u
                            dsimp only at Y S s249 p249
                            have i249 : I246 = I249 := (funext (fun j => s249.2.1 j (by simp))).symm
                            subst i249
                            have b249 : B217 = B249 := (funext (fun j => s249.2.2 j (by simp))).symm
                            subst b249
                            have f250 : rrP rr (I246 69) (B217 37) (B217 38) := (rrP_cg rfl rfl rfl (rrP_cg (w246.2 69 (by decide)) rfl rfl (rrP_cg rfl rfl rfl (rrP_cg (w242.2 69 (by decide)) rfl rfl (rrP_cg rfl rfl rfl (rrP_cg (w239.2 69 (by decide)) rfl rfl (rrP_cg rfl rfl rfl (rrP_cg (w235.2 69 (by decide)) rfl rfl f221))))))))
                            obtain ⟨l249, u249, x249⟩ := p249
                            refine lv_goto (tgt := 797) X.1 X.2.1 d_M_issued_788 (by decide) ?_
                            refine r_puti (k := 88) X Y S (by decide) lk_clientAt rfl rfl (t_M_ok 88 (by decide)) rfl rfl (sf_clientAt _ _ _ _) (Nat.le_of_ble_eq_true rfl) rfl (show ((-2147483648) : Int) ≤ z249 by omega) (show z249 ≤ (2147483647 : Int) by omega) ⟨by omega, by omega⟩ (by decide) d_M_issued_797 (fun I251 H locs Y S w251 => ?_)
                            have f252 : s4 (I251 69) (B217 37) (B217 38) := (s4_cg (w251.2 69 (by decide)) rfl rfl (s4_cg rfl rfl rfl (s4_cg (w246.2 69 (by decide)) rfl rfl (s4_cg rfl rfl rfl (s4_cg (w242.2 69 (by decide)) rfl rfl (s4_cg rfl rfl rfl (s4_cg (w239.2 69 (by decide)) rfl rfl (s4_cg rfl rfl rfl (s4_cg (w235.2 69 (by decide)) rfl rfl f223)))))))))
                            refine lv_aload_n X.1 X.2.1 d_M_issued_800 rfl (lv_at hl 1 rfl) ?_
                            refine lv_aload_n X.1 X.2.1 d_M_issued_801 rfl (lv_at hl 1 rfl) ?_
                            refine r_get0 X Y (by decide) lk_isAs (gf_isAs _ _ _) rfl ((w251.2 69 (by decide)).trans ((w246.2 69 (by decide)).trans ((w242.2 69 (by decide)).trans ((w239.2 69 (by decide)).trans ((w235.2 69 (by decide)).trans e226))))) d_M_issued_802 ?_
                            have J274 : ∀ (z254 : Int) (z270 : Int) (z271 : Int) (z272 : Int) (I253 : Nat → Int32) (J253 : Nat → Int64) (B253 : Nat → Nat → Int32) (G253 : Nat → Nat → Int64) (H : Heap) (locs : List Loc) (ls : Array Slot), ((-1) ≤ z254) → (z254 ≤ 30000) → (pG1 I253) → (pG2 (B253 37) (B253 38)) → (rrP rr (I253 69) (B253 37) (B253 38)) → (sz3 (16 * 1 + 1 : Int).toNat (16 * 1 + 3 : Int).toNat (16 * 1 + 9 : Int).toNat (B253 37) (B253 38)) → (s4 (I253 69) (B253 37) (B253 38)) → (ssP ss (B253 37) (B253 38)) → (thF [7] (B 37) (B 38) (B253 37) (B253 38)) → (I253 69 = iI ia) → (I253 86 = iI z241) → (I253 87 = iI z244) → (I253 88 = iI z249) → (I253 77 = iI ty) → (I253 75 = iI cl) → (I253 76 = iI sv) → (I253 33 = iI cn) → (I253 86 = iI z270) → ((-1) ≤ z270) → (z270 ≤ 30000) → (I253 87 = iI z271) → ((-1) ≤ z271) → (z271 ≤ 30000) → (I253 88 = iI z272) → ((-1) ≤ z272) → (z272 ≤ 30000) → ((z270 ≤ z271 ∧ (0 ≤ z270 ∨ z270 = z271) ∧ z271 - z270 ≤ 4200 ∧ z272 ≤ z254 ∧ (0 ≤ z272 ∨ z272 = z254) ∧ z254 - z272 ≤ 4200 ∧ (z271 - z270) + (z254 - z272) + rr + ss ≤ 8400)) → mH D E (mA E h q sz) s.heap h q I253 J253 B253 G253 H locs → rS [3, 8, 14, 18, 29, 33, 36, 39, 40, 42, 80, 81, 84, 85, 86, 87, 88, 89] [0, 1, 5, 6, 7, 9, 10, 11, 12, 13, 15, 16, 17, 19, 20, 21, 22, 23, 24, 34, 35, 37, 38, 56, 59, 60, 90] I B I253 B253 → lv_has ls 15 [(0, .ref h)] → W p l e (mR 45 2046) s m AV below meth c H locs 0 0 QQ (F0 m 823 ls [.int (iI z254), .ref h]) := by
                              intro z254 z270 z271 z272 I253 J253 B253 G253 H locs ls l254 u254 f255 f256 f257 f258 f259 f260 f261 e262 e263 e264 e265 e266 e267 e268 e269 e270 l270 u270 e271 l271 u271 e272 l272 u272 i273 Y S hl
                              refine r_puti (k := 89) X Y S (by decide) lk_clientEnd rfl rfl (t_M_ok 89 (by decide)) rfl rfl (sf_clientEnd _ _ _ _) (Nat.le_of_ble_eq_true rfl) rfl (show ((-2147483648) : Int) ≤ z254 by omega) (show z254 ≤ (2147483647 : Int) by omega) ⟨by omega, by omega⟩ (by decide) d_M_issued_823 (fun I278 H locs Y S w278 => ?_)
                              refine lv_aload_n X.1 X.2.1 d_M_issued_826 rfl (lv_at hl 0 rfl) ?_
                              refine lv_aload_n X.1 X.2.1 d_M_issued_827 rfl (lv_at hl 0 rfl) ?_
                              refine r_get0 X Y (by decide) lk_type (gf_type _ _ _) rfl ((w278.2 77 (by decide)).trans e266) d_M_issued_828 ?_
                              refine lv_aload_n X.1 X.2.1 d_M_issued_831 rfl (lv_at hl 0 rfl) ?_
                              refine m_get X Y 60 (by decide) lk_fresh (gf_fresh _ _ _) rfl d_M_issued_832 ?_
                              refine r_nv (m_run (As := [.int (iI ty), .ref ((q 60))]) (rest := []) (n := 2) X Y hZ hA hml hl.1 (r_M_newKey_fresh l D E h q H.size I278 J253 B253 G253 ty (by omega) (by omega) S.1 cn ((w278.2 33 (by decide)).trans e269) (by omega) (by omega)) kl_M_newKey ks_M_newKey kx_M_newKey ki_M_newKey ini_M hd_M_newKey ⟨Nat.le_of_ble_eq_true rfl, Nat.le_of_ble_eq_true rfl⟩ rfl (Nat.le_of_ble_eq_true rfl) d_M_issued_835 ⟨Nat.le_refl _, Nat.le_refl _⟩) X Y hA S (by decide) (by decide) (fun u H locs Y S s279 p279 => ?_)
                              obtain ⟨I279, J279, B279, G279⟩ := u
                              dsimp only at Y S s279 p279
                              have x279 := p279
                              obtain ⟨z280, e280, l280, u280⟩ := x279
                              refine lv_aload_n X.1 X.2.1 d_M_issued_838 rfl (lv_at hl 0 rfl) ?_
                              refine r_nv (m_run (As := []) (rest := []) (n := 0) X Y hZ hA hml hl.1 (r_M_start l D E h q H.size I279 J279 B279 G279 S.1) kl_M_start ks_M_start kx_M_start ki_M_start ini_M hd_M_start ⟨Nat.le_of_ble_eq_true rfl, Nat.le_of_ble_eq_true rfl⟩ rfl (Nat.le_of_ble_eq_true rfl) d_M_issued_839 ⟨Nat.le_refl _, Nat.le_refl _⟩) X Y hA S (by decide) (by decide) (fun u H locs Y S s281 p281 => ?_)
                              obtain ⟨I281, J281, B281, G281⟩ := u
                              dsimp only at Y S s281 p281
                              have b281 : B279 = B281 := (funext (fun j => s281.2.2 j (by simp))).symm
                              subst b281
                              have x281 := p281
                              refine lv_aload_n X.1 X.2.1 d_M_issued_842 rfl (lv_at hl 0 rfl) ?_
                              refine r_nv (m_run (As := []) (rest := []) (n := 0) X Y hZ hA hml hl.1 (r_M_part l D E h q H.size I281 J281 B279 G281 S.1 60000 (x281.trans (congrArg iI (show (60000 : Int) = 60000 by omega))) (by omega) (by omega) ty ((s281.2.1 77 (by decide)).trans ((s279.2.1 77 (by decide)).trans ((w278.2 77 (by decide)).trans e266))) (by omega) (by omega) z270 ((s281.2.1 86 (by decide)).trans ((s279.2.1 86 (by decide)).trans ((w278.2 86 (by decide)).trans e270))) (by omega) (by omega) z271 ((s281.2.1 87 (by decide)).trans ((s279.2.1 87 (by decide)).trans ((w278.2 87 (by decide)).trans e271))) (by omega) (by omega) z272 ((s281.2.1 88 (by decide)).trans ((s279.2.1 88 (by decide)).trans ((w278.2 88 (by decide)).trans e272))) (by omega) (by omega) z254 ((s281.2.1 89 (by decide)).trans ((s279.2.1 89 (by decide)).trans w278.1)) (by omega) (by omega) ia ((s281.2.1 69 (by decide)).trans ((s279.2.1 69 (by decide)).trans ((w278.2 69 (by decide)).trans e262))) (by omega) (by omega) rr (pG1_cg (s281.2.1 39 (by decide)) (s281.2.1 40 (by decide)) (pG1_cg (s279.2.1 39 (by decide)) (s279.2.1 40 (by decide)) (pG1_cg (w278.2 39 (by decide)) (w278.2 40 (by decide)) f255))) (pG2_cg rfl rfl (pG2_cg (s279.2.2 37 (by decide)) (s279.2.2 38 (by decide)) (pG2_cg rfl rfl f256))) (rrP_cg (s281.2.1 69 (by decide)) rfl rfl (rrP_cg (s279.2.1 69 (by decide)) (s279.2.2 37 (by decide)) (s279.2.2 38 (by decide)) (rrP_cg (w278.2 69 (by decide)) rfl rfl f257))) (by omega) (by omega) (by omega) (by omega) (by omega) (by omega)) kl_M_part ks_M_part kx_M_part ki_M_part ini_M hd_M_part ⟨Nat.le_of_ble_eq_true rfl, Nat.le_of_ble_eq_true rfl⟩ rfl (Nat.le_of_ble_eq_true rfl) d_M_issued_843 ⟨Nat.le_refl _, Nat.le_refl _⟩) X Y hA S (by decide) (by decide) (fun u H locs Y S s282 p282 => ?_)
                              obtain ⟨I282, J282, B282, G282⟩ := u
                              dsimp only at Y S s282 p282
                              have f283 : s4 (I282 69) (B282 37) (B282 38) := (s4_cg (s282.2.1 69 (by decide)) (s282.2.2 37 (by decide)) (s282.2.2 38 (by decide)) (s4_cg (s281.2.1 69 (by decide)) rfl rfl (s4_cg (s279.2.1 69 (by decide)) (s279.2.2 37 (by decide)) (s279.2.2 38 (by decide)) (s4_cg (w278.2 69 (by decide)) rfl rfl f259))))
                              have f284 : rrP rr (I282 69) (B282 37) (B282 38) := (rrP_cg (s282.2.1 69 (by decide)) (s282.2.2 37 (by decide)) (s282.2.2 38 (by decide)) (rrP_cg (s281.2.1 69 (by decide)) rfl rfl (rrP_cg (s279.2.1 69 (by decide)) (s279.2.2 37 (by decide)) (s279.2.2 38 (by decide)) (rrP_cg (w278.2 69 (by decide)) rfl rfl f257))))
                              obtain ⟨x282, g282_P1, g282_MF⟩ := p282
                              obtain ⟨z285, e285, l285, u285⟩ := x282
                              refine lv_aload_n X.1 X.2.1 d_M_issued_846 rfl (lv_at hl 0 rfl) ?_
                              refine lv_bipush (v := iI 99) X.1 X.2.1 d_M_issued_847 (by decide) ?_
                              refine lv_ldc (v := (60000)) X.1 X.2.1 X.2.2.2.1 (X.2.2.1 _ cn_M_9) d_M_issued_849 ?_
                              refine t_eq (y := iI 60000) (by decide) ?_
                              refine r_nv (m_run (As := [.int (iI 99), .int (iI 60000)]) (rest := []) (n := 2) X Y hZ hA hml hl.1 (r_M_head l D E h q H.size I282 J282 B282 G282 99 (by decide) (by decide) 60000 (by decide) (by decide) S.1 z285 e285 (by omega) (by omega)) kl_M_head ks_M_head kx_M_head ki_M_head ini_M hd_M_head ⟨Nat.le_of_ble_eq_true rfl, Nat.le_of_ble_eq_true rfl⟩ rfl (Nat.le_of_ble_eq_true rfl) d_M_issued_851 ⟨Nat.le_refl _, Nat.le_refl _⟩) X Y hA S (by decide) (by decide) (fun u H locs Y S s286 p286 => ?_)
                              obtain ⟨I286, J286, B286, G286⟩ := u
                              dsimp only at Y S s286 p286
                              obtain ⟨x286, g286_MF⟩ := p286
                              obtain ⟨z287, e287, l287, u287⟩ := x286
                              refine lv_ldc (v := (60000)) X.1 X.2.1 X.2.2.2.1 (X.2.2.1 _ cn_M_9) d_M_issued_854 ?_
                              refine t_eq (y := iI 60000) (by decide) ?_
                              refine lv_aload_n X.1 X.2.1 d_M_issued_856 rfl (lv_at hl 0 rfl) ?_
                              refine r_get0 X Y (by decide) lk_w0 (gf_w0 _ _ _) rfl e287 d_M_issued_857 ?_
                              refine z_isub X.1 X.2.1 d_M_issued_860 ?_
                              refine lv_istore (lv' := [(12, .int (iI (60000 - z287))), (0, .ref h)]) X.1 X.2.1 d_M_issued_861 hl (by decide) rfl (fun ls hl => ?_)
                              refine lv_aload_n X.1 X.2.1 d_M_issued_863 rfl (lv_at hl 1 rfl) ?_
                              refine lv_aload_n X.1 X.2.1 d_M_issued_864 rfl (lv_at hl 1 rfl) ?_
                              refine r_get0 X Y (by decide) lk_service (gf_service _ _ _) rfl ((s286.2.1 76 (by decide)).trans ((s282.2.1 76 (by decide)).trans ((s281.2.1 76 (by decide)).trans ((s279.2.1 76 (by decide)).trans ((w278.2 76 (by decide)).trans e268))))) d_M_issued_865 ?_
                              refine lv_aload_n X.1 X.2.1 d_M_issued_868 rfl (lv_at hl 1 rfl) ?_
                              refine m_get X Y 46 (by decide) lk_versions (gf_versions _ _ _) rfl d_M_issued_869 ?_
                              refine lv_aload_n X.1 X.2.1 d_M_issued_872 rfl (lv_at hl 1 rfl) ?_
                              refine r_get0 X Y (by decide) lk_service (gf_service _ _ _) rfl ((s286.2.1 76 (by decide)).trans ((s282.2.1 76 (by decide)).trans ((s281.2.1 76 (by decide)).trans ((s279.2.1 76 (by decide)).trans ((w278.2 76 (by decide)).trans e268))))) d_M_issued_873 ?_
                              refine r_iald X Y S (aw_versions _ _ _ _ _ _ _) rfl (by omega) (show sv < ((12 : Nat) : Int) by omega) (by omega) d_M_issued_876 (fun z288 q288 l288 u288 => ?_)
                              refine lv_bipush (v := iI 18) X.1 X.2.1 d_M_issued_877 (by decide) ?_
                              refine lv_aload_n X.1 X.2.1 d_M_issued_879 rfl (lv_at hl 1 rfl) ?_
                              refine m_get X Y 56 (by decide) lk_made (gf_made _ _ _) rfl d_M_issued_880 ?_
                              refine r_nv (m_run (As := [.int (iI sv), .int (iI z288), .int (iI 18), .ref ((q 56))]) (rest := []) (n := 4) X Y hZ hA hml hl.1 (r_M_keyOf_made l D E h q H.size I286 J286 B286 G286 sv (by omega) (by omega) z288 (by omega) (by omega) 18 (by decide) (by decide) S.1) kl_M_keyOf ks_M_keyOf kx_M_keyOf ki_M_keyOf ini_M hd_M_keyOf ⟨Nat.le_of_ble_eq_true rfl, Nat.le_of_ble_eq_true rfl⟩ rfl (Nat.le_of_ble_eq_true rfl) d_M_issued_883 ⟨Nat.le_refl _, Nat.le_refl _⟩) X Y hA S (by decide) (by decide) (fun u H locs Y S s289 p289 => ?_)
                              obtain ⟨I289, J289, B289, G289⟩ := u
                              dsimp only at Y S s289 p289
                              have i289 : I286 = I289 := (funext (fun j => s289.2.1 j (by simp))).symm
                              subst i289
                              have f290 : pG2 (B289 37) (B289 38) := (pG2_cg (s289.2.2 37 (by decide)) (s289.2.2 38 (by decide)) (pG2_cg (s286.2.2 37 (by decide)) (s286.2.2 38 (by decide)) (pG2_cg (s282.2.2 37 (by decide)) (s282.2.2 38 (by decide)) (pG2_cg rfl rfl (pG2_cg (s279.2.2 37 (by decide)) (s279.2.2 38 (by decide)) (pG2_cg rfl rfl f256))))))
                              have f291 : sz3 (16 * 1 + 1 : Int).toNat (16 * 1 + 3 : Int).toNat (16 * 1 + 9 : Int).toNat (B289 37) (B289 38) := (sz3_cg (s289.2.2 37 (by decide)) (s289.2.2 38 (by decide)) (sz3_cg (s286.2.2 37 (by decide)) (s286.2.2 38 (by decide)) (sz3_cg (s282.2.2 37 (by decide)) (s282.2.2 38 (by decide)) (sz3_cg rfl rfl (sz3_cg (s279.2.2 37 (by decide)) (s279.2.2 38 (by decide)) (sz3_cg rfl rfl f258))))))
                              have f292 : thF [7] (B 37) (B 38) (B289 37) (B289 38) := (thF_cg (s289.2.2 37 (by decide)) (s289.2.2 38 (by decide)) (thF_cg (s286.2.2 37 (by decide)) (s286.2.2 38 (by decide)) (thF_cg (s282.2.2 37 (by decide)) (s282.2.2 38 (by decide)) (thF_cg rfl rfl (thF_cg (s279.2.2 37 (by decide)) (s279.2.2 38 (by decide)) (thF_cg rfl rfl f261))))))
                              have f293 : ssP ss (B289 37) (B289 38) := (ssP_cg (s289.2.2 37 (by decide)) (s289.2.2 38 (by decide)) (ssP_cg (s286.2.2 37 (by decide)) (s286.2.2 38 (by decide)) (ssP_cg (s282.2.2 37 (by decide)) (s282.2.2 38 (by decide)) (ssP_cg rfl rfl (ssP_cg (s279.2.2 37 (by decide)) (s279.2.2 38 (by decide)) (ssP_cg rfl rfl f260))))))
                              refine lv_aload_n X.1 X.2.1 d_M_issued_886 rfl (lv_at hl 1 rfl) ?_
                              refine lv_aload_n X.1 X.2.1 d_M_issued_887 rfl (lv_at hl 1 rfl) ?_
                              refine m_get X Y 56 (by decide) lk_made (gf_made _ _ _) rfl d_M_issued_888 ?_
                              refine lv_bipush (v := iI 18) X.1 X.2.1 d_M_issued_891 (by decide) ?_
                              refine lv_iconst (v := iI 2) X.1 X.2.1 d_M_issued_893 (by decide) ?_
                              refine lv_aload_n X.1 X.2.1 d_M_issued_894 rfl (lv_at hl 1 rfl) ?_
                              refine r_get0 X Y (by decide) lk_w0 (gf_w0 _ _ _) rfl e287 d_M_issued_895 ?_
                              refine lv_ldc (v := (60000)) X.1 X.2.1 X.2.2.2.1 (X.2.2.1 _ cn_M_9) d_M_issued_898 ?_
                              refine t_eq (y := iI 60000) (by decide) ?_
                              refine r_nv (m_run (As := [.ref ((q 56)), .int (iI 18), .int (iI 2), .int (iI z287), .int (iI 60000)]) (rest := []) (n := 5) X Y hZ hA hml hl.1 (r_M_seal_made l D E h q H.size I286 J289 B289 G289 18 (by decide) (by decide) 2 (by decide) (by decide) z287 (by omega) (by omega) 60000 (by decide) (by decide) S.1 z280 ((s286.2.1 33 (by decide)).trans ((s282.2.1 33 (by decide)).trans ((s281.2.1 33 (by decide)).trans e280))) (by omega) (by omega) (by omega) (by omega)) kl_M_seal ks_M_seal kx_M_seal ki_M_seal ini_M hd_M_seal ⟨Nat.le_of_ble_eq_true rfl, Nat.le_of_ble_eq_true rfl⟩ rfl (Nat.le_of_ble_eq_true rfl) d_M_issued_900 ⟨Nat.le_refl _, Nat.le_refl _⟩) X Y hA S (by decide) (by decide) (fun u H locs Y S s294 p294 => ?_)
                              obtain ⟨I294, J294, B294, G294⟩ := u
                              dsimp only at Y S s294 p294
                              have x294 := p294
                              obtain ⟨x294_0, x294_1⟩ := x294
                              refine lv_aload_n X.1 X.2.1 d_M_issued_903 rfl (lv_at hl 1 rfl) ?_
                              refine r_nv (m_run (As := []) (rest := []) (n := 0) X Y hZ hA hml hl.1 (r_M_start l D E h q H.size I294 J294 B294 G294 S.1) kl_M_start ks_M_start kx_M_start ki_M_start ini_M hd_M_start ⟨Nat.le_of_ble_eq_true rfl, Nat.le_of_ble_eq_true rfl⟩ rfl (Nat.le_of_ble_eq_true rfl) d_M_issued_904 ⟨Nat.le_refl _, Nat.le_refl _⟩) X Y hA S (by decide) (by decide) (fun u H locs Y S s295 p295 => ?_)
                              obtain ⟨I295, J295, B295, G295⟩ := u
                              dsimp only at Y S s295 p295
                              have b295 : B294 = B295 := (funext (fun j => s295.2.2 j (by simp))).symm
                              subst b295
                              have f296 : s4 (I295 69) (B294 37) (B294 38) := (s4_cg (s295.2.1 69 (by decide)) rfl rfl (s4_cg (s294.2.1 69 (by decide)) (s294.2.2 37 (by decide)) (s294.2.2 38 (by decide)) (s4_cg rfl (s289.2.2 37 (by decide)) (s289.2.2 38 (by decide)) (s4_cg (s286.2.1 69 (by decide)) (s286.2.2 37 (by decide)) (s286.2.2 38 (by decide)) f283))))
                              have f297 : rrP rr (I295 69) (B294 37) (B294 38) := (rrP_cg (s295.2.1 69 (by decide)) rfl rfl (rrP_cg (s294.2.1 69 (by decide)) (s294.2.2 37 (by decide)) (s294.2.2 38 (by decide)) (rrP_cg rfl (s289.2.2 37 (by decide)) (s289.2.2 38 (by decide)) (rrP_cg (s286.2.1 69 (by decide)) (s286.2.2 37 (by decide)) (s286.2.2 38 (by decide)) f284))))
                              have x295 := p295
                              refine lv_aload_n X.1 X.2.1 d_M_issued_907 rfl (lv_at hl 1 rfl) ?_
                              refine lv_iconst (v := iI 3) X.1 X.2.1 d_M_issued_908 (by decide) ?_
                              refine lv_bipush (v := iI 18) X.1 X.2.1 d_M_issued_909 (by decide) ?_
                              refine lv_aload_n X.1 X.2.1 d_M_issued_911 rfl (lv_at hl 1 rfl) ?_
                              refine m_get X Y 46 (by decide) lk_versions (gf_versions _ _ _) rfl d_M_issued_912 ?_
                              refine lv_aload_n X.1 X.2.1 d_M_issued_915 rfl (lv_at hl 1 rfl) ?_
                              refine r_get0 X Y (by decide) lk_service (gf_service _ _ _) rfl ((s295.2.1 76 (by decide)).trans ((s294.2.1 76 (by decide)).trans ((s286.2.1 76 (by decide)).trans ((s282.2.1 76 (by decide)).trans ((s281.2.1 76 (by decide)).trans ((s279.2.1 76 (by decide)).trans ((w278.2 76 (by decide)).trans e268))))))) d_M_issued_916 ?_
                              refine r_iald X Y S (aw_versions _ _ _ _ _ _ _) rfl (by omega) (show sv < ((12 : Nat) : Int) by omega) (by omega) d_M_issued_919 (fun z298 q298 l298 u298 => ?_)
                              refine lv_i2l X.1 X.2.1 d_M_issued_920 rfl ?_
                              refine t_anyl (fun v299 => ?_)
                              refine r_nv (m_run (As := [.int (iI 3), .int (iI 18), .long v299]) (rest := []) (n := 3) X Y hZ hA hml hl.1 (r_M_sealedField l D E h q H.size I295 J295 B294 G295 3 (by decide) (by decide) 18 (by decide) (by decide) v299 S.1 60000 (x295.trans (congrArg iI (show (60000 : Int) = 60000 by omega))) (by omega) (by omega) (60000 - z287 + 28) ((s295.2.1 36 (by decide)).trans (x294_0.trans (congrArg iI (show (60000 - z287 + 28 : Int) = 60000 - z287 + 28 by omega)))) (by omega) (by omega) (by omega)) kl_M_sealedField ks_M_sealedField kx_M_sealedField ki_M_sealedField ini_M hd_M_sealedField ⟨Nat.le_of_ble_eq_true rfl, Nat.le_of_ble_eq_true rfl⟩ rfl (Nat.le_of_ble_eq_true rfl) d_M_issued_921 ⟨Nat.le_refl _, Nat.le_refl _⟩) X Y hA S (by decide) (by decide) (fun u H locs Y S s300 p300 => ?_)
                              obtain ⟨I300, J300, B300, G300⟩ := u
                              dsimp only at Y S s300 p300
                              have f301 : pG1 I300 := (pG1_cg (s300.2.1 39 (by decide)) (s300.2.1 40 (by decide)) (pG1_cg (s295.2.1 39 (by decide)) (s295.2.1 40 (by decide)) (pG1_cg (s294.2.1 39 (by decide)) (s294.2.1 40 (by decide)) (pG1_cg rfl rfl (pG1_cg (s286.2.1 39 (by decide)) (s286.2.1 40 (by decide)) g282_P1)))))
                              obtain ⟨x300, g300_MF⟩ := p300
                              obtain ⟨z302, e302, l302, u302⟩ := x300
                              refine lv_aload_n X.1 X.2.1 d_M_issued_924 rfl (lv_at hl 1 rfl) ?_
                              refine lv_iconst (v := iI 2) X.1 X.2.1 d_M_issued_925 (by decide) ?_
                              refine lv_aload_n X.1 X.2.1 d_M_issued_926 rfl (lv_at hl 1 rfl) ?_
                              refine lv_iconst (v := iI 1) X.1 X.2.1 d_M_issued_927 (by decide) ?_
                              refine lv_iconst (v := iI 3) X.1 X.2.1 d_M_issued_928 (by decide) ?_
                              refine r_ni (m_run (As := [.int (iI 1), .int (iI 3)]) (rest := [.int (iI 2), .ref h]) (n := 2) X Y hZ hA hml hl.1 (r_M_a l D E h q H.size I300 J300 B300 G300 1 (by decide) (by decide) 3 (by decide) (by decide) S.1) kl_M_a ks_M_a kx_M_a ki_M_a ini_M hd_M_a ⟨Nat.le_of_ble_eq_true rfl, Nat.le_of_ble_eq_true rfl⟩ rfl (Nat.le_of_ble_eq_true rfl) d_M_issued_929 ⟨Nat.le_refl _, Nat.le_refl _⟩) X Y hA S (by decide) (by decide) (fun z303 u H locs Y S s303 p303 => ?_)
                              obtain ⟨I303, J303, B303, G303⟩ := u
                              dsimp only at Y S s303 p303
                              have i303 : I300 = I303 := (funext (fun j => s303.2.1 j (by simp))).symm
                              subst i303
                              have b303 : B300 = B303 := (funext (fun j => s303.2.2 j (by simp))).symm
                              subst b303
                              obtain ⟨l303, u303, x303⟩ := p303
                              refine lv_aload_n X.1 X.2.1 d_M_issued_932 rfl (lv_at hl 1 rfl) ?_
                              refine lv_iconst (v := iI 1) X.1 X.2.1 d_M_issued_933 (by decide) ?_
                              refine lv_iconst (v := iI 3) X.1 X.2.1 d_M_issued_934 (by decide) ?_
                              refine r_ni (m_run (As := [.int (iI 1), .int (iI 3)]) (rest := [.int (iI z303), .int (iI 2), .ref h]) (n := 2) X Y hZ hA hml hl.1 (r_M_b l D E h q H.size I300 J303 B300 G303 1 (by decide) (by decide) 3 (by decide) (by decide) S.1) kl_M_b ks_M_b kx_M_b ki_M_b ini_M hd_M_b ⟨Nat.le_of_ble_eq_true rfl, Nat.le_of_ble_eq_true rfl⟩ rfl (Nat.le_of_ble_eq_true rfl) d_M_issued_935 ⟨Nat.le_refl _, Nat.le_refl _⟩) X Y hA S (by decide) (by decide) (fun z304 u H locs Y S s304 p304 => ?_)
                              obtain ⟨I304, J304, B304, G304⟩ := u
                              dsimp only at Y S s304 p304
                              have i304 : I300 = I304 := (funext (fun j => s304.2.1 j (by simp))).symm
                              subst i304
                              have b304 : B300 = B304 := (funext (fun j => s304.2.2 j (by simp))).symm
                              subst b304
                              obtain ⟨l304, u304, x304⟩ := p304
                              have p305 : pr z303 z304 := by rw [x303, x304]; exact (pG2_cg rfl rfl (pG2_cg rfl rfl (pG2_cg (s300.2.2 37 (by decide)) (s300.2.2 38 (by decide)) (pG2_cg rfl rfl (pG2_cg (s294.2.2 37 (by decide)) (s294.2.2 38 (by decide)) f290))))) (16 * 1 + 3 : Int).toNat (by omega)
                              unfold pr at p305
                              have s9 : ss = _ := (ssP_cg rfl rfl (ssP_cg rfl rfl (ssP_cg (s300.2.2 37 (by decide)) (s300.2.2 38 (by decide)) (ssP_cg rfl rfl (ssP_cg (s294.2.2 37 (by decide)) (s294.2.2 38 (by decide)) f293)))))
                              refine r_nv (m_run (As := [.int (iI 2), .int (iI z303), .int (iI z304)]) (rest := []) (n := 3) X Y hZ hA hml hl.1 (r_M_copyField l D E h q H.size I300 J304 B300 G304 2 (by decide) (by decide) z303 (by omega) (by omega) z304 (by omega) (by omega) S.1 z302 e302 (by omega) (by omega) (by omega) (by omega) (by omega) (by omega)) kl_M_copyField ks_M_copyField kx_M_copyField ki_M_copyField ini_M hd_M_copyField ⟨Nat.le_of_ble_eq_true rfl, Nat.le_of_ble_eq_true rfl⟩ rfl (Nat.le_of_ble_eq_true rfl) d_M_issued_938 ⟨Nat.le_refl _, Nat.le_refl _⟩) X Y hA S (by decide) (by decide) (fun u H locs Y S s306 p306 => ?_)
                              obtain ⟨I306, J306, B306, G306⟩ := u
                              dsimp only at Y S s306 p306
                              obtain ⟨x306, g306_MF⟩ := p306
                              obtain ⟨z307, e307, l307, u307⟩ := x306
                              refine lv_aload_n X.1 X.2.1 d_M_issued_941 rfl (lv_at hl 1 rfl) ?_
                              refine lv_iconst (v := iI 1) X.1 X.2.1 d_M_issued_942 (by decide) ?_
                              refine m_ldcSW (i := 2) X (by decide) (by decide) d_M_issued_943 ?_
                              refine r_nv (m_run (As := [.int (iI 1), .ref ((D.2.1 2))]) (rest := []) (n := 2) X Y hZ hA hml hl.1 (r_M_wordField l D E h q H.size I306 J306 B306 G306 1 (by decide) (by decide) 2 (show 2 < nZ by decide) S.1 z307 e307 (by omega) (by omega)) kl_M_wordField ks_M_wordField kx_M_wordField ki_M_wordField ini_M hd_M_wordField ⟨Nat.le_of_ble_eq_true rfl, Nat.le_of_ble_eq_true rfl⟩ rfl (Nat.le_of_ble_eq_true rfl) d_M_issued_946 ⟨Nat.le_refl _, Nat.le_refl _⟩) X Y hA S (by decide) (by decide) (fun u H locs Y S s308 p308 => ?_)
                              obtain ⟨I308, J308, B308, G308⟩ := u
                              dsimp only at Y S s308 p308
                              have f309 : pG2 (B308 37) (B308 38) := (pG2_cg (s308.2.2 37 (by decide)) (s308.2.2 38 (by decide)) (pG2_cg (s306.2.2 37 (by decide)) (s306.2.2 38 (by decide)) (pG2_cg rfl rfl (pG2_cg rfl rfl (pG2_cg (s300.2.2 37 (by decide)) (s300.2.2 38 (by decide)) (pG2_cg rfl rfl (pG2_cg (s294.2.2 37 (by decide)) (s294.2.2 38 (by decide)) f290)))))))
                              have f310 : sz3 (16 * 1 + 1 : Int).toNat (16 * 1 + 3 : Int).toNat (16 * 1 + 9 : Int).toNat (B308 37) (B308 38) := (sz3_cg (s308.2.2 37 (by decide)) (s308.2.2 38 (by decide)) (sz3_cg (s306.2.2 37 (by decide)) (s306.2.2 38 (by decide)) (sz3_cg rfl rfl (sz3_cg rfl rfl (sz3_cg (s300.2.2 37 (by decide)) (s300.2.2 38 (by decide)) (sz3_cg rfl rfl (sz3_cg (s294.2.2 37 (by decide)) (s294.2.2 38 (by decide)) f291)))))))
                              have f311 : s4 (I308 69) (B308 37) (B308 38) := (s4_cg (s308.2.1 69 (by decide)) (s308.2.2 37 (by decide)) (s308.2.2 38 (by decide)) (s4_cg (s306.2.1 69 (by decide)) (s306.2.2 37 (by decide)) (s306.2.2 38 (by decide)) (s4_cg rfl rfl rfl (s4_cg rfl rfl rfl (s4_cg (s300.2.1 69 (by decide)) (s300.2.2 37 (by decide)) (s300.2.2 38 (by decide)) f296)))))
                              have f312 : thF [7] (B 37) (B 38) (B308 37) (B308 38) := (thF_cg (s308.2.2 37 (by decide)) (s308.2.2 38 (by decide)) (thF_cg (s306.2.2 37 (by decide)) (s306.2.2 38 (by decide)) (thF_cg rfl rfl (thF_cg rfl rfl (thF_cg (s300.2.2 37 (by decide)) (s300.2.2 38 (by decide)) (thF_cg rfl rfl (thF_cg (s294.2.2 37 (by decide)) (s294.2.2 38 (by decide)) f292)))))))
                              have f313 : rrP rr (I308 69) (B308 37) (B308 38) := (rrP_cg (s308.2.1 69 (by decide)) (s308.2.2 37 (by decide)) (s308.2.2 38 (by decide)) (rrP_cg (s306.2.1 69 (by decide)) (s306.2.2 37 (by decide)) (s306.2.2 38 (by decide)) (rrP_cg rfl rfl rfl (rrP_cg rfl rfl rfl (rrP_cg (s300.2.1 69 (by decide)) (s300.2.2 37 (by decide)) (s300.2.2 38 (by decide)) f297)))))
                              have f314 : ssP ss (B308 37) (B308 38) := (ssP_cg (s308.2.2 37 (by decide)) (s308.2.2 38 (by decide)) (ssP_cg (s306.2.2 37 (by decide)) (s306.2.2 38 (by decide)) (ssP_cg rfl rfl (ssP_cg rfl rfl (ssP_cg (s300.2.2 37 (by decide)) (s300.2.2 38 (by decide)) (ssP_cg rfl rfl (ssP_cg (s294.2.2 37 (by decide)) (s294.2.2 38 (by decide)) f293)))))))
                              obtain ⟨x308, g308_MF⟩ := p308
                              obtain ⟨z315, e315, l315, u315⟩ := x308
                              refine lv_aload_n X.1 X.2.1 d_M_issued_949 rfl (lv_at hl 1 rfl) ?_
                              refine lv_iconst (v := iI 0) X.1 X.2.1 d_M_issued_950 (by decide) ?_
                              refine lv_ldc2 (v := (5)) X.1 X.2.1 X.2.2.2.1 (X.2.2.1 _ cl_M_669) d_M_issued_951 ?_
                              refine r_nv (m_run (As := [.int (iI 0), .long ((5))]) (rest := []) (n := 2) X Y hZ hA hml hl.1 (r_M_numberField l D E h q H.size I308 J308 B308 G308 0 (by decide) (by decide) ((5)) S.1 z315 e315 (by omega) (by omega)) kl_M_numberField ks_M_numberField kx_M_numberField ki_M_numberField ini_M hd_M_numberField ⟨Nat.le_of_ble_eq_true rfl, Nat.le_of_ble_eq_true rfl⟩ rfl (Nat.le_of_ble_eq_true rfl) d_M_issued_954 ⟨Nat.le_refl _, Nat.le_refl _⟩) X Y hA S (by decide) (by decide) (fun u H locs Y S s316 p316 => ?_)
                              obtain ⟨I316, J316, B316, G316⟩ := u
                              dsimp only at Y S s316 p316
                              obtain ⟨x316, g316_MF⟩ := p316
                              obtain ⟨z317, e317, l317, u317⟩ := x316
                              refine lv_aload_n X.1 X.2.1 d_M_issued_957 rfl (lv_at hl 1 rfl) ?_
                              refine lv_bipush (v := iI 48) X.1 X.2.1 d_M_issued_958 (by decide) ?_
                              refine lv_ldc (v := (60000)) X.1 X.2.1 X.2.2.2.1 (X.2.2.1 _ cn_M_9) d_M_issued_960 ?_
                              refine t_eq (y := iI 60000) (by decide) ?_
                              refine r_nv (m_run (As := [.int (iI 48), .int (iI 60000)]) (rest := []) (n := 2) X Y hZ hA hml hl.1 (r_M_head l D E h q H.size I316 J316 B316 G316 48 (by decide) (by decide) 60000 (by decide) (by decide) S.1 z317 e317 (by omega) (by omega)) kl_M_head ks_M_head kx_M_head ki_M_head ini_M hd_M_head ⟨Nat.le_of_ble_eq_true rfl, Nat.le_of_ble_eq_true rfl⟩ rfl (Nat.le_of_ble_eq_true rfl) d_M_issued_962 ⟨Nat.le_refl _, Nat.le_refl _⟩) X Y hA S (by decide) (by decide) (fun u H locs Y S s318 p318 => ?_)
                              obtain ⟨I318, J318, B318, G318⟩ := u
                              dsimp only at Y S s318 p318
                              have f319 : pG1 I318 := (pG1_cg (s318.2.1 39 (by decide)) (s318.2.1 40 (by decide)) (pG1_cg (s316.2.1 39 (by decide)) (s316.2.1 40 (by decide)) (pG1_cg (s308.2.1 39 (by decide)) (s308.2.1 40 (by decide)) (pG1_cg (s306.2.1 39 (by decide)) (s306.2.1 40 (by decide)) (pG1_cg rfl rfl (pG1_cg rfl rfl f301))))))
                              obtain ⟨x318, g318_MF⟩ := p318
                              obtain ⟨z320, e320, l320, u320⟩ := x318
                              refine lv_aload_n X.1 X.2.1 d_M_issued_965 rfl (lv_at hl 1 rfl) ?_
                              refine lv_bipush (v := iI 97) X.1 X.2.1 d_M_issued_966 (by decide) ?_
                              refine lv_ldc (v := (60000)) X.1 X.2.1 X.2.2.2.1 (X.2.2.1 _ cn_M_9) d_M_issued_968 ?_
                              refine t_eq (y := iI 60000) (by decide) ?_
                              refine r_nv (m_run (As := [.int (iI 97), .int (iI 60000)]) (rest := []) (n := 2) X Y hZ hA hml hl.1 (r_M_head l D E h q H.size I318 J318 B318 G318 97 (by decide) (by decide) 60000 (by decide) (by decide) S.1 z320 e320 (by omega) (by omega)) kl_M_head ks_M_head kx_M_head ki_M_head ini_M hd_M_head ⟨Nat.le_of_ble_eq_true rfl, Nat.le_of_ble_eq_true rfl⟩ rfl (Nat.le_of_ble_eq_true rfl) d_M_issued_970 ⟨Nat.le_refl _, Nat.le_refl _⟩) X Y hA S (by decide) (by decide) (fun u H locs Y S s321 p321 => ?_)
                              obtain ⟨I321, J321, B321, G321⟩ := u
                              dsimp only at Y S s321 p321
                              have f322 : s4 (I321 69) (B321 37) (B321 38) := (s4_cg (s321.2.1 69 (by decide)) (s321.2.2 37 (by decide)) (s321.2.2 38 (by decide)) (s4_cg (s318.2.1 69 (by decide)) (s318.2.2 37 (by decide)) (s318.2.2 38 (by decide)) (s4_cg (s316.2.1 69 (by decide)) (s316.2.2 37 (by decide)) (s316.2.2 38 (by decide)) f311)))
                              have f323 : rrP rr (I321 69) (B321 37) (B321 38) := (rrP_cg (s321.2.1 69 (by decide)) (s321.2.2 37 (by decide)) (s321.2.2 38 (by decide)) (rrP_cg (s318.2.1 69 (by decide)) (s318.2.2 37 (by decide)) (s318.2.2 38 (by decide)) (rrP_cg (s316.2.1 69 (by decide)) (s316.2.2 37 (by decide)) (s316.2.2 38 (by decide)) f313)))
                              obtain ⟨x321, g321_MF⟩ := p321
                              obtain ⟨z324, e324, l324, u324⟩ := x321
                              refine lv_ldc (v := (60000)) X.1 X.2.1 X.2.2.2.1 (X.2.2.1 _ cn_M_9) d_M_issued_973 ?_
                              refine t_eq (y := iI 60000) (by decide) ?_
                              refine lv_aload_n X.1 X.2.1 d_M_issued_975 rfl (lv_at hl 1 rfl) ?_
                              refine r_get0 X Y (by decide) lk_w0 (gf_w0 _ _ _) rfl e324 d_M_issued_976 ?_
                              refine z_isub X.1 X.2.1 d_M_issued_979 ?_
                              refine lv_istore (lv' := [(13, .int (iI (60000 - z324))), (12, .int (iI (60000 - z287))), (0, .ref h)]) X.1 X.2.1 d_M_issued_980 hl (by decide) rfl (fun ls hl => ?_)
                              refine lv_iconst (v := iI 0) X.1 X.2.1 d_M_issued_982 (by decide) ?_
                              have J345 : ∀ (n347 : Nat) (z326 : Int) (I325 : Nat → Int32) (J325 : Nat → Int64) (B325 : Nat → Nat → Int32) (G325 : Nat → Nat → Int64) (H : Heap) (locs : List Loc) (ls : Array Slot), (38279 - z326).toNat = n347 → (0 ≤ z326) → (z326 ≤ 38279) → (pG1 I325) → (pG2 (B325 37) (B325 38)) → (rrP rr (I325 69) (B325 37) (B325 38)) → (sz3 (16 * 1 + 1 : Int).toNat (16 * 1 + 3 : Int).toNat (16 * 1 + 9 : Int).toNat (B325 37) (B325 38)) → (s4 (I325 69) (B325 37) (B325 38)) → (ssP ss (B325 37) (B325 38)) → (thF [7] (B 37) (B 38) (B325 37) (B325 38)) → (I325 69 = iI ia) → (I325 86 = iI z270) → (I325 87 = iI z271) → (I325 88 = iI z272) → (I325 89 = iI z254) → (I325 77 = iI ty) → (I325 75 = iI cl) → (I325 76 = iI sv) → (I325 42 = iI z324) → (I325 33 = iI (z280 + 16)) → (I325 36 = iI (60000 - z287 + 28)) → mH D E (mA E h q sz) s.heap h q I325 J325 B325 G325 H locs → rS [3, 8, 14, 18, 29, 33, 36, 39, 40, 42, 80, 81, 84, 85, 86, 87, 88, 89] [0, 1, 5, 6, 7, 9, 10, 11, 12, 13, 15, 16, 17, 19, 20, 21, 22, 23, 24, 34, 35, 37, 38, 56, 59, 60, 90] I B I325 B325 → lv_has ls 15 [(0, .ref h), (12, .int (iI (60000 - z287))), (13, .int (iI (60000 - z324))), (14, .int (iI z326))] → W p l e (mR 45 2046) s m AV below meth c H locs 0 0 QQ (F0 m 985 ls []) := by
                                intro n347
                                induction n347 using Nat.strongRecOn with
                                | ind n347 ih346 =>
                                  intro z326 I325 J325 B325 G325 H locs ls hm348 l326 u326 f327 f328 f329 f330 f331 f332 f333 e334 e335 e336 e337 e338 e339 e340 e341 e342 e343 e344 Y S hl
                                  refine lv_iload X.1 X.2.1 d_M_issued_985 (lv_at hl 3 rfl) ?_
                                  refine lv_iload X.1 X.2.1 d_M_issued_987 (lv_at hl 2 rfl) ?_
                                  refine z_icmp_ge (tgt := 1021) X.1 X.2.1 d_M_issued_989 (by decide) ⟨by omega, by omega⟩ ⟨by omega, by omega⟩ (fun h349 => ?_) (fun h349 => ?_)
                                  · refine lv_aload_n X.1 X.2.1 d_M_issued_1021 rfl (lv_at hl 0 rfl) ?_
                                    refine lv_iload X.1 X.2.1 d_M_issued_1022 (lv_at hl 2 rfl) ?_
                                    refine r_nv (m_run (As := [.int (iI (60000 - z324))]) (rest := []) (n := 1) X Y hZ hA hml hl.1 (r_M_reply l D E h q H.size I325 J325 B325 G325 (60000 - z324) (by omega) (by omega) S.1 cl e340 (by omega) (by omega) ty e339 (by omega) (by omega) (z280 + 16) e343 (by omega) (by omega) z270 e335 (by omega) (by omega) z271 e336 (by omega) (by omega) z272 e337 (by omega) (by omega) z254 e338 (by omega) (by omega) ia e334 (by omega) (by omega) rr ss f327 f328 f329 f332 (by omega) (by omega) (by omega) (by omega) (by omega) (by omega) (by omega) (by omega) (by omega)) kl_M_reply ks_M_reply kx_M_reply ki_M_reply ini_M hd_M_reply ⟨Nat.le_of_ble_eq_true rfl, Nat.le_of_ble_eq_true rfl⟩ rfl (Nat.le_of_ble_eq_true rfl) d_M_issued_1024 ⟨Nat.le_refl _, Nat.le_refl _⟩) X Y hA S (by decide) (by decide) (fun u H locs Y S s350 p350 => ?_)
                                    obtain ⟨I350, J350, B350, G350⟩ := u
                                    dsimp only at Y S s350 p350
                                    obtain ⟨x350, g350_P1, g350_P2, g350_TF⟩ := p350
                                    have f351 : sz3 (16 * 1 + 1 : Int).toNat (16 * 1 + 3 : Int).toNat (16 * 1 + 9 : Int).toNat (B350 37) (B350 38) := sz3_T g350_TF (by decide) (by decide) f330
                                    have f352 : s4 (I350 69) (B350 37) (B350 38) := s4_cg (s350.2.1 69 (by decide)) rfl rfl (s4_T g350_TF (by decide) f331)
                                    have f353 : rrP rr (I350 69) (B350 37) (B350 38) := rrP_cg (s350.2.1 69 (by decide)) rfl rfl (rrP_T g350_TF (by decide) f329)
                                    have f354 : ssP ss (B350 37) (B350 38) := ssP_T g350_TF (by decide) f332
                                    obtain ⟨z355, e355, l355, u355⟩ := x350
                                    refine lv_iload X.1 X.2.1 d_M_issued_1027 (lv_at hl 1 rfl) ?_
                                    refine z_if_le (tgt := 1036) X.1 X.2.1 d_M_issued_1029 (by decide) ⟨by omega, by omega⟩ (fun h356 => ?_) (fun h356 => ?_)
                                    · refine lv_bipush (v := iI 60) X.1 X.2.1 d_M_issued_1036 (by decide) ?_
                                      exact m_reti hQQ X Y hr hlk ⟨S, 60, rfl, ⟨by omega, by omega, ⟨z355, e355, by omega, by omega⟩, g350_P1, g350_P2, (thF_tr f333 g350_TF (by decide))⟩⟩ d_M_issued_1038
                                    · refine lv_iconst (v := iI 0) X.1 X.2.1 d_M_issued_1032 (by decide) ?_
                                      refine lv_goto (tgt := 1038) X.1 X.2.1 d_M_issued_1033 (by decide) ?_
                                      exact m_reti hQQ X Y hr hlk ⟨S, 0, rfl, ⟨by omega, by omega, ⟨z355, e355, by omega, by omega⟩, g350_P1, g350_P2, (thF_tr f333 g350_TF (by decide))⟩⟩ d_M_issued_1038
                                  · refine lv_aload_n X.1 X.2.1 d_M_issued_992 rfl (lv_at hl 0 rfl) ?_
                                    refine m_get X Y 0 (by decide) lk_mem (gf_mem _ _ _) rfl d_M_issued_993 ?_
                                    refine lv_sipush (v := iI 22200) X.1 X.2.1 d_M_issued_996 (by decide) ?_
                                    refine lv_iload X.1 X.2.1 d_M_issued_999 (lv_at hl 3 rfl) ?_
                                    refine z_iadd X.1 X.2.1 d_M_issued_1001 ?_
                                    refine lv_aload_n X.1 X.2.1 d_M_issued_1002 rfl (lv_at hl 0 rfl) ?_
                                    refine m_get X Y 0 (by decide) lk_mem (gf_mem _ _ _) rfl d_M_issued_1003 ?_
                                    refine lv_aload_n X.1 X.2.1 d_M_issued_1006 rfl (lv_at hl 0 rfl) ?_
                                    refine r_get0 X Y (by decide) lk_w0 (gf_w0 _ _ _) rfl e342 d_M_issued_1007 ?_
                                    refine lv_iload X.1 X.2.1 d_M_issued_1010 (lv_at hl 3 rfl) ?_
                                    refine z_iadd X.1 X.2.1 d_M_issued_1012 ?_
                                    refine r_bald X Y S (aw_mem _ _ _ _ _ _ _) rfl (by omega) (show z324 + z326 < ((60000 : Nat) : Int) by omega) (by omega) d_M_issued_1013 (fun z357 q357 l357 u357 => ?_)
                                    refine r_bast X Y S (aw_mem _ _ _ _ _ _ _) (sw_mem _ _ _ _ _ _ _) rfl (by omega) (show 22200 + z326 < ((60000 : Nat) : Int) by omega) (by omega) (by decide) d_M_issued_1014 (fun B358 H locs Y S w358 => ?_)
                                    refine lv_iinc (v := iI (z326 + 1)) (lv' := [(14, .int (iI (z326 + 1))), (0, .ref h), (12, .int (iI (60000 - z287))), (13, .int (iI (60000 - z324)))]) X.1 X.2.1 d_M_issued_1015 hl (k := 3) rfl ((iI_add _ _).trans (congrArg iI (by omega))) (by decide) rfl (fun ls hl => ?_)
                                    refine lv_goto (tgt := 985) X.1 X.2.1 d_M_issued_1018 (by decide) ?_
                                    exact ih346 ((38279 - (z326 + 1)).toNat) (by omega) (z326 + 1) I325 J325 B358 G325 _ _ _ rfl (by omega) (by omega) (pG1_cg rfl rfl f327) (pG2_cg (w358.2 37 (by decide)) (w358.2 38 (by decide)) f328) (rrP_cg rfl (w358.2 37 (by decide)) (w358.2 38 (by decide)) f329) (sz3_cg (w358.2 37 (by decide)) (w358.2 38 (by decide)) f330) (s4_cg rfl (w358.2 37 (by decide)) (w358.2 38 (by decide)) f331) (ssP_cg (w358.2 37 (by decide)) (w358.2 38 (by decide)) f332) (thF_cg (w358.2 37 (by decide)) (w358.2 38 (by decide)) f333) e334 e335 e336 e337 e338 e339 e340 e341 e342 e343 e344 Y S (lv_sub hl [1, 2, 3, 0] rfl)
                              refine lv_istore (lv' := [(14, .int (iI 0)), (13, .int (iI (60000 - z324))), (12, .int (iI (60000 - z287))), (0, .ref h)]) X.1 X.2.1 d_M_issued_983 hl (by decide) rfl (fun ls hl => ?_)
                              exact J345 _ 0 I321 J321 B321 G321 _ _ _ rfl (by omega) (by omega) (pG1_cg (s321.2.1 39 (by decide)) (s321.2.1 40 (by decide)) f319) (pG2_cg (s321.2.2 37 (by decide)) (s321.2.2 38 (by decide)) (pG2_cg (s318.2.2 37 (by decide)) (s318.2.2 38 (by decide)) (pG2_cg (s316.2.2 37 (by decide)) (s316.2.2 38 (by decide)) f309))) f323 (sz3_cg (s321.2.2 37 (by decide)) (s321.2.2 38 (by decide)) (sz3_cg (s318.2.2 37 (by decide)) (s318.2.2 38 (by decide)) (sz3_cg (s316.2.2 37 (by decide)) (s316.2.2 38 (by decide)) f310))) f322 (ssP_cg (s321.2.2 37 (by decide)) (s321.2.2 38 (by decide)) (ssP_cg (s318.2.2 37 (by decide)) (s318.2.2 38 (by decide)) (ssP_cg (s316.2.2 37 (by decide)) (s316.2.2 38 (by decide)) f314))) (thF_cg (s321.2.2 37 (by decide)) (s321.2.2 38 (by decide)) (thF_cg (s318.2.2 37 (by decide)) (s318.2.2 38 (by decide)) (thF_cg (s316.2.2 37 (by decide)) (s316.2.2 38 (by decide)) f312))) ((s321.2.1 69 (by decide)).trans ((s318.2.1 69 (by decide)).trans ((s316.2.1 69 (by decide)).trans ((s308.2.1 69 (by decide)).trans ((s306.2.1 69 (by decide)).trans ((s300.2.1 69 (by decide)).trans ((s295.2.1 69 (by decide)).trans ((s294.2.1 69 (by decide)).trans ((s286.2.1 69 (by decide)).trans ((s282.2.1 69 (by decide)).trans ((s281.2.1 69 (by decide)).trans ((s279.2.1 69 (by decide)).trans ((w278.2 69 (by decide)).trans e262))))))))))))) ((s321.2.1 86 (by decide)).trans ((s318.2.1 86 (by decide)).trans ((s316.2.1 86 (by decide)).trans ((s308.2.1 86 (by decide)).trans ((s306.2.1 86 (by decide)).trans ((s300.2.1 86 (by decide)).trans ((s295.2.1 86 (by decide)).trans ((s294.2.1 86 (by decide)).trans ((s286.2.1 86 (by decide)).trans ((s282.2.1 86 (by decide)).trans ((s281.2.1 86 (by decide)).trans ((s279.2.1 86 (by decide)).trans ((w278.2 86 (by decide)).trans e270))))))))))))) ((s321.2.1 87 (by decide)).trans ((s318.2.1 87 (by decide)).trans ((s316.2.1 87 (by decide)).trans ((s308.2.1 87 (by decide)).trans ((s306.2.1 87 (by decide)).trans ((s300.2.1 87 (by decide)).trans ((s295.2.1 87 (by decide)).trans ((s294.2.1 87 (by decide)).trans ((s286.2.1 87 (by decide)).trans ((s282.2.1 87 (by decide)).trans ((s281.2.1 87 (by decide)).trans ((s279.2.1 87 (by decide)).trans ((w278.2 87 (by decide)).trans e271))))))))))))) ((s321.2.1 88 (by decide)).trans ((s318.2.1 88 (by decide)).trans ((s316.2.1 88 (by decide)).trans ((s308.2.1 88 (by decide)).trans ((s306.2.1 88 (by decide)).trans ((s300.2.1 88 (by decide)).trans ((s295.2.1 88 (by decide)).trans ((s294.2.1 88 (by decide)).trans ((s286.2.1 88 (by decide)).trans ((s282.2.1 88 (by decide)).trans ((s281.2.1 88 (by decide)).trans ((s279.2.1 88 (by decide)).trans ((w278.2 88 (by decide)).trans e272))))))))))))) ((s321.2.1 89 (by decide)).trans ((s318.2.1 89 (by decide)).trans ((s316.2.1 89 (by decide)).trans ((s308.2.1 89 (by decide)).trans ((s306.2.1 89 (by decide)).trans ((s300.2.1 89 (by decide)).trans ((s295.2.1 89 (by decide)).trans ((s294.2.1 89 (by decide)).trans ((s286.2.1 89 (by decide)).trans ((s282.2.1 89 (by decide)).trans ((s281.2.1 89 (by decide)).trans ((s279.2.1 89 (by decide)).trans w278.1)))))))))))) ((s321.2.1 77 (by decide)).trans ((s318.2.1 77 (by decide)).trans ((s316.2.1 77 (by decide)).trans ((s308.2.1 77 (by decide)).trans ((s306.2.1 77 (by decide)).trans ((s300.2.1 77 (by decide)).trans ((s295.2.1 77 (by decide)).trans ((s294.2.1 77 (by decide)).trans ((s286.2.1 77 (by decide)).trans ((s282.2.1 77 (by decide)).trans ((s281.2.1 77 (by decide)).trans ((s279.2.1 77 (by decide)).trans ((w278.2 77 (by decide)).trans e266))))))))))))) ((s321.2.1 75 (by decide)).trans ((s318.2.1 75 (by decide)).trans ((s316.2.1 75 (by decide)).trans ((s308.2.1 75 (by decide)).trans ((s306.2.1 75 (by decide)).trans ((s300.2.1 75 (by decide)).trans ((s295.2.1 75 (by decide)).trans ((s294.2.1 75 (by decide)).trans ((s286.2.1 75 (by decide)).trans ((s282.2.1 75 (by decide)).trans ((s281.2.1 75 (by decide)).trans ((s279.2.1 75 (by decide)).trans ((w278.2 75 (by decide)).trans e267))))))))))))) ((s321.2.1 76 (by decide)).trans ((s318.2.1 76 (by decide)).trans ((s316.2.1 76 (by decide)).trans ((s308.2.1 76 (by decide)).trans ((s306.2.1 76 (by decide)).trans ((s300.2.1 76 (by decide)).trans ((s295.2.1 76 (by decide)).trans ((s294.2.1 76 (by decide)).trans ((s286.2.1 76 (by decide)).trans ((s282.2.1 76 (by decide)).trans ((s281.2.1 76 (by decide)).trans ((s279.2.1 76 (by decide)).trans ((w278.2 76 (by decide)).trans e268))))))))))))) e324 ((s321.2.1 33 (by decide)).trans ((s318.2.1 33 (by decide)).trans ((s316.2.1 33 (by decide)).trans ((s308.2.1 33 (by decide)).trans ((s306.2.1 33 (by decide)).trans ((s300.2.1 33 (by decide)).trans ((s295.2.1 33 (by decide)).trans (x294_1.trans (congrArg iI (show (z280 + 16 : Int) = z280 + 16 by omega)))))))))) ((s321.2.1 36 (by decide)).trans ((s318.2.1 36 (by decide)).trans ((s316.2.1 36 (by decide)).trans ((s308.2.1 36 (by decide)).trans ((s306.2.1 36 (by decide)).trans ((s300.2.1 36 (by decide)).trans ((s295.2.1 36 (by decide)).trans (x294_0.trans (congrArg iI (show (60000 - z287 + 28 : Int) = 60000 - z287 + 28 by omega)))))))))) Y S (lv_sub hl [3, 2, 1, 0] rfl)
                            refine z_if_eq (tgt := 817) X.1 X.2.1 d_M_issued_805 (by decide) ⟨by omega, by omega⟩ (fun h359 => False.elim (by omega)) (fun h359 => ?_)
                            · refine lv_aload_n X.1 X.2.1 d_M_issued_808 rfl (lv_at hl 1 rfl) ?_
                              refine lv_iconst (v := iI 1) X.1 X.2.1 d_M_issued_809 (by decide) ?_
                              refine lv_iconst (v := iI 1) X.1 X.2.1 d_M_issued_810 (by decide) ?_
                              refine r_ni (m_run (As := [.int (iI 1), .int (iI 1)]) (rest := [.ref h]) (n := 2) X Y hZ hA hml hl.1 (r_M_b l D E h q H.size I251 J249 B217 G249 1 (by decide) (by decide) 1 (by decide) (by decide) S.1) kl_M_b ks_M_b kx_M_b ki_M_b ini_M hd_M_b ⟨Nat.le_of_ble_eq_true rfl, Nat.le_of_ble_eq_true rfl⟩ rfl (Nat.le_of_ble_eq_true rfl) d_M_issued_811 ⟨Nat.le_refl _, Nat.le_refl _⟩) X Y hA S (by decide) (by decide) (fun z360 u H locs Y S s360 p360 => ?_)
                              obtain ⟨I360, J360, B360, G360⟩ := u
                              dsimp only at Y S s360 p360
                              have i360 : I251 = I360 := (funext (fun j => s360.2.1 j (by simp))).symm
                              subst i360
                              have b360 : B217 = B360 := (funext (fun j => s360.2.2 j (by simp))).symm
                              subst b360
                              obtain ⟨l360, u360, x360⟩ := p360
                              have p361 : pr z249 z360 := by rw [x249, x360]; exact (pG2_cg rfl rfl (pG2_cg rfl rfl (pG2_cg rfl rfl (pG2_cg rfl rfl (pG2_cg rfl rfl (pG2_cg rfl rfl (pG2_cg rfl rfl (pG2_cg rfl rfl (pG2_cg rfl rfl (pG2_cg rfl rfl f220)))))))))) (16 * 1 + 1 : Int).toNat (by omega)
                              unfold pr at p361
                              refine lv_goto (tgt := 823) X.1 X.2.1 d_M_issued_814 (by decide) ?_
                              exact J274 z360 z241 z244 z249 I251 J360 B217 G360 _ _ _ (by omega) (by omega) (pG1_cg rfl rfl (pG1_cg (w251.2 39 (by decide)) (w251.2 40 (by decide)) (pG1_cg rfl rfl f247))) (pG2_cg rfl rfl (pG2_cg rfl rfl (pG2_cg rfl rfl (pG2_cg rfl rfl (pG2_cg rfl rfl (pG2_cg rfl rfl (pG2_cg rfl rfl (pG2_cg rfl rfl (pG2_cg rfl rfl (pG2_cg rfl rfl f220)))))))))) (rrP_cg rfl rfl rfl (rrP_cg (w251.2 69 (by decide)) rfl rfl f250)) (sz3_cg rfl rfl (sz3_cg rfl rfl (sz3_cg rfl rfl (sz3_cg rfl rfl (sz3_cg rfl rfl (sz3_cg rfl rfl (sz3_cg rfl rfl (sz3_cg rfl rfl (sz3_cg rfl rfl (sz3_cg rfl rfl f222)))))))))) (s4_cg rfl rfl rfl f252) (ssP_cg rfl rfl (ssP_cg rfl rfl (ssP_cg rfl rfl (ssP_cg rfl rfl (ssP_cg rfl rfl (ssP_cg rfl rfl (ssP_cg rfl rfl (ssP_cg rfl rfl (ssP_cg rfl rfl (ssP_cg rfl rfl f224)))))))))) (thF_cg rfl rfl (thF_cg rfl rfl (thF_cg rfl rfl (thF_cg rfl rfl (thF_cg rfl rfl (thF_cg rfl rfl (thF_cg rfl rfl (thF_cg rfl rfl (thF_cg rfl rfl (thF_cg rfl rfl f225)))))))))) ((w251.2 69 (by decide)).trans ((w246.2 69 (by decide)).trans ((w242.2 69 (by decide)).trans ((w239.2 69 (by decide)).trans ((w235.2 69 (by decide)).trans e226))))) ((w251.2 86 (by decide)).trans ((w246.2 86 (by decide)).trans w242.1)) ((w251.2 87 (by decide)).trans w246.1) w251.1 ((w251.2 77 (by decide)).trans ((w246.2 77 (by decide)).trans ((w242.2 77 (by decide)).trans ((w239.2 77 (by decide)).trans ((w235.2 77 (by decide)).trans e227))))) ((w251.2 75 (by decide)).trans ((w246.2 75 (by decide)).trans ((w242.2 75 (by decide)).trans ((w239.2 75 (by decide)).trans ((w235.2 75 (by decide)).trans e228))))) ((w251.2 76 (by decide)).trans ((w246.2 76 (by decide)).trans ((w242.2 76 (by decide)).trans ((w239.2 76 (by decide)).trans ((w235.2 76 (by decide)).trans e229))))) ((w251.2 33 (by decide)).trans ((w246.2 33 (by decide)).trans ((w242.2 33 (by decide)).trans ((w239.2 33 (by decide)).trans ((w235.2 33 (by decide)).trans e230))))) ((w251.2 86 (by decide)).trans ((w246.2 86 (by decide)).trans w242.1)) (by omega) (by omega) ((w251.2 87 (by decide)).trans w246.1) (by omega) (by omega) w251.1 (by omega) (by omega) (by have q0 := (pG2_cg rfl rfl (pG2_cg rfl rfl (pG2_cg rfl rfl (pG2_cg rfl rfl (pG2_cg rfl rfl (pG2_cg rfl rfl (pG2_cg rfl rfl (pG2_cg rfl rfl (pG2_cg rfl rfl (pG2_cg rfl rfl f220)))))))))) (16 * 1 + 1 : Int).toNat (by decide); have q1 := (pG2_cg rfl rfl (pG2_cg rfl rfl (pG2_cg rfl rfl (pG2_cg rfl rfl (pG2_cg rfl rfl (pG2_cg rfl rfl (pG2_cg rfl rfl (pG2_cg rfl rfl (pG2_cg rfl rfl (pG2_cg rfl rfl f220)))))))))) (16 * 1 + 3 : Int).toNat (by decide); have q2 := (pG2_cg rfl rfl (pG2_cg rfl rfl (pG2_cg rfl rfl (pG2_cg rfl rfl (pG2_cg rfl rfl (pG2_cg rfl rfl (pG2_cg rfl rfl (pG2_cg rfl rfl (pG2_cg rfl rfl (pG2_cg rfl rfl f220)))))))))) (16 * 1 + 9 : Int).toNat (by decide); have q3 := (pG2_cg rfl rfl (pG2_cg rfl rfl (pG2_cg rfl rfl (pG2_cg rfl rfl (pG2_cg rfl rfl (pG2_cg rfl rfl (pG2_cg rfl rfl (pG2_cg rfl rfl (pG2_cg rfl rfl (pG2_cg rfl rfl f220)))))))))) (16 * 4 + 2 : Int).toNat (by decide); have q4 := (pG2_cg rfl rfl (pG2_cg rfl rfl (pG2_cg rfl rfl (pG2_cg rfl rfl (pG2_cg rfl rfl (pG2_cg rfl rfl (pG2_cg rfl rfl (pG2_cg rfl rfl (pG2_cg rfl rfl (pG2_cg rfl rfl f220)))))))))) (16 * 4 + 3 : Int).toNat (by decide); have q5 := (pG2_cg rfl rfl (pG2_cg rfl rfl (pG2_cg rfl rfl (pG2_cg rfl rfl (pG2_cg rfl rfl (pG2_cg rfl rfl (pG2_cg rfl rfl (pG2_cg rfl rfl (pG2_cg rfl rfl (pG2_cg rfl rfl f220)))))))))) (16 * 4 + 9 : Int).toNat (by decide); unfold pr at q0 q1 q2 q3 q4 q5; have k1 := (sz3_cg rfl rfl (sz3_cg rfl rfl (sz3_cg rfl rfl (sz3_cg rfl rfl (sz3_cg rfl rfl (sz3_cg rfl rfl (sz3_cg rfl rfl (sz3_cg rfl rfl (sz3_cg rfl rfl (sz3_cg rfl rfl f222)))))))))); unfold sz3 at k1; have k3 := (ssP_cg rfl rfl (ssP_cg rfl rfl (ssP_cg rfl rfl (ssP_cg rfl rfl (ssP_cg rfl rfl (ssP_cg rfl rfl (ssP_cg rfl rfl (ssP_cg rfl rfl (ssP_cg rfl rfl (ssP_cg rfl rfl f224)))))))))); unfold ssP at k3; have k2 := rr_1 (rrP_cg rfl rfl rfl (rrP_cg (w251.2 69 (by decide)) rfl rfl f250)) ((w251.2 69 (by decide)).trans ((w246.2 69 (by decide)).trans ((w242.2 69 (by decide)).trans ((w239.2 69 (by decide)).trans ((w235.2 69 (by decide)).trans e226))))) (by omega); omega) Y S (lv_sub hl [1] rfl)
                  · refine lv_aload_n X.1 X.2.1 d_M_issued_671 rfl (lv_at hl 0 rfl) ?_
                    refine lv_iload_n X.1 X.2.1 d_M_issued_672 rfl (lv_at hl 1 rfl) ?_
                    refine lv_iconst (v := iI 2) X.1 X.2.1 d_M_issued_673 (by decide) ?_
                    refine r_ni (m_run (As := [.int (iI z101), .int (iI 2)]) (rest := []) (n := 2) X Y hZ hA hml hl.1 (r_M_bit l D E h q H.size I235 J217 B217 G217 z101 (by omega) (by omega) 2 (by decide) (by decide) S.1) kl_M_bit ks_M_bit kx_M_bit ki_M_bit ini_M hd_M_bit ⟨Nat.le_of_ble_eq_true rfl, Nat.le_of_ble_eq_true rfl⟩ rfl (Nat.le_of_ble_eq_true rfl) d_M_issued_674 ⟨Nat.le_refl _, Nat.le_refl _⟩) X Y hA S (by decide) (by decide) (fun z362 u H locs Y S s362 p362 => ?_)
                    obtain ⟨I362, J362, B362, G362⟩ := u
                    dsimp only at Y S s362 p362
                    have i362 : I235 = I362 := (funext (fun j => s362.2.1 j (by simp))).symm
                    subst i362
                    have b362 : B217 = B362 := (funext (fun j => s362.2.2 j (by simp))).symm
                    subst b362
                    obtain ⟨l362, u362⟩ := p362
                    refine z_if_ne (tgt := 689) X.1 X.2.1 d_M_issued_677 (by decide) ⟨by omega, by omega⟩ (fun h363 => ?_) (fun h363 => ?_)
                    · refine lv_iconst (v := iI 1) X.1 X.2.1 d_M_issued_689 (by decide) ?_
                      refine lv_goto (tgt := 694) X.1 X.2.1 d_M_issued_690 (by decide) ?_
                      refine lv_istore (lv' := [(11, .int (iI 1)), (0, .ref h), (1, .int (iI z101)), (10, .int (iI z218))]) X.1 X.2.1 d_M_issued_694 hl (by decide) rfl (fun ls hl => ?_)
                      refine lv_aload_n X.1 X.2.1 d_M_issued_696 rfl (lv_at hl 1 rfl) ?_
                      refine lv_iload X.1 X.2.1 d_M_issued_697 (lv_at hl 0 rfl) ?_
                      refine z_if_eq (tgt := 712) X.1 X.2.1 d_M_issued_699 (by decide) ⟨by decide, by decide⟩ (fun h364 => False.elim (by omega)) (fun h364 => ?_)
                      · refine lv_aload_n X.1 X.2.1 d_M_issued_702 rfl (lv_at hl 1 rfl) ?_
                        refine lv_iconst (v := iI 1) X.1 X.2.1 d_M_issued_703 (by decide) ?_
                        refine lv_bipush (v := iI 9) X.1 X.2.1 d_M_issued_704 (by decide) ?_
                        refine r_ni (m_run (As := [.int (iI 1), .int (iI 9)]) (rest := [.ref h]) (n := 2) X Y hZ hA hml hl.1 (r_M_has l D E h q H.size I235 J362 B217 G362 1 (by decide) (by decide) 9 (by decide) (by decide) S.1) kl_M_has ks_M_has kx_M_has ki_M_has ini_M hd_M_has ⟨Nat.le_of_ble_eq_true rfl, Nat.le_of_ble_eq_true rfl⟩ rfl (Nat.le_of_ble_eq_true rfl) d_M_issued_706 ⟨Nat.le_refl _, Nat.le_refl _⟩) X Y hA S (by decide) (by decide) (fun z365 u H locs Y S s365 p365 => ?_)
                        obtain ⟨I365, J365, B365, G365⟩ := u
                        dsimp only at Y S s365 p365
                        have i365 : I235 = I365 := (funext (fun j => s365.2.1 j (by simp))).symm
                        subst i365
                        have b365 : B217 = B365 := (funext (fun j => s365.2.2 j (by simp))).symm
                        subst b365
                        obtain ⟨l365, u365, x365⟩ := p365
                        refine lv_goto (tgt := 719) X.1 X.2.1 d_M_issued_709 (by decide) ?_
                        refine r_puti (k := 85) X Y S (by decide) lk_hasAddress rfl rfl (t_M_ok 85 (by decide)) (iI_bool (by omega) (by omega)).1 (iI_bool (by omega) (by omega)).2 (sf_hasAddress _ _ _ _) (Nat.le_of_ble_eq_true rfl) rfl (show (0 : Int) ≤ z365 by omega) (show z365 ≤ (1 : Int) by omega) ⟨by omega, by omega⟩ (by decide) d_M_issued_719 (fun I366 H locs Y S w366 => ?_)
                        refine lv_aload_n X.1 X.2.1 d_M_issued_722 rfl (lv_at hl 1 rfl) ?_
                        refine lv_iload X.1 X.2.1 d_M_issued_723 (lv_at hl 0 rfl) ?_
                        refine z_if_eq (tgt := 738) X.1 X.2.1 d_M_issued_725 (by decide) ⟨by decide, by decide⟩ (fun h367 => False.elim (by omega)) (fun h367 => ?_)
                        · refine lv_aload_n X.1 X.2.1 d_M_issued_728 rfl (lv_at hl 1 rfl) ?_
                          refine lv_iconst (v := iI 1) X.1 X.2.1 d_M_issued_729 (by decide) ?_
                          refine lv_bipush (v := iI 9) X.1 X.2.1 d_M_issued_730 (by decide) ?_
                          refine r_ni (m_run (As := [.int (iI 1), .int (iI 9)]) (rest := [.ref h]) (n := 2) X Y hZ hA hml hl.1 (r_M_a l D E h q H.size I366 J365 B217 G365 1 (by decide) (by decide) 9 (by decide) (by decide) S.1) kl_M_a ks_M_a kx_M_a ki_M_a ini_M hd_M_a ⟨Nat.le_of_ble_eq_true rfl, Nat.le_of_ble_eq_true rfl⟩ rfl (Nat.le_of_ble_eq_true rfl) d_M_issued_732 ⟨Nat.le_refl _, Nat.le_refl _⟩) X Y hA S (by decide) (by decide) (fun z368 u H locs Y S s368 p368 => ?_)
                          obtain ⟨I368, J368, B368, G368⟩ := u
                          dsimp only at Y S s368 p368
                          have i368 : I366 = I368 := (funext (fun j => s368.2.1 j (by simp))).symm
                          subst i368
                          have b368 : B217 = B368 := (funext (fun j => s368.2.2 j (by simp))).symm
                          subst b368
                          obtain ⟨l368, u368, x368⟩ := p368
                          refine lv_goto (tgt := 745) X.1 X.2.1 d_M_issued_735 (by decide) ?_
                          refine r_puti (k := 86) X Y S (by decide) lk_addressAt rfl rfl (t_M_ok 86 (by decide)) rfl rfl (sf_addressAt _ _ _ _) (Nat.le_of_ble_eq_true rfl) rfl (show ((-2147483648) : Int) ≤ z368 by omega) (show z368 ≤ (2147483647 : Int) by omega) ⟨by omega, by omega⟩ (by decide) d_M_issued_745 (fun I369 H locs Y S w369 => ?_)
                          refine lv_aload_n X.1 X.2.1 d_M_issued_748 rfl (lv_at hl 1 rfl) ?_
                          refine lv_iload X.1 X.2.1 d_M_issued_749 (lv_at hl 0 rfl) ?_
                          refine z_if_eq (tgt := 764) X.1 X.2.1 d_M_issued_751 (by decide) ⟨by decide, by decide⟩ (fun h370 => False.elim (by omega)) (fun h370 => ?_)
                          · refine lv_aload_n X.1 X.2.1 d_M_issued_754 rfl (lv_at hl 1 rfl) ?_
                            refine lv_iconst (v := iI 1) X.1 X.2.1 d_M_issued_755 (by decide) ?_
                            refine lv_bipush (v := iI 9) X.1 X.2.1 d_M_issued_756 (by decide) ?_
                            refine r_ni (m_run (As := [.int (iI 1), .int (iI 9)]) (rest := [.ref h]) (n := 2) X Y hZ hA hml hl.1 (r_M_b l D E h q H.size I369 J368 B217 G368 1 (by decide) (by decide) 9 (by decide) (by decide) S.1) kl_M_b ks_M_b kx_M_b ki_M_b ini_M hd_M_b ⟨Nat.le_of_ble_eq_true rfl, Nat.le_of_ble_eq_true rfl⟩ rfl (Nat.le_of_ble_eq_true rfl) d_M_issued_758 ⟨Nat.le_refl _, Nat.le_refl _⟩) X Y hA S (by decide) (by decide) (fun z371 u H locs Y S s371 p371 => ?_)
                            obtain ⟨I371, J371, B371, G371⟩ := u
                            dsimp only at Y S s371 p371
                            have i371 : I369 = I371 := (funext (fun j => s371.2.1 j (by simp))).symm
                            subst i371
                            have b371 : B217 = B371 := (funext (fun j => s371.2.2 j (by simp))).symm
                            subst b371
                            obtain ⟨l371, u371, x371⟩ := p371
                            have p372 : pr z368 z371 := by rw [x368, x371]; exact (pG2_cg rfl rfl (pG2_cg rfl rfl (pG2_cg rfl rfl (pG2_cg rfl rfl (pG2_cg rfl rfl (pG2_cg rfl rfl (pG2_cg rfl rfl f220))))))) (16 * 1 + 9 : Int).toNat (by omega)
                            unfold pr at p372
                            refine lv_goto (tgt := 771) X.1 X.2.1 d_M_issued_761 (by decide) ?_
                            refine r_puti (k := 87) X Y S (by decide) lk_addressEnd rfl rfl (t_M_ok 87 (by decide)) rfl rfl (sf_addressEnd _ _ _ _) (Nat.le_of_ble_eq_true rfl) rfl (show ((-2147483648) : Int) ≤ z371 by omega) (show z371 ≤ (2147483647 : Int) by omega) ⟨by omega, by omega⟩ (by decide) d_M_issued_771 (fun I373 H locs Y S w373 => ?_)
                            have f374 : rrP rr (I373 69) (B217 37) (B217 38) := (rrP_cg (w373.2 69 (by decide)) rfl rfl (rrP_cg rfl rfl rfl (rrP_cg (w369.2 69 (by decide)) rfl rfl (rrP_cg rfl rfl rfl (rrP_cg (w366.2 69 (by decide)) rfl rfl (rrP_cg rfl rfl rfl (rrP_cg rfl rfl rfl (rrP_cg (w235.2 69 (by decide)) rfl rfl f221))))))))
                            have f375 : pG1 I373 := (pG1_cg (w373.2 39 (by decide)) (w373.2 40 (by decide)) (pG1_cg rfl rfl (pG1_cg (w369.2 39 (by decide)) (w369.2 40 (by decide)) (pG1_cg rfl rfl (pG1_cg (w366.2 39 (by decide)) (w366.2 40 (by decide)) (pG1_cg rfl rfl (pG1_cg rfl rfl (pG1_cg (w235.2 39 (by decide)) (w235.2 40 (by decide)) f219))))))))
                            refine lv_aload_n X.1 X.2.1 d_M_issued_774 rfl (lv_at hl 1 rfl) ?_
                            refine lv_aload_n X.1 X.2.1 d_M_issued_775 rfl (lv_at hl 1 rfl) ?_
                            refine r_get0 X Y (by decide) lk_isAs (gf_isAs _ _ _) rfl ((w373.2 69 (by decide)).trans ((w369.2 69 (by decide)).trans ((w366.2 69 (by decide)).trans ((w235.2 69 (by decide)).trans e226)))) d_M_issued_776 ?_
                            refine z_if_eq (tgt := 791) X.1 X.2.1 d_M_issued_779 (by decide) ⟨by omega, by omega⟩ (fun h376 => ?_) (fun h376 => False.elim (by omega))
                            · refine lv_aload_n X.1 X.2.1 d_M_issued_791 rfl (lv_at hl 1 rfl) ?_
                              refine lv_iconst (v := iI 4) X.1 X.2.1 d_M_issued_792 (by decide) ?_
                              refine lv_iconst (v := iI 3) X.1 X.2.1 d_M_issued_793 (by decide) ?_
                              refine r_ni (m_run (As := [.int (iI 4), .int (iI 3)]) (rest := [.ref h]) (n := 2) X Y hZ hA hml hl.1 (r_M_a l D E h q H.size I373 J371 B217 G371 4 (by decide) (by decide) 3 (by decide) (by decide) S.1) kl_M_a ks_M_a kx_M_a ki_M_a ini_M hd_M_a ⟨Nat.le_of_ble_eq_true rfl, Nat.le_of_ble_eq_true rfl⟩ rfl (Nat.le_of_ble_eq_true rfl) d_M_issued_794 ⟨Nat.le_refl _, Nat.le_refl _⟩) X Y hA S (by decide) (by decide) (fun z377 u H locs Y S s377 p377 => ?_)
                              obtain ⟨I377, J377, B377, G377⟩ := u
                              dsimp only at Y S s377 p377
                              have i377 : I373 = I377 := (funext (fun j => s377.2.1 j (by simp))).symm
                              subst i377
                              have b377 : B217 = B377 := (funext (fun j => s377.2.2 j (by simp))).symm
                              subst b377
                              have f378 : s4 (I373 69) (B217 37) (B217 38) := (s4_cg rfl rfl rfl (s4_cg (w373.2 69 (by decide)) rfl rfl (s4_cg rfl rfl rfl (s4_cg (w369.2 69 (by decide)) rfl rfl (s4_cg rfl rfl rfl (s4_cg (w366.2 69 (by decide)) rfl rfl (s4_cg rfl rfl rfl (s4_cg rfl rfl rfl (s4_cg (w235.2 69 (by decide)) rfl rfl f223)))))))))
                              obtain ⟨l377, u377, x377⟩ := p377
                              refine r_puti (k := 88) X Y S (by decide) lk_clientAt rfl rfl (t_M_ok 88 (by decide)) rfl rfl (sf_clientAt _ _ _ _) (Nat.le_of_ble_eq_true rfl) rfl (show ((-2147483648) : Int) ≤ z377 by omega) (show z377 ≤ (2147483647 : Int) by omega) ⟨by omega, by omega⟩ (by decide) d_M_issued_797 (fun I379 H locs Y S w379 => ?_)
                              refine lv_aload_n X.1 X.2.1 d_M_issued_800 rfl (lv_at hl 1 rfl) ?_
                              refine lv_aload_n X.1 X.2.1 d_M_issued_801 rfl (lv_at hl 1 rfl) ?_
                              refine r_get0 X Y (by decide) lk_isAs (gf_isAs _ _ _) rfl ((w379.2 69 (by decide)).trans ((w373.2 69 (by decide)).trans ((w369.2 69 (by decide)).trans ((w366.2 69 (by decide)).trans ((w235.2 69 (by decide)).trans e226))))) d_M_issued_802 ?_
                              have J401 : ∀ (z381 : Int) (z397 : Int) (z398 : Int) (z399 : Int) (I380 : Nat → Int32) (J380 : Nat → Int64) (B380 : Nat → Nat → Int32) (G380 : Nat → Nat → Int64) (H : Heap) (locs : List Loc) (ls : Array Slot), ((-1) ≤ z381) → (z381 ≤ 30000) → (pG1 I380) → (pG2 (B380 37) (B380 38)) → (rrP rr (I380 69) (B380 37) (B380 38)) → (sz3 (16 * 1 + 1 : Int).toNat (16 * 1 + 3 : Int).toNat (16 * 1 + 9 : Int).toNat (B380 37) (B380 38)) → (s4 (I380 69) (B380 37) (B380 38)) → (ssP ss (B380 37) (B380 38)) → (thF [7] (B 37) (B 38) (B380 37) (B380 38)) → (I380 69 = iI ia) → (I380 86 = iI z368) → (I380 87 = iI z371) → (I380 88 = iI z377) → (I380 77 = iI ty) → (I380 75 = iI cl) → (I380 76 = iI sv) → (I380 33 = iI cn) → (I380 86 = iI z397) → ((-1) ≤ z397) → (z397 ≤ 30000) → (I380 87 = iI z398) → ((-1) ≤ z398) → (z398 ≤ 30000) → (I380 88 = iI z399) → ((-1) ≤ z399) → (z399 ≤ 30000) → ((z397 ≤ z398 ∧ (0 ≤ z397 ∨ z397 = z398) ∧ z398 - z397 ≤ 4200 ∧ z399 ≤ z381 ∧ (0 ≤ z399 ∨ z399 = z381) ∧ z381 - z399 ≤ 4200 ∧ (z398 - z397) + (z381 - z399) + rr + ss ≤ 8400)) → mH D E (mA E h q sz) s.heap h q I380 J380 B380 G380 H locs → rS [3, 8, 14, 18, 29, 33, 36, 39, 40, 42, 80, 81, 84, 85, 86, 87, 88, 89] [0, 1, 5, 6, 7, 9, 10, 11, 12, 13, 15, 16, 17, 19, 20, 21, 22, 23, 24, 34, 35, 37, 38, 56, 59, 60, 90] I B I380 B380 → lv_has ls 15 [(0, .ref h)] → W p l e (mR 45 2046) s m AV below meth c H locs 0 0 QQ (F0 m 823 ls [.int (iI z381), .ref h]) := by
                                intro z381 z397 z398 z399 I380 J380 B380 G380 H locs ls l381 u381 f382 f383 f384 f385 f386 f387 f388 e389 e390 e391 e392 e393 e394 e395 e396 e397 l397 u397 e398 l398 u398 e399 l399 u399 i400 Y S hl
                                refine r_puti (k := 89) X Y S (by decide) lk_clientEnd rfl rfl (t_M_ok 89 (by decide)) rfl rfl (sf_clientEnd _ _ _ _) (Nat.le_of_ble_eq_true rfl) rfl (show ((-2147483648) : Int) ≤ z381 by omega) (show z381 ≤ (2147483647 : Int) by omega) ⟨by omega, by omega⟩ (by decide) d_M_issued_823 (fun I405 H locs Y S w405 => ?_)
                                refine lv_aload_n X.1 X.2.1 d_M_issued_826 rfl (lv_at hl 0 rfl) ?_
                                refine lv_aload_n X.1 X.2.1 d_M_issued_827 rfl (lv_at hl 0 rfl) ?_
                                refine r_get0 X Y (by decide) lk_type (gf_type _ _ _) rfl ((w405.2 77 (by decide)).trans e393) d_M_issued_828 ?_
                                refine lv_aload_n X.1 X.2.1 d_M_issued_831 rfl (lv_at hl 0 rfl) ?_
                                refine m_get X Y 60 (by decide) lk_fresh (gf_fresh _ _ _) rfl d_M_issued_832 ?_
                                refine r_nv (m_run (As := [.int (iI ty), .ref ((q 60))]) (rest := []) (n := 2) X Y hZ hA hml hl.1 (r_M_newKey_fresh l D E h q H.size I405 J380 B380 G380 ty (by omega) (by omega) S.1 cn ((w405.2 33 (by decide)).trans e396) (by omega) (by omega)) kl_M_newKey ks_M_newKey kx_M_newKey ki_M_newKey ini_M hd_M_newKey ⟨Nat.le_of_ble_eq_true rfl, Nat.le_of_ble_eq_true rfl⟩ rfl (Nat.le_of_ble_eq_true rfl) d_M_issued_835 ⟨Nat.le_refl _, Nat.le_refl _⟩) X Y hA S (by decide) (by decide) (fun u H locs Y S s406 p406 => ?_)
                                obtain ⟨I406, J406, B406, G406⟩ := u
                                dsimp only at Y S s406 p406
                                have x406 := p406
                                obtain ⟨z407, e407, l407, u407⟩ := x406
                                refine lv_aload_n X.1 X.2.1 d_M_issued_838 rfl (lv_at hl 0 rfl) ?_
                                refine r_nv (m_run (As := []) (rest := []) (n := 0) X Y hZ hA hml hl.1 (r_M_start l D E h q H.size I406 J406 B406 G406 S.1) kl_M_start ks_M_start kx_M_start ki_M_start ini_M hd_M_start ⟨Nat.le_of_ble_eq_true rfl, Nat.le_of_ble_eq_true rfl⟩ rfl (Nat.le_of_ble_eq_true rfl) d_M_issued_839 ⟨Nat.le_refl _, Nat.le_refl _⟩) X Y hA S (by decide) (by decide) (fun u H locs Y S s408 p408 => ?_)
                                obtain ⟨I408, J408, B408, G408⟩ := u
                                dsimp only at Y S s408 p408
                                have b408 : B406 = B408 := (funext (fun j => s408.2.2 j (by simp))).symm
                                subst b408
                                have x408 := p408
                                refine lv_aload_n X.1 X.2.1 d_M_issued_842 rfl (lv_at hl 0 rfl) ?_
                                refine r_nv (m_run (As := []) (rest := []) (n := 0) X Y hZ hA hml hl.1 (r_M_part l D E h q H.size I408 J408 B406 G408 S.1 60000 (x408.trans (congrArg iI (show (60000 : Int) = 60000 by omega))) (by omega) (by omega) ty ((s408.2.1 77 (by decide)).trans ((s406.2.1 77 (by decide)).trans ((w405.2 77 (by decide)).trans e393))) (by omega) (by omega) z397 ((s408.2.1 86 (by decide)).trans ((s406.2.1 86 (by decide)).trans ((w405.2 86 (by decide)).trans e397))) (by omega) (by omega) z398 ((s408.2.1 87 (by decide)).trans ((s406.2.1 87 (by decide)).trans ((w405.2 87 (by decide)).trans e398))) (by omega) (by omega) z399 ((s408.2.1 88 (by decide)).trans ((s406.2.1 88 (by decide)).trans ((w405.2 88 (by decide)).trans e399))) (by omega) (by omega) z381 ((s408.2.1 89 (by decide)).trans ((s406.2.1 89 (by decide)).trans w405.1)) (by omega) (by omega) ia ((s408.2.1 69 (by decide)).trans ((s406.2.1 69 (by decide)).trans ((w405.2 69 (by decide)).trans e389))) (by omega) (by omega) rr (pG1_cg (s408.2.1 39 (by decide)) (s408.2.1 40 (by decide)) (pG1_cg (s406.2.1 39 (by decide)) (s406.2.1 40 (by decide)) (pG1_cg (w405.2 39 (by decide)) (w405.2 40 (by decide)) f382))) (pG2_cg rfl rfl (pG2_cg (s406.2.2 37 (by decide)) (s406.2.2 38 (by decide)) (pG2_cg rfl rfl f383))) (rrP_cg (s408.2.1 69 (by decide)) rfl rfl (rrP_cg (s406.2.1 69 (by decide)) (s406.2.2 37 (by decide)) (s406.2.2 38 (by decide)) (rrP_cg (w405.2 69 (by decide)) rfl rfl f384))) (by omega) (by omega) (by omega) (by omega) (by omega) (by omega)) kl_M_part ks_M_part kx_M_part ki_M_part ini_M hd_M_part ⟨Nat.le_of_ble_eq_true rfl, Nat.le_of_ble_eq_true rfl⟩ rfl (Nat.le_of_ble_eq_true rfl) d_M_issued_843 ⟨Nat.le_refl _, Nat.le_refl _⟩) X Y hA S (by decide) (by decide) (fun u H locs Y S s409 p409 => ?_)
                                obtain ⟨I409, J409, B409, G409⟩ := u
                                dsimp only at Y S s409 p409
                                have f410 : s4 (I409 69) (B409 37) (B409 38) := (s4_cg (s409.2.1 69 (by decide)) (s409.2.2 37 (by decide)) (s409.2.2 38 (by decide)) (s4_cg (s408.2.1 69 (by decide)) rfl rfl (s4_cg (s406.2.1 69 (by decide)) (s406.2.2 37 (by decide)) (s406.2.2 38 (by decide)) (s4_cg (w405.2 69 (by decide)) rfl rfl f386))))
                                have f411 : rrP rr (I409 69) (B409 37) (B409 38) := (rrP_cg (s409.2.1 69 (by decide)) (s409.2.2 37 (by decide)) (s409.2.2 38 (by decide)) (rrP_cg (s408.2.1 69 (by decide)) rfl rfl (rrP_cg (s406.2.1 69 (by decide)) (s406.2.2 37 (by decide)) (s406.2.2 38 (by decide)) (rrP_cg (w405.2 69 (by decide)) rfl rfl f384))))
                                obtain ⟨x409, g409_P1, g409_MF⟩ := p409
                                obtain ⟨z412, e412, l412, u412⟩ := x409
                                refine lv_aload_n X.1 X.2.1 d_M_issued_846 rfl (lv_at hl 0 rfl) ?_
                                refine lv_bipush (v := iI 99) X.1 X.2.1 d_M_issued_847 (by decide) ?_
                                refine lv_ldc (v := (60000)) X.1 X.2.1 X.2.2.2.1 (X.2.2.1 _ cn_M_9) d_M_issued_849 ?_
                                refine t_eq (y := iI 60000) (by decide) ?_
                                refine r_nv (m_run (As := [.int (iI 99), .int (iI 60000)]) (rest := []) (n := 2) X Y hZ hA hml hl.1 (r_M_head l D E h q H.size I409 J409 B409 G409 99 (by decide) (by decide) 60000 (by decide) (by decide) S.1 z412 e412 (by omega) (by omega)) kl_M_head ks_M_head kx_M_head ki_M_head ini_M hd_M_head ⟨Nat.le_of_ble_eq_true rfl, Nat.le_of_ble_eq_true rfl⟩ rfl (Nat.le_of_ble_eq_true rfl) d_M_issued_851 ⟨Nat.le_refl _, Nat.le_refl _⟩) X Y hA S (by decide) (by decide) (fun u H locs Y S s413 p413 => ?_)
                                obtain ⟨I413, J413, B413, G413⟩ := u
                                dsimp only at Y S s413 p413
                                obtain ⟨x413, g413_MF⟩ := p413
                                obtain ⟨z414, e414, l414, u414⟩ := x413
                                refine lv_ldc (v := (60000)) X.1 X.2.1 X.2.2.2.1 (X.2.2.1 _ cn_M_9) d_M_issued_854 ?_
                                refine t_eq (y := iI 60000) (by decide) ?_
                                refine lv_aload_n X.1 X.2.1 d_M_issued_856 rfl (lv_at hl 0 rfl) ?_
                                refine r_get0 X Y (by decide) lk_w0 (gf_w0 _ _ _) rfl e414 d_M_issued_857 ?_
                                refine z_isub X.1 X.2.1 d_M_issued_860 ?_
                                refine lv_istore (lv' := [(12, .int (iI (60000 - z414))), (0, .ref h)]) X.1 X.2.1 d_M_issued_861 hl (by decide) rfl (fun ls hl => ?_)
                                refine lv_aload_n X.1 X.2.1 d_M_issued_863 rfl (lv_at hl 1 rfl) ?_
                                refine lv_aload_n X.1 X.2.1 d_M_issued_864 rfl (lv_at hl 1 rfl) ?_
                                refine r_get0 X Y (by decide) lk_service (gf_service _ _ _) rfl ((s413.2.1 76 (by decide)).trans ((s409.2.1 76 (by decide)).trans ((s408.2.1 76 (by decide)).trans ((s406.2.1 76 (by decide)).trans ((w405.2 76 (by decide)).trans e395))))) d_M_issued_865 ?_
                                refine lv_aload_n X.1 X.2.1 d_M_issued_868 rfl (lv_at hl 1 rfl) ?_
                                refine m_get X Y 46 (by decide) lk_versions (gf_versions _ _ _) rfl d_M_issued_869 ?_
                                refine lv_aload_n X.1 X.2.1 d_M_issued_872 rfl (lv_at hl 1 rfl) ?_
                                refine r_get0 X Y (by decide) lk_service (gf_service _ _ _) rfl ((s413.2.1 76 (by decide)).trans ((s409.2.1 76 (by decide)).trans ((s408.2.1 76 (by decide)).trans ((s406.2.1 76 (by decide)).trans ((w405.2 76 (by decide)).trans e395))))) d_M_issued_873 ?_
                                refine r_iald X Y S (aw_versions _ _ _ _ _ _ _) rfl (by omega) (show sv < ((12 : Nat) : Int) by omega) (by omega) d_M_issued_876 (fun z415 q415 l415 u415 => ?_)
                                refine lv_bipush (v := iI 18) X.1 X.2.1 d_M_issued_877 (by decide) ?_
                                refine lv_aload_n X.1 X.2.1 d_M_issued_879 rfl (lv_at hl 1 rfl) ?_
                                refine m_get X Y 56 (by decide) lk_made (gf_made _ _ _) rfl d_M_issued_880 ?_
                                refine r_nv (m_run (As := [.int (iI sv), .int (iI z415), .int (iI 18), .ref ((q 56))]) (rest := []) (n := 4) X Y hZ hA hml hl.1 (r_M_keyOf_made l D E h q H.size I413 J413 B413 G413 sv (by omega) (by omega) z415 (by omega) (by omega) 18 (by decide) (by decide) S.1) kl_M_keyOf ks_M_keyOf kx_M_keyOf ki_M_keyOf ini_M hd_M_keyOf ⟨Nat.le_of_ble_eq_true rfl, Nat.le_of_ble_eq_true rfl⟩ rfl (Nat.le_of_ble_eq_true rfl) d_M_issued_883 ⟨Nat.le_refl _, Nat.le_refl _⟩) X Y hA S (by decide) (by decide) (fun u H locs Y S s416 p416 => ?_)
                                obtain ⟨I416, J416, B416, G416⟩ := u
                                dsimp only at Y S s416 p416
                                have i416 : I413 = I416 := (funext (fun j => s416.2.1 j (by simp))).symm
                                subst i416
                                have f417 : pG2 (B416 37) (B416 38) := (pG2_cg (s416.2.2 37 (by decide)) (s416.2.2 38 (by decide)) (pG2_cg (s413.2.2 37 (by decide)) (s413.2.2 38 (by decide)) (pG2_cg (s409.2.2 37 (by decide)) (s409.2.2 38 (by decide)) (pG2_cg rfl rfl (pG2_cg (s406.2.2 37 (by decide)) (s406.2.2 38 (by decide)) (pG2_cg rfl rfl f383))))))
                                have f418 : sz3 (16 * 1 + 1 : Int).toNat (16 * 1 + 3 : Int).toNat (16 * 1 + 9 : Int).toNat (B416 37) (B416 38) := (sz3_cg (s416.2.2 37 (by decide)) (s416.2.2 38 (by decide)) (sz3_cg (s413.2.2 37 (by decide)) (s413.2.2 38 (by decide)) (sz3_cg (s409.2.2 37 (by decide)) (s409.2.2 38 (by decide)) (sz3_cg rfl rfl (sz3_cg (s406.2.2 37 (by decide)) (s406.2.2 38 (by decide)) (sz3_cg rfl rfl f385))))))
                                have f419 : thF [7] (B 37) (B 38) (B416 37) (B416 38) := (thF_cg (s416.2.2 37 (by decide)) (s416.2.2 38 (by decide)) (thF_cg (s413.2.2 37 (by decide)) (s413.2.2 38 (by decide)) (thF_cg (s409.2.2 37 (by decide)) (s409.2.2 38 (by decide)) (thF_cg rfl rfl (thF_cg (s406.2.2 37 (by decide)) (s406.2.2 38 (by decide)) (thF_cg rfl rfl f388))))))
                                have f420 : ssP ss (B416 37) (B416 38) := (ssP_cg (s416.2.2 37 (by decide)) (s416.2.2 38 (by decide)) (ssP_cg (s413.2.2 37 (by decide)) (s413.2.2 38 (by decide)) (ssP_cg (s409.2.2 37 (by decide)) (s409.2.2 38 (by decide)) (ssP_cg rfl rfl (ssP_cg (s406.2.2 37 (by decide)) (s406.2.2 38 (by decide)) (ssP_cg rfl rfl f387))))))
                                refine lv_aload_n X.1 X.2.1 d_M_issued_886 rfl (lv_at hl 1 rfl) ?_
                                refine lv_aload_n X.1 X.2.1 d_M_issued_887 rfl (lv_at hl 1 rfl) ?_
                                refine m_get X Y 56 (by decide) lk_made (gf_made _ _ _) rfl d_M_issued_888 ?_
                                refine lv_bipush (v := iI 18) X.1 X.2.1 d_M_issued_891 (by decide) ?_
                                refine lv_iconst (v := iI 2) X.1 X.2.1 d_M_issued_893 (by decide) ?_
                                refine lv_aload_n X.1 X.2.1 d_M_issued_894 rfl (lv_at hl 1 rfl) ?_
                                refine r_get0 X Y (by decide) lk_w0 (gf_w0 _ _ _) rfl e414 d_M_issued_895 ?_
                                refine lv_ldc (v := (60000)) X.1 X.2.1 X.2.2.2.1 (X.2.2.1 _ cn_M_9) d_M_issued_898 ?_
                                refine t_eq (y := iI 60000) (by decide) ?_
                                refine r_nv (m_run (As := [.ref ((q 56)), .int (iI 18), .int (iI 2), .int (iI z414), .int (iI 60000)]) (rest := []) (n := 5) X Y hZ hA hml hl.1 (r_M_seal_made l D E h q H.size I413 J416 B416 G416 18 (by decide) (by decide) 2 (by decide) (by decide) z414 (by omega) (by omega) 60000 (by decide) (by decide) S.1 z407 ((s413.2.1 33 (by decide)).trans ((s409.2.1 33 (by decide)).trans ((s408.2.1 33 (by decide)).trans e407))) (by omega) (by omega) (by omega) (by omega)) kl_M_seal ks_M_seal kx_M_seal ki_M_seal ini_M hd_M_seal ⟨Nat.le_of_ble_eq_true rfl, Nat.le_of_ble_eq_true rfl⟩ rfl (Nat.le_of_ble_eq_true rfl) d_M_issued_900 ⟨Nat.le_refl _, Nat.le_refl _⟩) X Y hA S (by decide) (by decide) (fun u H locs Y S s421 p421 => ?_)
                                obtain ⟨I421, J421, B421, G421⟩ := u
                                dsimp only at Y S s421 p421
                                have x421 := p421
                                obtain ⟨x421_0, x421_1⟩ := x421
                                refine lv_aload_n X.1 X.2.1 d_M_issued_903 rfl (lv_at hl 1 rfl) ?_
                                refine r_nv (m_run (As := []) (rest := []) (n := 0) X Y hZ hA hml hl.1 (r_M_start l D E h q H.size I421 J421 B421 G421 S.1) kl_M_start ks_M_start kx_M_start ki_M_start ini_M hd_M_start ⟨Nat.le_of_ble_eq_true rfl, Nat.le_of_ble_eq_true rfl⟩ rfl (Nat.le_of_ble_eq_true rfl) d_M_issued_904 ⟨Nat.le_refl _, Nat.le_refl _⟩) X Y hA S (by decide) (by decide) (fun u H locs Y S s422 p422 => ?_)
                                obtain ⟨I422, J422, B422, G422⟩ := u
                                dsimp only at Y S s422 p422
                                have b422 : B421 = B422 := (funext (fun j => s422.2.2 j (by simp))).symm
                                subst b422
                                have f423 : s4 (I422 69) (B421 37) (B421 38) := (s4_cg (s422.2.1 69 (by decide)) rfl rfl (s4_cg (s421.2.1 69 (by decide)) (s421.2.2 37 (by decide)) (s421.2.2 38 (by decide)) (s4_cg rfl (s416.2.2 37 (by decide)) (s416.2.2 38 (by decide)) (s4_cg (s413.2.1 69 (by decide)) (s413.2.2 37 (by decide)) (s413.2.2 38 (by decide)) f410))))
                                have f424 : rrP rr (I422 69) (B421 37) (B421 38) := (rrP_cg (s422.2.1 69 (by decide)) rfl rfl (rrP_cg (s421.2.1 69 (by decide)) (s421.2.2 37 (by decide)) (s421.2.2 38 (by decide)) (rrP_cg rfl (s416.2.2 37 (by decide)) (s416.2.2 38 (by decide)) (rrP_cg (s413.2.1 69 (by decide)) (s413.2.2 37 (by decide)) (s413.2.2 38 (by decide)) f411))))
                                have x422 := p422
                                refine lv_aload_n X.1 X.2.1 d_M_issued_907 rfl (lv_at hl 1 rfl) ?_
                                refine lv_iconst (v := iI 3) X.1 X.2.1 d_M_issued_908 (by decide) ?_
                                refine lv_bipush (v := iI 18) X.1 X.2.1 d_M_issued_909 (by decide) ?_
                                refine lv_aload_n X.1 X.2.1 d_M_issued_911 rfl (lv_at hl 1 rfl) ?_
                                refine m_get X Y 46 (by decide) lk_versions (gf_versions _ _ _) rfl d_M_issued_912 ?_
                                refine lv_aload_n X.1 X.2.1 d_M_issued_915 rfl (lv_at hl 1 rfl) ?_
                                refine r_get0 X Y (by decide) lk_service (gf_service _ _ _) rfl ((s422.2.1 76 (by decide)).trans ((s421.2.1 76 (by decide)).trans ((s413.2.1 76 (by decide)).trans ((s409.2.1 76 (by decide)).trans ((s408.2.1 76 (by decide)).trans ((s406.2.1 76 (by decide)).trans ((w405.2 76 (by decide)).trans e395))))))) d_M_issued_916 ?_
                                refine r_iald X Y S (aw_versions _ _ _ _ _ _ _) rfl (by omega) (show sv < ((12 : Nat) : Int) by omega) (by omega) d_M_issued_919 (fun z425 q425 l425 u425 => ?_)
                                refine lv_i2l X.1 X.2.1 d_M_issued_920 rfl ?_
                                refine t_anyl (fun v426 => ?_)
                                refine r_nv (m_run (As := [.int (iI 3), .int (iI 18), .long v426]) (rest := []) (n := 3) X Y hZ hA hml hl.1 (r_M_sealedField l D E h q H.size I422 J422 B421 G422 3 (by decide) (by decide) 18 (by decide) (by decide) v426 S.1 60000 (x422.trans (congrArg iI (show (60000 : Int) = 60000 by omega))) (by omega) (by omega) (60000 - z414 + 28) ((s422.2.1 36 (by decide)).trans (x421_0.trans (congrArg iI (show (60000 - z414 + 28 : Int) = 60000 - z414 + 28 by omega)))) (by omega) (by omega) (by omega)) kl_M_sealedField ks_M_sealedField kx_M_sealedField ki_M_sealedField ini_M hd_M_sealedField ⟨Nat.le_of_ble_eq_true rfl, Nat.le_of_ble_eq_true rfl⟩ rfl (Nat.le_of_ble_eq_true rfl) d_M_issued_921 ⟨Nat.le_refl _, Nat.le_refl _⟩) X Y hA S (by decide) (by decide) (fun u H locs Y S s427 p427 => ?_)
                                obtain ⟨I427, J427, B427, G427⟩ := u
                                dsimp only at Y S s427 p427
                                have f428 : pG1 I427 := (pG1_cg (s427.2.1 39 (by decide)) (s427.2.1 40 (by decide)) (pG1_cg (s422.2.1 39 (by decide)) (s422.2.1 40 (by decide)) (pG1_cg (s421.2.1 39 (by decide)) (s421.2.1 40 (by decide)) (pG1_cg rfl rfl (pG1_cg (s413.2.1 39 (by decide)) (s413.2.1 40 (by decide)) g409_P1)))))
                                obtain ⟨x427, g427_MF⟩ := p427
                                obtain ⟨z429, e429, l429, u429⟩ := x427
                                refine lv_aload_n X.1 X.2.1 d_M_issued_924 rfl (lv_at hl 1 rfl) ?_
                                refine lv_iconst (v := iI 2) X.1 X.2.1 d_M_issued_925 (by decide) ?_
                                refine lv_aload_n X.1 X.2.1 d_M_issued_926 rfl (lv_at hl 1 rfl) ?_
                                refine lv_iconst (v := iI 1) X.1 X.2.1 d_M_issued_927 (by decide) ?_
                                refine lv_iconst (v := iI 3) X.1 X.2.1 d_M_issued_928 (by decide) ?_
                                refine r_ni (m_run (As := [.int (iI 1), .int (iI 3)]) (rest := [.int (iI 2), .ref h]) (n := 2) X Y hZ hA hml hl.1 (r_M_a l D E h q H.size I427 J427 B427 G427 1 (by decide) (by decide) 3 (by decide) (by decide) S.1) kl_M_a ks_M_a kx_M_a ki_M_a ini_M hd_M_a ⟨Nat.le_of_ble_eq_true rfl, Nat.le_of_ble_eq_true rfl⟩ rfl (Nat.le_of_ble_eq_true rfl) d_M_issued_929 ⟨Nat.le_refl _, Nat.le_refl _⟩) X Y hA S (by decide) (by decide) (fun z430 u H locs Y S s430 p430 => ?_)
                                obtain ⟨I430, J430, B430, G430⟩ := u
                                dsimp only at Y S s430 p430
                                have i430 : I427 = I430 := (funext (fun j => s430.2.1 j (by simp))).symm
                                subst i430
                                have b430 : B427 = B430 := (funext (fun j => s430.2.2 j (by simp))).symm
                                subst b430
                                obtain ⟨l430, u430, x430⟩ := p430
                                refine lv_aload_n X.1 X.2.1 d_M_issued_932 rfl (lv_at hl 1 rfl) ?_
                                refine lv_iconst (v := iI 1) X.1 X.2.1 d_M_issued_933 (by decide) ?_
                                refine lv_iconst (v := iI 3) X.1 X.2.1 d_M_issued_934 (by decide) ?_
                                refine r_ni (m_run (As := [.int (iI 1), .int (iI 3)]) (rest := [.int (iI z430), .int (iI 2), .ref h]) (n := 2) X Y hZ hA hml hl.1 (r_M_b l D E h q H.size I427 J430 B427 G430 1 (by decide) (by decide) 3 (by decide) (by decide) S.1) kl_M_b ks_M_b kx_M_b ki_M_b ini_M hd_M_b ⟨Nat.le_of_ble_eq_true rfl, Nat.le_of_ble_eq_true rfl⟩ rfl (Nat.le_of_ble_eq_true rfl) d_M_issued_935 ⟨Nat.le_refl _, Nat.le_refl _⟩) X Y hA S (by decide) (by decide) (fun z431 u H locs Y S s431 p431 => ?_)
                                obtain ⟨I431, J431, B431, G431⟩ := u
                                dsimp only at Y S s431 p431
                                have i431 : I427 = I431 := (funext (fun j => s431.2.1 j (by simp))).symm
                                subst i431
                                have b431 : B427 = B431 := (funext (fun j => s431.2.2 j (by simp))).symm
                                subst b431
                                obtain ⟨l431, u431, x431⟩ := p431
                                have p432 : pr z430 z431 := by rw [x430, x431]; exact (pG2_cg rfl rfl (pG2_cg rfl rfl (pG2_cg (s427.2.2 37 (by decide)) (s427.2.2 38 (by decide)) (pG2_cg rfl rfl (pG2_cg (s421.2.2 37 (by decide)) (s421.2.2 38 (by decide)) f417))))) (16 * 1 + 3 : Int).toNat (by omega)
                                unfold pr at p432
                                have s9 : ss = _ := (ssP_cg rfl rfl (ssP_cg rfl rfl (ssP_cg (s427.2.2 37 (by decide)) (s427.2.2 38 (by decide)) (ssP_cg rfl rfl (ssP_cg (s421.2.2 37 (by decide)) (s421.2.2 38 (by decide)) f420)))))
                                refine r_nv (m_run (As := [.int (iI 2), .int (iI z430), .int (iI z431)]) (rest := []) (n := 3) X Y hZ hA hml hl.1 (r_M_copyField l D E h q H.size I427 J431 B427 G431 2 (by decide) (by decide) z430 (by omega) (by omega) z431 (by omega) (by omega) S.1 z429 e429 (by omega) (by omega) (by omega) (by omega) (by omega) (by omega)) kl_M_copyField ks_M_copyField kx_M_copyField ki_M_copyField ini_M hd_M_copyField ⟨Nat.le_of_ble_eq_true rfl, Nat.le_of_ble_eq_true rfl⟩ rfl (Nat.le_of_ble_eq_true rfl) d_M_issued_938 ⟨Nat.le_refl _, Nat.le_refl _⟩) X Y hA S (by decide) (by decide) (fun u H locs Y S s433 p433 => ?_)
                                obtain ⟨I433, J433, B433, G433⟩ := u
                                dsimp only at Y S s433 p433
                                obtain ⟨x433, g433_MF⟩ := p433
                                obtain ⟨z434, e434, l434, u434⟩ := x433
                                refine lv_aload_n X.1 X.2.1 d_M_issued_941 rfl (lv_at hl 1 rfl) ?_
                                refine lv_iconst (v := iI 1) X.1 X.2.1 d_M_issued_942 (by decide) ?_
                                refine m_ldcSW (i := 2) X (by decide) (by decide) d_M_issued_943 ?_
                                refine r_nv (m_run (As := [.int (iI 1), .ref ((D.2.1 2))]) (rest := []) (n := 2) X Y hZ hA hml hl.1 (r_M_wordField l D E h q H.size I433 J433 B433 G433 1 (by decide) (by decide) 2 (show 2 < nZ by decide) S.1 z434 e434 (by omega) (by omega)) kl_M_wordField ks_M_wordField kx_M_wordField ki_M_wordField ini_M hd_M_wordField ⟨Nat.le_of_ble_eq_true rfl, Nat.le_of_ble_eq_true rfl⟩ rfl (Nat.le_of_ble_eq_true rfl) d_M_issued_946 ⟨Nat.le_refl _, Nat.le_refl _⟩) X Y hA S (by decide) (by decide) (fun u H locs Y S s435 p435 => ?_)
                                obtain ⟨I435, J435, B435, G435⟩ := u
                                dsimp only at Y S s435 p435
                                have f436 : pG2 (B435 37) (B435 38) := (pG2_cg (s435.2.2 37 (by decide)) (s435.2.2 38 (by decide)) (pG2_cg (s433.2.2 37 (by decide)) (s433.2.2 38 (by decide)) (pG2_cg rfl rfl (pG2_cg rfl rfl (pG2_cg (s427.2.2 37 (by decide)) (s427.2.2 38 (by decide)) (pG2_cg rfl rfl (pG2_cg (s421.2.2 37 (by decide)) (s421.2.2 38 (by decide)) f417)))))))
                                have f437 : sz3 (16 * 1 + 1 : Int).toNat (16 * 1 + 3 : Int).toNat (16 * 1 + 9 : Int).toNat (B435 37) (B435 38) := (sz3_cg (s435.2.2 37 (by decide)) (s435.2.2 38 (by decide)) (sz3_cg (s433.2.2 37 (by decide)) (s433.2.2 38 (by decide)) (sz3_cg rfl rfl (sz3_cg rfl rfl (sz3_cg (s427.2.2 37 (by decide)) (s427.2.2 38 (by decide)) (sz3_cg rfl rfl (sz3_cg (s421.2.2 37 (by decide)) (s421.2.2 38 (by decide)) f418)))))))
                                have f438 : s4 (I435 69) (B435 37) (B435 38) := (s4_cg (s435.2.1 69 (by decide)) (s435.2.2 37 (by decide)) (s435.2.2 38 (by decide)) (s4_cg (s433.2.1 69 (by decide)) (s433.2.2 37 (by decide)) (s433.2.2 38 (by decide)) (s4_cg rfl rfl rfl (s4_cg rfl rfl rfl (s4_cg (s427.2.1 69 (by decide)) (s427.2.2 37 (by decide)) (s427.2.2 38 (by decide)) f423)))))
                                have f439 : thF [7] (B 37) (B 38) (B435 37) (B435 38) := (thF_cg (s435.2.2 37 (by decide)) (s435.2.2 38 (by decide)) (thF_cg (s433.2.2 37 (by decide)) (s433.2.2 38 (by decide)) (thF_cg rfl rfl (thF_cg rfl rfl (thF_cg (s427.2.2 37 (by decide)) (s427.2.2 38 (by decide)) (thF_cg rfl rfl (thF_cg (s421.2.2 37 (by decide)) (s421.2.2 38 (by decide)) f419)))))))
                                have f440 : rrP rr (I435 69) (B435 37) (B435 38) := (rrP_cg (s435.2.1 69 (by decide)) (s435.2.2 37 (by decide)) (s435.2.2 38 (by decide)) (rrP_cg (s433.2.1 69 (by decide)) (s433.2.2 37 (by decide)) (s433.2.2 38 (by decide)) (rrP_cg rfl rfl rfl (rrP_cg rfl rfl rfl (rrP_cg (s427.2.1 69 (by decide)) (s427.2.2 37 (by decide)) (s427.2.2 38 (by decide)) f424)))))
                                have f441 : ssP ss (B435 37) (B435 38) := (ssP_cg (s435.2.2 37 (by decide)) (s435.2.2 38 (by decide)) (ssP_cg (s433.2.2 37 (by decide)) (s433.2.2 38 (by decide)) (ssP_cg rfl rfl (ssP_cg rfl rfl (ssP_cg (s427.2.2 37 (by decide)) (s427.2.2 38 (by decide)) (ssP_cg rfl rfl (ssP_cg (s421.2.2 37 (by decide)) (s421.2.2 38 (by decide)) f420)))))))
                                obtain ⟨x435, g435_MF⟩ := p435
                                obtain ⟨z442, e442, l442, u442⟩ := x435
                                refine lv_aload_n X.1 X.2.1 d_M_issued_949 rfl (lv_at hl 1 rfl) ?_
                                refine lv_iconst (v := iI 0) X.1 X.2.1 d_M_issued_950 (by decide) ?_
                                refine lv_ldc2 (v := (5)) X.1 X.2.1 X.2.2.2.1 (X.2.2.1 _ cl_M_669) d_M_issued_951 ?_
                                refine r_nv (m_run (As := [.int (iI 0), .long ((5))]) (rest := []) (n := 2) X Y hZ hA hml hl.1 (r_M_numberField l D E h q H.size I435 J435 B435 G435 0 (by decide) (by decide) ((5)) S.1 z442 e442 (by omega) (by omega)) kl_M_numberField ks_M_numberField kx_M_numberField ki_M_numberField ini_M hd_M_numberField ⟨Nat.le_of_ble_eq_true rfl, Nat.le_of_ble_eq_true rfl⟩ rfl (Nat.le_of_ble_eq_true rfl) d_M_issued_954 ⟨Nat.le_refl _, Nat.le_refl _⟩) X Y hA S (by decide) (by decide) (fun u H locs Y S s443 p443 => ?_)
                                obtain ⟨I443, J443, B443, G443⟩ := u
                                dsimp only at Y S s443 p443
                                obtain ⟨x443, g443_MF⟩ := p443
                                obtain ⟨z444, e444, l444, u444⟩ := x443
                                refine lv_aload_n X.1 X.2.1 d_M_issued_957 rfl (lv_at hl 1 rfl) ?_
                                refine lv_bipush (v := iI 48) X.1 X.2.1 d_M_issued_958 (by decide) ?_
                                refine lv_ldc (v := (60000)) X.1 X.2.1 X.2.2.2.1 (X.2.2.1 _ cn_M_9) d_M_issued_960 ?_
                                refine t_eq (y := iI 60000) (by decide) ?_
                                refine r_nv (m_run (As := [.int (iI 48), .int (iI 60000)]) (rest := []) (n := 2) X Y hZ hA hml hl.1 (r_M_head l D E h q H.size I443 J443 B443 G443 48 (by decide) (by decide) 60000 (by decide) (by decide) S.1 z444 e444 (by omega) (by omega)) kl_M_head ks_M_head kx_M_head ki_M_head ini_M hd_M_head ⟨Nat.le_of_ble_eq_true rfl, Nat.le_of_ble_eq_true rfl⟩ rfl (Nat.le_of_ble_eq_true rfl) d_M_issued_962 ⟨Nat.le_refl _, Nat.le_refl _⟩) X Y hA S (by decide) (by decide) (fun u H locs Y S s445 p445 => ?_)
                                obtain ⟨I445, J445, B445, G445⟩ := u
                                dsimp only at Y S s445 p445
                                have f446 : pG1 I445 := (pG1_cg (s445.2.1 39 (by decide)) (s445.2.1 40 (by decide)) (pG1_cg (s443.2.1 39 (by decide)) (s443.2.1 40 (by decide)) (pG1_cg (s435.2.1 39 (by decide)) (s435.2.1 40 (by decide)) (pG1_cg (s433.2.1 39 (by decide)) (s433.2.1 40 (by decide)) (pG1_cg rfl rfl (pG1_cg rfl rfl f428))))))
                                obtain ⟨x445, g445_MF⟩ := p445
                                obtain ⟨z447, e447, l447, u447⟩ := x445
                                refine lv_aload_n X.1 X.2.1 d_M_issued_965 rfl (lv_at hl 1 rfl) ?_
                                refine lv_bipush (v := iI 97) X.1 X.2.1 d_M_issued_966 (by decide) ?_
                                refine lv_ldc (v := (60000)) X.1 X.2.1 X.2.2.2.1 (X.2.2.1 _ cn_M_9) d_M_issued_968 ?_
                                refine t_eq (y := iI 60000) (by decide) ?_
                                refine r_nv (m_run (As := [.int (iI 97), .int (iI 60000)]) (rest := []) (n := 2) X Y hZ hA hml hl.1 (r_M_head l D E h q H.size I445 J445 B445 G445 97 (by decide) (by decide) 60000 (by decide) (by decide) S.1 z447 e447 (by omega) (by omega)) kl_M_head ks_M_head kx_M_head ki_M_head ini_M hd_M_head ⟨Nat.le_of_ble_eq_true rfl, Nat.le_of_ble_eq_true rfl⟩ rfl (Nat.le_of_ble_eq_true rfl) d_M_issued_970 ⟨Nat.le_refl _, Nat.le_refl _⟩) X Y hA S (by decide) (by decide) (fun u H locs Y S s448 p448 => ?_)
                                obtain ⟨I448, J448, B448, G448⟩ := u
                                dsimp only at Y S s448 p448
                                have f449 : s4 (I448 69) (B448 37) (B448 38) := (s4_cg (s448.2.1 69 (by decide)) (s448.2.2 37 (by decide)) (s448.2.2 38 (by decide)) (s4_cg (s445.2.1 69 (by decide)) (s445.2.2 37 (by decide)) (s445.2.2 38 (by decide)) (s4_cg (s443.2.1 69 (by decide)) (s443.2.2 37 (by decide)) (s443.2.2 38 (by decide)) f438)))
                                have f450 : rrP rr (I448 69) (B448 37) (B448 38) := (rrP_cg (s448.2.1 69 (by decide)) (s448.2.2 37 (by decide)) (s448.2.2 38 (by decide)) (rrP_cg (s445.2.1 69 (by decide)) (s445.2.2 37 (by decide)) (s445.2.2 38 (by decide)) (rrP_cg (s443.2.1 69 (by decide)) (s443.2.2 37 (by decide)) (s443.2.2 38 (by decide)) f440)))
                                obtain ⟨x448, g448_MF⟩ := p448
                                obtain ⟨z451, e451, l451, u451⟩ := x448
                                refine lv_ldc (v := (60000)) X.1 X.2.1 X.2.2.2.1 (X.2.2.1 _ cn_M_9) d_M_issued_973 ?_
                                refine t_eq (y := iI 60000) (by decide) ?_
                                refine lv_aload_n X.1 X.2.1 d_M_issued_975 rfl (lv_at hl 1 rfl) ?_
                                refine r_get0 X Y (by decide) lk_w0 (gf_w0 _ _ _) rfl e451 d_M_issued_976 ?_
                                refine z_isub X.1 X.2.1 d_M_issued_979 ?_
                                refine lv_istore (lv' := [(13, .int (iI (60000 - z451))), (12, .int (iI (60000 - z414))), (0, .ref h)]) X.1 X.2.1 d_M_issued_980 hl (by decide) rfl (fun ls hl => ?_)
                                refine lv_iconst (v := iI 0) X.1 X.2.1 d_M_issued_982 (by decide) ?_
                                have J472 : ∀ (n474 : Nat) (z453 : Int) (I452 : Nat → Int32) (J452 : Nat → Int64) (B452 : Nat → Nat → Int32) (G452 : Nat → Nat → Int64) (H : Heap) (locs : List Loc) (ls : Array Slot), (38279 - z453).toNat = n474 → (0 ≤ z453) → (z453 ≤ 38279) → (pG1 I452) → (pG2 (B452 37) (B452 38)) → (rrP rr (I452 69) (B452 37) (B452 38)) → (sz3 (16 * 1 + 1 : Int).toNat (16 * 1 + 3 : Int).toNat (16 * 1 + 9 : Int).toNat (B452 37) (B452 38)) → (s4 (I452 69) (B452 37) (B452 38)) → (ssP ss (B452 37) (B452 38)) → (thF [7] (B 37) (B 38) (B452 37) (B452 38)) → (I452 69 = iI ia) → (I452 86 = iI z397) → (I452 87 = iI z398) → (I452 88 = iI z399) → (I452 89 = iI z381) → (I452 77 = iI ty) → (I452 75 = iI cl) → (I452 76 = iI sv) → (I452 42 = iI z451) → (I452 33 = iI (z407 + 16)) → (I452 36 = iI (60000 - z414 + 28)) → mH D E (mA E h q sz) s.heap h q I452 J452 B452 G452 H locs → rS [3, 8, 14, 18, 29, 33, 36, 39, 40, 42, 80, 81, 84, 85, 86, 87, 88, 89] [0, 1, 5, 6, 7, 9, 10, 11, 12, 13, 15, 16, 17, 19, 20, 21, 22, 23, 24, 34, 35, 37, 38, 56, 59, 60, 90] I B I452 B452 → lv_has ls 15 [(0, .ref h), (12, .int (iI (60000 - z414))), (13, .int (iI (60000 - z451))), (14, .int (iI z453))] → W p l e (mR 45 2046) s m AV below meth c H locs 0 0 QQ (F0 m 985 ls []) := by
                                  intro n474
                                  induction n474 using Nat.strongRecOn with
                                  | ind n474 ih473 =>
                                    intro z453 I452 J452 B452 G452 H locs ls hm475 l453 u453 f454 f455 f456 f457 f458 f459 f460 e461 e462 e463 e464 e465 e466 e467 e468 e469 e470 e471 Y S hl
                                    refine lv_iload X.1 X.2.1 d_M_issued_985 (lv_at hl 3 rfl) ?_
                                    refine lv_iload X.1 X.2.1 d_M_issued_987 (lv_at hl 2 rfl) ?_
                                    refine z_icmp_ge (tgt := 1021) X.1 X.2.1 d_M_issued_989 (by decide) ⟨by omega, by omega⟩ ⟨by omega, by omega⟩ (fun h476 => ?_) (fun h476 => ?_)
                                    · refine lv_aload_n X.1 X.2.1 d_M_issued_1021 rfl (lv_at hl 0 rfl) ?_
                                      refine lv_iload X.1 X.2.1 d_M_issued_1022 (lv_at hl 2 rfl) ?_
                                      refine r_nv (m_run (As := [.int (iI (60000 - z451))]) (rest := []) (n := 1) X Y hZ hA hml hl.1 (r_M_reply l D E h q H.size I452 J452 B452 G452 (60000 - z451) (by omega) (by omega) S.1 cl e467 (by omega) (by omega) ty e466 (by omega) (by omega) (z407 + 16) e470 (by omega) (by omega) z397 e462 (by omega) (by omega) z398 e463 (by omega) (by omega) z399 e464 (by omega) (by omega) z381 e465 (by omega) (by omega) ia e461 (by omega) (by omega) rr ss f454 f455 f456 f459 (by omega) (by omega) (by omega) (by omega) (by omega) (by omega) (by omega) (by omega) (by omega)) kl_M_reply ks_M_reply kx_M_reply ki_M_reply ini_M hd_M_reply ⟨Nat.le_of_ble_eq_true rfl, Nat.le_of_ble_eq_true rfl⟩ rfl (Nat.le_of_ble_eq_true rfl) d_M_issued_1024 ⟨Nat.le_refl _, Nat.le_refl _⟩) X Y hA S (by decide) (by decide) (fun u H locs Y S s477 p477 => ?_)
                                      obtain ⟨I477, J477, B477, G477⟩ := u
                                      dsimp only at Y S s477 p477
                                      obtain ⟨x477, g477_P1, g477_P2, g477_TF⟩ := p477
                                      have f478 : sz3 (16 * 1 + 1 : Int).toNat (16 * 1 + 3 : Int).toNat (16 * 1 + 9 : Int).toNat (B477 37) (B477 38) := sz3_T g477_TF (by decide) (by decide) f457
                                      have f479 : s4 (I477 69) (B477 37) (B477 38) := s4_cg (s477.2.1 69 (by decide)) rfl rfl (s4_T g477_TF (by decide) f458)
                                      have f480 : rrP rr (I477 69) (B477 37) (B477 38) := rrP_cg (s477.2.1 69 (by decide)) rfl rfl (rrP_T g477_TF (by decide) f456)
                                      have f481 : ssP ss (B477 37) (B477 38) := ssP_T g477_TF (by decide) f459
                                      obtain ⟨z482, e482, l482, u482⟩ := x477
                                      refine lv_iload X.1 X.2.1 d_M_issued_1027 (lv_at hl 1 rfl) ?_
                                      refine z_if_le (tgt := 1036) X.1 X.2.1 d_M_issued_1029 (by decide) ⟨by omega, by omega⟩ (fun h483 => ?_) (fun h483 => ?_)
                                      · refine lv_bipush (v := iI 60) X.1 X.2.1 d_M_issued_1036 (by decide) ?_
                                        exact m_reti hQQ X Y hr hlk ⟨S, 60, rfl, ⟨by omega, by omega, ⟨z482, e482, by omega, by omega⟩, g477_P1, g477_P2, (thF_tr f460 g477_TF (by decide))⟩⟩ d_M_issued_1038
                                      · refine lv_iconst (v := iI 0) X.1 X.2.1 d_M_issued_1032 (by decide) ?_
                                        refine lv_goto (tgt := 1038) X.1 X.2.1 d_M_issued_1033 (by decide) ?_
                                        exact m_reti hQQ X Y hr hlk ⟨S, 0, rfl, ⟨by omega, by omega, ⟨z482, e482, by omega, by omega⟩, g477_P1, g477_P2, (thF_tr f460 g477_TF (by decide))⟩⟩ d_M_issued_1038
                                    · refine lv_aload_n X.1 X.2.1 d_M_issued_992 rfl (lv_at hl 0 rfl) ?_
                                      refine m_get X Y 0 (by decide) lk_mem (gf_mem _ _ _) rfl d_M_issued_993 ?_
                                      refine lv_sipush (v := iI 22200) X.1 X.2.1 d_M_issued_996 (by decide) ?_
                                      refine lv_iload X.1 X.2.1 d_M_issued_999 (lv_at hl 3 rfl) ?_
                                      refine z_iadd X.1 X.2.1 d_M_issued_1001 ?_
                                      refine lv_aload_n X.1 X.2.1 d_M_issued_1002 rfl (lv_at hl 0 rfl) ?_
                                      refine m_get X Y 0 (by decide) lk_mem (gf_mem _ _ _) rfl d_M_issued_1003 ?_
                                      refine lv_aload_n X.1 X.2.1 d_M_issued_1006 rfl (lv_at hl 0 rfl) ?_
                                      refine r_get0 X Y (by decide) lk_w0 (gf_w0 _ _ _) rfl e469 d_M_issued_1007 ?_
                                      refine lv_iload X.1 X.2.1 d_M_issued_1010 (lv_at hl 3 rfl) ?_
                                      refine z_iadd X.1 X.2.1 d_M_issued_1012 ?_
                                      refine r_bald X Y S (aw_mem _ _ _ _ _ _ _) rfl (by omega) (show z451 + z453 < ((60000 : Nat) : Int) by omega) (by omega) d_M_issued_1013 (fun z484 q484 l484 u484 => ?_)
                                      refine r_bast X Y S (aw_mem _ _ _ _ _ _ _) (sw_mem _ _ _ _ _ _ _) rfl (by omega) (show 22200 + z453 < ((60000 : Nat) : Int) by omega) (by omega) (by decide) d_M_issued_1014 (fun B485 H locs Y S w485 => ?_)
                                      refine lv_iinc (v := iI (z453 + 1)) (lv' := [(14, .int (iI (z453 + 1))), (0, .ref h), (12, .int (iI (60000 - z414))), (13, .int (iI (60000 - z451)))]) X.1 X.2.1 d_M_issued_1015 hl (k := 3) rfl ((iI_add _ _).trans (congrArg iI (by omega))) (by decide) rfl (fun ls hl => ?_)
                                      refine lv_goto (tgt := 985) X.1 X.2.1 d_M_issued_1018 (by decide) ?_
                                      exact ih473 ((38279 - (z453 + 1)).toNat) (by omega) (z453 + 1) I452 J452 B485 G452 _ _ _ rfl (by omega) (by omega) (pG1_cg rfl rfl f454) (pG2_cg (w485.2 37 (by decide)) (w485.2 38 (by decide)) f455) (rrP_cg rfl (w485.2 37 (by decide)) (w485.2 38 (by decide)) f456) (sz3_cg (w485.2 37 (by decide)) (w485.2 38 (by decide)) f457) (s4_cg rfl (w485.2 37 (by decide)) (w485.2 38 (by decide)) f458) (ssP_cg (w485.2 37 (by decide)) (w485.2 38 (by decide)) f459) (thF_cg (w485.2 37 (by decide)) (w485.2 38 (by decide)) f460) e461 e462 e463 e464 e465 e466 e467 e468 e469 e470 e471 Y S (lv_sub hl [1, 2, 3, 0] rfl)
                                refine lv_istore (lv' := [(14, .int (iI 0)), (13, .int (iI (60000 - z451))), (12, .int (iI (60000 - z414))), (0, .ref h)]) X.1 X.2.1 d_M_issued_983 hl (by decide) rfl (fun ls hl => ?_)
                                exact J472 _ 0 I448 J448 B448 G448 _ _ _ rfl (by omega) (by omega) (pG1_cg (s448.2.1 39 (by decide)) (s448.2.1 40 (by decide)) f446) (pG2_cg (s448.2.2 37 (by decide)) (s448.2.2 38 (by decide)) (pG2_cg (s445.2.2 37 (by decide)) (s445.2.2 38 (by decide)) (pG2_cg (s443.2.2 37 (by decide)) (s443.2.2 38 (by decide)) f436))) f450 (sz3_cg (s448.2.2 37 (by decide)) (s448.2.2 38 (by decide)) (sz3_cg (s445.2.2 37 (by decide)) (s445.2.2 38 (by decide)) (sz3_cg (s443.2.2 37 (by decide)) (s443.2.2 38 (by decide)) f437))) f449 (ssP_cg (s448.2.2 37 (by decide)) (s448.2.2 38 (by decide)) (ssP_cg (s445.2.2 37 (by decide)) (s445.2.2 38 (by decide)) (ssP_cg (s443.2.2 37 (by decide)) (s443.2.2 38 (by decide)) f441))) (thF_cg (s448.2.2 37 (by decide)) (s448.2.2 38 (by decide)) (thF_cg (s445.2.2 37 (by decide)) (s445.2.2 38 (by decide)) (thF_cg (s443.2.2 37 (by decide)) (s443.2.2 38 (by decide)) f439))) ((s448.2.1 69 (by decide)).trans ((s445.2.1 69 (by decide)).trans ((s443.2.1 69 (by decide)).trans ((s435.2.1 69 (by decide)).trans ((s433.2.1 69 (by decide)).trans ((s427.2.1 69 (by decide)).trans ((s422.2.1 69 (by decide)).trans ((s421.2.1 69 (by decide)).trans ((s413.2.1 69 (by decide)).trans ((s409.2.1 69 (by decide)).trans ((s408.2.1 69 (by decide)).trans ((s406.2.1 69 (by decide)).trans ((w405.2 69 (by decide)).trans e389))))))))))))) ((s448.2.1 86 (by decide)).trans ((s445.2.1 86 (by decide)).trans ((s443.2.1 86 (by decide)).trans ((s435.2.1 86 (by decide)).trans ((s433.2.1 86 (by decide)).trans ((s427.2.1 86 (by decide)).trans ((s422.2.1 86 (by decide)).trans ((s421.2.1 86 (by decide)).trans ((s413.2.1 86 (by decide)).trans ((s409.2.1 86 (by decide)).trans ((s408.2.1 86 (by decide)).trans ((s406.2.1 86 (by decide)).trans ((w405.2 86 (by decide)).trans e397))))))))))))) ((s448.2.1 87 (by decide)).trans ((s445.2.1 87 (by decide)).trans ((s443.2.1 87 (by decide)).trans ((s435.2.1 87 (by decide)).trans ((s433.2.1 87 (by decide)).trans ((s427.2.1 87 (by decide)).trans ((s422.2.1 87 (by decide)).trans ((s421.2.1 87 (by decide)).trans ((s413.2.1 87 (by decide)).trans ((s409.2.1 87 (by decide)).trans ((s408.2.1 87 (by decide)).trans ((s406.2.1 87 (by decide)).trans ((w405.2 87 (by decide)).trans e398))))))))))))) ((s448.2.1 88 (by decide)).trans ((s445.2.1 88 (by decide)).trans ((s443.2.1 88 (by decide)).trans ((s435.2.1 88 (by decide)).trans ((s433.2.1 88 (by decide)).trans ((s427.2.1 88 (by decide)).trans ((s422.2.1 88 (by decide)).trans ((s421.2.1 88 (by decide)).trans ((s413.2.1 88 (by decide)).trans ((s409.2.1 88 (by decide)).trans ((s408.2.1 88 (by decide)).trans ((s406.2.1 88 (by decide)).trans ((w405.2 88 (by decide)).trans e399))))))))))))) ((s448.2.1 89 (by decide)).trans ((s445.2.1 89 (by decide)).trans ((s443.2.1 89 (by decide)).trans ((s435.2.1 89 (by decide)).trans ((s433.2.1 89 (by decide)).trans ((s427.2.1 89 (by decide)).trans ((s422.2.1 89 (by decide)).trans ((s421.2.1 89 (by decide)).trans ((s413.2.1 89 (by decide)).trans ((s409.2.1 89 (by decide)).trans ((s408.2.1 89 (by decide)).trans ((s406.2.1 89 (by decide)).trans w405.1)))))))))))) ((s448.2.1 77 (by decide)).trans ((s445.2.1 77 (by decide)).trans ((s443.2.1 77 (by decide)).trans ((s435.2.1 77 (by decide)).trans ((s433.2.1 77 (by decide)).trans ((s427.2.1 77 (by decide)).trans ((s422.2.1 77 (by decide)).trans ((s421.2.1 77 (by decide)).trans ((s413.2.1 77 (by decide)).trans ((s409.2.1 77 (by decide)).trans ((s408.2.1 77 (by decide)).trans ((s406.2.1 77 (by decide)).trans ((w405.2 77 (by decide)).trans e393))))))))))))) ((s448.2.1 75 (by decide)).trans ((s445.2.1 75 (by decide)).trans ((s443.2.1 75 (by decide)).trans ((s435.2.1 75 (by decide)).trans ((s433.2.1 75 (by decide)).trans ((s427.2.1 75 (by decide)).trans ((s422.2.1 75 (by decide)).trans ((s421.2.1 75 (by decide)).trans ((s413.2.1 75 (by decide)).trans ((s409.2.1 75 (by decide)).trans ((s408.2.1 75 (by decide)).trans ((s406.2.1 75 (by decide)).trans ((w405.2 75 (by decide)).trans e394))))))))))))) ((s448.2.1 76 (by decide)).trans ((s445.2.1 76 (by decide)).trans ((s443.2.1 76 (by decide)).trans ((s435.2.1 76 (by decide)).trans ((s433.2.1 76 (by decide)).trans ((s427.2.1 76 (by decide)).trans ((s422.2.1 76 (by decide)).trans ((s421.2.1 76 (by decide)).trans ((s413.2.1 76 (by decide)).trans ((s409.2.1 76 (by decide)).trans ((s408.2.1 76 (by decide)).trans ((s406.2.1 76 (by decide)).trans ((w405.2 76 (by decide)).trans e395))))))))))))) e451 ((s448.2.1 33 (by decide)).trans ((s445.2.1 33 (by decide)).trans ((s443.2.1 33 (by decide)).trans ((s435.2.1 33 (by decide)).trans ((s433.2.1 33 (by decide)).trans ((s427.2.1 33 (by decide)).trans ((s422.2.1 33 (by decide)).trans (x421_1.trans (congrArg iI (show (z407 + 16 : Int) = z407 + 16 by omega)))))))))) ((s448.2.1 36 (by decide)).trans ((s445.2.1 36 (by decide)).trans ((s443.2.1 36 (by decide)).trans ((s435.2.1 36 (by decide)).trans ((s433.2.1 36 (by decide)).trans ((s427.2.1 36 (by decide)).trans ((s422.2.1 36 (by decide)).trans (x421_0.trans (congrArg iI (show (60000 - z414 + 28 : Int) = 60000 - z414 + 28 by omega)))))))))) Y S (lv_sub hl [3, 2, 1, 0] rfl)
                              refine z_if_eq (tgt := 817) X.1 X.2.1 d_M_issued_805 (by decide) ⟨by omega, by omega⟩ (fun h486 => ?_) (fun h486 => False.elim (by omega))
                              · refine lv_aload_n X.1 X.2.1 d_M_issued_817 rfl (lv_at hl 1 rfl) ?_
                                refine lv_iconst (v := iI 4) X.1 X.2.1 d_M_issued_818 (by decide) ?_
                                refine lv_iconst (v := iI 3) X.1 X.2.1 d_M_issued_819 (by decide) ?_
                                refine r_ni (m_run (As := [.int (iI 4), .int (iI 3)]) (rest := [.ref h]) (n := 2) X Y hZ hA hml hl.1 (r_M_b l D E h q H.size I379 J377 B217 G377 4 (by decide) (by decide) 3 (by decide) (by decide) S.1) kl_M_b ks_M_b kx_M_b ki_M_b ini_M hd_M_b ⟨Nat.le_of_ble_eq_true rfl, Nat.le_of_ble_eq_true rfl⟩ rfl (Nat.le_of_ble_eq_true rfl) d_M_issued_820 ⟨Nat.le_refl _, Nat.le_refl _⟩) X Y hA S (by decide) (by decide) (fun z487 u H locs Y S s487 p487 => ?_)
                                obtain ⟨I487, J487, B487, G487⟩ := u
                                dsimp only at Y S s487 p487
                                have i487 : I379 = I487 := (funext (fun j => s487.2.1 j (by simp))).symm
                                subst i487
                                have b487 : B217 = B487 := (funext (fun j => s487.2.2 j (by simp))).symm
                                subst b487
                                obtain ⟨l487, u487, x487⟩ := p487
                                have p488 : pr z377 z487 := by rw [x377, x487]; exact (pG2_cg rfl rfl (pG2_cg rfl rfl (pG2_cg rfl rfl (pG2_cg rfl rfl (pG2_cg rfl rfl (pG2_cg rfl rfl (pG2_cg rfl rfl (pG2_cg rfl rfl (pG2_cg rfl rfl (pG2_cg rfl rfl (pG2_cg rfl rfl f220))))))))))) (16 * 4 + 3 : Int).toNat (by omega)
                                unfold pr at p488
                                exact J401 z487 z368 z371 z377 I379 J487 B217 G487 _ _ _ (by omega) (by omega) (pG1_cg rfl rfl (pG1_cg (w379.2 39 (by decide)) (w379.2 40 (by decide)) (pG1_cg rfl rfl f375))) (pG2_cg rfl rfl (pG2_cg rfl rfl (pG2_cg rfl rfl (pG2_cg rfl rfl (pG2_cg rfl rfl (pG2_cg rfl rfl (pG2_cg rfl rfl (pG2_cg rfl rfl (pG2_cg rfl rfl (pG2_cg rfl rfl (pG2_cg rfl rfl f220))))))))))) (rrP_cg rfl rfl rfl (rrP_cg (w379.2 69 (by decide)) rfl rfl (rrP_cg rfl rfl rfl f374))) (sz3_cg rfl rfl (sz3_cg rfl rfl (sz3_cg rfl rfl (sz3_cg rfl rfl (sz3_cg rfl rfl (sz3_cg rfl rfl (sz3_cg rfl rfl (sz3_cg rfl rfl (sz3_cg rfl rfl (sz3_cg rfl rfl (sz3_cg rfl rfl f222))))))))))) (s4_cg rfl rfl rfl (s4_cg (w379.2 69 (by decide)) rfl rfl f378)) (ssP_cg rfl rfl (ssP_cg rfl rfl (ssP_cg rfl rfl (ssP_cg rfl rfl (ssP_cg rfl rfl (ssP_cg rfl rfl (ssP_cg rfl rfl (ssP_cg rfl rfl (ssP_cg rfl rfl (ssP_cg rfl rfl (ssP_cg rfl rfl f224))))))))))) (thF_cg rfl rfl (thF_cg rfl rfl (thF_cg rfl rfl (thF_cg rfl rfl (thF_cg rfl rfl (thF_cg rfl rfl (thF_cg rfl rfl (thF_cg rfl rfl (thF_cg rfl rfl (thF_cg rfl rfl (thF_cg rfl rfl f225))))))))))) ((w379.2 69 (by decide)).trans ((w373.2 69 (by decide)).trans ((w369.2 69 (by decide)).trans ((w366.2 69 (by decide)).trans ((w235.2 69 (by decide)).trans e226))))) ((w379.2 86 (by decide)).trans ((w373.2 86 (by decide)).trans w369.1)) ((w379.2 87 (by decide)).trans w373.1) w379.1 ((w379.2 77 (by decide)).trans ((w373.2 77 (by decide)).trans ((w369.2 77 (by decide)).trans ((w366.2 77 (by decide)).trans ((w235.2 77 (by decide)).trans e227))))) ((w379.2 75 (by decide)).trans ((w373.2 75 (by decide)).trans ((w369.2 75 (by decide)).trans ((w366.2 75 (by decide)).trans ((w235.2 75 (by decide)).trans e228))))) ((w379.2 76 (by decide)).trans ((w373.2 76 (by decide)).trans ((w369.2 76 (by decide)).trans ((w366.2 76 (by decide)).trans ((w235.2 76 (by decide)).trans e229))))) ((w379.2 33 (by decide)).trans ((w373.2 33 (by decide)).trans ((w369.2 33 (by decide)).trans ((w366.2 33 (by decide)).trans ((w235.2 33 (by decide)).trans e230))))) ((w379.2 86 (by decide)).trans ((w373.2 86 (by decide)).trans w369.1)) (by omega) (by omega) ((w379.2 87 (by decide)).trans w373.1) (by omega) (by omega) w379.1 (by omega) (by omega) (by have q0 := (pG2_cg rfl rfl (pG2_cg rfl rfl (pG2_cg rfl rfl (pG2_cg rfl rfl (pG2_cg rfl rfl (pG2_cg rfl rfl (pG2_cg rfl rfl (pG2_cg rfl rfl (pG2_cg rfl rfl (pG2_cg rfl rfl (pG2_cg rfl rfl f220))))))))))) (16 * 1 + 1 : Int).toNat (by decide); have q1 := (pG2_cg rfl rfl (pG2_cg rfl rfl (pG2_cg rfl rfl (pG2_cg rfl rfl (pG2_cg rfl rfl (pG2_cg rfl rfl (pG2_cg rfl rfl (pG2_cg rfl rfl (pG2_cg rfl rfl (pG2_cg rfl rfl (pG2_cg rfl rfl f220))))))))))) (16 * 1 + 3 : Int).toNat (by decide); have q2 := (pG2_cg rfl rfl (pG2_cg rfl rfl (pG2_cg rfl rfl (pG2_cg rfl rfl (pG2_cg rfl rfl (pG2_cg rfl rfl (pG2_cg rfl rfl (pG2_cg rfl rfl (pG2_cg rfl rfl (pG2_cg rfl rfl (pG2_cg rfl rfl f220))))))))))) (16 * 1 + 9 : Int).toNat (by decide); have q3 := (pG2_cg rfl rfl (pG2_cg rfl rfl (pG2_cg rfl rfl (pG2_cg rfl rfl (pG2_cg rfl rfl (pG2_cg rfl rfl (pG2_cg rfl rfl (pG2_cg rfl rfl (pG2_cg rfl rfl (pG2_cg rfl rfl (pG2_cg rfl rfl f220))))))))))) (16 * 4 + 2 : Int).toNat (by decide); have q4 := (pG2_cg rfl rfl (pG2_cg rfl rfl (pG2_cg rfl rfl (pG2_cg rfl rfl (pG2_cg rfl rfl (pG2_cg rfl rfl (pG2_cg rfl rfl (pG2_cg rfl rfl (pG2_cg rfl rfl (pG2_cg rfl rfl (pG2_cg rfl rfl f220))))))))))) (16 * 4 + 3 : Int).toNat (by decide); have q5 := (pG2_cg rfl rfl (pG2_cg rfl rfl (pG2_cg rfl rfl (pG2_cg rfl rfl (pG2_cg rfl rfl (pG2_cg rfl rfl (pG2_cg rfl rfl (pG2_cg rfl rfl (pG2_cg rfl rfl (pG2_cg rfl rfl (pG2_cg rfl rfl f220))))))))))) (16 * 4 + 9 : Int).toNat (by decide); unfold pr at q0 q1 q2 q3 q4 q5; have k1 := (sz3_cg rfl rfl (sz3_cg rfl rfl (sz3_cg rfl rfl (sz3_cg rfl rfl (sz3_cg rfl rfl (sz3_cg rfl rfl (sz3_cg rfl rfl (sz3_cg rfl rfl (sz3_cg rfl rfl (sz3_cg rfl rfl (sz3_cg rfl rfl f222))))))))))); unfold sz3 at k1; have k3 := (ssP_cg rfl rfl (ssP_cg rfl rfl (ssP_cg rfl rfl (ssP_cg rfl rfl (ssP_cg rfl rfl (ssP_cg rfl rfl (ssP_cg rfl rfl (ssP_cg rfl rfl (ssP_cg rfl rfl (ssP_cg rfl rfl (ssP_cg rfl rfl f224))))))))))); unfold ssP at k3; have k2 := rr_0 (rrP_cg rfl rfl rfl (rrP_cg (w379.2 69 (by decide)) rfl rfl (rrP_cg rfl rfl rfl f374))) ((w379.2 69 (by decide)).trans ((w373.2 69 (by decide)).trans ((w369.2 69 (by decide)).trans ((w366.2 69 (by decide)).trans ((w235.2 69 (by decide)).trans e226))))) (by omega); have k4 := s4_0 (s4_cg rfl rfl rfl (s4_cg (w379.2 69 (by decide)) rfl rfl f378)) ((w379.2 69 (by decide)).trans ((w373.2 69 (by decide)).trans ((w369.2 69 (by decide)).trans ((w366.2 69 (by decide)).trans ((w235.2 69 (by decide)).trans e226))))) (by omega); unfold sz3 at k4; omega) Y S (lv_sub hl [1] rfl)
                    · refine lv_aload_n X.1 X.2.1 d_M_issued_680 rfl (lv_at hl 0 rfl) ?_
                      refine lv_iload_n X.1 X.2.1 d_M_issued_681 rfl (lv_at hl 1 rfl) ?_
                      refine lv_iconst (v := iI 4) X.1 X.2.1 d_M_issued_682 (by decide) ?_
                      refine r_ni (m_run (As := [.int (iI z101), .int (iI 4)]) (rest := []) (n := 2) X Y hZ hA hml hl.1 (r_M_bit l D E h q H.size I235 J362 B217 G362 z101 (by omega) (by omega) 4 (by decide) (by decide) S.1) kl_M_bit ks_M_bit kx_M_bit ki_M_bit ini_M hd_M_bit ⟨Nat.le_of_ble_eq_true rfl, Nat.le_of_ble_eq_true rfl⟩ rfl (Nat.le_of_ble_eq_true rfl) d_M_issued_683 ⟨Nat.le_refl _, Nat.le_refl _⟩) X Y hA S (by decide) (by decide) (fun z489 u H locs Y S s489 p489 => ?_)
                      obtain ⟨I489, J489, B489, G489⟩ := u
                      dsimp only at Y S s489 p489
                      have i489 : I235 = I489 := (funext (fun j => s489.2.1 j (by simp))).symm
                      subst i489
                      have b489 : B217 = B489 := (funext (fun j => s489.2.2 j (by simp))).symm
                      subst b489
                      obtain ⟨l489, u489⟩ := p489
                      refine z_if_eq (tgt := 693) X.1 X.2.1 d_M_issued_686 (by decide) ⟨by omega, by omega⟩ (fun h490 => ?_) (fun h490 => ?_)
                      · refine lv_iconst (v := iI 0) X.1 X.2.1 d_M_issued_693 (by decide) ?_
                        refine lv_istore (lv' := [(11, .int (iI 0)), (0, .ref h), (1, .int (iI z101)), (10, .int (iI z218))]) X.1 X.2.1 d_M_issued_694 hl (by decide) rfl (fun ls hl => ?_)
                        refine lv_aload_n X.1 X.2.1 d_M_issued_696 rfl (lv_at hl 1 rfl) ?_
                        refine lv_iload X.1 X.2.1 d_M_issued_697 (lv_at hl 0 rfl) ?_
                        refine z_if_eq (tgt := 712) X.1 X.2.1 d_M_issued_699 (by decide) ⟨by decide, by decide⟩ (fun h491 => ?_) (fun h491 => False.elim (by omega))
                        · refine lv_aload_n X.1 X.2.1 d_M_issued_712 rfl (lv_at hl 1 rfl) ?_
                          refine lv_iconst (v := iI 4) X.1 X.2.1 d_M_issued_713 (by decide) ?_
                          refine lv_bipush (v := iI 9) X.1 X.2.1 d_M_issued_714 (by decide) ?_
                          refine r_ni (m_run (As := [.int (iI 4), .int (iI 9)]) (rest := [.ref h]) (n := 2) X Y hZ hA hml hl.1 (r_M_has l D E h q H.size I235 J489 B217 G489 4 (by decide) (by decide) 9 (by decide) (by decide) S.1) kl_M_has ks_M_has kx_M_has ki_M_has ini_M hd_M_has ⟨Nat.le_of_ble_eq_true rfl, Nat.le_of_ble_eq_true rfl⟩ rfl (Nat.le_of_ble_eq_true rfl) d_M_issued_716 ⟨Nat.le_refl _, Nat.le_refl _⟩) X Y hA S (by decide) (by decide) (fun z492 u H locs Y S s492 p492 => ?_)
                          obtain ⟨I492, J492, B492, G492⟩ := u
                          dsimp only at Y S s492 p492
                          have i492 : I235 = I492 := (funext (fun j => s492.2.1 j (by simp))).symm
                          subst i492
                          have b492 : B217 = B492 := (funext (fun j => s492.2.2 j (by simp))).symm
                          subst b492
                          obtain ⟨l492, u492, x492⟩ := p492
                          refine r_puti (k := 85) X Y S (by decide) lk_hasAddress rfl rfl (t_M_ok 85 (by decide)) (iI_bool (by omega) (by omega)).1 (iI_bool (by omega) (by omega)).2 (sf_hasAddress _ _ _ _) (Nat.le_of_ble_eq_true rfl) rfl (show (0 : Int) ≤ z492 by omega) (show z492 ≤ (1 : Int) by omega) ⟨by omega, by omega⟩ (by decide) d_M_issued_719 (fun I493 H locs Y S w493 => ?_)
                          refine lv_aload_n X.1 X.2.1 d_M_issued_722 rfl (lv_at hl 1 rfl) ?_
                          refine lv_iload X.1 X.2.1 d_M_issued_723 (lv_at hl 0 rfl) ?_
                          refine z_if_eq (tgt := 738) X.1 X.2.1 d_M_issued_725 (by decide) ⟨by decide, by decide⟩ (fun h494 => ?_) (fun h494 => False.elim (by omega))
                          · refine lv_aload_n X.1 X.2.1 d_M_issued_738 rfl (lv_at hl 1 rfl) ?_
                            refine lv_iconst (v := iI 4) X.1 X.2.1 d_M_issued_739 (by decide) ?_
                            refine lv_bipush (v := iI 9) X.1 X.2.1 d_M_issued_740 (by decide) ?_
                            refine r_ni (m_run (As := [.int (iI 4), .int (iI 9)]) (rest := [.ref h]) (n := 2) X Y hZ hA hml hl.1 (r_M_a l D E h q H.size I493 J492 B217 G492 4 (by decide) (by decide) 9 (by decide) (by decide) S.1) kl_M_a ks_M_a kx_M_a ki_M_a ini_M hd_M_a ⟨Nat.le_of_ble_eq_true rfl, Nat.le_of_ble_eq_true rfl⟩ rfl (Nat.le_of_ble_eq_true rfl) d_M_issued_742 ⟨Nat.le_refl _, Nat.le_refl _⟩) X Y hA S (by decide) (by decide) (fun z495 u H locs Y S s495 p495 => ?_)
                            obtain ⟨I495, J495, B495, G495⟩ := u
                            dsimp only at Y S s495 p495
                            have i495 : I493 = I495 := (funext (fun j => s495.2.1 j (by simp))).symm
                            subst i495
                            have b495 : B217 = B495 := (funext (fun j => s495.2.2 j (by simp))).symm
                            subst b495
                            obtain ⟨l495, u495, x495⟩ := p495
                            refine r_puti (k := 86) X Y S (by decide) lk_addressAt rfl rfl (t_M_ok 86 (by decide)) rfl rfl (sf_addressAt _ _ _ _) (Nat.le_of_ble_eq_true rfl) rfl (show ((-2147483648) : Int) ≤ z495 by omega) (show z495 ≤ (2147483647 : Int) by omega) ⟨by omega, by omega⟩ (by decide) d_M_issued_745 (fun I496 H locs Y S w496 => ?_)
                            refine lv_aload_n X.1 X.2.1 d_M_issued_748 rfl (lv_at hl 1 rfl) ?_
                            refine lv_iload X.1 X.2.1 d_M_issued_749 (lv_at hl 0 rfl) ?_
                            refine z_if_eq (tgt := 764) X.1 X.2.1 d_M_issued_751 (by decide) ⟨by decide, by decide⟩ (fun h497 => ?_) (fun h497 => False.elim (by omega))
                            · refine lv_aload_n X.1 X.2.1 d_M_issued_764 rfl (lv_at hl 1 rfl) ?_
                              refine lv_iconst (v := iI 4) X.1 X.2.1 d_M_issued_765 (by decide) ?_
                              refine lv_bipush (v := iI 9) X.1 X.2.1 d_M_issued_766 (by decide) ?_
                              refine r_ni (m_run (As := [.int (iI 4), .int (iI 9)]) (rest := [.ref h]) (n := 2) X Y hZ hA hml hl.1 (r_M_b l D E h q H.size I496 J495 B217 G495 4 (by decide) (by decide) 9 (by decide) (by decide) S.1) kl_M_b ks_M_b kx_M_b ki_M_b ini_M hd_M_b ⟨Nat.le_of_ble_eq_true rfl, Nat.le_of_ble_eq_true rfl⟩ rfl (Nat.le_of_ble_eq_true rfl) d_M_issued_768 ⟨Nat.le_refl _, Nat.le_refl _⟩) X Y hA S (by decide) (by decide) (fun z498 u H locs Y S s498 p498 => ?_)
                              obtain ⟨I498, J498, B498, G498⟩ := u
                              dsimp only at Y S s498 p498
                              have i498 : I496 = I498 := (funext (fun j => s498.2.1 j (by simp))).symm
                              subst i498
                              have b498 : B217 = B498 := (funext (fun j => s498.2.2 j (by simp))).symm
                              subst b498
                              have f499 : pG1 I496 := (pG1_cg rfl rfl (pG1_cg (w496.2 39 (by decide)) (w496.2 40 (by decide)) (pG1_cg rfl rfl (pG1_cg (w493.2 39 (by decide)) (w493.2 40 (by decide)) (pG1_cg rfl rfl (pG1_cg rfl rfl (pG1_cg rfl rfl (pG1_cg (w235.2 39 (by decide)) (w235.2 40 (by decide)) f219))))))))
                              obtain ⟨l498, u498, x498⟩ := p498
                              have p500 : pr z495 z498 := by rw [x495, x498]; exact (pG2_cg rfl rfl (pG2_cg rfl rfl (pG2_cg rfl rfl (pG2_cg rfl rfl (pG2_cg rfl rfl (pG2_cg rfl rfl (pG2_cg rfl rfl (pG2_cg rfl rfl f220)))))))) (16 * 4 + 9 : Int).toNat (by omega)
                              unfold pr at p500
                              refine r_puti (k := 87) X Y S (by decide) lk_addressEnd rfl rfl (t_M_ok 87 (by decide)) rfl rfl (sf_addressEnd _ _ _ _) (Nat.le_of_ble_eq_true rfl) rfl (show ((-2147483648) : Int) ≤ z498 by omega) (show z498 ≤ (2147483647 : Int) by omega) ⟨by omega, by omega⟩ (by decide) d_M_issued_771 (fun I501 H locs Y S w501 => ?_)
                              have f502 : s4 (I501 69) (B217 37) (B217 38) := (s4_cg (w501.2 69 (by decide)) rfl rfl (s4_cg rfl rfl rfl (s4_cg (w496.2 69 (by decide)) rfl rfl (s4_cg rfl rfl rfl (s4_cg (w493.2 69 (by decide)) rfl rfl (s4_cg rfl rfl rfl (s4_cg rfl rfl rfl (s4_cg rfl rfl rfl (s4_cg (w235.2 69 (by decide)) rfl rfl f223)))))))))
                              have f503 : rrP rr (I501 69) (B217 37) (B217 38) := (rrP_cg (w501.2 69 (by decide)) rfl rfl (rrP_cg rfl rfl rfl (rrP_cg (w496.2 69 (by decide)) rfl rfl (rrP_cg rfl rfl rfl (rrP_cg (w493.2 69 (by decide)) rfl rfl (rrP_cg rfl rfl rfl (rrP_cg rfl rfl rfl (rrP_cg rfl rfl rfl (rrP_cg (w235.2 69 (by decide)) rfl rfl f221)))))))))
                              refine lv_aload_n X.1 X.2.1 d_M_issued_774 rfl (lv_at hl 1 rfl) ?_
                              refine lv_aload_n X.1 X.2.1 d_M_issued_775 rfl (lv_at hl 1 rfl) ?_
                              refine r_get0 X Y (by decide) lk_isAs (gf_isAs _ _ _) rfl ((w501.2 69 (by decide)).trans ((w496.2 69 (by decide)).trans ((w493.2 69 (by decide)).trans ((w235.2 69 (by decide)).trans e226)))) d_M_issued_776 ?_
                              refine z_if_eq (tgt := 791) X.1 X.2.1 d_M_issued_779 (by decide) ⟨by omega, by omega⟩ (fun h504 => ?_) (fun h504 => False.elim (by omega))
                              · refine lv_aload_n X.1 X.2.1 d_M_issued_791 rfl (lv_at hl 1 rfl) ?_
                                refine lv_iconst (v := iI 4) X.1 X.2.1 d_M_issued_792 (by decide) ?_
                                refine lv_iconst (v := iI 3) X.1 X.2.1 d_M_issued_793 (by decide) ?_
                                refine r_ni (m_run (As := [.int (iI 4), .int (iI 3)]) (rest := [.ref h]) (n := 2) X Y hZ hA hml hl.1 (r_M_a l D E h q H.size I501 J498 B217 G498 4 (by decide) (by decide) 3 (by decide) (by decide) S.1) kl_M_a ks_M_a kx_M_a ki_M_a ini_M hd_M_a ⟨Nat.le_of_ble_eq_true rfl, Nat.le_of_ble_eq_true rfl⟩ rfl (Nat.le_of_ble_eq_true rfl) d_M_issued_794 ⟨Nat.le_refl _, Nat.le_refl _⟩) X Y hA S (by decide) (by decide) (fun z505 u H locs Y S s505 p505 => ?_)
                                obtain ⟨I505, J505, B505, G505⟩ := u
                                dsimp only at Y S s505 p505
                                have i505 : I501 = I505 := (funext (fun j => s505.2.1 j (by simp))).symm
                                subst i505
                                have b505 : B217 = B505 := (funext (fun j => s505.2.2 j (by simp))).symm
                                subst b505
                                obtain ⟨l505, u505, x505⟩ := p505
                                refine r_puti (k := 88) X Y S (by decide) lk_clientAt rfl rfl (t_M_ok 88 (by decide)) rfl rfl (sf_clientAt _ _ _ _) (Nat.le_of_ble_eq_true rfl) rfl (show ((-2147483648) : Int) ≤ z505 by omega) (show z505 ≤ (2147483647 : Int) by omega) ⟨by omega, by omega⟩ (by decide) d_M_issued_797 (fun I506 H locs Y S w506 => ?_)
                                refine lv_aload_n X.1 X.2.1 d_M_issued_800 rfl (lv_at hl 1 rfl) ?_
                                refine lv_aload_n X.1 X.2.1 d_M_issued_801 rfl (lv_at hl 1 rfl) ?_
                                refine r_get0 X Y (by decide) lk_isAs (gf_isAs _ _ _) rfl ((w506.2 69 (by decide)).trans ((w501.2 69 (by decide)).trans ((w496.2 69 (by decide)).trans ((w493.2 69 (by decide)).trans ((w235.2 69 (by decide)).trans e226))))) d_M_issued_802 ?_
                                have J528 : ∀ (z508 : Int) (z524 : Int) (z525 : Int) (z526 : Int) (I507 : Nat → Int32) (J507 : Nat → Int64) (B507 : Nat → Nat → Int32) (G507 : Nat → Nat → Int64) (H : Heap) (locs : List Loc) (ls : Array Slot), ((-1) ≤ z508) → (z508 ≤ 30000) → (pG1 I507) → (pG2 (B507 37) (B507 38)) → (rrP rr (I507 69) (B507 37) (B507 38)) → (sz3 (16 * 1 + 1 : Int).toNat (16 * 1 + 3 : Int).toNat (16 * 1 + 9 : Int).toNat (B507 37) (B507 38)) → (s4 (I507 69) (B507 37) (B507 38)) → (ssP ss (B507 37) (B507 38)) → (thF [7] (B 37) (B 38) (B507 37) (B507 38)) → (I507 69 = iI ia) → (I507 86 = iI z495) → (I507 87 = iI z498) → (I507 88 = iI z505) → (I507 77 = iI ty) → (I507 75 = iI cl) → (I507 76 = iI sv) → (I507 33 = iI cn) → (I507 86 = iI z524) → ((-1) ≤ z524) → (z524 ≤ 30000) → (I507 87 = iI z525) → ((-1) ≤ z525) → (z525 ≤ 30000) → (I507 88 = iI z526) → ((-1) ≤ z526) → (z526 ≤ 30000) → ((z524 ≤ z525 ∧ (0 ≤ z524 ∨ z524 = z525) ∧ z525 - z524 ≤ 4200 ∧ z526 ≤ z508 ∧ (0 ≤ z526 ∨ z526 = z508) ∧ z508 - z526 ≤ 4200 ∧ (z525 - z524) + (z508 - z526) + rr + ss ≤ 8400)) → mH D E (mA E h q sz) s.heap h q I507 J507 B507 G507 H locs → rS [3, 8, 14, 18, 29, 33, 36, 39, 40, 42, 80, 81, 84, 85, 86, 87, 88, 89] [0, 1, 5, 6, 7, 9, 10, 11, 12, 13, 15, 16, 17, 19, 20, 21, 22, 23, 24, 34, 35, 37, 38, 56, 59, 60, 90] I B I507 B507 → lv_has ls 15 [(0, .ref h)] → W p l e (mR 45 2046) s m AV below meth c H locs 0 0 QQ (F0 m 823 ls [.int (iI z508), .ref h]) := by
                                  intro z508 z524 z525 z526 I507 J507 B507 G507 H locs ls l508 u508 f509 f510 f511 f512 f513 f514 f515 e516 e517 e518 e519 e520 e521 e522 e523 e524 l524 u524 e525 l525 u525 e526 l526 u526 i527 Y S hl
                                  refine r_puti (k := 89) X Y S (by decide) lk_clientEnd rfl rfl (t_M_ok 89 (by decide)) rfl rfl (sf_clientEnd _ _ _ _) (Nat.le_of_ble_eq_true rfl) rfl (show ((-2147483648) : Int) ≤ z508 by omega) (show z508 ≤ (2147483647 : Int) by omega) ⟨by omega, by omega⟩ (by decide) d_M_issued_823 (fun I532 H locs Y S w532 => ?_)
                                  refine lv_aload_n X.1 X.2.1 d_M_issued_826 rfl (lv_at hl 0 rfl) ?_
                                  refine lv_aload_n X.1 X.2.1 d_M_issued_827 rfl (lv_at hl 0 rfl) ?_
                                  refine r_get0 X Y (by decide) lk_type (gf_type _ _ _) rfl ((w532.2 77 (by decide)).trans e520) d_M_issued_828 ?_
                                  refine lv_aload_n X.1 X.2.1 d_M_issued_831 rfl (lv_at hl 0 rfl) ?_
                                  refine m_get X Y 60 (by decide) lk_fresh (gf_fresh _ _ _) rfl d_M_issued_832 ?_
                                  refine r_nv (m_run (As := [.int (iI ty), .ref ((q 60))]) (rest := []) (n := 2) X Y hZ hA hml hl.1 (r_M_newKey_fresh l D E h q H.size I532 J507 B507 G507 ty (by omega) (by omega) S.1 cn ((w532.2 33 (by decide)).trans e523) (by omega) (by omega)) kl_M_newKey ks_M_newKey kx_M_newKey ki_M_newKey ini_M hd_M_newKey ⟨Nat.le_of_ble_eq_true rfl, Nat.le_of_ble_eq_true rfl⟩ rfl (Nat.le_of_ble_eq_true rfl) d_M_issued_835 ⟨Nat.le_refl _, Nat.le_refl _⟩) X Y hA S (by decide) (by decide) (fun u H locs Y S s533 p533 => ?_)
                                  obtain ⟨I533, J533, B533, G533⟩ := u
                                  dsimp only at Y S s533 p533
                                  have x533 := p533
                                  obtain ⟨z534, e534, l534, u534⟩ := x533
                                  refine lv_aload_n X.1 X.2.1 d_M_issued_838 rfl (lv_at hl 0 rfl) ?_
                                  refine r_nv (m_run (As := []) (rest := []) (n := 0) X Y hZ hA hml hl.1 (r_M_start l D E h q H.size I533 J533 B533 G533 S.1) kl_M_start ks_M_start kx_M_start ki_M_start ini_M hd_M_start ⟨Nat.le_of_ble_eq_true rfl, Nat.le_of_ble_eq_true rfl⟩ rfl (Nat.le_of_ble_eq_true rfl) d_M_issued_839 ⟨Nat.le_refl _, Nat.le_refl _⟩) X Y hA S (by decide) (by decide) (fun u H locs Y S s535 p535 => ?_)
                                  obtain ⟨I535, J535, B535, G535⟩ := u
                                  dsimp only at Y S s535 p535
                                  have b535 : B533 = B535 := (funext (fun j => s535.2.2 j (by simp))).symm
                                  subst b535
                                  have x535 := p535
                                  refine lv_aload_n X.1 X.2.1 d_M_issued_842 rfl (lv_at hl 0 rfl) ?_
                                  refine r_nv (m_run (As := []) (rest := []) (n := 0) X Y hZ hA hml hl.1 (r_M_part l D E h q H.size I535 J535 B533 G535 S.1 60000 (x535.trans (congrArg iI (show (60000 : Int) = 60000 by omega))) (by omega) (by omega) ty ((s535.2.1 77 (by decide)).trans ((s533.2.1 77 (by decide)).trans ((w532.2 77 (by decide)).trans e520))) (by omega) (by omega) z524 ((s535.2.1 86 (by decide)).trans ((s533.2.1 86 (by decide)).trans ((w532.2 86 (by decide)).trans e524))) (by omega) (by omega) z525 ((s535.2.1 87 (by decide)).trans ((s533.2.1 87 (by decide)).trans ((w532.2 87 (by decide)).trans e525))) (by omega) (by omega) z526 ((s535.2.1 88 (by decide)).trans ((s533.2.1 88 (by decide)).trans ((w532.2 88 (by decide)).trans e526))) (by omega) (by omega) z508 ((s535.2.1 89 (by decide)).trans ((s533.2.1 89 (by decide)).trans w532.1)) (by omega) (by omega) ia ((s535.2.1 69 (by decide)).trans ((s533.2.1 69 (by decide)).trans ((w532.2 69 (by decide)).trans e516))) (by omega) (by omega) rr (pG1_cg (s535.2.1 39 (by decide)) (s535.2.1 40 (by decide)) (pG1_cg (s533.2.1 39 (by decide)) (s533.2.1 40 (by decide)) (pG1_cg (w532.2 39 (by decide)) (w532.2 40 (by decide)) f509))) (pG2_cg rfl rfl (pG2_cg (s533.2.2 37 (by decide)) (s533.2.2 38 (by decide)) (pG2_cg rfl rfl f510))) (rrP_cg (s535.2.1 69 (by decide)) rfl rfl (rrP_cg (s533.2.1 69 (by decide)) (s533.2.2 37 (by decide)) (s533.2.2 38 (by decide)) (rrP_cg (w532.2 69 (by decide)) rfl rfl f511))) (by omega) (by omega) (by omega) (by omega) (by omega) (by omega)) kl_M_part ks_M_part kx_M_part ki_M_part ini_M hd_M_part ⟨Nat.le_of_ble_eq_true rfl, Nat.le_of_ble_eq_true rfl⟩ rfl (Nat.le_of_ble_eq_true rfl) d_M_issued_843 ⟨Nat.le_refl _, Nat.le_refl _⟩) X Y hA S (by decide) (by decide) (fun u H locs Y S s536 p536 => ?_)
                                  obtain ⟨I536, J536, B536, G536⟩ := u
                                  dsimp only at Y S s536 p536
                                  have f537 : s4 (I536 69) (B536 37) (B536 38) := (s4_cg (s536.2.1 69 (by decide)) (s536.2.2 37 (by decide)) (s536.2.2 38 (by decide)) (s4_cg (s535.2.1 69 (by decide)) rfl rfl (s4_cg (s533.2.1 69 (by decide)) (s533.2.2 37 (by decide)) (s533.2.2 38 (by decide)) (s4_cg (w532.2 69 (by decide)) rfl rfl f513))))
                                  have f538 : rrP rr (I536 69) (B536 37) (B536 38) := (rrP_cg (s536.2.1 69 (by decide)) (s536.2.2 37 (by decide)) (s536.2.2 38 (by decide)) (rrP_cg (s535.2.1 69 (by decide)) rfl rfl (rrP_cg (s533.2.1 69 (by decide)) (s533.2.2 37 (by decide)) (s533.2.2 38 (by decide)) (rrP_cg (w532.2 69 (by decide)) rfl rfl f511))))
                                  obtain ⟨x536, g536_P1, g536_MF⟩ := p536
                                  obtain ⟨z539, e539, l539, u539⟩ := x536
                                  refine lv_aload_n X.1 X.2.1 d_M_issued_846 rfl (lv_at hl 0 rfl) ?_
                                  refine lv_bipush (v := iI 99) X.1 X.2.1 d_M_issued_847 (by decide) ?_
                                  refine lv_ldc (v := (60000)) X.1 X.2.1 X.2.2.2.1 (X.2.2.1 _ cn_M_9) d_M_issued_849 ?_
                                  refine t_eq (y := iI 60000) (by decide) ?_
                                  refine r_nv (m_run (As := [.int (iI 99), .int (iI 60000)]) (rest := []) (n := 2) X Y hZ hA hml hl.1 (r_M_head l D E h q H.size I536 J536 B536 G536 99 (by decide) (by decide) 60000 (by decide) (by decide) S.1 z539 e539 (by omega) (by omega)) kl_M_head ks_M_head kx_M_head ki_M_head ini_M hd_M_head ⟨Nat.le_of_ble_eq_true rfl, Nat.le_of_ble_eq_true rfl⟩ rfl (Nat.le_of_ble_eq_true rfl) d_M_issued_851 ⟨Nat.le_refl _, Nat.le_refl _⟩) X Y hA S (by decide) (by decide) (fun u H locs Y S s540 p540 => ?_)
                                  obtain ⟨I540, J540, B540, G540⟩ := u
                                  dsimp only at Y S s540 p540
                                  obtain ⟨x540, g540_MF⟩ := p540
                                  obtain ⟨z541, e541, l541, u541⟩ := x540
                                  refine lv_ldc (v := (60000)) X.1 X.2.1 X.2.2.2.1 (X.2.2.1 _ cn_M_9) d_M_issued_854 ?_
                                  refine t_eq (y := iI 60000) (by decide) ?_
                                  refine lv_aload_n X.1 X.2.1 d_M_issued_856 rfl (lv_at hl 0 rfl) ?_
                                  refine r_get0 X Y (by decide) lk_w0 (gf_w0 _ _ _) rfl e541 d_M_issued_857 ?_
                                  refine z_isub X.1 X.2.1 d_M_issued_860 ?_
                                  refine lv_istore (lv' := [(12, .int (iI (60000 - z541))), (0, .ref h)]) X.1 X.2.1 d_M_issued_861 hl (by decide) rfl (fun ls hl => ?_)
                                  refine lv_aload_n X.1 X.2.1 d_M_issued_863 rfl (lv_at hl 1 rfl) ?_
                                  refine lv_aload_n X.1 X.2.1 d_M_issued_864 rfl (lv_at hl 1 rfl) ?_
                                  refine r_get0 X Y (by decide) lk_service (gf_service _ _ _) rfl ((s540.2.1 76 (by decide)).trans ((s536.2.1 76 (by decide)).trans ((s535.2.1 76 (by decide)).trans ((s533.2.1 76 (by decide)).trans ((w532.2 76 (by decide)).trans e522))))) d_M_issued_865 ?_
                                  refine lv_aload_n X.1 X.2.1 d_M_issued_868 rfl (lv_at hl 1 rfl) ?_
                                  refine m_get X Y 46 (by decide) lk_versions (gf_versions _ _ _) rfl d_M_issued_869 ?_
                                  refine lv_aload_n X.1 X.2.1 d_M_issued_872 rfl (lv_at hl 1 rfl) ?_
                                  refine r_get0 X Y (by decide) lk_service (gf_service _ _ _) rfl ((s540.2.1 76 (by decide)).trans ((s536.2.1 76 (by decide)).trans ((s535.2.1 76 (by decide)).trans ((s533.2.1 76 (by decide)).trans ((w532.2 76 (by decide)).trans e522))))) d_M_issued_873 ?_
                                  refine r_iald X Y S (aw_versions _ _ _ _ _ _ _) rfl (by omega) (show sv < ((12 : Nat) : Int) by omega) (by omega) d_M_issued_876 (fun z542 q542 l542 u542 => ?_)
                                  refine lv_bipush (v := iI 18) X.1 X.2.1 d_M_issued_877 (by decide) ?_
                                  refine lv_aload_n X.1 X.2.1 d_M_issued_879 rfl (lv_at hl 1 rfl) ?_
                                  refine m_get X Y 56 (by decide) lk_made (gf_made _ _ _) rfl d_M_issued_880 ?_
                                  refine r_nv (m_run (As := [.int (iI sv), .int (iI z542), .int (iI 18), .ref ((q 56))]) (rest := []) (n := 4) X Y hZ hA hml hl.1 (r_M_keyOf_made l D E h q H.size I540 J540 B540 G540 sv (by omega) (by omega) z542 (by omega) (by omega) 18 (by decide) (by decide) S.1) kl_M_keyOf ks_M_keyOf kx_M_keyOf ki_M_keyOf ini_M hd_M_keyOf ⟨Nat.le_of_ble_eq_true rfl, Nat.le_of_ble_eq_true rfl⟩ rfl (Nat.le_of_ble_eq_true rfl) d_M_issued_883 ⟨Nat.le_refl _, Nat.le_refl _⟩) X Y hA S (by decide) (by decide) (fun u H locs Y S s543 p543 => ?_)
                                  obtain ⟨I543, J543, B543, G543⟩ := u
                                  dsimp only at Y S s543 p543
                                  have i543 : I540 = I543 := (funext (fun j => s543.2.1 j (by simp))).symm
                                  subst i543
                                  have f544 : pG2 (B543 37) (B543 38) := (pG2_cg (s543.2.2 37 (by decide)) (s543.2.2 38 (by decide)) (pG2_cg (s540.2.2 37 (by decide)) (s540.2.2 38 (by decide)) (pG2_cg (s536.2.2 37 (by decide)) (s536.2.2 38 (by decide)) (pG2_cg rfl rfl (pG2_cg (s533.2.2 37 (by decide)) (s533.2.2 38 (by decide)) (pG2_cg rfl rfl f510))))))
                                  have f545 : sz3 (16 * 1 + 1 : Int).toNat (16 * 1 + 3 : Int).toNat (16 * 1 + 9 : Int).toNat (B543 37) (B543 38) := (sz3_cg (s543.2.2 37 (by decide)) (s543.2.2 38 (by decide)) (sz3_cg (s540.2.2 37 (by decide)) (s540.2.2 38 (by decide)) (sz3_cg (s536.2.2 37 (by decide)) (s536.2.2 38 (by decide)) (sz3_cg rfl rfl (sz3_cg (s533.2.2 37 (by decide)) (s533.2.2 38 (by decide)) (sz3_cg rfl rfl f512))))))
                                  have f546 : thF [7] (B 37) (B 38) (B543 37) (B543 38) := (thF_cg (s543.2.2 37 (by decide)) (s543.2.2 38 (by decide)) (thF_cg (s540.2.2 37 (by decide)) (s540.2.2 38 (by decide)) (thF_cg (s536.2.2 37 (by decide)) (s536.2.2 38 (by decide)) (thF_cg rfl rfl (thF_cg (s533.2.2 37 (by decide)) (s533.2.2 38 (by decide)) (thF_cg rfl rfl f515))))))
                                  have f547 : ssP ss (B543 37) (B543 38) := (ssP_cg (s543.2.2 37 (by decide)) (s543.2.2 38 (by decide)) (ssP_cg (s540.2.2 37 (by decide)) (s540.2.2 38 (by decide)) (ssP_cg (s536.2.2 37 (by decide)) (s536.2.2 38 (by decide)) (ssP_cg rfl rfl (ssP_cg (s533.2.2 37 (by decide)) (s533.2.2 38 (by decide)) (ssP_cg rfl rfl f514))))))
                                  refine lv_aload_n X.1 X.2.1 d_M_issued_886 rfl (lv_at hl 1 rfl) ?_
                                  refine lv_aload_n X.1 X.2.1 d_M_issued_887 rfl (lv_at hl 1 rfl) ?_
                                  refine m_get X Y 56 (by decide) lk_made (gf_made _ _ _) rfl d_M_issued_888 ?_
                                  refine lv_bipush (v := iI 18) X.1 X.2.1 d_M_issued_891 (by decide) ?_
                                  refine lv_iconst (v := iI 2) X.1 X.2.1 d_M_issued_893 (by decide) ?_
                                  refine lv_aload_n X.1 X.2.1 d_M_issued_894 rfl (lv_at hl 1 rfl) ?_
                                  refine r_get0 X Y (by decide) lk_w0 (gf_w0 _ _ _) rfl e541 d_M_issued_895 ?_
                                  refine lv_ldc (v := (60000)) X.1 X.2.1 X.2.2.2.1 (X.2.2.1 _ cn_M_9) d_M_issued_898 ?_
                                  refine t_eq (y := iI 60000) (by decide) ?_
                                  refine r_nv (m_run (As := [.ref ((q 56)), .int (iI 18), .int (iI 2), .int (iI z541), .int (iI 60000)]) (rest := []) (n := 5) X Y hZ hA hml hl.1 (r_M_seal_made l D E h q H.size I540 J543 B543 G543 18 (by decide) (by decide) 2 (by decide) (by decide) z541 (by omega) (by omega) 60000 (by decide) (by decide) S.1 z534 ((s540.2.1 33 (by decide)).trans ((s536.2.1 33 (by decide)).trans ((s535.2.1 33 (by decide)).trans e534))) (by omega) (by omega) (by omega) (by omega)) kl_M_seal ks_M_seal kx_M_seal ki_M_seal ini_M hd_M_seal ⟨Nat.le_of_ble_eq_true rfl, Nat.le_of_ble_eq_true rfl⟩ rfl (Nat.le_of_ble_eq_true rfl) d_M_issued_900 ⟨Nat.le_refl _, Nat.le_refl _⟩) X Y hA S (by decide) (by decide) (fun u H locs Y S s548 p548 => ?_)
                                  obtain ⟨I548, J548, B548, G548⟩ := u
                                  dsimp only at Y S s548 p548
                                  have x548 := p548
                                  obtain ⟨x548_0, x548_1⟩ := x548
                                  refine lv_aload_n X.1 X.2.1 d_M_issued_903 rfl (lv_at hl 1 rfl) ?_
                                  refine r_nv (m_run (As := []) (rest := []) (n := 0) X Y hZ hA hml hl.1 (r_M_start l D E h q H.size I548 J548 B548 G548 S.1) kl_M_start ks_M_start kx_M_start ki_M_start ini_M hd_M_start ⟨Nat.le_of_ble_eq_true rfl, Nat.le_of_ble_eq_true rfl⟩ rfl (Nat.le_of_ble_eq_true rfl) d_M_issued_904 ⟨Nat.le_refl _, Nat.le_refl _⟩) X Y hA S (by decide) (by decide) (fun u H locs Y S s549 p549 => ?_)
                                  obtain ⟨I549, J549, B549, G549⟩ := u
                                  dsimp only at Y S s549 p549
                                  have b549 : B548 = B549 := (funext (fun j => s549.2.2 j (by simp))).symm
                                  subst b549
                                  have f550 : s4 (I549 69) (B548 37) (B548 38) := (s4_cg (s549.2.1 69 (by decide)) rfl rfl (s4_cg (s548.2.1 69 (by decide)) (s548.2.2 37 (by decide)) (s548.2.2 38 (by decide)) (s4_cg rfl (s543.2.2 37 (by decide)) (s543.2.2 38 (by decide)) (s4_cg (s540.2.1 69 (by decide)) (s540.2.2 37 (by decide)) (s540.2.2 38 (by decide)) f537))))
                                  have f551 : rrP rr (I549 69) (B548 37) (B548 38) := (rrP_cg (s549.2.1 69 (by decide)) rfl rfl (rrP_cg (s548.2.1 69 (by decide)) (s548.2.2 37 (by decide)) (s548.2.2 38 (by decide)) (rrP_cg rfl (s543.2.2 37 (by decide)) (s543.2.2 38 (by decide)) (rrP_cg (s540.2.1 69 (by decide)) (s540.2.2 37 (by decide)) (s540.2.2 38 (by decide)) f538))))
                                  have x549 := p549
                                  refine lv_aload_n X.1 X.2.1 d_M_issued_907 rfl (lv_at hl 1 rfl) ?_
                                  refine lv_iconst (v := iI 3) X.1 X.2.1 d_M_issued_908 (by decide) ?_
                                  refine lv_bipush (v := iI 18) X.1 X.2.1 d_M_issued_909 (by decide) ?_
                                  refine lv_aload_n X.1 X.2.1 d_M_issued_911 rfl (lv_at hl 1 rfl) ?_
                                  refine m_get X Y 46 (by decide) lk_versions (gf_versions _ _ _) rfl d_M_issued_912 ?_
                                  refine lv_aload_n X.1 X.2.1 d_M_issued_915 rfl (lv_at hl 1 rfl) ?_
                                  refine r_get0 X Y (by decide) lk_service (gf_service _ _ _) rfl ((s549.2.1 76 (by decide)).trans ((s548.2.1 76 (by decide)).trans ((s540.2.1 76 (by decide)).trans ((s536.2.1 76 (by decide)).trans ((s535.2.1 76 (by decide)).trans ((s533.2.1 76 (by decide)).trans ((w532.2 76 (by decide)).trans e522))))))) d_M_issued_916 ?_
                                  refine r_iald X Y S (aw_versions _ _ _ _ _ _ _) rfl (by omega) (show sv < ((12 : Nat) : Int) by omega) (by omega) d_M_issued_919 (fun z552 q552 l552 u552 => ?_)
                                  refine lv_i2l X.1 X.2.1 d_M_issued_920 rfl ?_
                                  refine t_anyl (fun v553 => ?_)
                                  refine r_nv (m_run (As := [.int (iI 3), .int (iI 18), .long v553]) (rest := []) (n := 3) X Y hZ hA hml hl.1 (r_M_sealedField l D E h q H.size I549 J549 B548 G549 3 (by decide) (by decide) 18 (by decide) (by decide) v553 S.1 60000 (x549.trans (congrArg iI (show (60000 : Int) = 60000 by omega))) (by omega) (by omega) (60000 - z541 + 28) ((s549.2.1 36 (by decide)).trans (x548_0.trans (congrArg iI (show (60000 - z541 + 28 : Int) = 60000 - z541 + 28 by omega)))) (by omega) (by omega) (by omega)) kl_M_sealedField ks_M_sealedField kx_M_sealedField ki_M_sealedField ini_M hd_M_sealedField ⟨Nat.le_of_ble_eq_true rfl, Nat.le_of_ble_eq_true rfl⟩ rfl (Nat.le_of_ble_eq_true rfl) d_M_issued_921 ⟨Nat.le_refl _, Nat.le_refl _⟩) X Y hA S (by decide) (by decide) (fun u H locs Y S s554 p554 => ?_)
                                  obtain ⟨I554, J554, B554, G554⟩ := u
                                  dsimp only at Y S s554 p554
                                  have f555 : pG1 I554 := (pG1_cg (s554.2.1 39 (by decide)) (s554.2.1 40 (by decide)) (pG1_cg (s549.2.1 39 (by decide)) (s549.2.1 40 (by decide)) (pG1_cg (s548.2.1 39 (by decide)) (s548.2.1 40 (by decide)) (pG1_cg rfl rfl (pG1_cg (s540.2.1 39 (by decide)) (s540.2.1 40 (by decide)) g536_P1)))))
                                  obtain ⟨x554, g554_MF⟩ := p554
                                  obtain ⟨z556, e556, l556, u556⟩ := x554
                                  refine lv_aload_n X.1 X.2.1 d_M_issued_924 rfl (lv_at hl 1 rfl) ?_
                                  refine lv_iconst (v := iI 2) X.1 X.2.1 d_M_issued_925 (by decide) ?_
                                  refine lv_aload_n X.1 X.2.1 d_M_issued_926 rfl (lv_at hl 1 rfl) ?_
                                  refine lv_iconst (v := iI 1) X.1 X.2.1 d_M_issued_927 (by decide) ?_
                                  refine lv_iconst (v := iI 3) X.1 X.2.1 d_M_issued_928 (by decide) ?_
                                  refine r_ni (m_run (As := [.int (iI 1), .int (iI 3)]) (rest := [.int (iI 2), .ref h]) (n := 2) X Y hZ hA hml hl.1 (r_M_a l D E h q H.size I554 J554 B554 G554 1 (by decide) (by decide) 3 (by decide) (by decide) S.1) kl_M_a ks_M_a kx_M_a ki_M_a ini_M hd_M_a ⟨Nat.le_of_ble_eq_true rfl, Nat.le_of_ble_eq_true rfl⟩ rfl (Nat.le_of_ble_eq_true rfl) d_M_issued_929 ⟨Nat.le_refl _, Nat.le_refl _⟩) X Y hA S (by decide) (by decide) (fun z557 u H locs Y S s557 p557 => ?_)
                                  obtain ⟨I557, J557, B557, G557⟩ := u
                                  dsimp only at Y S s557 p557
                                  have i557 : I554 = I557 := (funext (fun j => s557.2.1 j (by simp))).symm
                                  subst i557
                                  have b557 : B554 = B557 := (funext (fun j => s557.2.2 j (by simp))).symm
                                  subst b557
                                  obtain ⟨l557, u557, x557⟩ := p557
                                  refine lv_aload_n X.1 X.2.1 d_M_issued_932 rfl (lv_at hl 1 rfl) ?_
                                  refine lv_iconst (v := iI 1) X.1 X.2.1 d_M_issued_933 (by decide) ?_
                                  refine lv_iconst (v := iI 3) X.1 X.2.1 d_M_issued_934 (by decide) ?_
                                  refine r_ni (m_run (As := [.int (iI 1), .int (iI 3)]) (rest := [.int (iI z557), .int (iI 2), .ref h]) (n := 2) X Y hZ hA hml hl.1 (r_M_b l D E h q H.size I554 J557 B554 G557 1 (by decide) (by decide) 3 (by decide) (by decide) S.1) kl_M_b ks_M_b kx_M_b ki_M_b ini_M hd_M_b ⟨Nat.le_of_ble_eq_true rfl, Nat.le_of_ble_eq_true rfl⟩ rfl (Nat.le_of_ble_eq_true rfl) d_M_issued_935 ⟨Nat.le_refl _, Nat.le_refl _⟩) X Y hA S (by decide) (by decide) (fun z558 u H locs Y S s558 p558 => ?_)
                                  obtain ⟨I558, J558, B558, G558⟩ := u
                                  dsimp only at Y S s558 p558
                                  have i558 : I554 = I558 := (funext (fun j => s558.2.1 j (by simp))).symm
                                  subst i558
                                  have b558 : B554 = B558 := (funext (fun j => s558.2.2 j (by simp))).symm
                                  subst b558
                                  obtain ⟨l558, u558, x558⟩ := p558
                                  have p559 : pr z557 z558 := by rw [x557, x558]; exact (pG2_cg rfl rfl (pG2_cg rfl rfl (pG2_cg (s554.2.2 37 (by decide)) (s554.2.2 38 (by decide)) (pG2_cg rfl rfl (pG2_cg (s548.2.2 37 (by decide)) (s548.2.2 38 (by decide)) f544))))) (16 * 1 + 3 : Int).toNat (by omega)
                                  unfold pr at p559
                                  have s9 : ss = _ := (ssP_cg rfl rfl (ssP_cg rfl rfl (ssP_cg (s554.2.2 37 (by decide)) (s554.2.2 38 (by decide)) (ssP_cg rfl rfl (ssP_cg (s548.2.2 37 (by decide)) (s548.2.2 38 (by decide)) f547)))))
                                  refine r_nv (m_run (As := [.int (iI 2), .int (iI z557), .int (iI z558)]) (rest := []) (n := 3) X Y hZ hA hml hl.1 (r_M_copyField l D E h q H.size I554 J558 B554 G558 2 (by decide) (by decide) z557 (by omega) (by omega) z558 (by omega) (by omega) S.1 z556 e556 (by omega) (by omega) (by omega) (by omega) (by omega) (by omega)) kl_M_copyField ks_M_copyField kx_M_copyField ki_M_copyField ini_M hd_M_copyField ⟨Nat.le_of_ble_eq_true rfl, Nat.le_of_ble_eq_true rfl⟩ rfl (Nat.le_of_ble_eq_true rfl) d_M_issued_938 ⟨Nat.le_refl _, Nat.le_refl _⟩) X Y hA S (by decide) (by decide) (fun u H locs Y S s560 p560 => ?_)
                                  obtain ⟨I560, J560, B560, G560⟩ := u
                                  dsimp only at Y S s560 p560
                                  obtain ⟨x560, g560_MF⟩ := p560
                                  obtain ⟨z561, e561, l561, u561⟩ := x560
                                  refine lv_aload_n X.1 X.2.1 d_M_issued_941 rfl (lv_at hl 1 rfl) ?_
                                  refine lv_iconst (v := iI 1) X.1 X.2.1 d_M_issued_942 (by decide) ?_
                                  refine m_ldcSW (i := 2) X (by decide) (by decide) d_M_issued_943 ?_
                                  refine r_nv (m_run (As := [.int (iI 1), .ref ((D.2.1 2))]) (rest := []) (n := 2) X Y hZ hA hml hl.1 (r_M_wordField l D E h q H.size I560 J560 B560 G560 1 (by decide) (by decide) 2 (show 2 < nZ by decide) S.1 z561 e561 (by omega) (by omega)) kl_M_wordField ks_M_wordField kx_M_wordField ki_M_wordField ini_M hd_M_wordField ⟨Nat.le_of_ble_eq_true rfl, Nat.le_of_ble_eq_true rfl⟩ rfl (Nat.le_of_ble_eq_true rfl) d_M_issued_946 ⟨Nat.le_refl _, Nat.le_refl _⟩) X Y hA S (by decide) (by decide) (fun u H locs Y S s562 p562 => ?_)
                                  obtain ⟨I562, J562, B562, G562⟩ := u
                                  dsimp only at Y S s562 p562
                                  have f563 : pG2 (B562 37) (B562 38) := (pG2_cg (s562.2.2 37 (by decide)) (s562.2.2 38 (by decide)) (pG2_cg (s560.2.2 37 (by decide)) (s560.2.2 38 (by decide)) (pG2_cg rfl rfl (pG2_cg rfl rfl (pG2_cg (s554.2.2 37 (by decide)) (s554.2.2 38 (by decide)) (pG2_cg rfl rfl (pG2_cg (s548.2.2 37 (by decide)) (s548.2.2 38 (by decide)) f544)))))))
                                  have f564 : sz3 (16 * 1 + 1 : Int).toNat (16 * 1 + 3 : Int).toNat (16 * 1 + 9 : Int).toNat (B562 37) (B562 38) := (sz3_cg (s562.2.2 37 (by decide)) (s562.2.2 38 (by decide)) (sz3_cg (s560.2.2 37 (by decide)) (s560.2.2 38 (by decide)) (sz3_cg rfl rfl (sz3_cg rfl rfl (sz3_cg (s554.2.2 37 (by decide)) (s554.2.2 38 (by decide)) (sz3_cg rfl rfl (sz3_cg (s548.2.2 37 (by decide)) (s548.2.2 38 (by decide)) f545)))))))
                                  have f565 : s4 (I562 69) (B562 37) (B562 38) := (s4_cg (s562.2.1 69 (by decide)) (s562.2.2 37 (by decide)) (s562.2.2 38 (by decide)) (s4_cg (s560.2.1 69 (by decide)) (s560.2.2 37 (by decide)) (s560.2.2 38 (by decide)) (s4_cg rfl rfl rfl (s4_cg rfl rfl rfl (s4_cg (s554.2.1 69 (by decide)) (s554.2.2 37 (by decide)) (s554.2.2 38 (by decide)) f550)))))
                                  have f566 : thF [7] (B 37) (B 38) (B562 37) (B562 38) := (thF_cg (s562.2.2 37 (by decide)) (s562.2.2 38 (by decide)) (thF_cg (s560.2.2 37 (by decide)) (s560.2.2 38 (by decide)) (thF_cg rfl rfl (thF_cg rfl rfl (thF_cg (s554.2.2 37 (by decide)) (s554.2.2 38 (by decide)) (thF_cg rfl rfl (thF_cg (s548.2.2 37 (by decide)) (s548.2.2 38 (by decide)) f546)))))))
                                  have f567 : rrP rr (I562 69) (B562 37) (B562 38) := (rrP_cg (s562.2.1 69 (by decide)) (s562.2.2 37 (by decide)) (s562.2.2 38 (by decide)) (rrP_cg (s560.2.1 69 (by decide)) (s560.2.2 37 (by decide)) (s560.2.2 38 (by decide)) (rrP_cg rfl rfl rfl (rrP_cg rfl rfl rfl (rrP_cg (s554.2.1 69 (by decide)) (s554.2.2 37 (by decide)) (s554.2.2 38 (by decide)) f551)))))
                                  have f568 : ssP ss (B562 37) (B562 38) := (ssP_cg (s562.2.2 37 (by decide)) (s562.2.2 38 (by decide)) (ssP_cg (s560.2.2 37 (by decide)) (s560.2.2 38 (by decide)) (ssP_cg rfl rfl (ssP_cg rfl rfl (ssP_cg (s554.2.2 37 (by decide)) (s554.2.2 38 (by decide)) (ssP_cg rfl rfl (ssP_cg (s548.2.2 37 (by decide)) (s548.2.2 38 (by decide)) f547)))))))
                                  obtain ⟨x562, g562_MF⟩ := p562
                                  obtain ⟨z569, e569, l569, u569⟩ := x562
                                  refine lv_aload_n X.1 X.2.1 d_M_issued_949 rfl (lv_at hl 1 rfl) ?_
                                  refine lv_iconst (v := iI 0) X.1 X.2.1 d_M_issued_950 (by decide) ?_
                                  refine lv_ldc2 (v := (5)) X.1 X.2.1 X.2.2.2.1 (X.2.2.1 _ cl_M_669) d_M_issued_951 ?_
                                  refine r_nv (m_run (As := [.int (iI 0), .long ((5))]) (rest := []) (n := 2) X Y hZ hA hml hl.1 (r_M_numberField l D E h q H.size I562 J562 B562 G562 0 (by decide) (by decide) ((5)) S.1 z569 e569 (by omega) (by omega)) kl_M_numberField ks_M_numberField kx_M_numberField ki_M_numberField ini_M hd_M_numberField ⟨Nat.le_of_ble_eq_true rfl, Nat.le_of_ble_eq_true rfl⟩ rfl (Nat.le_of_ble_eq_true rfl) d_M_issued_954 ⟨Nat.le_refl _, Nat.le_refl _⟩) X Y hA S (by decide) (by decide) (fun u H locs Y S s570 p570 => ?_)
                                  obtain ⟨I570, J570, B570, G570⟩ := u
                                  dsimp only at Y S s570 p570
                                  obtain ⟨x570, g570_MF⟩ := p570
                                  obtain ⟨z571, e571, l571, u571⟩ := x570
                                  refine lv_aload_n X.1 X.2.1 d_M_issued_957 rfl (lv_at hl 1 rfl) ?_
                                  refine lv_bipush (v := iI 48) X.1 X.2.1 d_M_issued_958 (by decide) ?_
                                  refine lv_ldc (v := (60000)) X.1 X.2.1 X.2.2.2.1 (X.2.2.1 _ cn_M_9) d_M_issued_960 ?_
                                  refine t_eq (y := iI 60000) (by decide) ?_
                                  refine r_nv (m_run (As := [.int (iI 48), .int (iI 60000)]) (rest := []) (n := 2) X Y hZ hA hml hl.1 (r_M_head l D E h q H.size I570 J570 B570 G570 48 (by decide) (by decide) 60000 (by decide) (by decide) S.1 z571 e571 (by omega) (by omega)) kl_M_head ks_M_head kx_M_head ki_M_head ini_M hd_M_head ⟨Nat.le_of_ble_eq_true rfl, Nat.le_of_ble_eq_true rfl⟩ rfl (Nat.le_of_ble_eq_true rfl) d_M_issued_962 ⟨Nat.le_refl _, Nat.le_refl _⟩) X Y hA S (by decide) (by decide) (fun u H locs Y S s572 p572 => ?_)
                                  obtain ⟨I572, J572, B572, G572⟩ := u
                                  dsimp only at Y S s572 p572
                                  have f573 : pG1 I572 := (pG1_cg (s572.2.1 39 (by decide)) (s572.2.1 40 (by decide)) (pG1_cg (s570.2.1 39 (by decide)) (s570.2.1 40 (by decide)) (pG1_cg (s562.2.1 39 (by decide)) (s562.2.1 40 (by decide)) (pG1_cg (s560.2.1 39 (by decide)) (s560.2.1 40 (by decide)) (pG1_cg rfl rfl (pG1_cg rfl rfl f555))))))
                                  obtain ⟨x572, g572_MF⟩ := p572
                                  obtain ⟨z574, e574, l574, u574⟩ := x572
                                  refine lv_aload_n X.1 X.2.1 d_M_issued_965 rfl (lv_at hl 1 rfl) ?_
                                  refine lv_bipush (v := iI 97) X.1 X.2.1 d_M_issued_966 (by decide) ?_
                                  refine lv_ldc (v := (60000)) X.1 X.2.1 X.2.2.2.1 (X.2.2.1 _ cn_M_9) d_M_issued_968 ?_
                                  refine t_eq (y := iI 60000) (by decide) ?_
                                  refine r_nv (m_run (As := [.int (iI 97), .int (iI 60000)]) (rest := []) (n := 2) X Y hZ hA hml hl.1 (r_M_head l D E h q H.size I572 J572 B572 G572 97 (by decide) (by decide) 60000 (by decide) (by decide) S.1 z574 e574 (by omega) (by omega)) kl_M_head ks_M_head kx_M_head ki_M_head ini_M hd_M_head ⟨Nat.le_of_ble_eq_true rfl, Nat.le_of_ble_eq_true rfl⟩ rfl (Nat.le_of_ble_eq_true rfl) d_M_issued_970 ⟨Nat.le_refl _, Nat.le_refl _⟩) X Y hA S (by decide) (by decide) (fun u H locs Y S s575 p575 => ?_)
                                  obtain ⟨I575, J575, B575, G575⟩ := u
                                  dsimp only at Y S s575 p575
                                  have f576 : s4 (I575 69) (B575 37) (B575 38) := (s4_cg (s575.2.1 69 (by decide)) (s575.2.2 37 (by decide)) (s575.2.2 38 (by decide)) (s4_cg (s572.2.1 69 (by decide)) (s572.2.2 37 (by decide)) (s572.2.2 38 (by decide)) (s4_cg (s570.2.1 69 (by decide)) (s570.2.2 37 (by decide)) (s570.2.2 38 (by decide)) f565)))
                                  have f577 : rrP rr (I575 69) (B575 37) (B575 38) := (rrP_cg (s575.2.1 69 (by decide)) (s575.2.2 37 (by decide)) (s575.2.2 38 (by decide)) (rrP_cg (s572.2.1 69 (by decide)) (s572.2.2 37 (by decide)) (s572.2.2 38 (by decide)) (rrP_cg (s570.2.1 69 (by decide)) (s570.2.2 37 (by decide)) (s570.2.2 38 (by decide)) f567)))
                                  obtain ⟨x575, g575_MF⟩ := p575
                                  obtain ⟨z578, e578, l578, u578⟩ := x575
                                  refine lv_ldc (v := (60000)) X.1 X.2.1 X.2.2.2.1 (X.2.2.1 _ cn_M_9) d_M_issued_973 ?_
                                  refine t_eq (y := iI 60000) (by decide) ?_
                                  refine lv_aload_n X.1 X.2.1 d_M_issued_975 rfl (lv_at hl 1 rfl) ?_
                                  refine r_get0 X Y (by decide) lk_w0 (gf_w0 _ _ _) rfl e578 d_M_issued_976 ?_
                                  refine z_isub X.1 X.2.1 d_M_issued_979 ?_
                                  refine lv_istore (lv' := [(13, .int (iI (60000 - z578))), (12, .int (iI (60000 - z541))), (0, .ref h)]) X.1 X.2.1 d_M_issued_980 hl (by decide) rfl (fun ls hl => ?_)
                                  refine lv_iconst (v := iI 0) X.1 X.2.1 d_M_issued_982 (by decide) ?_
                                  have J599 : ∀ (n601 : Nat) (z580 : Int) (I579 : Nat → Int32) (J579 : Nat → Int64) (B579 : Nat → Nat → Int32) (G579 : Nat → Nat → Int64) (H : Heap) (locs : List Loc) (ls : Array Slot), (38279 - z580).toNat = n601 → (0 ≤ z580) → (z580 ≤ 38279) → (pG1 I579) → (pG2 (B579 37) (B579 38)) → (rrP rr (I579 69) (B579 37) (B579 38)) → (sz3 (16 * 1 + 1 : Int).toNat (16 * 1 + 3 : Int).toNat (16 * 1 + 9 : Int).toNat (B579 37) (B579 38)) → (s4 (I579 69) (B579 37) (B579 38)) → (ssP ss (B579 37) (B579 38)) → (thF [7] (B 37) (B 38) (B579 37) (B579 38)) → (I579 69 = iI ia) → (I579 86 = iI z524) → (I579 87 = iI z525) → (I579 88 = iI z526) → (I579 89 = iI z508) → (I579 77 = iI ty) → (I579 75 = iI cl) → (I579 76 = iI sv) → (I579 42 = iI z578) → (I579 33 = iI (z534 + 16)) → (I579 36 = iI (60000 - z541 + 28)) → mH D E (mA E h q sz) s.heap h q I579 J579 B579 G579 H locs → rS [3, 8, 14, 18, 29, 33, 36, 39, 40, 42, 80, 81, 84, 85, 86, 87, 88, 89] [0, 1, 5, 6, 7, 9, 10, 11, 12, 13, 15, 16, 17, 19, 20, 21, 22, 23, 24, 34, 35, 37, 38, 56, 59, 60, 90] I B I579 B579 → lv_has ls 15 [(0, .ref h), (12, .int (iI (60000 - z541))), (13, .int (iI (60000 - z578))), (14, .int (iI z580))] → W p l e (mR 45 2046) s m AV below meth c H locs 0 0 QQ (F0 m 985 ls []) := by
                                    intro n601
                                    induction n601 using Nat.strongRecOn with
                                    | ind n601 ih600 =>
                                      intro z580 I579 J579 B579 G579 H locs ls hm602 l580 u580 f581 f582 f583 f584 f585 f586 f587 e588 e589 e590 e591 e592 e593 e594 e595 e596 e597 e598 Y S hl
                                      refine lv_iload X.1 X.2.1 d_M_issued_985 (lv_at hl 3 rfl) ?_
                                      refine lv_iload X.1 X.2.1 d_M_issued_987 (lv_at hl 2 rfl) ?_
                                      refine z_icmp_ge (tgt := 1021) X.1 X.2.1 d_M_issued_989 (by decide) ⟨by omega, by omega⟩ ⟨by omega, by omega⟩ (fun h603 => ?_) (fun h603 => ?_)
                                      · refine lv_aload_n X.1 X.2.1 d_M_issued_1021 rfl (lv_at hl 0 rfl) ?_
                                        refine lv_iload X.1 X.2.1 d_M_issued_1022 (lv_at hl 2 rfl) ?_
                                        refine r_nv (m_run (As := [.int (iI (60000 - z578))]) (rest := []) (n := 1) X Y hZ hA hml hl.1 (r_M_reply l D E h q H.size I579 J579 B579 G579 (60000 - z578) (by omega) (by omega) S.1 cl e594 (by omega) (by omega) ty e593 (by omega) (by omega) (z534 + 16) e597 (by omega) (by omega) z524 e589 (by omega) (by omega) z525 e590 (by omega) (by omega) z526 e591 (by omega) (by omega) z508 e592 (by omega) (by omega) ia e588 (by omega) (by omega) rr ss f581 f582 f583 f586 (by omega) (by omega) (by omega) (by omega) (by omega) (by omega) (by omega) (by omega) (by omega)) kl_M_reply ks_M_reply kx_M_reply ki_M_reply ini_M hd_M_reply ⟨Nat.le_of_ble_eq_true rfl, Nat.le_of_ble_eq_true rfl⟩ rfl (Nat.le_of_ble_eq_true rfl) d_M_issued_1024 ⟨Nat.le_refl _, Nat.le_refl _⟩) X Y hA S (by decide) (by decide) (fun u H locs Y S s604 p604 => ?_)
                                        obtain ⟨I604, J604, B604, G604⟩ := u
                                        dsimp only at Y S s604 p604
                                        obtain ⟨x604, g604_P1, g604_P2, g604_TF⟩ := p604
                                        have f605 : sz3 (16 * 1 + 1 : Int).toNat (16 * 1 + 3 : Int).toNat (16 * 1 + 9 : Int).toNat (B604 37) (B604 38) := sz3_T g604_TF (by decide) (by decide) f584
                                        have f606 : s4 (I604 69) (B604 37) (B604 38) := s4_cg (s604.2.1 69 (by decide)) rfl rfl (s4_T g604_TF (by decide) f585)
                                        have f607 : rrP rr (I604 69) (B604 37) (B604 38) := rrP_cg (s604.2.1 69 (by decide)) rfl rfl (rrP_T g604_TF (by decide) f583)
                                        have f608 : ssP ss (B604 37) (B604 38) := ssP_T g604_TF (by decide) f586
                                        obtain ⟨z609, e609, l609, u609⟩ := x604
                                        refine lv_iload X.1 X.2.1 d_M_issued_1027 (lv_at hl 1 rfl) ?_
                                        refine z_if_le (tgt := 1036) X.1 X.2.1 d_M_issued_1029 (by decide) ⟨by omega, by omega⟩ (fun h610 => ?_) (fun h610 => ?_)
                                        · refine lv_bipush (v := iI 60) X.1 X.2.1 d_M_issued_1036 (by decide) ?_
                                          exact m_reti hQQ X Y hr hlk ⟨S, 60, rfl, ⟨by omega, by omega, ⟨z609, e609, by omega, by omega⟩, g604_P1, g604_P2, (thF_tr f587 g604_TF (by decide))⟩⟩ d_M_issued_1038
                                        · refine lv_iconst (v := iI 0) X.1 X.2.1 d_M_issued_1032 (by decide) ?_
                                          refine lv_goto (tgt := 1038) X.1 X.2.1 d_M_issued_1033 (by decide) ?_
                                          exact m_reti hQQ X Y hr hlk ⟨S, 0, rfl, ⟨by omega, by omega, ⟨z609, e609, by omega, by omega⟩, g604_P1, g604_P2, (thF_tr f587 g604_TF (by decide))⟩⟩ d_M_issued_1038
                                      · refine lv_aload_n X.1 X.2.1 d_M_issued_992 rfl (lv_at hl 0 rfl) ?_
                                        refine m_get X Y 0 (by decide) lk_mem (gf_mem _ _ _) rfl d_M_issued_993 ?_
                                        refine lv_sipush (v := iI 22200) X.1 X.2.1 d_M_issued_996 (by decide) ?_
                                        refine lv_iload X.1 X.2.1 d_M_issued_999 (lv_at hl 3 rfl) ?_
                                        refine z_iadd X.1 X.2.1 d_M_issued_1001 ?_
                                        refine lv_aload_n X.1 X.2.1 d_M_issued_1002 rfl (lv_at hl 0 rfl) ?_
                                        refine m_get X Y 0 (by decide) lk_mem (gf_mem _ _ _) rfl d_M_issued_1003 ?_
                                        refine lv_aload_n X.1 X.2.1 d_M_issued_1006 rfl (lv_at hl 0 rfl) ?_
                                        refine r_get0 X Y (by decide) lk_w0 (gf_w0 _ _ _) rfl e596 d_M_issued_1007 ?_
                                        refine lv_iload X.1 X.2.1 d_M_issued_1010 (lv_at hl 3 rfl) ?_
                                        refine z_iadd X.1 X.2.1 d_M_issued_1012 ?_
                                        refine r_bald X Y S (aw_mem _ _ _ _ _ _ _) rfl (by omega) (show z578 + z580 < ((60000 : Nat) : Int) by omega) (by omega) d_M_issued_1013 (fun z611 q611 l611 u611 => ?_)
                                        refine r_bast X Y S (aw_mem _ _ _ _ _ _ _) (sw_mem _ _ _ _ _ _ _) rfl (by omega) (show 22200 + z580 < ((60000 : Nat) : Int) by omega) (by omega) (by decide) d_M_issued_1014 (fun B612 H locs Y S w612 => ?_)
                                        refine lv_iinc (v := iI (z580 + 1)) (lv' := [(14, .int (iI (z580 + 1))), (0, .ref h), (12, .int (iI (60000 - z541))), (13, .int (iI (60000 - z578)))]) X.1 X.2.1 d_M_issued_1015 hl (k := 3) rfl ((iI_add _ _).trans (congrArg iI (by omega))) (by decide) rfl (fun ls hl => ?_)
                                        refine lv_goto (tgt := 985) X.1 X.2.1 d_M_issued_1018 (by decide) ?_
                                        exact ih600 ((38279 - (z580 + 1)).toNat) (by omega) (z580 + 1) I579 J579 B612 G579 _ _ _ rfl (by omega) (by omega) (pG1_cg rfl rfl f581) (pG2_cg (w612.2 37 (by decide)) (w612.2 38 (by decide)) f582) (rrP_cg rfl (w612.2 37 (by decide)) (w612.2 38 (by decide)) f583) (sz3_cg (w612.2 37 (by decide)) (w612.2 38 (by decide)) f584) (s4_cg rfl (w612.2 37 (by decide)) (w612.2 38 (by decide)) f585) (ssP_cg (w612.2 37 (by decide)) (w612.2 38 (by decide)) f586) (thF_cg (w612.2 37 (by decide)) (w612.2 38 (by decide)) f587) e588 e589 e590 e591 e592 e593 e594 e595 e596 e597 e598 Y S (lv_sub hl [1, 2, 3, 0] rfl)
                                  refine lv_istore (lv' := [(14, .int (iI 0)), (13, .int (iI (60000 - z578))), (12, .int (iI (60000 - z541))), (0, .ref h)]) X.1 X.2.1 d_M_issued_983 hl (by decide) rfl (fun ls hl => ?_)
                                  exact J599 _ 0 I575 J575 B575 G575 _ _ _ rfl (by omega) (by omega) (pG1_cg (s575.2.1 39 (by decide)) (s575.2.1 40 (by decide)) f573) (pG2_cg (s575.2.2 37 (by decide)) (s575.2.2 38 (by decide)) (pG2_cg (s572.2.2 37 (by decide)) (s572.2.2 38 (by decide)) (pG2_cg (s570.2.2 37 (by decide)) (s570.2.2 38 (by decide)) f563))) f577 (sz3_cg (s575.2.2 37 (by decide)) (s575.2.2 38 (by decide)) (sz3_cg (s572.2.2 37 (by decide)) (s572.2.2 38 (by decide)) (sz3_cg (s570.2.2 37 (by decide)) (s570.2.2 38 (by decide)) f564))) f576 (ssP_cg (s575.2.2 37 (by decide)) (s575.2.2 38 (by decide)) (ssP_cg (s572.2.2 37 (by decide)) (s572.2.2 38 (by decide)) (ssP_cg (s570.2.2 37 (by decide)) (s570.2.2 38 (by decide)) f568))) (thF_cg (s575.2.2 37 (by decide)) (s575.2.2 38 (by decide)) (thF_cg (s572.2.2 37 (by decide)) (s572.2.2 38 (by decide)) (thF_cg (s570.2.2 37 (by decide)) (s570.2.2 38 (by decide)) f566))) ((s575.2.1 69 (by decide)).trans ((s572.2.1 69 (by decide)).trans ((s570.2.1 69 (by decide)).trans ((s562.2.1 69 (by decide)).trans ((s560.2.1 69 (by decide)).trans ((s554.2.1 69 (by decide)).trans ((s549.2.1 69 (by decide)).trans ((s548.2.1 69 (by decide)).trans ((s540.2.1 69 (by decide)).trans ((s536.2.1 69 (by decide)).trans ((s535.2.1 69 (by decide)).trans ((s533.2.1 69 (by decide)).trans ((w532.2 69 (by decide)).trans e516))))))))))))) ((s575.2.1 86 (by decide)).trans ((s572.2.1 86 (by decide)).trans ((s570.2.1 86 (by decide)).trans ((s562.2.1 86 (by decide)).trans ((s560.2.1 86 (by decide)).trans ((s554.2.1 86 (by decide)).trans ((s549.2.1 86 (by decide)).trans ((s548.2.1 86 (by decide)).trans ((s540.2.1 86 (by decide)).trans ((s536.2.1 86 (by decide)).trans ((s535.2.1 86 (by decide)).trans ((s533.2.1 86 (by decide)).trans ((w532.2 86 (by decide)).trans e524))))))))))))) ((s575.2.1 87 (by decide)).trans ((s572.2.1 87 (by decide)).trans ((s570.2.1 87 (by decide)).trans ((s562.2.1 87 (by decide)).trans ((s560.2.1 87 (by decide)).trans ((s554.2.1 87 (by decide)).trans ((s549.2.1 87 (by decide)).trans ((s548.2.1 87 (by decide)).trans ((s540.2.1 87 (by decide)).trans ((s536.2.1 87 (by decide)).trans ((s535.2.1 87 (by decide)).trans ((s533.2.1 87 (by decide)).trans ((w532.2 87 (by decide)).trans e525))))))))))))) ((s575.2.1 88 (by decide)).trans ((s572.2.1 88 (by decide)).trans ((s570.2.1 88 (by decide)).trans ((s562.2.1 88 (by decide)).trans ((s560.2.1 88 (by decide)).trans ((s554.2.1 88 (by decide)).trans ((s549.2.1 88 (by decide)).trans ((s548.2.1 88 (by decide)).trans ((s540.2.1 88 (by decide)).trans ((s536.2.1 88 (by decide)).trans ((s535.2.1 88 (by decide)).trans ((s533.2.1 88 (by decide)).trans ((w532.2 88 (by decide)).trans e526))))))))))))) ((s575.2.1 89 (by decide)).trans ((s572.2.1 89 (by decide)).trans ((s570.2.1 89 (by decide)).trans ((s562.2.1 89 (by decide)).trans ((s560.2.1 89 (by decide)).trans ((s554.2.1 89 (by decide)).trans ((s549.2.1 89 (by decide)).trans ((s548.2.1 89 (by decide)).trans ((s540.2.1 89 (by decide)).trans ((s536.2.1 89 (by decide)).trans ((s535.2.1 89 (by decide)).trans ((s533.2.1 89 (by decide)).trans w532.1)))))))))))) ((s575.2.1 77 (by decide)).trans ((s572.2.1 77 (by decide)).trans ((s570.2.1 77 (by decide)).trans ((s562.2.1 77 (by decide)).trans ((s560.2.1 77 (by decide)).trans ((s554.2.1 77 (by decide)).trans ((s549.2.1 77 (by decide)).trans ((s548.2.1 77 (by decide)).trans ((s540.2.1 77 (by decide)).trans ((s536.2.1 77 (by decide)).trans ((s535.2.1 77 (by decide)).trans ((s533.2.1 77 (by decide)).trans ((w532.2 77 (by decide)).trans e520))))))))))))) ((s575.2.1 75 (by decide)).trans ((s572.2.1 75 (by decide)).trans ((s570.2.1 75 (by decide)).trans ((s562.2.1 75 (by decide)).trans ((s560.2.1 75 (by decide)).trans ((s554.2.1 75 (by decide)).trans ((s549.2.1 75 (by decide)).trans ((s548.2.1 75 (by decide)).trans ((s540.2.1 75 (by decide)).trans ((s536.2.1 75 (by decide)).trans ((s535.2.1 75 (by decide)).trans ((s533.2.1 75 (by decide)).trans ((w532.2 75 (by decide)).trans e521))))))))))))) ((s575.2.1 76 (by decide)).trans ((s572.2.1 76 (by decide)).trans ((s570.2.1 76 (by decide)).trans ((s562.2.1 76 (by decide)).trans ((s560.2.1 76 (by decide)).trans ((s554.2.1 76 (by decide)).trans ((s549.2.1 76 (by decide)).trans ((s548.2.1 76 (by decide)).trans ((s540.2.1 76 (by decide)).trans ((s536.2.1 76 (by decide)).trans ((s535.2.1 76 (by decide)).trans ((s533.2.1 76 (by decide)).trans ((w532.2 76 (by decide)).trans e522))))))))))))) e578 ((s575.2.1 33 (by decide)).trans ((s572.2.1 33 (by decide)).trans ((s570.2.1 33 (by decide)).trans ((s562.2.1 33 (by decide)).trans ((s560.2.1 33 (by decide)).trans ((s554.2.1 33 (by decide)).trans ((s549.2.1 33 (by decide)).trans (x548_1.trans (congrArg iI (show (z534 + 16 : Int) = z534 + 16 by omega)))))))))) ((s575.2.1 36 (by decide)).trans ((s572.2.1 36 (by decide)).trans ((s570.2.1 36 (by decide)).trans ((s562.2.1 36 (by decide)).trans ((s560.2.1 36 (by decide)).trans ((s554.2.1 36 (by decide)).trans ((s549.2.1 36 (by decide)).trans (x548_0.trans (congrArg iI (show (60000 - z541 + 28 : Int) = 60000 - z541 + 28 by omega)))))))))) Y S (lv_sub hl [3, 2, 1, 0] rfl)
                                refine z_if_eq (tgt := 817) X.1 X.2.1 d_M_issued_805 (by decide) ⟨by omega, by omega⟩ (fun h613 => ?_) (fun h613 => False.elim (by omega))
                                · refine lv_aload_n X.1 X.2.1 d_M_issued_817 rfl (lv_at hl 1 rfl) ?_
                                  refine lv_iconst (v := iI 4) X.1 X.2.1 d_M_issued_818 (by decide) ?_
                                  refine lv_iconst (v := iI 3) X.1 X.2.1 d_M_issued_819 (by decide) ?_
                                  refine r_ni (m_run (As := [.int (iI 4), .int (iI 3)]) (rest := [.ref h]) (n := 2) X Y hZ hA hml hl.1 (r_M_b l D E h q H.size I506 J505 B217 G505 4 (by decide) (by decide) 3 (by decide) (by decide) S.1) kl_M_b ks_M_b kx_M_b ki_M_b ini_M hd_M_b ⟨Nat.le_of_ble_eq_true rfl, Nat.le_of_ble_eq_true rfl⟩ rfl (Nat.le_of_ble_eq_true rfl) d_M_issued_820 ⟨Nat.le_refl _, Nat.le_refl _⟩) X Y hA S (by decide) (by decide) (fun z614 u H locs Y S s614 p614 => ?_)
                                  obtain ⟨I614, J614, B614, G614⟩ := u
                                  dsimp only at Y S s614 p614
                                  have i614 : I506 = I614 := (funext (fun j => s614.2.1 j (by simp))).symm
                                  subst i614
                                  have b614 : B217 = B614 := (funext (fun j => s614.2.2 j (by simp))).symm
                                  subst b614
                                  obtain ⟨l614, u614, x614⟩ := p614
                                  have p615 : pr z505 z614 := by rw [x505, x614]; exact (pG2_cg rfl rfl (pG2_cg rfl rfl (pG2_cg rfl rfl (pG2_cg rfl rfl (pG2_cg rfl rfl (pG2_cg rfl rfl (pG2_cg rfl rfl (pG2_cg rfl rfl (pG2_cg rfl rfl (pG2_cg rfl rfl (pG2_cg rfl rfl (pG2_cg rfl rfl f220)))))))))))) (16 * 4 + 3 : Int).toNat (by omega)
                                  unfold pr at p615
                                  exact J528 z614 z495 z498 z505 I506 J614 B217 G614 _ _ _ (by omega) (by omega) (pG1_cg rfl rfl (pG1_cg (w506.2 39 (by decide)) (w506.2 40 (by decide)) (pG1_cg rfl rfl (pG1_cg (w501.2 39 (by decide)) (w501.2 40 (by decide)) f499)))) (pG2_cg rfl rfl (pG2_cg rfl rfl (pG2_cg rfl rfl (pG2_cg rfl rfl (pG2_cg rfl rfl (pG2_cg rfl rfl (pG2_cg rfl rfl (pG2_cg rfl rfl (pG2_cg rfl rfl (pG2_cg rfl rfl (pG2_cg rfl rfl (pG2_cg rfl rfl f220)))))))))))) (rrP_cg rfl rfl rfl (rrP_cg (w506.2 69 (by decide)) rfl rfl (rrP_cg rfl rfl rfl f503))) (sz3_cg rfl rfl (sz3_cg rfl rfl (sz3_cg rfl rfl (sz3_cg rfl rfl (sz3_cg rfl rfl (sz3_cg rfl rfl (sz3_cg rfl rfl (sz3_cg rfl rfl (sz3_cg rfl rfl (sz3_cg rfl rfl (sz3_cg rfl rfl (sz3_cg rfl rfl f222)))))))))))) (s4_cg rfl rfl rfl (s4_cg (w506.2 69 (by decide)) rfl rfl (s4_cg rfl rfl rfl f502))) (ssP_cg rfl rfl (ssP_cg rfl rfl (ssP_cg rfl rfl (ssP_cg rfl rfl (ssP_cg rfl rfl (ssP_cg rfl rfl (ssP_cg rfl rfl (ssP_cg rfl rfl (ssP_cg rfl rfl (ssP_cg rfl rfl (ssP_cg rfl rfl (ssP_cg rfl rfl f224)))))))))))) (thF_cg rfl rfl (thF_cg rfl rfl (thF_cg rfl rfl (thF_cg rfl rfl (thF_cg rfl rfl (thF_cg rfl rfl (thF_cg rfl rfl (thF_cg rfl rfl (thF_cg rfl rfl (thF_cg rfl rfl (thF_cg rfl rfl (thF_cg rfl rfl f225)))))))))))) ((w506.2 69 (by decide)).trans ((w501.2 69 (by decide)).trans ((w496.2 69 (by decide)).trans ((w493.2 69 (by decide)).trans ((w235.2 69 (by decide)).trans e226))))) ((w506.2 86 (by decide)).trans ((w501.2 86 (by decide)).trans w496.1)) ((w506.2 87 (by decide)).trans w501.1) w506.1 ((w506.2 77 (by decide)).trans ((w501.2 77 (by decide)).trans ((w496.2 77 (by decide)).trans ((w493.2 77 (by decide)).trans ((w235.2 77 (by decide)).trans e227))))) ((w506.2 75 (by decide)).trans ((w501.2 75 (by decide)).trans ((w496.2 75 (by decide)).trans ((w493.2 75 (by decide)).trans ((w235.2 75 (by decide)).trans e228))))) ((w506.2 76 (by decide)).trans ((w501.2 76 (by decide)).trans ((w496.2 76 (by decide)).trans ((w493.2 76 (by decide)).trans ((w235.2 76 (by decide)).trans e229))))) ((w506.2 33 (by decide)).trans ((w501.2 33 (by decide)).trans ((w496.2 33 (by decide)).trans ((w493.2 33 (by decide)).trans ((w235.2 33 (by decide)).trans e230))))) ((w506.2 86 (by decide)).trans ((w501.2 86 (by decide)).trans w496.1)) (by omega) (by omega) ((w506.2 87 (by decide)).trans w501.1) (by omega) (by omega) w506.1 (by omega) (by omega) (by have q0 := (pG2_cg rfl rfl (pG2_cg rfl rfl (pG2_cg rfl rfl (pG2_cg rfl rfl (pG2_cg rfl rfl (pG2_cg rfl rfl (pG2_cg rfl rfl (pG2_cg rfl rfl (pG2_cg rfl rfl (pG2_cg rfl rfl (pG2_cg rfl rfl (pG2_cg rfl rfl f220)))))))))))) (16 * 1 + 1 : Int).toNat (by decide); have q1 := (pG2_cg rfl rfl (pG2_cg rfl rfl (pG2_cg rfl rfl (pG2_cg rfl rfl (pG2_cg rfl rfl (pG2_cg rfl rfl (pG2_cg rfl rfl (pG2_cg rfl rfl (pG2_cg rfl rfl (pG2_cg rfl rfl (pG2_cg rfl rfl (pG2_cg rfl rfl f220)))))))))))) (16 * 1 + 3 : Int).toNat (by decide); have q2 := (pG2_cg rfl rfl (pG2_cg rfl rfl (pG2_cg rfl rfl (pG2_cg rfl rfl (pG2_cg rfl rfl (pG2_cg rfl rfl (pG2_cg rfl rfl (pG2_cg rfl rfl (pG2_cg rfl rfl (pG2_cg rfl rfl (pG2_cg rfl rfl (pG2_cg rfl rfl f220)))))))))))) (16 * 1 + 9 : Int).toNat (by decide); have q3 := (pG2_cg rfl rfl (pG2_cg rfl rfl (pG2_cg rfl rfl (pG2_cg rfl rfl (pG2_cg rfl rfl (pG2_cg rfl rfl (pG2_cg rfl rfl (pG2_cg rfl rfl (pG2_cg rfl rfl (pG2_cg rfl rfl (pG2_cg rfl rfl (pG2_cg rfl rfl f220)))))))))))) (16 * 4 + 2 : Int).toNat (by decide); have q4 := (pG2_cg rfl rfl (pG2_cg rfl rfl (pG2_cg rfl rfl (pG2_cg rfl rfl (pG2_cg rfl rfl (pG2_cg rfl rfl (pG2_cg rfl rfl (pG2_cg rfl rfl (pG2_cg rfl rfl (pG2_cg rfl rfl (pG2_cg rfl rfl (pG2_cg rfl rfl f220)))))))))))) (16 * 4 + 3 : Int).toNat (by decide); have q5 := (pG2_cg rfl rfl (pG2_cg rfl rfl (pG2_cg rfl rfl (pG2_cg rfl rfl (pG2_cg rfl rfl (pG2_cg rfl rfl (pG2_cg rfl rfl (pG2_cg rfl rfl (pG2_cg rfl rfl (pG2_cg rfl rfl (pG2_cg rfl rfl (pG2_cg rfl rfl f220)))))))))))) (16 * 4 + 9 : Int).toNat (by decide); unfold pr at q0 q1 q2 q3 q4 q5; have k1 := (sz3_cg rfl rfl (sz3_cg rfl rfl (sz3_cg rfl rfl (sz3_cg rfl rfl (sz3_cg rfl rfl (sz3_cg rfl rfl (sz3_cg rfl rfl (sz3_cg rfl rfl (sz3_cg rfl rfl (sz3_cg rfl rfl (sz3_cg rfl rfl (sz3_cg rfl rfl f222)))))))))))); unfold sz3 at k1; have k3 := (ssP_cg rfl rfl (ssP_cg rfl rfl (ssP_cg rfl rfl (ssP_cg rfl rfl (ssP_cg rfl rfl (ssP_cg rfl rfl (ssP_cg rfl rfl (ssP_cg rfl rfl (ssP_cg rfl rfl (ssP_cg rfl rfl (ssP_cg rfl rfl (ssP_cg rfl rfl f224)))))))))))); unfold ssP at k3; have k2 := rr_0 (rrP_cg rfl rfl rfl (rrP_cg (w506.2 69 (by decide)) rfl rfl (rrP_cg rfl rfl rfl f503))) ((w506.2 69 (by decide)).trans ((w501.2 69 (by decide)).trans ((w496.2 69 (by decide)).trans ((w493.2 69 (by decide)).trans ((w235.2 69 (by decide)).trans e226))))) (by omega); have k4 := s4_0 (s4_cg rfl rfl rfl (s4_cg (w506.2 69 (by decide)) rfl rfl (s4_cg rfl rfl rfl f502))) ((w506.2 69 (by decide)).trans ((w501.2 69 (by decide)).trans ((w496.2 69 (by decide)).trans ((w493.2 69 (by decide)).trans ((w235.2 69 (by decide)).trans e226))))) (by omega); unfold sz3 at k4; omega) Y S (lv_sub hl [1] rfl)
                      · refine lv_iconst (v := iI 1) X.1 X.2.1 d_M_issued_689 (by decide) ?_
                        refine lv_goto (tgt := 694) X.1 X.2.1 d_M_issued_690 (by decide) ?_
                        refine lv_istore (lv' := [(11, .int (iI 1)), (0, .ref h), (1, .int (iI z101)), (10, .int (iI z218))]) X.1 X.2.1 d_M_issued_694 hl (by decide) rfl (fun ls hl => ?_)
                        refine lv_aload_n X.1 X.2.1 d_M_issued_696 rfl (lv_at hl 1 rfl) ?_
                        refine lv_iload X.1 X.2.1 d_M_issued_697 (lv_at hl 0 rfl) ?_
                        refine z_if_eq (tgt := 712) X.1 X.2.1 d_M_issued_699 (by decide) ⟨by decide, by decide⟩ (fun h616 => False.elim (by omega)) (fun h616 => ?_)
                        · refine lv_aload_n X.1 X.2.1 d_M_issued_702 rfl (lv_at hl 1 rfl) ?_
                          refine lv_iconst (v := iI 1) X.1 X.2.1 d_M_issued_703 (by decide) ?_
                          refine lv_bipush (v := iI 9) X.1 X.2.1 d_M_issued_704 (by decide) ?_
                          refine r_ni (m_run (As := [.int (iI 1), .int (iI 9)]) (rest := [.ref h]) (n := 2) X Y hZ hA hml hl.1 (r_M_has l D E h q H.size I235 J489 B217 G489 1 (by decide) (by decide) 9 (by decide) (by decide) S.1) kl_M_has ks_M_has kx_M_has ki_M_has ini_M hd_M_has ⟨Nat.le_of_ble_eq_true rfl, Nat.le_of_ble_eq_true rfl⟩ rfl (Nat.le_of_ble_eq_true rfl) d_M_issued_706 ⟨Nat.le_refl _, Nat.le_refl _⟩) X Y hA S (by decide) (by decide) (fun z617 u H locs Y S s617 p617 => ?_)
                          obtain ⟨I617, J617, B617, G617⟩ := u
                          dsimp only at Y S s617 p617
                          have i617 : I235 = I617 := (funext (fun j => s617.2.1 j (by simp))).symm
                          subst i617
                          have b617 : B217 = B617 := (funext (fun j => s617.2.2 j (by simp))).symm
                          subst b617
                          obtain ⟨l617, u617, x617⟩ := p617
                          refine lv_goto (tgt := 719) X.1 X.2.1 d_M_issued_709 (by decide) ?_
                          refine r_puti (k := 85) X Y S (by decide) lk_hasAddress rfl rfl (t_M_ok 85 (by decide)) (iI_bool (by omega) (by omega)).1 (iI_bool (by omega) (by omega)).2 (sf_hasAddress _ _ _ _) (Nat.le_of_ble_eq_true rfl) rfl (show (0 : Int) ≤ z617 by omega) (show z617 ≤ (1 : Int) by omega) ⟨by omega, by omega⟩ (by decide) d_M_issued_719 (fun I618 H locs Y S w618 => ?_)
                          refine lv_aload_n X.1 X.2.1 d_M_issued_722 rfl (lv_at hl 1 rfl) ?_
                          refine lv_iload X.1 X.2.1 d_M_issued_723 (lv_at hl 0 rfl) ?_
                          refine z_if_eq (tgt := 738) X.1 X.2.1 d_M_issued_725 (by decide) ⟨by decide, by decide⟩ (fun h619 => False.elim (by omega)) (fun h619 => ?_)
                          · refine lv_aload_n X.1 X.2.1 d_M_issued_728 rfl (lv_at hl 1 rfl) ?_
                            refine lv_iconst (v := iI 1) X.1 X.2.1 d_M_issued_729 (by decide) ?_
                            refine lv_bipush (v := iI 9) X.1 X.2.1 d_M_issued_730 (by decide) ?_
                            refine r_ni (m_run (As := [.int (iI 1), .int (iI 9)]) (rest := [.ref h]) (n := 2) X Y hZ hA hml hl.1 (r_M_a l D E h q H.size I618 J617 B217 G617 1 (by decide) (by decide) 9 (by decide) (by decide) S.1) kl_M_a ks_M_a kx_M_a ki_M_a ini_M hd_M_a ⟨Nat.le_of_ble_eq_true rfl, Nat.le_of_ble_eq_true rfl⟩ rfl (Nat.le_of_ble_eq_true rfl) d_M_issued_732 ⟨Nat.le_refl _, Nat.le_refl _⟩) X Y hA S (by decide) (by decide) (fun z620 u H locs Y S s620 p620 => ?_)
                            obtain ⟨I620, J620, B620, G620⟩ := u
                            dsimp only at Y S s620 p620
                            have i620 : I618 = I620 := (funext (fun j => s620.2.1 j (by simp))).symm
                            subst i620
                            have b620 : B217 = B620 := (funext (fun j => s620.2.2 j (by simp))).symm
                            subst b620
                            obtain ⟨l620, u620, x620⟩ := p620
                            refine lv_goto (tgt := 745) X.1 X.2.1 d_M_issued_735 (by decide) ?_
                            refine r_puti (k := 86) X Y S (by decide) lk_addressAt rfl rfl (t_M_ok 86 (by decide)) rfl rfl (sf_addressAt _ _ _ _) (Nat.le_of_ble_eq_true rfl) rfl (show ((-2147483648) : Int) ≤ z620 by omega) (show z620 ≤ (2147483647 : Int) by omega) ⟨by omega, by omega⟩ (by decide) d_M_issued_745 (fun I621 H locs Y S w621 => ?_)
                            refine lv_aload_n X.1 X.2.1 d_M_issued_748 rfl (lv_at hl 1 rfl) ?_
                            refine lv_iload X.1 X.2.1 d_M_issued_749 (lv_at hl 0 rfl) ?_
                            refine z_if_eq (tgt := 764) X.1 X.2.1 d_M_issued_751 (by decide) ⟨by decide, by decide⟩ (fun h622 => False.elim (by omega)) (fun h622 => ?_)
                            · refine lv_aload_n X.1 X.2.1 d_M_issued_754 rfl (lv_at hl 1 rfl) ?_
                              refine lv_iconst (v := iI 1) X.1 X.2.1 d_M_issued_755 (by decide) ?_
                              refine lv_bipush (v := iI 9) X.1 X.2.1 d_M_issued_756 (by decide) ?_
                              refine r_ni (m_run (As := [.int (iI 1), .int (iI 9)]) (rest := [.ref h]) (n := 2) X Y hZ hA hml hl.1 (r_M_b l D E h q H.size I621 J620 B217 G620 1 (by decide) (by decide) 9 (by decide) (by decide) S.1) kl_M_b ks_M_b kx_M_b ki_M_b ini_M hd_M_b ⟨Nat.le_of_ble_eq_true rfl, Nat.le_of_ble_eq_true rfl⟩ rfl (Nat.le_of_ble_eq_true rfl) d_M_issued_758 ⟨Nat.le_refl _, Nat.le_refl _⟩) X Y hA S (by decide) (by decide) (fun z623 u H locs Y S s623 p623 => ?_)
                              obtain ⟨I623, J623, B623, G623⟩ := u
                              dsimp only at Y S s623 p623
                              have i623 : I621 = I623 := (funext (fun j => s623.2.1 j (by simp))).symm
                              subst i623
                              have b623 : B217 = B623 := (funext (fun j => s623.2.2 j (by simp))).symm
                              subst b623
                              have f624 : pG1 I621 := (pG1_cg rfl rfl (pG1_cg (w621.2 39 (by decide)) (w621.2 40 (by decide)) (pG1_cg rfl rfl (pG1_cg (w618.2 39 (by decide)) (w618.2 40 (by decide)) (pG1_cg rfl rfl (pG1_cg rfl rfl (pG1_cg rfl rfl (pG1_cg (w235.2 39 (by decide)) (w235.2 40 (by decide)) f219))))))))
                              obtain ⟨l623, u623, x623⟩ := p623
                              have p625 : pr z620 z623 := by rw [x620, x623]; exact (pG2_cg rfl rfl (pG2_cg rfl rfl (pG2_cg rfl rfl (pG2_cg rfl rfl (pG2_cg rfl rfl (pG2_cg rfl rfl (pG2_cg rfl rfl (pG2_cg rfl rfl f220)))))))) (16 * 1 + 9 : Int).toNat (by omega)
                              unfold pr at p625
                              refine lv_goto (tgt := 771) X.1 X.2.1 d_M_issued_761 (by decide) ?_
                              refine r_puti (k := 87) X Y S (by decide) lk_addressEnd rfl rfl (t_M_ok 87 (by decide)) rfl rfl (sf_addressEnd _ _ _ _) (Nat.le_of_ble_eq_true rfl) rfl (show ((-2147483648) : Int) ≤ z623 by omega) (show z623 ≤ (2147483647 : Int) by omega) ⟨by omega, by omega⟩ (by decide) d_M_issued_771 (fun I626 H locs Y S w626 => ?_)
                              have f627 : s4 (I626 69) (B217 37) (B217 38) := (s4_cg (w626.2 69 (by decide)) rfl rfl (s4_cg rfl rfl rfl (s4_cg (w621.2 69 (by decide)) rfl rfl (s4_cg rfl rfl rfl (s4_cg (w618.2 69 (by decide)) rfl rfl (s4_cg rfl rfl rfl (s4_cg rfl rfl rfl (s4_cg rfl rfl rfl (s4_cg (w235.2 69 (by decide)) rfl rfl f223)))))))))
                              have f628 : rrP rr (I626 69) (B217 37) (B217 38) := (rrP_cg (w626.2 69 (by decide)) rfl rfl (rrP_cg rfl rfl rfl (rrP_cg (w621.2 69 (by decide)) rfl rfl (rrP_cg rfl rfl rfl (rrP_cg (w618.2 69 (by decide)) rfl rfl (rrP_cg rfl rfl rfl (rrP_cg rfl rfl rfl (rrP_cg rfl rfl rfl (rrP_cg (w235.2 69 (by decide)) rfl rfl f221)))))))))
                              refine lv_aload_n X.1 X.2.1 d_M_issued_774 rfl (lv_at hl 1 rfl) ?_
                              refine lv_aload_n X.1 X.2.1 d_M_issued_775 rfl (lv_at hl 1 rfl) ?_
                              refine r_get0 X Y (by decide) lk_isAs (gf_isAs _ _ _) rfl ((w626.2 69 (by decide)).trans ((w621.2 69 (by decide)).trans ((w618.2 69 (by decide)).trans ((w235.2 69 (by decide)).trans e226)))) d_M_issued_776 ?_
                              refine z_if_eq (tgt := 791) X.1 X.2.1 d_M_issued_779 (by decide) ⟨by omega, by omega⟩ (fun h629 => ?_) (fun h629 => False.elim (by omega))
                              · refine lv_aload_n X.1 X.2.1 d_M_issued_791 rfl (lv_at hl 1 rfl) ?_
                                refine lv_iconst (v := iI 4) X.1 X.2.1 d_M_issued_792 (by decide) ?_
                                refine lv_iconst (v := iI 3) X.1 X.2.1 d_M_issued_793 (by decide) ?_
                                refine r_ni (m_run (As := [.int (iI 4), .int (iI 3)]) (rest := [.ref h]) (n := 2) X Y hZ hA hml hl.1 (r_M_a l D E h q H.size I626 J623 B217 G623 4 (by decide) (by decide) 3 (by decide) (by decide) S.1) kl_M_a ks_M_a kx_M_a ki_M_a ini_M hd_M_a ⟨Nat.le_of_ble_eq_true rfl, Nat.le_of_ble_eq_true rfl⟩ rfl (Nat.le_of_ble_eq_true rfl) d_M_issued_794 ⟨Nat.le_refl _, Nat.le_refl _⟩) X Y hA S (by decide) (by decide) (fun z630 u H locs Y S s630 p630 => ?_)
                                obtain ⟨I630, J630, B630, G630⟩ := u
                                dsimp only at Y S s630 p630
                                have i630 : I626 = I630 := (funext (fun j => s630.2.1 j (by simp))).symm
                                subst i630
                                have b630 : B217 = B630 := (funext (fun j => s630.2.2 j (by simp))).symm
                                subst b630
                                obtain ⟨l630, u630, x630⟩ := p630
                                refine r_puti (k := 88) X Y S (by decide) lk_clientAt rfl rfl (t_M_ok 88 (by decide)) rfl rfl (sf_clientAt _ _ _ _) (Nat.le_of_ble_eq_true rfl) rfl (show ((-2147483648) : Int) ≤ z630 by omega) (show z630 ≤ (2147483647 : Int) by omega) ⟨by omega, by omega⟩ (by decide) d_M_issued_797 (fun I631 H locs Y S w631 => ?_)
                                refine lv_aload_n X.1 X.2.1 d_M_issued_800 rfl (lv_at hl 1 rfl) ?_
                                refine lv_aload_n X.1 X.2.1 d_M_issued_801 rfl (lv_at hl 1 rfl) ?_
                                refine r_get0 X Y (by decide) lk_isAs (gf_isAs _ _ _) rfl ((w631.2 69 (by decide)).trans ((w626.2 69 (by decide)).trans ((w621.2 69 (by decide)).trans ((w618.2 69 (by decide)).trans ((w235.2 69 (by decide)).trans e226))))) d_M_issued_802 ?_
                                have J653 : ∀ (z633 : Int) (z649 : Int) (z650 : Int) (z651 : Int) (I632 : Nat → Int32) (J632 : Nat → Int64) (B632 : Nat → Nat → Int32) (G632 : Nat → Nat → Int64) (H : Heap) (locs : List Loc) (ls : Array Slot), ((-1) ≤ z633) → (z633 ≤ 30000) → (pG1 I632) → (pG2 (B632 37) (B632 38)) → (rrP rr (I632 69) (B632 37) (B632 38)) → (sz3 (16 * 1 + 1 : Int).toNat (16 * 1 + 3 : Int).toNat (16 * 1 + 9 : Int).toNat (B632 37) (B632 38)) → (s4 (I632 69) (B632 37) (B632 38)) → (ssP ss (B632 37) (B632 38)) → (thF [7] (B 37) (B 38) (B632 37) (B632 38)) → (I632 69 = iI ia) → (I632 86 = iI z620) → (I632 87 = iI z623) → (I632 88 = iI z630) → (I632 77 = iI ty) → (I632 75 = iI cl) → (I632 76 = iI sv) → (I632 33 = iI cn) → (I632 86 = iI z649) → ((-1) ≤ z649) → (z649 ≤ 30000) → (I632 87 = iI z650) → ((-1) ≤ z650) → (z650 ≤ 30000) → (I632 88 = iI z651) → ((-1) ≤ z651) → (z651 ≤ 30000) → ((z649 ≤ z650 ∧ (0 ≤ z649 ∨ z649 = z650) ∧ z650 - z649 ≤ 4200 ∧ z651 ≤ z633 ∧ (0 ≤ z651 ∨ z651 = z633) ∧ z633 - z651 ≤ 4200 ∧ (z650 - z649) + (z633 - z651) + rr + ss ≤ 8400)) → mH D E (mA E h q sz) s.heap h q I632 J632 B632 G632 H locs → rS [3, 8, 14, 18, 29, 33, 36, 39, 40, 42, 80, 81, 84, 85, 86, 87, 88, 89] [0, 1, 5, 6, 7, 9, 10, 11, 12, 13, 15, 16, 17, 19, 20, 21, 22, 23, 24, 34, 35, 37, 38, 56, 59, 60, 90] I B I632 B632 → lv_has ls 15 [(0, .ref h)] → W p l e (mR 45 2046) s m AV below meth c H locs 0 0 QQ (F0 m 823 ls [.int (iI z633), .ref h]) := by
                                  intro z633 z649 z650 z651 I632 J632 B632 G632 H locs ls l633 u633 f634 f635 f636 f637 f638 f639 f640 e641 e642 e643 e644 e645 e646 e647 e648 e649 l649 u649 e650 l650 u650 e651 l651 u651 i652 Y S hl
                                  refine r_puti (k := 89) X Y S (by decide) lk_clientEnd rfl rfl (t_M_ok 89 (by decide)) rfl rfl (sf_clientEnd _ _ _ _) (Nat.le_of_ble_eq_true rfl) rfl (show ((-2147483648) : Int) ≤ z633 by omega) (show z633 ≤ (2147483647 : Int) by omega) ⟨by omega, by omega⟩ (by decide) d_M_issued_823 (fun I657 H locs Y S w657 => ?_)
                                  refine lv_aload_n X.1 X.2.1 d_M_issued_826 rfl (lv_at hl 0 rfl) ?_
                                  refine lv_aload_n X.1 X.2.1 d_M_issued_827 rfl (lv_at hl 0 rfl) ?_
                                  refine r_get0 X Y (by decide) lk_type (gf_type _ _ _) rfl ((w657.2 77 (by decide)).trans e645) d_M_issued_828 ?_
                                  refine lv_aload_n X.1 X.2.1 d_M_issued_831 rfl (lv_at hl 0 rfl) ?_
                                  refine m_get X Y 60 (by decide) lk_fresh (gf_fresh _ _ _) rfl d_M_issued_832 ?_
                                  refine r_nv (m_run (As := [.int (iI ty), .ref ((q 60))]) (rest := []) (n := 2) X Y hZ hA hml hl.1 (r_M_newKey_fresh l D E h q H.size I657 J632 B632 G632 ty (by omega) (by omega) S.1 cn ((w657.2 33 (by decide)).trans e648) (by omega) (by omega)) kl_M_newKey ks_M_newKey kx_M_newKey ki_M_newKey ini_M hd_M_newKey ⟨Nat.le_of_ble_eq_true rfl, Nat.le_of_ble_eq_true rfl⟩ rfl (Nat.le_of_ble_eq_true rfl) d_M_issued_835 ⟨Nat.le_refl _, Nat.le_refl _⟩) X Y hA S (by decide) (by decide) (fun u H locs Y S s658 p658 => ?_)
                                  obtain ⟨I658, J658, B658, G658⟩ := u
                                  dsimp only at Y S s658 p658
                                  have x658 := p658
                                  obtain ⟨z659, e659, l659, u659⟩ := x658
                                  refine lv_aload_n X.1 X.2.1 d_M_issued_838 rfl (lv_at hl 0 rfl) ?_
                                  refine r_nv (m_run (As := []) (rest := []) (n := 0) X Y hZ hA hml hl.1 (r_M_start l D E h q H.size I658 J658 B658 G658 S.1) kl_M_start ks_M_start kx_M_start ki_M_start ini_M hd_M_start ⟨Nat.le_of_ble_eq_true rfl, Nat.le_of_ble_eq_true rfl⟩ rfl (Nat.le_of_ble_eq_true rfl) d_M_issued_839 ⟨Nat.le_refl _, Nat.le_refl _⟩) X Y hA S (by decide) (by decide) (fun u H locs Y S s660 p660 => ?_)
                                  obtain ⟨I660, J660, B660, G660⟩ := u
                                  dsimp only at Y S s660 p660
                                  have b660 : B658 = B660 := (funext (fun j => s660.2.2 j (by simp))).symm
                                  subst b660
                                  have x660 := p660
                                  refine lv_aload_n X.1 X.2.1 d_M_issued_842 rfl (lv_at hl 0 rfl) ?_
                                  refine r_nv (m_run (As := []) (rest := []) (n := 0) X Y hZ hA hml hl.1 (r_M_part l D E h q H.size I660 J660 B658 G660 S.1 60000 (x660.trans (congrArg iI (show (60000 : Int) = 60000 by omega))) (by omega) (by omega) ty ((s660.2.1 77 (by decide)).trans ((s658.2.1 77 (by decide)).trans ((w657.2 77 (by decide)).trans e645))) (by omega) (by omega) z649 ((s660.2.1 86 (by decide)).trans ((s658.2.1 86 (by decide)).trans ((w657.2 86 (by decide)).trans e649))) (by omega) (by omega) z650 ((s660.2.1 87 (by decide)).trans ((s658.2.1 87 (by decide)).trans ((w657.2 87 (by decide)).trans e650))) (by omega) (by omega) z651 ((s660.2.1 88 (by decide)).trans ((s658.2.1 88 (by decide)).trans ((w657.2 88 (by decide)).trans e651))) (by omega) (by omega) z633 ((s660.2.1 89 (by decide)).trans ((s658.2.1 89 (by decide)).trans w657.1)) (by omega) (by omega) ia ((s660.2.1 69 (by decide)).trans ((s658.2.1 69 (by decide)).trans ((w657.2 69 (by decide)).trans e641))) (by omega) (by omega) rr (pG1_cg (s660.2.1 39 (by decide)) (s660.2.1 40 (by decide)) (pG1_cg (s658.2.1 39 (by decide)) (s658.2.1 40 (by decide)) (pG1_cg (w657.2 39 (by decide)) (w657.2 40 (by decide)) f634))) (pG2_cg rfl rfl (pG2_cg (s658.2.2 37 (by decide)) (s658.2.2 38 (by decide)) (pG2_cg rfl rfl f635))) (rrP_cg (s660.2.1 69 (by decide)) rfl rfl (rrP_cg (s658.2.1 69 (by decide)) (s658.2.2 37 (by decide)) (s658.2.2 38 (by decide)) (rrP_cg (w657.2 69 (by decide)) rfl rfl f636))) (by omega) (by omega) (by omega) (by omega) (by omega) (by omega)) kl_M_part ks_M_part kx_M_part ki_M_part ini_M hd_M_part ⟨Nat.le_of_ble_eq_true rfl, Nat.le_of_ble_eq_true rfl⟩ rfl (Nat.le_of_ble_eq_true rfl) d_M_issued_843 ⟨Nat.le_refl _, Nat.le_refl _⟩) X Y hA S (by decide) (by decide) (fun u H locs Y S s661 p661 => ?_)
                                  obtain ⟨I661, J661, B661, G661⟩ := u
                                  dsimp only at Y S s661 p661
                                  have f662 : s4 (I661 69) (B661 37) (B661 38) := (s4_cg (s661.2.1 69 (by decide)) (s661.2.2 37 (by decide)) (s661.2.2 38 (by decide)) (s4_cg (s660.2.1 69 (by decide)) rfl rfl (s4_cg (s658.2.1 69 (by decide)) (s658.2.2 37 (by decide)) (s658.2.2 38 (by decide)) (s4_cg (w657.2 69 (by decide)) rfl rfl f638))))
                                  have f663 : rrP rr (I661 69) (B661 37) (B661 38) := (rrP_cg (s661.2.1 69 (by decide)) (s661.2.2 37 (by decide)) (s661.2.2 38 (by decide)) (rrP_cg (s660.2.1 69 (by decide)) rfl rfl (rrP_cg (s658.2.1 69 (by decide)) (s658.2.2 37 (by decide)) (s658.2.2 38 (by decide)) (rrP_cg (w657.2 69 (by decide)) rfl rfl f636))))
                                  obtain ⟨x661, g661_P1, g661_MF⟩ := p661
                                  obtain ⟨z664, e664, l664, u664⟩ := x661
                                  refine lv_aload_n X.1 X.2.1 d_M_issued_846 rfl (lv_at hl 0 rfl) ?_
                                  refine lv_bipush (v := iI 99) X.1 X.2.1 d_M_issued_847 (by decide) ?_
                                  refine lv_ldc (v := (60000)) X.1 X.2.1 X.2.2.2.1 (X.2.2.1 _ cn_M_9) d_M_issued_849 ?_
                                  refine t_eq (y := iI 60000) (by decide) ?_
                                  refine r_nv (m_run (As := [.int (iI 99), .int (iI 60000)]) (rest := []) (n := 2) X Y hZ hA hml hl.1 (r_M_head l D E h q H.size I661 J661 B661 G661 99 (by decide) (by decide) 60000 (by decide) (by decide) S.1 z664 e664 (by omega) (by omega)) kl_M_head ks_M_head kx_M_head ki_M_head ini_M hd_M_head ⟨Nat.le_of_ble_eq_true rfl, Nat.le_of_ble_eq_true rfl⟩ rfl (Nat.le_of_ble_eq_true rfl) d_M_issued_851 ⟨Nat.le_refl _, Nat.le_refl _⟩) X Y hA S (by decide) (by decide) (fun u H locs Y S s665 p665 => ?_)
                                  obtain ⟨I665, J665, B665, G665⟩ := u
                                  dsimp only at Y S s665 p665
                                  obtain ⟨x665, g665_MF⟩ := p665
                                  obtain ⟨z666, e666, l666, u666⟩ := x665
                                  refine lv_ldc (v := (60000)) X.1 X.2.1 X.2.2.2.1 (X.2.2.1 _ cn_M_9) d_M_issued_854 ?_
                                  refine t_eq (y := iI 60000) (by decide) ?_
                                  refine lv_aload_n X.1 X.2.1 d_M_issued_856 rfl (lv_at hl 0 rfl) ?_
                                  refine r_get0 X Y (by decide) lk_w0 (gf_w0 _ _ _) rfl e666 d_M_issued_857 ?_
                                  refine z_isub X.1 X.2.1 d_M_issued_860 ?_
                                  refine lv_istore (lv' := [(12, .int (iI (60000 - z666))), (0, .ref h)]) X.1 X.2.1 d_M_issued_861 hl (by decide) rfl (fun ls hl => ?_)
                                  refine lv_aload_n X.1 X.2.1 d_M_issued_863 rfl (lv_at hl 1 rfl) ?_
                                  refine lv_aload_n X.1 X.2.1 d_M_issued_864 rfl (lv_at hl 1 rfl) ?_
                                  refine r_get0 X Y (by decide) lk_service (gf_service _ _ _) rfl ((s665.2.1 76 (by decide)).trans ((s661.2.1 76 (by decide)).trans ((s660.2.1 76 (by decide)).trans ((s658.2.1 76 (by decide)).trans ((w657.2 76 (by decide)).trans e647))))) d_M_issued_865 ?_
                                  refine lv_aload_n X.1 X.2.1 d_M_issued_868 rfl (lv_at hl 1 rfl) ?_
                                  refine m_get X Y 46 (by decide) lk_versions (gf_versions _ _ _) rfl d_M_issued_869 ?_
                                  refine lv_aload_n X.1 X.2.1 d_M_issued_872 rfl (lv_at hl 1 rfl) ?_
                                  refine r_get0 X Y (by decide) lk_service (gf_service _ _ _) rfl ((s665.2.1 76 (by decide)).trans ((s661.2.1 76 (by decide)).trans ((s660.2.1 76 (by decide)).trans ((s658.2.1 76 (by decide)).trans ((w657.2 76 (by decide)).trans e647))))) d_M_issued_873 ?_
                                  refine r_iald X Y S (aw_versions _ _ _ _ _ _ _) rfl (by omega) (show sv < ((12 : Nat) : Int) by omega) (by omega) d_M_issued_876 (fun z667 q667 l667 u667 => ?_)
                                  refine lv_bipush (v := iI 18) X.1 X.2.1 d_M_issued_877 (by decide) ?_
                                  refine lv_aload_n X.1 X.2.1 d_M_issued_879 rfl (lv_at hl 1 rfl) ?_
                                  refine m_get X Y 56 (by decide) lk_made (gf_made _ _ _) rfl d_M_issued_880 ?_
                                  refine r_nv (m_run (As := [.int (iI sv), .int (iI z667), .int (iI 18), .ref ((q 56))]) (rest := []) (n := 4) X Y hZ hA hml hl.1 (r_M_keyOf_made l D E h q H.size I665 J665 B665 G665 sv (by omega) (by omega) z667 (by omega) (by omega) 18 (by decide) (by decide) S.1) kl_M_keyOf ks_M_keyOf kx_M_keyOf ki_M_keyOf ini_M hd_M_keyOf ⟨Nat.le_of_ble_eq_true rfl, Nat.le_of_ble_eq_true rfl⟩ rfl (Nat.le_of_ble_eq_true rfl) d_M_issued_883 ⟨Nat.le_refl _, Nat.le_refl _⟩) X Y hA S (by decide) (by decide) (fun u H locs Y S s668 p668 => ?_)
                                  obtain ⟨I668, J668, B668, G668⟩ := u
                                  dsimp only at Y S s668 p668
                                  have i668 : I665 = I668 := (funext (fun j => s668.2.1 j (by simp))).symm
                                  subst i668
                                  have f669 : pG2 (B668 37) (B668 38) := (pG2_cg (s668.2.2 37 (by decide)) (s668.2.2 38 (by decide)) (pG2_cg (s665.2.2 37 (by decide)) (s665.2.2 38 (by decide)) (pG2_cg (s661.2.2 37 (by decide)) (s661.2.2 38 (by decide)) (pG2_cg rfl rfl (pG2_cg (s658.2.2 37 (by decide)) (s658.2.2 38 (by decide)) (pG2_cg rfl rfl f635))))))
                                  have f670 : sz3 (16 * 1 + 1 : Int).toNat (16 * 1 + 3 : Int).toNat (16 * 1 + 9 : Int).toNat (B668 37) (B668 38) := (sz3_cg (s668.2.2 37 (by decide)) (s668.2.2 38 (by decide)) (sz3_cg (s665.2.2 37 (by decide)) (s665.2.2 38 (by decide)) (sz3_cg (s661.2.2 37 (by decide)) (s661.2.2 38 (by decide)) (sz3_cg rfl rfl (sz3_cg (s658.2.2 37 (by decide)) (s658.2.2 38 (by decide)) (sz3_cg rfl rfl f637))))))
                                  have f671 : thF [7] (B 37) (B 38) (B668 37) (B668 38) := (thF_cg (s668.2.2 37 (by decide)) (s668.2.2 38 (by decide)) (thF_cg (s665.2.2 37 (by decide)) (s665.2.2 38 (by decide)) (thF_cg (s661.2.2 37 (by decide)) (s661.2.2 38 (by decide)) (thF_cg rfl rfl (thF_cg (s658.2.2 37 (by decide)) (s658.2.2 38 (by decide)) (thF_cg rfl rfl f640))))))
                                  have f672 : ssP ss (B668 37) (B668 38) := (ssP_cg (s668.2.2 37 (by decide)) (s668.2.2 38 (by decide)) (ssP_cg (s665.2.2 37 (by decide)) (s665.2.2 38 (by decide)) (ssP_cg (s661.2.2 37 (by decide)) (s661.2.2 38 (by decide)) (ssP_cg rfl rfl (ssP_cg (s658.2.2 37 (by decide)) (s658.2.2 38 (by decide)) (ssP_cg rfl rfl f639))))))
                                  refine lv_aload_n X.1 X.2.1 d_M_issued_886 rfl (lv_at hl 1 rfl) ?_
                                  refine lv_aload_n X.1 X.2.1 d_M_issued_887 rfl (lv_at hl 1 rfl) ?_
                                  refine m_get X Y 56 (by decide) lk_made (gf_made _ _ _) rfl d_M_issued_888 ?_
                                  refine lv_bipush (v := iI 18) X.1 X.2.1 d_M_issued_891 (by decide) ?_
                                  refine lv_iconst (v := iI 2) X.1 X.2.1 d_M_issued_893 (by decide) ?_
                                  refine lv_aload_n X.1 X.2.1 d_M_issued_894 rfl (lv_at hl 1 rfl) ?_
                                  refine r_get0 X Y (by decide) lk_w0 (gf_w0 _ _ _) rfl e666 d_M_issued_895 ?_
                                  refine lv_ldc (v := (60000)) X.1 X.2.1 X.2.2.2.1 (X.2.2.1 _ cn_M_9) d_M_issued_898 ?_
                                  refine t_eq (y := iI 60000) (by decide) ?_
                                  refine r_nv (m_run (As := [.ref ((q 56)), .int (iI 18), .int (iI 2), .int (iI z666), .int (iI 60000)]) (rest := []) (n := 5) X Y hZ hA hml hl.1 (r_M_seal_made l D E h q H.size I665 J668 B668 G668 18 (by decide) (by decide) 2 (by decide) (by decide) z666 (by omega) (by omega) 60000 (by decide) (by decide) S.1 z659 ((s665.2.1 33 (by decide)).trans ((s661.2.1 33 (by decide)).trans ((s660.2.1 33 (by decide)).trans e659))) (by omega) (by omega) (by omega) (by omega)) kl_M_seal ks_M_seal kx_M_seal ki_M_seal ini_M hd_M_seal ⟨Nat.le_of_ble_eq_true rfl, Nat.le_of_ble_eq_true rfl⟩ rfl (Nat.le_of_ble_eq_true rfl) d_M_issued_900 ⟨Nat.le_refl _, Nat.le_refl _⟩) X Y hA S (by decide) (by decide) (fun u H locs Y S s673 p673 => ?_)
                                  obtain ⟨I673, J673, B673, G673⟩ := u
                                  dsimp only at Y S s673 p673
                                  have x673 := p673
                                  obtain ⟨x673_0, x673_1⟩ := x673
                                  refine lv_aload_n X.1 X.2.1 d_M_issued_903 rfl (lv_at hl 1 rfl) ?_
                                  refine r_nv (m_run (As := []) (rest := []) (n := 0) X Y hZ hA hml hl.1 (r_M_start l D E h q H.size I673 J673 B673 G673 S.1) kl_M_start ks_M_start kx_M_start ki_M_start ini_M hd_M_start ⟨Nat.le_of_ble_eq_true rfl, Nat.le_of_ble_eq_true rfl⟩ rfl (Nat.le_of_ble_eq_true rfl) d_M_issued_904 ⟨Nat.le_refl _, Nat.le_refl _⟩) X Y hA S (by decide) (by decide) (fun u H locs Y S s674 p674 => ?_)
                                  obtain ⟨I674, J674, B674, G674⟩ := u
                                  dsimp only at Y S s674 p674
                                  have b674 : B673 = B674 := (funext (fun j => s674.2.2 j (by simp))).symm
                                  subst b674
                                  have f675 : s4 (I674 69) (B673 37) (B673 38) := (s4_cg (s674.2.1 69 (by decide)) rfl rfl (s4_cg (s673.2.1 69 (by decide)) (s673.2.2 37 (by decide)) (s673.2.2 38 (by decide)) (s4_cg rfl (s668.2.2 37 (by decide)) (s668.2.2 38 (by decide)) (s4_cg (s665.2.1 69 (by decide)) (s665.2.2 37 (by decide)) (s665.2.2 38 (by decide)) f662))))
                                  have f676 : rrP rr (I674 69) (B673 37) (B673 38) := (rrP_cg (s674.2.1 69 (by decide)) rfl rfl (rrP_cg (s673.2.1 69 (by decide)) (s673.2.2 37 (by decide)) (s673.2.2 38 (by decide)) (rrP_cg rfl (s668.2.2 37 (by decide)) (s668.2.2 38 (by decide)) (rrP_cg (s665.2.1 69 (by decide)) (s665.2.2 37 (by decide)) (s665.2.2 38 (by decide)) f663))))
                                  have x674 := p674
                                  refine lv_aload_n X.1 X.2.1 d_M_issued_907 rfl (lv_at hl 1 rfl) ?_
                                  refine lv_iconst (v := iI 3) X.1 X.2.1 d_M_issued_908 (by decide) ?_
                                  refine lv_bipush (v := iI 18) X.1 X.2.1 d_M_issued_909 (by decide) ?_
                                  refine lv_aload_n X.1 X.2.1 d_M_issued_911 rfl (lv_at hl 1 rfl) ?_
                                  refine m_get X Y 46 (by decide) lk_versions (gf_versions _ _ _) rfl d_M_issued_912 ?_
                                  refine lv_aload_n X.1 X.2.1 d_M_issued_915 rfl (lv_at hl 1 rfl) ?_
                                  refine r_get0 X Y (by decide) lk_service (gf_service _ _ _) rfl ((s674.2.1 76 (by decide)).trans ((s673.2.1 76 (by decide)).trans ((s665.2.1 76 (by decide)).trans ((s661.2.1 76 (by decide)).trans ((s660.2.1 76 (by decide)).trans ((s658.2.1 76 (by decide)).trans ((w657.2 76 (by decide)).trans e647))))))) d_M_issued_916 ?_
                                  refine r_iald X Y S (aw_versions _ _ _ _ _ _ _) rfl (by omega) (show sv < ((12 : Nat) : Int) by omega) (by omega) d_M_issued_919 (fun z677 q677 l677 u677 => ?_)
                                  refine lv_i2l X.1 X.2.1 d_M_issued_920 rfl ?_
                                  refine t_anyl (fun v678 => ?_)
                                  refine r_nv (m_run (As := [.int (iI 3), .int (iI 18), .long v678]) (rest := []) (n := 3) X Y hZ hA hml hl.1 (r_M_sealedField l D E h q H.size I674 J674 B673 G674 3 (by decide) (by decide) 18 (by decide) (by decide) v678 S.1 60000 (x674.trans (congrArg iI (show (60000 : Int) = 60000 by omega))) (by omega) (by omega) (60000 - z666 + 28) ((s674.2.1 36 (by decide)).trans (x673_0.trans (congrArg iI (show (60000 - z666 + 28 : Int) = 60000 - z666 + 28 by omega)))) (by omega) (by omega) (by omega)) kl_M_sealedField ks_M_sealedField kx_M_sealedField ki_M_sealedField ini_M hd_M_sealedField ⟨Nat.le_of_ble_eq_true rfl, Nat.le_of_ble_eq_true rfl⟩ rfl (Nat.le_of_ble_eq_true rfl) d_M_issued_921 ⟨Nat.le_refl _, Nat.le_refl _⟩) X Y hA S (by decide) (by decide) (fun u H locs Y S s679 p679 => ?_)
                                  obtain ⟨I679, J679, B679, G679⟩ := u
                                  dsimp only at Y S s679 p679
                                  have f680 : pG1 I679 := (pG1_cg (s679.2.1 39 (by decide)) (s679.2.1 40 (by decide)) (pG1_cg (s674.2.1 39 (by decide)) (s674.2.1 40 (by decide)) (pG1_cg (s673.2.1 39 (by decide)) (s673.2.1 40 (by decide)) (pG1_cg rfl rfl (pG1_cg (s665.2.1 39 (by decide)) (s665.2.1 40 (by decide)) g661_P1)))))
                                  obtain ⟨x679, g679_MF⟩ := p679
                                  obtain ⟨z681, e681, l681, u681⟩ := x679
                                  refine lv_aload_n X.1 X.2.1 d_M_issued_924 rfl (lv_at hl 1 rfl) ?_
                                  refine lv_iconst (v := iI 2) X.1 X.2.1 d_M_issued_925 (by decide) ?_
                                  refine lv_aload_n X.1 X.2.1 d_M_issued_926 rfl (lv_at hl 1 rfl) ?_
                                  refine lv_iconst (v := iI 1) X.1 X.2.1 d_M_issued_927 (by decide) ?_
                                  refine lv_iconst (v := iI 3) X.1 X.2.1 d_M_issued_928 (by decide) ?_
                                  refine r_ni (m_run (As := [.int (iI 1), .int (iI 3)]) (rest := [.int (iI 2), .ref h]) (n := 2) X Y hZ hA hml hl.1 (r_M_a l D E h q H.size I679 J679 B679 G679 1 (by decide) (by decide) 3 (by decide) (by decide) S.1) kl_M_a ks_M_a kx_M_a ki_M_a ini_M hd_M_a ⟨Nat.le_of_ble_eq_true rfl, Nat.le_of_ble_eq_true rfl⟩ rfl (Nat.le_of_ble_eq_true rfl) d_M_issued_929 ⟨Nat.le_refl _, Nat.le_refl _⟩) X Y hA S (by decide) (by decide) (fun z682 u H locs Y S s682 p682 => ?_)
                                  obtain ⟨I682, J682, B682, G682⟩ := u
                                  dsimp only at Y S s682 p682
                                  have i682 : I679 = I682 := (funext (fun j => s682.2.1 j (by simp))).symm
                                  subst i682
                                  have b682 : B679 = B682 := (funext (fun j => s682.2.2 j (by simp))).symm
                                  subst b682
                                  obtain ⟨l682, u682, x682⟩ := p682
                                  refine lv_aload_n X.1 X.2.1 d_M_issued_932 rfl (lv_at hl 1 rfl) ?_
                                  refine lv_iconst (v := iI 1) X.1 X.2.1 d_M_issued_933 (by decide) ?_
                                  refine lv_iconst (v := iI 3) X.1 X.2.1 d_M_issued_934 (by decide) ?_
                                  refine r_ni (m_run (As := [.int (iI 1), .int (iI 3)]) (rest := [.int (iI z682), .int (iI 2), .ref h]) (n := 2) X Y hZ hA hml hl.1 (r_M_b l D E h q H.size I679 J682 B679 G682 1 (by decide) (by decide) 3 (by decide) (by decide) S.1) kl_M_b ks_M_b kx_M_b ki_M_b ini_M hd_M_b ⟨Nat.le_of_ble_eq_true rfl, Nat.le_of_ble_eq_true rfl⟩ rfl (Nat.le_of_ble_eq_true rfl) d_M_issued_935 ⟨Nat.le_refl _, Nat.le_refl _⟩) X Y hA S (by decide) (by decide) (fun z683 u H locs Y S s683 p683 => ?_)
                                  obtain ⟨I683, J683, B683, G683⟩ := u
                                  dsimp only at Y S s683 p683
                                  have i683 : I679 = I683 := (funext (fun j => s683.2.1 j (by simp))).symm
                                  subst i683
                                  have b683 : B679 = B683 := (funext (fun j => s683.2.2 j (by simp))).symm
                                  subst b683
                                  obtain ⟨l683, u683, x683⟩ := p683
                                  have p684 : pr z682 z683 := by rw [x682, x683]; exact (pG2_cg rfl rfl (pG2_cg rfl rfl (pG2_cg (s679.2.2 37 (by decide)) (s679.2.2 38 (by decide)) (pG2_cg rfl rfl (pG2_cg (s673.2.2 37 (by decide)) (s673.2.2 38 (by decide)) f669))))) (16 * 1 + 3 : Int).toNat (by omega)
                                  unfold pr at p684
                                  have s9 : ss = _ := (ssP_cg rfl rfl (ssP_cg rfl rfl (ssP_cg (s679.2.2 37 (by decide)) (s679.2.2 38 (by decide)) (ssP_cg rfl rfl (ssP_cg (s673.2.2 37 (by decide)) (s673.2.2 38 (by decide)) f672)))))
                                  refine r_nv (m_run (As := [.int (iI 2), .int (iI z682), .int (iI z683)]) (rest := []) (n := 3) X Y hZ hA hml hl.1 (r_M_copyField l D E h q H.size I679 J683 B679 G683 2 (by decide) (by decide) z682 (by omega) (by omega) z683 (by omega) (by omega) S.1 z681 e681 (by omega) (by omega) (by omega) (by omega) (by omega) (by omega)) kl_M_copyField ks_M_copyField kx_M_copyField ki_M_copyField ini_M hd_M_copyField ⟨Nat.le_of_ble_eq_true rfl, Nat.le_of_ble_eq_true rfl⟩ rfl (Nat.le_of_ble_eq_true rfl) d_M_issued_938 ⟨Nat.le_refl _, Nat.le_refl _⟩) X Y hA S (by decide) (by decide) (fun u H locs Y S s685 p685 => ?_)
                                  obtain ⟨I685, J685, B685, G685⟩ := u
                                  dsimp only at Y S s685 p685
                                  obtain ⟨x685, g685_MF⟩ := p685
                                  obtain ⟨z686, e686, l686, u686⟩ := x685
                                  refine lv_aload_n X.1 X.2.1 d_M_issued_941 rfl (lv_at hl 1 rfl) ?_
                                  refine lv_iconst (v := iI 1) X.1 X.2.1 d_M_issued_942 (by decide) ?_
                                  refine m_ldcSW (i := 2) X (by decide) (by decide) d_M_issued_943 ?_
                                  refine r_nv (m_run (As := [.int (iI 1), .ref ((D.2.1 2))]) (rest := []) (n := 2) X Y hZ hA hml hl.1 (r_M_wordField l D E h q H.size I685 J685 B685 G685 1 (by decide) (by decide) 2 (show 2 < nZ by decide) S.1 z686 e686 (by omega) (by omega)) kl_M_wordField ks_M_wordField kx_M_wordField ki_M_wordField ini_M hd_M_wordField ⟨Nat.le_of_ble_eq_true rfl, Nat.le_of_ble_eq_true rfl⟩ rfl (Nat.le_of_ble_eq_true rfl) d_M_issued_946 ⟨Nat.le_refl _, Nat.le_refl _⟩) X Y hA S (by decide) (by decide) (fun u H locs Y S s687 p687 => ?_)
                                  obtain ⟨I687, J687, B687, G687⟩ := u
                                  dsimp only at Y S s687 p687
                                  have f688 : pG2 (B687 37) (B687 38) := (pG2_cg (s687.2.2 37 (by decide)) (s687.2.2 38 (by decide)) (pG2_cg (s685.2.2 37 (by decide)) (s685.2.2 38 (by decide)) (pG2_cg rfl rfl (pG2_cg rfl rfl (pG2_cg (s679.2.2 37 (by decide)) (s679.2.2 38 (by decide)) (pG2_cg rfl rfl (pG2_cg (s673.2.2 37 (by decide)) (s673.2.2 38 (by decide)) f669)))))))
                                  have f689 : sz3 (16 * 1 + 1 : Int).toNat (16 * 1 + 3 : Int).toNat (16 * 1 + 9 : Int).toNat (B687 37) (B687 38) := (sz3_cg (s687.2.2 37 (by decide)) (s687.2.2 38 (by decide)) (sz3_cg (s685.2.2 37 (by decide)) (s685.2.2 38 (by decide)) (sz3_cg rfl rfl (sz3_cg rfl rfl (sz3_cg (s679.2.2 37 (by decide)) (s679.2.2 38 (by decide)) (sz3_cg rfl rfl (sz3_cg (s673.2.2 37 (by decide)) (s673.2.2 38 (by decide)) f670)))))))
                                  have f690 : s4 (I687 69) (B687 37) (B687 38) := (s4_cg (s687.2.1 69 (by decide)) (s687.2.2 37 (by decide)) (s687.2.2 38 (by decide)) (s4_cg (s685.2.1 69 (by decide)) (s685.2.2 37 (by decide)) (s685.2.2 38 (by decide)) (s4_cg rfl rfl rfl (s4_cg rfl rfl rfl (s4_cg (s679.2.1 69 (by decide)) (s679.2.2 37 (by decide)) (s679.2.2 38 (by decide)) f675)))))
                                  have f691 : thF [7] (B 37) (B 38) (B687 37) (B687 38) := (thF_cg (s687.2.2 37 (by decide)) (s687.2.2 38 (by decide)) (thF_cg (s685.2.2 37 (by decide)) (s685.2.2 38 (by decide)) (thF_cg rfl rfl (thF_cg rfl rfl (thF_cg (s679.2.2 37 (by decide)) (s679.2.2 38 (by decide)) (thF_cg rfl rfl (thF_cg (s673.2.2 37 (by decide)) (s673.2.2 38 (by decide)) f671)))))))
                                  have f692 : rrP rr (I687 69) (B687 37) (B687 38) := (rrP_cg (s687.2.1 69 (by decide)) (s687.2.2 37 (by decide)) (s687.2.2 38 (by decide)) (rrP_cg (s685.2.1 69 (by decide)) (s685.2.2 37 (by decide)) (s685.2.2 38 (by decide)) (rrP_cg rfl rfl rfl (rrP_cg rfl rfl rfl (rrP_cg (s679.2.1 69 (by decide)) (s679.2.2 37 (by decide)) (s679.2.2 38 (by decide)) f676)))))
                                  have f693 : ssP ss (B687 37) (B687 38) := (ssP_cg (s687.2.2 37 (by decide)) (s687.2.2 38 (by decide)) (ssP_cg (s685.2.2 37 (by decide)) (s685.2.2 38 (by decide)) (ssP_cg rfl rfl (ssP_cg rfl rfl (ssP_cg (s679.2.2 37 (by decide)) (s679.2.2 38 (by decide)) (ssP_cg rfl rfl (ssP_cg (s673.2.2 37 (by decide)) (s673.2.2 38 (by decide)) f672)))))))
                                  obtain ⟨x687, g687_MF⟩ := p687
                                  obtain ⟨z694, e694, l694, u694⟩ := x687
                                  refine lv_aload_n X.1 X.2.1 d_M_issued_949 rfl (lv_at hl 1 rfl) ?_
                                  refine lv_iconst (v := iI 0) X.1 X.2.1 d_M_issued_950 (by decide) ?_
                                  refine lv_ldc2 (v := (5)) X.1 X.2.1 X.2.2.2.1 (X.2.2.1 _ cl_M_669) d_M_issued_951 ?_
                                  refine r_nv (m_run (As := [.int (iI 0), .long ((5))]) (rest := []) (n := 2) X Y hZ hA hml hl.1 (r_M_numberField l D E h q H.size I687 J687 B687 G687 0 (by decide) (by decide) ((5)) S.1 z694 e694 (by omega) (by omega)) kl_M_numberField ks_M_numberField kx_M_numberField ki_M_numberField ini_M hd_M_numberField ⟨Nat.le_of_ble_eq_true rfl, Nat.le_of_ble_eq_true rfl⟩ rfl (Nat.le_of_ble_eq_true rfl) d_M_issued_954 ⟨Nat.le_refl _, Nat.le_refl _⟩) X Y hA S (by decide) (by decide) (fun u H locs Y S s695 p695 => ?_)
                                  obtain ⟨I695, J695, B695, G695⟩ := u
                                  dsimp only at Y S s695 p695
                                  obtain ⟨x695, g695_MF⟩ := p695
                                  obtain ⟨z696, e696, l696, u696⟩ := x695
                                  refine lv_aload_n X.1 X.2.1 d_M_issued_957 rfl (lv_at hl 1 rfl) ?_
                                  refine lv_bipush (v := iI 48) X.1 X.2.1 d_M_issued_958 (by decide) ?_
                                  refine lv_ldc (v := (60000)) X.1 X.2.1 X.2.2.2.1 (X.2.2.1 _ cn_M_9) d_M_issued_960 ?_
                                  refine t_eq (y := iI 60000) (by decide) ?_
                                  refine r_nv (m_run (As := [.int (iI 48), .int (iI 60000)]) (rest := []) (n := 2) X Y hZ hA hml hl.1 (r_M_head l D E h q H.size I695 J695 B695 G695 48 (by decide) (by decide) 60000 (by decide) (by decide) S.1 z696 e696 (by omega) (by omega)) kl_M_head ks_M_head kx_M_head ki_M_head ini_M hd_M_head ⟨Nat.le_of_ble_eq_true rfl, Nat.le_of_ble_eq_true rfl⟩ rfl (Nat.le_of_ble_eq_true rfl) d_M_issued_962 ⟨Nat.le_refl _, Nat.le_refl _⟩) X Y hA S (by decide) (by decide) (fun u H locs Y S s697 p697 => ?_)
                                  obtain ⟨I697, J697, B697, G697⟩ := u
                                  dsimp only at Y S s697 p697
                                  have f698 : pG1 I697 := (pG1_cg (s697.2.1 39 (by decide)) (s697.2.1 40 (by decide)) (pG1_cg (s695.2.1 39 (by decide)) (s695.2.1 40 (by decide)) (pG1_cg (s687.2.1 39 (by decide)) (s687.2.1 40 (by decide)) (pG1_cg (s685.2.1 39 (by decide)) (s685.2.1 40 (by decide)) (pG1_cg rfl rfl (pG1_cg rfl rfl f680))))))
                                  obtain ⟨x697, g697_MF⟩ := p697
                                  obtain ⟨z699, e699, l699, u699⟩ := x697
                                  refine lv_aload_n X.1 X.2.1 d_M_issued_965 rfl (lv_at hl 1 rfl) ?_
                                  refine lv_bipush (v := iI 97) X.1 X.2.1 d_M_issued_966 (by decide) ?_
                                  refine lv_ldc (v := (60000)) X.1 X.2.1 X.2.2.2.1 (X.2.2.1 _ cn_M_9) d_M_issued_968 ?_
                                  refine t_eq (y := iI 60000) (by decide) ?_
                                  refine r_nv (m_run (As := [.int (iI 97), .int (iI 60000)]) (rest := []) (n := 2) X Y hZ hA hml hl.1 (r_M_head l D E h q H.size I697 J697 B697 G697 97 (by decide) (by decide) 60000 (by decide) (by decide) S.1 z699 e699 (by omega) (by omega)) kl_M_head ks_M_head kx_M_head ki_M_head ini_M hd_M_head ⟨Nat.le_of_ble_eq_true rfl, Nat.le_of_ble_eq_true rfl⟩ rfl (Nat.le_of_ble_eq_true rfl) d_M_issued_970 ⟨Nat.le_refl _, Nat.le_refl _⟩) X Y hA S (by decide) (by decide) (fun u H locs Y S s700 p700 => ?_)
                                  obtain ⟨I700, J700, B700, G700⟩ := u
                                  dsimp only at Y S s700 p700
                                  have f701 : s4 (I700 69) (B700 37) (B700 38) := (s4_cg (s700.2.1 69 (by decide)) (s700.2.2 37 (by decide)) (s700.2.2 38 (by decide)) (s4_cg (s697.2.1 69 (by decide)) (s697.2.2 37 (by decide)) (s697.2.2 38 (by decide)) (s4_cg (s695.2.1 69 (by decide)) (s695.2.2 37 (by decide)) (s695.2.2 38 (by decide)) f690)))
                                  have f702 : rrP rr (I700 69) (B700 37) (B700 38) := (rrP_cg (s700.2.1 69 (by decide)) (s700.2.2 37 (by decide)) (s700.2.2 38 (by decide)) (rrP_cg (s697.2.1 69 (by decide)) (s697.2.2 37 (by decide)) (s697.2.2 38 (by decide)) (rrP_cg (s695.2.1 69 (by decide)) (s695.2.2 37 (by decide)) (s695.2.2 38 (by decide)) f692)))
                                  obtain ⟨x700, g700_MF⟩ := p700
                                  obtain ⟨z703, e703, l703, u703⟩ := x700
                                  refine lv_ldc (v := (60000)) X.1 X.2.1 X.2.2.2.1 (X.2.2.1 _ cn_M_9) d_M_issued_973 ?_
                                  refine t_eq (y := iI 60000) (by decide) ?_
                                  refine lv_aload_n X.1 X.2.1 d_M_issued_975 rfl (lv_at hl 1 rfl) ?_
                                  refine r_get0 X Y (by decide) lk_w0 (gf_w0 _ _ _) rfl e703 d_M_issued_976 ?_
                                  refine z_isub X.1 X.2.1 d_M_issued_979 ?_
                                  refine lv_istore (lv' := [(13, .int (iI (60000 - z703))), (12, .int (iI (60000 - z666))), (0, .ref h)]) X.1 X.2.1 d_M_issued_980 hl (by decide) rfl (fun ls hl => ?_)
                                  refine lv_iconst (v := iI 0) X.1 X.2.1 d_M_issued_982 (by decide) ?_
                                  have J724 : ∀ (n726 : Nat) (z705 : Int) (I704 : Nat → Int32) (J704 : Nat → Int64) (B704 : Nat → Nat → Int32) (G704 : Nat → Nat → Int64) (H : Heap) (locs : List Loc) (ls : Array Slot), (38279 - z705).toNat = n726 → (0 ≤ z705) → (z705 ≤ 38279) → (pG1 I704) → (pG2 (B704 37) (B704 38)) → (rrP rr (I704 69) (B704 37) (B704 38)) → (sz3 (16 * 1 + 1 : Int).toNat (16 * 1 + 3 : Int).toNat (16 * 1 + 9 : Int).toNat (B704 37) (B704 38)) → (s4 (I704 69) (B704 37) (B704 38)) → (ssP ss (B704 37) (B704 38)) → (thF [7] (B 37) (B 38) (B704 37) (B704 38)) → (I704 69 = iI ia) → (I704 86 = iI z649) → (I704 87 = iI z650) → (I704 88 = iI z651) → (I704 89 = iI z633) → (I704 77 = iI ty) → (I704 75 = iI cl) → (I704 76 = iI sv) → (I704 42 = iI z703) → (I704 33 = iI (z659 + 16)) → (I704 36 = iI (60000 - z666 + 28)) → mH D E (mA E h q sz) s.heap h q I704 J704 B704 G704 H locs → rS [3, 8, 14, 18, 29, 33, 36, 39, 40, 42, 80, 81, 84, 85, 86, 87, 88, 89] [0, 1, 5, 6, 7, 9, 10, 11, 12, 13, 15, 16, 17, 19, 20, 21, 22, 23, 24, 34, 35, 37, 38, 56, 59, 60, 90] I B I704 B704 → lv_has ls 15 [(0, .ref h), (12, .int (iI (60000 - z666))), (13, .int (iI (60000 - z703))), (14, .int (iI z705))] → W p l e (mR 45 2046) s m AV below meth c H locs 0 0 QQ (F0 m 985 ls []) := by
                                    intro n726
                                    induction n726 using Nat.strongRecOn with
                                    | ind n726 ih725 =>
                                      intro z705 I704 J704 B704 G704 H locs ls hm727 l705 u705 f706 f707 f708 f709 f710 f711 f712 e713 e714 e715 e716 e717 e718 e719 e720 e721 e722 e723 Y S hl
                                      refine lv_iload X.1 X.2.1 d_M_issued_985 (lv_at hl 3 rfl) ?_
                                      refine lv_iload X.1 X.2.1 d_M_issued_987 (lv_at hl 2 rfl) ?_
                                      refine z_icmp_ge (tgt := 1021) X.1 X.2.1 d_M_issued_989 (by decide) ⟨by omega, by omega⟩ ⟨by omega, by omega⟩ (fun h728 => ?_) (fun h728 => ?_)
                                      · refine lv_aload_n X.1 X.2.1 d_M_issued_1021 rfl (lv_at hl 0 rfl) ?_
                                        refine lv_iload X.1 X.2.1 d_M_issued_1022 (lv_at hl 2 rfl) ?_
                                        refine r_nv (m_run (As := [.int (iI (60000 - z703))]) (rest := []) (n := 1) X Y hZ hA hml hl.1 (r_M_reply l D E h q H.size I704 J704 B704 G704 (60000 - z703) (by omega) (by omega) S.1 cl e719 (by omega) (by omega) ty e718 (by omega) (by omega) (z659 + 16) e722 (by omega) (by omega) z649 e714 (by omega) (by omega) z650 e715 (by omega) (by omega) z651 e716 (by omega) (by omega) z633 e717 (by omega) (by omega) ia e713 (by omega) (by omega) rr ss f706 f707 f708 f711 (by omega) (by omega) (by omega) (by omega) (by omega) (by omega) (by omega) (by omega) (by omega)) kl_M_reply ks_M_reply kx_M_reply ki_M_reply ini_M hd_M_reply ⟨Nat.le_of_ble_eq_true rfl, Nat.le_of_ble_eq_true rfl⟩ rfl (Nat.le_of_ble_eq_true rfl) d_M_issued_1024 ⟨Nat.le_refl _, Nat.le_refl _⟩) X Y hA S (by decide) (by decide) (fun u H locs Y S s729 p729 => ?_)
                                        obtain ⟨I729, J729, B729, G729⟩ := u
                                        dsimp only at Y S s729 p729
                                        obtain ⟨x729, g729_P1, g729_P2, g729_TF⟩ := p729
                                        have f730 : sz3 (16 * 1 + 1 : Int).toNat (16 * 1 + 3 : Int).toNat (16 * 1 + 9 : Int).toNat (B729 37) (B729 38) := sz3_T g729_TF (by decide) (by decide) f709
                                        have f731 : s4 (I729 69) (B729 37) (B729 38) := s4_cg (s729.2.1 69 (by decide)) rfl rfl (s4_T g729_TF (by decide) f710)
                                        have f732 : rrP rr (I729 69) (B729 37) (B729 38) := rrP_cg (s729.2.1 69 (by decide)) rfl rfl (rrP_T g729_TF (by decide) f708)
                                        have f733 : ssP ss (B729 37) (B729 38) := ssP_T g729_TF (by decide) f711
                                        obtain ⟨z734, e734, l734, u734⟩ := x729
                                        refine lv_iload X.1 X.2.1 d_M_issued_1027 (lv_at hl 1 rfl) ?_
                                        refine z_if_le (tgt := 1036) X.1 X.2.1 d_M_issued_1029 (by decide) ⟨by omega, by omega⟩ (fun h735 => ?_) (fun h735 => ?_)
                                        · refine lv_bipush (v := iI 60) X.1 X.2.1 d_M_issued_1036 (by decide) ?_
                                          exact m_reti hQQ X Y hr hlk ⟨S, 60, rfl, ⟨by omega, by omega, ⟨z734, e734, by omega, by omega⟩, g729_P1, g729_P2, (thF_tr f712 g729_TF (by decide))⟩⟩ d_M_issued_1038
                                        · refine lv_iconst (v := iI 0) X.1 X.2.1 d_M_issued_1032 (by decide) ?_
                                          refine lv_goto (tgt := 1038) X.1 X.2.1 d_M_issued_1033 (by decide) ?_
                                          exact m_reti hQQ X Y hr hlk ⟨S, 0, rfl, ⟨by omega, by omega, ⟨z734, e734, by omega, by omega⟩, g729_P1, g729_P2, (thF_tr f712 g729_TF (by decide))⟩⟩ d_M_issued_1038
                                      · refine lv_aload_n X.1 X.2.1 d_M_issued_992 rfl (lv_at hl 0 rfl) ?_
                                        refine m_get X Y 0 (by decide) lk_mem (gf_mem _ _ _) rfl d_M_issued_993 ?_
                                        refine lv_sipush (v := iI 22200) X.1 X.2.1 d_M_issued_996 (by decide) ?_
                                        refine lv_iload X.1 X.2.1 d_M_issued_999 (lv_at hl 3 rfl) ?_
                                        refine z_iadd X.1 X.2.1 d_M_issued_1001 ?_
                                        refine lv_aload_n X.1 X.2.1 d_M_issued_1002 rfl (lv_at hl 0 rfl) ?_
                                        refine m_get X Y 0 (by decide) lk_mem (gf_mem _ _ _) rfl d_M_issued_1003 ?_
                                        refine lv_aload_n X.1 X.2.1 d_M_issued_1006 rfl (lv_at hl 0 rfl) ?_
                                        refine r_get0 X Y (by decide) lk_w0 (gf_w0 _ _ _) rfl e721 d_M_issued_1007 ?_
                                        refine lv_iload X.1 X.2.1 d_M_issued_1010 (lv_at hl 3 rfl) ?_
                                        refine z_iadd X.1 X.2.1 d_M_issued_1012 ?_
                                        refine r_bald X Y S (aw_mem _ _ _ _ _ _ _) rfl (by omega) (show z703 + z705 < ((60000 : Nat) : Int) by omega) (by omega) d_M_issued_1013 (fun z736 q736 l736 u736 => ?_)
                                        refine r_bast X Y S (aw_mem _ _ _ _ _ _ _) (sw_mem _ _ _ _ _ _ _) rfl (by omega) (show 22200 + z705 < ((60000 : Nat) : Int) by omega) (by omega) (by decide) d_M_issued_1014 (fun B737 H locs Y S w737 => ?_)
                                        refine lv_iinc (v := iI (z705 + 1)) (lv' := [(14, .int (iI (z705 + 1))), (0, .ref h), (12, .int (iI (60000 - z666))), (13, .int (iI (60000 - z703)))]) X.1 X.2.1 d_M_issued_1015 hl (k := 3) rfl ((iI_add _ _).trans (congrArg iI (by omega))) (by decide) rfl (fun ls hl => ?_)
                                        refine lv_goto (tgt := 985) X.1 X.2.1 d_M_issued_1018 (by decide) ?_
                                        exact ih725 ((38279 - (z705 + 1)).toNat) (by omega) (z705 + 1) I704 J704 B737 G704 _ _ _ rfl (by omega) (by omega) (pG1_cg rfl rfl f706) (pG2_cg (w737.2 37 (by decide)) (w737.2 38 (by decide)) f707) (rrP_cg rfl (w737.2 37 (by decide)) (w737.2 38 (by decide)) f708) (sz3_cg (w737.2 37 (by decide)) (w737.2 38 (by decide)) f709) (s4_cg rfl (w737.2 37 (by decide)) (w737.2 38 (by decide)) f710) (ssP_cg (w737.2 37 (by decide)) (w737.2 38 (by decide)) f711) (thF_cg (w737.2 37 (by decide)) (w737.2 38 (by decide)) f712) e713 e714 e715 e716 e717 e718 e719 e720 e721 e722 e723 Y S (lv_sub hl [1, 2, 3, 0] rfl)
                                  refine lv_istore (lv' := [(14, .int (iI 0)), (13, .int (iI (60000 - z703))), (12, .int (iI (60000 - z666))), (0, .ref h)]) X.1 X.2.1 d_M_issued_983 hl (by decide) rfl (fun ls hl => ?_)
                                  exact J724 _ 0 I700 J700 B700 G700 _ _ _ rfl (by omega) (by omega) (pG1_cg (s700.2.1 39 (by decide)) (s700.2.1 40 (by decide)) f698) (pG2_cg (s700.2.2 37 (by decide)) (s700.2.2 38 (by decide)) (pG2_cg (s697.2.2 37 (by decide)) (s697.2.2 38 (by decide)) (pG2_cg (s695.2.2 37 (by decide)) (s695.2.2 38 (by decide)) f688))) f702 (sz3_cg (s700.2.2 37 (by decide)) (s700.2.2 38 (by decide)) (sz3_cg (s697.2.2 37 (by decide)) (s697.2.2 38 (by decide)) (sz3_cg (s695.2.2 37 (by decide)) (s695.2.2 38 (by decide)) f689))) f701 (ssP_cg (s700.2.2 37 (by decide)) (s700.2.2 38 (by decide)) (ssP_cg (s697.2.2 37 (by decide)) (s697.2.2 38 (by decide)) (ssP_cg (s695.2.2 37 (by decide)) (s695.2.2 38 (by decide)) f693))) (thF_cg (s700.2.2 37 (by decide)) (s700.2.2 38 (by decide)) (thF_cg (s697.2.2 37 (by decide)) (s697.2.2 38 (by decide)) (thF_cg (s695.2.2 37 (by decide)) (s695.2.2 38 (by decide)) f691))) ((s700.2.1 69 (by decide)).trans ((s697.2.1 69 (by decide)).trans ((s695.2.1 69 (by decide)).trans ((s687.2.1 69 (by decide)).trans ((s685.2.1 69 (by decide)).trans ((s679.2.1 69 (by decide)).trans ((s674.2.1 69 (by decide)).trans ((s673.2.1 69 (by decide)).trans ((s665.2.1 69 (by decide)).trans ((s661.2.1 69 (by decide)).trans ((s660.2.1 69 (by decide)).trans ((s658.2.1 69 (by decide)).trans ((w657.2 69 (by decide)).trans e641))))))))))))) ((s700.2.1 86 (by decide)).trans ((s697.2.1 86 (by decide)).trans ((s695.2.1 86 (by decide)).trans ((s687.2.1 86 (by decide)).trans ((s685.2.1 86 (by decide)).trans ((s679.2.1 86 (by decide)).trans ((s674.2.1 86 (by decide)).trans ((s673.2.1 86 (by decide)).trans ((s665.2.1 86 (by decide)).trans ((s661.2.1 86 (by decide)).trans ((s660.2.1 86 (by decide)).trans ((s658.2.1 86 (by decide)).trans ((w657.2 86 (by decide)).trans e649))))))))))))) ((s700.2.1 87 (by decide)).trans ((s697.2.1 87 (by decide)).trans ((s695.2.1 87 (by decide)).trans ((s687.2.1 87 (by decide)).trans ((s685.2.1 87 (by decide)).trans ((s679.2.1 87 (by decide)).trans ((s674.2.1 87 (by decide)).trans ((s673.2.1 87 (by decide)).trans ((s665.2.1 87 (by decide)).trans ((s661.2.1 87 (by decide)).trans ((s660.2.1 87 (by decide)).trans ((s658.2.1 87 (by decide)).trans ((w657.2 87 (by decide)).trans e650))))))))))))) ((s700.2.1 88 (by decide)).trans ((s697.2.1 88 (by decide)).trans ((s695.2.1 88 (by decide)).trans ((s687.2.1 88 (by decide)).trans ((s685.2.1 88 (by decide)).trans ((s679.2.1 88 (by decide)).trans ((s674.2.1 88 (by decide)).trans ((s673.2.1 88 (by decide)).trans ((s665.2.1 88 (by decide)).trans ((s661.2.1 88 (by decide)).trans ((s660.2.1 88 (by decide)).trans ((s658.2.1 88 (by decide)).trans ((w657.2 88 (by decide)).trans e651))))))))))))) ((s700.2.1 89 (by decide)).trans ((s697.2.1 89 (by decide)).trans ((s695.2.1 89 (by decide)).trans ((s687.2.1 89 (by decide)).trans ((s685.2.1 89 (by decide)).trans ((s679.2.1 89 (by decide)).trans ((s674.2.1 89 (by decide)).trans ((s673.2.1 89 (by decide)).trans ((s665.2.1 89 (by decide)).trans ((s661.2.1 89 (by decide)).trans ((s660.2.1 89 (by decide)).trans ((s658.2.1 89 (by decide)).trans w657.1)))))))))))) ((s700.2.1 77 (by decide)).trans ((s697.2.1 77 (by decide)).trans ((s695.2.1 77 (by decide)).trans ((s687.2.1 77 (by decide)).trans ((s685.2.1 77 (by decide)).trans ((s679.2.1 77 (by decide)).trans ((s674.2.1 77 (by decide)).trans ((s673.2.1 77 (by decide)).trans ((s665.2.1 77 (by decide)).trans ((s661.2.1 77 (by decide)).trans ((s660.2.1 77 (by decide)).trans ((s658.2.1 77 (by decide)).trans ((w657.2 77 (by decide)).trans e645))))))))))))) ((s700.2.1 75 (by decide)).trans ((s697.2.1 75 (by decide)).trans ((s695.2.1 75 (by decide)).trans ((s687.2.1 75 (by decide)).trans ((s685.2.1 75 (by decide)).trans ((s679.2.1 75 (by decide)).trans ((s674.2.1 75 (by decide)).trans ((s673.2.1 75 (by decide)).trans ((s665.2.1 75 (by decide)).trans ((s661.2.1 75 (by decide)).trans ((s660.2.1 75 (by decide)).trans ((s658.2.1 75 (by decide)).trans ((w657.2 75 (by decide)).trans e646))))))))))))) ((s700.2.1 76 (by decide)).trans ((s697.2.1 76 (by decide)).trans ((s695.2.1 76 (by decide)).trans ((s687.2.1 76 (by decide)).trans ((s685.2.1 76 (by decide)).trans ((s679.2.1 76 (by decide)).trans ((s674.2.1 76 (by decide)).trans ((s673.2.1 76 (by decide)).trans ((s665.2.1 76 (by decide)).trans ((s661.2.1 76 (by decide)).trans ((s660.2.1 76 (by decide)).trans ((s658.2.1 76 (by decide)).trans ((w657.2 76 (by decide)).trans e647))))))))))))) e703 ((s700.2.1 33 (by decide)).trans ((s697.2.1 33 (by decide)).trans ((s695.2.1 33 (by decide)).trans ((s687.2.1 33 (by decide)).trans ((s685.2.1 33 (by decide)).trans ((s679.2.1 33 (by decide)).trans ((s674.2.1 33 (by decide)).trans (x673_1.trans (congrArg iI (show (z659 + 16 : Int) = z659 + 16 by omega)))))))))) ((s700.2.1 36 (by decide)).trans ((s697.2.1 36 (by decide)).trans ((s695.2.1 36 (by decide)).trans ((s687.2.1 36 (by decide)).trans ((s685.2.1 36 (by decide)).trans ((s679.2.1 36 (by decide)).trans ((s674.2.1 36 (by decide)).trans (x673_0.trans (congrArg iI (show (60000 - z666 + 28 : Int) = 60000 - z666 + 28 by omega)))))))))) Y S (lv_sub hl [3, 2, 1, 0] rfl)
                                refine z_if_eq (tgt := 817) X.1 X.2.1 d_M_issued_805 (by decide) ⟨by omega, by omega⟩ (fun h738 => ?_) (fun h738 => False.elim (by omega))
                                · refine lv_aload_n X.1 X.2.1 d_M_issued_817 rfl (lv_at hl 1 rfl) ?_
                                  refine lv_iconst (v := iI 4) X.1 X.2.1 d_M_issued_818 (by decide) ?_
                                  refine lv_iconst (v := iI 3) X.1 X.2.1 d_M_issued_819 (by decide) ?_
                                  refine r_ni (m_run (As := [.int (iI 4), .int (iI 3)]) (rest := [.ref h]) (n := 2) X Y hZ hA hml hl.1 (r_M_b l D E h q H.size I631 J630 B217 G630 4 (by decide) (by decide) 3 (by decide) (by decide) S.1) kl_M_b ks_M_b kx_M_b ki_M_b ini_M hd_M_b ⟨Nat.le_of_ble_eq_true rfl, Nat.le_of_ble_eq_true rfl⟩ rfl (Nat.le_of_ble_eq_true rfl) d_M_issued_820 ⟨Nat.le_refl _, Nat.le_refl _⟩) X Y hA S (by decide) (by decide) (fun z739 u H locs Y S s739 p739 => ?_)
                                  obtain ⟨I739, J739, B739, G739⟩ := u
                                  dsimp only at Y S s739 p739
                                  have i739 : I631 = I739 := (funext (fun j => s739.2.1 j (by simp))).symm
                                  subst i739
                                  have b739 : B217 = B739 := (funext (fun j => s739.2.2 j (by simp))).symm
                                  subst b739
                                  obtain ⟨l739, u739, x739⟩ := p739
                                  have p740 : pr z630 z739 := by rw [x630, x739]; exact (pG2_cg rfl rfl (pG2_cg rfl rfl (pG2_cg rfl rfl (pG2_cg rfl rfl (pG2_cg rfl rfl (pG2_cg rfl rfl (pG2_cg rfl rfl (pG2_cg rfl rfl (pG2_cg rfl rfl (pG2_cg rfl rfl (pG2_cg rfl rfl (pG2_cg rfl rfl f220)))))))))))) (16 * 4 + 3 : Int).toNat (by omega)
                                  unfold pr at p740
                                  exact J653 z739 z620 z623 z630 I631 J739 B217 G739 _ _ _ (by omega) (by omega) (pG1_cg rfl rfl (pG1_cg (w631.2 39 (by decide)) (w631.2 40 (by decide)) (pG1_cg rfl rfl (pG1_cg (w626.2 39 (by decide)) (w626.2 40 (by decide)) f624)))) (pG2_cg rfl rfl (pG2_cg rfl rfl (pG2_cg rfl rfl (pG2_cg rfl rfl (pG2_cg rfl rfl (pG2_cg rfl rfl (pG2_cg rfl rfl (pG2_cg rfl rfl (pG2_cg rfl rfl (pG2_cg rfl rfl (pG2_cg rfl rfl (pG2_cg rfl rfl f220)))))))))))) (rrP_cg rfl rfl rfl (rrP_cg (w631.2 69 (by decide)) rfl rfl (rrP_cg rfl rfl rfl f628))) (sz3_cg rfl rfl (sz3_cg rfl rfl (sz3_cg rfl rfl (sz3_cg rfl rfl (sz3_cg rfl rfl (sz3_cg rfl rfl (sz3_cg rfl rfl (sz3_cg rfl rfl (sz3_cg rfl rfl (sz3_cg rfl rfl (sz3_cg rfl rfl (sz3_cg rfl rfl f222)))))))))))) (s4_cg rfl rfl rfl (s4_cg (w631.2 69 (by decide)) rfl rfl (s4_cg rfl rfl rfl f627))) (ssP_cg rfl rfl (ssP_cg rfl rfl (ssP_cg rfl rfl (ssP_cg rfl rfl (ssP_cg rfl rfl (ssP_cg rfl rfl (ssP_cg rfl rfl (ssP_cg rfl rfl (ssP_cg rfl rfl (ssP_cg rfl rfl (ssP_cg rfl rfl (ssP_cg rfl rfl f224)))))))))))) (thF_cg rfl rfl (thF_cg rfl rfl (thF_cg rfl rfl (thF_cg rfl rfl (thF_cg rfl rfl (thF_cg rfl rfl (thF_cg rfl rfl (thF_cg rfl rfl (thF_cg rfl rfl (thF_cg rfl rfl (thF_cg rfl rfl (thF_cg rfl rfl f225)))))))))))) ((w631.2 69 (by decide)).trans ((w626.2 69 (by decide)).trans ((w621.2 69 (by decide)).trans ((w618.2 69 (by decide)).trans ((w235.2 69 (by decide)).trans e226))))) ((w631.2 86 (by decide)).trans ((w626.2 86 (by decide)).trans w621.1)) ((w631.2 87 (by decide)).trans w626.1) w631.1 ((w631.2 77 (by decide)).trans ((w626.2 77 (by decide)).trans ((w621.2 77 (by decide)).trans ((w618.2 77 (by decide)).trans ((w235.2 77 (by decide)).trans e227))))) ((w631.2 75 (by decide)).trans ((w626.2 75 (by decide)).trans ((w621.2 75 (by decide)).trans ((w618.2 75 (by decide)).trans ((w235.2 75 (by decide)).trans e228))))) ((w631.2 76 (by decide)).trans ((w626.2 76 (by decide)).trans ((w621.2 76 (by decide)).trans ((w618.2 76 (by decide)).trans ((w235.2 76 (by decide)).trans e229))))) ((w631.2 33 (by decide)).trans ((w626.2 33 (by decide)).trans ((w621.2 33 (by decide)).trans ((w618.2 33 (by decide)).trans ((w235.2 33 (by decide)).trans e230))))) ((w631.2 86 (by decide)).trans ((w626.2 86 (by decide)).trans w621.1)) (by omega) (by omega) ((w631.2 87 (by decide)).trans w626.1) (by omega) (by omega) w631.1 (by omega) (by omega) (by have q0 := (pG2_cg rfl rfl (pG2_cg rfl rfl (pG2_cg rfl rfl (pG2_cg rfl rfl (pG2_cg rfl rfl (pG2_cg rfl rfl (pG2_cg rfl rfl (pG2_cg rfl rfl (pG2_cg rfl rfl (pG2_cg rfl rfl (pG2_cg rfl rfl (pG2_cg rfl rfl f220)))))))))))) (16 * 1 + 1 : Int).toNat (by decide); have q1 := (pG2_cg rfl rfl (pG2_cg rfl rfl (pG2_cg rfl rfl (pG2_cg rfl rfl (pG2_cg rfl rfl (pG2_cg rfl rfl (pG2_cg rfl rfl (pG2_cg rfl rfl (pG2_cg rfl rfl (pG2_cg rfl rfl (pG2_cg rfl rfl (pG2_cg rfl rfl f220)))))))))))) (16 * 1 + 3 : Int).toNat (by decide); have q2 := (pG2_cg rfl rfl (pG2_cg rfl rfl (pG2_cg rfl rfl (pG2_cg rfl rfl (pG2_cg rfl rfl (pG2_cg rfl rfl (pG2_cg rfl rfl (pG2_cg rfl rfl (pG2_cg rfl rfl (pG2_cg rfl rfl (pG2_cg rfl rfl (pG2_cg rfl rfl f220)))))))))))) (16 * 1 + 9 : Int).toNat (by decide); have q3 := (pG2_cg rfl rfl (pG2_cg rfl rfl (pG2_cg rfl rfl (pG2_cg rfl rfl (pG2_cg rfl rfl (pG2_cg rfl rfl (pG2_cg rfl rfl (pG2_cg rfl rfl (pG2_cg rfl rfl (pG2_cg rfl rfl (pG2_cg rfl rfl (pG2_cg rfl rfl f220)))))))))))) (16 * 4 + 2 : Int).toNat (by decide); have q4 := (pG2_cg rfl rfl (pG2_cg rfl rfl (pG2_cg rfl rfl (pG2_cg rfl rfl (pG2_cg rfl rfl (pG2_cg rfl rfl (pG2_cg rfl rfl (pG2_cg rfl rfl (pG2_cg rfl rfl (pG2_cg rfl rfl (pG2_cg rfl rfl (pG2_cg rfl rfl f220)))))))))))) (16 * 4 + 3 : Int).toNat (by decide); have q5 := (pG2_cg rfl rfl (pG2_cg rfl rfl (pG2_cg rfl rfl (pG2_cg rfl rfl (pG2_cg rfl rfl (pG2_cg rfl rfl (pG2_cg rfl rfl (pG2_cg rfl rfl (pG2_cg rfl rfl (pG2_cg rfl rfl (pG2_cg rfl rfl (pG2_cg rfl rfl f220)))))))))))) (16 * 4 + 9 : Int).toNat (by decide); unfold pr at q0 q1 q2 q3 q4 q5; have k1 := (sz3_cg rfl rfl (sz3_cg rfl rfl (sz3_cg rfl rfl (sz3_cg rfl rfl (sz3_cg rfl rfl (sz3_cg rfl rfl (sz3_cg rfl rfl (sz3_cg rfl rfl (sz3_cg rfl rfl (sz3_cg rfl rfl (sz3_cg rfl rfl (sz3_cg rfl rfl f222)))))))))))); unfold sz3 at k1; have k3 := (ssP_cg rfl rfl (ssP_cg rfl rfl (ssP_cg rfl rfl (ssP_cg rfl rfl (ssP_cg rfl rfl (ssP_cg rfl rfl (ssP_cg rfl rfl (ssP_cg rfl rfl (ssP_cg rfl rfl (ssP_cg rfl rfl (ssP_cg rfl rfl (ssP_cg rfl rfl f224)))))))))))); unfold ssP at k3; have k2 := rr_0 (rrP_cg rfl rfl rfl (rrP_cg (w631.2 69 (by decide)) rfl rfl (rrP_cg rfl rfl rfl f628))) ((w631.2 69 (by decide)).trans ((w626.2 69 (by decide)).trans ((w621.2 69 (by decide)).trans ((w618.2 69 (by decide)).trans ((w235.2 69 (by decide)).trans e226))))) (by omega); have k4 := s4_0 (s4_cg rfl rfl rfl (s4_cg (w631.2 69 (by decide)) rfl rfl (s4_cg rfl rfl rfl f627))) ((w631.2 69 (by decide)).trans ((w626.2 69 (by decide)).trans ((w621.2 69 (by decide)).trans ((w618.2 69 (by decide)).trans ((w235.2 69 (by decide)).trans e226))))) (by omega); unfold sz3 at k4; omega) Y S (lv_sub hl [1] rfl)
                refine z_if_eq (tgt := 319) X.1 X.2.1 d_M_issued_272 (by decide) ⟨by omega, by omega⟩ (fun h741 => ?_) (fun h741 => ?_)
                · refine lv_aload_n X.1 X.2.1 d_M_issued_319 rfl (lv_at hl 1 rfl) ?_
                  refine lv_iload_n X.1 X.2.1 d_M_issued_320 rfl (lv_at hl 2 rfl) ?_
                  refine lv_iconst (v := iI 1) X.1 X.2.1 d_M_issued_321 (by decide) ?_
                  refine r_ni (m_run (As := [.int (iI z101), .int (iI 1)]) (rest := []) (n := 2) X Y hZ hA hml hl.1 (r_M_bit l D E h q H.size I199 J199 B199 G199 z101 (by omega) (by omega) 1 (by decide) (by decide) S.1) kl_M_bit ks_M_bit kx_M_bit ki_M_bit ini_M hd_M_bit ⟨Nat.le_of_ble_eq_true rfl, Nat.le_of_ble_eq_true rfl⟩ rfl (Nat.le_of_ble_eq_true rfl) d_M_issued_322 ⟨Nat.le_refl _, Nat.le_refl _⟩) X Y hA S (by decide) (by decide) (fun z742 u H locs Y S s742 p742 => ?_)
                  obtain ⟨I742, J742, B742, G742⟩ := u
                  dsimp only at Y S s742 p742
                  have i742 : I199 = I742 := (funext (fun j => s742.2.1 j (by simp))).symm
                  subst i742
                  have b742 : B199 = B742 := (funext (fun j => s742.2.2 j (by simp))).symm
                  subst b742
                  obtain ⟨l742, u742⟩ := p742
                  have J756 : ∀ (I743 : Nat → Int32) (J743 : Nat → Int64) (B743 : Nat → Nat → Int32) (G743 : Nat → Nat → Int64) (H : Heap) (locs : List Loc) (ls : Array Slot), (pG1 I743) → (pG2 (B743 37) (B743 38)) → (rrP rr (I743 69) (B743 37) (B743 38)) → (sz3 (16 * 1 + 1 : Int).toNat (16 * 1 + 3 : Int).toNat (16 * 1 + 9 : Int).toNat (B743 37) (B743 38)) → (s4 (I743 69) (B743 37) (B743 38)) → (ssP ss (B743 37) (B743 38)) → (thF [7] (B 37) (B 38) (B743 37) (B743 38)) → (I743 69 = iI ia) → (I743 77 = iI ty) → (I743 75 = iI cl) → (I743 76 = iI sv) → (I743 33 = iI cn) → mH D E (mA E h q sz) s.heap h q I743 J743 B743 G743 H locs → rS [3, 8, 14, 18, 29, 33, 36, 39, 40, 42, 80, 81, 84, 85, 86, 87, 88, 89] [0, 1, 5, 6, 7, 9, 10, 11, 12, 13, 15, 16, 17, 19, 20, 21, 22, 23, 24, 34, 35, 37, 38, 56, 59, 60, 90] I B I743 B743 → lv_has ls 15 [(0, .ref h), (1, .int (iI z101)), (5, .long v129), (7, .long v130), (10, .int (iI z200))] → W p l e (mR 45 2046) s m AV below meth c H locs 0 0 QQ (F0 m 350 ls []) := by
                    intro I743 J743 B743 G743 H locs ls f744 f745 f746 f747 f748 f749 f750 e751 e752 e753 e754 e755 Y S hl
                    refine lv_aload_n X.1 X.2.1 d_M_issued_350 rfl (lv_at hl 0 rfl) ?_
                    refine lv_iload_n X.1 X.2.1 d_M_issued_351 rfl (lv_at hl 1 rfl) ?_
                    refine lv_iconst (v := iI 3) X.1 X.2.1 d_M_issued_352 (by decide) ?_
                    refine r_ni (m_run (As := [.int (iI z101), .int (iI 3)]) (rest := []) (n := 2) X Y hZ hA hml hl.1 (r_M_bit l D E h q H.size I743 J743 B743 G743 z101 (by omega) (by omega) 3 (by decide) (by decide) S.1) kl_M_bit ks_M_bit kx_M_bit ki_M_bit ini_M hd_M_bit ⟨Nat.le_of_ble_eq_true rfl, Nat.le_of_ble_eq_true rfl⟩ rfl (Nat.le_of_ble_eq_true rfl) d_M_issued_353 ⟨Nat.le_refl _, Nat.le_refl _⟩) X Y hA S (by decide) (by decide) (fun z760 u H locs Y S s760 p760 => ?_)
                    obtain ⟨I760, J760, B760, G760⟩ := u
                    dsimp only at Y S s760 p760
                    have i760 : I743 = I760 := (funext (fun j => s760.2.1 j (by simp))).symm
                    subst i760
                    have b760 : B743 = B760 := (funext (fun j => s760.2.2 j (by simp))).symm
                    subst b760
                    obtain ⟨l760, u760⟩ := p760
                    have J774 : ∀ (I761 : Nat → Int32) (J761 : Nat → Int64) (B761 : Nat → Nat → Int32) (G761 : Nat → Nat → Int64) (H : Heap) (locs : List Loc) (ls : Array Slot), (pG1 I761) → (pG2 (B761 37) (B761 38)) → (rrP rr (I761 69) (B761 37) (B761 38)) → (sz3 (16 * 1 + 1 : Int).toNat (16 * 1 + 3 : Int).toNat (16 * 1 + 9 : Int).toNat (B761 37) (B761 38)) → (s4 (I761 69) (B761 37) (B761 38)) → (ssP ss (B761 37) (B761 38)) → (thF [7] (B 37) (B 38) (B761 37) (B761 38)) → (I761 69 = iI ia) → (I761 77 = iI ty) → (I761 75 = iI cl) → (I761 76 = iI sv) → (I761 33 = iI cn) → mH D E (mA E h q sz) s.heap h q I761 J761 B761 G761 H locs → rS [3, 8, 14, 18, 29, 33, 36, 39, 40, 42, 80, 81, 84, 85, 86, 87, 88, 89] [0, 1, 5, 6, 7, 9, 10, 11, 12, 13, 15, 16, 17, 19, 20, 21, 22, 23, 24, 34, 35, 37, 38, 56, 59, 60, 90] I B I761 B761 → lv_has ls 15 [(0, .ref h), (1, .int (iI z101)), (5, .long v129), (7, .long v130), (10, .int (iI z200))] → W p l e (mR 45 2046) s m AV below meth c H locs 0 0 QQ (F0 m 381 ls []) := by
                      intro I761 J761 B761 G761 H locs ls f762 f763 f764 f765 f766 f767 f768 e769 e770 e771 e772 e773 Y S hl
                      refine lv_iload X.1 X.2.1 d_M_issued_381 (lv_at hl 4 rfl) ?_
                      have J791 : ∀ (I778 : Nat → Int32) (J778 : Nat → Int64) (B778 : Nat → Nat → Int32) (G778 : Nat → Nat → Int64) (H : Heap) (locs : List Loc) (ls : Array Slot), (pG1 I778) → (pG2 (B778 37) (B778 38)) → (rrP rr (I778 69) (B778 37) (B778 38)) → (sz3 (16 * 1 + 1 : Int).toNat (16 * 1 + 3 : Int).toNat (16 * 1 + 9 : Int).toNat (B778 37) (B778 38)) → (s4 (I778 69) (B778 37) (B778 38)) → (ssP ss (B778 37) (B778 38)) → (thF [7] (B 37) (B 38) (B778 37) (B778 38)) → (I778 69 = iI ia) → (I778 77 = iI ty) → (I778 75 = iI cl) → (I778 76 = iI sv) → (I778 33 = iI cn) → mH D E (mA E h q sz) s.heap h q I778 J778 B778 G778 H locs → rS [3, 8, 14, 18, 29, 33, 36, 39, 40, 42, 80, 81, 84, 85, 86, 87, 88, 89] [0, 1, 5, 6, 7, 9, 10, 11, 12, 13, 15, 16, 17, 19, 20, 21, 22, 23, 24, 34, 35, 37, 38, 56, 59, 60, 90] I B I778 B778 → lv_has ls 15 [(0, .ref h), (1, .int (iI z101)), (5, .long v129), (7, .long v130), (10, .int (iI z200))] → W p l e (mR 45 2046) s m AV below meth c H locs 0 0 QQ (F0 m 400 ls []) := by
                        intro I778 J778 B778 G778 H locs ls f779 f780 f781 f782 f783 f784 f785 e786 e787 e788 e789 e790 Y S hl
                        refine lv_aload_n X.1 X.2.1 d_M_issued_400 rfl (lv_at hl 0 rfl) ?_
                        refine r_get0 X Y (by decide) lk_isAs (gf_isAs _ _ _) rfl e786 d_M_issued_401 ?_
                        have J808 : ∀ (I795 : Nat → Int32) (J795 : Nat → Int64) (B795 : Nat → Nat → Int32) (G795 : Nat → Nat → Int64) (H : Heap) (locs : List Loc) (ls : Array Slot), (pG1 I795) → (pG2 (B795 37) (B795 38)) → (rrP rr (I795 69) (B795 37) (B795 38)) → (sz3 (16 * 1 + 1 : Int).toNat (16 * 1 + 3 : Int).toNat (16 * 1 + 9 : Int).toNat (B795 37) (B795 38)) → (s4 (I795 69) (B795 37) (B795 38)) → (ssP ss (B795 37) (B795 38)) → (thF [7] (B 37) (B 38) (B795 37) (B795 38)) → (I795 69 = iI ia) → (I795 77 = iI ty) → (I795 75 = iI cl) → (I795 76 = iI sv) → (I795 33 = iI cn) → mH D E (mA E h q sz) s.heap h q I795 J795 B795 G795 H locs → rS [3, 8, 14, 18, 29, 33, 36, 39, 40, 42, 80, 81, 84, 85, 86, 87, 88, 89] [0, 1, 5, 6, 7, 9, 10, 11, 12, 13, 15, 16, 17, 19, 20, 21, 22, 23, 24, 34, 35, 37, 38, 56, 59, 60, 90] I B I795 B795 → lv_has ls 15 [(0, .ref h), (1, .int (iI z101)), (5, .long v129), (7, .long v130), (10, .int (iI z200))] → W p l e (mR 45 2046) s m AV below meth c H locs 0 0 QQ (F0 m 421 ls []) := by
                          intro I795 J795 B795 G795 H locs ls f796 f797 f798 f799 f800 f801 f802 e803 e804 e805 e806 e807 Y S hl
                          refine lv_aload_n X.1 X.2.1 d_M_issued_421 rfl (lv_at hl 0 rfl) ?_
                          refine r_get0 X Y (by decide) lk_isAs (gf_isAs _ _ _) rfl e803 d_M_issued_422 ?_
                          have J825 : ∀ (I812 : Nat → Int32) (J812 : Nat → Int64) (B812 : Nat → Nat → Int32) (G812 : Nat → Nat → Int64) (H : Heap) (locs : List Loc) (ls : Array Slot), (pG1 I812) → (pG2 (B812 37) (B812 38)) → (rrP rr (I812 69) (B812 37) (B812 38)) → (sz3 (16 * 1 + 1 : Int).toNat (16 * 1 + 3 : Int).toNat (16 * 1 + 9 : Int).toNat (B812 37) (B812 38)) → (s4 (I812 69) (B812 37) (B812 38)) → (ssP ss (B812 37) (B812 38)) → (thF [7] (B 37) (B 38) (B812 37) (B812 38)) → (I812 69 = iI ia) → (I812 77 = iI ty) → (I812 75 = iI cl) → (I812 76 = iI sv) → (I812 33 = iI cn) → mH D E (mA E h q sz) s.heap h q I812 J812 B812 G812 H locs → rS [3, 8, 14, 18, 29, 33, 36, 39, 40, 42, 80, 81, 84, 85, 86, 87, 88, 89] [0, 1, 5, 6, 7, 9, 10, 11, 12, 13, 15, 16, 17, 19, 20, 21, 22, 23, 24, 34, 35, 37, 38, 56, 59, 60, 90] I B I812 B812 → lv_has ls 15 [(0, .ref h), (1, .int (iI z101)), (5, .long v129), (7, .long v130), (10, .int (iI z200))] → W p l e (mR 45 2046) s m AV below meth c H locs 0 0 QQ (F0 m 467 ls []) := by
                            intro I812 J812 B812 G812 H locs ls f813 f814 f815 f816 f817 f818 f819 e820 e821 e822 e823 e824 Y S hl
                            refine lv_aload_n X.1 X.2.1 d_M_issued_467 rfl (lv_at hl 0 rfl) ?_
                            refine r_get0 X Y (by decide) lk_isAs (gf_isAs _ _ _) rfl e820 d_M_issued_468 ?_
                            have J842 : ∀ (I829 : Nat → Int32) (J829 : Nat → Int64) (B829 : Nat → Nat → Int32) (G829 : Nat → Nat → Int64) (H : Heap) (locs : List Loc) (ls : Array Slot), (pG1 I829) → (pG2 (B829 37) (B829 38)) → (rrP rr (I829 69) (B829 37) (B829 38)) → (sz3 (16 * 1 + 1 : Int).toNat (16 * 1 + 3 : Int).toNat (16 * 1 + 9 : Int).toNat (B829 37) (B829 38)) → (s4 (I829 69) (B829 37) (B829 38)) → (ssP ss (B829 37) (B829 38)) → (thF [7] (B 37) (B 38) (B829 37) (B829 38)) → (I829 69 = iI ia) → (I829 77 = iI ty) → (I829 75 = iI cl) → (I829 76 = iI sv) → (I829 33 = iI cn) → mH D E (mA E h q sz) s.heap h q I829 J829 B829 G829 H locs → rS [3, 8, 14, 18, 29, 33, 36, 39, 40, 42, 80, 81, 84, 85, 86, 87, 88, 89] [0, 1, 5, 6, 7, 9, 10, 11, 12, 13, 15, 16, 17, 19, 20, 21, 22, 23, 24, 34, 35, 37, 38, 56, 59, 60, 90] I B I829 B829 → lv_has ls 15 [(0, .ref h), (1, .int (iI z101)), (5, .long v129), (7, .long v130), (10, .int (iI z200))] → W p l e (mR 45 2046) s m AV below meth c H locs 0 0 QQ (F0 m 510 ls []) := by
                              intro I829 J829 B829 G829 H locs ls f830 f831 f832 f833 f834 f835 f836 e837 e838 e839 e840 e841 Y S hl
                              refine lv_aload_n X.1 X.2.1 d_M_issued_510 rfl (lv_at hl 0 rfl) ?_
                              refine r_get0 X Y (by decide) lk_isAs (gf_isAs _ _ _) rfl e837 d_M_issued_511 ?_
                              have J859 : ∀ (I846 : Nat → Int32) (J846 : Nat → Int64) (B846 : Nat → Nat → Int32) (G846 : Nat → Nat → Int64) (H : Heap) (locs : List Loc) (ls : Array Slot), (pG1 I846) → (pG2 (B846 37) (B846 38)) → (rrP rr (I846 69) (B846 37) (B846 38)) → (sz3 (16 * 1 + 1 : Int).toNat (16 * 1 + 3 : Int).toNat (16 * 1 + 9 : Int).toNat (B846 37) (B846 38)) → (s4 (I846 69) (B846 37) (B846 38)) → (ssP ss (B846 37) (B846 38)) → (thF [7] (B 37) (B 38) (B846 37) (B846 38)) → (I846 69 = iI ia) → (I846 77 = iI ty) → (I846 75 = iI cl) → (I846 76 = iI sv) → (I846 33 = iI cn) → mH D E (mA E h q sz) s.heap h q I846 J846 B846 G846 H locs → rS [3, 8, 14, 18, 29, 33, 36, 39, 40, 42, 80, 81, 84, 85, 86, 87, 88, 89] [0, 1, 5, 6, 7, 9, 10, 11, 12, 13, 15, 16, 17, 19, 20, 21, 22, 23, 24, 34, 35, 37, 38, 56, 59, 60, 90] I B I846 B846 → lv_has ls 15 [(0, .ref h), (1, .int (iI z101)), (5, .long v129), (7, .long v130), (10, .int (iI z200))] → W p l e (mR 45 2046) s m AV below meth c H locs 0 0 QQ (F0 m 553 ls []) := by
                                intro I846 J846 B846 G846 H locs ls f847 f848 f849 f850 f851 f852 f853 e854 e855 e856 e857 e858 Y S hl
                                refine lv_aload_n X.1 X.2.1 d_M_issued_553 rfl (lv_at hl 0 rfl) ?_
                                refine lv_iload_n X.1 X.2.1 d_M_issued_554 rfl (lv_at hl 1 rfl) ?_
                                refine lv_bipush (v := iI 8) X.1 X.2.1 d_M_issued_555 (by decide) ?_
                                refine r_ni (m_run (As := [.int (iI z101), .int (iI 8)]) (rest := []) (n := 2) X Y hZ hA hml hl.1 (r_M_bit l D E h q H.size I846 J846 B846 G846 z101 (by omega) (by omega) 8 (by decide) (by decide) S.1) kl_M_bit ks_M_bit kx_M_bit ki_M_bit ini_M hd_M_bit ⟨Nat.le_of_ble_eq_true rfl, Nat.le_of_ble_eq_true rfl⟩ rfl (Nat.le_of_ble_eq_true rfl) d_M_issued_557 ⟨Nat.le_refl _, Nat.le_refl _⟩) X Y hA S (by decide) (by decide) (fun z863 u H locs Y S s863 p863 => ?_)
                                obtain ⟨I863, J863, B863, G863⟩ := u
                                dsimp only at Y S s863 p863
                                have i863 : I846 = I863 := (funext (fun j => s863.2.1 j (by simp))).symm
                                subst i863
                                have b863 : B846 = B863 := (funext (fun j => s863.2.2 j (by simp))).symm
                                subst b863
                                obtain ⟨l863, u863⟩ := p863
                                have J878 : ∀ (v865 : Int64) (I864 : Nat → Int32) (J864 : Nat → Int64) (B864 : Nat → Nat → Int32) (G864 : Nat → Nat → Int64) (H : Heap) (locs : List Loc) (ls : Array Slot), (pG1 I864) → (pG2 (B864 37) (B864 38)) → (rrP rr (I864 69) (B864 37) (B864 38)) → (sz3 (16 * 1 + 1 : Int).toNat (16 * 1 + 3 : Int).toNat (16 * 1 + 9 : Int).toNat (B864 37) (B864 38)) → (s4 (I864 69) (B864 37) (B864 38)) → (ssP ss (B864 37) (B864 38)) → (thF [7] (B 37) (B 38) (B864 37) (B864 38)) → (I864 69 = iI ia) → (I864 77 = iI ty) → (I864 75 = iI cl) → (I864 76 = iI sv) → (I864 33 = iI cn) → mH D E (mA E h q sz) s.heap h q I864 J864 B864 G864 H locs → rS [3, 8, 14, 18, 29, 33, 36, 39, 40, 42, 80, 81, 84, 85, 86, 87, 88, 89] [0, 1, 5, 6, 7, 9, 10, 11, 12, 13, 15, 16, 17, 19, 20, 21, 22, 23, 24, 34, 35, 37, 38, 56, 59, 60, 90] I B I864 B864 → lv_has ls 15 [(0, .ref h), (1, .int (iI z101)), (5, .long v129), (10, .int (iI z200))] → W p l e (mR 45 2046) s m AV below meth c H locs 0 0 QQ (F0 m 589 ls [.long v865]) := by
                                  intro v865 I864 J864 B864 G864 H locs ls f866 f867 f868 f869 f870 f871 f872 e873 e874 e875 e876 e877 Y S hl
                                  refine lv_lstore (lv' := [(11, .long v865), (0, .ref h), (1, .int (iI z101)), (5, .long v129), (10, .int (iI z200))]) X.1 X.2.1 d_M_issued_589 hl (by decide) rfl (fun ls hl => ?_)
                                  refine lv_aload_n X.1 X.2.1 d_M_issued_591 rfl (lv_at hl 1 rfl) ?_
                                  refine lv_aload_n X.1 X.2.1 d_M_issued_592 rfl (lv_at hl 1 rfl) ?_
                                  refine r_geti (k := 4) X Y S (by decide) lk_now (gf_now _ _ _) rfl rfl d_M_issued_593 (fun z882 e882 l882 u882 => ?_)
                                  refine lv_i2l X.1 X.2.1 d_M_issued_596 rfl ?_
                                  refine t_anyl (fun v883 => ?_)
                                  refine lv_lload X.1 X.2.1 d_M_issued_597 (lv_at hl 3 rfl) ?_
                                  refine lv_ladd X.1 X.2.1 d_M_issued_599 ?_
                                  refine t_anyl (fun v884 => ?_)
                                  refine r_putl X Y (by decide) lk_newRenew rfl rfl (t_M_ok 83 (by decide)) rfl rfl (sf_newRenew _ _ _ _) (Nat.le_of_ble_eq_true rfl) d_M_issued_600 (fun J885 H locs Y => ?_)
                                  refine lv_lload X.1 X.2.1 d_M_issued_603 (lv_at hl 0 rfl) ?_
                                  refine lv_lconst (v := 0) X.1 X.2.1 d_M_issued_605 rfl ?_
                                  refine W.lcmp X.1 X.2.1 d_M_issued_606 ?_
                                  refine t_u (fun z886 l886 u886 => ?_)
                                  have J900 : ∀ (I887 : Nat → Int32) (J887 : Nat → Int64) (B887 : Nat → Nat → Int32) (G887 : Nat → Nat → Int64) (H : Heap) (locs : List Loc) (ls : Array Slot), (pG1 I887) → (pG2 (B887 37) (B887 38)) → (rrP rr (I887 69) (B887 37) (B887 38)) → (sz3 (16 * 1 + 1 : Int).toNat (16 * 1 + 3 : Int).toNat (16 * 1 + 9 : Int).toNat (B887 37) (B887 38)) → (s4 (I887 69) (B887 37) (B887 38)) → (ssP ss (B887 37) (B887 38)) → (thF [7] (B 37) (B 38) (B887 37) (B887 38)) → (I887 69 = iI ia) → (I887 77 = iI ty) → (I887 75 = iI cl) → (I887 76 = iI sv) → (I887 33 = iI cn) → mH D E (mA E h q sz) s.heap h q I887 J887 B887 G887 H locs → rS [3, 8, 14, 18, 29, 33, 36, 39, 40, 42, 80, 81, 84, 85, 86, 87, 88, 89] [0, 1, 5, 6, 7, 9, 10, 11, 12, 13, 15, 16, 17, 19, 20, 21, 22, 23, 24, 34, 35, 37, 38, 56, 59, 60, 90] I B I887 B887 → lv_has ls 15 [(0, .ref h), (1, .int (iI z101)), (10, .int (iI z200))] → W p l e (mR 45 2046) s m AV below meth c H locs 0 0 QQ (F0 m 623 ls []) := by
                                    intro I887 J887 B887 G887 H locs ls f888 f889 f890 f891 f892 f893 f894 e895 e896 e897 e898 e899 Y S hl
                                    refine lv_aload_n X.1 X.2.1 d_M_issued_623 rfl (lv_at hl 0 rfl) ?_
                                    refine r_get0 X Y (by decide) lk_isAs (gf_isAs _ _ _) rfl e895 d_M_issued_624 ?_
                                    refine z_if_ne (tgt := 658) X.1 X.2.1 d_M_issued_627 (by decide) ⟨by omega, by omega⟩ (fun h904 => ?_) (fun h904 => ?_)
                                    · exact J231 z200 I887 J887 B887 G887 _ _ _ (by omega) (by omega) f888 f889 f890 f891 f892 f893 f894 e895 e896 e897 e898 e899 Y S (lv_sub hl [0, 1, 2] rfl)
                                    · refine lv_aload_n X.1 X.2.1 d_M_issued_630 rfl (lv_at hl 0 rfl) ?_
                                      refine lv_iconst (v := iI 4) X.1 X.2.1 d_M_issued_631 (by decide) ?_
                                      refine lv_bipush (v := iI 8) X.1 X.2.1 d_M_issued_632 (by decide) ?_
                                      refine r_ni (m_run (As := [.int (iI 4), .int (iI 8)]) (rest := []) (n := 2) X Y hZ hA hml hl.1 (r_M_has l D E h q H.size I887 J887 B887 G887 4 (by decide) (by decide) 8 (by decide) (by decide) S.1) kl_M_has ks_M_has kx_M_has ki_M_has ini_M hd_M_has ⟨Nat.le_of_ble_eq_true rfl, Nat.le_of_ble_eq_true rfl⟩ rfl (Nat.le_of_ble_eq_true rfl) d_M_issued_634 ⟨Nat.le_refl _, Nat.le_refl _⟩) X Y hA S (by decide) (by decide) (fun z905 u H locs Y S s905 p905 => ?_)
                                      obtain ⟨I905, J905, B905, G905⟩ := u
                                      dsimp only at Y S s905 p905
                                      have i905 : I887 = I905 := (funext (fun j => s905.2.1 j (by simp))).symm
                                      subst i905
                                      have b905 : B887 = B905 := (funext (fun j => s905.2.2 j (by simp))).symm
                                      subst b905
                                      obtain ⟨l905, u905, x905⟩ := p905
                                      refine z_if_eq (tgt := 658) X.1 X.2.1 d_M_issued_637 (by decide) ⟨by omega, by omega⟩ (fun h906 => ?_) (fun h906 => ?_)
                                      · exact J231 z200 I887 J905 B887 G905 _ _ _ (by omega) (by omega) (pG1_cg rfl rfl f888) (pG2_cg rfl rfl f889) (rrP_cg rfl rfl rfl f890) (sz3_cg rfl rfl f891) (s4_cg rfl rfl rfl f892) (ssP_cg rfl rfl f893) (thF_cg rfl rfl f894) e895 e896 e897 e898 e899 Y S (lv_sub hl [0, 1, 2] rfl)
                                      · refine lv_aload_n X.1 X.2.1 d_M_issued_640 rfl (lv_at hl 0 rfl) ?_
                                        refine lv_aload_n X.1 X.2.1 d_M_issued_641 rfl (lv_at hl 0 rfl) ?_
                                        refine m_get X Y 83 (by decide) lk_newRenew (gf_newRenew _ _ _) rfl d_M_issued_642 ?_
                                        refine lv_aload_n X.1 X.2.1 d_M_issued_645 rfl (lv_at hl 0 rfl) ?_
                                        refine lv_iconst (v := iI 4) X.1 X.2.1 d_M_issued_646 (by decide) ?_
                                        refine lv_bipush (v := iI 8) X.1 X.2.1 d_M_issued_647 (by decide) ?_
                                        refine r_nl (m_run (As := [.int (iI 4), .int (iI 8)]) (rest := [.long ((J905 83)), .ref h]) (n := 2) X Y hZ hA hml hl.1 (r_M_timeOf l D E h q H.size I887 J905 B887 G905 4 (by decide) (by decide) 8 (by decide) (by decide) S.1 (pG1_cg rfl rfl f888) (pG2_cg rfl rfl f889)) kl_M_timeOf ks_M_timeOf kx_M_timeOf ki_M_timeOf ini_M hd_M_timeOf ⟨Nat.le_of_ble_eq_true rfl, Nat.le_of_ble_eq_true rfl⟩ rfl (Nat.le_of_ble_eq_true rfl) d_M_issued_649 ⟨Nat.le_refl _, Nat.le_refl _⟩) X Y hA S (by decide) (by decide) (fun v907 u H locs Y S s907 p907 => ?_)
                                        obtain ⟨I907, J907, B907, G907⟩ := u
                                        dsimp only at Y S s907 p907
                                        have b907 : B887 = B907 := (funext (fun j => s907.2.2 j (by simp))).symm
                                        subst b907
                                        have g907_P1 := p907
                                        refine p_calll (As := [.long ((J905 83)), .long v907]) (rest := [.ref h]) (n := 2) X Y hml hl.1 (r_M_lesser l ((J905 83)) v907) kl_M_lesser ks_M_lesser ki_M_lesser ini_M hd_M_lesser ⟨Nat.le_of_ble_eq_true rfl, Nat.le_of_ble_eq_true rfl⟩ rfl (Nat.le_of_ble_eq_true rfl) d_M_issued_652 ⟨Nat.le_refl _, Nat.le_refl _⟩ (fun v908 H locs p908 Y => ?_)
                                        refine r_putl X Y (by decide) lk_newRenew rfl rfl (t_M_ok 83 (by decide)) rfl rfl (sf_newRenew _ _ _ _) (Nat.le_of_ble_eq_true rfl) d_M_issued_655 (fun J909 H locs Y => ?_)
                                        exact J231 z200 I907 J909 B887 G907 _ _ _ (by omega) (by omega) g907_P1 (pG2_cg rfl rfl (pG2_cg rfl rfl f889)) (rrP_cg (s907.2.1 69 (by decide)) rfl rfl (rrP_cg rfl rfl rfl f890)) (sz3_cg rfl rfl (sz3_cg rfl rfl f891)) (s4_cg (s907.2.1 69 (by decide)) rfl rfl (s4_cg rfl rfl rfl f892)) (ssP_cg rfl rfl (ssP_cg rfl rfl f893)) (thF_cg rfl rfl (thF_cg rfl rfl f894)) ((s907.2.1 69 (by decide)).trans e895) ((s907.2.1 77 (by decide)).trans e896) ((s907.2.1 75 (by decide)).trans e897) ((s907.2.1 76 (by decide)).trans e898) ((s907.2.1 33 (by decide)).trans e899) Y S (lv_sub hl [0, 1, 2] rfl)
                                  refine z_if_eq (tgt := 623) X.1 X.2.1 d_M_issued_607 (by decide) ⟨by omega, by omega⟩ (fun h910 => ?_) (fun h910 => ?_)
                                  · exact J900 I864 J885 B864 G864 _ _ _ f866 f867 f868 f869 f870 f871 f872 e873 e874 e875 e876 e877 Y S (lv_sub hl [1, 2, 4] rfl)
                                  · refine lv_aload_n X.1 X.2.1 d_M_issued_610 rfl (lv_at hl 1 rfl) ?_
                                    refine lv_aload_n X.1 X.2.1 d_M_issued_611 rfl (lv_at hl 1 rfl) ?_
                                    refine m_get X Y 83 (by decide) lk_newRenew (gf_newRenew _ _ _) rfl d_M_issued_612 ?_
                                    refine lv_lload X.1 X.2.1 d_M_issued_615 (lv_at hl 0 rfl) ?_
                                    refine p_calll (As := [.long ((J885 83)), .long v865]) (rest := [.ref h]) (n := 2) X Y hml hl.1 (r_M_lesser l ((J885 83)) v865) kl_M_lesser ks_M_lesser ki_M_lesser ini_M hd_M_lesser ⟨Nat.le_of_ble_eq_true rfl, Nat.le_of_ble_eq_true rfl⟩ rfl (Nat.le_of_ble_eq_true rfl) d_M_issued_617 ⟨Nat.le_refl _, Nat.le_refl _⟩ (fun v911 H locs p911 Y => ?_)
                                    refine r_putl X Y (by decide) lk_newRenew rfl rfl (t_M_ok 83 (by decide)) rfl rfl (sf_newRenew _ _ _ _) (Nat.le_of_ble_eq_true rfl) d_M_issued_620 (fun J912 H locs Y => ?_)
                                    exact J900 I864 J912 B864 G864 _ _ _ f866 f867 f868 f869 f870 f871 f872 e873 e874 e875 e876 e877 Y S (lv_sub hl [1, 2, 4] rfl)
                                refine z_if_eq (tgt := 587) X.1 X.2.1 d_M_issued_560 (by decide) ⟨by omega, by omega⟩ (fun h913 => ?_) (fun h913 => ?_)
                                · refine lv_lload X.1 X.2.1 d_M_issued_587 (lv_at hl 3 rfl) ?_
                                  exact J878 v130 I846 J863 B846 G863 _ _ _ (pG1_cg rfl rfl f847) (pG2_cg rfl rfl f848) (rrP_cg rfl rfl rfl f849) (sz3_cg rfl rfl f850) (s4_cg rfl rfl rfl f851) (ssP_cg rfl rfl f852) (thF_cg rfl rfl f853) e854 e855 e856 e857 e858 Y S (lv_sub hl [0, 1, 2, 4] rfl)
                                · refine lv_aload_n X.1 X.2.1 d_M_issued_563 rfl (lv_at hl 0 rfl) ?_
                                  refine lv_iconst (v := iI 1) X.1 X.2.1 d_M_issued_564 (by decide) ?_
                                  refine lv_bipush (v := iI 6) X.1 X.2.1 d_M_issued_565 (by decide) ?_
                                  refine r_ni (m_run (As := [.int (iI 1), .int (iI 6)]) (rest := []) (n := 2) X Y hZ hA hml hl.1 (r_M_has l D E h q H.size I846 J863 B846 G863 1 (by decide) (by decide) 6 (by decide) (by decide) S.1) kl_M_has ks_M_has kx_M_has ki_M_has ini_M hd_M_has ⟨Nat.le_of_ble_eq_true rfl, Nat.le_of_ble_eq_true rfl⟩ rfl (Nat.le_of_ble_eq_true rfl) d_M_issued_567 ⟨Nat.le_refl _, Nat.le_refl _⟩) X Y hA S (by decide) (by decide) (fun z914 u H locs Y S s914 p914 => ?_)
                                  obtain ⟨I914, J914, B914, G914⟩ := u
                                  dsimp only at Y S s914 p914
                                  have i914 : I846 = I914 := (funext (fun j => s914.2.1 j (by simp))).symm
                                  subst i914
                                  have b914 : B846 = B914 := (funext (fun j => s914.2.2 j (by simp))).symm
                                  subst b914
                                  obtain ⟨l914, u914, x914⟩ := p914
                                  refine z_if_eq (tgt := 583) X.1 X.2.1 d_M_issued_570 (by decide) ⟨by omega, by omega⟩ (fun h915 => ?_) (fun h915 => ?_)
                                  · refine lv_lconst (v := 0) X.1 X.2.1 d_M_issued_583 rfl ?_
                                    refine lv_goto (tgt := 589) X.1 X.2.1 d_M_issued_584 (by decide) ?_
                                    exact J878 0 I846 J914 B846 G914 _ _ _ (pG1_cg rfl rfl (pG1_cg rfl rfl f847)) (pG2_cg rfl rfl (pG2_cg rfl rfl f848)) (rrP_cg rfl rfl rfl (rrP_cg rfl rfl rfl f849)) (sz3_cg rfl rfl (sz3_cg rfl rfl f850)) (s4_cg rfl rfl rfl (s4_cg rfl rfl rfl f851)) (ssP_cg rfl rfl (ssP_cg rfl rfl f852)) (thF_cg rfl rfl (thF_cg rfl rfl f853)) e854 e855 e856 e857 e858 Y S (lv_sub hl [0, 1, 2, 4] rfl)
                                  · refine lv_aload_n X.1 X.2.1 d_M_issued_573 rfl (lv_at hl 0 rfl) ?_
                                    refine lv_iconst (v := iI 1) X.1 X.2.1 d_M_issued_574 (by decide) ?_
                                    refine lv_bipush (v := iI 6) X.1 X.2.1 d_M_issued_575 (by decide) ?_
                                    refine r_nl (m_run (As := [.int (iI 1), .int (iI 6)]) (rest := []) (n := 2) X Y hZ hA hml hl.1 (r_M_timeOf l D E h q H.size I846 J914 B846 G914 1 (by decide) (by decide) 6 (by decide) (by decide) S.1 (pG1_cg rfl rfl (pG1_cg rfl rfl f847)) (pG2_cg rfl rfl (pG2_cg rfl rfl f848))) kl_M_timeOf ks_M_timeOf kx_M_timeOf ki_M_timeOf ini_M hd_M_timeOf ⟨Nat.le_of_ble_eq_true rfl, Nat.le_of_ble_eq_true rfl⟩ rfl (Nat.le_of_ble_eq_true rfl) d_M_issued_577 ⟨Nat.le_refl _, Nat.le_refl _⟩) X Y hA S (by decide) (by decide) (fun v916 u H locs Y S s916 p916 => ?_)
                                    obtain ⟨I916, J916, B916, G916⟩ := u
                                    dsimp only at Y S s916 p916
                                    have b916 : B846 = B916 := (funext (fun j => s916.2.2 j (by simp))).symm
                                    subst b916
                                    have g916_P1 := p916
                                    refine lv_goto (tgt := 589) X.1 X.2.1 d_M_issued_580 (by decide) ?_
                                    exact J878 v916 I916 J916 B846 G916 _ _ _ g916_P1 (pG2_cg rfl rfl (pG2_cg rfl rfl (pG2_cg rfl rfl f848))) (rrP_cg (s916.2.1 69 (by decide)) rfl rfl (rrP_cg rfl rfl rfl (rrP_cg rfl rfl rfl f849))) (sz3_cg rfl rfl (sz3_cg rfl rfl (sz3_cg rfl rfl f850))) (s4_cg (s916.2.1 69 (by decide)) rfl rfl (s4_cg rfl rfl rfl (s4_cg rfl rfl rfl f851))) (ssP_cg rfl rfl (ssP_cg rfl rfl (ssP_cg rfl rfl f852))) (thF_cg rfl rfl (thF_cg rfl rfl (thF_cg rfl rfl f853))) ((s916.2.1 69 (by decide)).trans e854) ((s916.2.1 77 (by decide)).trans e855) ((s916.2.1 75 (by decide)).trans e856) ((s916.2.1 76 (by decide)).trans e857) ((s916.2.1 33 (by decide)).trans e858) Y S (lv_sub hl [0, 1, 2, 4] rfl)
                              refine z_if_ne (tgt := 553) X.1 X.2.1 d_M_issued_514 (by decide) ⟨by omega, by omega⟩ (fun h917 => ?_) (fun h917 => ?_)
                              · exact J859 I829 J829 B829 G829 _ _ _ f830 f831 f832 f833 f834 f835 f836 e837 e838 e839 e840 e841 Y S (lv_sub hl [0, 1, 2, 3, 4] rfl)
                              · refine lv_aload_n X.1 X.2.1 d_M_issued_517 rfl (lv_at hl 0 rfl) ?_
                                refine lv_iload_n X.1 X.2.1 d_M_issued_518 rfl (lv_at hl 1 rfl) ?_
                                refine lv_iconst (v := iI 4) X.1 X.2.1 d_M_issued_519 (by decide) ?_
                                refine r_ni (m_run (As := [.int (iI z101), .int (iI 4)]) (rest := []) (n := 2) X Y hZ hA hml hl.1 (r_M_bit l D E h q H.size I829 J829 B829 G829 z101 (by omega) (by omega) 4 (by decide) (by decide) S.1) kl_M_bit ks_M_bit kx_M_bit ki_M_bit ini_M hd_M_bit ⟨Nat.le_of_ble_eq_true rfl, Nat.le_of_ble_eq_true rfl⟩ rfl (Nat.le_of_ble_eq_true rfl) d_M_issued_520 ⟨Nat.le_refl _, Nat.le_refl _⟩) X Y hA S (by decide) (by decide) (fun z918 u H locs Y S s918 p918 => ?_)
                                obtain ⟨I918, J918, B918, G918⟩ := u
                                dsimp only at Y S s918 p918
                                have i918 : I829 = I918 := (funext (fun j => s918.2.1 j (by simp))).symm
                                subst i918
                                have b918 : B829 = B918 := (funext (fun j => s918.2.2 j (by simp))).symm
                                subst b918
                                obtain ⟨l918, u918⟩ := p918
                                have J932 : ∀ (I919 : Nat → Int32) (J919 : Nat → Int64) (B919 : Nat → Nat → Int32) (G919 : Nat → Nat → Int64) (H : Heap) (locs : List Loc) (ls : Array Slot), (pG1 I919) → (pG2 (B919 37) (B919 38)) → (rrP rr (I919 69) (B919 37) (B919 38)) → (sz3 (16 * 1 + 1 : Int).toNat (16 * 1 + 3 : Int).toNat (16 * 1 + 9 : Int).toNat (B919 37) (B919 38)) → (s4 (I919 69) (B919 37) (B919 38)) → (ssP ss (B919 37) (B919 38)) → (thF [7] (B 37) (B 38) (B919 37) (B919 38)) → (I919 69 = iI ia) → (I919 77 = iI ty) → (I919 75 = iI cl) → (I919 76 = iI sv) → (I919 33 = iI cn) → mH D E (mA E h q sz) s.heap h q I919 J919 B919 G919 H locs → rS [3, 8, 14, 18, 29, 33, 36, 39, 40, 42, 80, 81, 84, 85, 86, 87, 88, 89] [0, 1, 5, 6, 7, 9, 10, 11, 12, 13, 15, 16, 17, 19, 20, 21, 22, 23, 24, 34, 35, 37, 38, 56, 59, 60, 90] I B I919 B919 → lv_has ls 15 [(0, .ref h), (1, .int (iI z101)), (5, .long v129), (7, .long v130), (10, .int (iI z200))] → W p l e (mR 45 2046) s m AV below meth c H locs 0 0 QQ (F0 m 540 ls []) := by
                                  intro I919 J919 B919 G919 H locs ls f920 f921 f922 f923 f924 f925 f926 e927 e928 e929 e930 e931 Y S hl
                                  refine lv_aload_n X.1 X.2.1 d_M_issued_540 rfl (lv_at hl 0 rfl) ?_
                                  refine lv_dup X.1 X.2.1 d_M_issued_541 rfl ?_
                                  refine r_geti (k := 81) X Y S (by decide) lk_newFlags (gf_newFlags _ _ _) rfl rfl d_M_issued_542 (fun z936 e936 l936 u936 => ?_)
                                  refine lv_iconst (v := iI 4) X.1 X.2.1 d_M_issued_545 (by decide) ?_
                                  refine p_calli (As := [.int (iI 4)]) (rest := [.int (iI z936), .ref h]) (n := 1) X Y hml hl.1 (r_M_bitOf l 4 (by decide) (by decide)) kl_M_bitOf ks_M_bitOf ki_M_bitOf ini_M hd_M_bitOf ⟨Nat.le_of_ble_eq_true rfl, Nat.le_of_ble_eq_true rfl⟩ rfl (Nat.le_of_ble_eq_true rfl) d_M_issued_546 ⟨Nat.le_refl _, Nat.le_refl _⟩ (fun r937 H locs p937 Y => ?_)
                                  obtain ⟨z937, e937, p937⟩ := p937
                                  subst e937
                                  obtain ⟨l937, u937⟩ := p937
                                  refine lv_ior X.1 X.2.1 d_M_issued_549 ?_
                                  refine t_u (fun z938 l938 u938 => ?_)
                                  refine r_puti (k := 81) X Y S (by decide) lk_newFlags rfl rfl (t_M_ok 81 (by decide)) rfl rfl (sf_newFlags _ _ _ _) (Nat.le_of_ble_eq_true rfl) rfl (show ((-2147483648) : Int) ≤ z938 by omega) (show z938 ≤ (2147483647 : Int) by omega) ⟨by omega, by omega⟩ (by decide) d_M_issued_550 (fun I939 H locs Y S w939 => ?_)
                                  exact J859 I939 J919 B919 G919 _ _ _ (pG1_cg (w939.2 39 (by decide)) (w939.2 40 (by decide)) f920) (pG2_cg rfl rfl f921) (rrP_cg (w939.2 69 (by decide)) rfl rfl f922) (sz3_cg rfl rfl f923) (s4_cg (w939.2 69 (by decide)) rfl rfl f924) (ssP_cg rfl rfl f925) (thF_cg rfl rfl f926) ((w939.2 69 (by decide)).trans e927) ((w939.2 77 (by decide)).trans e928) ((w939.2 75 (by decide)).trans e929) ((w939.2 76 (by decide)).trans e930) ((w939.2 33 (by decide)).trans e931) Y S (lv_sub hl [0, 1, 2, 3, 4] rfl)
                                refine z_if_ne (tgt := 540) X.1 X.2.1 d_M_issued_523 (by decide) ⟨by omega, by omega⟩ (fun h940 => ?_) (fun h940 => ?_)
                                · exact J932 I829 J918 B829 G918 _ _ _ (pG1_cg rfl rfl f830) (pG2_cg rfl rfl f831) (rrP_cg rfl rfl rfl f832) (sz3_cg rfl rfl f833) (s4_cg rfl rfl rfl f834) (ssP_cg rfl rfl f835) (thF_cg rfl rfl f836) e837 e838 e839 e840 e841 Y S (lv_sub hl [0, 1, 2, 3, 4] rfl)
                                · refine lv_aload_n X.1 X.2.1 d_M_issued_526 rfl (lv_at hl 0 rfl) ?_
                                  refine lv_aload_n X.1 X.2.1 d_M_issued_527 rfl (lv_at hl 0 rfl) ?_
                                  refine lv_iconst (v := iI 4) X.1 X.2.1 d_M_issued_528 (by decide) ?_
                                  refine lv_iconst (v := iI 0) X.1 X.2.1 d_M_issued_529 (by decide) ?_
                                  refine r_ni (m_run (As := [.int (iI 4), .int (iI 0)]) (rest := [.ref h]) (n := 2) X Y hZ hA hml hl.1 (r_M_flagsAt l D E h q H.size I829 J918 B829 G918 4 (by decide) (by decide) 0 (by decide) (by decide) S.1 (pG1_cg rfl rfl f830) (pG2_cg rfl rfl f831)) kl_M_flagsAt ks_M_flagsAt kx_M_flagsAt ki_M_flagsAt ini_M hd_M_flagsAt ⟨Nat.le_of_ble_eq_true rfl, Nat.le_of_ble_eq_true rfl⟩ rfl (Nat.le_of_ble_eq_true rfl) d_M_issued_530 ⟨Nat.le_refl _, Nat.le_refl _⟩) X Y hA S (by decide) (by decide) (fun z941 u H locs Y S s941 p941 => ?_)
                                  obtain ⟨I941, J941, B941, G941⟩ := u
                                  dsimp only at Y S s941 p941
                                  have b941 : B829 = B941 := (funext (fun j => s941.2.2 j (by simp))).symm
                                  subst b941
                                  obtain ⟨l941, u941, g941_P1⟩ := p941
                                  refine lv_iconst (v := iI 4) X.1 X.2.1 d_M_issued_533 (by decide) ?_
                                  refine r_ni (m_run (As := [.int (iI z941), .int (iI 4)]) (rest := []) (n := 2) X Y hZ hA hml hl.1 (r_M_bit l D E h q H.size I941 J941 B829 G941 z941 (by omega) (by omega) 4 (by decide) (by decide) S.1) kl_M_bit ks_M_bit kx_M_bit ki_M_bit ini_M hd_M_bit ⟨Nat.le_of_ble_eq_true rfl, Nat.le_of_ble_eq_true rfl⟩ rfl (Nat.le_of_ble_eq_true rfl) d_M_issued_534 ⟨Nat.le_refl _, Nat.le_refl _⟩) X Y hA S (by decide) (by decide) (fun z942 u H locs Y S s942 p942 => ?_)
                                  obtain ⟨I942, J942, B942, G942⟩ := u
                                  dsimp only at Y S s942 p942
                                  have i942 : I941 = I942 := (funext (fun j => s942.2.1 j (by simp))).symm
                                  subst i942
                                  have b942 : B829 = B942 := (funext (fun j => s942.2.2 j (by simp))).symm
                                  subst b942
                                  obtain ⟨l942, u942⟩ := p942
                                  refine z_if_eq (tgt := 553) X.1 X.2.1 d_M_issued_537 (by decide) ⟨by omega, by omega⟩ (fun h943 => ?_) (fun h943 => ?_)
                                  · exact J859 I941 J942 B829 G942 _ _ _ (pG1_cg rfl rfl g941_P1) (pG2_cg rfl rfl (pG2_cg rfl rfl (pG2_cg rfl rfl f831))) (rrP_cg rfl rfl rfl (rrP_cg (s941.2.1 69 (by decide)) rfl rfl (rrP_cg rfl rfl rfl f832))) (sz3_cg rfl rfl (sz3_cg rfl rfl (sz3_cg rfl rfl f833))) (s4_cg rfl rfl rfl (s4_cg (s941.2.1 69 (by decide)) rfl rfl (s4_cg rfl rfl rfl f834))) (ssP_cg rfl rfl (ssP_cg rfl rfl (ssP_cg rfl rfl f835))) (thF_cg rfl rfl (thF_cg rfl rfl (thF_cg rfl rfl f836))) ((s941.2.1 69 (by decide)).trans e837) ((s941.2.1 77 (by decide)).trans e838) ((s941.2.1 75 (by decide)).trans e839) ((s941.2.1 76 (by decide)).trans e840) ((s941.2.1 33 (by decide)).trans e841) Y S (lv_sub hl [0, 1, 2, 3, 4] rfl)
                                  · exact J932 I941 J942 B829 G942 _ _ _ (pG1_cg rfl rfl g941_P1) (pG2_cg rfl rfl (pG2_cg rfl rfl (pG2_cg rfl rfl f831))) (rrP_cg rfl rfl rfl (rrP_cg (s941.2.1 69 (by decide)) rfl rfl (rrP_cg rfl rfl rfl f832))) (sz3_cg rfl rfl (sz3_cg rfl rfl (sz3_cg rfl rfl f833))) (s4_cg rfl rfl rfl (s4_cg (s941.2.1 69 (by decide)) rfl rfl (s4_cg rfl rfl rfl f834))) (ssP_cg rfl rfl (ssP_cg rfl rfl (ssP_cg rfl rfl f835))) (thF_cg rfl rfl (thF_cg rfl rfl (thF_cg rfl rfl f836))) ((s941.2.1 69 (by decide)).trans e837) ((s941.2.1 77 (by decide)).trans e838) ((s941.2.1 75 (by decide)).trans e839) ((s941.2.1 76 (by decide)).trans e840) ((s941.2.1 33 (by decide)).trans e841) Y S (lv_sub hl [0, 1, 2, 3, 4] rfl)
                            refine z_if_ne (tgt := 510) X.1 X.2.1 d_M_issued_471 (by decide) ⟨by omega, by omega⟩ (fun h944 => ?_) (fun h944 => ?_)
                            · exact J842 I812 J812 B812 G812 _ _ _ f813 f814 f815 f816 f817 f818 f819 e820 e821 e822 e823 e824 Y S (lv_sub hl [0, 1, 2, 3, 4] rfl)
                            · refine lv_aload_n X.1 X.2.1 d_M_issued_474 rfl (lv_at hl 0 rfl) ?_
                              refine lv_iload_n X.1 X.2.1 d_M_issued_475 rfl (lv_at hl 1 rfl) ?_
                              refine lv_iconst (v := iI 2) X.1 X.2.1 d_M_issued_476 (by decide) ?_
                              refine r_ni (m_run (As := [.int (iI z101), .int (iI 2)]) (rest := []) (n := 2) X Y hZ hA hml hl.1 (r_M_bit l D E h q H.size I812 J812 B812 G812 z101 (by omega) (by omega) 2 (by decide) (by decide) S.1) kl_M_bit ks_M_bit kx_M_bit ki_M_bit ini_M hd_M_bit ⟨Nat.le_of_ble_eq_true rfl, Nat.le_of_ble_eq_true rfl⟩ rfl (Nat.le_of_ble_eq_true rfl) d_M_issued_477 ⟨Nat.le_refl _, Nat.le_refl _⟩) X Y hA S (by decide) (by decide) (fun z945 u H locs Y S s945 p945 => ?_)
                              obtain ⟨I945, J945, B945, G945⟩ := u
                              dsimp only at Y S s945 p945
                              have i945 : I812 = I945 := (funext (fun j => s945.2.1 j (by simp))).symm
                              subst i945
                              have b945 : B812 = B945 := (funext (fun j => s945.2.2 j (by simp))).symm
                              subst b945
                              obtain ⟨l945, u945⟩ := p945
                              have J959 : ∀ (I946 : Nat → Int32) (J946 : Nat → Int64) (B946 : Nat → Nat → Int32) (G946 : Nat → Nat → Int64) (H : Heap) (locs : List Loc) (ls : Array Slot), (pG1 I946) → (pG2 (B946 37) (B946 38)) → (rrP rr (I946 69) (B946 37) (B946 38)) → (sz3 (16 * 1 + 1 : Int).toNat (16 * 1 + 3 : Int).toNat (16 * 1 + 9 : Int).toNat (B946 37) (B946 38)) → (s4 (I946 69) (B946 37) (B946 38)) → (ssP ss (B946 37) (B946 38)) → (thF [7] (B 37) (B 38) (B946 37) (B946 38)) → (I946 69 = iI ia) → (I946 77 = iI ty) → (I946 75 = iI cl) → (I946 76 = iI sv) → (I946 33 = iI cn) → mH D E (mA E h q sz) s.heap h q I946 J946 B946 G946 H locs → rS [3, 8, 14, 18, 29, 33, 36, 39, 40, 42, 80, 81, 84, 85, 86, 87, 88, 89] [0, 1, 5, 6, 7, 9, 10, 11, 12, 13, 15, 16, 17, 19, 20, 21, 22, 23, 24, 34, 35, 37, 38, 56, 59, 60, 90] I B I946 B946 → lv_has ls 15 [(0, .ref h), (1, .int (iI z101)), (5, .long v129), (7, .long v130), (10, .int (iI z200))] → W p l e (mR 45 2046) s m AV below meth c H locs 0 0 QQ (F0 m 497 ls []) := by
                                intro I946 J946 B946 G946 H locs ls f947 f948 f949 f950 f951 f952 f953 e954 e955 e956 e957 e958 Y S hl
                                refine lv_aload_n X.1 X.2.1 d_M_issued_497 rfl (lv_at hl 0 rfl) ?_
                                refine lv_dup X.1 X.2.1 d_M_issued_498 rfl ?_
                                refine r_geti (k := 81) X Y S (by decide) lk_newFlags (gf_newFlags _ _ _) rfl rfl d_M_issued_499 (fun z963 e963 l963 u963 => ?_)
                                refine lv_iconst (v := iI 2) X.1 X.2.1 d_M_issued_502 (by decide) ?_
                                refine p_calli (As := [.int (iI 2)]) (rest := [.int (iI z963), .ref h]) (n := 1) X Y hml hl.1 (r_M_bitOf l 2 (by decide) (by decide)) kl_M_bitOf ks_M_bitOf ki_M_bitOf ini_M hd_M_bitOf ⟨Nat.le_of_ble_eq_true rfl, Nat.le_of_ble_eq_true rfl⟩ rfl (Nat.le_of_ble_eq_true rfl) d_M_issued_503 ⟨Nat.le_refl _, Nat.le_refl _⟩ (fun r964 H locs p964 Y => ?_)
                                obtain ⟨z964, e964, p964⟩ := p964
                                subst e964
                                obtain ⟨l964, u964⟩ := p964
                                refine lv_ior X.1 X.2.1 d_M_issued_506 ?_
                                refine t_u (fun z965 l965 u965 => ?_)
                                refine r_puti (k := 81) X Y S (by decide) lk_newFlags rfl rfl (t_M_ok 81 (by decide)) rfl rfl (sf_newFlags _ _ _ _) (Nat.le_of_ble_eq_true rfl) rfl (show ((-2147483648) : Int) ≤ z965 by omega) (show z965 ≤ (2147483647 : Int) by omega) ⟨by omega, by omega⟩ (by decide) d_M_issued_507 (fun I966 H locs Y S w966 => ?_)
                                exact J842 I966 J946 B946 G946 _ _ _ (pG1_cg (w966.2 39 (by decide)) (w966.2 40 (by decide)) f947) (pG2_cg rfl rfl f948) (rrP_cg (w966.2 69 (by decide)) rfl rfl f949) (sz3_cg rfl rfl f950) (s4_cg (w966.2 69 (by decide)) rfl rfl f951) (ssP_cg rfl rfl f952) (thF_cg rfl rfl f953) ((w966.2 69 (by decide)).trans e954) ((w966.2 77 (by decide)).trans e955) ((w966.2 75 (by decide)).trans e956) ((w966.2 76 (by decide)).trans e957) ((w966.2 33 (by decide)).trans e958) Y S (lv_sub hl [0, 1, 2, 3, 4] rfl)
                              refine z_if_ne (tgt := 497) X.1 X.2.1 d_M_issued_480 (by decide) ⟨by omega, by omega⟩ (fun h967 => ?_) (fun h967 => ?_)
                              · exact J959 I812 J945 B812 G945 _ _ _ (pG1_cg rfl rfl f813) (pG2_cg rfl rfl f814) (rrP_cg rfl rfl rfl f815) (sz3_cg rfl rfl f816) (s4_cg rfl rfl rfl f817) (ssP_cg rfl rfl f818) (thF_cg rfl rfl f819) e820 e821 e822 e823 e824 Y S (lv_sub hl [0, 1, 2, 3, 4] rfl)
                              · refine lv_aload_n X.1 X.2.1 d_M_issued_483 rfl (lv_at hl 0 rfl) ?_
                                refine lv_aload_n X.1 X.2.1 d_M_issued_484 rfl (lv_at hl 0 rfl) ?_
                                refine lv_iconst (v := iI 4) X.1 X.2.1 d_M_issued_485 (by decide) ?_
                                refine lv_iconst (v := iI 0) X.1 X.2.1 d_M_issued_486 (by decide) ?_
                                refine r_ni (m_run (As := [.int (iI 4), .int (iI 0)]) (rest := [.ref h]) (n := 2) X Y hZ hA hml hl.1 (r_M_flagsAt l D E h q H.size I812 J945 B812 G945 4 (by decide) (by decide) 0 (by decide) (by decide) S.1 (pG1_cg rfl rfl f813) (pG2_cg rfl rfl f814)) kl_M_flagsAt ks_M_flagsAt kx_M_flagsAt ki_M_flagsAt ini_M hd_M_flagsAt ⟨Nat.le_of_ble_eq_true rfl, Nat.le_of_ble_eq_true rfl⟩ rfl (Nat.le_of_ble_eq_true rfl) d_M_issued_487 ⟨Nat.le_refl _, Nat.le_refl _⟩) X Y hA S (by decide) (by decide) (fun z968 u H locs Y S s968 p968 => ?_)
                                obtain ⟨I968, J968, B968, G968⟩ := u
                                dsimp only at Y S s968 p968
                                have b968 : B812 = B968 := (funext (fun j => s968.2.2 j (by simp))).symm
                                subst b968
                                obtain ⟨l968, u968, g968_P1⟩ := p968
                                refine lv_iconst (v := iI 2) X.1 X.2.1 d_M_issued_490 (by decide) ?_
                                refine r_ni (m_run (As := [.int (iI z968), .int (iI 2)]) (rest := []) (n := 2) X Y hZ hA hml hl.1 (r_M_bit l D E h q H.size I968 J968 B812 G968 z968 (by omega) (by omega) 2 (by decide) (by decide) S.1) kl_M_bit ks_M_bit kx_M_bit ki_M_bit ini_M hd_M_bit ⟨Nat.le_of_ble_eq_true rfl, Nat.le_of_ble_eq_true rfl⟩ rfl (Nat.le_of_ble_eq_true rfl) d_M_issued_491 ⟨Nat.le_refl _, Nat.le_refl _⟩) X Y hA S (by decide) (by decide) (fun z969 u H locs Y S s969 p969 => ?_)
                                obtain ⟨I969, J969, B969, G969⟩ := u
                                dsimp only at Y S s969 p969
                                have i969 : I968 = I969 := (funext (fun j => s969.2.1 j (by simp))).symm
                                subst i969
                                have b969 : B812 = B969 := (funext (fun j => s969.2.2 j (by simp))).symm
                                subst b969
                                obtain ⟨l969, u969⟩ := p969
                                refine z_if_eq (tgt := 510) X.1 X.2.1 d_M_issued_494 (by decide) ⟨by omega, by omega⟩ (fun h970 => ?_) (fun h970 => ?_)
                                · exact J842 I968 J969 B812 G969 _ _ _ (pG1_cg rfl rfl g968_P1) (pG2_cg rfl rfl (pG2_cg rfl rfl (pG2_cg rfl rfl f814))) (rrP_cg rfl rfl rfl (rrP_cg (s968.2.1 69 (by decide)) rfl rfl (rrP_cg rfl rfl rfl f815))) (sz3_cg rfl rfl (sz3_cg rfl rfl (sz3_cg rfl rfl f816))) (s4_cg rfl rfl rfl (s4_cg (s968.2.1 69 (by decide)) rfl rfl (s4_cg rfl rfl rfl f817))) (ssP_cg rfl rfl (ssP_cg rfl rfl (ssP_cg rfl rfl f818))) (thF_cg rfl rfl (thF_cg rfl rfl (thF_cg rfl rfl f819))) ((s968.2.1 69 (by decide)).trans e820) ((s968.2.1 77 (by decide)).trans e821) ((s968.2.1 75 (by decide)).trans e822) ((s968.2.1 76 (by decide)).trans e823) ((s968.2.1 33 (by decide)).trans e824) Y S (lv_sub hl [0, 1, 2, 3, 4] rfl)
                                · exact J959 I968 J969 B812 G969 _ _ _ (pG1_cg rfl rfl g968_P1) (pG2_cg rfl rfl (pG2_cg rfl rfl (pG2_cg rfl rfl f814))) (rrP_cg rfl rfl rfl (rrP_cg (s968.2.1 69 (by decide)) rfl rfl (rrP_cg rfl rfl rfl f815))) (sz3_cg rfl rfl (sz3_cg rfl rfl (sz3_cg rfl rfl f816))) (s4_cg rfl rfl rfl (s4_cg (s968.2.1 69 (by decide)) rfl rfl (s4_cg rfl rfl rfl f817))) (ssP_cg rfl rfl (ssP_cg rfl rfl (ssP_cg rfl rfl f818))) (thF_cg rfl rfl (thF_cg rfl rfl (thF_cg rfl rfl f819))) ((s968.2.1 69 (by decide)).trans e820) ((s968.2.1 77 (by decide)).trans e821) ((s968.2.1 75 (by decide)).trans e822) ((s968.2.1 76 (by decide)).trans e823) ((s968.2.1 33 (by decide)).trans e824) Y S (lv_sub hl [0, 1, 2, 3, 4] rfl)
                          have J984 : ∀ (I971 : Nat → Int32) (J971 : Nat → Int64) (B971 : Nat → Nat → Int32) (G971 : Nat → Nat → Int64) (H : Heap) (locs : List Loc) (ls : Array Slot), (pG1 I971) → (pG2 (B971 37) (B971 38)) → (rrP rr (I971 69) (B971 37) (B971 38)) → (sz3 (16 * 1 + 1 : Int).toNat (16 * 1 + 3 : Int).toNat (16 * 1 + 9 : Int).toNat (B971 37) (B971 38)) → (s4 (I971 69) (B971 37) (B971 38)) → (ssP ss (B971 37) (B971 38)) → (thF [7] (B 37) (B 38) (B971 37) (B971 38)) → (I971 69 = iI ia) → (I971 77 = iI ty) → (I971 75 = iI cl) → (I971 76 = iI sv) → (I971 33 = iI cn) → mH D E (mA E h q sz) s.heap h q I971 J971 B971 G971 H locs → rS [3, 8, 14, 18, 29, 33, 36, 39, 40, 42, 80, 81, 84, 85, 86, 87, 88, 89] [0, 1, 5, 6, 7, 9, 10, 11, 12, 13, 15, 16, 17, 19, 20, 21, 22, 23, 24, 34, 35, 37, 38, 56, 59, 60, 90] I B I971 B971 → lv_has ls 15 [(0, .ref h), (1, .int (iI z101)), (5, .long v129), (7, .long v130), (10, .int (iI z200))] → W p l e (mR 45 2046) s m AV below meth c H locs 0 0 QQ (F0 m 453 ls []) := by
                            intro I971 J971 B971 G971 H locs ls f972 f973 f974 f975 f976 f977 f978 e979 e980 e981 e982 e983 Y S hl
                            refine lv_aload_n X.1 X.2.1 d_M_issued_453 rfl (lv_at hl 0 rfl) ?_
                            refine lv_dup X.1 X.2.1 d_M_issued_454 rfl ?_
                            refine r_geti (k := 81) X Y S (by decide) lk_newFlags (gf_newFlags _ _ _) rfl rfl d_M_issued_455 (fun z988 e988 l988 u988 => ?_)
                            refine lv_bipush (v := iI 10) X.1 X.2.1 d_M_issued_458 (by decide) ?_
                            refine p_calli (As := [.int (iI 10)]) (rest := [.int (iI z988), .ref h]) (n := 1) X Y hml hl.1 (r_M_bitOf l 10 (by decide) (by decide)) kl_M_bitOf ks_M_bitOf ki_M_bitOf ini_M hd_M_bitOf ⟨Nat.le_of_ble_eq_true rfl, Nat.le_of_ble_eq_true rfl⟩ rfl (Nat.le_of_ble_eq_true rfl) d_M_issued_460 ⟨Nat.le_refl _, Nat.le_refl _⟩ (fun r989 H locs p989 Y => ?_)
                            obtain ⟨z989, e989, p989⟩ := p989
                            subst e989
                            obtain ⟨l989, u989⟩ := p989
                            refine lv_ior X.1 X.2.1 d_M_issued_463 ?_
                            refine t_u (fun z990 l990 u990 => ?_)
                            refine r_puti (k := 81) X Y S (by decide) lk_newFlags rfl rfl (t_M_ok 81 (by decide)) rfl rfl (sf_newFlags _ _ _ _) (Nat.le_of_ble_eq_true rfl) rfl (show ((-2147483648) : Int) ≤ z990 by omega) (show z990 ≤ (2147483647 : Int) by omega) ⟨by omega, by omega⟩ (by decide) d_M_issued_464 (fun I991 H locs Y S w991 => ?_)
                            exact J825 I991 J971 B971 G971 _ _ _ (pG1_cg (w991.2 39 (by decide)) (w991.2 40 (by decide)) f972) (pG2_cg rfl rfl f973) (rrP_cg (w991.2 69 (by decide)) rfl rfl f974) (sz3_cg rfl rfl f975) (s4_cg (w991.2 69 (by decide)) rfl rfl f976) (ssP_cg rfl rfl f977) (thF_cg rfl rfl f978) ((w991.2 69 (by decide)).trans e979) ((w991.2 77 (by decide)).trans e980) ((w991.2 75 (by decide)).trans e981) ((w991.2 76 (by decide)).trans e982) ((w991.2 33 (by decide)).trans e983) Y S (lv_sub hl [0, 1, 2, 3, 4] rfl)
                          refine z_if_eq (tgt := 438) X.1 X.2.1 d_M_issued_425 (by decide) ⟨by omega, by omega⟩ (fun h992 => ?_) (fun h992 => ?_)
                          · refine lv_aload_n X.1 X.2.1 d_M_issued_438 rfl (lv_at hl 0 rfl) ?_
                            refine lv_aload_n X.1 X.2.1 d_M_issued_439 rfl (lv_at hl 0 rfl) ?_
                            refine lv_iconst (v := iI 4) X.1 X.2.1 d_M_issued_440 (by decide) ?_
                            refine lv_iconst (v := iI 0) X.1 X.2.1 d_M_issued_441 (by decide) ?_
                            refine r_ni (m_run (As := [.int (iI 4), .int (iI 0)]) (rest := [.ref h]) (n := 2) X Y hZ hA hml hl.1 (r_M_flagsAt l D E h q H.size I795 J795 B795 G795 4 (by decide) (by decide) 0 (by decide) (by decide) S.1 f796 f797) kl_M_flagsAt ks_M_flagsAt kx_M_flagsAt ki_M_flagsAt ini_M hd_M_flagsAt ⟨Nat.le_of_ble_eq_true rfl, Nat.le_of_ble_eq_true rfl⟩ rfl (Nat.le_of_ble_eq_true rfl) d_M_issued_442 ⟨Nat.le_refl _, Nat.le_refl _⟩) X Y hA S (by decide) (by decide) (fun z993 u H locs Y S s993 p993 => ?_)
                            obtain ⟨I993, J993, B993, G993⟩ := u
                            dsimp only at Y S s993 p993
                            have b993 : B795 = B993 := (funext (fun j => s993.2.2 j (by simp))).symm
                            subst b993
                            obtain ⟨l993, u993, g993_P1⟩ := p993
                            refine lv_bipush (v := iI 10) X.1 X.2.1 d_M_issued_445 (by decide) ?_
                            refine r_ni (m_run (As := [.int (iI z993), .int (iI 10)]) (rest := []) (n := 2) X Y hZ hA hml hl.1 (r_M_bit l D E h q H.size I993 J993 B795 G993 z993 (by omega) (by omega) 10 (by decide) (by decide) S.1) kl_M_bit ks_M_bit kx_M_bit ki_M_bit ini_M hd_M_bit ⟨Nat.le_of_ble_eq_true rfl, Nat.le_of_ble_eq_true rfl⟩ rfl (Nat.le_of_ble_eq_true rfl) d_M_issued_447 ⟨Nat.le_refl _, Nat.le_refl _⟩) X Y hA S (by decide) (by decide) (fun z994 u H locs Y S s994 p994 => ?_)
                            obtain ⟨I994, J994, B994, G994⟩ := u
                            dsimp only at Y S s994 p994
                            have i994 : I993 = I994 := (funext (fun j => s994.2.1 j (by simp))).symm
                            subst i994
                            have b994 : B795 = B994 := (funext (fun j => s994.2.2 j (by simp))).symm
                            subst b994
                            obtain ⟨l994, u994⟩ := p994
                            refine z_if_eq (tgt := 467) X.1 X.2.1 d_M_issued_450 (by decide) ⟨by omega, by omega⟩ (fun h995 => ?_) (fun h995 => ?_)
                            · exact J825 I993 J994 B795 G994 _ _ _ (pG1_cg rfl rfl g993_P1) (pG2_cg rfl rfl (pG2_cg rfl rfl f797)) (rrP_cg rfl rfl rfl (rrP_cg (s993.2.1 69 (by decide)) rfl rfl f798)) (sz3_cg rfl rfl (sz3_cg rfl rfl f799)) (s4_cg rfl rfl rfl (s4_cg (s993.2.1 69 (by decide)) rfl rfl f800)) (ssP_cg rfl rfl (ssP_cg rfl rfl f801)) (thF_cg rfl rfl (thF_cg rfl rfl f802)) ((s993.2.1 69 (by decide)).trans e803) ((s993.2.1 77 (by decide)).trans e804) ((s993.2.1 75 (by decide)).trans e805) ((s993.2.1 76 (by decide)).trans e806) ((s993.2.1 33 (by decide)).trans e807) Y S (lv_sub hl [0, 1, 2, 3, 4] rfl)
                            · exact J984 I993 J994 B795 G994 _ _ _ (pG1_cg rfl rfl g993_P1) (pG2_cg rfl rfl (pG2_cg rfl rfl f797)) (rrP_cg rfl rfl rfl (rrP_cg (s993.2.1 69 (by decide)) rfl rfl f798)) (sz3_cg rfl rfl (sz3_cg rfl rfl f799)) (s4_cg rfl rfl rfl (s4_cg (s993.2.1 69 (by decide)) rfl rfl f800)) (ssP_cg rfl rfl (ssP_cg rfl rfl f801)) (thF_cg rfl rfl (thF_cg rfl rfl f802)) ((s993.2.1 69 (by decide)).trans e803) ((s993.2.1 77 (by decide)).trans e804) ((s993.2.1 75 (by decide)).trans e805) ((s993.2.1 76 (by decide)).trans e806) ((s993.2.1 33 (by decide)).trans e807) Y S (lv_sub hl [0, 1, 2, 3, 4] rfl)
                          · refine lv_aload_n X.1 X.2.1 d_M_issued_428 rfl (lv_at hl 0 rfl) ?_
                            refine r_geti (k := 78) X Y S (by decide) lk_shown (gf_shown _ _ _) rfl rfl d_M_issued_429 (fun z996 e996 l996 u996 => ?_)
                            refine z_if_eq (tgt := 467) X.1 X.2.1 d_M_issued_432 (by decide) ⟨by omega, by omega⟩ (fun h997 => ?_) (fun h997 => ?_)
                            · exact J825 I795 J795 B795 G795 _ _ _ f796 f797 f798 f799 f800 f801 f802 e803 e804 e805 e806 e807 Y S (lv_sub hl [0, 1, 2, 3, 4] rfl)
                            · refine lv_goto (tgt := 453) X.1 X.2.1 d_M_issued_435 (by decide) ?_
                              exact J984 I795 J795 B795 G795 _ _ _ f796 f797 f798 f799 f800 f801 f802 e803 e804 e805 e806 e807 Y S (lv_sub hl [0, 1, 2, 3, 4] rfl)
                        refine z_if_eq (tgt := 421) X.1 X.2.1 d_M_issued_404 (by decide) ⟨by omega, by omega⟩ (fun h998 => ?_) (fun h998 => ?_)
                        · exact J808 I778 J778 B778 G778 _ _ _ f779 f780 f781 f782 f783 f784 f785 e786 e787 e788 e789 e790 Y S (lv_sub hl [0, 1, 2, 3, 4] rfl)
                        · refine lv_aload_n X.1 X.2.1 d_M_issued_407 rfl (lv_at hl 0 rfl) ?_
                          refine lv_dup X.1 X.2.1 d_M_issued_408 rfl ?_
                          refine r_geti (k := 81) X Y S (by decide) lk_newFlags (gf_newFlags _ _ _) rfl rfl d_M_issued_409 (fun z999 e999 l999 u999 => ?_)
                          refine lv_bipush (v := iI 9) X.1 X.2.1 d_M_issued_412 (by decide) ?_
                          refine p_calli (As := [.int (iI 9)]) (rest := [.int (iI z999), .ref h]) (n := 1) X Y hml hl.1 (r_M_bitOf l 9 (by decide) (by decide)) kl_M_bitOf ks_M_bitOf ki_M_bitOf ini_M hd_M_bitOf ⟨Nat.le_of_ble_eq_true rfl, Nat.le_of_ble_eq_true rfl⟩ rfl (Nat.le_of_ble_eq_true rfl) d_M_issued_414 ⟨Nat.le_refl _, Nat.le_refl _⟩ (fun r1000 H locs p1000 Y => ?_)
                          obtain ⟨z1000, e1000, p1000⟩ := p1000
                          subst e1000
                          obtain ⟨l1000, u1000⟩ := p1000
                          refine lv_ior X.1 X.2.1 d_M_issued_417 ?_
                          refine t_u (fun z1001 l1001 u1001 => ?_)
                          refine r_puti (k := 81) X Y S (by decide) lk_newFlags rfl rfl (t_M_ok 81 (by decide)) rfl rfl (sf_newFlags _ _ _ _) (Nat.le_of_ble_eq_true rfl) rfl (show ((-2147483648) : Int) ≤ z1001 by omega) (show z1001 ≤ (2147483647 : Int) by omega) ⟨by omega, by omega⟩ (by decide) d_M_issued_418 (fun I1002 H locs Y S w1002 => ?_)
                          exact J808 I1002 J778 B778 G778 _ _ _ (pG1_cg (w1002.2 39 (by decide)) (w1002.2 40 (by decide)) f779) (pG2_cg rfl rfl f780) (rrP_cg (w1002.2 69 (by decide)) rfl rfl f781) (sz3_cg rfl rfl f782) (s4_cg (w1002.2 69 (by decide)) rfl rfl f783) (ssP_cg rfl rfl f784) (thF_cg rfl rfl f785) ((w1002.2 69 (by decide)).trans e786) ((w1002.2 77 (by decide)).trans e787) ((w1002.2 75 (by decide)).trans e788) ((w1002.2 76 (by decide)).trans e789) ((w1002.2 33 (by decide)).trans e790) Y S (lv_sub hl [0, 1, 2, 3, 4] rfl)
                      refine z_if_eq (tgt := 400) X.1 X.2.1 d_M_issued_383 (by decide) ⟨by omega, by omega⟩ (fun h1003 => ?_) (fun h1003 => ?_)
                      · exact J791 I761 J761 B761 G761 _ _ _ f762 f763 f764 f765 f766 f767 f768 e769 e770 e771 e772 e773 Y S (lv_sub hl [0, 1, 2, 3, 4] rfl)
                      · refine lv_aload_n X.1 X.2.1 d_M_issued_386 rfl (lv_at hl 0 rfl) ?_
                        refine lv_dup X.1 X.2.1 d_M_issued_387 rfl ?_
                        refine r_geti (k := 81) X Y S (by decide) lk_newFlags (gf_newFlags _ _ _) rfl rfl d_M_issued_388 (fun z1004 e1004 l1004 u1004 => ?_)
                        refine lv_bipush (v := iI 8) X.1 X.2.1 d_M_issued_391 (by decide) ?_
                        refine p_calli (As := [.int (iI 8)]) (rest := [.int (iI z1004), .ref h]) (n := 1) X Y hml hl.1 (r_M_bitOf l 8 (by decide) (by decide)) kl_M_bitOf ks_M_bitOf ki_M_bitOf ini_M hd_M_bitOf ⟨Nat.le_of_ble_eq_true rfl, Nat.le_of_ble_eq_true rfl⟩ rfl (Nat.le_of_ble_eq_true rfl) d_M_issued_393 ⟨Nat.le_refl _, Nat.le_refl _⟩ (fun r1005 H locs p1005 Y => ?_)
                        obtain ⟨z1005, e1005, p1005⟩ := p1005
                        subst e1005
                        obtain ⟨l1005, u1005⟩ := p1005
                        refine lv_ior X.1 X.2.1 d_M_issued_396 ?_
                        refine t_u (fun z1006 l1006 u1006 => ?_)
                        refine r_puti (k := 81) X Y S (by decide) lk_newFlags rfl rfl (t_M_ok 81 (by decide)) rfl rfl (sf_newFlags _ _ _ _) (Nat.le_of_ble_eq_true rfl) rfl (show ((-2147483648) : Int) ≤ z1006 by omega) (show z1006 ≤ (2147483647 : Int) by omega) ⟨by omega, by omega⟩ (by decide) d_M_issued_397 (fun I1007 H locs Y S w1007 => ?_)
                        exact J791 I1007 J761 B761 G761 _ _ _ (pG1_cg (w1007.2 39 (by decide)) (w1007.2 40 (by decide)) f762) (pG2_cg rfl rfl f763) (rrP_cg (w1007.2 69 (by decide)) rfl rfl f764) (sz3_cg rfl rfl f765) (s4_cg (w1007.2 69 (by decide)) rfl rfl f766) (ssP_cg rfl rfl f767) (thF_cg rfl rfl f768) ((w1007.2 69 (by decide)).trans e769) ((w1007.2 77 (by decide)).trans e770) ((w1007.2 75 (by decide)).trans e771) ((w1007.2 76 (by decide)).trans e772) ((w1007.2 33 (by decide)).trans e773) Y S (lv_sub hl [0, 1, 2, 3, 4] rfl)
                    refine z_if_eq (tgt := 381) X.1 X.2.1 d_M_issued_356 (by decide) ⟨by omega, by omega⟩ (fun h1008 => ?_) (fun h1008 => ?_)
                    · exact J774 I743 J760 B743 G760 _ _ _ (pG1_cg rfl rfl f744) (pG2_cg rfl rfl f745) (rrP_cg rfl rfl rfl f746) (sz3_cg rfl rfl f747) (s4_cg rfl rfl rfl f748) (ssP_cg rfl rfl f749) (thF_cg rfl rfl f750) e751 e752 e753 e754 e755 Y S (lv_sub hl [0, 1, 2, 3, 4] rfl)
                    · refine lv_aload_n X.1 X.2.1 d_M_issued_359 rfl (lv_at hl 0 rfl) ?_
                      refine lv_iconst (v := iI 4) X.1 X.2.1 d_M_issued_360 (by decide) ?_
                      refine lv_iconst (v := iI 3) X.1 X.2.1 d_M_issued_361 (by decide) ?_
                      refine r_ni (m_run (As := [.int (iI 4), .int (iI 3)]) (rest := []) (n := 2) X Y hZ hA hml hl.1 (r_M_both l D E h q H.size I743 J760 B743 G760 4 (by decide) (by decide) 3 (by decide) (by decide) S.1 cl e753 (by omega) (by omega) sv e754 (by omega) (by omega) (pG1_cg rfl rfl f744) (pG2_cg rfl rfl f745)) kl_M_both ks_M_both kx_M_both ki_M_both ini_M hd_M_both ⟨Nat.le_of_ble_eq_true rfl, Nat.le_of_ble_eq_true rfl⟩ rfl (Nat.le_of_ble_eq_true rfl) d_M_issued_362 ⟨Nat.le_refl _, Nat.le_refl _⟩) X Y hA S (by decide) (by decide) (fun z1009 u H locs Y S s1009 p1009 => ?_)
                      obtain ⟨I1009, J1009, B1009, G1009⟩ := u
                      dsimp only at Y S s1009 p1009
                      have b1009 : B743 = B1009 := (funext (fun j => s1009.2.2 j (by simp))).symm
                      subst b1009
                      obtain ⟨l1009, u1009, g1009_P1⟩ := p1009
                      refine z_if_eq (tgt := 381) X.1 X.2.1 d_M_issued_365 (by decide) ⟨by omega, by omega⟩ (fun h1010 => ?_) (fun h1010 => ?_)
                      · exact J774 I1009 J1009 B743 G1009 _ _ _ g1009_P1 (pG2_cg rfl rfl (pG2_cg rfl rfl f745)) (rrP_cg (s1009.2.1 69 (by decide)) rfl rfl (rrP_cg rfl rfl rfl f746)) (sz3_cg rfl rfl (sz3_cg rfl rfl f747)) (s4_cg (s1009.2.1 69 (by decide)) rfl rfl (s4_cg rfl rfl rfl f748)) (ssP_cg rfl rfl (ssP_cg rfl rfl f749)) (thF_cg rfl rfl (thF_cg rfl rfl f750)) ((s1009.2.1 69 (by decide)).trans e751) ((s1009.2.1 77 (by decide)).trans e752) ((s1009.2.1 75 (by decide)).trans e753) ((s1009.2.1 76 (by decide)).trans e754) ((s1009.2.1 33 (by decide)).trans e755) Y S (lv_sub hl [0, 1, 2, 3, 4] rfl)
                      · refine lv_aload_n X.1 X.2.1 d_M_issued_368 rfl (lv_at hl 0 rfl) ?_
                        refine lv_dup X.1 X.2.1 d_M_issued_369 rfl ?_
                        refine r_geti (k := 81) X Y S (by decide) lk_newFlags (gf_newFlags _ _ _) rfl rfl d_M_issued_370 (fun z1011 e1011 l1011 u1011 => ?_)
                        refine lv_iconst (v := iI 3) X.1 X.2.1 d_M_issued_373 (by decide) ?_
                        refine p_calli (As := [.int (iI 3)]) (rest := [.int (iI z1011), .ref h]) (n := 1) X Y hml hl.1 (r_M_bitOf l 3 (by decide) (by decide)) kl_M_bitOf ks_M_bitOf ki_M_bitOf ini_M hd_M_bitOf ⟨Nat.le_of_ble_eq_true rfl, Nat.le_of_ble_eq_true rfl⟩ rfl (Nat.le_of_ble_eq_true rfl) d_M_issued_374 ⟨Nat.le_refl _, Nat.le_refl _⟩ (fun r1012 H locs p1012 Y => ?_)
                        obtain ⟨z1012, e1012, p1012⟩ := p1012
                        subst e1012
                        obtain ⟨l1012, u1012⟩ := p1012
                        refine lv_ior X.1 X.2.1 d_M_issued_377 ?_
                        refine t_u (fun z1013 l1013 u1013 => ?_)
                        refine r_puti (k := 81) X Y S (by decide) lk_newFlags rfl rfl (t_M_ok 81 (by decide)) rfl rfl (sf_newFlags _ _ _ _) (Nat.le_of_ble_eq_true rfl) rfl (show ((-2147483648) : Int) ≤ z1013 by omega) (show z1013 ≤ (2147483647 : Int) by omega) ⟨by omega, by omega⟩ (by decide) d_M_issued_378 (fun I1014 H locs Y S w1014 => ?_)
                        exact J774 I1014 J1009 B743 G1009 _ _ _ (pG1_cg (w1014.2 39 (by decide)) (w1014.2 40 (by decide)) g1009_P1) (pG2_cg rfl rfl (pG2_cg rfl rfl (pG2_cg rfl rfl f745))) (rrP_cg (w1014.2 69 (by decide)) rfl rfl (rrP_cg (s1009.2.1 69 (by decide)) rfl rfl (rrP_cg rfl rfl rfl f746))) (sz3_cg rfl rfl (sz3_cg rfl rfl (sz3_cg rfl rfl f747))) (s4_cg (w1014.2 69 (by decide)) rfl rfl (s4_cg (s1009.2.1 69 (by decide)) rfl rfl (s4_cg rfl rfl rfl f748))) (ssP_cg rfl rfl (ssP_cg rfl rfl (ssP_cg rfl rfl f749))) (thF_cg rfl rfl (thF_cg rfl rfl (thF_cg rfl rfl f750))) ((w1014.2 69 (by decide)).trans ((s1009.2.1 69 (by decide)).trans e751)) ((w1014.2 77 (by decide)).trans ((s1009.2.1 77 (by decide)).trans e752)) ((w1014.2 75 (by decide)).trans ((s1009.2.1 75 (by decide)).trans e753)) ((w1014.2 76 (by decide)).trans ((s1009.2.1 76 (by decide)).trans e754)) ((w1014.2 33 (by decide)).trans ((s1009.2.1 33 (by decide)).trans e755)) Y S (lv_sub hl [0, 1, 2, 3, 4] rfl)
                  refine z_if_eq (tgt := 350) X.1 X.2.1 d_M_issued_325 (by decide) ⟨by omega, by omega⟩ (fun h1015 => ?_) (fun h1015 => ?_)
                  · exact J756 I199 J742 B199 G742 _ _ _ (pG1_cg rfl rfl f201) (pG2_cg rfl rfl f202) (rrP_cg rfl rfl rfl f203) (sz3_cg rfl rfl f204) (s4_cg rfl rfl rfl f205) (ssP_cg rfl rfl f206) (thF_cg rfl rfl f207) e208 e209 e210 e211 e212 Y S (lv_sub hl [1, 2, 4, 5, 0] rfl)
                  · refine lv_aload_n X.1 X.2.1 d_M_issued_328 rfl (lv_at hl 1 rfl) ?_
                    refine lv_iconst (v := iI 2) X.1 X.2.1 d_M_issued_329 (by decide) ?_
                    refine lv_iconst (v := iI 1) X.1 X.2.1 d_M_issued_330 (by decide) ?_
                    refine r_ni (m_run (As := [.int (iI 2), .int (iI 1)]) (rest := []) (n := 2) X Y hZ hA hml hl.1 (r_M_both l D E h q H.size I199 J742 B199 G742 2 (by decide) (by decide) 1 (by decide) (by decide) S.1 cl e210 (by omega) (by omega) sv e211 (by omega) (by omega) (pG1_cg rfl rfl f201) (pG2_cg rfl rfl f202)) kl_M_both ks_M_both kx_M_both ki_M_both ini_M hd_M_both ⟨Nat.le_of_ble_eq_true rfl, Nat.le_of_ble_eq_true rfl⟩ rfl (Nat.le_of_ble_eq_true rfl) d_M_issued_331 ⟨Nat.le_refl _, Nat.le_refl _⟩) X Y hA S (by decide) (by decide) (fun z1016 u H locs Y S s1016 p1016 => ?_)
                    obtain ⟨I1016, J1016, B1016, G1016⟩ := u
                    dsimp only at Y S s1016 p1016
                    have b1016 : B199 = B1016 := (funext (fun j => s1016.2.2 j (by simp))).symm
                    subst b1016
                    obtain ⟨l1016, u1016, g1016_P1⟩ := p1016
                    refine z_if_eq (tgt := 350) X.1 X.2.1 d_M_issued_334 (by decide) ⟨by omega, by omega⟩ (fun h1017 => ?_) (fun h1017 => ?_)
                    · exact J756 I1016 J1016 B199 G1016 _ _ _ g1016_P1 (pG2_cg rfl rfl (pG2_cg rfl rfl f202)) (rrP_cg (s1016.2.1 69 (by decide)) rfl rfl (rrP_cg rfl rfl rfl f203)) (sz3_cg rfl rfl (sz3_cg rfl rfl f204)) (s4_cg (s1016.2.1 69 (by decide)) rfl rfl (s4_cg rfl rfl rfl f205)) (ssP_cg rfl rfl (ssP_cg rfl rfl f206)) (thF_cg rfl rfl (thF_cg rfl rfl f207)) ((s1016.2.1 69 (by decide)).trans e208) ((s1016.2.1 77 (by decide)).trans e209) ((s1016.2.1 75 (by decide)).trans e210) ((s1016.2.1 76 (by decide)).trans e211) ((s1016.2.1 33 (by decide)).trans e212) Y S (lv_sub hl [1, 2, 4, 5, 0] rfl)
                    · refine lv_aload_n X.1 X.2.1 d_M_issued_337 rfl (lv_at hl 1 rfl) ?_
                      refine lv_dup X.1 X.2.1 d_M_issued_338 rfl ?_
                      refine r_geti (k := 81) X Y S (by decide) lk_newFlags (gf_newFlags _ _ _) rfl rfl d_M_issued_339 (fun z1018 e1018 l1018 u1018 => ?_)
                      refine lv_iconst (v := iI 1) X.1 X.2.1 d_M_issued_342 (by decide) ?_
                      refine p_calli (As := [.int (iI 1)]) (rest := [.int (iI z1018), .ref h]) (n := 1) X Y hml hl.1 (r_M_bitOf l 1 (by decide) (by decide)) kl_M_bitOf ks_M_bitOf ki_M_bitOf ini_M hd_M_bitOf ⟨Nat.le_of_ble_eq_true rfl, Nat.le_of_ble_eq_true rfl⟩ rfl (Nat.le_of_ble_eq_true rfl) d_M_issued_343 ⟨Nat.le_refl _, Nat.le_refl _⟩ (fun r1019 H locs p1019 Y => ?_)
                      obtain ⟨z1019, e1019, p1019⟩ := p1019
                      subst e1019
                      obtain ⟨l1019, u1019⟩ := p1019
                      refine lv_ior X.1 X.2.1 d_M_issued_346 ?_
                      refine t_u (fun z1020 l1020 u1020 => ?_)
                      refine r_puti (k := 81) X Y S (by decide) lk_newFlags rfl rfl (t_M_ok 81 (by decide)) rfl rfl (sf_newFlags _ _ _ _) (Nat.le_of_ble_eq_true rfl) rfl (show ((-2147483648) : Int) ≤ z1020 by omega) (show z1020 ≤ (2147483647 : Int) by omega) ⟨by omega, by omega⟩ (by decide) d_M_issued_347 (fun I1021 H locs Y S w1021 => ?_)
                      exact J756 I1021 J1016 B199 G1016 _ _ _ (pG1_cg (w1021.2 39 (by decide)) (w1021.2 40 (by decide)) g1016_P1) (pG2_cg rfl rfl (pG2_cg rfl rfl (pG2_cg rfl rfl f202))) (rrP_cg (w1021.2 69 (by decide)) rfl rfl (rrP_cg (s1016.2.1 69 (by decide)) rfl rfl (rrP_cg rfl rfl rfl f203))) (sz3_cg rfl rfl (sz3_cg rfl rfl (sz3_cg rfl rfl f204))) (s4_cg (w1021.2 69 (by decide)) rfl rfl (s4_cg (s1016.2.1 69 (by decide)) rfl rfl (s4_cg rfl rfl rfl f205))) (ssP_cg rfl rfl (ssP_cg rfl rfl (ssP_cg rfl rfl f206))) (thF_cg rfl rfl (thF_cg rfl rfl (thF_cg rfl rfl f207))) ((w1021.2 69 (by decide)).trans ((s1016.2.1 69 (by decide)).trans e208)) ((w1021.2 77 (by decide)).trans ((s1016.2.1 77 (by decide)).trans e209)) ((w1021.2 75 (by decide)).trans ((s1016.2.1 75 (by decide)).trans e210)) ((w1021.2 76 (by decide)).trans ((s1016.2.1 76 (by decide)).trans e211)) ((w1021.2 33 (by decide)).trans ((s1016.2.1 33 (by decide)).trans e212)) Y S (lv_sub hl [1, 2, 4, 5, 0] rfl)
                · refine lv_aload_n X.1 X.2.1 d_M_issued_275 rfl (lv_at hl 1 rfl) ?_
                  refine lv_aload_n X.1 X.2.1 d_M_issued_276 rfl (lv_at hl 1 rfl) ?_
                  refine lv_iconst (v := iI 4) X.1 X.2.1 d_M_issued_277 (by decide) ?_
                  refine lv_iconst (v := iI 0) X.1 X.2.1 d_M_issued_278 (by decide) ?_
                  refine r_ni (m_run (As := [.int (iI 4), .int (iI 0)]) (rest := [.ref h]) (n := 2) X Y hZ hA hml hl.1 (r_M_flagsAt l D E h q H.size I199 J199 B199 G199 4 (by decide) (by decide) 0 (by decide) (by decide) S.1 f201 f202) kl_M_flagsAt ks_M_flagsAt kx_M_flagsAt ki_M_flagsAt ini_M hd_M_flagsAt ⟨Nat.le_of_ble_eq_true rfl, Nat.le_of_ble_eq_true rfl⟩ rfl (Nat.le_of_ble_eq_true rfl) d_M_issued_279 ⟨Nat.le_refl _, Nat.le_refl _⟩) X Y hA S (by decide) (by decide) (fun z1022 u H locs Y S s1022 p1022 => ?_)
                  obtain ⟨I1022, J1022, B1022, G1022⟩ := u
                  dsimp only at Y S s1022 p1022
                  have b1022 : B199 = B1022 := (funext (fun j => s1022.2.2 j (by simp))).symm
                  subst b1022
                  obtain ⟨l1022, u1022, g1022_P1⟩ := p1022
                  refine lv_bipush (v := iI 9) X.1 X.2.1 d_M_issued_282 (by decide) ?_
                  refine p_calli (As := [.int (iI 9)]) (rest := [.int (iI z1022), .ref h]) (n := 1) X Y hml hl.1 (r_M_bitOf l 9 (by decide) (by decide)) kl_M_bitOf ks_M_bitOf ki_M_bitOf ini_M hd_M_bitOf ⟨Nat.le_of_ble_eq_true rfl, Nat.le_of_ble_eq_true rfl⟩ rfl (Nat.le_of_ble_eq_true rfl) d_M_issued_284 ⟨Nat.le_refl _, Nat.le_refl _⟩ (fun r1023 H locs p1023 Y => ?_)
                  obtain ⟨z1023, e1023, p1023⟩ := p1023
                  subst e1023
                  obtain ⟨l1023, u1023⟩ := p1023
                  refine lv_iconst (v := iI (-1)) X.1 X.2.1 d_M_issued_287 (by decide) ?_
                  refine lv_ixor X.1 X.2.1 d_M_issued_288 ?_
                  refine t_u (fun z1024 l1024 u1024 => ?_)
                  refine lv_iand X.1 X.2.1 d_M_issued_289 ?_
                  refine t_u (fun z1026 l1026 u1026 => ?_)
                  refine r_puti (k := 81) X Y S (by decide) lk_newFlags rfl rfl (t_M_ok 81 (by decide)) rfl rfl (sf_newFlags _ _ _ _) (Nat.le_of_ble_eq_true rfl) rfl (show ((-2147483648) : Int) ≤ z1026 by omega) (show z1026 ≤ (2147483647 : Int) by omega) ⟨by omega, by omega⟩ (by decide) d_M_issued_290 (fun I1027 H locs Y S w1027 => ?_)
                  refine lv_aload_n X.1 X.2.1 d_M_issued_293 rfl (lv_at hl 1 rfl) ?_
                  refine lv_aload_n X.1 X.2.1 d_M_issued_294 rfl (lv_at hl 1 rfl) ?_
                  refine r_get0 X Y (by decide) lk_newFlags (gf_newFlags _ _ _) rfl w1027.1 d_M_issued_295 ?_
                  refine lv_bipush (v := iI 8) X.1 X.2.1 d_M_issued_298 (by decide) ?_
                  refine r_ni (m_run (As := [.int (iI z1026), .int (iI 8)]) (rest := []) (n := 2) X Y hZ hA hml hl.1 (r_M_bit l D E h q H.size I1027 J1022 B199 G1022 z1026 (by omega) (by omega) 8 (by decide) (by decide) S.1) kl_M_bit ks_M_bit kx_M_bit ki_M_bit ini_M hd_M_bit ⟨Nat.le_of_ble_eq_true rfl, Nat.le_of_ble_eq_true rfl⟩ rfl (Nat.le_of_ble_eq_true rfl) d_M_issued_300 ⟨Nat.le_refl _, Nat.le_refl _⟩) X Y hA S (by decide) (by decide) (fun z1028 u H locs Y S s1028 p1028 => ?_)
                  obtain ⟨I1028, J1028, B1028, G1028⟩ := u
                  dsimp only at Y S s1028 p1028
                  have i1028 : I1027 = I1028 := (funext (fun j => s1028.2.1 j (by simp))).symm
                  subst i1028
                  have b1028 : B199 = B1028 := (funext (fun j => s1028.2.2 j (by simp))).symm
                  subst b1028
                  obtain ⟨l1028, u1028⟩ := p1028
                  refine lv_istore (lv' := [(10, .int (iI z1028)), (0, .ref h), (1, .int (iI z101)), (2, .int (iI z103)), (5, .long v129), (7, .long v130)]) X.1 X.2.1 d_M_issued_303 hl (by decide) rfl (fun ls hl => ?_)
                  refine lv_aload_n X.1 X.2.1 d_M_issued_305 rfl (lv_at hl 1 rfl) ?_
                  refine lv_aload_n X.1 X.2.1 d_M_issued_306 rfl (lv_at hl 1 rfl) ?_
                  refine lv_iconst (v := iI 4) X.1 X.2.1 d_M_issued_307 (by decide) ?_
                  refine lv_bipush (v := iI 8) X.1 X.2.1 d_M_issued_308 (by decide) ?_
                  refine r_nl (m_run (As := [.int (iI 4), .int (iI 8)]) (rest := [.ref h]) (n := 2) X Y hZ hA hml hl.1 (r_M_timeOf l D E h q H.size I1027 J1028 B199 G1028 4 (by decide) (by decide) 8 (by decide) (by decide) S.1 (pG1_cg rfl rfl (pG1_cg (w1027.2 39 (by decide)) (w1027.2 40 (by decide)) g1022_P1)) (pG2_cg rfl rfl (pG2_cg rfl rfl (pG2_cg rfl rfl f202)))) kl_M_timeOf ks_M_timeOf kx_M_timeOf ki_M_timeOf ini_M hd_M_timeOf ⟨Nat.le_of_ble_eq_true rfl, Nat.le_of_ble_eq_true rfl⟩ rfl (Nat.le_of_ble_eq_true rfl) d_M_issued_310 ⟨Nat.le_refl _, Nat.le_refl _⟩) X Y hA S (by decide) (by decide) (fun v1029 u H locs Y S s1029 p1029 => ?_)
                  obtain ⟨I1029, J1029, B1029, G1029⟩ := u
                  dsimp only at Y S s1029 p1029
                  have b1029 : B199 = B1029 := (funext (fun j => s1029.2.2 j (by simp))).symm
                  subst b1029
                  have g1029_P1 := p1029
                  refine r_putl X Y (by decide) lk_newRenew rfl rfl (t_M_ok 83 (by decide)) rfl rfl (sf_newRenew _ _ _ _) (Nat.le_of_ble_eq_true rfl) d_M_issued_313 (fun J1030 H locs Y => ?_)
                  refine lv_goto (tgt := 658) X.1 X.2.1 d_M_issued_316 (by decide) ?_
                  exact J231 z1028 I1029 J1030 B199 G1029 _ _ _ (by omega) (by omega) g1029_P1 (pG2_cg rfl rfl (pG2_cg rfl rfl (pG2_cg rfl rfl (pG2_cg rfl rfl f202)))) (rrP_cg (s1029.2.1 69 (by decide)) rfl rfl (rrP_cg rfl rfl rfl (rrP_cg (w1027.2 69 (by decide)) rfl rfl (rrP_cg (s1022.2.1 69 (by decide)) rfl rfl f203)))) (sz3_cg rfl rfl (sz3_cg rfl rfl (sz3_cg rfl rfl (sz3_cg rfl rfl f204)))) (s4_cg (s1029.2.1 69 (by decide)) rfl rfl (s4_cg rfl rfl rfl (s4_cg (w1027.2 69 (by decide)) rfl rfl (s4_cg (s1022.2.1 69 (by decide)) rfl rfl f205)))) (ssP_cg rfl rfl (ssP_cg rfl rfl (ssP_cg rfl rfl (ssP_cg rfl rfl f206)))) (thF_cg rfl rfl (thF_cg rfl rfl (thF_cg rfl rfl (thF_cg rfl rfl f207)))) ((s1029.2.1 69 (by decide)).trans ((w1027.2 69 (by decide)).trans ((s1022.2.1 69 (by decide)).trans e208))) ((s1029.2.1 77 (by decide)).trans ((w1027.2 77 (by decide)).trans ((s1022.2.1 77 (by decide)).trans e209))) ((s1029.2.1 75 (by decide)).trans ((w1027.2 75 (by decide)).trans ((s1022.2.1 75 (by decide)).trans e210))) ((s1029.2.1 76 (by decide)).trans ((w1027.2 76 (by decide)).trans ((s1022.2.1 76 (by decide)).trans e211))) ((s1029.2.1 33 (by decide)).trans ((w1027.2 33 (by decide)).trans ((s1022.2.1 33 (by decide)).trans e212))) Y S (lv_sub hl [1, 2, 0] rfl)
              have J1031 : ∀  (H : Heap) (locs : List Loc) (ls : Array Slot), mH D E (mA E h q sz) s.heap h q I191 J198 B170 G198 H locs → rS [3, 8, 14, 18, 29, 33, 36, 39, 40, 42, 80, 81, 84, 85, 86, 87, 88, 89] [0, 1, 5, 6, 7, 9, 10, 11, 12, 13, 15, 16, 17, 19, 20, 21, 22, 23, 24, 34, 35, 37, 38, 56, 59, 60, 90] I B I191 B170 → lv_has ls 15 [(0, .ref h), (1, .int (iI z101)), (2, .int (iI z103)), (5, .long v129), (7, .long v130)] → W p l e (mR 45 2046) s m AV below meth c H locs 0 0 QQ (F0 m 253 ls []) := by
                intro  H locs ls  Y S hl
                refine lv_aload_n X.1 X.2.1 d_M_issued_253 rfl (lv_at hl 0 rfl) ?_
                refine lv_bipush (v := iI 8) X.1 X.2.1 d_M_issued_254 (by decide) ?_
                refine lv_bipush (v := iI 8) X.1 X.2.1 d_M_issued_256 (by decide) ?_
                refine r_ni (m_run (As := [.int (iI 8), .int (iI 8)]) (rest := []) (n := 2) X Y hZ hA hml hl.1 (r_M_both l D E h q H.size I191 J198 B170 G198 8 (by decide) (by decide) 8 (by decide) (by decide) S.1 cl ((w191.2 75 (by decide)).trans e180) (by omega) (by omega) sv ((w191.2 76 (by decide)).trans e181) (by omega) (by omega) (pG1_cg rfl rfl (pG1_cg rfl rfl (pG1_cg (w191.2 39 (by decide)) (w191.2 40 (by decide)) f171))) (pG2_cg rfl rfl (pG2_cg rfl rfl (pG2_cg rfl rfl f172)))) kl_M_both ks_M_both kx_M_both ki_M_both ini_M hd_M_both ⟨Nat.le_of_ble_eq_true rfl, Nat.le_of_ble_eq_true rfl⟩ rfl (Nat.le_of_ble_eq_true rfl) d_M_issued_258 ⟨Nat.le_refl _, Nat.le_refl _⟩) X Y hA S (by decide) (by decide) (fun z1035 u H locs Y S s1035 p1035 => ?_)
                obtain ⟨I1035, J1035, B1035, G1035⟩ := u
                dsimp only at Y S s1035 p1035
                have b1035 : B170 = B1035 := (funext (fun j => s1035.2.2 j (by simp))).symm
                subst b1035
                obtain ⟨l1035, u1035, g1035_P1⟩ := p1035
                refine z_if_eq (tgt := 268) X.1 X.2.1 d_M_issued_261 (by decide) ⟨by omega, by omega⟩ (fun h1036 => ?_) (fun h1036 => ?_)
                · refine lv_iconst (v := iI 0) X.1 X.2.1 d_M_issued_268 (by decide) ?_
                  exact J213 0 I1035 J1035 B170 G1035 _ _ _ (by omega) (by omega) g1035_P1 (pG2_cg rfl rfl (pG2_cg rfl rfl (pG2_cg rfl rfl (pG2_cg rfl rfl f172)))) (rrP_cg (s1035.2.1 69 (by decide)) rfl rfl (rrP_cg rfl rfl rfl (rrP_cg rfl rfl rfl (rrP_cg (w191.2 69 (by decide)) rfl rfl f173)))) (sz3_cg rfl rfl (sz3_cg rfl rfl (sz3_cg rfl rfl (sz3_cg rfl rfl f174)))) (s4_cg (s1035.2.1 69 (by decide)) rfl rfl (s4_cg rfl rfl rfl (s4_cg rfl rfl rfl (s4_cg (w191.2 69 (by decide)) rfl rfl f175)))) (ssP_cg rfl rfl (ssP_cg rfl rfl (ssP_cg rfl rfl (ssP_cg rfl rfl f176)))) (thF_cg rfl rfl (thF_cg rfl rfl (thF_cg rfl rfl (thF_cg rfl rfl f177)))) ((s1035.2.1 69 (by decide)).trans ((w191.2 69 (by decide)).trans e178)) ((s1035.2.1 77 (by decide)).trans ((w191.2 77 (by decide)).trans e179)) ((s1035.2.1 75 (by decide)).trans ((w191.2 75 (by decide)).trans e180)) ((s1035.2.1 76 (by decide)).trans ((w191.2 76 (by decide)).trans e181)) ((s1035.2.1 33 (by decide)).trans ((w191.2 33 (by decide)).trans e182)) Y S (lv_sub hl [0, 1, 2, 3, 4] rfl)
                · refine lv_iconst (v := iI 1) X.1 X.2.1 d_M_issued_264 (by decide) ?_
                  refine lv_goto (tgt := 269) X.1 X.2.1 d_M_issued_265 (by decide) ?_
                  exact J213 1 I1035 J1035 B170 G1035 _ _ _ (by omega) (by omega) g1035_P1 (pG2_cg rfl rfl (pG2_cg rfl rfl (pG2_cg rfl rfl (pG2_cg rfl rfl f172)))) (rrP_cg (s1035.2.1 69 (by decide)) rfl rfl (rrP_cg rfl rfl rfl (rrP_cg rfl rfl rfl (rrP_cg (w191.2 69 (by decide)) rfl rfl f173)))) (sz3_cg rfl rfl (sz3_cg rfl rfl (sz3_cg rfl rfl (sz3_cg rfl rfl f174)))) (s4_cg (s1035.2.1 69 (by decide)) rfl rfl (s4_cg rfl rfl rfl (s4_cg rfl rfl rfl (s4_cg (w191.2 69 (by decide)) rfl rfl f175)))) (ssP_cg rfl rfl (ssP_cg rfl rfl (ssP_cg rfl rfl (ssP_cg rfl rfl f176)))) (thF_cg rfl rfl (thF_cg rfl rfl (thF_cg rfl rfl (thF_cg rfl rfl f177)))) ((s1035.2.1 69 (by decide)).trans ((w191.2 69 (by decide)).trans e178)) ((s1035.2.1 77 (by decide)).trans ((w191.2 77 (by decide)).trans e179)) ((s1035.2.1 75 (by decide)).trans ((w191.2 75 (by decide)).trans e180)) ((s1035.2.1 76 (by decide)).trans ((w191.2 76 (by decide)).trans e181)) ((s1035.2.1 33 (by decide)).trans ((w191.2 33 (by decide)).trans e182)) Y S (lv_sub hl [0, 1, 2, 3, 4] rfl)
              refine z_if_ne (tgt := 253) X.1 X.2.1 d_M_issued_245 (by decide) ⟨by omega, by omega⟩ (fun h1037 => ?_) (fun h1037 => ?_)
              · exact J1031  _ _ _  Y S (lv_sub hl [1, 2, 3, 4, 5] rfl)
              · refine lv_iload X.1 X.2.1 d_M_issued_248 (lv_at hl 0 rfl) ?_
                refine z_if_eq (tgt := 268) X.1 X.2.1 d_M_issued_250 (by decide) ⟨by omega, by omega⟩ (fun h1038 => ?_) (fun h1038 => ?_)
                · refine lv_iconst (v := iI 0) X.1 X.2.1 d_M_issued_268 (by decide) ?_
                  exact J213 0 I191 J198 B170 G198 _ _ _ (by omega) (by omega) (pG1_cg rfl rfl (pG1_cg rfl rfl (pG1_cg (w191.2 39 (by decide)) (w191.2 40 (by decide)) f171))) (pG2_cg rfl rfl (pG2_cg rfl rfl (pG2_cg rfl rfl f172))) (rrP_cg rfl rfl rfl (rrP_cg rfl rfl rfl (rrP_cg (w191.2 69 (by decide)) rfl rfl f173))) (sz3_cg rfl rfl (sz3_cg rfl rfl (sz3_cg rfl rfl f174))) (s4_cg rfl rfl rfl (s4_cg rfl rfl rfl (s4_cg (w191.2 69 (by decide)) rfl rfl f175))) (ssP_cg rfl rfl (ssP_cg rfl rfl (ssP_cg rfl rfl f176))) (thF_cg rfl rfl (thF_cg rfl rfl (thF_cg rfl rfl f177))) ((w191.2 69 (by decide)).trans e178) ((w191.2 77 (by decide)).trans e179) ((w191.2 75 (by decide)).trans e180) ((w191.2 76 (by decide)).trans e181) ((w191.2 33 (by decide)).trans e182) Y S (lv_sub hl [1, 2, 3, 4, 5] rfl)
                · exact J1031  _ _ _  Y S (lv_sub hl [1, 2, 3, 4, 5] rfl)
            refine z_if_eq (tgt := 235) X.1 X.2.1 d_M_issued_211 (by decide) ⟨by omega, by omega⟩ (fun h1039 => ?_) (fun h1039 => ?_)
            · refine lv_iconst (v := iI 0) X.1 X.2.1 d_M_issued_235 (by decide) ?_
              exact J194 0 _ _ _ (by omega) (by omega) Y S (lv_sub hl [0, 1, 2, 3, 4] rfl)
            · refine lv_lload X.1 X.2.1 d_M_issued_214 (lv_at hl 4 rfl) ?_
              refine lv_lconst (v := 0) X.1 X.2.1 d_M_issued_216 rfl ?_
              refine W.lcmp X.1 X.2.1 d_M_issued_217 ?_
              refine t_u (fun z1040 l1040 u1040 => ?_)
              refine z_if_eq (tgt := 231) X.1 X.2.1 d_M_issued_218 (by decide) ⟨by omega, by omega⟩ (fun h1041 => ?_) (fun h1041 => ?_)
              · refine lv_iconst (v := iI 1) X.1 X.2.1 d_M_issued_231 (by decide) ?_
                refine lv_goto (tgt := 236) X.1 X.2.1 d_M_issued_232 (by decide) ?_
                exact J194 1 _ _ _ (by omega) (by omega) Y S (lv_sub hl [0, 1, 2, 3, 4] rfl)
              · refine lv_lload X.1 X.2.1 d_M_issued_221 (lv_at hl 4 rfl) ?_
                refine lv_aload_n X.1 X.2.1 d_M_issued_223 rfl (lv_at hl 0 rfl) ?_
                refine m_get X Y 82 (by decide) lk_newEnd (gf_newEnd _ _ _) rfl d_M_issued_224 ?_
                refine W.lcmp X.1 X.2.1 d_M_issued_227 ?_
                refine t_u (fun z1042 l1042 u1042 => ?_)
                refine z_if_le (tgt := 235) X.1 X.2.1 d_M_issued_228 (by decide) ⟨by omega, by omega⟩ (fun h1043 => ?_) (fun h1043 => ?_)
                · refine lv_iconst (v := iI 0) X.1 X.2.1 d_M_issued_235 (by decide) ?_
                  exact J194 0 _ _ _ (by omega) (by omega) Y S (lv_sub hl [0, 1, 2, 3, 4] rfl)
                · refine lv_iconst (v := iI 1) X.1 X.2.1 d_M_issued_231 (by decide) ?_
                  refine lv_goto (tgt := 236) X.1 X.2.1 d_M_issued_232 (by decide) ?_
                  exact J194 1 _ _ _ (by omega) (by omega) Y S (lv_sub hl [0, 1, 2, 3, 4] rfl)
          · refine lv_bipush (v := iI 11) X.1 X.2.1 d_M_issued_196 (by decide) ?_
            exact m_reti hQQ X Y hr hlk ⟨S, 11, rfl, ⟨by omega, by omega, ⟨cn, e182, by omega, by omega⟩, f171, f172, f177⟩⟩ d_M_issued_198
        refine z_if_eq (tgt := 183) X.1 X.2.1 d_M_issued_144 (by decide) ⟨by omega, by omega⟩ (fun h1044 => ?_) (fun h1044 => ?_)
        · exact J183 I153 J153 B153 G153 _ _ _ f154 f155 f156 f157 f158 f159 f160 e161 e162 e163 e164 e165 Y S (lv_sub hl [0, 1, 2, 3, 4] rfl)
        · refine lv_aload_n X.1 X.2.1 d_M_issued_147 rfl (lv_at hl 0 rfl) ?_
          refine lv_aload_n X.1 X.2.1 d_M_issued_148 rfl (lv_at hl 0 rfl) ?_
          refine r_geti (k := 4) X Y S (by decide) lk_now (gf_now _ _ _) rfl rfl d_M_issued_149 (fun z1045 e1045 l1045 u1045 => ?_)
          refine lv_i2l X.1 X.2.1 d_M_issued_152 rfl ?_
          refine t_anyl (fun v1046 => ?_)
          refine lv_aload_n X.1 X.2.1 d_M_issued_153 rfl (lv_at hl 0 rfl) ?_
          refine lv_iconst (v := iI 4) X.1 X.2.1 d_M_issued_154 (by decide) ?_
          refine lv_bipush (v := iI 7) X.1 X.2.1 d_M_issued_155 (by decide) ?_
          refine r_nl (m_run (As := [.int (iI 4), .int (iI 7)]) (rest := [.long v1046, .ref h]) (n := 2) X Y hZ hA hml hl.1 (r_M_timeOf l D E h q H.size I153 J153 B153 G153 4 (by decide) (by decide) 7 (by decide) (by decide) S.1 f154 f155) kl_M_timeOf ks_M_timeOf kx_M_timeOf ki_M_timeOf ini_M hd_M_timeOf ⟨Nat.le_of_ble_eq_true rfl, Nat.le_of_ble_eq_true rfl⟩ rfl (Nat.le_of_ble_eq_true rfl) d_M_issued_157 ⟨Nat.le_refl _, Nat.le_refl _⟩) X Y hA S (by decide) (by decide) (fun v1047 u H locs Y S s1047 p1047 => ?_)
          obtain ⟨I1047, J1047, B1047, G1047⟩ := u
          dsimp only at Y S s1047 p1047
          have b1047 : B153 = B1047 := (funext (fun j => s1047.2.2 j (by simp))).symm
          subst b1047
          have g1047_P1 := p1047
          refine lv_ladd X.1 X.2.1 d_M_issued_160 ?_
          refine t_anyl (fun v1048 => ?_)
          refine lv_aload_n X.1 X.2.1 d_M_issued_161 rfl (lv_at hl 0 rfl) ?_
          refine lv_iconst (v := iI 4) X.1 X.2.1 d_M_issued_162 (by decide) ?_
          refine lv_bipush (v := iI 6) X.1 X.2.1 d_M_issued_163 (by decide) ?_
          refine lv_iconst (v := iI 5) X.1 X.2.1 d_M_issued_165 (by decide) ?_
          refine r_nl (m_run (As := [.int (iI 4), .int (iI 6), .int (iI 5)]) (rest := [.long v1048, .ref h]) (n := 3) X Y hZ hA hml hl.1 (r_M_startOf l D E h q H.size I1047 J1047 B153 G1047 4 (by decide) (by decide) 6 (by decide) (by decide) 5 (by decide) (by decide) S.1 g1047_P1 (pG2_cg rfl rfl f155)) kl_M_startOf ks_M_startOf kx_M_startOf ki_M_startOf ini_M hd_M_startOf ⟨Nat.le_of_ble_eq_true rfl, Nat.le_of_ble_eq_true rfl⟩ rfl (Nat.le_of_ble_eq_true rfl) d_M_issued_166 ⟨Nat.le_refl _, Nat.le_refl _⟩) X Y hA S (by decide) (by decide) (fun v1049 u H locs Y S s1049 p1049 => ?_)
          obtain ⟨I1049, J1049, B1049, G1049⟩ := u
          dsimp only at Y S s1049 p1049
          have b1049 : B153 = B1049 := (funext (fun j => s1049.2.2 j (by simp))).symm
          subst b1049
          have g1049_P1 := p1049
          refine lv_lsub X.1 X.2.1 d_M_issued_169 ?_
          refine t_anyl (fun v1050 => ?_)
          refine lv_aload_n X.1 X.2.1 d_M_issued_170 rfl (lv_at hl 0 rfl) ?_
          refine lv_iconst (v := iI 4) X.1 X.2.1 d_M_issued_171 (by decide) ?_
          refine lv_bipush (v := iI 8) X.1 X.2.1 d_M_issued_172 (by decide) ?_
          refine r_nl (m_run (As := [.int (iI 4), .int (iI 8)]) (rest := [.long v1050, .ref h]) (n := 2) X Y hZ hA hml hl.1 (r_M_timeOf l D E h q H.size I1049 J1049 B153 G1049 4 (by decide) (by decide) 8 (by decide) (by decide) S.1 g1049_P1 (pG2_cg rfl rfl (pG2_cg rfl rfl f155))) kl_M_timeOf ks_M_timeOf kx_M_timeOf ki_M_timeOf ini_M hd_M_timeOf ⟨Nat.le_of_ble_eq_true rfl, Nat.le_of_ble_eq_true rfl⟩ rfl (Nat.le_of_ble_eq_true rfl) d_M_issued_174 ⟨Nat.le_refl _, Nat.le_refl _⟩) X Y hA S (by decide) (by decide) (fun v1051 u H locs Y S s1051 p1051 => ?_)
          obtain ⟨I1051, J1051, B1051, G1051⟩ := u
          dsimp only at Y S s1051 p1051
          have b1051 : B153 = B1051 := (funext (fun j => s1051.2.2 j (by simp))).symm
          subst b1051
          have g1051_P1 := p1051
          refine p_calll (As := [.long v1050, .long v1051]) (rest := [.ref h]) (n := 2) X Y hml hl.1 (r_M_lesser l v1050 v1051) kl_M_lesser ks_M_lesser ki_M_lesser ini_M hd_M_lesser ⟨Nat.le_of_ble_eq_true rfl, Nat.le_of_ble_eq_true rfl⟩ rfl (Nat.le_of_ble_eq_true rfl) d_M_issued_177 ⟨Nat.le_refl _, Nat.le_refl _⟩ (fun v1052 H locs p1052 Y => ?_)
          refine r_putl X Y (by decide) lk_newEnd rfl rfl (t_M_ok 82 (by decide)) rfl rfl (sf_newEnd _ _ _ _) (Nat.le_of_ble_eq_true rfl) d_M_issued_180 (fun J1053 H locs Y => ?_)
          exact J183 I1051 J1053 B153 G1051 _ _ _ g1051_P1 (pG2_cg rfl rfl (pG2_cg rfl rfl (pG2_cg rfl rfl f155))) (rrP_cg (s1051.2.1 69 (by decide)) rfl rfl (rrP_cg (s1049.2.1 69 (by decide)) rfl rfl (rrP_cg (s1047.2.1 69 (by decide)) rfl rfl f156))) (sz3_cg rfl rfl (sz3_cg rfl rfl (sz3_cg rfl rfl f157))) (s4_cg (s1051.2.1 69 (by decide)) rfl rfl (s4_cg (s1049.2.1 69 (by decide)) rfl rfl (s4_cg (s1047.2.1 69 (by decide)) rfl rfl f158))) (ssP_cg rfl rfl (ssP_cg rfl rfl (ssP_cg rfl rfl f159))) (thF_cg rfl rfl (thF_cg rfl rfl (thF_cg rfl rfl f160))) ((s1051.2.1 69 (by decide)).trans ((s1049.2.1 69 (by decide)).trans ((s1047.2.1 69 (by decide)).trans e161))) ((s1051.2.1 77 (by decide)).trans ((s1049.2.1 77 (by decide)).trans ((s1047.2.1 77 (by decide)).trans e162))) ((s1051.2.1 75 (by decide)).trans ((s1049.2.1 75 (by decide)).trans ((s1047.2.1 75 (by decide)).trans e163))) ((s1051.2.1 76 (by decide)).trans ((s1049.2.1 76 (by decide)).trans ((s1047.2.1 76 (by decide)).trans e164))) ((s1051.2.1 33 (by decide)).trans ((s1049.2.1 33 (by decide)).trans ((s1047.2.1 33 (by decide)).trans e165))) Y S (lv_sub hl [0, 1, 2, 3, 4] rfl)
      refine z_if_ne (tgt := 143) X.1 X.2.1 d_M_issued_122 (by decide) ⟨by omega, by omega⟩ (fun h1054 => ?_) (fun h1054 => ?_)
      · exact J166 I136 J136 B136 G136 _ _ _ f137 f138 f139 f140 f141 f142 f143 e144 e145 e146 e147 e148 Y S (lv_sub hl [0, 1, 2, 3, 4] rfl)
      · refine lv_aload_n X.1 X.2.1 d_M_issued_125 rfl (lv_at hl 0 rfl) ?_
        refine lv_aload_n X.1 X.2.1 d_M_issued_126 rfl (lv_at hl 0 rfl) ?_
        refine m_get X Y 82 (by decide) lk_newEnd (gf_newEnd _ _ _) rfl d_M_issued_127 ?_
        refine lv_aload_n X.1 X.2.1 d_M_issued_130 rfl (lv_at hl 0 rfl) ?_
        refine lv_iconst (v := iI 4) X.1 X.2.1 d_M_issued_131 (by decide) ?_
        refine lv_bipush (v := iI 7) X.1 X.2.1 d_M_issued_132 (by decide) ?_
        refine r_nl (m_run (As := [.int (iI 4), .int (iI 7)]) (rest := [.long ((J136 82)), .ref h]) (n := 2) X Y hZ hA hml hl.1 (r_M_timeOf l D E h q H.size I136 J136 B136 G136 4 (by decide) (by decide) 7 (by decide) (by decide) S.1 f137 f138) kl_M_timeOf ks_M_timeOf kx_M_timeOf ki_M_timeOf ini_M hd_M_timeOf ⟨Nat.le_of_ble_eq_true rfl, Nat.le_of_ble_eq_true rfl⟩ rfl (Nat.le_of_ble_eq_true rfl) d_M_issued_134 ⟨Nat.le_refl _, Nat.le_refl _⟩) X Y hA S (by decide) (by decide) (fun v1055 u H locs Y S s1055 p1055 => ?_)
        obtain ⟨I1055, J1055, B1055, G1055⟩ := u
        dsimp only at Y S s1055 p1055
        have b1055 : B136 = B1055 := (funext (fun j => s1055.2.2 j (by simp))).symm
        subst b1055
        have g1055_P1 := p1055
        refine p_calll (As := [.long ((J136 82)), .long v1055]) (rest := [.ref h]) (n := 2) X Y hml hl.1 (r_M_lesser l ((J136 82)) v1055) kl_M_lesser ks_M_lesser ki_M_lesser ini_M hd_M_lesser ⟨Nat.le_of_ble_eq_true rfl, Nat.le_of_ble_eq_true rfl⟩ rfl (Nat.le_of_ble_eq_true rfl) d_M_issued_137 ⟨Nat.le_refl _, Nat.le_refl _⟩ (fun v1056 H locs p1056 Y => ?_)
        refine r_putl X Y (by decide) lk_newEnd rfl rfl (t_M_ok 82 (by decide)) rfl rfl (sf_newEnd _ _ _ _) (Nat.le_of_ble_eq_true rfl) d_M_issued_140 (fun J1057 H locs Y => ?_)
        exact J166 I1055 J1057 B136 G1055 _ _ _ g1055_P1 (pG2_cg rfl rfl f138) (rrP_cg (s1055.2.1 69 (by decide)) rfl rfl f139) (sz3_cg rfl rfl f140) (s4_cg (s1055.2.1 69 (by decide)) rfl rfl f141) (ssP_cg rfl rfl f142) (thF_cg rfl rfl f143) ((s1055.2.1 69 (by decide)).trans e144) ((s1055.2.1 77 (by decide)).trans e145) ((s1055.2.1 75 (by decide)).trans e146) ((s1055.2.1 76 (by decide)).trans e147) ((s1055.2.1 33 (by decide)).trans e148) Y S (lv_sub hl [0, 1, 2, 3, 4] rfl)
    refine z_if_eq (tgt := 118) X.1 X.2.1 d_M_issued_102 (by decide) ⟨by omega, by omega⟩ (fun h1058 => ?_) (fun h1058 => ?_)
    · exact J149 I130 J134 B102 G130 _ _ _ g130_P1 (pG2_cg rfl rfl f105) (rrP_cg (s130.2.1 69 (by decide)) rfl rfl f106) (sz3_cg rfl rfl f107) (s4_cg (s130.2.1 69 (by decide)) rfl rfl f108) (ssP_cg rfl rfl f109) (thF_cg rfl rfl f110) ((s130.2.1 69 (by decide)).trans e111) ((s130.2.1 77 (by decide)).trans e112) ((s130.2.1 75 (by decide)).trans e113) ((s130.2.1 76 (by decide)).trans e114) ((s130.2.1 33 (by decide)).trans e115) Y S (lv_sub hl [4, 5, 3, 1, 0] rfl)
    · refine lv_aload_n X.1 X.2.1 d_M_issued_105 rfl (lv_at hl 4 rfl) ?_
      refine lv_aload_n X.1 X.2.1 d_M_issued_106 rfl (lv_at hl 4 rfl) ?_
      refine m_get X Y 82 (by decide) lk_newEnd (gf_newEnd _ _ _) rfl d_M_issued_107 ?_
      refine lv_lload X.1 X.2.1 d_M_issued_110 (lv_at hl 0 rfl) ?_
      refine p_calll (As := [.long ((J134 82)), .long v130]) (rest := [.ref h]) (n := 2) X Y hml hl.1 (r_M_lesser l ((J134 82)) v130) kl_M_lesser ks_M_lesser ki_M_lesser ini_M hd_M_lesser ⟨Nat.le_of_ble_eq_true rfl, Nat.le_of_ble_eq_true rfl⟩ rfl (Nat.le_of_ble_eq_true rfl) d_M_issued_112 ⟨Nat.le_refl _, Nat.le_refl _⟩ (fun v1059 H locs p1059 Y => ?_)
      refine r_putl X Y (by decide) lk_newEnd rfl rfl (t_M_ok 82 (by decide)) rfl rfl (sf_newEnd _ _ _ _) (Nat.le_of_ble_eq_true rfl) d_M_issued_115 (fun J1060 H locs Y => ?_)
      exact J149 I130 J1060 B102 G130 _ _ _ g130_P1 (pG2_cg rfl rfl f105) (rrP_cg (s130.2.1 69 (by decide)) rfl rfl f106) (sz3_cg rfl rfl f107) (s4_cg (s130.2.1 69 (by decide)) rfl rfl f108) (ssP_cg rfl rfl f109) (thF_cg rfl rfl f110) ((s130.2.1 69 (by decide)).trans e111) ((s130.2.1 77 (by decide)).trans e112) ((s130.2.1 75 (by decide)).trans e113) ((s130.2.1 76 (by decide)).trans e114) ((s130.2.1 33 (by decide)).trans e115) Y S (lv_sub hl [4, 5, 3, 1, 0] rfl)
  refine z_if_ne (tgt := 28) X.1 X.2.1 d_M_issued_11 (by decide) ⟨by omega, by omega⟩ (fun h1061 => ?_) (fun h1061 => ?_)
  · refine lv_iconst (v := iI 0) X.1 X.2.1 d_M_issued_28 (by decide) ?_
    exact J116 0 I101 J101 B G101 _ _ _ (by omega) (by omega) g101_P1 (pG2_cg rfl rfl f_P2) (rrP_cg (s101.2.1 69 (by decide)) rfl rfl f_RR) (sz3_cg rfl rfl f_S1) (s4_cg (s101.2.1 69 (by decide)) rfl rfl f_S4) (ssP_cg rfl rfl f_SS) (thF_cg rfl rfl thF_rf) ((s101.2.1 69 (by decide)).trans gia) ((s101.2.1 77 (by decide)).trans gty) ((s101.2.1 75 (by decide)).trans gcl) ((s101.2.1 76 (by decide)).trans gsv) ((s101.2.1 33 (by decide)).trans gcn) Y S (lv_sub hl [1, 0] rfl)
  · refine lv_aload_n X.1 X.2.1 d_M_issued_14 rfl (lv_at hl 1 rfl) ?_
    refine lv_iload_n X.1 X.2.1 d_M_issued_15 rfl (lv_at hl 0 rfl) ?_
    refine lv_bipush (v := iI 30) X.1 X.2.1 d_M_issued_16 (by decide) ?_
    refine r_ni (m_run (As := [.int (iI z101), .int (iI 30)]) (rest := []) (n := 2) X Y hZ hA hml hl.1 (r_M_bit l D E h q H.size I101 J101 B G101 z101 (by omega) (by omega) 30 (by decide) (by decide) S.1) kl_M_bit ks_M_bit kx_M_bit ki_M_bit ini_M hd_M_bit ⟨Nat.le_of_ble_eq_true rfl, Nat.le_of_ble_eq_true rfl⟩ rfl (Nat.le_of_ble_eq_true rfl) d_M_issued_18 ⟨Nat.le_refl _, Nat.le_refl _⟩) X Y hA S (by decide) (by decide) (fun z1062 u H locs Y S s1062 p1062 => ?_)
    obtain ⟨I1062, J1062, B1062, G1062⟩ := u
    dsimp only at Y S s1062 p1062
    have i1062 : I101 = I1062 := (funext (fun j => s1062.2.1 j (by simp))).symm
    subst i1062
    have b1062 : B = B1062 := (funext (fun j => s1062.2.2 j (by simp))).symm
    subst b1062
    obtain ⟨l1062, u1062⟩ := p1062
    refine z_if_eq (tgt := 28) X.1 X.2.1 d_M_issued_21 (by decide) ⟨by omega, by omega⟩ (fun h1063 => ?_) (fun h1063 => ?_)
    · refine lv_iconst (v := iI 0) X.1 X.2.1 d_M_issued_28 (by decide) ?_
      exact J116 0 I101 J1062 B G1062 _ _ _ (by omega) (by omega) (pG1_cg rfl rfl g101_P1) (pG2_cg rfl rfl (pG2_cg rfl rfl f_P2)) (rrP_cg rfl rfl rfl (rrP_cg (s101.2.1 69 (by decide)) rfl rfl f_RR)) (sz3_cg rfl rfl (sz3_cg rfl rfl f_S1)) (s4_cg rfl rfl rfl (s4_cg (s101.2.1 69 (by decide)) rfl rfl f_S4)) (ssP_cg rfl rfl (ssP_cg rfl rfl f_SS)) (thF_cg rfl rfl (thF_cg rfl rfl thF_rf)) ((s101.2.1 69 (by decide)).trans gia) ((s101.2.1 77 (by decide)).trans gty) ((s101.2.1 75 (by decide)).trans gcl) ((s101.2.1 76 (by decide)).trans gsv) ((s101.2.1 33 (by decide)).trans gcn) Y S (lv_sub hl [1, 0] rfl)
    · refine lv_iconst (v := iI 1) X.1 X.2.1 d_M_issued_24 (by decide) ?_
      refine lv_goto (tgt := 29) X.1 X.2.1 d_M_issued_25 (by decide) ?_
      exact J116 1 I101 J1062 B G1062 _ _ _ (by omega) (by omega) (pG1_cg rfl rfl g101_P1) (pG2_cg rfl rfl (pG2_cg rfl rfl f_P2)) (rrP_cg rfl rfl rfl (rrP_cg (s101.2.1 69 (by decide)) rfl rfl f_RR)) (sz3_cg rfl rfl (sz3_cg rfl rfl f_S1)) (s4_cg rfl rfl rfl (s4_cg (s101.2.1 69 (by decide)) rfl rfl f_S4)) (ssP_cg rfl rfl (ssP_cg rfl rfl f_SS)) (thF_cg rfl rfl (thF_cg rfl rfl thF_rf)) ((s101.2.1 69 (by decide)).trans gia) ((s101.2.1 77 (by decide)).trans gty) ((s101.2.1 75 (by decide)).trans gcl) ((s101.2.1 76 (by decide)).trans gsv) ((s101.2.1 33 (by decide)).trans gcn) Y S (lv_sub hl [1, 0] rfl)
