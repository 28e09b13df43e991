set_option maxHeartbeats 40000000 in
set_option maxRecDepth 100000 in
theorem r_M_further (l : Launch) (D : mD) (E : mE) (h : Nat) (q : Nat → Nat) (sz : Nat) (I : Nat → Int32) (J : Nat → Int64) (B : Nat → Nat → Int32) (G : Nat → Nat → Int64) (hT : rT I B) (cn : Int) (gcn : I 33 = iI cn) (lcn : 0 ≤ cn) (ucn : cn ≤ 1900000) (f_P1 : pG1 I) (f_P2 : pG2 (B 37) (B 38)) (f_R3 : rwO (16 * 0 + 3 : Int).toNat (B 37) (B 38) (B 0)) (f_R24 : rwA (16 * 1 + 8 : Int).toNat (B 37) (B 38) (B 0)) (f_S1 : sz3 (16 * 1 + 1 : Int).toNat (16 * 1 + 3 : Int).toNat (16 * 1 + 9 : Int).toNat (B 37) (B 38)) (f_HD : hD I) : Met l y_M_further (k_M_further :: lw_tg) (mR 46 2080) (va_Pc [.ref h] (mPre D E h q (I, J, B, G) sz)) (va_Qi (rPi [3, 8, 14, 18, 29, 33, 36, 39, 40, 42, 54, 73, 74, 75, 76, 77, 79, 80, 81, 84, 85, 86, 87, 88, 89] [0, 1, 5, 6, 7, 9, 10, 11, 12, 13, 15, 16, 17, 19, 20, 21, 22, 23, 24, 34, 35, 37, 38, 53, 56, 58, 59, 60, 61, 62, 63, 64, 90] I B (fun (z : Int) (u : mS) => 0 ≤ z ∧ z ≤ 60 ∧ (∃ V2 : Int, u.1 33 = iI V2 ∧ cn ≤ V2 ∧ V2 ≤ cn + 1000) ∧ pG1 u.1 ∧ pG2 (u.2.2.1 37) (u.2.2.1 38) ∧ hD u.1)) (mPost D E h q (mA E h q sz)) (mA E h q sz)) 0 0 (mA E h q sz) := by
  refine m_enter (by decide) rfl (Nat.le_of_ble_eq_true rfl) (fun p e s m below meth c ls AV QQ H locs hQQ X Y hZ hA hr hlk hml hl => ?_)
  have Y : mH D E (mA E h q sz) s.heap h q I J B G H locs := Y
  have S : rS [3, 8, 14, 18, 29, 33, 36, 39, 40, 42, 54, 73, 74, 75, 76, 77, 79, 80, 81, 84, 85, 86, 87, 88, 89] [0, 1, 5, 6, 7, 9, 10, 11, 12, 13, 15, 16, 17, 19, 20, 21, 22, 23, 24, 34, 35, 37, 38, 53, 56, 58, 59, 60, 61, 62, 63, 64, 90] I B I B := rS_rf hT
  have hl : lv_has ls 6 [(0, .ref h)] := hl
  refine lv_aload_n X.1 X.2.1 d_M_further_0 rfl (lv_at hl 0 rfl) ?_
  refine lv_iconst (v := iI 1) X.1 X.2.1 d_M_further_1 (by decide) ?_
  refine r_ni (m_run (As := [.int (iI 1)]) (rest := []) (n := 1) X Y hZ hA hml hl.1 (r_M_padata l D E h q H.size I J B G 1 (by decide) (by decide) S.1 f_P1 f_P2 f_R3) kl_M_padata ks_M_padata kx_M_padata ki_M_padata ini_M hd_M_padata ⟨Nat.le_of_ble_eq_true rfl, Nat.le_of_ble_eq_true rfl⟩ rfl (Nat.le_of_ble_eq_true rfl) d_M_further_2 ⟨Nat.le_refl _, Nat.le_refl _⟩) X Y hA S (by decide) (by decide) (fun z101 u H locs Y S s101 p101 => ?_)
  obtain ⟨I101, J101, B101, G101⟩ := u
  dsimp only at Y S s101 p101
  obtain ⟨l101, u101, g101_P1, g101_P2, g101_TF⟩ := p101
  have f102 : rwO (16 * 0 + 3 : Int).toNat (B101 37) (B101 38) (B101 0) := (rwO_cg (s101.2.2 0 (by decide)) rfl rfl (rwO_T g101_TF (by decide) (by decide) f_R3))
  have f103 : rwA (16 * 1 + 8 : Int).toNat (B101 37) (B101 38) (B101 0) := (rwA_cg (s101.2.2 0 (by decide)) rfl rfl (rwA_T g101_TF (by decide) (by decide) f_R24))
  have f104 : sz3 (16 * 1 + 1 : Int).toNat (16 * 1 + 3 : Int).toNat (16 * 1 + 9 : Int).toNat (B101 37) (B101 38) := sz3_T g101_TF (by decide) (by decide) f_S1
  refine z_if_ne (tgt := 11) X.1 X.2.1 d_M_further_5 (by decide) ⟨by omega, by omega⟩ (fun h105 => ?_) (fun h105 => ?_)
  · as_aux_lemma =>
      refine lv_aload_n X.1 X.2.1 d_M_further_11 rfl (lv_at hl 0 rfl) ?_
      obtain ⟨x106, y106, ex106, ey106, lx106, ly106, uy106, dy106⟩ := g101_P1
      refine r_get0 X Y (by decide) lk_inside (gf_inside _ _ _) rfl ex106 d_M_further_12 ?_
      refine lv_istore_n (lv' := [(1, .int (iI x106)), (0, .ref h)]) X.1 X.2.1 d_M_further_15 rfl hl (by decide) rfl (fun ls hl => ?_)
      refine lv_aload_n X.1 X.2.1 d_M_further_16 rfl (lv_at hl 1 rfl) ?_
      refine r_get0 X Y (by decide) lk_behind (gf_behind _ _ _) rfl ey106 d_M_further_17 ?_
      refine lv_istore_n (lv' := [(2, .int (iI y106)), (1, .int (iI x106)), (0, .ref h)]) X.1 X.2.1 d_M_further_20 rfl hl (by decide) rfl (fun ls hl => ?_)
      refine lv_aload_n X.1 X.2.1 d_M_further_21 rfl (lv_at hl 2 rfl) ?_
      refine lv_bipush (v := iI 14) X.1 X.2.1 d_M_further_22 (by decide) ?_
      refine m_ldcSW (i := 14) X (by decide) (by decide) d_M_further_24 ?_
      refine lv_iload_n X.1 X.2.1 d_M_further_27 rfl (lv_at hl 1 rfl) ?_
      refine lv_iload_n X.1 X.2.1 d_M_further_28 rfl (lv_at hl 0 rfl) ?_
      refine lv_iconst (v := iI 2) X.1 X.2.1 d_M_further_29 (by decide) ?_
      refine r_ni (m_run (As := [.int (iI 14), .ref ((D.2.1 14)), .int (iI x106), .int (iI y106), .int (iI 2)]) (rest := []) (n := 5) X Y hZ hA hml hl.1 (r_M_applied_t l D E h q H.size I101 J101 B101 G101 14 (by decide) (by decide) 14 (show 14 < nZ by decide) x106 (by omega) (by omega) y106 (by omega) (by omega) 2 (by decide) (by decide) S.1 5 (B101 0) rfl (isF (B101 0) 5) (by decide) (hisU (show rki 14 ≤ 5 by decide)) (show pG1 I101 from ⟨x106, y106, ex106, ey106, by omega, by omega, by omega, by omega⟩) g101_P2 (by omega) (by omega)) kl_M_applied ks_M_applied kx_M_applied ki_M_applied ini_M hd_M_applied ⟨Nat.le_of_ble_eq_true rfl, Nat.le_of_ble_eq_true rfl⟩ rfl (Nat.le_of_ble_eq_true rfl) d_M_further_30 ⟨Nat.le_refl _, Nat.le_refl _⟩) X Y hA S (by decide) (by decide) (fun z107 u H locs Y S s107 p107 => ?_)
      obtain ⟨I107, J107, B107, G107⟩ := u
      dsimp only at Y S s107 p107
      obtain ⟨l107, u107, x107, st107, g107_P1, g107_P2⟩ := p107
      have g107_TF : thF [2] (B101 37) (B101 38) (B107 37) (B107 38) := thF_of st107.1
      have f108 : rwO (16 * 0 + 3 : Int).toNat (B107 37) (B107 38) (B107 0) := (rwO_cg (s107.2.2 0 (by decide)) rfl rfl (rwO_T g107_TF (by decide) (by decide) f102))
      have f109 : rwA (16 * 1 + 8 : Int).toNat (B107 37) (B107 38) (B107 0) := (rwA_cg (s107.2.2 0 (by decide)) rfl rfl (rwA_T g107_TF (by decide) (by decide) f103))
      have f110 : sz3 (16 * 1 + 1 : Int).toNat (16 * 1 + 3 : Int).toNat (16 * 1 + 9 : Int).toNat (B107 37) (B107 38) := sz3_T g107_TF (by decide) (by decide) f104
      refine z_if_ne (tgt := 39) X.1 X.2.1 d_M_further_33 (by decide) ⟨by omega, by omega⟩ (fun h111 => ?_) (fun h111 => ?_)
      · as_aux_lemma =>
          have wa112 := (x107.mp (by omega)).1
          unfold whP at wa112
          have ra112 := el_rng (B101 0) (a := x106) (b := y106) (.inl (by omega))
          have a112 := apreq_T (m := (B101 0)) (x107.mp (by omega)).2 (by omega) (st107.2 (by omega))
          rw [← s107.2.2 0 (by decide)] at a112
          have wa113 := (x107.mp (by omega)).1
          unfold whP at wa113
          have ra113 := el_rng (B101 0) (a := x106) (b := y106) (.inl (by omega))
          have a113 := apreq_T (m := (B101 0)) (x107.mp (by omega)).2 (by omega) (st107.2 (by omega))
          rw [← s107.2.2 0 (by decide)] at a113
          refine lv_aload_n X.1 X.2.1 d_M_further_39 rfl (lv_at hl 2 rfl) ?_
          refine lv_iconst (v := iI 2) X.1 X.2.1 d_M_further_40 (by decide) ?_
          refine lv_iconst (v := iI 0) X.1 X.2.1 d_M_further_41 (by decide) ?_
          refine r_nl (m_run (As := [.int (iI 2), .int (iI 0)]) (rest := []) (n := 2) X Y hZ hA hml hl.1 (r_M_numberAt l D E h q H.size I107 J107 B107 G107 2 (by decide) (by decide) 0 (by decide) (by decide) S.1 g107_P1 g107_P2) kl_M_numberAt ks_M_numberAt kx_M_numberAt ki_M_numberAt ini_M hd_M_numberAt ⟨Nat.le_of_ble_eq_true rfl, Nat.le_of_ble_eq_true rfl⟩ rfl (Nat.le_of_ble_eq_true rfl) d_M_further_42 ⟨Nat.le_refl _, Nat.le_refl _⟩) X Y hA S (by decide) (by decide) (fun v114 u H locs Y S s114 p114 => ?_)
          obtain ⟨I114, J114, B114, G114⟩ := u
          dsimp only at Y S s114 p114
          have b114 : B107 = B114 := (funext (fun j => s114.2.2 j (by simp))).symm
          subst b114
          have g114_P1 := p114
          refine lv_ldc2 (v := (5)) X.1 X.2.1 X.2.2.2.1 (X.2.2.1 _ cl_M_669) d_M_further_45 ?_
          refine W.lcmp X.1 X.2.1 d_M_further_48 ?_
          refine t_u (fun z115 l115 u115 => ?_)
          refine z_if_eq (tgt := 54) X.1 X.2.1 d_M_further_49 (by decide) ⟨by omega, by omega⟩ (fun h116 => ?_) (fun h116 => ?_)
          · as_aux_lemma =>
              refine lv_aload_n X.1 X.2.1 d_M_further_54 rfl (lv_at hl 2 rfl) ?_
              refine lv_iconst (v := iI 2) X.1 X.2.1 d_M_further_55 (by decide) ?_
              refine lv_iconst (v := iI 1) X.1 X.2.1 d_M_further_56 (by decide) ?_
              refine r_nl (m_run (As := [.int (iI 2), .int (iI 1)]) (rest := []) (n := 2) X Y hZ hA hml hl.1 (r_M_numberAt l D E h q H.size I114 J114 B107 G114 2 (by decide) (by decide) 1 (by decide) (by decide) S.1 g114_P1 (pG2_cg rfl rfl g107_P2)) kl_M_numberAt ks_M_numberAt kx_M_numberAt ki_M_numberAt ini_M hd_M_numberAt ⟨Nat.le_of_ble_eq_true rfl, Nat.le_of_ble_eq_true rfl⟩ rfl (Nat.le_of_ble_eq_true rfl) d_M_further_57 ⟨Nat.le_refl _, Nat.le_refl _⟩) X Y hA S (by decide) (by decide) (fun v117 u H locs Y S s117 p117 => ?_)
              obtain ⟨I117, J117, B117, G117⟩ := u
              dsimp only at Y S s117 p117
              have b117 : B107 = B117 := (funext (fun j => s117.2.2 j (by simp))).symm
              subst b117
              have g117_P1 := p117
              refine lv_ldc2 (v := (14)) X.1 X.2.1 X.2.2.2.1 (X.2.2.1 _ cl_M_799) d_M_further_60 ?_
              refine W.lcmp X.1 X.2.1 d_M_further_63 ?_
              refine t_u (fun z118 l118 u118 => ?_)
              refine z_if_eq (tgt := 70) X.1 X.2.1 d_M_further_64 (by decide) ⟨by omega, by omega⟩ (fun h119 => ?_) (fun h119 => ?_)
              · as_aux_lemma =>
                  refine lv_aload_n X.1 X.2.1 d_M_further_70 rfl (lv_at hl 2 rfl) ?_
                  refine lv_aload_n X.1 X.2.1 d_M_further_71 rfl (lv_at hl 2 rfl) ?_
                  refine lv_iconst (v := iI 2) X.1 X.2.1 d_M_further_72 (by decide) ?_
                  refine lv_iconst (v := iI 3) X.1 X.2.1 d_M_further_73 (by decide) ?_
                  refine r_ni (m_run (As := [.int (iI 2), .int (iI 3)]) (rest := [.ref h]) (n := 2) X Y hZ hA hml hl.1 (r_M_a l D E h q H.size I117 J117 B107 G117 2 (by decide) (by decide) 3 (by decide) (by decide) S.1) kl_M_a ks_M_a kx_M_a ki_M_a ini_M hd_M_a ⟨Nat.le_of_ble_eq_true rfl, Nat.le_of_ble_eq_true rfl⟩ rfl (Nat.le_of_ble_eq_true rfl) d_M_further_74 ⟨Nat.le_refl _, Nat.le_refl _⟩) X Y hA S (by decide) (by decide) (fun z120 u H locs Y S s120 p120 => ?_)
                  obtain ⟨I120, J120, B120, G120⟩ := u
                  dsimp only at Y S s120 p120
                  have i120 : I117 = I120 := (funext (fun j => s120.2.1 j (by simp))).symm
                  subst i120
                  have b120 : B107 = B120 := (funext (fun j => s120.2.2 j (by simp))).symm
                  subst b120
                  have f121 : hD I117 := (hD_cg rfl rfl (hD_cg (s117.2.1 68 (by decide)) (s117.2.1 70 (by decide)) (hD_cg (s114.2.1 68 (by decide)) (s114.2.1 70 (by decide)) (hD_cg (s107.2.1 68 (by decide)) (s107.2.1 70 (by decide)) (hD_cg (s101.2.1 68 (by decide)) (s101.2.1 70 (by decide)) f_HD)))))
                  obtain ⟨l120, u120, x120⟩ := p120
                  refine lv_aload_n X.1 X.2.1 d_M_further_77 rfl (lv_at hl 2 rfl) ?_
                  refine lv_iconst (v := iI 2) X.1 X.2.1 d_M_further_78 (by decide) ?_
                  refine lv_iconst (v := iI 3) X.1 X.2.1 d_M_further_79 (by decide) ?_
                  refine r_ni (m_run (As := [.int (iI 2), .int (iI 3)]) (rest := [.int (iI z120), .ref h]) (n := 2) X Y hZ hA hml hl.1 (r_M_b l D E h q H.size I117 J120 B107 G120 2 (by decide) (by decide) 3 (by decide) (by decide) S.1) kl_M_b ks_M_b kx_M_b ki_M_b ini_M hd_M_b ⟨Nat.le_of_ble_eq_true rfl, Nat.le_of_ble_eq_true rfl⟩ rfl (Nat.le_of_ble_eq_true rfl) d_M_further_80 ⟨Nat.le_refl _, Nat.le_refl _⟩) X Y hA S (by decide) (by decide) (fun z122 u H locs Y S s122 p122 => ?_)
                  obtain ⟨I122, J122, B122, G122⟩ := u
                  dsimp only at Y S s122 p122
                  have i122 : I117 = I122 := (funext (fun j => s122.2.1 j (by simp))).symm
                  subst i122
                  have b122 : B107 = B122 := (funext (fun j => s122.2.2 j (by simp))).symm
                  subst b122
                  obtain ⟨l122, u122, x122⟩ := p122
                  have p123 : pr z120 z122 := by rw [x120, x122]; exact (pG2_cg rfl rfl (pG2_cg rfl rfl (pG2_cg rfl rfl (pG2_cg rfl rfl g107_P2)))) (16 * 2 + 3 : Int).toNat (by omega)
                  unfold pr at p123
                  refine lv_bipush (v := iI 97) X.1 X.2.1 d_M_further_83 (by decide) ?_
                  refine r_ni (m_run (As := [.int (iI z120), .int (iI z122), .int (iI 97)]) (rest := []) (n := 3) X Y hZ hA hml hl.1 (r_M_whole l D E h q H.size I117 J122 B107 G122 z120 (by omega) (by omega) z122 (by omega) (by omega) 97 (by decide) (by decide) S.1 (B107 0) rfl (pG1_cg rfl rfl (pG1_cg rfl rfl g117_P1)) (by omega) (by omega)) kl_M_whole ks_M_whole kx_M_whole ki_M_whole ini_M hd_M_whole ⟨Nat.le_of_ble_eq_true rfl, Nat.le_of_ble_eq_true rfl⟩ rfl (Nat.le_of_ble_eq_true rfl) d_M_further_85 ⟨Nat.le_refl _, Nat.le_refl _⟩) X Y hA S (by decide) (by decide) (fun z124 u H locs Y S s124 p124 => ?_)
                  obtain ⟨I124, J124, B124, G124⟩ := u
                  dsimp only at Y S s124 p124
                  have b124 : B107 = B124 := (funext (fun j => s124.2.2 j (by simp))).symm
                  subst b124
                  obtain ⟨l124, u124, x124, st124⟩ := p124
                  obtain ⟨x125, y125, ex125, ey125, lx125, ly125, uy125, dy125, iy125⟩ := st124
                  have zw124 : z124 = 1 := x124.mpr (by rw [x120, x122]; exact a113)
                  refine lv_pop X.1 X.2.1 d_M_further_88 rfl ?_
                  refine lv_aload_n X.1 X.2.1 d_M_further_89 rfl (lv_at hl 2 rfl) ?_
                  refine m_ldcSW (i := 7) X (by decide) (by decide) d_M_further_90 ?_
                  refine lv_aload_n X.1 X.2.1 d_M_further_93 rfl (lv_at hl 2 rfl) ?_
                  refine r_get0 X Y (by decide) lk_inside (gf_inside _ _ _) rfl ex125 d_M_further_94 ?_
                  refine lv_aload_n X.1 X.2.1 d_M_further_97 rfl (lv_at hl 2 rfl) ?_
                  refine lv_iconst (v := iI 2) X.1 X.2.1 d_M_further_98 (by decide) ?_
                  refine lv_iconst (v := iI 3) X.1 X.2.1 d_M_further_99 (by decide) ?_
                  refine r_ni (m_run (As := [.int (iI 2), .int (iI 3)]) (rest := [.int (iI x125), .ref ((D.2.1 7)), .ref h]) (n := 2) X Y hZ hA hml hl.1 (r_M_b l D E h q H.size I124 J124 B107 G124 2 (by decide) (by decide) 3 (by decide) (by decide) S.1) kl_M_b ks_M_b kx_M_b ki_M_b ini_M hd_M_b ⟨Nat.le_of_ble_eq_true rfl, Nat.le_of_ble_eq_true rfl⟩ rfl (Nat.le_of_ble_eq_true rfl) d_M_further_100 ⟨Nat.le_refl _, Nat.le_refl _⟩) X Y hA S (by decide) (by decide) (fun z126 u H locs Y S s126 p126 => ?_)
                  obtain ⟨I126, J126, B126, G126⟩ := u
                  dsimp only at Y S s126 p126
                  have i126 : I124 = I126 := (funext (fun j => s126.2.1 j (by simp))).symm
                  subst i126
                  have b126 : B107 = B126 := (funext (fun j => s126.2.2 j (by simp))).symm
                  subst b126
                  obtain ⟨l126, u126, x126⟩ := p126
                  have p127 : pr z120 z126 := by rw [x120, x126]; exact (pG2_cg rfl rfl (pG2_cg rfl rfl (pG2_cg rfl rfl (pG2_cg rfl rfl (pG2_cg rfl rfl (pG2_cg rfl rfl g107_P2)))))) (16 * 2 + 3 : Int).toNat (by omega)
                  unfold pr at p127
                  refine lv_iconst (v := iI 3) X.1 X.2.1 d_M_further_103 (by decide) ?_
                  refine r_ni (m_run (As := [.ref ((D.2.1 7)), .int (iI x125), .int (iI z126), .int (iI 3)]) (rest := []) (n := 4) X Y hZ hA hml hl.1 (r_M_sequence_t l D E h q H.size I124 J126 B107 G126 7 (show 7 < nZ by decide) x125 (by omega) (by omega) z126 (by omega) (by omega) 3 (by decide) (by decide) S.1 5 (B107 0) rfl (isF (B107 0) 5) (by decide) (hisU (show rki 7 ≤ 5 by decide)) (pG1_cg rfl rfl (show pG1 I124 from ⟨x125, y125, ex125, ey125, by omega, by omega, by omega, by omega⟩)) (pG2_cg rfl rfl (pG2_cg rfl rfl (pG2_cg rfl rfl (pG2_cg rfl rfl (pG2_cg rfl rfl (pG2_cg rfl rfl g107_P2)))))) (by omega) (by omega)) kl_M_sequence ks_M_sequence kx_M_sequence ki_M_sequence ini_M hd_M_sequence ⟨Nat.le_of_ble_eq_true rfl, Nat.le_of_ble_eq_true rfl⟩ rfl (Nat.le_of_ble_eq_true rfl) d_M_further_104 ⟨Nat.le_refl _, Nat.le_refl _⟩) X Y hA S (by decide) (by decide) (fun z128 u H locs Y S s128 p128 => ?_)
                  obtain ⟨I128, J128, B128, G128⟩ := u
                  dsimp only at Y S s128 p128
                  obtain ⟨l128, u128, x128, st128, g128_P1, g128_P2⟩ := p128
                  have g128_TF : thF [3] (B107 37) (B107 38) (B128 37) (B128 38) := thF_of st128.1
                  have f129 : rwO (16 * 0 + 3 : Int).toNat (B128 37) (B128 38) (B128 0) := (rwO_cg (s128.2.2 0 (by decide)) rfl rfl (rwO_T g128_TF (by decide) (by decide) (rwO_cg rfl rfl rfl (rwO_cg rfl rfl rfl (rwO_cg rfl rfl rfl (rwO_cg rfl rfl rfl (rwO_cg rfl rfl rfl (rwO_cg rfl rfl rfl f108))))))))
                  have f130 : rwA (16 * 1 + 8 : Int).toNat (B128 37) (B128 38) (B128 0) := (rwA_cg (s128.2.2 0 (by decide)) rfl rfl (rwA_T g128_TF (by decide) (by decide) (rwA_cg rfl rfl rfl (rwA_cg rfl rfl rfl (rwA_cg rfl rfl rfl (rwA_cg rfl rfl rfl (rwA_cg rfl rfl rfl (rwA_cg rfl rfl rfl f109))))))))
                  have f131 : sz3 (16 * 1 + 1 : Int).toNat (16 * 1 + 3 : Int).toNat (16 * 1 + 9 : Int).toNat (B128 37) (B128 38) := sz3_T g128_TF (by decide) (by decide) (sz3_cg rfl rfl (sz3_cg rfl rfl (sz3_cg rfl rfl (sz3_cg rfl rfl (sz3_cg rfl rfl (sz3_cg rfl rfl f110))))))
                  refine lv_pop X.1 X.2.1 d_M_further_107 rfl ?_
                  refine lv_aload_n X.1 X.2.1 d_M_further_108 rfl (lv_at hl 2 rfl) ?_
                  refine lv_iconst (v := iI 0) X.1 X.2.1 d_M_further_109 (by decide) ?_
                  refine lv_iconst (v := iI 1) X.1 X.2.1 d_M_further_110 (by decide) ?_
                  refine r_ni (m_run (As := [.int (iI 0), .int (iI 1)]) (rest := []) (n := 2) X Y hZ hA hml hl.1 (r_M_opensTicket l D E h q H.size I128 J128 B128 G128 0 (by decide) (by decide) 1 (by decide) (by decide) S.1 g128_P1 g128_P2) kl_M_opensTicket ks_M_opensTicket kx_M_opensTicket ki_M_opensTicket ini_M hd_M_opensTicket ⟨Nat.le_of_ble_eq_true rfl, Nat.le_of_ble_eq_true rfl⟩ rfl (Nat.le_of_ble_eq_true rfl) d_M_further_111 ⟨Nat.le_refl _, Nat.le_refl _⟩) X Y hA S (by decide) (by decide) (fun z132 u H locs Y S s132 p132 => ?_)
                  obtain ⟨I132, J132, B132, G132⟩ := u
                  dsimp only at Y S s132 p132
                  obtain ⟨l132, u132, st132, g132_P1, g132_P2, g132_TF, g132_MF⟩ := p132
                  have f133 : sz3 (16 * 1 + 1 : Int).toNat (16 * 1 + 3 : Int).toNat (16 * 1 + 9 : Int).toNat (B132 37) (B132 38) := sz3_T g132_TF (by decide) (by decide) f131
                  have f134 : rwO (16 * 0 + 3 : Int).toNat (B132 37) (B132 38) (B132 0) := (rwO_M g132_MF (by decide) (rwO_T g132_TF (by decide) (by decide) f129))
                  have f135 : rwA (16 * 1 + 8 : Int).toNat (B132 37) (B132 38) (B132 0) := (rwA_M g132_MF (by decide) (rwA_T g132_TF (by decide) (by decide) f130))
                  refine lv_istore_n (lv' := [(3, .int (iI z132)), (2, .int (iI y106)), (1, .int (iI x106)), (0, .ref h)]) X.1 X.2.1 d_M_further_114 rfl hl (by decide) rfl (fun ls hl => ?_)
                  refine lv_iload_n X.1 X.2.1 d_M_further_115 rfl (lv_at hl 0 rfl) ?_
                  refine z_if_ne (tgt := 126) X.1 X.2.1 d_M_further_116 (by decide) ⟨by omega, by omega⟩ (fun h136 => ?_) (fun h136 => ?_)
                  · refine lv_iload_n X.1 X.2.1 d_M_further_126 rfl (lv_at hl 0 rfl) ?_
                    refine z_if_ne (tgt := 137) X.1 X.2.1 d_M_further_127 (by decide) ⟨by omega, by omega⟩ (fun h137 => ?_) (fun h137 => False.elim (by omega))
                    · refine lv_iload_n X.1 X.2.1 d_M_further_137 rfl (lv_at hl 0 rfl) ?_
                      refine z_if_eq (tgt := 143) X.1 X.2.1 d_M_further_138 (by decide) ⟨by omega, by omega⟩ (fun h138 => False.elim (by omega)) (fun h138 => ?_)
                      · refine lv_iload_n X.1 X.2.1 d_M_further_141 rfl (lv_at hl 0 rfl) ?_
                        exact m_reti hQQ X Y hr hlk ⟨S, z132, rfl, ⟨by omega, by omega, ⟨cn, ((s132.2.1 33 (by decide)).trans ((s128.2.1 33 (by decide)).trans ((s124.2.1 33 (by decide)).trans ((s117.2.1 33 (by decide)).trans ((s114.2.1 33 (by decide)).trans ((s107.2.1 33 (by decide)).trans ((s101.2.1 33 (by decide)).trans gcn))))))), by omega, by omega⟩, g132_P1, g132_P2, (hD_cg (s132.2.1 68 (by decide)) (s132.2.1 70 (by decide)) (hD_cg (s128.2.1 68 (by decide)) (s128.2.1 70 (by decide)) (hD_cg rfl rfl (hD_cg (s124.2.1 68 (by decide)) (s124.2.1 70 (by decide)) (hD_cg rfl rfl f121)))))⟩⟩ d_M_further_142
                  · as_aux_lemma =>
                      have f139 : tkA (B132 37) (B132 38) (B132 0) := st132 (by omega)
                      have f140 : tkA (B132 37) (B132 38) (B132 0) := st132 (by omega)
                      refine lv_aload_n X.1 X.2.1 d_M_further_119 rfl (lv_at hl 3 rfl) ?_
                      refine lv_bipush (v := iI 7) X.1 X.2.1 d_M_further_120 (by decide) ?_
                      refine r_ni (m_run (As := [.int (iI 7)]) (rest := []) (n := 1) X Y hZ hA hml hl.1 (r_M_opensAuthenticator l D E h q H.size I132 J132 B132 G132 7 (by decide) (by decide) S.1 g132_P1 g132_P2) kl_M_opensAuthenticator ks_M_opensAuthenticator kx_M_opensAuthenticator ki_M_opensAuthenticator ini_M hd_M_opensAuthenticator ⟨Nat.le_of_ble_eq_true rfl, Nat.le_of_ble_eq_true rfl⟩ rfl (Nat.le_of_ble_eq_true rfl) d_M_further_122 ⟨Nat.le_refl _, Nat.le_refl _⟩) X Y hA S (by decide) (by decide) (fun z141 u H locs Y S s141 p141 => ?_)
                      obtain ⟨I141, J141, B141, G141⟩ := u
                      dsimp only at Y S s141 p141
                      have f142 : hD I141 := (hD_cg (s141.2.1 68 (by decide)) (s141.2.1 70 (by decide)) (hD_cg (s132.2.1 68 (by decide)) (s132.2.1 70 (by decide)) (hD_cg (s128.2.1 68 (by decide)) (s128.2.1 70 (by decide)) (hD_cg rfl rfl (hD_cg (s124.2.1 68 (by decide)) (s124.2.1 70 (by decide)) (hD_cg rfl rfl f121))))))
                      obtain ⟨l141, u141, x141, st141, g141_P1, g141_P2, g141_TF, g141_MF⟩ := p141
                      have f143 : sz3 (16 * 1 + 1 : Int).toNat (16 * 1 + 3 : Int).toNat (16 * 1 + 9 : Int).toNat (B141 37) (B141 38) := sz3_T g141_TF (by decide) (by decide) f133
                      have f144 : rwO (16 * 0 + 3 : Int).toNat (B141 37) (B141 38) (B141 0) := (rwO_M g141_MF (by decide) (rwO_T g141_TF (by decide) (by decide) f134))
                      have f145 : rwA (16 * 1 + 8 : Int).toNat (B141 37) (B141 38) (B141 0) := (rwA_M g141_MF (by decide) (rwA_T g141_TF (by decide) (by decide) f135))
                      have f146 : tkA (B141 37) (B141 38) (B141 0) := (tkA_M g141_MF (by decide) (tkA_T g141_TF (by decide) (by decide) f140))
                      obtain ⟨z147, e147, x147, y147, y2147⟩ := x141
                      refine lv_istore_n (lv' := [(3, .int (iI z141)), (2, .int (iI y106)), (1, .int (iI x106)), (0, .ref h)]) X.1 X.2.1 d_M_further_125 rfl hl (by decide) rfl (fun ls hl => ?_)
                      refine lv_iload_n X.1 X.2.1 d_M_further_126 rfl (lv_at hl 0 rfl) ?_
                      refine z_if_ne (tgt := 137) X.1 X.2.1 d_M_further_127 (by decide) ⟨by omega, by omega⟩ (fun h148 => ?_) (fun h148 => ?_)
                      · refine lv_iload_n X.1 X.2.1 d_M_further_137 rfl (lv_at hl 0 rfl) ?_
                        refine z_if_eq (tgt := 143) X.1 X.2.1 d_M_further_138 (by decide) ⟨by omega, by omega⟩ (fun h149 => False.elim (by omega)) (fun h149 => ?_)
                        · refine lv_iload_n X.1 X.2.1 d_M_further_141 rfl (lv_at hl 0 rfl) ?_
                          exact m_reti hQQ X Y hr hlk ⟨S, z141, rfl, ⟨by omega, by omega, ⟨cn, ((s141.2.1 33 (by decide)).trans ((s132.2.1 33 (by decide)).trans ((s128.2.1 33 (by decide)).trans ((s124.2.1 33 (by decide)).trans ((s117.2.1 33 (by decide)).trans ((s114.2.1 33 (by decide)).trans ((s107.2.1 33 (by decide)).trans ((s101.2.1 33 (by decide)).trans gcn)))))))), by omega, by omega⟩, g141_P1, g141_P2, f142⟩⟩ d_M_further_142
                      · as_aux_lemma =>
                          have f150 : auA (B141 37) (B141 38) (B141 0) := st141 (by omega)
                          have f151 : auA (B141 37) (B141 38) (B141 0) := st141 (by omega)
                          refine lv_aload_n X.1 X.2.1 d_M_further_130 rfl (lv_at hl 3 rfl) ?_
                          refine lv_bipush (v := iI 12) X.1 X.2.1 d_M_further_131 (by decide) ?_
                          refine r_ni (m_run (As := [.int (iI 12)]) (rest := []) (n := 1) X Y hZ hA hml hl.1 (r_M_sameTime l D E h q H.size I141 J141 B141 G141 12 (by decide) (by decide) S.1 g141_P1 g141_P2 f146 f151) kl_M_sameTime ks_M_sameTime kx_M_sameTime ki_M_sameTime ini_M hd_M_sameTime ⟨Nat.le_of_ble_eq_true rfl, Nat.le_of_ble_eq_true rfl⟩ rfl (Nat.le_of_ble_eq_true rfl) d_M_further_133 ⟨Nat.le_refl _, Nat.le_refl _⟩) X Y hA S (by decide) (by decide) (fun z152 u H locs Y S s152 p152 => ?_)
                          obtain ⟨I152, J152, B152, G152⟩ := u
                          dsimp only at Y S s152 p152
                          obtain ⟨l152, u152, g152_P1, g152_P2, g152_TF⟩ := p152
                          have f153 : sz3 (16 * 1 + 1 : Int).toNat (16 * 1 + 3 : Int).toNat (16 * 1 + 9 : Int).toNat (B152 37) (B152 38) := sz3_T g152_TF (by decide) (by decide) f143
                          have f154 : rwO (16 * 0 + 3 : Int).toNat (B152 37) (B152 38) (B152 0) := (rwO_cg (s152.2.2 0 (by decide)) rfl rfl (rwO_T g152_TF (by decide) (by decide) f144))
                          have f155 : rwA (16 * 1 + 8 : Int).toNat (B152 37) (B152 38) (B152 0) := (rwA_cg (s152.2.2 0 (by decide)) rfl rfl (rwA_T g152_TF (by decide) (by decide) f145))
                          have f156 : tkA (B152 37) (B152 38) (B152 0) := (tkA_cg (s152.2.2 0 (by decide)) rfl rfl (tkA_T g152_TF (by decide) (by decide) f146))
                          have f157 : auA (B152 37) (B152 38) (B152 0) := (auA_cg (s152.2.2 0 (by decide)) rfl rfl (auA_T g152_TF (by decide) (by decide) f151))
                          refine lv_istore_n (lv' := [(3, .int (iI z152)), (2, .int (iI y106)), (1, .int (iI x106)), (0, .ref h)]) X.1 X.2.1 d_M_further_136 rfl hl (by decide) rfl (fun ls hl => ?_)
                          refine lv_iload_n X.1 X.2.1 d_M_further_137 rfl (lv_at hl 0 rfl) ?_
                          refine z_if_eq (tgt := 143) X.1 X.2.1 d_M_further_138 (by decide) ⟨by omega, by omega⟩ (fun h158 => ?_) (fun h158 => ?_)
                          · as_aux_lemma =>
                              refine lv_aload_n X.1 X.2.1 d_M_further_143 rfl (lv_at hl 3 rfl) ?_
                              refine lv_iconst (v := iI 5) X.1 X.2.1 d_M_further_144 (by decide) ?_
                              refine lv_iconst (v := iI 3) X.1 X.2.1 d_M_further_145 (by decide) ?_
                              refine r_ni (m_run (As := [.int (iI 5), .int (iI 3)]) (rest := []) (n := 2) X Y hZ hA hml hl.1 (r_M_has l D E h q H.size I152 J152 B152 G152 5 (by decide) (by decide) 3 (by decide) (by decide) S.1) kl_M_has ks_M_has kx_M_has ki_M_has ini_M hd_M_has ⟨Nat.le_of_ble_eq_true rfl, Nat.le_of_ble_eq_true rfl⟩ rfl (Nat.le_of_ble_eq_true rfl) d_M_further_146 ⟨Nat.le_refl _, Nat.le_refl _⟩) X Y hA S (by decide) (by decide) (fun z159 u H locs Y S s159 p159 => ?_)
                              obtain ⟨I159, J159, B159, G159⟩ := u
                              dsimp only at Y S s159 p159
                              have i159 : I152 = I159 := (funext (fun j => s159.2.1 j (by simp))).symm
                              subst i159
                              have b159 : B152 = B159 := (funext (fun j => s159.2.2 j (by simp))).symm
                              subst b159
                              obtain ⟨l159, u159, x159⟩ := p159
                              refine z_if_ne (tgt := 155) X.1 X.2.1 d_M_further_149 (by decide) ⟨by omega, by omega⟩ (fun h160 => ?_) (fun h160 => ?_)
                              · as_aux_lemma =>
                                  refine lv_aload_n X.1 X.2.1 d_M_further_155 rfl (lv_at hl 3 rfl) ?_
                                  refine m_ldcSW (i := 6) X (by decide) (by decide) d_M_further_156 ?_
                                  refine lv_aload_n X.1 X.2.1 d_M_further_159 rfl (lv_at hl 3 rfl) ?_
                                  refine lv_iconst (v := iI 5) X.1 X.2.1 d_M_further_160 (by decide) ?_
                                  refine lv_iconst (v := iI 3) X.1 X.2.1 d_M_further_161 (by decide) ?_
                                  refine r_ni (m_run (As := [.int (iI 5), .int (iI 3)]) (rest := [.ref ((D.2.1 6)), .ref h]) (n := 2) X Y hZ hA hml hl.1 (r_M_a l D E h q H.size I152 J159 B152 G159 5 (by decide) (by decide) 3 (by decide) (by decide) S.1) kl_M_a ks_M_a kx_M_a ki_M_a ini_M hd_M_a ⟨Nat.le_of_ble_eq_true rfl, Nat.le_of_ble_eq_true rfl⟩ rfl (Nat.le_of_ble_eq_true rfl) d_M_further_162 ⟨Nat.le_refl _, Nat.le_refl _⟩) X Y hA S (by decide) (by decide) (fun z161 u H locs Y S s161 p161 => ?_)
                                  obtain ⟨I161, J161, B161, G161⟩ := u
                                  dsimp only at Y S s161 p161
                                  have i161 : I152 = I161 := (funext (fun j => s161.2.1 j (by simp))).symm
                                  subst i161
                                  have b161 : B152 = B161 := (funext (fun j => s161.2.2 j (by simp))).symm
                                  subst b161
                                  obtain ⟨l161, u161, x161⟩ := p161
                                  refine lv_aload_n X.1 X.2.1 d_M_further_165 rfl (lv_at hl 3 rfl) ?_
                                  refine lv_iconst (v := iI 5) X.1 X.2.1 d_M_further_166 (by decide) ?_
                                  refine lv_iconst (v := iI 3) X.1 X.2.1 d_M_further_167 (by decide) ?_
                                  refine r_ni (m_run (As := [.int (iI 5), .int (iI 3)]) (rest := [.int (iI z161), .ref ((D.2.1 6)), .ref h]) (n := 2) X Y hZ hA hml hl.1 (r_M_b l D E h q H.size I152 J161 B152 G161 5 (by decide) (by decide) 3 (by decide) (by decide) S.1) kl_M_b ks_M_b kx_M_b ki_M_b ini_M hd_M_b ⟨Nat.le_of_ble_eq_true rfl, Nat.le_of_ble_eq_true rfl⟩ rfl (Nat.le_of_ble_eq_true rfl) d_M_further_168 ⟨Nat.le_refl _, Nat.le_refl _⟩) X Y hA S (by decide) (by decide) (fun z162 u H locs Y S s162 p162 => ?_)
                                  obtain ⟨I162, J162, B162, G162⟩ := u
                                  dsimp only at Y S s162 p162
                                  have i162 : I152 = I162 := (funext (fun j => s162.2.1 j (by simp))).symm
                                  subst i162
                                  have b162 : B152 = B162 := (funext (fun j => s162.2.2 j (by simp))).symm
                                  subst b162
                                  obtain ⟨l162, u162, x162⟩ := p162
                                  have p163 : pr z161 z162 := by rw [x161, x162]; exact (pG2_cg rfl rfl (pG2_cg rfl rfl (pG2_cg rfl rfl g152_P2))) (16 * 5 + 3 : Int).toNat (by omega)
                                  unfold pr at p163
                                  refine lv_bipush (v := iI 8) X.1 X.2.1 d_M_further_171 (by decide) ?_
                                  refine r_ni (m_run (As := [.ref ((D.2.1 6)), .int (iI z161), .int (iI z162), .int (iI 8)]) (rest := []) (n := 4) X Y hZ hA hml hl.1 (r_M_sequence_t l D E h q H.size I152 J162 B152 G162 6 (show 6 < nZ by decide) z161 (by omega) (by omega) z162 (by omega) (by omega) 8 (by decide) (by decide) S.1 5 (B152 0) rfl (isF (B152 0) 5) (by decide) (hisU (show rki 6 ≤ 5 by decide)) (pG1_cg rfl rfl (pG1_cg rfl rfl (pG1_cg rfl rfl g152_P1))) (pG2_cg rfl rfl (pG2_cg rfl rfl (pG2_cg rfl rfl g152_P2))) (by omega) (by omega)) kl_M_sequence ks_M_sequence kx_M_sequence ki_M_sequence ini_M hd_M_sequence ⟨Nat.le_of_ble_eq_true rfl, Nat.le_of_ble_eq_true rfl⟩ rfl (Nat.le_of_ble_eq_true rfl) d_M_further_173 ⟨Nat.le_refl _, Nat.le_refl _⟩) X Y hA S (by decide) (by decide) (fun z164 u H locs Y S s164 p164 => ?_)
                                  obtain ⟨I164, J164, B164, G164⟩ := u
                                  dsimp only at Y S s164 p164
                                  obtain ⟨l164, u164, x164, st164, g164_P1, g164_P2⟩ := p164
                                  have g164_TF : thF [8] (B152 37) (B152 38) (B164 37) (B164 38) := thF_of st164.1
                                  have f165 : sz3 (16 * 1 + 1 : Int).toNat (16 * 1 + 3 : Int).toNat (16 * 1 + 9 : Int).toNat (B164 37) (B164 38) := sz3_T g164_TF (by decide) (by decide) (sz3_cg rfl rfl (sz3_cg rfl rfl (sz3_cg rfl rfl f153)))
                                  have f166 : rwO (16 * 0 + 3 : Int).toNat (B164 37) (B164 38) (B164 0) := (rwO_cg (s164.2.2 0 (by decide)) rfl rfl (rwO_T g164_TF (by decide) (by decide) (rwO_cg rfl rfl rfl (rwO_cg rfl rfl rfl (rwO_cg rfl rfl rfl f154)))))
                                  have f167 : rwA (16 * 1 + 8 : Int).toNat (B164 37) (B164 38) (B164 0) := (rwA_cg (s164.2.2 0 (by decide)) rfl rfl (rwA_T g164_TF (by decide) (by decide) (rwA_cg rfl rfl rfl (rwA_cg rfl rfl rfl (rwA_cg rfl rfl rfl f155)))))
                                  have f168 : tkA (B164 37) (B164 38) (B164 0) := (tkA_cg (s164.2.2 0 (by decide)) rfl rfl (tkA_T g164_TF (by decide) (by decide) (tkA_cg rfl rfl rfl (tkA_cg rfl rfl rfl (tkA_cg rfl rfl rfl f156)))))
                                  have f169 : auA (B164 37) (B164 38) (B164 0) := (auA_cg (s164.2.2 0 (by decide)) rfl rfl (auA_T g164_TF (by decide) (by decide) (auA_cg rfl rfl rfl (auA_cg rfl rfl rfl (auA_cg rfl rfl rfl f157)))))
                                  refine lv_pop X.1 X.2.1 d_M_further_176 rfl ?_
                                  refine lv_aload_n X.1 X.2.1 d_M_further_177 rfl (lv_at hl 3 rfl) ?_
                                  refine lv_bipush (v := iI 8) X.1 X.2.1 d_M_further_178 (by decide) ?_
                                  refine lv_iconst (v := iI 0) X.1 X.2.1 d_M_further_180 (by decide) ?_
                                  refine r_nl (m_run (As := [.int (iI 8), .int (iI 0)]) (rest := []) (n := 2) X Y hZ hA hml hl.1 (r_M_numberAt l D E h q H.size I164 J164 B164 G164 8 (by decide) (by decide) 0 (by decide) (by decide) S.1 g164_P1 g164_P2) kl_M_numberAt ks_M_numberAt kx_M_numberAt ki_M_numberAt ini_M hd_M_numberAt ⟨Nat.le_of_ble_eq_true rfl, Nat.le_of_ble_eq_true rfl⟩ rfl (Nat.le_of_ble_eq_true rfl) d_M_further_181 ⟨Nat.le_refl _, Nat.le_refl _⟩) X Y hA S (by decide) (by decide) (fun v170 u H locs Y S s170 p170 => ?_)
                                  obtain ⟨I170, J170, B170, G170⟩ := u
                                  dsimp only at Y S s170 p170
                                  have b170 : B164 = B170 := (funext (fun j => s170.2.2 j (by simp))).symm
                                  subst b170
                                  have g170_P1 := p170
                                  refine lv_aload_n X.1 X.2.1 d_M_further_184 rfl (lv_at hl 3 rfl) ?_
                                  refine r_get0 X Y (by decide) lk_ticketType (gf_ticketType _ _ _) rfl ((s170.2.1 79 (by decide)).trans ((s164.2.1 79 (by decide)).trans ((s152.2.1 79 (by decide)).trans e147))) d_M_further_185 ?_
                                  refine lv_i2l X.1 X.2.1 d_M_further_188 rfl ?_
                                  refine t_anyl (fun v171 => ?_)
                                  refine lv_ldc2 (v := (2)) X.1 X.2.1 X.2.2.2.1 (X.2.2.1 _ cl_M_810) d_M_further_189 ?_
                                  refine lv_lsub X.1 X.2.1 d_M_further_192 ?_
                                  refine t_anyl (fun v172 => ?_)
                                  refine W.lcmp X.1 X.2.1 d_M_further_193 ?_
                                  refine t_u (fun z173 l173 u173 => ?_)
                                  refine z_if_eq (tgt := 200) X.1 X.2.1 d_M_further_194 (by decide) ⟨by omega, by omega⟩ (fun h174 => ?_) (fun h174 => ?_)
                                  · as_aux_lemma =>
                                      refine lv_aload_n X.1 X.2.1 d_M_further_200 rfl (lv_at hl 3 rfl) ?_
                                      refine lv_aload_n X.1 X.2.1 d_M_further_201 rfl (lv_at hl 3 rfl) ?_
                                      refine m_get X Y 58 (by decide) lk_key (gf_key _ _ _) rfl d_M_further_202 ?_
                                      refine lv_aload_n X.1 X.2.1 d_M_further_205 rfl (lv_at hl 3 rfl) ?_
                                      refine r_get0 X Y (by decide) lk_ticketType (gf_ticketType _ _ _) rfl ((s170.2.1 79 (by decide)).trans ((s164.2.1 79 (by decide)).trans ((s152.2.1 79 (by decide)).trans e147))) d_M_further_206 ?_
                                      refine lv_bipush (v := iI 6) X.1 X.2.1 d_M_further_209 (by decide) ?_
                                      refine lv_aload_n X.1 X.2.1 d_M_further_211 rfl (lv_at hl 3 rfl) ?_
                                      refine lv_iconst (v := iI 0) X.1 X.2.1 d_M_further_212 (by decide) ?_
                                      refine lv_iconst (v := iI 4) X.1 X.2.1 d_M_further_213 (by decide) ?_
                                      refine r_ni (m_run (As := [.int (iI 0), .int (iI 4)]) (rest := [.int (iI 6), .int (iI z147), .ref ((q 58)), .ref h]) (n := 2) X Y hZ hA hml hl.1 (r_M_a l D E h q H.size I170 J170 B164 G170 0 (by decide) (by decide) 4 (by decide) (by decide) S.1) kl_M_a ks_M_a kx_M_a ki_M_a ini_M hd_M_a ⟨Nat.le_of_ble_eq_true rfl, Nat.le_of_ble_eq_true rfl⟩ rfl (Nat.le_of_ble_eq_true rfl) d_M_further_214 ⟨Nat.le_refl _, Nat.le_refl _⟩) X Y hA S (by decide) (by decide) (fun z175 u H locs Y S s175 p175 => ?_)
                                      obtain ⟨I175, J175, B175, G175⟩ := u
                                      dsimp only at Y S s175 p175
                                      have i175 : I170 = I175 := (funext (fun j => s175.2.1 j (by simp))).symm
                                      subst i175
                                      have b175 : B164 = B175 := (funext (fun j => s175.2.2 j (by simp))).symm
                                      subst b175
                                      obtain ⟨l175, u175, x175⟩ := p175
                                      refine lv_aload_n X.1 X.2.1 d_M_further_217 rfl (lv_at hl 3 rfl) ?_
                                      refine lv_iconst (v := iI 0) X.1 X.2.1 d_M_further_218 (by decide) ?_
                                      refine lv_iconst (v := iI 4) X.1 X.2.1 d_M_further_219 (by decide) ?_
                                      refine r_ni (m_run (As := [.int (iI 0), .int (iI 4)]) (rest := [.int (iI z175), .int (iI 6), .int (iI z147), .ref ((q 58)), .ref h]) (n := 2) X Y hZ hA hml hl.1 (r_M_b l D E h q H.size I170 J175 B164 G175 0 (by decide) (by decide) 4 (by decide) (by decide) S.1) kl_M_b ks_M_b kx_M_b ki_M_b ini_M hd_M_b ⟨Nat.le_of_ble_eq_true rfl, Nat.le_of_ble_eq_true rfl⟩ rfl (Nat.le_of_ble_eq_true rfl) d_M_further_220 ⟨Nat.le_refl _, Nat.le_refl _⟩) X Y hA S (by decide) (by decide) (fun z176 u H locs Y S s176 p176 => ?_)
                                      obtain ⟨I176, J176, B176, G176⟩ := u
                                      dsimp only at Y S s176 p176
                                      have i176 : I170 = I176 := (funext (fun j => s176.2.1 j (by simp))).symm
                                      subst i176
                                      have b176 : B164 = B176 := (funext (fun j => s176.2.2 j (by simp))).symm
                                      subst b176
                                      have f177 : hD I170 := (hD_cg rfl rfl (hD_cg rfl rfl (hD_cg (s170.2.1 68 (by decide)) (s170.2.1 70 (by decide)) (hD_cg (s164.2.1 68 (by decide)) (s164.2.1 70 (by decide)) (hD_cg rfl rfl (hD_cg rfl rfl (hD_cg rfl rfl (hD_cg (s152.2.1 68 (by decide)) (s152.2.1 70 (by decide)) f142))))))))
                                      obtain ⟨l176, u176, x176⟩ := p176
                                      have p178 : pr z175 z176 := by rw [x175, x176]; exact (pG2_cg rfl rfl (pG2_cg rfl rfl (pG2_cg rfl rfl g164_P2))) (16 * 0 + 4 : Int).toNat (by omega)
                                      unfold pr at p178
                                      refine r_nv (m_run (As := [.ref ((q 58)), .int (iI z147), .int (iI 6), .int (iI z175), .int (iI z176)]) (rest := []) (n := 5) X Y hZ hA hml hl.1 (r_M_checksum_key l D E h q H.size I170 J176 B164 G176 z147 (by omega) (by omega) 6 (by decide) (by decide) z175 (by omega) (by omega) z176 (by omega) (by omega) S.1 (by omega)) kl_M_checksum ks_M_checksum kx_M_checksum ki_M_checksum ini_M hd_M_checksum ⟨Nat.le_of_ble_eq_true rfl, Nat.le_of_ble_eq_true rfl⟩ rfl (Nat.le_of_ble_eq_true rfl) d_M_further_223 ⟨Nat.le_refl _, Nat.le_refl _⟩) X Y hA S (by decide) (by decide) (fun u H locs Y S s179 p179 => ?_)
                                      obtain ⟨I179, J179, B179, G179⟩ := u
                                      dsimp only at Y S s179 p179
                                      refine lv_aload_n X.1 X.2.1 d_M_further_226 rfl (lv_at hl 3 rfl) ?_
                                      refine lv_aload_n X.1 X.2.1 d_M_further_227 rfl (lv_at hl 3 rfl) ?_
                                      refine lv_bipush (v := iI 8) X.1 X.2.1 d_M_further_228 (by decide) ?_
                                      refine lv_iconst (v := iI 1) X.1 X.2.1 d_M_further_230 (by decide) ?_
                                      refine r_ni (m_run (As := [.int (iI 8), .int (iI 1)]) (rest := [.ref h]) (n := 2) X Y hZ hA hml hl.1 (r_M_a l D E h q H.size I179 J179 B179 G179 8 (by decide) (by decide) 1 (by decide) (by decide) S.1) kl_M_a ks_M_a kx_M_a ki_M_a ini_M hd_M_a ⟨Nat.le_of_ble_eq_true rfl, Nat.le_of_ble_eq_true rfl⟩ rfl (Nat.le_of_ble_eq_true rfl) d_M_further_231 ⟨Nat.le_refl _, Nat.le_refl _⟩) X Y hA S (by decide) (by decide) (fun z180 u H locs Y S s180 p180 => ?_)
                                      obtain ⟨I180, J180, B180, G180⟩ := u
                                      dsimp only at Y S s180 p180
                                      have i180 : I179 = I180 := (funext (fun j => s180.2.1 j (by simp))).symm
                                      subst i180
                                      have b180 : B179 = B180 := (funext (fun j => s180.2.2 j (by simp))).symm
                                      subst b180
                                      obtain ⟨l180, u180, x180⟩ := p180
                                      refine lv_aload_n X.1 X.2.1 d_M_further_234 rfl (lv_at hl 3 rfl) ?_
                                      refine lv_bipush (v := iI 8) X.1 X.2.1 d_M_further_235 (by decide) ?_
                                      refine lv_iconst (v := iI 1) X.1 X.2.1 d_M_further_237 (by decide) ?_
                                      refine r_ni (m_run (As := [.int (iI 8), .int (iI 1)]) (rest := [.int (iI z180), .ref h]) (n := 2) X Y hZ hA hml hl.1 (r_M_b l D E h q H.size I179 J180 B179 G180 8 (by decide) (by decide) 1 (by decide) (by decide) S.1) kl_M_b ks_M_b kx_M_b ki_M_b ini_M hd_M_b ⟨Nat.le_of_ble_eq_true rfl, Nat.le_of_ble_eq_true rfl⟩ rfl (Nat.le_of_ble_eq_true rfl) d_M_further_238 ⟨Nat.le_refl _, Nat.le_refl _⟩) X Y hA S (by decide) (by decide) (fun z181 u H locs Y S s181 p181 => ?_)
                                      obtain ⟨I181, J181, B181, G181⟩ := u
                                      dsimp only at Y S s181 p181
                                      have i181 : I179 = I181 := (funext (fun j => s181.2.1 j (by simp))).symm
                                      subst i181
                                      have b181 : B179 = B181 := (funext (fun j => s181.2.2 j (by simp))).symm
                                      subst b181
                                      obtain ⟨l181, u181, x181⟩ := p181
                                      have p182 : pr z180 z181 := by rw [x180, x181]; exact (pG2_cg rfl rfl (pG2_cg rfl rfl (pG2_cg (s179.2.2 37 (by decide)) (s179.2.2 38 (by decide)) (pG2_cg rfl rfl (pG2_cg rfl rfl (pG2_cg rfl rfl g164_P2)))))) (16 * 8 + 1 : Int).toNat (by omega)
                                      unfold pr at p182
                                      refine lv_iconst (v := iI 4) X.1 X.2.1 d_M_further_241 (by decide) ?_
                                      refine r_ni (m_run (As := [.int (iI z180), .int (iI z181), .int (iI 4)]) (rest := []) (n := 3) X Y hZ hA hml hl.1 (r_M_element l D E h q H.size I179 J181 B179 G181 z180 (by omega) (by omega) z181 (by omega) (by omega) 4 (by decide) (by decide) S.1 (B179 0) rfl (pG1_cg rfl rfl (pG1_cg rfl rfl (pG1_cg (s179.2.1 39 (by decide)) (s179.2.1 40 (by decide)) (pG1_cg rfl rfl (pG1_cg rfl rfl g170_P1))))) (by omega) (by omega)) kl_M_element ks_M_element kx_M_element ki_M_element ini_M hd_M_element ⟨Nat.le_of_ble_eq_true rfl, Nat.le_of_ble_eq_true rfl⟩ rfl (Nat.le_of_ble_eq_true rfl) d_M_further_242 ⟨Nat.le_refl _, Nat.le_refl _⟩) X Y hA S (by decide) (by decide) (fun z183 u H locs Y S s183 p183 => ?_)
                                      obtain ⟨I183, J183, B183, G183⟩ := u
                                      dsimp only at Y S s183 p183
                                      have b183 : B179 = B183 := (funext (fun j => s183.2.2 j (by simp))).symm
                                      subst b183
                                      obtain ⟨l183, u183, x183, st183⟩ := p183
                                      obtain ⟨x184, y184, ex184, ey184, lx184, ly184, uy184, dy184, iy184, ky184⟩ := st183
                                      refine lv_pop X.1 X.2.1 d_M_further_245 rfl ?_
                                      refine lv_aload_n X.1 X.2.1 d_M_further_246 rfl (lv_at hl 3 rfl) ?_
                                      refine r_get0 X Y (by decide) lk_behind (gf_behind _ _ _) rfl ey184 d_M_further_247 ?_
                                      refine lv_aload_n X.1 X.2.1 d_M_further_250 rfl (lv_at hl 3 rfl) ?_
                                      refine r_get0 X Y (by decide) lk_inside (gf_inside _ _ _) rfl ex184 d_M_further_251 ?_
                                      refine z_isub X.1 X.2.1 d_M_further_254 ?_
                                      refine lv_bipush (v := iI 12) X.1 X.2.1 d_M_further_255 (by decide) ?_
                                      refine z_icmp_eq (tgt := 263) X.1 X.2.1 d_M_further_257 (by decide) ⟨by omega, by omega⟩ ⟨by decide, by decide⟩ (fun h185 => ?_) (fun h185 => ?_)
                                      · as_aux_lemma =>
                                          refine lv_iconst (v := iI 0) X.1 X.2.1 d_M_further_263 (by decide) ?_
                                          have J187 : ∀ (n189 : Nat) (z186 : Int) (H : Heap) (locs : List Loc) (ls : Array Slot), (12 - z186).toNat = n189 → (0 ≤ z186) → (z186 ≤ 12) → mH D E (mA E h q sz) s.heap h q I183 J183 B179 G183 H locs → rS [3, 8, 14, 18, 29, 33, 36, 39, 40, 42, 54, 73, 74, 75, 76, 77, 79, 80, 81, 84, 85, 86, 87, 88, 89] [0, 1, 5, 6, 7, 9, 10, 11, 12, 13, 15, 16, 17, 19, 20, 21, 22, 23, 24, 34, 35, 37, 38, 53, 56, 58, 59, 60, 61, 62, 63, 64, 90] I B I183 B179 → lv_has ls 6 [(0, .ref h), (4, .int (iI z186))] → W p l e (mR 46 2080) s m AV below meth c H locs 0 0 QQ (F0 m 266 ls []) := by
                                            as_aux_lemma =>
                                              intro n189
                                              induction n189 using Nat.strongRecOn with
                                              | ind n189 ih188 =>
                                                intro z186 H locs ls hm190 l186 u186 Y S hl
                                                refine lv_iload X.1 X.2.1 d_M_further_266 (lv_at hl 1 rfl) ?_
                                                refine lv_bipush (v := iI 12) X.1 X.2.1 d_M_further_268 (by decide) ?_
                                                refine z_icmp_ge (tgt := 304) X.1 X.2.1 d_M_further_270 (by decide) ⟨by omega, by omega⟩ ⟨by decide, by decide⟩ (fun h191 => ?_) (fun h191 => ?_)
                                                · as_aux_lemma =>
                                                    refine lv_aload_n X.1 X.2.1 d_M_further_304 rfl (lv_at hl 0 rfl) ?_
                                                    refine lv_iconst (v := iI 4) X.1 X.2.1 d_M_further_305 (by decide) ?_
                                                    refine lv_bipush (v := iI 6) X.1 X.2.1 d_M_further_306 (by decide) ?_
                                                    refine lv_iconst (v := iI 5) X.1 X.2.1 d_M_further_308 (by decide) ?_
                                                    refine r_nl (m_run (As := [.int (iI 4), .int (iI 6), .int (iI 5)]) (rest := []) (n := 3) X Y hZ hA hml hl.1 (r_M_startOf l D E h q H.size I183 J183 B179 G183 4 (by decide) (by decide) 6 (by decide) (by decide) 5 (by decide) (by decide) S.1 (show pG1 I183 from ⟨x184, y184, ex184, ey184, by omega, by omega, by omega, by omega⟩) (pG2_cg rfl rfl (pG2_cg rfl rfl (pG2_cg rfl rfl (pG2_cg (s179.2.2 37 (by decide)) (s179.2.2 38 (by decide)) (pG2_cg rfl rfl (pG2_cg rfl rfl (pG2_cg rfl rfl g164_P2)))))))) kl_M_startOf ks_M_startOf kx_M_startOf ki_M_startOf ini_M hd_M_startOf ⟨Nat.le_of_ble_eq_true rfl, Nat.le_of_ble_eq_true rfl⟩ rfl (Nat.le_of_ble_eq_true rfl) d_M_further_309 ⟨Nat.le_refl _, Nat.le_refl _⟩) X Y hA S (by decide) (by decide) (fun v192 u H locs Y S s192 p192 => ?_)
                                                    obtain ⟨I192, J192, B192, G192⟩ := u
                                                    dsimp only at Y S s192 p192
                                                    have b192 : B179 = B192 := (funext (fun j => s192.2.2 j (by simp))).symm
                                                    subst b192
                                                    have g192_P1 := p192
                                                    refine lv_aload_n X.1 X.2.1 d_M_further_312 rfl (lv_at hl 0 rfl) ?_
                                                    refine r_geti (k := 4) X Y S (by decide) lk_now (gf_now _ _ _) rfl rfl d_M_further_313 (fun z193 e193 l193 u193 => ?_)
                                                    refine lv_i2l X.1 X.2.1 d_M_further_316 rfl ?_
                                                    refine t_anyl (fun v194 => ?_)
                                                    refine lv_ldc2 (v := (300)) X.1 X.2.1 X.2.2.2.1 (X.2.2.1 _ cl_M_646) d_M_further_317 ?_
                                                    refine lv_ladd X.1 X.2.1 d_M_further_320 ?_
                                                    refine t_anyl (fun v195 => ?_)
                                                    refine W.lcmp X.1 X.2.1 d_M_further_321 ?_
                                                    refine t_u (fun z196 l196 u196 => ?_)
                                                    refine z_if_le (tgt := 328) X.1 X.2.1 d_M_further_322 (by decide) ⟨by omega, by omega⟩ (fun h197 => ?_) (fun h197 => ?_)
                                                    · as_aux_lemma =>
                                                        refine lv_aload_n X.1 X.2.1 d_M_further_328 rfl (lv_at hl 0 rfl) ?_
                                                        refine lv_iconst (v := iI 4) X.1 X.2.1 d_M_further_329 (by decide) ?_
                                                        refine lv_bipush (v := iI 7) X.1 X.2.1 d_M_further_330 (by decide) ?_
                                                        refine r_nl (m_run (As := [.int (iI 4), .int (iI 7)]) (rest := []) (n := 2) X Y hZ hA hml hl.1 (r_M_timeOf l D E h q H.size I192 J192 B179 G192 4 (by decide) (by decide) 7 (by decide) (by decide) S.1 g192_P1 (pG2_cg rfl rfl (pG2_cg rfl rfl (pG2_cg rfl rfl (pG2_cg rfl rfl (pG2_cg (s179.2.2 37 (by decide)) (s179.2.2 38 (by decide)) (pG2_cg rfl rfl (pG2_cg rfl rfl (pG2_cg rfl rfl g164_P2))))))))) kl_M_timeOf ks_M_timeOf kx_M_timeOf ki_M_timeOf ini_M hd_M_timeOf ⟨Nat.le_of_ble_eq_true rfl, Nat.le_of_ble_eq_true rfl⟩ rfl (Nat.le_of_ble_eq_true rfl) d_M_further_332 ⟨Nat.le_refl _, Nat.le_refl _⟩) X Y hA S (by decide) (by decide) (fun v198 u H locs Y S s198 p198 => ?_)
                                                        obtain ⟨I198, J198, B198, G198⟩ := u
                                                        dsimp only at Y S s198 p198
                                                        have b198 : B179 = B198 := (funext (fun j => s198.2.2 j (by simp))).symm
                                                        subst b198
                                                        have f199 : hD I198 := (hD_cg (s198.2.1 68 (by decide)) (s198.2.1 70 (by decide)) (hD_cg (s192.2.1 68 (by decide)) (s192.2.1 70 (by decide)) (hD_cg (s183.2.1 68 (by decide)) (s183.2.1 70 (by decide)) (hD_cg rfl rfl (hD_cg rfl rfl (hD_cg (s179.2.1 68 (by decide)) (s179.2.1 70 (by decide)) f177))))))
                                                        have f200 : rwO (16 * 0 + 3 : Int).toNat (B179 37) (B179 38) (B179 0) := (rwO_cg rfl rfl rfl (rwO_cg rfl rfl rfl (rwO_cg rfl rfl rfl (rwO_cg rfl rfl rfl (rwO_cg rfl rfl rfl (rwO_cg (s179.2.2 0 (by decide)) (s179.2.2 37 (by decide)) (s179.2.2 38 (by decide)) (rwO_cg rfl rfl rfl (rwO_cg rfl rfl rfl (rwO_cg rfl rfl rfl f166)))))))))
                                                        have f201 : rwA (16 * 1 + 8 : Int).toNat (B179 37) (B179 38) (B179 0) := (rwA_cg rfl rfl rfl (rwA_cg rfl rfl rfl (rwA_cg rfl rfl rfl (rwA_cg rfl rfl rfl (rwA_cg rfl rfl rfl (rwA_cg (s179.2.2 0 (by decide)) (s179.2.2 37 (by decide)) (s179.2.2 38 (by decide)) (rwA_cg rfl rfl rfl (rwA_cg rfl rfl rfl (rwA_cg rfl rfl rfl f167)))))))))
                                                        have f202 : tkA (B179 37) (B179 38) (B179 0) := (tkA_cg rfl rfl rfl (tkA_cg rfl rfl rfl (tkA_cg rfl rfl rfl (tkA_cg rfl rfl rfl (tkA_cg rfl rfl rfl (tkA_cg (s179.2.2 0 (by decide)) (s179.2.2 37 (by decide)) (s179.2.2 38 (by decide)) (tkA_cg rfl rfl rfl (tkA_cg rfl rfl rfl (tkA_cg rfl rfl rfl f168)))))))))
                                                        have f203 : auA (B179 37) (B179 38) (B179 0) := (auA_cg rfl rfl rfl (auA_cg rfl rfl rfl (auA_cg rfl rfl rfl (auA_cg rfl rfl rfl (auA_cg rfl rfl rfl (auA_cg (s179.2.2 0 (by decide)) (s179.2.2 37 (by decide)) (s179.2.2 38 (by decide)) (auA_cg rfl rfl rfl (auA_cg rfl rfl rfl (auA_cg rfl rfl rfl f169)))))))))
                                                        have g198_P1 := p198
                                                        refine lv_aload_n X.1 X.2.1 d_M_further_335 rfl (lv_at hl 0 rfl) ?_
                                                        refine r_get0 X Y (by decide) lk_now (gf_now _ _ _) rfl ((s198.2.1 4 (by decide)).trans e193) d_M_further_336 ?_
                                                        refine lv_i2l X.1 X.2.1 d_M_further_339 rfl ?_
                                                        refine t_anyl (fun v204 => ?_)
                                                        refine W.lcmp X.1 X.2.1 d_M_further_340 ?_
                                                        refine t_u (fun z205 l205 u205 => ?_)
                                                        refine z_if_gt (tgt := 347) X.1 X.2.1 d_M_further_341 (by decide) ⟨by omega, by omega⟩ (fun h206 => ?_) (fun h206 => ?_)
                                                        · as_aux_lemma =>
                                                            refine lv_aload_n X.1 X.2.1 d_M_further_347 rfl (lv_at hl 0 rfl) ?_
                                                            refine lv_aload_n X.1 X.2.1 d_M_further_348 rfl (lv_at hl 0 rfl) ?_
                                                            refine lv_aload_n X.1 X.2.1 d_M_further_349 rfl (lv_at hl 0 rfl) ?_
                                                            refine lv_iconst (v := iI 4) X.1 X.2.1 d_M_further_350 (by decide) ?_
                                                            refine lv_iconst (v := iI 3) X.1 X.2.1 d_M_further_351 (by decide) ?_
                                                            refine r_ni (m_run (As := [.int (iI 4), .int (iI 3)]) (rest := [.ref h, .ref h]) (n := 2) X Y hZ hA hml hl.1 (r_M_a l D E h q H.size I198 J198 B179 G198 4 (by decide) (by decide) 3 (by decide) (by decide) S.1) kl_M_a ks_M_a kx_M_a ki_M_a ini_M hd_M_a ⟨Nat.le_of_ble_eq_true rfl, Nat.le_of_ble_eq_true rfl⟩ rfl (Nat.le_of_ble_eq_true rfl) d_M_further_352 ⟨Nat.le_refl _, Nat.le_refl _⟩) X Y hA S (by decide) (by decide) (fun z207 u H locs Y S s207 p207 => ?_)
                                                            obtain ⟨I207, J207, B207, G207⟩ := u
                                                            dsimp only at Y S s207 p207
                                                            have i207 : I198 = I207 := (funext (fun j => s207.2.1 j (by simp))).symm
                                                            subst i207
                                                            have b207 : B179 = B207 := (funext (fun j => s207.2.2 j (by simp))).symm
                                                            subst b207
                                                            obtain ⟨l207, u207, x207⟩ := p207
                                                            refine lv_aload_n X.1 X.2.1 d_M_further_355 rfl (lv_at hl 0 rfl) ?_
                                                            refine lv_iconst (v := iI 4) X.1 X.2.1 d_M_further_356 (by decide) ?_
                                                            refine lv_iconst (v := iI 3) X.1 X.2.1 d_M_further_357 (by decide) ?_
                                                            refine r_ni (m_run (As := [.int (iI 4), .int (iI 3)]) (rest := [.int (iI z207), .ref h, .ref h]) (n := 2) X Y hZ hA hml hl.1 (r_M_b l D E h q H.size I198 J207 B179 G207 4 (by decide) (by decide) 3 (by decide) (by decide) S.1) kl_M_b ks_M_b kx_M_b ki_M_b ini_M hd_M_b ⟨Nat.le_of_ble_eq_true rfl, Nat.le_of_ble_eq_true rfl⟩ rfl (Nat.le_of_ble_eq_true rfl) d_M_further_358 ⟨Nat.le_refl _, Nat.le_refl _⟩) X Y hA S (by decide) (by decide) (fun z208 u H locs Y S s208 p208 => ?_)
                                                            obtain ⟨I208, J208, B208, G208⟩ := u
                                                            dsimp only at Y S s208 p208
                                                            have i208 : I198 = I208 := (funext (fun j => s208.2.1 j (by simp))).symm
                                                            subst i208
                                                            have b208 : B179 = B208 := (funext (fun j => s208.2.2 j (by simp))).symm
                                                            subst b208
                                                            obtain ⟨l208, u208, x208⟩ := p208
                                                            have p209 : pr z207 z208 := by rw [x207, x208]; exact (pG2_cg rfl rfl (pG2_cg rfl rfl (pG2_cg rfl rfl (pG2_cg rfl rfl (pG2_cg rfl rfl (pG2_cg rfl rfl (pG2_cg rfl rfl (pG2_cg (s179.2.2 37 (by decide)) (s179.2.2 38 (by decide)) (pG2_cg rfl rfl (pG2_cg rfl rfl (pG2_cg rfl rfl g164_P2))))))))))) (16 * 4 + 3 : Int).toNat (by omega)
                                                            unfold pr at p209
                                                            refine r_ni (m_run (As := [.int (iI z207), .int (iI z208)]) (rest := [.ref h]) (n := 2) X Y hZ hA hml hl.1 (r_M_principalAt l D E h q H.size I198 J208 B179 G208 z207 (by omega) (by omega) z208 (by omega) (by omega) S.1 (pG1_cg rfl rfl (pG1_cg rfl rfl g198_P1)) (pG2_cg rfl rfl (pG2_cg rfl rfl (pG2_cg rfl rfl (pG2_cg rfl rfl (pG2_cg rfl rfl (pG2_cg rfl rfl (pG2_cg rfl rfl (pG2_cg (s179.2.2 37 (by decide)) (s179.2.2 38 (by decide)) (pG2_cg rfl rfl (pG2_cg rfl rfl (pG2_cg rfl rfl g164_P2))))))))))) (by omega) (by omega)) kl_M_principalAt ks_M_principalAt kx_M_principalAt ki_M_principalAt ini_M hd_M_principalAt ⟨Nat.le_of_ble_eq_true rfl, Nat.le_of_ble_eq_true rfl⟩ rfl (Nat.le_of_ble_eq_true rfl) d_M_further_361 ⟨Nat.le_refl _, Nat.le_refl _⟩) X Y hA S (by decide) (by decide) (fun z210 u H locs Y S s210 p210 => ?_)
                                                            obtain ⟨I210, J210, B210, G210⟩ := u
                                                            dsimp only at Y S s210 p210
                                                            obtain ⟨l210, u210, g210_P1, g210_P2, g210_TF⟩ := p210
                                                            have f211 : sz3 (16 * 1 + 1 : Int).toNat (16 * 1 + 3 : Int).toNat (16 * 1 + 9 : Int).toNat (B210 37) (B210 38) := sz3_T g210_TF (by decide) (by decide) (sz3_cg rfl rfl (sz3_cg rfl rfl (sz3_cg rfl rfl (sz3_cg rfl rfl (sz3_cg rfl rfl (sz3_cg rfl rfl (sz3_cg rfl rfl (sz3_cg (s179.2.2 37 (by decide)) (s179.2.2 38 (by decide)) (sz3_cg rfl rfl (sz3_cg rfl rfl (sz3_cg rfl rfl f165)))))))))))
                                                            have f212 : rwO (16 * 0 + 3 : Int).toNat (B210 37) (B210 38) (B210 0) := (rwO_cg (s210.2.2 0 (by decide)) rfl rfl (rwO_T g210_TF (by decide) (by decide) (rwO_cg rfl rfl rfl (rwO_cg rfl rfl rfl f200))))
                                                            have f213 : rwA (16 * 1 + 8 : Int).toNat (B210 37) (B210 38) (B210 0) := (rwA_cg (s210.2.2 0 (by decide)) rfl rfl (rwA_T g210_TF (by decide) (by decide) (rwA_cg rfl rfl rfl (rwA_cg rfl rfl rfl f201))))
                                                            have f214 : tkA (B210 37) (B210 38) (B210 0) := (tkA_cg (s210.2.2 0 (by decide)) rfl rfl (tkA_T g210_TF (by decide) (by decide) (tkA_cg rfl rfl rfl (tkA_cg rfl rfl rfl f202))))
                                                            have f215 : auA (B210 37) (B210 38) (B210 0) := (auA_cg (s210.2.2 0 (by decide)) rfl rfl (auA_T g210_TF (by decide) (by decide) (auA_cg rfl rfl rfl (auA_cg rfl rfl rfl f203))))
                                                            refine r_puti (k := 75) X Y S (by decide) lk_client rfl rfl (t_M_ok 75 (by decide)) rfl rfl (sf_client _ _ _ _) (Nat.le_of_ble_eq_true rfl) rfl (show ((-1) : Int) ≤ z210 by omega) (show z210 ≤ (11 : Int) by omega) ⟨by omega, by omega⟩ (by decide) d_M_further_364 (fun I216 H locs Y S w216 => ?_)
                                                            refine lv_aload_n X.1 X.2.1 d_M_further_367 rfl (lv_at hl 0 rfl) ?_
                                                            refine r_get0 X Y (by decide) lk_client (gf_client _ _ _) rfl w216.1 d_M_further_368 ?_
                                                            refine z_if_ge (tgt := 377) X.1 X.2.1 d_M_further_371 (by decide) ⟨by omega, by omega⟩ (fun h217 => ?_) (fun h217 => ?_)
                                                            · as_aux_lemma =>
                                                                refine lv_aload_n X.1 X.2.1 d_M_further_377 rfl (lv_at hl 0 rfl) ?_
                                                                refine lv_aload_n X.1 X.2.1 d_M_further_378 rfl (lv_at hl 0 rfl) ?_
                                                                refine r_get0 X Y (by decide) lk_client (gf_client _ _ _) rfl w216.1 d_M_further_379 ?_
                                                                refine lv_bipush (v := iI 32) X.1 X.2.1 d_M_further_382 (by decide) ?_
                                                                refine r_ni (m_run (As := [.int (iI z210), .int (iI 32)]) (rest := []) (n := 2) X Y hZ hA hml hl.1 (r_M_says l D E h q H.size I216 J210 B210 G210 z210 (by omega) (by omega) 32 (by decide) (by decide) S.1) kl_M_says ks_M_says kx_M_says ki_M_says ini_M hd_M_says ⟨Nat.le_of_ble_eq_true rfl, Nat.le_of_ble_eq_true rfl⟩ rfl (Nat.le_of_ble_eq_true rfl) d_M_further_384 ⟨Nat.le_refl _, Nat.le_refl _⟩) X Y hA S (by decide) (by decide) (fun z218 u H locs Y S s218 p218 => ?_)
                                                                obtain ⟨I218, J218, B218, G218⟩ := u
                                                                dsimp only at Y S s218 p218
                                                                have i218 : I216 = I218 := (funext (fun j => s218.2.1 j (by simp))).symm
                                                                subst i218
                                                                have b218 : B210 = B218 := (funext (fun j => s218.2.2 j (by simp))).symm
                                                                subst b218
                                                                obtain ⟨l218, u218⟩ := p218
                                                                refine z_if_eq (tgt := 393) X.1 X.2.1 d_M_further_387 (by decide) ⟨by omega, by omega⟩ (fun h219 => ?_) (fun h219 => ?_)
                                                                · as_aux_lemma =>
                                                                    refine lv_aload_n X.1 X.2.1 d_M_further_393 rfl (lv_at hl 0 rfl) ?_
                                                                    refine lv_aload_n X.1 X.2.1 d_M_further_394 rfl (lv_at hl 0 rfl) ?_
                                                                    refine r_get0 X Y (by decide) lk_client (gf_client _ _ _) rfl w216.1 d_M_further_395 ?_
                                                                    refine r_ni (m_run (As := [.int (iI z210)]) (rest := []) (n := 1) X Y hZ hA hml hl.1 (r_M_isExpired l D E h q H.size I216 J218 B210 G218 z210 (by omega) (by omega) S.1) kl_M_isExpired ks_M_isExpired kx_M_isExpired ki_M_isExpired ini_M hd_M_isExpired ⟨Nat.le_of_ble_eq_true rfl, Nat.le_of_ble_eq_true rfl⟩ rfl (Nat.le_of_ble_eq_true rfl) d_M_further_398 ⟨Nat.le_refl _, Nat.le_refl _⟩) X Y hA S (by decide) (by decide) (fun z220 u H locs Y S s220 p220 => ?_)
                                                                    obtain ⟨I220, J220, B220, G220⟩ := u
                                                                    dsimp only at Y S s220 p220
                                                                    have i220 : I216 = I220 := (funext (fun j => s220.2.1 j (by simp))).symm
                                                                    subst i220
                                                                    have b220 : B210 = B220 := (funext (fun j => s220.2.2 j (by simp))).symm
                                                                    subst b220
                                                                    obtain ⟨l220, u220⟩ := p220
                                                                    refine z_if_eq (tgt := 406) X.1 X.2.1 d_M_further_401 (by decide) ⟨by omega, by omega⟩ (fun h221 => ?_) (fun h221 => ?_)
                                                                    · as_aux_lemma =>
                                                                        refine lv_aload_n X.1 X.2.1 d_M_further_406 rfl (lv_at hl 0 rfl) ?_
                                                                        refine r_ni (m_run (As := []) (rest := []) (n := 0) X Y hZ hA hml hl.1 (r_M_forService l D E h q H.size I216 J220 B210 G220 S.1 (pG1_cg rfl rfl (pG1_cg rfl rfl (pG1_cg (w216.2 39 (by decide)) (w216.2 40 (by decide)) g210_P1))) (pG2_cg rfl rfl (pG2_cg rfl rfl (pG2_cg rfl rfl g210_P2)))) kl_M_forService ks_M_forService kx_M_forService ki_M_forService ini_M hd_M_forService ⟨Nat.le_of_ble_eq_true rfl, Nat.le_of_ble_eq_true rfl⟩ rfl (Nat.le_of_ble_eq_true rfl) d_M_further_407 ⟨Nat.le_refl _, Nat.le_refl _⟩) X Y hA S (by decide) (by decide) (fun z222 u H locs Y S s222 p222 => ?_)
                                                                        obtain ⟨I222, J222, B222, G222⟩ := u
                                                                        dsimp only at Y S s222 p222
                                                                        obtain ⟨l222, u222, x222, g222_P1, g222_P2, g222_TF⟩ := p222
                                                                        have f223 : sz3 (16 * 1 + 1 : Int).toNat (16 * 1 + 3 : Int).toNat (16 * 1 + 9 : Int).toNat (B222 37) (B222 38) := sz3_T g222_TF (by decide) (by decide) (sz3_cg rfl rfl (sz3_cg rfl rfl (sz3_cg rfl rfl f211)))
                                                                        have f224 : rwO (16 * 0 + 3 : Int).toNat (B222 37) (B222 38) (B222 0) := (rwO_cg (s222.2.2 0 (by decide)) rfl rfl (rwO_T g222_TF (by decide) (by decide) (rwO_cg rfl rfl rfl (rwO_cg rfl rfl rfl (rwO_cg rfl rfl rfl f212)))))
                                                                        have f225 : rwA (16 * 1 + 8 : Int).toNat (B222 37) (B222 38) (B222 0) := (rwA_cg (s222.2.2 0 (by decide)) rfl rfl (rwA_T g222_TF (by decide) (by decide) (rwA_cg rfl rfl rfl (rwA_cg rfl rfl rfl (rwA_cg rfl rfl rfl f213)))))
                                                                        have f226 : tkA (B222 37) (B222 38) (B222 0) := (tkA_cg (s222.2.2 0 (by decide)) rfl rfl (tkA_T g222_TF (by decide) (by decide) (tkA_cg rfl rfl rfl (tkA_cg rfl rfl rfl (tkA_cg rfl rfl rfl f214)))))
                                                                        have f227 : auA (B222 37) (B222 38) (B222 0) := (auA_cg (s222.2.2 0 (by decide)) rfl rfl (auA_T g222_TF (by decide) (by decide) (auA_cg rfl rfl rfl (auA_cg rfl rfl rfl (auA_cg rfl rfl rfl f215)))))
                                                                        obtain ⟨z228, e228, x228, y228, y2228⟩ := x222
                                                                        refine lv_istore_n (lv' := [(3, .int (iI z222)), (0, .ref h), (4, .int (iI z186))]) X.1 X.2.1 d_M_further_410 rfl hl (by decide) rfl (fun ls hl => ?_)
                                                                        refine lv_iload_n X.1 X.2.1 d_M_further_411 rfl (lv_at hl 0 rfl) ?_
                                                                        refine z_if_eq (tgt := 417) X.1 X.2.1 d_M_further_412 (by decide) ⟨by omega, by omega⟩ (fun h229 => ?_) (fun h229 => ?_)
                                                                        · as_aux_lemma =>
                                                                            refine lv_aload_n X.1 X.2.1 d_M_further_417 rfl (lv_at hl 1 rfl) ?_
                                                                            refine lv_iconst (v := iI 2) X.1 X.2.1 d_M_further_418 (by decide) ?_
                                                                            refine p_calli (As := [.int (iI 2)]) (rest := [.ref h]) (n := 1) X Y hml hl.1 (r_M_bitOf l 2 (by decide) (by decide)) kl_M_bitOf ks_M_bitOf ki_M_bitOf ini_M hd_M_bitOf ⟨Nat.le_of_ble_eq_true rfl, Nat.le_of_ble_eq_true rfl⟩ rfl (Nat.le_of_ble_eq_true rfl) d_M_further_419 ⟨Nat.le_refl _, Nat.le_refl _⟩ (fun r230 H locs p230 Y => ?_)
                                                                            obtain ⟨z230, e230, p230⟩ := p230
                                                                            subst e230
                                                                            obtain ⟨l230, u230⟩ := p230
                                                                            refine lv_iconst (v := iI 4) X.1 X.2.1 d_M_further_422 (by decide) ?_
                                                                            refine p_calli (As := [.int (iI 4)]) (rest := [.int (iI z230), .ref h]) (n := 1) X Y hml hl.1 (r_M_bitOf l 4 (by decide) (by decide)) kl_M_bitOf ks_M_bitOf ki_M_bitOf ini_M hd_M_bitOf ⟨Nat.le_of_ble_eq_true rfl, Nat.le_of_ble_eq_true rfl⟩ rfl (Nat.le_of_ble_eq_true rfl) d_M_further_423 ⟨Nat.le_refl _, Nat.le_refl _⟩ (fun r231 H locs p231 Y => ?_)
                                                                            obtain ⟨z231, e231, p231⟩ := p231
                                                                            subst e231
                                                                            obtain ⟨l231, u231⟩ := p231
                                                                            refine lv_ior X.1 X.2.1 d_M_further_426 ?_
                                                                            refine t_u (fun z232 l232 u232 => ?_)
                                                                            refine lv_bipush (v := iI 30) X.1 X.2.1 d_M_further_427 (by decide) ?_
                                                                            refine p_calli (As := [.int (iI 30)]) (rest := [.int (iI z232), .ref h]) (n := 1) X Y hml hl.1 (r_M_bitOf l 30 (by decide) (by decide)) kl_M_bitOf ks_M_bitOf ki_M_bitOf ini_M hd_M_bitOf ⟨Nat.le_of_ble_eq_true rfl, Nat.le_of_ble_eq_true rfl⟩ rfl (Nat.le_of_ble_eq_true rfl) d_M_further_429 ⟨Nat.le_refl _, Nat.le_refl _⟩ (fun r233 H locs p233 Y => ?_)
                                                                            obtain ⟨z233, e233, p233⟩ := p233
                                                                            subst e233
                                                                            obtain ⟨l233, u233⟩ := p233
                                                                            refine lv_ior X.1 X.2.1 d_M_further_432 ?_
                                                                            refine t_u (fun z234 l234 u234 => ?_)
                                                                            refine r_ni (m_run (As := [.int (iI z234)]) (rest := []) (n := 1) X Y hZ hA hml hl.1 (r_M_mayOptions l D E h q H.size I222 J222 B222 G222 z234 (by omega) (by omega) S.1 g222_P1 g222_P2) kl_M_mayOptions ks_M_mayOptions kx_M_mayOptions ki_M_mayOptions ini_M hd_M_mayOptions ⟨Nat.le_of_ble_eq_true rfl, Nat.le_of_ble_eq_true rfl⟩ rfl (Nat.le_of_ble_eq_true rfl) d_M_further_433 ⟨Nat.le_refl _, Nat.le_refl _⟩) X Y hA S (by decide) (by decide) (fun z235 u H locs Y S s235 p235 => ?_)
                                                                            obtain ⟨I235, J235, B235, G235⟩ := u
                                                                            dsimp only at Y S s235 p235
                                                                            have b235 : B222 = B235 := (funext (fun j => s235.2.2 j (by simp))).symm
                                                                            subst b235
                                                                            have f236 : hD I235 := (hD_cg (s235.2.1 68 (by decide)) (s235.2.1 70 (by decide)) (hD_cg (s222.2.1 68 (by decide)) (s222.2.1 70 (by decide)) (hD_cg rfl rfl (hD_cg rfl rfl (hD_cg (w216.2 68 (by decide)) (w216.2 70 (by decide)) (hD_cg (s210.2.1 68 (by decide)) (s210.2.1 70 (by decide)) (hD_cg rfl rfl (hD_cg rfl rfl f199))))))))
                                                                            obtain ⟨l235, u235, g235_P1⟩ := p235
                                                                            refine z_if_ne (tgt := 442) X.1 X.2.1 d_M_further_436 (by decide) ⟨by omega, by omega⟩ (fun h237 => ?_) (fun h237 => ?_)
                                                                            · as_aux_lemma =>
                                                                                refine lv_aload_n X.1 X.2.1 d_M_further_442 rfl (lv_at hl 1 rfl) ?_
                                                                                refine lv_iconst (v := iI 1) X.1 X.2.1 d_M_further_443 (by decide) ?_
                                                                                refine lv_iconst (v := iI 0) X.1 X.2.1 d_M_further_444 (by decide) ?_
                                                                                refine r_ni (m_run (As := [.int (iI 1), .int (iI 0)]) (rest := []) (n := 2) X Y hZ hA hml hl.1 (r_M_flagsAt l D E h q H.size I235 J235 B222 G235 1 (by decide) (by decide) 0 (by decide) (by decide) S.1 g235_P1 (pG2_cg rfl rfl g222_P2)) kl_M_flagsAt ks_M_flagsAt kx_M_flagsAt ki_M_flagsAt ini_M hd_M_flagsAt ⟨Nat.le_of_ble_eq_true rfl, Nat.le_of_ble_eq_true rfl⟩ rfl (Nat.le_of_ble_eq_true rfl) d_M_further_445 ⟨Nat.le_refl _, Nat.le_refl _⟩) X Y hA S (by decide) (by decide) (fun z238 u H locs Y S s238 p238 => ?_)
                                                                                obtain ⟨I238, J238, B238, G238⟩ := u
                                                                                dsimp only at Y S s238 p238
                                                                                have b238 : B222 = B238 := (funext (fun j => s238.2.2 j (by simp))).symm
                                                                                subst b238
                                                                                obtain ⟨l238, u238, g238_P1⟩ := p238
                                                                                refine lv_istore (lv' := [(4, .int (iI z238)), (3, .int (iI z222)), (0, .ref h)]) X.1 X.2.1 d_M_further_448 hl (by decide) rfl (fun ls hl => ?_)
                                                                                refine lv_aload_n X.1 X.2.1 d_M_further_450 rfl (lv_at hl 2 rfl) ?_
                                                                                refine lv_iconst (v := iI 4) X.1 X.2.1 d_M_further_451 (by decide) ?_
                                                                                refine lv_iconst (v := iI 0) X.1 X.2.1 d_M_further_452 (by decide) ?_
                                                                                refine r_ni (m_run (As := [.int (iI 4), .int (iI 0)]) (rest := []) (n := 2) X Y hZ hA hml hl.1 (r_M_flagsAt l D E h q H.size I238 J238 B222 G238 4 (by decide) (by decide) 0 (by decide) (by decide) S.1 g238_P1 (pG2_cg rfl rfl (pG2_cg rfl rfl g222_P2))) kl_M_flagsAt ks_M_flagsAt kx_M_flagsAt ki_M_flagsAt ini_M hd_M_flagsAt ⟨Nat.le_of_ble_eq_true rfl, Nat.le_of_ble_eq_true rfl⟩ rfl (Nat.le_of_ble_eq_true rfl) d_M_further_453 ⟨Nat.le_refl _, Nat.le_refl _⟩) X Y hA S (by decide) (by decide) (fun z239 u H locs Y S s239 p239 => ?_)
                                                                                obtain ⟨I239, J239, B239, G239⟩ := u
                                                                                dsimp only at Y S s239 p239
                                                                                have b239 : B222 = B239 := (funext (fun j => s239.2.2 j (by simp))).symm
                                                                                subst b239
                                                                                obtain ⟨l239, u239, g239_P1⟩ := p239
                                                                                refine lv_istore (lv' := [(5, .int (iI z239)), (4, .int (iI z238)), (3, .int (iI z222)), (0, .ref h)]) X.1 X.2.1 d_M_further_456 hl (by decide) rfl (fun ls hl => ?_)
                                                                                refine lv_aload_n X.1 X.2.1 d_M_further_458 rfl (lv_at hl 3 rfl) ?_
                                                                                refine lv_iload X.1 X.2.1 d_M_further_459 (lv_at hl 1 rfl) ?_
                                                                                refine lv_iconst (v := iI 2) X.1 X.2.1 d_M_further_461 (by decide) ?_
                                                                                refine r_ni (m_run (As := [.int (iI z238), .int (iI 2)]) (rest := []) (n := 2) X Y hZ hA hml hl.1 (r_M_bit l D E h q H.size I239 J239 B222 G239 z238 (by omega) (by omega) 2 (by decide) (by decide) S.1) kl_M_bit ks_M_bit kx_M_bit ki_M_bit ini_M hd_M_bit ⟨Nat.le_of_ble_eq_true rfl, Nat.le_of_ble_eq_true rfl⟩ rfl (Nat.le_of_ble_eq_true rfl) d_M_further_462 ⟨Nat.le_refl _, Nat.le_refl _⟩) X Y hA S (by decide) (by decide) (fun z240 u H locs Y S s240 p240 => ?_)
                                                                                obtain ⟨I240, J240, B240, G240⟩ := u
                                                                                dsimp only at Y S s240 p240
                                                                                have i240 : I239 = I240 := (funext (fun j => s240.2.1 j (by simp))).symm
                                                                                subst i240
                                                                                have b240 : B222 = B240 := (funext (fun j => s240.2.2 j (by simp))).symm
                                                                                subst b240
                                                                                obtain ⟨l240, u240⟩ := p240
                                                                                have J254 : ∀ (I241 : Nat → Int32) (J241 : Nat → Int64) (B241 : Nat → Nat → Int32) (G241 : Nat → Nat → Int64) (H : Heap) (locs : List Loc) (ls : Array Slot), (auA (B241 37) (B241 38) (B241 0)) → (hD I241) → (pG1 I241) → (pG2 (B241 37) (B241 38)) → (rwA (16 * 1 + 8 : Int).toNat (B241 37) (B241 38) (B241 0)) → (rwO (16 * 0 + 3 : Int).toNat (B241 37) (B241 38) (B241 0)) → (sz3 (16 * 1 + 1 : Int).toNat (16 * 1 + 3 : Int).toNat (16 * 1 + 9 : Int).toNat (B241 37) (B241 38)) → (tkA (B241 37) (B241 38) (B241 0)) → (I241 75 = iI z210) → (I241 76 = iI z228) → (I241 33 = iI cn) → (I241 79 = iI z147) → mH D E (mA E h q sz) s.heap h q I241 J241 B241 G241 H locs → rS [3, 8, 14, 18, 29, 33, 36, 39, 40, 42, 54, 73, 74, 75, 76, 77, 79, 80, 81, 84, 85, 86, 87, 88, 89] [0, 1, 5, 6, 7, 9, 10, 11, 12, 13, 15, 16, 17, 19, 20, 21, 22, 23, 24, 34, 35, 37, 38, 53, 56, 58, 59, 60, 61, 62, 63, 64, 90] I B I241 B241 → lv_has ls 6 [(0, .ref h), (4, .int (iI z238)), (5, .int (iI z239))] → W p l e (mR 46 2080) s m AV below meth c H locs 0 0 QQ (F0 m 481 ls []) := by
                                                                                  as_aux_lemma =>
                                                                                    intro I241 J241 B241 G241 H locs ls f242 f243 f244 f245 f246 f247 f248 f249 e250 e251 e252 e253 Y S hl
                                                                                    refine lv_aload_n X.1 X.2.1 d_M_further_481 rfl (lv_at hl 0 rfl) ?_
                                                                                    refine lv_iload X.1 X.2.1 d_M_further_482 (lv_at hl 1 rfl) ?_
                                                                                    refine lv_iconst (v := iI 4) X.1 X.2.1 d_M_further_484 (by decide) ?_
                                                                                    refine r_ni (m_run (As := [.int (iI z238), .int (iI 4)]) (rest := []) (n := 2) X Y hZ hA hml hl.1 (r_M_bit l D E h q H.size I241 J241 B241 G241 z238 (by omega) (by omega) 4 (by decide) (by decide) S.1) kl_M_bit ks_M_bit kx_M_bit ki_M_bit ini_M hd_M_bit ⟨Nat.le_of_ble_eq_true rfl, Nat.le_of_ble_eq_true rfl⟩ rfl (Nat.le_of_ble_eq_true rfl) d_M_further_485 ⟨Nat.le_refl _, Nat.le_refl _⟩) X Y hA S (by decide) (by decide) (fun z258 u H locs Y S s258 p258 => ?_)
                                                                                    obtain ⟨I258, J258, B258, G258⟩ := u
                                                                                    dsimp only at Y S s258 p258
                                                                                    have i258 : I241 = I258 := (funext (fun j => s258.2.1 j (by simp))).symm
                                                                                    subst i258
                                                                                    have b258 : B241 = B258 := (funext (fun j => s258.2.2 j (by simp))).symm
                                                                                    subst b258
                                                                                    obtain ⟨l258, u258⟩ := p258
                                                                                    have J272 : ∀ (I259 : Nat → Int32) (J259 : Nat → Int64) (B259 : Nat → Nat → Int32) (G259 : Nat → Nat → Int64) (H : Heap) (locs : List Loc) (ls : Array Slot), (auA (B259 37) (B259 38) (B259 0)) → (hD I259) → (pG1 I259) → (pG2 (B259 37) (B259 38)) → (rwA (16 * 1 + 8 : Int).toNat (B259 37) (B259 38) (B259 0)) → (rwO (16 * 0 + 3 : Int).toNat (B259 37) (B259 38) (B259 0)) → (sz3 (16 * 1 + 1 : Int).toNat (16 * 1 + 3 : Int).toNat (16 * 1 + 9 : Int).toNat (B259 37) (B259 38)) → (tkA (B259 37) (B259 38) (B259 0)) → (I259 75 = iI z210) → (I259 76 = iI z228) → (I259 33 = iI cn) → (I259 79 = iI z147) → mH D E (mA E h q sz) s.heap h q I259 J259 B259 G259 H locs → rS [3, 8, 14, 18, 29, 33, 36, 39, 40, 42, 54, 73, 74, 75, 76, 77, 79, 80, 81, 84, 85, 86, 87, 88, 89] [0, 1, 5, 6, 7, 9, 10, 11, 12, 13, 15, 16, 17, 19, 20, 21, 22, 23, 24, 34, 35, 37, 38, 53, 56, 58, 59, 60, 61, 62, 63, 64, 90] I B I259 B259 → lv_has ls 6 [(0, .ref h), (4, .int (iI z238)), (5, .int (iI z239))] → W p l e (mR 46 2080) s m AV below meth c H locs 0 0 QQ (F0 m 511 ls []) := by
                                                                                      as_aux_lemma =>
                                                                                        intro I259 J259 B259 G259 H locs ls f260 f261 f262 f263 f264 f265 f266 f267 e268 e269 e270 e271 Y S hl
                                                                                        refine lv_aload_n X.1 X.2.1 d_M_further_511 rfl (lv_at hl 0 rfl) ?_
                                                                                        refine lv_iload X.1 X.2.1 d_M_further_512 (lv_at hl 1 rfl) ?_
                                                                                        refine lv_bipush (v := iI 30) X.1 X.2.1 d_M_further_514 (by decide) ?_
                                                                                        refine r_ni (m_run (As := [.int (iI z238), .int (iI 30)]) (rest := []) (n := 2) X Y hZ hA hml hl.1 (r_M_bit l D E h q H.size I259 J259 B259 G259 z238 (by omega) (by omega) 30 (by decide) (by decide) S.1) kl_M_bit ks_M_bit kx_M_bit ki_M_bit ini_M hd_M_bit ⟨Nat.le_of_ble_eq_true rfl, Nat.le_of_ble_eq_true rfl⟩ rfl (Nat.le_of_ble_eq_true rfl) d_M_further_516 ⟨Nat.le_refl _, Nat.le_refl _⟩) X Y hA S (by decide) (by decide) (fun z276 u H locs Y S s276 p276 => ?_)
                                                                                        obtain ⟨I276, J276, B276, G276⟩ := u
                                                                                        dsimp only at Y S s276 p276
                                                                                        have i276 : I259 = I276 := (funext (fun j => s276.2.1 j (by simp))).symm
                                                                                        subst i276
                                                                                        have b276 : B259 = B276 := (funext (fun j => s276.2.2 j (by simp))).symm
                                                                                        subst b276
                                                                                        obtain ⟨l276, u276⟩ := p276
                                                                                        have J290 : ∀ (I277 : Nat → Int32) (J277 : Nat → Int64) (B277 : Nat → Nat → Int32) (G277 : Nat → Nat → Int64) (H : Heap) (locs : List Loc) (ls : Array Slot), (auA (B277 37) (B277 38) (B277 0)) → (hD I277) → (pG1 I277) → (pG2 (B277 37) (B277 38)) → (rwA (16 * 1 + 8 : Int).toNat (B277 37) (B277 38) (B277 0)) → (rwO (16 * 0 + 3 : Int).toNat (B277 37) (B277 38) (B277 0)) → (sz3 (16 * 1 + 1 : Int).toNat (16 * 1 + 3 : Int).toNat (16 * 1 + 9 : Int).toNat (B277 37) (B277 38)) → (tkA (B277 37) (B277 38) (B277 0)) → (I277 75 = iI z210) → (I277 76 = iI z228) → (I277 33 = iI cn) → (I277 79 = iI z147) → mH D E (mA E h q sz) s.heap h q I277 J277 B277 G277 H locs → rS [3, 8, 14, 18, 29, 33, 36, 39, 40, 42, 54, 73, 74, 75, 76, 77, 79, 80, 81, 84, 85, 86, 87, 88, 89] [0, 1, 5, 6, 7, 9, 10, 11, 12, 13, 15, 16, 17, 19, 20, 21, 22, 23, 24, 34, 35, 37, 38, 53, 56, 58, 59, 60, 61, 62, 63, 64, 90] I B I277 B277 → lv_has ls 6 [(0, .ref h)] → W p l e (mR 46 2080) s m AV below meth c H locs 0 0 QQ (F0 m 572 ls []) := by
                                                                                          as_aux_lemma =>
                                                                                            intro I277 J277 B277 G277 H locs ls f278 f279 f280 f281 f282 f283 f284 f285 e286 e287 e288 e289 Y S hl
                                                                                            refine lv_aload_n X.1 X.2.1 d_M_further_572 rfl (lv_at hl 0 rfl) ?_
                                                                                            refine lv_aload_n X.1 X.2.1 d_M_further_573 rfl (lv_at hl 0 rfl) ?_
                                                                                            refine lv_iconst (v := iI 0) X.1 X.2.1 d_M_further_574 (by decide) ?_
                                                                                            refine r_ni (m_run (As := [.int (iI 0)]) (rest := [.ref h]) (n := 1) X Y hZ hA hml hl.1 (r_M_typeAsked l D E h q H.size I277 J277 B277 G277 0 (by decide) (by decide) S.1 f280 f281 f282) kl_M_typeAsked ks_M_typeAsked kx_M_typeAsked ki_M_typeAsked ini_M hd_M_typeAsked ⟨Nat.le_of_ble_eq_true rfl, Nat.le_of_ble_eq_true rfl⟩ rfl (Nat.le_of_ble_eq_true rfl) d_M_further_575 ⟨Nat.le_refl _, Nat.le_refl _⟩) X Y hA S (by decide) (by decide) (fun z294 u H locs Y S s294 p294 => ?_)
                                                                                            obtain ⟨I294, J294, B294, G294⟩ := u
                                                                                            dsimp only at Y S s294 p294
                                                                                            have b294 : B277 = B294 := (funext (fun j => s294.2.2 j (by simp))).symm
                                                                                            subst b294
                                                                                            obtain ⟨l294, u294, x294, g294_P1⟩ := p294
                                                                                            refine r_puti (k := 77) X Y S (by decide) lk_type rfl rfl (t_M_ok 77 (by decide)) rfl rfl (sf_type _ _ _ _) (Nat.le_of_ble_eq_true rfl) rfl (show ((-2147483648) : Int) ≤ z294 by omega) (show z294 ≤ (2147483647 : Int) by omega) ⟨by omega, by omega⟩ (by decide) d_M_further_578 (fun I295 H locs Y S w295 => ?_)
                                                                                            refine lv_aload_n X.1 X.2.1 d_M_further_581 rfl (lv_at hl 0 rfl) ?_
                                                                                            refine r_get0 X Y (by decide) lk_type (gf_type _ _ _) rfl w295.1 d_M_further_582 ?_
                                                                                            refine z_if_ne (tgt := 593) X.1 X.2.1 d_M_further_585 (by decide) ⟨by omega, by omega⟩ (fun h296 => ?_) (fun h296 => ?_)
                                                                                            · refine lv_aload_n X.1 X.2.1 d_M_further_593 rfl (lv_at hl 0 rfl) ?_
                                                                                              obtain ⟨z297, e297, l297, u297⟩ := r_rng (k := 69) (lo := 0) (hi := 1) S rfl
                                                                                              refine r_ni (m_run (As := []) (rest := []) (n := 0) X Y hZ hA hml hl.1 (r_M_issued l D E h q H.size I295 J294 B277 G294 S.1 z210 ((w295.2 75 (by decide)).trans ((s294.2.1 75 (by decide)).trans e286)) (by omega) (by omega) z228 ((w295.2 76 (by decide)).trans ((s294.2.1 76 (by decide)).trans e287)) (by omega) (by omega) z294 w295.1 (by omega) (by omega) cn ((w295.2 33 (by decide)).trans ((s294.2.1 33 (by decide)).trans e288)) (by omega) (by omega) z297 e297 (by omega) (by omega) (pG1_cg (w295.2 39 (by decide)) (w295.2 40 (by decide)) g294_P1) (pG2_cg rfl rfl (pG2_cg rfl rfl f281)) (sz3_cg rfl rfl (sz3_cg rfl rfl f284)) (Or.inr ((tkA_cg rfl rfl rfl (tkA_cg rfl rfl rfl f285))).1.2.2.2)) kl_M_issued ks_M_issued kx_M_issued ki_M_issued ini_M hd_M_issued ⟨Nat.le_of_ble_eq_true rfl, Nat.le_of_ble_eq_true rfl⟩ rfl (Nat.le_of_ble_eq_true rfl) d_M_further_594 ⟨Nat.le_refl _, Nat.le_refl _⟩) X Y hA S (by decide) (by decide) (fun z298 u H locs Y S s298 p298 => ?_)
                                                                                              obtain ⟨I298, J298, B298, G298⟩ := u
                                                                                              dsimp only at Y S s298 p298
                                                                                              obtain ⟨l298, u298, x298, g298_P1, g298_P2, g298_TF⟩ := p298
                                                                                              have f299 : sz3 (16 * 1 + 1 : Int).toNat (16 * 1 + 3 : Int).toNat (16 * 1 + 9 : Int).toNat (B298 37) (B298 38) := sz3_T g298_TF (by decide) (by decide) (sz3_cg rfl rfl (sz3_cg rfl rfl f284))
                                                                                              have f300 : rwO (16 * 0 + 3 : Int).toNat (B298 37) (B298 38) (B298 0) := (rwO_cg (s298.2.2 0 (by decide)) rfl rfl (rwO_T g298_TF (by decide) (by decide) (rwO_cg rfl rfl rfl (rwO_cg rfl rfl rfl f283))))
                                                                                              have f301 : rwA (16 * 1 + 8 : Int).toNat (B298 37) (B298 38) (B298 0) := (rwA_cg (s298.2.2 0 (by decide)) rfl rfl (rwA_T g298_TF (by decide) (by decide) (rwA_cg rfl rfl rfl (rwA_cg rfl rfl rfl f282))))
                                                                                              have f302 : tkA (B298 37) (B298 38) (B298 0) := (tkA_cg (s298.2.2 0 (by decide)) rfl rfl (tkA_T g298_TF (by decide) (by decide) (tkA_cg rfl rfl rfl (tkA_cg rfl rfl rfl f285))))
                                                                                              have f303 : auA (B298 37) (B298 38) (B298 0) := (auA_cg (s298.2.2 0 (by decide)) rfl rfl (auA_T g298_TF (by decide) (by decide) (auA_cg rfl rfl rfl (auA_cg rfl rfl rfl f278))))
                                                                                              obtain ⟨z304, e304, l304, u304⟩ := x298
                                                                                              exact m_reti hQQ X Y hr hlk ⟨S, z298, rfl, ⟨by omega, by omega, ⟨z304, e304, by omega, by omega⟩, g298_P1, g298_P2, (hD_cg (s298.2.1 68 (by decide)) (s298.2.1 70 (by decide)) (hD_cg (w295.2 68 (by decide)) (w295.2 70 (by decide)) (hD_cg (s294.2.1 68 (by decide)) (s294.2.1 70 (by decide)) f279)))⟩⟩ d_M_further_597
                                                                                            · refine lv_bipush (v := iI 14) X.1 X.2.1 d_M_further_588 (by decide) ?_
                                                                                              refine lv_goto (tgt := 597) X.1 X.2.1 d_M_further_590 (by decide) ?_
                                                                                              exact m_reti hQQ X Y hr hlk ⟨S, 14, rfl, ⟨by omega, by omega, ⟨cn, ((w295.2 33 (by decide)).trans ((s294.2.1 33 (by decide)).trans e288)), by omega, by omega⟩, (pG1_cg (w295.2 39 (by decide)) (w295.2 40 (by decide)) g294_P1), (pG2_cg rfl rfl (pG2_cg rfl rfl f281)), (hD_cg (w295.2 68 (by decide)) (w295.2 70 (by decide)) (hD_cg (s294.2.1 68 (by decide)) (s294.2.1 70 (by decide)) f279))⟩⟩ d_M_further_597
                                                                                        refine z_if_eq (tgt := 572) X.1 X.2.1 d_M_further_519 (by decide) ⟨by omega, by omega⟩ (fun h305 => ?_) (fun h305 => ?_)
                                                                                        · exact J290 I259 J276 B259 G276 _ _ _ (auA_cg rfl rfl rfl f260) (hD_cg rfl rfl f261) (pG1_cg rfl rfl f262) (pG2_cg rfl rfl f263) (rwA_cg rfl rfl rfl f264) (rwO_cg rfl rfl rfl f265) (sz3_cg rfl rfl f266) (tkA_cg rfl rfl rfl f267) e268 e269 e270 e271 Y S (lv_sub hl [0] rfl)
                                                                                        · as_aux_lemma =>
                                                                                            refine lv_aload_n X.1 X.2.1 d_M_further_522 rfl (lv_at hl 0 rfl) ?_
                                                                                            refine lv_iload X.1 X.2.1 d_M_further_523 (lv_at hl 2 rfl) ?_
                                                                                            refine lv_bipush (v := iI 8) X.1 X.2.1 d_M_further_525 (by decide) ?_
                                                                                            refine r_ni (m_run (As := [.int (iI z239), .int (iI 8)]) (rest := []) (n := 2) X Y hZ hA hml hl.1 (r_M_bit l D E h q H.size I259 J276 B259 G276 z239 (by omega) (by omega) 8 (by decide) (by decide) S.1) kl_M_bit ks_M_bit kx_M_bit ki_M_bit ini_M hd_M_bit ⟨Nat.le_of_ble_eq_true rfl, Nat.le_of_ble_eq_true rfl⟩ rfl (Nat.le_of_ble_eq_true rfl) d_M_further_527 ⟨Nat.le_refl _, Nat.le_refl _⟩) X Y hA S (by decide) (by decide) (fun z306 u H locs Y S s306 p306 => ?_)
                                                                                            obtain ⟨I306, J306, B306, G306⟩ := u
                                                                                            dsimp only at Y S s306 p306
                                                                                            have i306 : I259 = I306 := (funext (fun j => s306.2.1 j (by simp))).symm
                                                                                            subst i306
                                                                                            have b306 : B259 = B306 := (funext (fun j => s306.2.2 j (by simp))).symm
                                                                                            subst b306
                                                                                            obtain ⟨l306, u306⟩ := p306
                                                                                            refine z_if_eq (tgt := 550) X.1 X.2.1 d_M_further_530 (by decide) ⟨by omega, by omega⟩ (fun h307 => ?_) (fun h307 => ?_)
                                                                                            · refine lv_bipush (v := iI 13) X.1 X.2.1 d_M_further_550 (by decide) ?_
                                                                                              exact m_reti hQQ X Y hr hlk ⟨S, 13, rfl, ⟨by omega, by omega, ⟨cn, e270, by omega, by omega⟩, (pG1_cg rfl rfl (pG1_cg rfl rfl f262)), (pG2_cg rfl rfl (pG2_cg rfl rfl f263)), (hD_cg rfl rfl (hD_cg rfl rfl f261))⟩⟩ d_M_further_552
                                                                                            · as_aux_lemma =>
                                                                                                refine lv_aload_n X.1 X.2.1 d_M_further_533 rfl (lv_at hl 0 rfl) ?_
                                                                                                refine r_get0 X Y (by decide) lk_service (gf_service _ _ _) rfl e269 d_M_further_534 ?_
                                                                                                refine z_if_ne (tgt := 550) X.1 X.2.1 d_M_further_537 (by decide) ⟨by omega, by omega⟩ (fun h308 => ?_) (fun h308 => ?_)
                                                                                                · refine lv_bipush (v := iI 13) X.1 X.2.1 d_M_further_550 (by decide) ?_
                                                                                                  exact m_reti hQQ X Y hr hlk ⟨S, 13, rfl, ⟨by omega, by omega, ⟨cn, e270, by omega, by omega⟩, (pG1_cg rfl rfl (pG1_cg rfl rfl f262)), (pG2_cg rfl rfl (pG2_cg rfl rfl f263)), (hD_cg rfl rfl (hD_cg rfl rfl f261))⟩⟩ d_M_further_552
                                                                                                · as_aux_lemma =>
                                                                                                    refine lv_aload_n X.1 X.2.1 d_M_further_540 rfl (lv_at hl 0 rfl) ?_
                                                                                                    refine lv_iconst (v := iI 4) X.1 X.2.1 d_M_further_541 (by decide) ?_
                                                                                                    refine lv_bipush (v := iI 8) X.1 X.2.1 d_M_further_542 (by decide) ?_
                                                                                                    refine r_ni (m_run (As := [.int (iI 4), .int (iI 8)]) (rest := []) (n := 2) X Y hZ hA hml hl.1 (r_M_has l D E h q H.size I259 J306 B259 G306 4 (by decide) (by decide) 8 (by decide) (by decide) S.1) kl_M_has ks_M_has kx_M_has ki_M_has ini_M hd_M_has ⟨Nat.le_of_ble_eq_true rfl, Nat.le_of_ble_eq_true rfl⟩ rfl (Nat.le_of_ble_eq_true rfl) d_M_further_544 ⟨Nat.le_refl _, Nat.le_refl _⟩) X Y hA S (by decide) (by decide) (fun z309 u H locs Y S s309 p309 => ?_)
                                                                                                    obtain ⟨I309, J309, B309, G309⟩ := u
                                                                                                    dsimp only at Y S s309 p309
                                                                                                    have i309 : I259 = I309 := (funext (fun j => s309.2.1 j (by simp))).symm
                                                                                                    subst i309
                                                                                                    have b309 : B259 = B309 := (funext (fun j => s309.2.2 j (by simp))).symm
                                                                                                    subst b309
                                                                                                    obtain ⟨l309, u309, x309⟩ := p309
                                                                                                    refine z_if_ne (tgt := 553) X.1 X.2.1 d_M_further_547 (by decide) ⟨by omega, by omega⟩ (fun h310 => ?_) (fun h310 => ?_)
                                                                                                    · refine lv_aload_n X.1 X.2.1 d_M_further_553 rfl (lv_at hl 0 rfl) ?_
                                                                                                      refine lv_iconst (v := iI 4) X.1 X.2.1 d_M_further_554 (by decide) ?_
                                                                                                      refine lv_bipush (v := iI 8) X.1 X.2.1 d_M_further_555 (by decide) ?_
                                                                                                      refine r_nl (m_run (As := [.int (iI 4), .int (iI 8)]) (rest := []) (n := 2) X Y hZ hA hml hl.1 (r_M_timeOf l D E h q H.size I259 J309 B259 G309 4 (by decide) (by decide) 8 (by decide) (by decide) S.1 (pG1_cg rfl rfl (pG1_cg rfl rfl (pG1_cg rfl rfl f262))) (pG2_cg rfl rfl (pG2_cg rfl rfl (pG2_cg rfl rfl f263)))) kl_M_timeOf ks_M_timeOf kx_M_timeOf ki_M_timeOf ini_M hd_M_timeOf ⟨Nat.le_of_ble_eq_true rfl, Nat.le_of_ble_eq_true rfl⟩ rfl (Nat.le_of_ble_eq_true rfl) d_M_further_557 ⟨Nat.le_refl _, Nat.le_refl _⟩) X Y hA S (by decide) (by decide) (fun v311 u H locs Y S s311 p311 => ?_)
                                                                                                      obtain ⟨I311, J311, B311, G311⟩ := u
                                                                                                      dsimp only at Y S s311 p311
                                                                                                      have b311 : B259 = B311 := (funext (fun j => s311.2.2 j (by simp))).symm
                                                                                                      subst b311
                                                                                                      have g311_P1 := p311
                                                                                                      refine lv_aload_n X.1 X.2.1 d_M_further_560 rfl (lv_at hl 0 rfl) ?_
                                                                                                      refine r_geti (k := 4) X Y S (by decide) lk_now (gf_now _ _ _) rfl rfl d_M_further_561 (fun z312 e312 l312 u312 => ?_)
                                                                                                      refine lv_i2l X.1 X.2.1 d_M_further_564 rfl ?_
                                                                                                      refine t_anyl (fun v313 => ?_)
                                                                                                      refine W.lcmp X.1 X.2.1 d_M_further_565 ?_
                                                                                                      refine t_u (fun z314 l314 u314 => ?_)
                                                                                                      refine z_if_gt (tgt := 572) X.1 X.2.1 d_M_further_566 (by decide) ⟨by omega, by omega⟩ (fun h315 => ?_) (fun h315 => ?_)
                                                                                                      · exact J290 I311 J311 B259 G311 _ _ _ (auA_cg rfl rfl rfl (auA_cg rfl rfl rfl (auA_cg rfl rfl rfl (auA_cg rfl rfl rfl f260)))) (hD_cg (s311.2.1 68 (by decide)) (s311.2.1 70 (by decide)) (hD_cg rfl rfl (hD_cg rfl rfl (hD_cg rfl rfl f261)))) g311_P1 (pG2_cg rfl rfl (pG2_cg rfl rfl (pG2_cg rfl rfl (pG2_cg rfl rfl f263)))) (rwA_cg rfl rfl rfl (rwA_cg rfl rfl rfl (rwA_cg rfl rfl rfl (rwA_cg rfl rfl rfl f264)))) (rwO_cg rfl rfl rfl (rwO_cg rfl rfl rfl (rwO_cg rfl rfl rfl (rwO_cg rfl rfl rfl f265)))) (sz3_cg rfl rfl (sz3_cg rfl rfl (sz3_cg rfl rfl (sz3_cg rfl rfl f266)))) (tkA_cg rfl rfl rfl (tkA_cg rfl rfl rfl (tkA_cg rfl rfl rfl (tkA_cg rfl rfl rfl f267)))) ((s311.2.1 75 (by decide)).trans e268) ((s311.2.1 76 (by decide)).trans e269) ((s311.2.1 33 (by decide)).trans e270) ((s311.2.1 79 (by decide)).trans e271) Y S (lv_sub hl [0] rfl)
                                                                                                      · refine lv_bipush (v := iI 32) X.1 X.2.1 d_M_further_569 (by decide) ?_
                                                                                                        exact m_reti hQQ X Y hr hlk ⟨S, 32, rfl, ⟨by omega, by omega, ⟨cn, ((s311.2.1 33 (by decide)).trans e270), by omega, by omega⟩, g311_P1, (pG2_cg rfl rfl (pG2_cg rfl rfl (pG2_cg rfl rfl (pG2_cg rfl rfl f263)))), (hD_cg (s311.2.1 68 (by decide)) (s311.2.1 70 (by decide)) (hD_cg rfl rfl (hD_cg rfl rfl (hD_cg rfl rfl f261))))⟩⟩ d_M_further_571
                                                                                                    · refine lv_bipush (v := iI 13) X.1 X.2.1 d_M_further_550 (by decide) ?_
                                                                                                      exact m_reti hQQ X Y hr hlk ⟨S, 13, rfl, ⟨by omega, by omega, ⟨cn, e270, by omega, by omega⟩, (pG1_cg rfl rfl (pG1_cg rfl rfl (pG1_cg rfl rfl f262))), (pG2_cg rfl rfl (pG2_cg rfl rfl (pG2_cg rfl rfl f263))), (hD_cg rfl rfl (hD_cg rfl rfl (hD_cg rfl rfl f261)))⟩⟩ d_M_further_552
                                                                                    refine z_if_eq (tgt := 511) X.1 X.2.1 d_M_further_488 (by decide) ⟨by omega, by omega⟩ (fun h316 => ?_) (fun h316 => ?_)
                                                                                    · exact J272 I241 J258 B241 G258 _ _ _ (auA_cg rfl rfl rfl f242) (hD_cg rfl rfl f243) (pG1_cg rfl rfl f244) (pG2_cg rfl rfl f245) (rwA_cg rfl rfl rfl f246) (rwO_cg rfl rfl rfl f247) (sz3_cg rfl rfl f248) (tkA_cg rfl rfl rfl f249) e250 e251 e252 e253 Y S (lv_sub hl [0, 1, 2] rfl)
                                                                                    · refine lv_aload_n X.1 X.2.1 d_M_further_491 rfl (lv_at hl 0 rfl) ?_
                                                                                      refine lv_iload X.1 X.2.1 d_M_further_492 (lv_at hl 2 rfl) ?_
                                                                                      refine lv_iconst (v := iI 3) X.1 X.2.1 d_M_further_494 (by decide) ?_
                                                                                      refine r_ni (m_run (As := [.int (iI z239), .int (iI 3)]) (rest := []) (n := 2) X Y hZ hA hml hl.1 (r_M_bit l D E h q H.size I241 J258 B241 G258 z239 (by omega) (by omega) 3 (by decide) (by decide) S.1) kl_M_bit ks_M_bit kx_M_bit ki_M_bit ini_M hd_M_bit ⟨Nat.le_of_ble_eq_true rfl, Nat.le_of_ble_eq_true rfl⟩ rfl (Nat.le_of_ble_eq_true rfl) d_M_further_495 ⟨Nat.le_refl _, Nat.le_refl _⟩) X Y hA S (by decide) (by decide) (fun z317 u H locs Y S s317 p317 => ?_)
                                                                                      obtain ⟨I317, J317, B317, G317⟩ := u
                                                                                      dsimp only at Y S s317 p317
                                                                                      have i317 : I241 = I317 := (funext (fun j => s317.2.1 j (by simp))).symm
                                                                                      subst i317
                                                                                      have b317 : B241 = B317 := (funext (fun j => s317.2.2 j (by simp))).symm
                                                                                      subst b317
                                                                                      obtain ⟨l317, u317⟩ := p317
                                                                                      refine z_if_eq (tgt := 508) X.1 X.2.1 d_M_further_498 (by decide) ⟨by omega, by omega⟩ (fun h318 => ?_) (fun h318 => ?_)
                                                                                      · refine lv_bipush (v := iI 13) X.1 X.2.1 d_M_further_508 (by decide) ?_
                                                                                        exact m_reti hQQ X Y hr hlk ⟨S, 13, rfl, ⟨by omega, by omega, ⟨cn, e252, by omega, by omega⟩, (pG1_cg rfl rfl (pG1_cg rfl rfl f244)), (pG2_cg rfl rfl (pG2_cg rfl rfl f245)), (hD_cg rfl rfl (hD_cg rfl rfl f243))⟩⟩ d_M_further_510
                                                                                      · refine lv_aload_n X.1 X.2.1 d_M_further_501 rfl (lv_at hl 0 rfl) ?_
                                                                                        refine r_get0 X Y (by decide) lk_service (gf_service _ _ _) rfl e251 d_M_further_502 ?_
                                                                                        refine z_if_ne (tgt := 511) X.1 X.2.1 d_M_further_505 (by decide) ⟨by omega, by omega⟩ (fun h319 => ?_) (fun h319 => ?_)
                                                                                        · exact J272 I241 J317 B241 G317 _ _ _ (auA_cg rfl rfl rfl (auA_cg rfl rfl rfl f242)) (hD_cg rfl rfl (hD_cg rfl rfl f243)) (pG1_cg rfl rfl (pG1_cg rfl rfl f244)) (pG2_cg rfl rfl (pG2_cg rfl rfl f245)) (rwA_cg rfl rfl rfl (rwA_cg rfl rfl rfl f246)) (rwO_cg rfl rfl rfl (rwO_cg rfl rfl rfl f247)) (sz3_cg rfl rfl (sz3_cg rfl rfl f248)) (tkA_cg rfl rfl rfl (tkA_cg rfl rfl rfl f249)) e250 e251 e252 e253 Y S (lv_sub hl [0, 1, 2] rfl)
                                                                                        · refine lv_bipush (v := iI 13) X.1 X.2.1 d_M_further_508 (by decide) ?_
                                                                                          exact m_reti hQQ X Y hr hlk ⟨S, 13, rfl, ⟨by omega, by omega, ⟨cn, e252, by omega, by omega⟩, (pG1_cg rfl rfl (pG1_cg rfl rfl f244)), (pG2_cg rfl rfl (pG2_cg rfl rfl f245)), (hD_cg rfl rfl (hD_cg rfl rfl f243))⟩⟩ d_M_further_510
                                                                                refine z_if_eq (tgt := 481) X.1 X.2.1 d_M_further_465 (by decide) ⟨by omega, by omega⟩ (fun h320 => ?_) (fun h320 => ?_)
                                                                                · exact J254 I239 J240 B222 G240 _ _ _ (auA_cg rfl rfl rfl (auA_cg rfl rfl rfl (auA_cg rfl rfl rfl (auA_cg rfl rfl rfl f227)))) (hD_cg rfl rfl (hD_cg (s239.2.1 68 (by decide)) (s239.2.1 70 (by decide)) (hD_cg (s238.2.1 68 (by decide)) (s238.2.1 70 (by decide)) f236))) (pG1_cg rfl rfl g239_P1) (pG2_cg rfl rfl (pG2_cg rfl rfl (pG2_cg rfl rfl (pG2_cg rfl rfl g222_P2)))) (rwA_cg rfl rfl rfl (rwA_cg rfl rfl rfl (rwA_cg rfl rfl rfl (rwA_cg rfl rfl rfl f225)))) (rwO_cg rfl rfl rfl (rwO_cg rfl rfl rfl (rwO_cg rfl rfl rfl (rwO_cg rfl rfl rfl f224)))) (sz3_cg rfl rfl (sz3_cg rfl rfl (sz3_cg rfl rfl (sz3_cg rfl rfl f223)))) (tkA_cg rfl rfl rfl (tkA_cg rfl rfl rfl (tkA_cg rfl rfl rfl (tkA_cg rfl rfl rfl f226)))) ((s239.2.1 75 (by decide)).trans ((s238.2.1 75 (by decide)).trans ((s235.2.1 75 (by decide)).trans ((s222.2.1 75 (by decide)).trans w216.1)))) ((s239.2.1 76 (by decide)).trans ((s238.2.1 76 (by decide)).trans ((s235.2.1 76 (by decide)).trans e228))) ((s239.2.1 33 (by decide)).trans ((s238.2.1 33 (by decide)).trans ((s235.2.1 33 (by decide)).trans ((s222.2.1 33 (by decide)).trans ((w216.2 33 (by decide)).trans ((s210.2.1 33 (by decide)).trans ((s198.2.1 33 (by decide)).trans ((s192.2.1 33 (by decide)).trans ((s183.2.1 33 (by decide)).trans ((s179.2.1 33 (by decide)).trans ((s170.2.1 33 (by decide)).trans ((s164.2.1 33 (by decide)).trans ((s152.2.1 33 (by decide)).trans ((s141.2.1 33 (by decide)).trans ((s132.2.1 33 (by decide)).trans ((s128.2.1 33 (by decide)).trans ((s124.2.1 33 (by decide)).trans ((s117.2.1 33 (by decide)).trans ((s114.2.1 33 (by decide)).trans ((s107.2.1 33 (by decide)).trans ((s101.2.1 33 (by decide)).trans gcn))))))))))))))))))))) ((s239.2.1 79 (by decide)).trans ((s238.2.1 79 (by decide)).trans ((s235.2.1 79 (by decide)).trans ((s222.2.1 79 (by decide)).trans ((w216.2 79 (by decide)).trans ((s210.2.1 79 (by decide)).trans ((s198.2.1 79 (by decide)).trans ((s192.2.1 79 (by decide)).trans ((s183.2.1 79 (by decide)).trans ((s179.2.1 79 (by decide)).trans ((s170.2.1 79 (by decide)).trans ((s164.2.1 79 (by decide)).trans ((s152.2.1 79 (by decide)).trans e147))))))))))))) Y S (lv_sub hl [3, 1, 0] rfl)
                                                                                · refine lv_aload_n X.1 X.2.1 d_M_further_468 rfl (lv_at hl 3 rfl) ?_
                                                                                  refine lv_iload X.1 X.2.1 d_M_further_469 (lv_at hl 0 rfl) ?_
                                                                                  refine lv_iconst (v := iI 1) X.1 X.2.1 d_M_further_471 (by decide) ?_
                                                                                  refine r_ni (m_run (As := [.int (iI z239), .int (iI 1)]) (rest := []) (n := 2) X Y hZ hA hml hl.1 (r_M_bit l D E h q H.size I239 J240 B222 G240 z239 (by omega) (by omega) 1 (by decide) (by decide) S.1) kl_M_bit ks_M_bit kx_M_bit ki_M_bit ini_M hd_M_bit ⟨Nat.le_of_ble_eq_true rfl, Nat.le_of_ble_eq_true rfl⟩ rfl (Nat.le_of_ble_eq_true rfl) d_M_further_472 ⟨Nat.le_refl _, Nat.le_refl _⟩) X Y hA S (by decide) (by decide) (fun z321 u H locs Y S s321 p321 => ?_)
                                                                                  obtain ⟨I321, J321, B321, G321⟩ := u
                                                                                  dsimp only at Y S s321 p321
                                                                                  have i321 : I239 = I321 := (funext (fun j => s321.2.1 j (by simp))).symm
                                                                                  subst i321
                                                                                  have b321 : B222 = B321 := (funext (fun j => s321.2.2 j (by simp))).symm
                                                                                  subst b321
                                                                                  obtain ⟨l321, u321⟩ := p321
                                                                                  refine z_if_ne (tgt := 481) X.1 X.2.1 d_M_further_475 (by decide) ⟨by omega, by omega⟩ (fun h322 => ?_) (fun h322 => ?_)
                                                                                  · exact J254 I239 J321 B222 G321 _ _ _ (auA_cg rfl rfl rfl (auA_cg rfl rfl rfl (auA_cg rfl rfl rfl (auA_cg rfl rfl rfl (auA_cg rfl rfl rfl f227))))) (hD_cg rfl rfl (hD_cg rfl rfl (hD_cg (s239.2.1 68 (by decide)) (s239.2.1 70 (by decide)) (hD_cg (s238.2.1 68 (by decide)) (s238.2.1 70 (by decide)) f236)))) (pG1_cg rfl rfl (pG1_cg rfl rfl g239_P1)) (pG2_cg rfl rfl (pG2_cg rfl rfl (pG2_cg rfl rfl (pG2_cg rfl rfl (pG2_cg rfl rfl g222_P2))))) (rwA_cg rfl rfl rfl (rwA_cg rfl rfl rfl (rwA_cg rfl rfl rfl (rwA_cg rfl rfl rfl (rwA_cg rfl rfl rfl f225))))) (rwO_cg rfl rfl rfl (rwO_cg rfl rfl rfl (rwO_cg rfl rfl rfl (rwO_cg rfl rfl rfl (rwO_cg rfl rfl rfl f224))))) (sz3_cg rfl rfl (sz3_cg rfl rfl (sz3_cg rfl rfl (sz3_cg rfl rfl (sz3_cg rfl rfl f223))))) (tkA_cg rfl rfl rfl (tkA_cg rfl rfl rfl (tkA_cg rfl rfl rfl (tkA_cg rfl rfl rfl (tkA_cg rfl rfl rfl f226))))) ((s239.2.1 75 (by decide)).trans ((s238.2.1 75 (by decide)).trans ((s235.2.1 75 (by decide)).trans ((s222.2.1 75 (by decide)).trans w216.1)))) ((s239.2.1 76 (by decide)).trans ((s238.2.1 76 (by decide)).trans ((s235.2.1 76 (by decide)).trans e228))) ((s239.2.1 33 (by decide)).trans ((s238.2.1 33 (by decide)).trans ((s235.2.1 33 (by decide)).trans ((s222.2.1 33 (by decide)).trans ((w216.2 33 (by decide)).trans ((s210.2.1 33 (by decide)).trans ((s198.2.1 33 (by decide)).trans ((s192.2.1 33 (by decide)).trans ((s183.2.1 33 (by decide)).trans ((s179.2.1 33 (by decide)).trans ((s170.2.1 33 (by decide)).trans ((s164.2.1 33 (by decide)).trans ((s152.2.1 33 (by decide)).trans ((s141.2.1 33 (by decide)).trans ((s132.2.1 33 (by decide)).trans ((s128.2.1 33 (by decide)).trans ((s124.2.1 33 (by decide)).trans ((s117.2.1 33 (by decide)).trans ((s114.2.1 33 (by decide)).trans ((s107.2.1 33 (by decide)).trans ((s101.2.1 33 (by decide)).trans gcn))))))))))))))))))))) ((s239.2.1 79 (by decide)).trans ((s238.2.1 79 (by decide)).trans ((s235.2.1 79 (by decide)).trans ((s222.2.1 79 (by decide)).trans ((w216.2 79 (by decide)).trans ((s210.2.1 79 (by decide)).trans ((s198.2.1 79 (by decide)).trans ((s192.2.1 79 (by decide)).trans ((s183.2.1 79 (by decide)).trans ((s179.2.1 79 (by decide)).trans ((s170.2.1 79 (by decide)).trans ((s164.2.1 79 (by decide)).trans ((s152.2.1 79 (by decide)).trans e147))))))))))))) Y S (lv_sub hl [3, 1, 0] rfl)
                                                                                  · refine lv_bipush (v := iI 13) X.1 X.2.1 d_M_further_478 (by decide) ?_
                                                                                    exact m_reti hQQ X Y hr hlk ⟨S, 13, rfl, ⟨by omega, by omega, ⟨cn, ((s239.2.1 33 (by decide)).trans ((s238.2.1 33 (by decide)).trans ((s235.2.1 33 (by decide)).trans ((s222.2.1 33 (by decide)).trans ((w216.2 33 (by decide)).trans ((s210.2.1 33 (by decide)).trans ((s198.2.1 33 (by decide)).trans ((s192.2.1 33 (by decide)).trans ((s183.2.1 33 (by decide)).trans ((s179.2.1 33 (by decide)).trans ((s170.2.1 33 (by decide)).trans ((s164.2.1 33 (by decide)).trans ((s152.2.1 33 (by decide)).trans ((s141.2.1 33 (by decide)).trans ((s132.2.1 33 (by decide)).trans ((s128.2.1 33 (by decide)).trans ((s124.2.1 33 (by decide)).trans ((s117.2.1 33 (by decide)).trans ((s114.2.1 33 (by decide)).trans ((s107.2.1 33 (by decide)).trans ((s101.2.1 33 (by decide)).trans gcn))))))))))))))))))))), by omega, by omega⟩, (pG1_cg rfl rfl (pG1_cg rfl rfl g239_P1)), (pG2_cg rfl rfl (pG2_cg rfl rfl (pG2_cg rfl rfl (pG2_cg rfl rfl (pG2_cg rfl rfl g222_P2))))), (hD_cg rfl rfl (hD_cg rfl rfl (hD_cg (s239.2.1 68 (by decide)) (s239.2.1 70 (by decide)) (hD_cg (s238.2.1 68 (by decide)) (s238.2.1 70 (by decide)) f236))))⟩⟩ d_M_further_480
                                                                            · refine lv_bipush (v := iI 13) X.1 X.2.1 d_M_further_439 (by decide) ?_
                                                                              exact m_reti hQQ X Y hr hlk ⟨S, 13, rfl, ⟨by omega, by omega, ⟨cn, ((s235.2.1 33 (by decide)).trans ((s222.2.1 33 (by decide)).trans ((w216.2 33 (by decide)).trans ((s210.2.1 33 (by decide)).trans ((s198.2.1 33 (by decide)).trans ((s192.2.1 33 (by decide)).trans ((s183.2.1 33 (by decide)).trans ((s179.2.1 33 (by decide)).trans ((s170.2.1 33 (by decide)).trans ((s164.2.1 33 (by decide)).trans ((s152.2.1 33 (by decide)).trans ((s141.2.1 33 (by decide)).trans ((s132.2.1 33 (by decide)).trans ((s128.2.1 33 (by decide)).trans ((s124.2.1 33 (by decide)).trans ((s117.2.1 33 (by decide)).trans ((s114.2.1 33 (by decide)).trans ((s107.2.1 33 (by decide)).trans ((s101.2.1 33 (by decide)).trans gcn))))))))))))))))))), by omega, by omega⟩, g235_P1, (pG2_cg rfl rfl g222_P2), f236⟩⟩ d_M_further_441
                                                                        · refine lv_iload_n X.1 X.2.1 d_M_further_415 rfl (lv_at hl 0 rfl) ?_
                                                                          exact m_reti hQQ X Y hr hlk ⟨S, z222, rfl, ⟨by omega, by omega, ⟨cn, ((s222.2.1 33 (by decide)).trans ((w216.2 33 (by decide)).trans ((s210.2.1 33 (by decide)).trans ((s198.2.1 33 (by decide)).trans ((s192.2.1 33 (by decide)).trans ((s183.2.1 33 (by decide)).trans ((s179.2.1 33 (by decide)).trans ((s170.2.1 33 (by decide)).trans ((s164.2.1 33 (by decide)).trans ((s152.2.1 33 (by decide)).trans ((s141.2.1 33 (by decide)).trans ((s132.2.1 33 (by decide)).trans ((s128.2.1 33 (by decide)).trans ((s124.2.1 33 (by decide)).trans ((s117.2.1 33 (by decide)).trans ((s114.2.1 33 (by decide)).trans ((s107.2.1 33 (by decide)).trans ((s101.2.1 33 (by decide)).trans gcn)))))))))))))))))), by omega, by omega⟩, g222_P1, g222_P2, (hD_cg (s222.2.1 68 (by decide)) (s222.2.1 70 (by decide)) (hD_cg rfl rfl (hD_cg rfl rfl (hD_cg (w216.2 68 (by decide)) (w216.2 70 (by decide)) (hD_cg (s210.2.1 68 (by decide)) (s210.2.1 70 (by decide)) (hD_cg rfl rfl (hD_cg rfl rfl f199)))))))⟩⟩ d_M_further_416
                                                                    · refine lv_iconst (v := iI 1) X.1 X.2.1 d_M_further_404 (by decide) ?_
                                                                      exact m_reti hQQ X Y hr hlk ⟨S, 1, rfl, ⟨by omega, by omega, ⟨cn, ((w216.2 33 (by decide)).trans ((s210.2.1 33 (by decide)).trans ((s198.2.1 33 (by decide)).trans ((s192.2.1 33 (by decide)).trans ((s183.2.1 33 (by decide)).trans ((s179.2.1 33 (by decide)).trans ((s170.2.1 33 (by decide)).trans ((s164.2.1 33 (by decide)).trans ((s152.2.1 33 (by decide)).trans ((s141.2.1 33 (by decide)).trans ((s132.2.1 33 (by decide)).trans ((s128.2.1 33 (by decide)).trans ((s124.2.1 33 (by decide)).trans ((s117.2.1 33 (by decide)).trans ((s114.2.1 33 (by decide)).trans ((s107.2.1 33 (by decide)).trans ((s101.2.1 33 (by decide)).trans gcn))))))))))))))))), by omega, by omega⟩, (pG1_cg rfl rfl (pG1_cg rfl rfl (pG1_cg (w216.2 39 (by decide)) (w216.2 40 (by decide)) g210_P1))), (pG2_cg rfl rfl (pG2_cg rfl rfl (pG2_cg rfl rfl g210_P2))), (hD_cg rfl rfl (hD_cg rfl rfl (hD_cg (w216.2 68 (by decide)) (w216.2 70 (by decide)) (hD_cg (s210.2.1 68 (by decide)) (s210.2.1 70 (by decide)) (hD_cg rfl rfl (hD_cg rfl rfl f199))))))⟩⟩ d_M_further_405
                                                                · refine lv_bipush (v := iI 18) X.1 X.2.1 d_M_further_390 (by decide) ?_
                                                                  exact m_reti hQQ X Y hr hlk ⟨S, 18, rfl, ⟨by omega, by omega, ⟨cn, ((w216.2 33 (by decide)).trans ((s210.2.1 33 (by decide)).trans ((s198.2.1 33 (by decide)).trans ((s192.2.1 33 (by decide)).trans ((s183.2.1 33 (by decide)).trans ((s179.2.1 33 (by decide)).trans ((s170.2.1 33 (by decide)).trans ((s164.2.1 33 (by decide)).trans ((s152.2.1 33 (by decide)).trans ((s141.2.1 33 (by decide)).trans ((s132.2.1 33 (by decide)).trans ((s128.2.1 33 (by decide)).trans ((s124.2.1 33 (by decide)).trans ((s117.2.1 33 (by decide)).trans ((s114.2.1 33 (by decide)).trans ((s107.2.1 33 (by decide)).trans ((s101.2.1 33 (by decide)).trans gcn))))))))))))))))), by omega, by omega⟩, (pG1_cg rfl rfl (pG1_cg (w216.2 39 (by decide)) (w216.2 40 (by decide)) g210_P1)), (pG2_cg rfl rfl (pG2_cg rfl rfl g210_P2)), (hD_cg rfl rfl (hD_cg (w216.2 68 (by decide)) (w216.2 70 (by decide)) (hD_cg (s210.2.1 68 (by decide)) (s210.2.1 70 (by decide)) (hD_cg rfl rfl (hD_cg rfl rfl f199)))))⟩⟩ d_M_further_392
                                                            · refine lv_bipush (v := iI 6) X.1 X.2.1 d_M_further_374 (by decide) ?_
                                                              exact m_reti hQQ X Y hr hlk ⟨S, 6, rfl, ⟨by omega, by omega, ⟨cn, ((w216.2 33 (by decide)).trans ((s210.2.1 33 (by decide)).trans ((s198.2.1 33 (by decide)).trans ((s192.2.1 33 (by decide)).trans ((s183.2.1 33 (by decide)).trans ((s179.2.1 33 (by decide)).trans ((s170.2.1 33 (by decide)).trans ((s164.2.1 33 (by decide)).trans ((s152.2.1 33 (by decide)).trans ((s141.2.1 33 (by decide)).trans ((s132.2.1 33 (by decide)).trans ((s128.2.1 33 (by decide)).trans ((s124.2.1 33 (by decide)).trans ((s117.2.1 33 (by decide)).trans ((s114.2.1 33 (by decide)).trans ((s107.2.1 33 (by decide)).trans ((s101.2.1 33 (by decide)).trans gcn))))))))))))))))), by omega, by omega⟩, (pG1_cg (w216.2 39 (by decide)) (w216.2 40 (by decide)) g210_P1), (pG2_cg rfl rfl g210_P2), (hD_cg (w216.2 68 (by decide)) (w216.2 70 (by decide)) (hD_cg (s210.2.1 68 (by decide)) (s210.2.1 70 (by decide)) (hD_cg rfl rfl (hD_cg rfl rfl f199))))⟩⟩ d_M_further_376
                                                        · refine lv_bipush (v := iI 32) X.1 X.2.1 d_M_further_344 (by decide) ?_
                                                          exact m_reti hQQ X Y hr hlk ⟨S, 32, rfl, ⟨by omega, by omega, ⟨cn, ((s198.2.1 33 (by decide)).trans ((s192.2.1 33 (by decide)).trans ((s183.2.1 33 (by decide)).trans ((s179.2.1 33 (by decide)).trans ((s170.2.1 33 (by decide)).trans ((s164.2.1 33 (by decide)).trans ((s152.2.1 33 (by decide)).trans ((s141.2.1 33 (by decide)).trans ((s132.2.1 33 (by decide)).trans ((s128.2.1 33 (by decide)).trans ((s124.2.1 33 (by decide)).trans ((s117.2.1 33 (by decide)).trans ((s114.2.1 33 (by decide)).trans ((s107.2.1 33 (by decide)).trans ((s101.2.1 33 (by decide)).trans gcn))))))))))))))), by omega, by omega⟩, g198_P1, (pG2_cg rfl rfl (pG2_cg rfl rfl (pG2_cg rfl rfl (pG2_cg rfl rfl (pG2_cg rfl rfl (pG2_cg (s179.2.2 37 (by decide)) (s179.2.2 38 (by decide)) (pG2_cg rfl rfl (pG2_cg rfl rfl (pG2_cg rfl rfl g164_P2))))))))), f199⟩⟩ d_M_further_346
                                                    · refine lv_bipush (v := iI 33) X.1 X.2.1 d_M_further_325 (by decide) ?_
                                                      exact m_reti hQQ X Y hr hlk ⟨S, 33, rfl, ⟨by omega, by omega, ⟨cn, ((s192.2.1 33 (by decide)).trans ((s183.2.1 33 (by decide)).trans ((s179.2.1 33 (by decide)).trans ((s170.2.1 33 (by decide)).trans ((s164.2.1 33 (by decide)).trans ((s152.2.1 33 (by decide)).trans ((s141.2.1 33 (by decide)).trans ((s132.2.1 33 (by decide)).trans ((s128.2.1 33 (by decide)).trans ((s124.2.1 33 (by decide)).trans ((s117.2.1 33 (by decide)).trans ((s114.2.1 33 (by decide)).trans ((s107.2.1 33 (by decide)).trans ((s101.2.1 33 (by decide)).trans gcn)))))))))))))), by omega, by omega⟩, g192_P1, (pG2_cg rfl rfl (pG2_cg rfl rfl (pG2_cg rfl rfl (pG2_cg rfl rfl (pG2_cg (s179.2.2 37 (by decide)) (s179.2.2 38 (by decide)) (pG2_cg rfl rfl (pG2_cg rfl rfl (pG2_cg rfl rfl g164_P2)))))))), (hD_cg (s192.2.1 68 (by decide)) (s192.2.1 70 (by decide)) (hD_cg (s183.2.1 68 (by decide)) (s183.2.1 70 (by decide)) (hD_cg rfl rfl (hD_cg rfl rfl (hD_cg (s179.2.1 68 (by decide)) (s179.2.1 70 (by decide)) f177)))))⟩⟩ d_M_further_327
                                                · refine lv_aload_n X.1 X.2.1 d_M_further_273 rfl (lv_at hl 0 rfl) ?_
                                                  refine m_get X Y 0 (by decide) lk_mem (gf_mem _ _ _) rfl d_M_further_274 ?_
                                                  refine lv_aload_n X.1 X.2.1 d_M_further_277 rfl (lv_at hl 0 rfl) ?_
                                                  refine r_get0 X Y (by decide) lk_inside (gf_inside _ _ _) rfl ex184 d_M_further_278 ?_
                                                  refine lv_iload X.1 X.2.1 d_M_further_281 (lv_at hl 1 rfl) ?_
                                                  refine z_iadd X.1 X.2.1 d_M_further_283 ?_
                                                  refine r_bald X Y S (aw_mem _ _ _ _ _ _ _) rfl (by omega) (show x184 + z186 < ((60000 : Nat) : Int) by omega) (by omega) d_M_further_284 (fun z323 q323 l323 u323 => ?_)
                                                  refine lv_aload_n X.1 X.2.1 d_M_further_285 rfl (lv_at hl 0 rfl) ?_
                                                  refine m_get X Y 10 (by decide) lk_mac (gf_mac _ _ _) rfl d_M_further_286 ?_
                                                  refine lv_iload X.1 X.2.1 d_M_further_289 (lv_at hl 1 rfl) ?_
                                                  refine r_bald X Y S (aw_mac _ _ _ _ _ _ _) rfl (by omega) (show z186 < ((20 : Nat) : Int) by omega) (by omega) d_M_further_291 (fun z324 q324 l324 u324 => ?_)
                                                  refine z_icmp_eq (tgt := 298) X.1 X.2.1 d_M_further_292 (by decide) ⟨by omega, by omega⟩ ⟨by omega, by omega⟩ (fun h325 => ?_) (fun h325 => ?_)
                                                  · refine lv_iinc (v := iI (z186 + 1)) (lv' := [(4, .int (iI (z186 + 1))), (0, .ref h)]) X.1 X.2.1 d_M_further_298 hl (k := 1) rfl ((iI_add _ _).trans (congrArg iI (by omega))) (by decide) rfl (fun ls hl => ?_)
                                                    refine lv_goto (tgt := 266) X.1 X.2.1 d_M_further_301 (by decide) ?_
                                                    exact ih188 ((12 - (z186 + 1)).toNat) (by omega) (z186 + 1) _ _ _ rfl (by omega) (by omega) Y S (lv_sub hl [1, 0] rfl)
                                                  · refine lv_bipush (v := iI 41) X.1 X.2.1 d_M_further_295 (by decide) ?_
                                                    exact m_reti hQQ X Y hr hlk ⟨S, 41, rfl, ⟨by omega, by omega, ⟨cn, ((s183.2.1 33 (by decide)).trans ((s179.2.1 33 (by decide)).trans ((s170.2.1 33 (by decide)).trans ((s164.2.1 33 (by decide)).trans ((s152.2.1 33 (by decide)).trans ((s141.2.1 33 (by decide)).trans ((s132.2.1 33 (by decide)).trans ((s128.2.1 33 (by decide)).trans ((s124.2.1 33 (by decide)).trans ((s117.2.1 33 (by decide)).trans ((s114.2.1 33 (by decide)).trans ((s107.2.1 33 (by decide)).trans ((s101.2.1 33 (by decide)).trans gcn))))))))))))), by omega, by omega⟩, (show pG1 I183 from ⟨x184, y184, ex184, ey184, by omega, by omega, by omega, by omega⟩), (pG2_cg rfl rfl (pG2_cg rfl rfl (pG2_cg rfl rfl (pG2_cg (s179.2.2 37 (by decide)) (s179.2.2 38 (by decide)) (pG2_cg rfl rfl (pG2_cg rfl rfl (pG2_cg rfl rfl g164_P2))))))), (hD_cg (s183.2.1 68 (by decide)) (s183.2.1 70 (by decide)) (hD_cg rfl rfl (hD_cg rfl rfl (hD_cg (s179.2.1 68 (by decide)) (s179.2.1 70 (by decide)) f177))))⟩⟩ d_M_further_297
                                          refine lv_istore (lv' := [(4, .int (iI 0)), (3, .int (iI z152)), (2, .int (iI y106)), (1, .int (iI x106)), (0, .ref h)]) X.1 X.2.1 d_M_further_264 hl (by decide) rfl (fun ls hl => ?_)
                                          exact J187 _ 0 _ _ _ rfl (by omega) (by omega) Y S (lv_sub hl [4, 0] rfl)
                                      · refine lv_bipush (v := iI 41) X.1 X.2.1 d_M_further_260 (by decide) ?_
                                        exact m_reti hQQ X Y hr hlk ⟨S, 41, rfl, ⟨by omega, by omega, ⟨cn, ((s183.2.1 33 (by decide)).trans ((s179.2.1 33 (by decide)).trans ((s170.2.1 33 (by decide)).trans ((s164.2.1 33 (by decide)).trans ((s152.2.1 33 (by decide)).trans ((s141.2.1 33 (by decide)).trans ((s132.2.1 33 (by decide)).trans ((s128.2.1 33 (by decide)).trans ((s124.2.1 33 (by decide)).trans ((s117.2.1 33 (by decide)).trans ((s114.2.1 33 (by decide)).trans ((s107.2.1 33 (by decide)).trans ((s101.2.1 33 (by decide)).trans gcn))))))))))))), by omega, by omega⟩, (show pG1 I183 from ⟨x184, y184, ex184, ey184, by omega, by omega, by omega, by omega⟩), (pG2_cg rfl rfl (pG2_cg rfl rfl (pG2_cg rfl rfl (pG2_cg (s179.2.2 37 (by decide)) (s179.2.2 38 (by decide)) (pG2_cg rfl rfl (pG2_cg rfl rfl (pG2_cg rfl rfl g164_P2))))))), (hD_cg (s183.2.1 68 (by decide)) (s183.2.1 70 (by decide)) (hD_cg rfl rfl (hD_cg rfl rfl (hD_cg (s179.2.1 68 (by decide)) (s179.2.1 70 (by decide)) f177))))⟩⟩ d_M_further_262
                                  · refine lv_bipush (v := iI 50) X.1 X.2.1 d_M_further_197 (by decide) ?_
                                    exact m_reti hQQ X Y hr hlk ⟨S, 50, rfl, ⟨by omega, by omega, ⟨cn, ((s170.2.1 33 (by decide)).trans ((s164.2.1 33 (by decide)).trans ((s152.2.1 33 (by decide)).trans ((s141.2.1 33 (by decide)).trans ((s132.2.1 33 (by decide)).trans ((s128.2.1 33 (by decide)).trans ((s124.2.1 33 (by decide)).trans ((s117.2.1 33 (by decide)).trans ((s114.2.1 33 (by decide)).trans ((s107.2.1 33 (by decide)).trans ((s101.2.1 33 (by decide)).trans gcn))))))))))), by omega, by omega⟩, g170_P1, (pG2_cg rfl rfl g164_P2), (hD_cg (s170.2.1 68 (by decide)) (s170.2.1 70 (by decide)) (hD_cg (s164.2.1 68 (by decide)) (s164.2.1 70 (by decide)) (hD_cg rfl rfl (hD_cg rfl rfl (hD_cg rfl rfl (hD_cg (s152.2.1 68 (by decide)) (s152.2.1 70 (by decide)) f142))))))⟩⟩ d_M_further_199
                              · refine lv_bipush (v := iI 50) X.1 X.2.1 d_M_further_152 (by decide) ?_
                                exact m_reti hQQ X Y hr hlk ⟨S, 50, rfl, ⟨by omega, by omega, ⟨cn, ((s152.2.1 33 (by decide)).trans ((s141.2.1 33 (by decide)).trans ((s132.2.1 33 (by decide)).trans ((s128.2.1 33 (by decide)).trans ((s124.2.1 33 (by decide)).trans ((s117.2.1 33 (by decide)).trans ((s114.2.1 33 (by decide)).trans ((s107.2.1 33 (by decide)).trans ((s101.2.1 33 (by decide)).trans gcn))))))))), by omega, by omega⟩, (pG1_cg rfl rfl g152_P1), (pG2_cg rfl rfl g152_P2), (hD_cg rfl rfl (hD_cg (s152.2.1 68 (by decide)) (s152.2.1 70 (by decide)) f142))⟩⟩ d_M_further_154
                          · refine lv_iload_n X.1 X.2.1 d_M_further_141 rfl (lv_at hl 0 rfl) ?_
                            exact m_reti hQQ X Y hr hlk ⟨S, z152, rfl, ⟨by omega, by omega, ⟨cn, ((s152.2.1 33 (by decide)).trans ((s141.2.1 33 (by decide)).trans ((s132.2.1 33 (by decide)).trans ((s128.2.1 33 (by decide)).trans ((s124.2.1 33 (by decide)).trans ((s117.2.1 33 (by decide)).trans ((s114.2.1 33 (by decide)).trans ((s107.2.1 33 (by decide)).trans ((s101.2.1 33 (by decide)).trans gcn))))))))), by omega, by omega⟩, g152_P1, g152_P2, (hD_cg (s152.2.1 68 (by decide)) (s152.2.1 70 (by decide)) f142)⟩⟩ d_M_further_142
              · refine lv_bipush (v := iI 40) X.1 X.2.1 d_M_further_67 (by decide) ?_
                exact m_reti hQQ X Y hr hlk ⟨S, 40, rfl, ⟨by omega, by omega, ⟨cn, ((s117.2.1 33 (by decide)).trans ((s114.2.1 33 (by decide)).trans ((s107.2.1 33 (by decide)).trans ((s101.2.1 33 (by decide)).trans gcn)))), by omega, by omega⟩, g117_P1, (pG2_cg rfl rfl (pG2_cg rfl rfl g107_P2)), (hD_cg (s117.2.1 68 (by decide)) (s117.2.1 70 (by decide)) (hD_cg (s114.2.1 68 (by decide)) (s114.2.1 70 (by decide)) (hD_cg (s107.2.1 68 (by decide)) (s107.2.1 70 (by decide)) (hD_cg (s101.2.1 68 (by decide)) (s101.2.1 70 (by decide)) f_HD))))⟩⟩ d_M_further_69
          · refine lv_iconst (v := iI 3) X.1 X.2.1 d_M_further_52 (by decide) ?_
            exact m_reti hQQ X Y hr hlk ⟨S, 3, rfl, ⟨by omega, by omega, ⟨cn, ((s114.2.1 33 (by decide)).trans ((s107.2.1 33 (by decide)).trans ((s101.2.1 33 (by decide)).trans gcn))), by omega, by omega⟩, g114_P1, (pG2_cg rfl rfl g107_P2), (hD_cg (s114.2.1 68 (by decide)) (s114.2.1 70 (by decide)) (hD_cg (s107.2.1 68 (by decide)) (s107.2.1 70 (by decide)) (hD_cg (s101.2.1 68 (by decide)) (s101.2.1 70 (by decide)) f_HD)))⟩⟩ d_M_further_53
      · refine lv_bipush (v := iI 60) X.1 X.2.1 d_M_further_36 (by decide) ?_
        exact m_reti hQQ X Y hr hlk ⟨S, 60, rfl, ⟨by omega, by omega, ⟨cn, ((s107.2.1 33 (by decide)).trans ((s101.2.1 33 (by decide)).trans gcn)), by omega, by omega⟩, g107_P1, g107_P2, (hD_cg (s107.2.1 68 (by decide)) (s107.2.1 70 (by decide)) (hD_cg (s101.2.1 68 (by decide)) (s101.2.1 70 (by decide)) f_HD))⟩⟩ d_M_further_38
  · refine lv_bipush (v := iI 25) X.1 X.2.1 d_M_further_8 (by decide) ?_
    exact m_reti hQQ X Y hr hlk ⟨S, 25, rfl, ⟨by omega, by omega, ⟨cn, ((s101.2.1 33 (by decide)).trans gcn), by omega, by omega⟩, g101_P1, g101_P2, (hD_cg (s101.2.1 68 (by decide)) (s101.2.1 70 (by decide)) f_HD)⟩⟩ d_M_further_10
set_option maxHeartbeats 40000000 in
set_option maxRecDepth 100000 in
theorem r_M_asked (l : Launch) (D : mD) (E : mE) (h : Nat) (q : Nat → Nat) (sz : Nat) (I : Nat → Int32) (J : Nat → Int64) (B : Nat → Nat → Int32) (G : Nat → Nat → Int64) (a1 : Int) (l_a1 : 0 ≤ a1) (u_a1 : a1 ≤ 4000) (hT : rT I B) (cn : Int) (gcn : I 33 = iI cn) (lcn : 0 ≤ cn) (ucn : cn ≤ 1900000) (f_P1 : pG1 I) (f_P2 : pG2 (B 37) (B 38)) (f_HD : hD I) : Met l y_M_asked (k_M_asked :: lw_tg) (mR 47 2105) (va_Pc [.ref h, .int (iI a1)] (mPre D E h q (I, J, B, G) sz)) (va_Qi (rPi [3, 8, 14, 18, 29, 33, 36, 39, 40, 42, 54, 67, 68, 69, 70, 71, 72, 73, 74, 75, 76, 77, 78, 79, 80, 81, 84, 85, 86, 87, 88, 89] [0, 1, 5, 6, 7, 9, 10, 11, 12, 13, 15, 16, 17, 19, 20, 21, 22, 23, 24, 34, 35, 37, 38, 53, 56, 58, 59, 60, 61, 62, 63, 64, 90] I B (fun (z : Int) (u : mS) => 0 ≤ z ∧ z ≤ 68 ∧ (∃ V2 : Int, u.1 33 = iI V2 ∧ cn ≤ V2 ∧ V2 ≤ cn + 1000) ∧ pG1 u.1 ∧ pG2 (u.2.2.1 37) (u.2.2.1 38) ∧ hD u.1)) (mPost D E h q (mA E h q sz)) (mA E h q sz)) 0 0 (mA E h q sz) := by
  refine m_enter (by decide) rfl (Nat.le_of_ble_eq_true rfl) (fun p e s m below meth c ls AV QQ H locs hQQ X Y hZ hA hr hlk hml hl => ?_)
  have Y : mH D E (mA E h q sz) s.heap h q I J B G H locs := Y
  have S : rS [3, 8, 14, 18, 29, 33, 36, 39, 40, 42, 54, 67, 68, 69, 70, 71, 72, 73, 74, 75, 76, 77, 78, 79, 80, 81, 84, 85, 86, 87, 88, 89] [0, 1, 5, 6, 7, 9, 10, 11, 12, 13, 15, 16, 17, 19, 20, 21, 22, 23, 24, 34, 35, 37, 38, 53, 56, 58, 59, 60, 61, 62, 63, 64, 90] I B I B := rS_rf hT
  have hl : lv_has ls 4 [(0, .ref h), (1, .int (iI a1))] := hl
  refine lv_iload_n X.1 X.2.1 d_M_asked_0 rfl (lv_at hl 1 rfl) ?_
  refine z_if_ne (tgt := 8) X.1 X.2.1 d_M_asked_1 (by decide) ⟨by omega, by omega⟩ (fun h101 => ?_) (fun h101 => ?_)
  · as_aux_lemma =>
      refine lv_aload_n X.1 X.2.1 d_M_asked_8 rfl (lv_at hl 0 rfl) ?_
      refine m_get X Y 0 (by decide) lk_mem (gf_mem _ _ _) rfl d_M_asked_9 ?_
      refine lv_iconst (v := iI 0) X.1 X.2.1 d_M_asked_12 (by decide) ?_
      refine r_bald X Y S (aw_mem _ _ _ _ _ _ _) rfl (by omega) (show 0 < ((60000 : Nat) : Int) by omega) (by omega) d_M_asked_13 (fun z102 q102 l102 u102 => ?_)
      refine lv_sipush (v := iI 255) X.1 X.2.1 d_M_asked_14 (by decide) ?_
      refine z_iand X.1 X.2.1 (by omega) (by omega) d_M_asked_17 (fun z103 l103 u103 => ?_)
      refine lv_istore_n (lv' := [(2, .int (iI z103)), (0, .ref h), (1, .int (iI a1))]) X.1 X.2.1 d_M_asked_18 rfl hl (by decide) rfl (fun ls hl => ?_)
      refine lv_aload_n X.1 X.2.1 d_M_asked_19 rfl (lv_at hl 1 rfl) ?_
      refine lv_iload_n X.1 X.2.1 d_M_asked_20 rfl (lv_at hl 0 rfl) ?_
      refine lv_bipush (v := iI 106) X.1 X.2.1 d_M_asked_21 (by decide) ?_
      refine z_icmp_ne (tgt := 30) X.1 X.2.1 d_M_asked_23 (by decide) ⟨by omega, by omega⟩ ⟨by decide, by decide⟩ (fun h104 => ?_) (fun h104 => ?_)
      · as_aux_lemma =>
          refine lv_iconst (v := iI 0) X.1 X.2.1 d_M_asked_30 (by decide) ?_
          refine r_puti (k := 69) X Y S (by decide) lk_isAs rfl rfl (t_M_ok 69 (by decide)) (iI_bool (by omega) (by omega)).1 (iI_bool (by omega) (by omega)).2 (sf_isAs _ _ _ _) (Nat.le_of_ble_eq_true rfl) rfl (show (0 : Int) ≤ 0 by omega) (show 0 ≤ (1 : Int) by omega) ⟨by omega, by omega⟩ (by decide) d_M_asked_31 (fun I105 H locs Y S w105 => ?_)
          refine lv_aload_n X.1 X.2.1 d_M_asked_34 rfl (lv_at hl 1 rfl) ?_
          refine r_get0 X Y (by decide) lk_isAs (gf_isAs _ _ _) rfl w105.1 d_M_asked_35 ?_
          refine z_if_eq (tgt := 56) X.1 X.2.1 d_M_asked_38 (by decide) ⟨by decide, by decide⟩ (fun h106 => ?_) (fun h106 => False.elim (by omega))
          · as_aux_lemma =>
              refine lv_iload_n X.1 X.2.1 d_M_asked_56 rfl (lv_at hl 0 rfl) ?_
              refine lv_bipush (v := iI 108) X.1 X.2.1 d_M_asked_57 (by decide) ?_
              refine z_icmp_ne (tgt := 81) X.1 X.2.1 d_M_asked_59 (by decide) ⟨by omega, by omega⟩ ⟨by decide, by decide⟩ (fun h107 => ?_) (fun h107 => ?_)
              · refine lv_iconst (v := iI 0) X.1 X.2.1 d_M_asked_81 (by decide) ?_
                refine lv_istore_n (lv' := [(3, .int (iI 0)), (2, .int (iI z103)), (0, .ref h), (1, .int (iI a1))]) X.1 X.2.1 d_M_asked_82 rfl hl (by decide) rfl (fun ls hl => ?_)
                refine lv_iload_n X.1 X.2.1 d_M_asked_83 rfl (lv_at hl 0 rfl) ?_
                refine z_if_ne (tgt := 90) X.1 X.2.1 d_M_asked_84 (by decide) ⟨by decide, by decide⟩ (fun h108 => False.elim (by omega)) (fun h108 => ?_)
                · refine lv_bipush (v := iI 60) X.1 X.2.1 d_M_asked_87 (by decide) ?_
                  exact m_reti hQQ X Y hr hlk ⟨S, 60, rfl, ⟨by omega, by omega, ⟨cn, ((w105.2 33 (by decide)).trans gcn), by omega, by omega⟩, (pG1_cg (w105.2 39 (by decide)) (w105.2 40 (by decide)) f_P1), (pG2_cg rfl rfl f_P2), (hD_cg (w105.2 68 (by decide)) (w105.2 70 (by decide)) f_HD)⟩⟩ d_M_asked_89
              · as_aux_lemma =>
                  refine lv_aload_n X.1 X.2.1 d_M_asked_62 rfl (lv_at hl 1 rfl) ?_
                  refine lv_bipush (v := iI 12) X.1 X.2.1 d_M_asked_63 (by decide) ?_
                  refine m_ldcSW (i := 3) X (by decide) (by decide) d_M_asked_65 ?_
                  refine lv_iconst (v := iI 0) X.1 X.2.1 d_M_asked_68 (by decide) ?_
                  refine lv_iload_n X.1 X.2.1 d_M_asked_69 rfl (lv_at hl 2 rfl) ?_
                  refine lv_iconst (v := iI 0) X.1 X.2.1 d_M_asked_70 (by decide) ?_
                  refine r_ni (m_run (As := [.int (iI 12), .ref ((D.2.1 3)), .int (iI 0), .int (iI a1), .int (iI 0)]) (rest := []) (n := 5) X Y hZ hA hml hl.1 (r_M_applied_t l D E h q H.size I105 J B G 12 (by decide) (by decide) 3 (show 3 < nZ by decide) 0 (by decide) (by decide) a1 (by omega) (by omega) 0 (by decide) (by decide) S.1 5 (B 0) rfl (isF (B 0) 5) (by decide) (hisU (show rki 3 ≤ 5 by decide)) (pG1_cg (w105.2 39 (by decide)) (w105.2 40 (by decide)) f_P1) (pG2_cg rfl rfl f_P2) (by omega) (by omega)) kl_M_applied ks_M_applied kx_M_applied ki_M_applied ini_M hd_M_applied ⟨Nat.le_of_ble_eq_true rfl, Nat.le_of_ble_eq_true rfl⟩ rfl (Nat.le_of_ble_eq_true rfl) d_M_asked_71 ⟨Nat.le_refl _, Nat.le_refl _⟩) X Y hA S (by decide) (by decide) (fun z109 u H locs Y S s109 p109 => ?_)
                  obtain ⟨I109, J109, B109, G109⟩ := u
                  dsimp only at Y S s109 p109
                  obtain ⟨l109, u109, x109, st109, g109_P1, g109_P2⟩ := p109
                  have g109_TF : thF [0] (B 37) (B 38) (B109 37) (B109 38) := thF_of st109.1
                  refine z_if_eq (tgt := 81) X.1 X.2.1 d_M_asked_74 (by decide) ⟨by omega, by omega⟩ (fun h110 => ?_) (fun h110 => ?_)
                  · refine lv_iconst (v := iI 0) X.1 X.2.1 d_M_asked_81 (by decide) ?_
                    refine lv_istore_n (lv' := [(3, .int (iI 0)), (2, .int (iI z103)), (0, .ref h), (1, .int (iI a1))]) X.1 X.2.1 d_M_asked_82 rfl hl (by decide) rfl (fun ls hl => ?_)
                    refine lv_iload_n X.1 X.2.1 d_M_asked_83 rfl (lv_at hl 0 rfl) ?_
                    refine z_if_ne (tgt := 90) X.1 X.2.1 d_M_asked_84 (by decide) ⟨by decide, by decide⟩ (fun h111 => False.elim (by omega)) (fun h111 => ?_)
                    · refine lv_bipush (v := iI 60) X.1 X.2.1 d_M_asked_87 (by decide) ?_
                      exact m_reti hQQ X Y hr hlk ⟨S, 60, rfl, ⟨by omega, by omega, ⟨cn, ((s109.2.1 33 (by decide)).trans ((w105.2 33 (by decide)).trans gcn)), by omega, by omega⟩, g109_P1, g109_P2, (hD_cg (s109.2.1 68 (by decide)) (s109.2.1 70 (by decide)) (hD_cg (w105.2 68 (by decide)) (w105.2 70 (by decide)) f_HD))⟩⟩ d_M_asked_89
                  · as_aux_lemma =>
                      refine lv_iconst (v := iI 1) X.1 X.2.1 d_M_asked_77 (by decide) ?_
                      refine lv_goto (tgt := 82) X.1 X.2.1 d_M_asked_78 (by decide) ?_
                      refine lv_istore_n (lv' := [(3, .int (iI 1)), (2, .int (iI z103)), (0, .ref h), (1, .int (iI a1))]) X.1 X.2.1 d_M_asked_82 rfl hl (by decide) rfl (fun ls hl => ?_)
                      refine lv_iload_n X.1 X.2.1 d_M_asked_83 rfl (lv_at hl 0 rfl) ?_
                      refine z_if_ne (tgt := 90) X.1 X.2.1 d_M_asked_84 (by decide) ⟨by decide, by decide⟩ (fun h112 => ?_) (fun h112 => False.elim (by omega))
                      · as_aux_lemma =>
                          have wa113 := (x109.mp (by omega)).1
                          unfold whP at wa113
                          have ra113 := el_rng (B 0) (a := 0) (b := a1) (.inl (by omega))
                          have a113 := req_R (m := (B 0)) (x109.mp (by omega)).2 (by omega) (by omega) (st109.2 (by omega))
                          rw [← s109.2.2 0 (by decide)] at a113
                          have wa114 := (x109.mp (by omega)).1
                          unfold whP at wa114
                          have ra114 := el_rng (B 0) (a := 0) (b := a1) (.inl (by omega))
                          have a114 := req_R (m := (B 0)) (x109.mp (by omega)).2 (by omega) (by omega) (st109.2 (by omega))
                          rw [← s109.2.2 0 (by decide)] at a114
                          refine lv_aload_n X.1 X.2.1 d_M_asked_90 rfl (lv_at hl 2 rfl) ?_
                          refine lv_iconst (v := iI 1) X.1 X.2.1 d_M_asked_91 (by decide) ?_
                          refine r_puti (k := 67) X Y S (by decide) lk_isRead rfl rfl (t_M_ok 67 (by decide)) (iI_bool (by omega) (by omega)).1 (iI_bool (by omega) (by omega)).2 (sf_isRead _ _ _ _) (Nat.le_of_ble_eq_true rfl) rfl (show (0 : Int) ≤ 1 by omega) (show 1 ≤ (1 : Int) by omega) ⟨by omega, by omega⟩ (by decide) d_M_asked_92 (fun I115 H locs Y S w115 => ?_)
                          refine lv_aload_n X.1 X.2.1 d_M_asked_95 rfl (lv_at hl 2 rfl) ?_
                          refine m_ldcSW (i := 12) X (by decide) (by decide) d_M_asked_96 ?_
                          refine lv_aload_n X.1 X.2.1 d_M_asked_99 rfl (lv_at hl 2 rfl) ?_
                          refine lv_iconst (v := iI 0) X.1 X.2.1 d_M_asked_100 (by decide) ?_
                          refine lv_iconst (v := iI 4) X.1 X.2.1 d_M_asked_101 (by decide) ?_
                          refine r_ni (m_run (As := [.int (iI 0), .int (iI 4)]) (rest := [.ref ((D.2.1 12)), .ref h]) (n := 2) X Y hZ hA hml hl.1 (r_M_a l D E h q H.size I115 J109 B109 G109 0 (by decide) (by decide) 4 (by decide) (by decide) S.1) kl_M_a ks_M_a kx_M_a ki_M_a ini_M hd_M_a ⟨Nat.le_of_ble_eq_true rfl, Nat.le_of_ble_eq_true rfl⟩ rfl (Nat.le_of_ble_eq_true rfl) d_M_asked_102 ⟨Nat.le_refl _, Nat.le_refl _⟩) X Y hA S (by decide) (by decide) (fun z116 u H locs Y S s116 p116 => ?_)
                          obtain ⟨I116, J116, B116, G116⟩ := u
                          dsimp only at Y S s116 p116
                          have i116 : I115 = I116 := (funext (fun j => s116.2.1 j (by simp))).symm
                          subst i116
                          have b116 : B109 = B116 := (funext (fun j => s116.2.2 j (by simp))).symm
                          subst b116
                          obtain ⟨l116, u116, x116⟩ := p116
                          refine lv_aload_n X.1 X.2.1 d_M_asked_105 rfl (lv_at hl 2 rfl) ?_
                          refine lv_iconst (v := iI 0) X.1 X.2.1 d_M_asked_106 (by decide) ?_
                          refine lv_iconst (v := iI 4) X.1 X.2.1 d_M_asked_107 (by decide) ?_
                          refine r_ni (m_run (As := [.int (iI 0), .int (iI 4)]) (rest := [.int (iI z116), .ref ((D.2.1 12)), .ref h]) (n := 2) X Y hZ hA hml hl.1 (r_M_b l D E h q H.size I115 J116 B109 G116 0 (by decide) (by decide) 4 (by decide) (by decide) S.1) kl_M_b ks_M_b kx_M_b ki_M_b ini_M hd_M_b ⟨Nat.le_of_ble_eq_true rfl, Nat.le_of_ble_eq_true rfl⟩ rfl (Nat.le_of_ble_eq_true rfl) d_M_asked_108 ⟨Nat.le_refl _, Nat.le_refl _⟩) X Y hA S (by decide) (by decide) (fun z117 u H locs Y S s117 p117 => ?_)
                          obtain ⟨I117, J117, B117, G117⟩ := u
                          dsimp only at Y S s117 p117
                          have i117 : I115 = I117 := (funext (fun j => s117.2.1 j (by simp))).symm
                          subst i117
                          have b117 : B109 = B117 := (funext (fun j => s117.2.2 j (by simp))).symm
                          subst b117
                          obtain ⟨l117, u117, x117⟩ := p117
                          have p118 : pr z116 z117 := by rw [x116, x117]; exact (pG2_cg rfl rfl (pG2_cg rfl rfl (pG2_cg rfl rfl g109_P2))) (16 * 0 + 4 : Int).toNat (by omega)
                          unfold pr at p118
                          refine lv_iconst (v := iI 1) X.1 X.2.1 d_M_asked_111 (by decide) ?_
                          refine r_ni (m_run (As := [.ref ((D.2.1 12)), .int (iI z116), .int (iI z117), .int (iI 1)]) (rest := []) (n := 4) X Y hZ hA hml hl.1 (r_M_sequence_t l D E h q H.size I115 J117 B109 G117 12 (show 12 < nZ by decide) z116 (by omega) (by omega) z117 (by omega) (by omega) 1 (by decide) (by decide) S.1 4 (B109 0) rfl (isF (B109 0) 4) (by decide) (hisU (show rki 12 ≤ 4 by decide)) (pG1_cg rfl rfl (pG1_cg rfl rfl (pG1_cg (w115.2 39 (by decide)) (w115.2 40 (by decide)) g109_P1))) (pG2_cg rfl rfl (pG2_cg rfl rfl (pG2_cg rfl rfl g109_P2))) (by omega) (by omega)) kl_M_sequence ks_M_sequence kx_M_sequence ki_M_sequence ini_M hd_M_sequence ⟨Nat.le_of_ble_eq_true rfl, Nat.le_of_ble_eq_true rfl⟩ rfl (Nat.le_of_ble_eq_true rfl) d_M_asked_112 ⟨Nat.le_refl _, Nat.le_refl _⟩) X Y hA S (by decide) (by decide) (fun z119 u H locs Y S s119 p119 => ?_)
                          obtain ⟨I119, J119, B119, G119⟩ := u
                          dsimp only at Y S s119 p119
                          have f120 : hD I119 := (hD_cg (s119.2.1 68 (by decide)) (s119.2.1 70 (by decide)) (hD_cg rfl rfl (hD_cg rfl rfl (hD_cg (w115.2 68 (by decide)) (w115.2 70 (by decide)) (hD_cg (s109.2.1 68 (by decide)) (s109.2.1 70 (by decide)) (hD_cg (w105.2 68 (by decide)) (w105.2 70 (by decide)) f_HD))))))
                          obtain ⟨l119, u119, x119, st119, g119_P1, g119_P2⟩ := p119
                          have g119_TF : thF [1] (B109 37) (B109 38) (B119 37) (B119 38) := thF_of st119.1
                          have f121 : rwO (16 * 0 + 3 : Int).toNat (B119 37) (B119 38) (B119 0) := (rwO_cg (s119.2.2 0 (by decide)) rfl rfl (rwO_T g119_TF (by decide) (by decide) (rwO_cg rfl rfl rfl (rwO_cg rfl rfl rfl (rwO_cg rfl rfl rfl a114.1)))))
                          have zz119 : z119 = 1 := x119.mpr (by rw [x116, x117]; exact a114.2.1)
                          have yy119 := a114.2.2
                          have a122 := body_R (m := B109 0) (x119.mp zz119) (by omega) (by omega) (st119.2 zz119)
                          rw [← s119.2.2 0 (by decide)] at a122
                          refine lv_pop X.1 X.2.1 d_M_asked_115 rfl ?_
                          refine lv_aload_n X.1 X.2.1 d_M_asked_116 rfl (lv_at hl 2 rfl) ?_
                          refine lv_iconst (v := iI 0) X.1 X.2.1 d_M_asked_117 (by decide) ?_
                          refine lv_iconst (v := iI 1) X.1 X.2.1 d_M_asked_118 (by decide) ?_
                          refine r_nl (m_run (As := [.int (iI 0), .int (iI 1)]) (rest := []) (n := 2) X Y hZ hA hml hl.1 (r_M_numberAt l D E h q H.size I119 J119 B119 G119 0 (by decide) (by decide) 1 (by decide) (by decide) S.1 g119_P1 g119_P2) kl_M_numberAt ks_M_numberAt kx_M_numberAt ki_M_numberAt ini_M hd_M_numberAt ⟨Nat.le_of_ble_eq_true rfl, Nat.le_of_ble_eq_true rfl⟩ rfl (Nat.le_of_ble_eq_true rfl) d_M_asked_119 ⟨Nat.le_refl _, Nat.le_refl _⟩) X Y hA S (by decide) (by decide) (fun v123 u H locs Y S s123 p123 => ?_)
                          obtain ⟨I123, J123, B123, G123⟩ := u
                          dsimp only at Y S s123 p123
                          have b123 : B119 = B123 := (funext (fun j => s123.2.2 j (by simp))).symm
                          subst b123
                          have g123_P1 := p123
                          refine lv_ldc2 (v := (5)) X.1 X.2.1 X.2.2.2.1 (X.2.2.1 _ cl_M_669) d_M_asked_122 ?_
                          refine W.lcmp X.1 X.2.1 d_M_asked_125 ?_
                          refine t_u (fun z124 l124 u124 => ?_)
                          refine z_if_eq (tgt := 131) X.1 X.2.1 d_M_asked_126 (by decide) ⟨by omega, by omega⟩ (fun h125 => ?_) (fun h125 => ?_)
                          · as_aux_lemma =>
                              refine lv_aload_n X.1 X.2.1 d_M_asked_131 rfl (lv_at hl 2 rfl) ?_
                              refine lv_iconst (v := iI 0) X.1 X.2.1 d_M_asked_132 (by decide) ?_
                              refine lv_iconst (v := iI 2) X.1 X.2.1 d_M_asked_133 (by decide) ?_
                              refine r_nl (m_run (As := [.int (iI 0), .int (iI 2)]) (rest := []) (n := 2) X Y hZ hA hml hl.1 (r_M_numberAt l D E h q H.size I123 J123 B119 G123 0 (by decide) (by decide) 2 (by decide) (by decide) S.1 g123_P1 (pG2_cg rfl rfl g119_P2)) kl_M_numberAt ks_M_numberAt kx_M_numberAt ki_M_numberAt ini_M hd_M_numberAt ⟨Nat.le_of_ble_eq_true rfl, Nat.le_of_ble_eq_true rfl⟩ rfl (Nat.le_of_ble_eq_true rfl) d_M_asked_134 ⟨Nat.le_refl _, Nat.le_refl _⟩) X Y hA S (by decide) (by decide) (fun v126 u H locs Y S s126 p126 => ?_)
                              obtain ⟨I126, J126, B126, G126⟩ := u
                              dsimp only at Y S s126 p126
                              have b126 : B119 = B126 := (funext (fun j => s126.2.2 j (by simp))).symm
                              subst b126
                              have g126_P1 := p126
                              refine lv_aload_n X.1 X.2.1 d_M_asked_137 rfl (lv_at hl 2 rfl) ?_
                              refine r_get0 X Y (by decide) lk_isAs (gf_isAs _ _ _) rfl ((s126.2.1 69 (by decide)).trans ((s123.2.1 69 (by decide)).trans ((s119.2.1 69 (by decide)).trans ((w115.2 69 (by decide)).trans ((s109.2.1 69 (by decide)).trans w105.1))))) d_M_asked_138 ?_
                              refine z_if_eq (tgt := 150) X.1 X.2.1 d_M_asked_141 (by decide) ⟨by decide, by decide⟩ (fun h127 => ?_) (fun h127 => False.elim (by omega))
                              · as_aux_lemma =>
                                  refine lv_ldc2 (v := (12)) X.1 X.2.1 X.2.2.2.1 (X.2.2.1 _ cl_M_673) d_M_asked_150 ?_
                                  refine W.lcmp X.1 X.2.1 d_M_asked_153 ?_
                                  refine t_u (fun z128 l128 u128 => ?_)
                                  refine z_if_eq (tgt := 160) X.1 X.2.1 d_M_asked_154 (by decide) ⟨by omega, by omega⟩ (fun h129 => ?_) (fun h129 => ?_)
                                  · as_aux_lemma =>
                                      refine lv_aload_n X.1 X.2.1 d_M_asked_160 rfl (lv_at hl 2 rfl) ?_
                                      refine lv_iconst (v := iI 1) X.1 X.2.1 d_M_asked_161 (by decide) ?_
                                      refine lv_iconst (v := iI 3) X.1 X.2.1 d_M_asked_162 (by decide) ?_
                                      refine r_ni (m_run (As := [.int (iI 1), .int (iI 3)]) (rest := []) (n := 2) X Y hZ hA hml hl.1 (r_M_has l D E h q H.size I126 J126 B119 G126 1 (by decide) (by decide) 3 (by decide) (by decide) S.1) kl_M_has ks_M_has kx_M_has ki_M_has ini_M hd_M_has ⟨Nat.le_of_ble_eq_true rfl, Nat.le_of_ble_eq_true rfl⟩ rfl (Nat.le_of_ble_eq_true rfl) d_M_asked_163 ⟨Nat.le_refl _, Nat.le_refl _⟩) X Y hA S (by decide) (by decide) (fun z130 u H locs Y S s130 p130 => ?_)
                                      obtain ⟨I130, J130, B130, G130⟩ := u
                                      dsimp only at Y S s130 p130
                                      have i130 : I126 = I130 := (funext (fun j => s130.2.1 j (by simp))).symm
                                      subst i130
                                      have b130 : B119 = B130 := (funext (fun j => s130.2.2 j (by simp))).symm
                                      subst b130
                                      obtain ⟨l130, u130, x130⟩ := p130
                                      refine z_if_ne (tgt := 172) X.1 X.2.1 d_M_asked_166 (by decide) ⟨by omega, by omega⟩ (fun h131 => ?_) (fun h131 => ?_)
                                      · as_aux_lemma =>
                                          refine lv_aload_n X.1 X.2.1 d_M_asked_172 rfl (lv_at hl 2 rfl) ?_
                                          refine lv_aload_n X.1 X.2.1 d_M_asked_173 rfl (lv_at hl 2 rfl) ?_
                                          refine lv_iconst (v := iI 1) X.1 X.2.1 d_M_asked_174 (by decide) ?_
                                          refine lv_iconst (v := iI 2) X.1 X.2.1 d_M_asked_175 (by decide) ?_
                                          refine r_ni (m_run (As := [.int (iI 1), .int (iI 2)]) (rest := [.ref h]) (n := 2) X Y hZ hA hml hl.1 (r_M_a l D E h q H.size I126 J130 B119 G130 1 (by decide) (by decide) 2 (by decide) (by decide) S.1) kl_M_a ks_M_a kx_M_a ki_M_a ini_M hd_M_a ⟨Nat.le_of_ble_eq_true rfl, Nat.le_of_ble_eq_true rfl⟩ rfl (Nat.le_of_ble_eq_true rfl) d_M_asked_176 ⟨Nat.le_refl _, Nat.le_refl _⟩) X Y hA S (by decide) (by decide) (fun z132 u H locs Y S s132 p132 => ?_)
                                          obtain ⟨I132, J132, B132, G132⟩ := u
                                          dsimp only at Y S s132 p132
                                          have i132 : I126 = I132 := (funext (fun j => s132.2.1 j (by simp))).symm
                                          subst i132
                                          have b132 : B119 = B132 := (funext (fun j => s132.2.2 j (by simp))).symm
                                          subst b132
                                          obtain ⟨l132, u132, x132⟩ := p132
                                          refine lv_aload_n X.1 X.2.1 d_M_asked_179 rfl (lv_at hl 2 rfl) ?_
                                          refine lv_iconst (v := iI 1) X.1 X.2.1 d_M_asked_180 (by decide) ?_
                                          refine lv_iconst (v := iI 2) X.1 X.2.1 d_M_asked_181 (by decide) ?_
                                          refine r_ni (m_run (As := [.int (iI 1), .int (iI 2)]) (rest := [.int (iI z132), .ref h]) (n := 2) X Y hZ hA hml hl.1 (r_M_b l D E h q H.size I126 J132 B119 G132 1 (by decide) (by decide) 2 (by decide) (by decide) S.1) kl_M_b ks_M_b kx_M_b ki_M_b ini_M hd_M_b ⟨Nat.le_of_ble_eq_true rfl, Nat.le_of_ble_eq_true rfl⟩ rfl (Nat.le_of_ble_eq_true rfl) d_M_asked_182 ⟨Nat.le_refl _, Nat.le_refl _⟩) X Y hA S (by decide) (by decide) (fun z133 u H locs Y S s133 p133 => ?_)
                                          obtain ⟨I133, J133, B133, G133⟩ := u
                                          dsimp only at Y S s133 p133
                                          have i133 : I126 = I133 := (funext (fun j => s133.2.1 j (by simp))).symm
                                          subst i133
                                          have b133 : B119 = B133 := (funext (fun j => s133.2.2 j (by simp))).symm
                                          subst b133
                                          obtain ⟨l133, u133, x133⟩ := p133
                                          have p134 : pr z132 z133 := by rw [x132, x133]; exact (pG2_cg rfl rfl (pG2_cg rfl rfl (pG2_cg rfl rfl (pG2_cg rfl rfl (pG2_cg rfl rfl g119_P2))))) (16 * 1 + 2 : Int).toNat (by omega)
                                          unfold pr at p134
                                          refine m_ldcSW (i := 2) X (by decide) (by decide) d_M_asked_185 ?_
                                          refine r_ni (m_run (As := [.int (iI z132), .int (iI z133), .ref ((D.2.1 2))]) (rest := []) (n := 3) X Y hZ hA hml hl.1 (r_M_isWord l D E h q H.size I126 J133 B119 G133 z132 (by omega) (by omega) z133 (by omega) (by omega) 2 (show 2 < nZ by decide) S.1 (pG1_cg rfl rfl (pG1_cg rfl rfl (pG1_cg rfl rfl g126_P1))) (by omega) (by omega)) kl_M_isWord ks_M_isWord kx_M_isWord ki_M_isWord ini_M hd_M_isWord ⟨Nat.le_of_ble_eq_true rfl, Nat.le_of_ble_eq_true rfl⟩ rfl (Nat.le_of_ble_eq_true rfl) d_M_asked_188 ⟨Nat.le_refl _, Nat.le_refl _⟩) X Y hA S (by decide) (by decide) (fun z135 u H locs Y S s135 p135 => ?_)
                                          obtain ⟨I135, J135, B135, G135⟩ := u
                                          dsimp only at Y S s135 p135
                                          have b135 : B119 = B135 := (funext (fun j => s135.2.2 j (by simp))).symm
                                          subst b135
                                          obtain ⟨l135, u135, x135, g135_P1⟩ := p135
                                          refine z_if_ne (tgt := 197) X.1 X.2.1 d_M_asked_191 (by decide) ⟨by omega, by omega⟩ (fun h136 => ?_) (fun h136 => ?_)
                                          · refine lv_aload_n X.1 X.2.1 d_M_asked_197 rfl (lv_at hl 2 rfl) ?_
                                            refine r_get0 X Y (by decide) lk_isAs (gf_isAs _ _ _) rfl ((s135.2.1 69 (by decide)).trans ((s126.2.1 69 (by decide)).trans ((s123.2.1 69 (by decide)).trans ((s119.2.1 69 (by decide)).trans ((w115.2 69 (by decide)).trans ((s109.2.1 69 (by decide)).trans w105.1)))))) d_M_asked_198 ?_
                                            refine z_if_eq (tgt := 211) X.1 X.2.1 d_M_asked_201 (by decide) ⟨by decide, by decide⟩ (fun h137 => ?_) (fun h137 => False.elim (by omega))
                                            · refine lv_aload_n X.1 X.2.1 d_M_asked_211 rfl (lv_at hl 2 rfl) ?_
                                              refine r_ni (m_run (As := []) (rest := []) (n := 0) X Y hZ hA hml hl.1 (r_M_further l D E h q H.size I135 J135 B119 G135 S.1 cn ((s135.2.1 33 (by decide)).trans ((s126.2.1 33 (by decide)).trans ((s123.2.1 33 (by decide)).trans ((s119.2.1 33 (by decide)).trans ((w115.2 33 (by decide)).trans ((s109.2.1 33 (by decide)).trans ((w105.2 33 (by decide)).trans gcn))))))) (by omega) (by omega) g135_P1 (pG2_cg rfl rfl (pG2_cg rfl rfl (pG2_cg rfl rfl (pG2_cg rfl rfl (pG2_cg rfl rfl (pG2_cg rfl rfl g119_P2)))))) (rwO_cg rfl rfl rfl (rwO_cg rfl rfl rfl (rwO_cg rfl rfl rfl (rwO_cg rfl rfl rfl (rwO_cg rfl rfl rfl (rwO_cg rfl rfl rfl f121)))))) (rwA_cg rfl rfl rfl (rwA_cg rfl rfl rfl (rwA_cg rfl rfl rfl (rwA_cg rfl rfl rfl (rwA_cg rfl rfl rfl (rwA_cg rfl rfl rfl a122.1)))))) (sz3_cg rfl rfl (sz3_cg rfl rfl (sz3_cg rfl rfl (sz3_cg rfl rfl (sz3_cg rfl rfl (sz3_cg rfl rfl a122.2)))))) (hD_cg (s135.2.1 68 (by decide)) (s135.2.1 70 (by decide)) (hD_cg rfl rfl (hD_cg rfl rfl (hD_cg rfl rfl (hD_cg (s126.2.1 68 (by decide)) (s126.2.1 70 (by decide)) (hD_cg (s123.2.1 68 (by decide)) (s123.2.1 70 (by decide)) f120))))))) kl_M_further ks_M_further kx_M_further ki_M_further ini_M hd_M_further ⟨Nat.le_of_ble_eq_true rfl, Nat.le_of_ble_eq_true rfl⟩ rfl (Nat.le_of_ble_eq_true rfl) d_M_asked_212 ⟨Nat.le_refl _, Nat.le_refl _⟩) X Y hA S (by decide) (by decide) (fun z138 u H locs Y S s138 p138 => ?_)
                                              obtain ⟨I138, J138, B138, G138⟩ := u
                                              dsimp only at Y S s138 p138
                                              have f139 : hD I138 := (hD_cg (s138.2.1 68 (by decide)) (s138.2.1 70 (by decide)) (hD_cg (s135.2.1 68 (by decide)) (s135.2.1 70 (by decide)) (hD_cg rfl rfl (hD_cg rfl rfl (hD_cg rfl rfl (hD_cg (s126.2.1 68 (by decide)) (s126.2.1 70 (by decide)) (hD_cg (s123.2.1 68 (by decide)) (s123.2.1 70 (by decide)) f120)))))))
                                              obtain ⟨l138, u138, x138, g138_P1, g138_P2, g138_HD⟩ := p138
                                              obtain ⟨z140, e140, l140, u140⟩ := x138
                                              exact m_reti hQQ X Y hr hlk ⟨S, z138, rfl, ⟨by omega, by omega, ⟨z140, e140, by omega, by omega⟩, g138_P1, g138_P2, g138_HD⟩⟩ d_M_asked_215
                                          · refine lv_bipush (v := iI 68) X.1 X.2.1 d_M_asked_194 (by decide) ?_
                                            exact m_reti hQQ X Y hr hlk ⟨S, 68, rfl, ⟨by omega, by omega, ⟨cn, ((s135.2.1 33 (by decide)).trans ((s126.2.1 33 (by decide)).trans ((s123.2.1 33 (by decide)).trans ((s119.2.1 33 (by decide)).trans ((w115.2 33 (by decide)).trans ((s109.2.1 33 (by decide)).trans ((w105.2 33 (by decide)).trans gcn))))))), by omega, by omega⟩, g135_P1, (pG2_cg rfl rfl (pG2_cg rfl rfl (pG2_cg rfl rfl (pG2_cg rfl rfl (pG2_cg rfl rfl (pG2_cg rfl rfl g119_P2)))))), (hD_cg (s135.2.1 68 (by decide)) (s135.2.1 70 (by decide)) (hD_cg rfl rfl (hD_cg rfl rfl (hD_cg rfl rfl (hD_cg (s126.2.1 68 (by decide)) (s126.2.1 70 (by decide)) (hD_cg (s123.2.1 68 (by decide)) (s123.2.1 70 (by decide)) f120))))))⟩⟩ d_M_asked_196
                                      · refine lv_bipush (v := iI 7) X.1 X.2.1 d_M_asked_169 (by decide) ?_
                                        exact m_reti hQQ X Y hr hlk ⟨S, 7, rfl, ⟨by omega, by omega, ⟨cn, ((s126.2.1 33 (by decide)).trans ((s123.2.1 33 (by decide)).trans ((s119.2.1 33 (by decide)).trans ((w115.2 33 (by decide)).trans ((s109.2.1 33 (by decide)).trans ((w105.2 33 (by decide)).trans gcn)))))), by omega, by omega⟩, (pG1_cg rfl rfl g126_P1), (pG2_cg rfl rfl (pG2_cg rfl rfl (pG2_cg rfl rfl g119_P2))), (hD_cg rfl rfl (hD_cg (s126.2.1 68 (by decide)) (s126.2.1 70 (by decide)) (hD_cg (s123.2.1 68 (by decide)) (s123.2.1 70 (by decide)) f120)))⟩⟩ d_M_asked_171
                                  · refine lv_bipush (v := iI 40) X.1 X.2.1 d_M_asked_157 (by decide) ?_
                                    exact m_reti hQQ X Y hr hlk ⟨S, 40, rfl, ⟨by omega, by omega, ⟨cn, ((s126.2.1 33 (by decide)).trans ((s123.2.1 33 (by decide)).trans ((s119.2.1 33 (by decide)).trans ((w115.2 33 (by decide)).trans ((s109.2.1 33 (by decide)).trans ((w105.2 33 (by decide)).trans gcn)))))), by omega, by omega⟩, g126_P1, (pG2_cg rfl rfl (pG2_cg rfl rfl g119_P2)), (hD_cg (s126.2.1 68 (by decide)) (s126.2.1 70 (by decide)) (hD_cg (s123.2.1 68 (by decide)) (s123.2.1 70 (by decide)) f120))⟩⟩ d_M_asked_159
                          · refine lv_iconst (v := iI 3) X.1 X.2.1 d_M_asked_129 (by decide) ?_
                            exact m_reti hQQ X Y hr hlk ⟨S, 3, rfl, ⟨by omega, by omega, ⟨cn, ((s123.2.1 33 (by decide)).trans ((s119.2.1 33 (by decide)).trans ((w115.2 33 (by decide)).trans ((s109.2.1 33 (by decide)).trans ((w105.2 33 (by decide)).trans gcn))))), by omega, by omega⟩, g123_P1, (pG2_cg rfl rfl g119_P2), (hD_cg (s123.2.1 68 (by decide)) (s123.2.1 70 (by decide)) f120)⟩⟩ d_M_asked_130
      · as_aux_lemma =>
          refine lv_iconst (v := iI 1) X.1 X.2.1 d_M_asked_26 (by decide) ?_
          refine lv_goto (tgt := 31) X.1 X.2.1 d_M_asked_27 (by decide) ?_
          refine r_puti (k := 69) X Y S (by decide) lk_isAs rfl rfl (t_M_ok 69 (by decide)) (iI_bool (by omega) (by omega)).1 (iI_bool (by omega) (by omega)).2 (sf_isAs _ _ _ _) (Nat.le_of_ble_eq_true rfl) rfl (show (0 : Int) ≤ 1 by omega) (show 1 ≤ (1 : Int) by omega) ⟨by omega, by omega⟩ (by decide) d_M_asked_31 (fun I141 H locs Y S w141 => ?_)
          refine lv_aload_n X.1 X.2.1 d_M_asked_34 rfl (lv_at hl 1 rfl) ?_
          refine r_get0 X Y (by decide) lk_isAs (gf_isAs _ _ _) rfl w141.1 d_M_asked_35 ?_
          refine z_if_eq (tgt := 56) X.1 X.2.1 d_M_asked_38 (by decide) ⟨by decide, by decide⟩ (fun h142 => False.elim (by omega)) (fun h142 => ?_)
          · as_aux_lemma =>
              refine lv_aload_n X.1 X.2.1 d_M_asked_41 rfl (lv_at hl 1 rfl) ?_
              refine lv_bipush (v := iI 10) X.1 X.2.1 d_M_asked_42 (by decide) ?_
              refine m_ldcSW (i := 3) X (by decide) (by decide) d_M_asked_44 ?_
              refine lv_iconst (v := iI 0) X.1 X.2.1 d_M_asked_47 (by decide) ?_
              refine lv_iload_n X.1 X.2.1 d_M_asked_48 rfl (lv_at hl 2 rfl) ?_
              refine lv_iconst (v := iI 0) X.1 X.2.1 d_M_asked_49 (by decide) ?_
              refine r_ni (m_run (As := [.int (iI 10), .ref ((D.2.1 3)), .int (iI 0), .int (iI a1), .int (iI 0)]) (rest := []) (n := 5) X Y hZ hA hml hl.1 (r_M_applied_t l D E h q H.size I141 J B G 10 (by decide) (by decide) 3 (show 3 < nZ by decide) 0 (by decide) (by decide) a1 (by omega) (by omega) 0 (by decide) (by decide) S.1 5 (B 0) rfl (isF (B 0) 5) (by decide) (hisU (show rki 3 ≤ 5 by decide)) (pG1_cg (w141.2 39 (by decide)) (w141.2 40 (by decide)) f_P1) (pG2_cg rfl rfl f_P2) (by omega) (by omega)) kl_M_applied ks_M_applied kx_M_applied ki_M_applied ini_M hd_M_applied ⟨Nat.le_of_ble_eq_true rfl, Nat.le_of_ble_eq_true rfl⟩ rfl (Nat.le_of_ble_eq_true rfl) d_M_asked_50 ⟨Nat.le_refl _, Nat.le_refl _⟩) X Y hA S (by decide) (by decide) (fun z143 u H locs Y S s143 p143 => ?_)
              obtain ⟨I143, J143, B143, G143⟩ := u
              dsimp only at Y S s143 p143
              obtain ⟨l143, u143, x143, st143, g143_P1, g143_P2⟩ := p143
              have g143_TF : thF [0] (B 37) (B 38) (B143 37) (B143 38) := thF_of st143.1
              refine lv_goto (tgt := 82) X.1 X.2.1 d_M_asked_53 (by decide) ?_
              refine lv_istore_n (lv' := [(3, .int (iI z143)), (2, .int (iI z103)), (0, .ref h), (1, .int (iI a1))]) X.1 X.2.1 d_M_asked_82 rfl hl (by decide) rfl (fun ls hl => ?_)
              refine lv_iload_n X.1 X.2.1 d_M_asked_83 rfl (lv_at hl 0 rfl) ?_
              refine z_if_ne (tgt := 90) X.1 X.2.1 d_M_asked_84 (by decide) ⟨by omega, by omega⟩ (fun h144 => ?_) (fun h144 => ?_)
              · as_aux_lemma =>
                  have wa145 := (x143.mp (by omega)).1
                  unfold whP at wa145
                  have ra145 := el_rng (B 0) (a := 0) (b := a1) (.inl (by omega))
                  have a145 := req_R (m := (B 0)) (x143.mp (by omega)).2 (by omega) (by omega) (st143.2 (by omega))
                  rw [← s143.2.2 0 (by decide)] at a145
                  have wa146 := (x143.mp (by omega)).1
                  unfold whP at wa146
                  have ra146 := el_rng (B 0) (a := 0) (b := a1) (.inl (by omega))
                  have a146 := req_R (m := (B 0)) (x143.mp (by omega)).2 (by omega) (by omega) (st143.2 (by omega))
                  rw [← s143.2.2 0 (by decide)] at a146
                  refine lv_aload_n X.1 X.2.1 d_M_asked_90 rfl (lv_at hl 2 rfl) ?_
                  refine lv_iconst (v := iI 1) X.1 X.2.1 d_M_asked_91 (by decide) ?_
                  refine r_puti (k := 67) X Y S (by decide) lk_isRead rfl rfl (t_M_ok 67 (by decide)) (iI_bool (by omega) (by omega)).1 (iI_bool (by omega) (by omega)).2 (sf_isRead _ _ _ _) (Nat.le_of_ble_eq_true rfl) rfl (show (0 : Int) ≤ 1 by omega) (show 1 ≤ (1 : Int) by omega) ⟨by omega, by omega⟩ (by decide) d_M_asked_92 (fun I147 H locs Y S w147 => ?_)
                  refine lv_aload_n X.1 X.2.1 d_M_asked_95 rfl (lv_at hl 2 rfl) ?_
                  refine m_ldcSW (i := 12) X (by decide) (by decide) d_M_asked_96 ?_
                  refine lv_aload_n X.1 X.2.1 d_M_asked_99 rfl (lv_at hl 2 rfl) ?_
                  refine lv_iconst (v := iI 0) X.1 X.2.1 d_M_asked_100 (by decide) ?_
                  refine lv_iconst (v := iI 4) X.1 X.2.1 d_M_asked_101 (by decide) ?_
                  refine r_ni (m_run (As := [.int (iI 0), .int (iI 4)]) (rest := [.ref ((D.2.1 12)), .ref h]) (n := 2) X Y hZ hA hml hl.1 (r_M_a l D E h q H.size I147 J143 B143 G143 0 (by decide) (by decide) 4 (by decide) (by decide) S.1) kl_M_a ks_M_a kx_M_a ki_M_a ini_M hd_M_a ⟨Nat.le_of_ble_eq_true rfl, Nat.le_of_ble_eq_true rfl⟩ rfl (Nat.le_of_ble_eq_true rfl) d_M_asked_102 ⟨Nat.le_refl _, Nat.le_refl _⟩) X Y hA S (by decide) (by decide) (fun z148 u H locs Y S s148 p148 => ?_)
                  obtain ⟨I148, J148, B148, G148⟩ := u
                  dsimp only at Y S s148 p148
                  have i148 : I147 = I148 := (funext (fun j => s148.2.1 j (by simp))).symm
                  subst i148
                  have b148 : B143 = B148 := (funext (fun j => s148.2.2 j (by simp))).symm
                  subst b148
                  obtain ⟨l148, u148, x148⟩ := p148
                  refine lv_aload_n X.1 X.2.1 d_M_asked_105 rfl (lv_at hl 2 rfl) ?_
                  refine lv_iconst (v := iI 0) X.1 X.2.1 d_M_asked_106 (by decide) ?_
                  refine lv_iconst (v := iI 4) X.1 X.2.1 d_M_asked_107 (by decide) ?_
                  refine r_ni (m_run (As := [.int (iI 0), .int (iI 4)]) (rest := [.int (iI z148), .ref ((D.2.1 12)), .ref h]) (n := 2) X Y hZ hA hml hl.1 (r_M_b l D E h q H.size I147 J148 B143 G148 0 (by decide) (by decide) 4 (by decide) (by decide) S.1) kl_M_b ks_M_b kx_M_b ki_M_b ini_M hd_M_b ⟨Nat.le_of_ble_eq_true rfl, Nat.le_of_ble_eq_true rfl⟩ rfl (Nat.le_of_ble_eq_true rfl) d_M_asked_108 ⟨Nat.le_refl _, Nat.le_refl _⟩) X Y hA S (by decide) (by decide) (fun z149 u H locs Y S s149 p149 => ?_)
                  obtain ⟨I149, J149, B149, G149⟩ := u
                  dsimp only at Y S s149 p149
                  have i149 : I147 = I149 := (funext (fun j => s149.2.1 j (by simp))).symm
                  subst i149
                  have b149 : B143 = B149 := (funext (fun j => s149.2.2 j (by simp))).symm
                  subst b149
                  obtain ⟨l149, u149, x149⟩ := p149
                  have p150 : pr z148 z149 := by rw [x148, x149]; exact (pG2_cg rfl rfl (pG2_cg rfl rfl (pG2_cg rfl rfl g143_P2))) (16 * 0 + 4 : Int).toNat (by omega)
                  unfold pr at p150
                  refine lv_iconst (v := iI 1) X.1 X.2.1 d_M_asked_111 (by decide) ?_
                  refine r_ni (m_run (As := [.ref ((D.2.1 12)), .int (iI z148), .int (iI z149), .int (iI 1)]) (rest := []) (n := 4) X Y hZ hA hml hl.1 (r_M_sequence_t l D E h q H.size I147 J149 B143 G149 12 (show 12 < nZ by decide) z148 (by omega) (by omega) z149 (by omega) (by omega) 1 (by decide) (by decide) S.1 4 (B143 0) rfl (isF (B143 0) 4) (by decide) (hisU (show rki 12 ≤ 4 by decide)) (pG1_cg rfl rfl (pG1_cg rfl rfl (pG1_cg (w147.2 39 (by decide)) (w147.2 40 (by decide)) g143_P1))) (pG2_cg rfl rfl (pG2_cg rfl rfl (pG2_cg rfl rfl g143_P2))) (by omega) (by omega)) kl_M_sequence ks_M_sequence kx_M_sequence ki_M_sequence ini_M hd_M_sequence ⟨Nat.le_of_ble_eq_true rfl, Nat.le_of_ble_eq_true rfl⟩ rfl (Nat.le_of_ble_eq_true rfl) d_M_asked_112 ⟨Nat.le_refl _, Nat.le_refl _⟩) X Y hA S (by decide) (by decide) (fun z151 u H locs Y S s151 p151 => ?_)
                  obtain ⟨I151, J151, B151, G151⟩ := u
                  dsimp only at Y S s151 p151
                  have f152 : hD I151 := (hD_cg (s151.2.1 68 (by decide)) (s151.2.1 70 (by decide)) (hD_cg rfl rfl (hD_cg rfl rfl (hD_cg (w147.2 68 (by decide)) (w147.2 70 (by decide)) (hD_cg (s143.2.1 68 (by decide)) (s143.2.1 70 (by decide)) (hD_cg (w141.2 68 (by decide)) (w141.2 70 (by decide)) f_HD))))))
                  obtain ⟨l151, u151, x151, st151, g151_P1, g151_P2⟩ := p151
                  have g151_TF : thF [1] (B143 37) (B143 38) (B151 37) (B151 38) := thF_of st151.1
                  have f153 : rwO (16 * 0 + 3 : Int).toNat (B151 37) (B151 38) (B151 0) := (rwO_cg (s151.2.2 0 (by decide)) rfl rfl (rwO_T g151_TF (by decide) (by decide) (rwO_cg rfl rfl rfl (rwO_cg rfl rfl rfl (rwO_cg rfl rfl rfl a146.1)))))
                  have zz151 : z151 = 1 := x151.mpr (by rw [x148, x149]; exact a146.2.1)
                  have yy151 := a146.2.2
                  have a154 := body_R (m := B143 0) (x151.mp zz151) (by omega) (by omega) (st151.2 zz151)
                  rw [← s151.2.2 0 (by decide)] at a154
                  refine lv_pop X.1 X.2.1 d_M_asked_115 rfl ?_
                  refine lv_aload_n X.1 X.2.1 d_M_asked_116 rfl (lv_at hl 2 rfl) ?_
                  refine lv_iconst (v := iI 0) X.1 X.2.1 d_M_asked_117 (by decide) ?_
                  refine lv_iconst (v := iI 1) X.1 X.2.1 d_M_asked_118 (by decide) ?_
                  refine r_nl (m_run (As := [.int (iI 0), .int (iI 1)]) (rest := []) (n := 2) X Y hZ hA hml hl.1 (r_M_numberAt l D E h q H.size I151 J151 B151 G151 0 (by decide) (by decide) 1 (by decide) (by decide) S.1 g151_P1 g151_P2) kl_M_numberAt ks_M_numberAt kx_M_numberAt ki_M_numberAt ini_M hd_M_numberAt ⟨Nat.le_of_ble_eq_true rfl, Nat.le_of_ble_eq_true rfl⟩ rfl (Nat.le_of_ble_eq_true rfl) d_M_asked_119 ⟨Nat.le_refl _, Nat.le_refl _⟩) X Y hA S (by decide) (by decide) (fun v155 u H locs Y S s155 p155 => ?_)
                  obtain ⟨I155, J155, B155, G155⟩ := u
                  dsimp only at Y S s155 p155
                  have b155 : B151 = B155 := (funext (fun j => s155.2.2 j (by simp))).symm
                  subst b155
                  have g155_P1 := p155
                  refine lv_ldc2 (v := (5)) X.1 X.2.1 X.2.2.2.1 (X.2.2.1 _ cl_M_669) d_M_asked_122 ?_
                  refine W.lcmp X.1 X.2.1 d_M_asked_125 ?_
                  refine t_u (fun z156 l156 u156 => ?_)
                  refine z_if_eq (tgt := 131) X.1 X.2.1 d_M_asked_126 (by decide) ⟨by omega, by omega⟩ (fun h157 => ?_) (fun h157 => ?_)
                  · as_aux_lemma =>
                      refine lv_aload_n X.1 X.2.1 d_M_asked_131 rfl (lv_at hl 2 rfl) ?_
                      refine lv_iconst (v := iI 0) X.1 X.2.1 d_M_asked_132 (by decide) ?_
                      refine lv_iconst (v := iI 2) X.1 X.2.1 d_M_asked_133 (by decide) ?_
                      refine r_nl (m_run (As := [.int (iI 0), .int (iI 2)]) (rest := []) (n := 2) X Y hZ hA hml hl.1 (r_M_numberAt l D E h q H.size I155 J155 B151 G155 0 (by decide) (by decide) 2 (by decide) (by decide) S.1 g155_P1 (pG2_cg rfl rfl g151_P2)) kl_M_numberAt ks_M_numberAt kx_M_numberAt ki_M_numberAt ini_M hd_M_numberAt ⟨Nat.le_of_ble_eq_true rfl, Nat.le_of_ble_eq_true rfl⟩ rfl (Nat.le_of_ble_eq_true rfl) d_M_asked_134 ⟨Nat.le_refl _, Nat.le_refl _⟩) X Y hA S (by decide) (by decide) (fun v158 u H locs Y S s158 p158 => ?_)
                      obtain ⟨I158, J158, B158, G158⟩ := u
                      dsimp only at Y S s158 p158
                      have b158 : B151 = B158 := (funext (fun j => s158.2.2 j (by simp))).symm
                      subst b158
                      have g158_P1 := p158
                      refine lv_aload_n X.1 X.2.1 d_M_asked_137 rfl (lv_at hl 2 rfl) ?_
                      refine r_get0 X Y (by decide) lk_isAs (gf_isAs _ _ _) rfl ((s158.2.1 69 (by decide)).trans ((s155.2.1 69 (by decide)).trans ((s151.2.1 69 (by decide)).trans ((w147.2 69 (by decide)).trans ((s143.2.1 69 (by decide)).trans w141.1))))) d_M_asked_138 ?_
                      refine z_if_eq (tgt := 150) X.1 X.2.1 d_M_asked_141 (by decide) ⟨by decide, by decide⟩ (fun h159 => False.elim (by omega)) (fun h159 => ?_)
                      · as_aux_lemma =>
                          refine lv_ldc2 (v := (10)) X.1 X.2.1 X.2.2.2.1 (X.2.2.1 _ cl_M_671) d_M_asked_144 ?_
                          refine lv_goto (tgt := 153) X.1 X.2.1 d_M_asked_147 (by decide) ?_
                          refine W.lcmp X.1 X.2.1 d_M_asked_153 ?_
                          refine t_u (fun z160 l160 u160 => ?_)
                          refine z_if_eq (tgt := 160) X.1 X.2.1 d_M_asked_154 (by decide) ⟨by omega, by omega⟩ (fun h161 => ?_) (fun h161 => ?_)
                          · as_aux_lemma =>
                              refine lv_aload_n X.1 X.2.1 d_M_asked_160 rfl (lv_at hl 2 rfl) ?_
                              refine lv_iconst (v := iI 1) X.1 X.2.1 d_M_asked_161 (by decide) ?_
                              refine lv_iconst (v := iI 3) X.1 X.2.1 d_M_asked_162 (by decide) ?_
                              refine r_ni (m_run (As := [.int (iI 1), .int (iI 3)]) (rest := []) (n := 2) X Y hZ hA hml hl.1 (r_M_has l D E h q H.size I158 J158 B151 G158 1 (by decide) (by decide) 3 (by decide) (by decide) S.1) kl_M_has ks_M_has kx_M_has ki_M_has ini_M hd_M_has ⟨Nat.le_of_ble_eq_true rfl, Nat.le_of_ble_eq_true rfl⟩ rfl (Nat.le_of_ble_eq_true rfl) d_M_asked_163 ⟨Nat.le_refl _, Nat.le_refl _⟩) X Y hA S (by decide) (by decide) (fun z162 u H locs Y S s162 p162 => ?_)
                              obtain ⟨I162, J162, B162, G162⟩ := u
                              dsimp only at Y S s162 p162
                              have i162 : I158 = I162 := (funext (fun j => s162.2.1 j (by simp))).symm
                              subst i162
                              have b162 : B151 = B162 := (funext (fun j => s162.2.2 j (by simp))).symm
                              subst b162
                              obtain ⟨l162, u162, x162⟩ := p162
                              refine z_if_ne (tgt := 172) X.1 X.2.1 d_M_asked_166 (by decide) ⟨by omega, by omega⟩ (fun h163 => ?_) (fun h163 => ?_)
                              · as_aux_lemma =>
                                  refine lv_aload_n X.1 X.2.1 d_M_asked_172 rfl (lv_at hl 2 rfl) ?_
                                  refine lv_aload_n X.1 X.2.1 d_M_asked_173 rfl (lv_at hl 2 rfl) ?_
                                  refine lv_iconst (v := iI 1) X.1 X.2.1 d_M_asked_174 (by decide) ?_
                                  refine lv_iconst (v := iI 2) X.1 X.2.1 d_M_asked_175 (by decide) ?_
                                  refine r_ni (m_run (As := [.int (iI 1), .int (iI 2)]) (rest := [.ref h]) (n := 2) X Y hZ hA hml hl.1 (r_M_a l D E h q H.size I158 J162 B151 G162 1 (by decide) (by decide) 2 (by decide) (by decide) S.1) kl_M_a ks_M_a kx_M_a ki_M_a ini_M hd_M_a ⟨Nat.le_of_ble_eq_true rfl, Nat.le_of_ble_eq_true rfl⟩ rfl (Nat.le_of_ble_eq_true rfl) d_M_asked_176 ⟨Nat.le_refl _, Nat.le_refl _⟩) X Y hA S (by decide) (by decide) (fun z164 u H locs Y S s164 p164 => ?_)
                                  obtain ⟨I164, J164, B164, G164⟩ := u
                                  dsimp only at Y S s164 p164
                                  have i164 : I158 = I164 := (funext (fun j => s164.2.1 j (by simp))).symm
                                  subst i164
                                  have b164 : B151 = B164 := (funext (fun j => s164.2.2 j (by simp))).symm
                                  subst b164
                                  obtain ⟨l164, u164, x164⟩ := p164
                                  refine lv_aload_n X.1 X.2.1 d_M_asked_179 rfl (lv_at hl 2 rfl) ?_
                                  refine lv_iconst (v := iI 1) X.1 X.2.1 d_M_asked_180 (by decide) ?_
                                  refine lv_iconst (v := iI 2) X.1 X.2.1 d_M_asked_181 (by decide) ?_
                                  refine r_ni (m_run (As := [.int (iI 1), .int (iI 2)]) (rest := [.int (iI z164), .ref h]) (n := 2) X Y hZ hA hml hl.1 (r_M_b l D E h q H.size I158 J164 B151 G164 1 (by decide) (by decide) 2 (by decide) (by decide) S.1) kl_M_b ks_M_b kx_M_b ki_M_b ini_M hd_M_b ⟨Nat.le_of_ble_eq_true rfl, Nat.le_of_ble_eq_true rfl⟩ rfl (Nat.le_of_ble_eq_true rfl) d_M_asked_182 ⟨Nat.le_refl _, Nat.le_refl _⟩) X Y hA S (by decide) (by decide) (fun z165 u H locs Y S s165 p165 => ?_)
                                  obtain ⟨I165, J165, B165, G165⟩ := u
                                  dsimp only at Y S s165 p165
                                  have i165 : I158 = I165 := (funext (fun j => s165.2.1 j (by simp))).symm
                                  subst i165
                                  have b165 : B151 = B165 := (funext (fun j => s165.2.2 j (by simp))).symm
                                  subst b165
                                  obtain ⟨l165, u165, x165⟩ := p165
                                  have p166 : pr z164 z165 := by rw [x164, x165]; exact (pG2_cg rfl rfl (pG2_cg rfl rfl (pG2_cg rfl rfl (pG2_cg rfl rfl (pG2_cg rfl rfl g151_P2))))) (16 * 1 + 2 : Int).toNat (by omega)
                                  unfold pr at p166
                                  refine m_ldcSW (i := 2) X (by decide) (by decide) d_M_asked_185 ?_
                                  refine r_ni (m_run (As := [.int (iI z164), .int (iI z165), .ref ((D.2.1 2))]) (rest := []) (n := 3) X Y hZ hA hml hl.1 (r_M_isWord l D E h q H.size I158 J165 B151 G165 z164 (by omega) (by omega) z165 (by omega) (by omega) 2 (show 2 < nZ by decide) S.1 (pG1_cg rfl rfl (pG1_cg rfl rfl (pG1_cg rfl rfl g158_P1))) (by omega) (by omega)) kl_M_isWord ks_M_isWord kx_M_isWord ki_M_isWord ini_M hd_M_isWord ⟨Nat.le_of_ble_eq_true rfl, Nat.le_of_ble_eq_true rfl⟩ rfl (Nat.le_of_ble_eq_true rfl) d_M_asked_188 ⟨Nat.le_refl _, Nat.le_refl _⟩) X Y hA S (by decide) (by decide) (fun z167 u H locs Y S s167 p167 => ?_)
                                  obtain ⟨I167, J167, B167, G167⟩ := u
                                  dsimp only at Y S s167 p167
                                  have b167 : B151 = B167 := (funext (fun j => s167.2.2 j (by simp))).symm
                                  subst b167
                                  obtain ⟨l167, u167, x167, g167_P1⟩ := p167
                                  refine z_if_ne (tgt := 197) X.1 X.2.1 d_M_asked_191 (by decide) ⟨by omega, by omega⟩ (fun h168 => ?_) (fun h168 => ?_)
                                  · refine lv_aload_n X.1 X.2.1 d_M_asked_197 rfl (lv_at hl 2 rfl) ?_
                                    refine r_get0 X Y (by decide) lk_isAs (gf_isAs _ _ _) rfl ((s167.2.1 69 (by decide)).trans ((s158.2.1 69 (by decide)).trans ((s155.2.1 69 (by decide)).trans ((s151.2.1 69 (by decide)).trans ((w147.2 69 (by decide)).trans ((s143.2.1 69 (by decide)).trans w141.1)))))) d_M_asked_198 ?_
                                    refine z_if_eq (tgt := 211) X.1 X.2.1 d_M_asked_201 (by decide) ⟨by decide, by decide⟩ (fun h169 => False.elim (by omega)) (fun h169 => ?_)
                                    · refine lv_aload_n X.1 X.2.1 d_M_asked_204 rfl (lv_at hl 2 rfl) ?_
                                      refine r_ni (m_run (As := []) (rest := []) (n := 0) X Y hZ hA hml hl.1 (r_M_initial l D E h q H.size I167 J167 B151 G167 S.1 cn ((s167.2.1 33 (by decide)).trans ((s158.2.1 33 (by decide)).trans ((s155.2.1 33 (by decide)).trans ((s151.2.1 33 (by decide)).trans ((w147.2 33 (by decide)).trans ((s143.2.1 33 (by decide)).trans ((w141.2 33 (by decide)).trans gcn))))))) (by omega) (by omega) g167_P1 (pG2_cg rfl rfl (pG2_cg rfl rfl (pG2_cg rfl rfl (pG2_cg rfl rfl (pG2_cg rfl rfl (pG2_cg rfl rfl g151_P2)))))) (rwO_cg rfl rfl rfl (rwO_cg rfl rfl rfl (rwO_cg rfl rfl rfl (rwO_cg rfl rfl rfl (rwO_cg rfl rfl rfl (rwO_cg rfl rfl rfl f153)))))) (rwA_cg rfl rfl rfl (rwA_cg rfl rfl rfl (rwA_cg rfl rfl rfl (rwA_cg rfl rfl rfl (rwA_cg rfl rfl rfl (rwA_cg rfl rfl rfl a154.1)))))) (sz3_cg rfl rfl (sz3_cg rfl rfl (sz3_cg rfl rfl (sz3_cg rfl rfl (sz3_cg rfl rfl (sz3_cg rfl rfl a154.2)))))) (hD_cg (s167.2.1 68 (by decide)) (s167.2.1 70 (by decide)) (hD_cg rfl rfl (hD_cg rfl rfl (hD_cg rfl rfl (hD_cg (s158.2.1 68 (by decide)) (s158.2.1 70 (by decide)) (hD_cg (s155.2.1 68 (by decide)) (s155.2.1 70 (by decide)) f152)))))) ((s167.2.1 69 (by decide)).trans ((s158.2.1 69 (by decide)).trans ((s155.2.1 69 (by decide)).trans ((s151.2.1 69 (by decide)).trans ((w147.2 69 (by decide)).trans ((s143.2.1 69 (by decide)).trans w141.1))))))) kl_M_initial ks_M_initial kx_M_initial ki_M_initial ini_M hd_M_initial ⟨Nat.le_of_ble_eq_true rfl, Nat.le_of_ble_eq_true rfl⟩ rfl (Nat.le_of_ble_eq_true rfl) d_M_asked_205 ⟨Nat.le_refl _, Nat.le_refl _⟩) X Y hA S (by decide) (by decide) (fun z170 u H locs Y S s170 p170 => ?_)
                                      obtain ⟨I170, J170, B170, G170⟩ := u
                                      dsimp only at Y S s170 p170
                                      obtain ⟨l170, u170, x170, g170_P1, g170_P2, g170_HD⟩ := p170
                                      obtain ⟨z171, e171, l171, u171⟩ := x170
                                      refine lv_goto (tgt := 215) X.1 X.2.1 d_M_asked_208 (by decide) ?_
                                      exact m_reti hQQ X Y hr hlk ⟨S, z170, rfl, ⟨by omega, by omega, ⟨z171, e171, by omega, by omega⟩, g170_P1, g170_P2, g170_HD⟩⟩ d_M_asked_215
                                  · refine lv_bipush (v := iI 68) X.1 X.2.1 d_M_asked_194 (by decide) ?_
                                    exact m_reti hQQ X Y hr hlk ⟨S, 68, rfl, ⟨by omega, by omega, ⟨cn, ((s167.2.1 33 (by decide)).trans ((s158.2.1 33 (by decide)).trans ((s155.2.1 33 (by decide)).trans ((s151.2.1 33 (by decide)).trans ((w147.2 33 (by decide)).trans ((s143.2.1 33 (by decide)).trans ((w141.2 33 (by decide)).trans gcn))))))), by omega, by omega⟩, g167_P1, (pG2_cg rfl rfl (pG2_cg rfl rfl (pG2_cg rfl rfl (pG2_cg rfl rfl (pG2_cg rfl rfl (pG2_cg rfl rfl g151_P2)))))), (hD_cg (s167.2.1 68 (by decide)) (s167.2.1 70 (by decide)) (hD_cg rfl rfl (hD_cg rfl rfl (hD_cg rfl rfl (hD_cg (s158.2.1 68 (by decide)) (s158.2.1 70 (by decide)) (hD_cg (s155.2.1 68 (by decide)) (s155.2.1 70 (by decide)) f152))))))⟩⟩ d_M_asked_196
                              · refine lv_bipush (v := iI 7) X.1 X.2.1 d_M_asked_169 (by decide) ?_
                                exact m_reti hQQ X Y hr hlk ⟨S, 7, rfl, ⟨by omega, by omega, ⟨cn, ((s158.2.1 33 (by decide)).trans ((s155.2.1 33 (by decide)).trans ((s151.2.1 33 (by decide)).trans ((w147.2 33 (by decide)).trans ((s143.2.1 33 (by decide)).trans ((w141.2 33 (by decide)).trans gcn)))))), by omega, by omega⟩, (pG1_cg rfl rfl g158_P1), (pG2_cg rfl rfl (pG2_cg rfl rfl (pG2_cg rfl rfl g151_P2))), (hD_cg rfl rfl (hD_cg (s158.2.1 68 (by decide)) (s158.2.1 70 (by decide)) (hD_cg (s155.2.1 68 (by decide)) (s155.2.1 70 (by decide)) f152)))⟩⟩ d_M_asked_171
                          · refine lv_bipush (v := iI 40) X.1 X.2.1 d_M_asked_157 (by decide) ?_
                            exact m_reti hQQ X Y hr hlk ⟨S, 40, rfl, ⟨by omega, by omega, ⟨cn, ((s158.2.1 33 (by decide)).trans ((s155.2.1 33 (by decide)).trans ((s151.2.1 33 (by decide)).trans ((w147.2 33 (by decide)).trans ((s143.2.1 33 (by decide)).trans ((w141.2 33 (by decide)).trans gcn)))))), by omega, by omega⟩, g158_P1, (pG2_cg rfl rfl (pG2_cg rfl rfl g151_P2)), (hD_cg (s158.2.1 68 (by decide)) (s158.2.1 70 (by decide)) (hD_cg (s155.2.1 68 (by decide)) (s155.2.1 70 (by decide)) f152))⟩⟩ d_M_asked_159
                  · refine lv_iconst (v := iI 3) X.1 X.2.1 d_M_asked_129 (by decide) ?_
                    exact m_reti hQQ X Y hr hlk ⟨S, 3, rfl, ⟨by omega, by omega, ⟨cn, ((s155.2.1 33 (by decide)).trans ((s151.2.1 33 (by decide)).trans ((w147.2 33 (by decide)).trans ((s143.2.1 33 (by decide)).trans ((w141.2 33 (by decide)).trans gcn))))), by omega, by omega⟩, g155_P1, (pG2_cg rfl rfl g151_P2), (hD_cg (s155.2.1 68 (by decide)) (s155.2.1 70 (by decide)) f152)⟩⟩ d_M_asked_130
              · refine lv_bipush (v := iI 60) X.1 X.2.1 d_M_asked_87 (by decide) ?_
                exact m_reti hQQ X Y hr hlk ⟨S, 60, rfl, ⟨by omega, by omega, ⟨cn, ((s143.2.1 33 (by decide)).trans ((w141.2 33 (by decide)).trans gcn)), by omega, by omega⟩, g143_P1, g143_P2, (hD_cg (s143.2.1 68 (by decide)) (s143.2.1 70 (by decide)) (hD_cg (w141.2 68 (by decide)) (w141.2 70 (by decide)) f_HD))⟩⟩ d_M_asked_89
  · refine lv_iconst (v := iI 0) X.1 X.2.1 d_M_asked_4 (by decide) ?_
    refine lv_goto (tgt := 18) X.1 X.2.1 d_M_asked_5 (by decide) ?_
    refine lv_istore_n (lv' := [(2, .int (iI 0)), (0, .ref h), (1, .int (iI a1))]) X.1 X.2.1 d_M_asked_18 rfl hl (by decide) rfl (fun ls hl => ?_)
    refine lv_aload_n X.1 X.2.1 d_M_asked_19 rfl (lv_at hl 1 rfl) ?_
    refine lv_iload_n X.1 X.2.1 d_M_asked_20 rfl (lv_at hl 0 rfl) ?_
    refine lv_bipush (v := iI 106) X.1 X.2.1 d_M_asked_21 (by decide) ?_
    refine z_icmp_ne (tgt := 30) X.1 X.2.1 d_M_asked_23 (by decide) ⟨by decide, by decide⟩ ⟨by decide, by decide⟩ (fun h172 => ?_) (fun h172 => False.elim (by omega))
    · refine lv_iconst (v := iI 0) X.1 X.2.1 d_M_asked_30 (by decide) ?_
      refine r_puti (k := 69) X Y S (by decide) lk_isAs rfl rfl (t_M_ok 69 (by decide)) (iI_bool (by omega) (by omega)).1 (iI_bool (by omega) (by omega)).2 (sf_isAs _ _ _ _) (Nat.le_of_ble_eq_true rfl) rfl (show (0 : Int) ≤ 0 by omega) (show 0 ≤ (1 : Int) by omega) ⟨by omega, by omega⟩ (by decide) d_M_asked_31 (fun I173 H locs Y S w173 => ?_)
      refine lv_aload_n X.1 X.2.1 d_M_asked_34 rfl (lv_at hl 1 rfl) ?_
      refine r_get0 X Y (by decide) lk_isAs (gf_isAs _ _ _) rfl w173.1 d_M_asked_35 ?_
      refine z_if_eq (tgt := 56) X.1 X.2.1 d_M_asked_38 (by decide) ⟨by decide, by decide⟩ (fun h174 => ?_) (fun h174 => False.elim (by omega))
      · refine lv_iload_n X.1 X.2.1 d_M_asked_56 rfl (lv_at hl 0 rfl) ?_
        refine lv_bipush (v := iI 108) X.1 X.2.1 d_M_asked_57 (by decide) ?_
        refine z_icmp_ne (tgt := 81) X.1 X.2.1 d_M_asked_59 (by decide) ⟨by decide, by decide⟩ ⟨by decide, by decide⟩ (fun h175 => ?_) (fun h175 => False.elim (by omega))
        · refine lv_iconst (v := iI 0) X.1 X.2.1 d_M_asked_81 (by decide) ?_
          refine lv_istore_n (lv' := [(3, .int (iI 0)), (2, .int (iI 0)), (0, .ref h), (1, .int (iI a1))]) X.1 X.2.1 d_M_asked_82 rfl hl (by decide) rfl (fun ls hl => ?_)
          refine lv_iload_n X.1 X.2.1 d_M_asked_83 rfl (lv_at hl 0 rfl) ?_
          refine z_if_ne (tgt := 90) X.1 X.2.1 d_M_asked_84 (by decide) ⟨by decide, by decide⟩ (fun h176 => False.elim (by omega)) (fun h176 => ?_)
          · refine lv_bipush (v := iI 60) X.1 X.2.1 d_M_asked_87 (by decide) ?_
            exact m_reti hQQ X Y hr hlk ⟨S, 60, rfl, ⟨by omega, by omega, ⟨cn, ((w173.2 33 (by decide)).trans gcn), by omega, by omega⟩, (pG1_cg (w173.2 39 (by decide)) (w173.2 40 (by decide)) f_P1), (pG2_cg rfl rfl f_P2), (hD_cg (w173.2 68 (by decide)) (w173.2 70 (by decide)) f_HD)⟩⟩ d_M_asked_89
set_option maxHeartbeats 40000000 in
set_option maxRecDepth 100000 in
theorem r_M_error (l : Launch) (D : mD) (E : mE) (h : Nat) (q : Nat → Nat) (sz : Nat) (I : Nat → Int32) (J : Nat → Int64) (B : Nat → Nat → Int32) (G : Nat → Nat → Int64) (a1 : Int) (l_a1 : (-2147483648) ≤ a1) (u_a1 : a1 ≤ 2147483647) (hT : rT I B) (f_P2 : pG2 (B 37) (B 38)) (f_HD : hD I) : Met l y_M_error (k_M_error :: lw_tg) (mR 6 183) (va_Pc [.ref h, .int (iI a1)] (mPre D E h q (I, J, B, G) sz)) (va_Qv (rPv [3, 29, 42] [0, 1, 24, 90] I B (fun (u : mS) => pG2 (u.2.2.1 37) (u.2.2.1 38))) (mPost D E h q (mA E h q sz)) (mA E h q sz)) 0 0 (mA E h q sz) := by
  refine m_enter (by decide) rfl (Nat.le_of_ble_eq_true rfl) (fun p e s m below meth c ls AV QQ H locs hQQ X Y hZ hA hr hlk hml hl => ?_)
  have Y : mH D E (mA E h q sz) s.heap h q I J B G H locs := Y
  have S : rS [3, 29, 42] [0, 1, 24, 90] I B I B := rS_rf hT
  have hl : lv_has ls 5 [(0, .ref h), (1, .int (iI a1))] := hl
  refine lv_aload_n X.1 X.2.1 d_M_error_0 rfl (lv_at hl 0 rfl) ?_
  refine r_nv (m_run (As := []) (rest := []) (n := 0) X Y hZ hA hml hl.1 (r_M_start l D E h q H.size I J B G S.1) kl_M_start ks_M_start kx_M_start ki_M_start ini_M hd_M_start ⟨Nat.le_of_ble_eq_true rfl, Nat.le_of_ble_eq_true rfl⟩ rfl (Nat.le_of_ble_eq_true rfl) d_M_error_1 ⟨Nat.le_refl _, Nat.le_refl _⟩) X Y hA S (by decide) (by decide) (fun u H locs Y S s101 p101 => ?_)
  obtain ⟨I101, J101, B101, G101⟩ := u
  dsimp only at Y S s101 p101
  have b101 : B = B101 := (funext (fun j => s101.2.2 j (by simp))).symm
  subst b101
  have x101 := p101
  refine lv_aload_n X.1 X.2.1 d_M_error_4 rfl (lv_at hl 0 rfl) ?_
  refine r_geti (k := 68) X Y S (by decide) lk_hasData (gf_hasData _ _ _) rfl rfl d_M_error_5 (fun z102 e102 l102 u102 => ?_)
  have J109 : ∀ (z106 : Int) (I103 : Nat → Int32) (J103 : Nat → Int64) (B103 : Nat → Nat → Int32) (G103 : Nat → Nat → Int64) (H : Heap) (locs : List Loc) (ls : Array Slot), (hD I103) → (pG2 (B103 37) (B103 38)) → (I103 42 = iI z106) → (0 ≤ z106) → (z106 ≤ 60000) → (60000 - (900) ≤ z106) → (z106 ≤ 60000) → mH D E (mA E h q sz) s.heap h q I103 J103 B103 G103 H locs → rS [3, 29, 42] [0, 1, 24, 90] I B I103 B103 → lv_has ls 5 [(0, .ref h), (1, .int (iI a1))] → W p l e (mR 6 183) s m AV below meth c H locs 0 0 QQ (F0 m 138 ls []) := by
    as_aux_lemma =>
      intro z106 I103 J103 B103 G103 H locs ls f104 f105 e106 l106 u106 i107 i108 Y S hl
      refine lv_aload_n X.1 X.2.1 d_M_error_138 rfl (lv_at hl 0 rfl) ?_
      refine r_geti (k := 67) X Y S (by decide) lk_isRead (gf_isRead _ _ _) rfl rfl d_M_error_139 (fun z113 e113 l113 u113 => ?_)
      have J121 : ∀ (z118 : Int) (I114 : Nat → Int32) (J114 : Nat → Int64) (B114 : Nat → Nat → Int32) (G114 : Nat → Nat → Int64) (H : Heap) (locs : List Loc) (ls : Array Slot), (hD I114) → (pG2 (B114 37) (B114 38)) → (I114 67 = iI z113) → (I114 42 = iI z118) → (0 ≤ z118) → (z118 ≤ 60000) → (60000 - (5200) ≤ z118) → (z118 ≤ 60000) → mH D E (mA E h q sz) s.heap h q I114 J114 B114 G114 H locs → rS [3, 29, 42] [0, 1, 24, 90] I B I114 B114 → lv_has ls 5 [(0, .ref h), (1, .int (iI a1))] → W p l e (mR 6 183) s m AV below meth c H locs 0 0 QQ (F0 m 183 ls []) := by
        as_aux_lemma =>
          intro z118 I114 J114 B114 G114 H locs ls f115 f116 e117 e118 l118 u118 i119 i120 Y S hl
          refine lv_aload_n X.1 X.2.1 d_M_error_183 rfl (lv_at hl 0 rfl) ?_
          refine lv_bipush (v := iI 9) X.1 X.2.1 d_M_error_184 (by decide) ?_
          refine m_ldcSW (i := 2) X (by decide) (by decide) d_M_error_186 ?_
          refine r_nv (m_run (As := [.int (iI 9), .ref ((D.2.1 2))]) (rest := []) (n := 2) X Y hZ hA hml hl.1 (r_M_wordField l D E h q H.size I114 J114 B114 G114 9 (by decide) (by decide) 2 (show 2 < nZ by decide) S.1 z118 e118 (by omega) (by omega)) kl_M_wordField ks_M_wordField kx_M_wordField ki_M_wordField ini_M hd_M_wordField ⟨Nat.le_of_ble_eq_true rfl, Nat.le_of_ble_eq_true rfl⟩ rfl (Nat.le_of_ble_eq_true rfl) d_M_error_189 ⟨Nat.le_refl _, Nat.le_refl _⟩) X Y hA S (by decide) (by decide) (fun u H locs Y S s125 p125 => ?_)
          obtain ⟨I125, J125, B125, G125⟩ := u
          dsimp only at Y S s125 p125
          obtain ⟨x125, g125_MF⟩ := p125
          obtain ⟨z126, e126, l126, u126⟩ := x125
          refine lv_aload_n X.1 X.2.1 d_M_error_192 rfl (lv_at hl 0 rfl) ?_
          refine r_get0 X Y (by decide) lk_isRead (gf_isRead _ _ _) rfl ((s125.2.1 67 (by decide)).trans e117) d_M_error_193 ?_
          have J134 : ∀ (z131 : Int) (I127 : Nat → Int32) (J127 : Nat → Int64) (B127 : Nat → Nat → Int32) (G127 : Nat → Nat → Int64) (H : Heap) (locs : List Loc) (ls : Array Slot), (hD I127) → (pG2 (B127 37) (B127 38)) → (I127 67 = iI z113) → (I127 42 = iI z131) → (0 ≤ z131) → (z131 ≤ 60000) → (60000 - (14000) ≤ z131) → (z131 ≤ 60000) → mH D E (mA E h q sz) s.heap h q I127 J127 B127 G127 H locs → rS [3, 29, 42] [0, 1, 24, 90] I B I127 B127 → lv_has ls 5 [(0, .ref h), (1, .int (iI a1))] → W p l e (mR 6 183) s m AV below meth c H locs 0 0 QQ (F0 m 251 ls []) := by
            as_aux_lemma =>
              intro z131 I127 J127 B127 G127 H locs ls f128 f129 e130 e131 l131 u131 i132 i133 Y S hl
              refine lv_aload_n X.1 X.2.1 d_M_error_251 rfl (lv_at hl 0 rfl) ?_
              refine lv_iload_n X.1 X.2.1 d_M_error_252 rfl (lv_at hl 1 rfl) ?_
              refine r_nv (m_run (As := [.int (iI a1)]) (rest := []) (n := 1) X Y hZ hA hml hl.1 (r_M_errorHead l D E h q H.size I127 J127 B127 G127 a1 (by omega) (by omega) S.1 z131 e131 (by omega) (by omega)) kl_M_errorHead ks_M_errorHead kx_M_errorHead ki_M_errorHead ini_M hd_M_errorHead ⟨Nat.le_of_ble_eq_true rfl, Nat.le_of_ble_eq_true rfl⟩ rfl (Nat.le_of_ble_eq_true rfl) d_M_error_253 ⟨Nat.le_refl _, Nat.le_refl _⟩) X Y hA S (by decide) (by decide) (fun u H locs Y S s138 p138 => ?_)
              obtain ⟨I138, J138, B138, G138⟩ := u
              dsimp only at Y S s138 p138
              obtain ⟨x138, g138_MF⟩ := p138
              obtain ⟨z139, e139, l139, u139⟩ := x138
              refine lv_aload_n X.1 X.2.1 d_M_error_256 rfl (lv_at hl 0 rfl) ?_
              refine r_nv (m_run (As := []) (rest := []) (n := 0) X Y hZ hA hml hl.1 (r_M_written l D E h q H.size I138 J138 B138 G138 S.1 z139 e139 (by omega) (by omega)) kl_M_written ks_M_written kx_M_written ki_M_written ini_M hd_M_written ⟨Nat.le_of_ble_eq_true rfl, Nat.le_of_ble_eq_true rfl⟩ rfl (Nat.le_of_ble_eq_true rfl) d_M_error_257 ⟨Nat.le_refl _, Nat.le_refl _⟩) X Y hA S (by decide) (by decide) (fun u H locs Y S s140 p140 => ?_)
              obtain ⟨I140, J140, B140, G140⟩ := u
              dsimp only at Y S s140 p140
              have g140_MF := p140
              exact m_retv hQQ X Y hr hlk ⟨S, (pG2_cg (s140.2.2 37 (by decide)) (s140.2.2 38 (by decide)) (pG2_cg (s138.2.2 37 (by decide)) (s138.2.2 38 (by decide)) f129))⟩ d_M_error_260
          refine z_if_eq (tgt := 251) X.1 X.2.1 d_M_error_196 (by decide) ⟨by omega, by omega⟩ (fun h141 => ?_) (fun h141 => ?_)
          · exact J134 z126 I125 J125 B125 G125 _ _ _ (hD_cg (s125.2.1 68 (by decide)) (s125.2.1 70 (by decide)) f115) (pG2_cg (s125.2.2 37 (by decide)) (s125.2.2 38 (by decide)) f116) ((s125.2.1 67 (by decide)).trans e117) e126 (by omega) (by omega) (by omega) (by omega) Y S (lv_sub hl [0, 1] rfl)
          · as_aux_lemma =>
              refine lv_aload_n X.1 X.2.1 d_M_error_199 rfl (lv_at hl 0 rfl) ?_
              refine r_geti (k := 69) X Y S (by decide) lk_isAs (gf_isAs _ _ _) rfl rfl d_M_error_200 (fun z142 e142 l142 u142 => ?_)
              refine z_if_eq (tgt := 251) X.1 X.2.1 d_M_error_203 (by decide) ⟨by omega, by omega⟩ (fun h143 => ?_) (fun h143 => ?_)
              · exact J134 z126 I125 J125 B125 G125 _ _ _ (hD_cg (s125.2.1 68 (by decide)) (s125.2.1 70 (by decide)) f115) (pG2_cg (s125.2.2 37 (by decide)) (s125.2.2 38 (by decide)) f116) ((s125.2.1 67 (by decide)).trans e117) e126 (by omega) (by omega) (by omega) (by omega) Y S (lv_sub hl [0, 1] rfl)
              · as_aux_lemma =>
                  refine lv_aload_n X.1 X.2.1 d_M_error_206 rfl (lv_at hl 0 rfl) ?_
                  refine lv_iconst (v := iI 1) X.1 X.2.1 d_M_error_207 (by decide) ?_
                  refine lv_iconst (v := iI 1) X.1 X.2.1 d_M_error_208 (by decide) ?_
                  refine r_ni (m_run (As := [.int (iI 1), .int (iI 1)]) (rest := []) (n := 2) X Y hZ hA hml hl.1 (r_M_has l D E h q H.size I125 J125 B125 G125 1 (by decide) (by decide) 1 (by decide) (by decide) S.1) kl_M_has ks_M_has kx_M_has ki_M_has ini_M hd_M_has ⟨Nat.le_of_ble_eq_true rfl, Nat.le_of_ble_eq_true rfl⟩ rfl (Nat.le_of_ble_eq_true rfl) d_M_error_209 ⟨Nat.le_refl _, Nat.le_refl _⟩) X Y hA S (by decide) (by decide) (fun z144 u H locs Y S s144 p144 => ?_)
                  obtain ⟨I144, J144, B144, G144⟩ := u
                  dsimp only at Y S s144 p144
                  have i144 : I125 = I144 := (funext (fun j => s144.2.1 j (by simp))).symm
                  subst i144
                  have b144 : B125 = B144 := (funext (fun j => s144.2.2 j (by simp))).symm
                  subst b144
                  obtain ⟨l144, u144, x144⟩ := p144
                  refine z_if_eq (tgt := 251) X.1 X.2.1 d_M_error_212 (by decide) ⟨by omega, by omega⟩ (fun h145 => ?_) (fun h145 => ?_)
                  · exact J134 z126 I125 J144 B125 G144 _ _ _ (hD_cg rfl rfl (hD_cg (s125.2.1 68 (by decide)) (s125.2.1 70 (by decide)) f115)) (pG2_cg rfl rfl (pG2_cg (s125.2.2 37 (by decide)) (s125.2.2 38 (by decide)) f116)) ((s125.2.1 67 (by decide)).trans e117) e126 (by omega) (by omega) (by omega) (by omega) Y S (lv_sub hl [0, 1] rfl)
                  · as_aux_lemma =>
                      refine lv_aload_n X.1 X.2.1 d_M_error_215 rfl (lv_at hl 0 rfl) ?_
                      refine lv_bipush (v := iI 8) X.1 X.2.1 d_M_error_216 (by decide) ?_
                      refine lv_aload_n X.1 X.2.1 d_M_error_218 rfl (lv_at hl 0 rfl) ?_
                      refine lv_iconst (v := iI 1) X.1 X.2.1 d_M_error_219 (by decide) ?_
                      refine lv_iconst (v := iI 1) X.1 X.2.1 d_M_error_220 (by decide) ?_
                      refine r_ni (m_run (As := [.int (iI 1), .int (iI 1)]) (rest := [.int (iI 8), .ref h]) (n := 2) X Y hZ hA hml hl.1 (r_M_a l D E h q H.size I125 J144 B125 G144 1 (by decide) (by decide) 1 (by decide) (by decide) S.1) kl_M_a ks_M_a kx_M_a ki_M_a ini_M hd_M_a ⟨Nat.le_of_ble_eq_true rfl, Nat.le_of_ble_eq_true rfl⟩ rfl (Nat.le_of_ble_eq_true rfl) d_M_error_221 ⟨Nat.le_refl _, Nat.le_refl _⟩) X Y hA S (by decide) (by decide) (fun z146 u H locs Y S s146 p146 => ?_)
                      obtain ⟨I146, J146, B146, G146⟩ := u
                      dsimp only at Y S s146 p146
                      have i146 : I125 = I146 := (funext (fun j => s146.2.1 j (by simp))).symm
                      subst i146
                      have b146 : B125 = B146 := (funext (fun j => s146.2.2 j (by simp))).symm
                      subst b146
                      obtain ⟨l146, u146, x146⟩ := p146
                      refine lv_aload_n X.1 X.2.1 d_M_error_224 rfl (lv_at hl 0 rfl) ?_
                      refine lv_iconst (v := iI 1) X.1 X.2.1 d_M_error_225 (by decide) ?_
                      refine lv_iconst (v := iI 1) X.1 X.2.1 d_M_error_226 (by decide) ?_
                      refine r_ni (m_run (As := [.int (iI 1), .int (iI 1)]) (rest := [.int (iI z146), .int (iI 8), .ref h]) (n := 2) X Y hZ hA hml hl.1 (r_M_b l D E h q H.size I125 J146 B125 G146 1 (by decide) (by decide) 1 (by decide) (by decide) S.1) kl_M_b ks_M_b kx_M_b ki_M_b ini_M hd_M_b ⟨Nat.le_of_ble_eq_true rfl, Nat.le_of_ble_eq_true rfl⟩ rfl (Nat.le_of_ble_eq_true rfl) d_M_error_227 ⟨Nat.le_refl _, Nat.le_refl _⟩) X Y hA S (by decide) (by decide) (fun z147 u H locs Y S s147 p147 => ?_)
                      obtain ⟨I147, J147, B147, G147⟩ := u
                      dsimp only at Y S s147 p147
                      have i147 : I125 = I147 := (funext (fun j => s147.2.1 j (by simp))).symm
                      subst i147
                      have b147 : B125 = B147 := (funext (fun j => s147.2.2 j (by simp))).symm
                      subst b147
                      obtain ⟨l147, u147, x147⟩ := p147
                      have p148 : pr z146 z147 := by rw [x146, x147]; exact (pG2_cg rfl rfl (pG2_cg rfl rfl (pG2_cg rfl rfl (pG2_cg (s125.2.2 37 (by decide)) (s125.2.2 38 (by decide)) f116)))) (16 * 1 + 1 : Int).toNat (by omega)
                      unfold pr at p148
                      refine r_nv (m_run (As := [.int (iI 8), .int (iI z146), .int (iI z147)]) (rest := []) (n := 3) X Y hZ hA hml hl.1 (r_M_copyField l D E h q H.size I125 J147 B125 G147 8 (by decide) (by decide) z146 (by omega) (by omega) z147 (by omega) (by omega) S.1 z126 e126 (by omega) (by omega) (by omega) (by omega) (by omega) (by omega)) kl_M_copyField ks_M_copyField kx_M_copyField ki_M_copyField ini_M hd_M_copyField ⟨Nat.le_of_ble_eq_true rfl, Nat.le_of_ble_eq_true rfl⟩ rfl (Nat.le_of_ble_eq_true rfl) d_M_error_230 ⟨Nat.le_refl _, Nat.le_refl _⟩) X Y hA S (by decide) (by decide) (fun u H locs Y S s149 p149 => ?_)
                      obtain ⟨I149, J149, B149, G149⟩ := u
                      dsimp only at Y S s149 p149
                      obtain ⟨x149, g149_MF⟩ := p149
                      obtain ⟨z150, e150, l150, u150⟩ := x149
                      refine lv_aload_n X.1 X.2.1 d_M_error_233 rfl (lv_at hl 0 rfl) ?_
                      refine lv_bipush (v := iI 7) X.1 X.2.1 d_M_error_234 (by decide) ?_
                      refine lv_aload_n X.1 X.2.1 d_M_error_236 rfl (lv_at hl 0 rfl) ?_
                      refine lv_iconst (v := iI 1) X.1 X.2.1 d_M_error_237 (by decide) ?_
                      refine lv_iconst (v := iI 2) X.1 X.2.1 d_M_error_238 (by decide) ?_
                      refine r_ni (m_run (As := [.int (iI 1), .int (iI 2)]) (rest := [.int (iI 7), .ref h]) (n := 2) X Y hZ hA hml hl.1 (r_M_a l D E h q H.size I149 J149 B149 G149 1 (by decide) (by decide) 2 (by decide) (by decide) S.1) kl_M_a ks_M_a kx_M_a ki_M_a ini_M hd_M_a ⟨Nat.le_of_ble_eq_true rfl, Nat.le_of_ble_eq_true rfl⟩ rfl (Nat.le_of_ble_eq_true rfl) d_M_error_239 ⟨Nat.le_refl _, Nat.le_refl _⟩) X Y hA S (by decide) (by decide) (fun z151 u H locs Y S s151 p151 => ?_)
                      obtain ⟨I151, J151, B151, G151⟩ := u
                      dsimp only at Y S s151 p151
                      have i151 : I149 = I151 := (funext (fun j => s151.2.1 j (by simp))).symm
                      subst i151
                      have b151 : B149 = B151 := (funext (fun j => s151.2.2 j (by simp))).symm
                      subst b151
                      obtain ⟨l151, u151, x151⟩ := p151
                      refine lv_aload_n X.1 X.2.1 d_M_error_242 rfl (lv_at hl 0 rfl) ?_
                      refine lv_iconst (v := iI 1) X.1 X.2.1 d_M_error_243 (by decide) ?_
                      refine lv_iconst (v := iI 2) X.1 X.2.1 d_M_error_244 (by decide) ?_
                      refine r_ni (m_run (As := [.int (iI 1), .int (iI 2)]) (rest := [.int (iI z151), .int (iI 7), .ref h]) (n := 2) X Y hZ hA hml hl.1 (r_M_b l D E h q H.size I149 J151 B149 G151 1 (by decide) (by decide) 2 (by decide) (by decide) S.1) kl_M_b ks_M_b kx_M_b ki_M_b ini_M hd_M_b ⟨Nat.le_of_ble_eq_true rfl, Nat.le_of_ble_eq_true rfl⟩ rfl (Nat.le_of_ble_eq_true rfl) d_M_error_245 ⟨Nat.le_refl _, Nat.le_refl _⟩) X Y hA S (by decide) (by decide) (fun z152 u H locs Y S s152 p152 => ?_)
                      obtain ⟨I152, J152, B152, G152⟩ := u
                      dsimp only at Y S s152 p152
                      have i152 : I149 = I152 := (funext (fun j => s152.2.1 j (by simp))).symm
                      subst i152
                      have b152 : B149 = B152 := (funext (fun j => s152.2.2 j (by simp))).symm
                      subst b152
                      obtain ⟨l152, u152, x152⟩ := p152
                      have p153 : pr z151 z152 := by rw [x151, x152]; exact (pG2_cg rfl rfl (pG2_cg rfl rfl (pG2_cg (s149.2.2 37 (by decide)) (s149.2.2 38 (by decide)) (pG2_cg rfl rfl (pG2_cg rfl rfl (pG2_cg rfl rfl (pG2_cg (s125.2.2 37 (by decide)) (s125.2.2 38 (by decide)) f116))))))) (16 * 1 + 2 : Int).toNat (by omega)
                      unfold pr at p153
                      refine r_nv (m_run (As := [.int (iI 7), .int (iI z151), .int (iI z152)]) (rest := []) (n := 3) X Y hZ hA hml hl.1 (r_M_copyField l D E h q H.size I149 J152 B149 G152 7 (by decide) (by decide) z151 (by omega) (by omega) z152 (by omega) (by omega) S.1 z150 e150 (by omega) (by omega) (by omega) (by omega) (by omega) (by omega)) kl_M_copyField ks_M_copyField kx_M_copyField ki_M_copyField ini_M hd_M_copyField ⟨Nat.le_of_ble_eq_true rfl, Nat.le_of_ble_eq_true rfl⟩ rfl (Nat.le_of_ble_eq_true rfl) d_M_error_248 ⟨Nat.le_refl _, Nat.le_refl _⟩) X Y hA S (by decide) (by decide) (fun u H locs Y S s154 p154 => ?_)
                      obtain ⟨I154, J154, B154, G154⟩ := u
                      dsimp only at Y S s154 p154
                      have f155 : pG2 (B154 37) (B154 38) := (pG2_cg (s154.2.2 37 (by decide)) (s154.2.2 38 (by decide)) (pG2_cg rfl rfl (pG2_cg rfl rfl (pG2_cg (s149.2.2 37 (by decide)) (s149.2.2 38 (by decide)) (pG2_cg rfl rfl (pG2_cg rfl rfl (pG2_cg rfl rfl (pG2_cg (s125.2.2 37 (by decide)) (s125.2.2 38 (by decide)) f116))))))))
                      have f156 : hD I154 := (hD_cg (s154.2.1 68 (by decide)) (s154.2.1 70 (by decide)) (hD_cg rfl rfl (hD_cg rfl rfl (hD_cg (s149.2.1 68 (by decide)) (s149.2.1 70 (by decide)) (hD_cg rfl rfl (hD_cg rfl rfl (hD_cg rfl rfl (hD_cg (s125.2.1 68 (by decide)) (s125.2.1 70 (by decide)) f115))))))))
                      obtain ⟨x154, g154_MF⟩ := p154
                      obtain ⟨z157, e157, l157, u157⟩ := x154
                      exact J134 z157 I154 J154 B154 G154 _ _ _ f156 f155 ((s154.2.1 67 (by decide)).trans ((s149.2.1 67 (by decide)).trans ((s125.2.1 67 (by decide)).trans e117))) e157 (by omega) (by omega) (by omega) (by omega) Y S (lv_sub hl [0, 1] rfl)
      refine z_if_eq (tgt := 175) X.1 X.2.1 d_M_error_142 (by decide) ⟨by omega, by omega⟩ (fun h158 => ?_) (fun h158 => ?_)
      · refine lv_aload_n X.1 X.2.1 d_M_error_175 rfl (lv_at hl 0 rfl) ?_
        refine lv_bipush (v := iI 10) X.1 X.2.1 d_M_error_176 (by decide) ?_
        refine lv_iconst (v := iI 0) X.1 X.2.1 d_M_error_178 (by decide) ?_
        refine lv_iconst (v := iI 2) X.1 X.2.1 d_M_error_179 (by decide) ?_
        refine r_nv (m_run (As := [.int (iI 10), .int (iI 0), .int (iI 2)]) (rest := []) (n := 3) X Y hZ hA hml hl.1 (r_M_nameField l D E h q H.size I103 J103 B103 G103 10 (by decide) (by decide) 0 (by decide) (by decide) 2 (by decide) (by decide) S.1 z106 e106 (by omega) (by omega)) kl_M_nameField ks_M_nameField kx_M_nameField ki_M_nameField ini_M hd_M_nameField ⟨Nat.le_of_ble_eq_true rfl, Nat.le_of_ble_eq_true rfl⟩ rfl (Nat.le_of_ble_eq_true rfl) d_M_error_180 ⟨Nat.le_refl _, Nat.le_refl _⟩) X Y hA S (by decide) (by decide) (fun u H locs Y S s159 p159 => ?_)
        obtain ⟨I159, J159, B159, G159⟩ := u
        dsimp only at Y S s159 p159
        obtain ⟨x159, g159_MF⟩ := p159
        obtain ⟨z160, e160, l160, u160⟩ := x159
        exact J121 z160 I159 J159 B159 G159 _ _ _ (hD_cg (s159.2.1 68 (by decide)) (s159.2.1 70 (by decide)) f104) (pG2_cg (s159.2.2 37 (by decide)) (s159.2.2 38 (by decide)) f105) ((s159.2.1 67 (by decide)).trans e113) e160 (by omega) (by omega) (by omega) (by omega) Y S (lv_sub hl [0, 1] rfl)
      · as_aux_lemma =>
          refine lv_aload_n X.1 X.2.1 d_M_error_145 rfl (lv_at hl 0 rfl) ?_
          refine lv_iconst (v := iI 1) X.1 X.2.1 d_M_error_146 (by decide) ?_
          refine lv_iconst (v := iI 3) X.1 X.2.1 d_M_error_147 (by decide) ?_
          refine r_ni (m_run (As := [.int (iI 1), .int (iI 3)]) (rest := []) (n := 2) X Y hZ hA hml hl.1 (r_M_has l D E h q H.size I103 J103 B103 G103 1 (by decide) (by decide) 3 (by decide) (by decide) S.1) kl_M_has ks_M_has kx_M_has ki_M_has ini_M hd_M_has ⟨Nat.le_of_ble_eq_true rfl, Nat.le_of_ble_eq_true rfl⟩ rfl (Nat.le_of_ble_eq_true rfl) d_M_error_148 ⟨Nat.le_refl _, Nat.le_refl _⟩) X Y hA S (by decide) (by decide) (fun z161 u H locs Y S s161 p161 => ?_)
          obtain ⟨I161, J161, B161, G161⟩ := u
          dsimp only at Y S s161 p161
          have i161 : I103 = I161 := (funext (fun j => s161.2.1 j (by simp))).symm
          subst i161
          have b161 : B103 = B161 := (funext (fun j => s161.2.2 j (by simp))).symm
          subst b161
          obtain ⟨l161, u161, x161⟩ := p161
          refine z_if_eq (tgt := 175) X.1 X.2.1 d_M_error_151 (by decide) ⟨by omega, by omega⟩ (fun h162 => ?_) (fun h162 => ?_)
          · refine lv_aload_n X.1 X.2.1 d_M_error_175 rfl (lv_at hl 0 rfl) ?_
            refine lv_bipush (v := iI 10) X.1 X.2.1 d_M_error_176 (by decide) ?_
            refine lv_iconst (v := iI 0) X.1 X.2.1 d_M_error_178 (by decide) ?_
            refine lv_iconst (v := iI 2) X.1 X.2.1 d_M_error_179 (by decide) ?_
            refine r_nv (m_run (As := [.int (iI 10), .int (iI 0), .int (iI 2)]) (rest := []) (n := 3) X Y hZ hA hml hl.1 (r_M_nameField l D E h q H.size I103 J161 B103 G161 10 (by decide) (by decide) 0 (by decide) (by decide) 2 (by decide) (by decide) S.1 z106 e106 (by omega) (by omega)) kl_M_nameField ks_M_nameField kx_M_nameField ki_M_nameField ini_M hd_M_nameField ⟨Nat.le_of_ble_eq_true rfl, Nat.le_of_ble_eq_true rfl⟩ rfl (Nat.le_of_ble_eq_true rfl) d_M_error_180 ⟨Nat.le_refl _, Nat.le_refl _⟩) X Y hA S (by decide) (by decide) (fun u H locs Y S s163 p163 => ?_)
            obtain ⟨I163, J163, B163, G163⟩ := u
            dsimp only at Y S s163 p163
            obtain ⟨x163, g163_MF⟩ := p163
            obtain ⟨z164, e164, l164, u164⟩ := x163
            exact J121 z164 I163 J163 B163 G163 _ _ _ (hD_cg (s163.2.1 68 (by decide)) (s163.2.1 70 (by decide)) (hD_cg rfl rfl f104)) (pG2_cg (s163.2.2 37 (by decide)) (s163.2.2 38 (by decide)) (pG2_cg rfl rfl f105)) ((s163.2.1 67 (by decide)).trans e113) e164 (by omega) (by omega) (by omega) (by omega) Y S (lv_sub hl [0, 1] rfl)
          · as_aux_lemma =>
              refine lv_aload_n X.1 X.2.1 d_M_error_154 rfl (lv_at hl 0 rfl) ?_
              refine lv_bipush (v := iI 10) X.1 X.2.1 d_M_error_155 (by decide) ?_
              refine lv_aload_n X.1 X.2.1 d_M_error_157 rfl (lv_at hl 0 rfl) ?_
              refine lv_iconst (v := iI 1) X.1 X.2.1 d_M_error_158 (by decide) ?_
              refine lv_iconst (v := iI 3) X.1 X.2.1 d_M_error_159 (by decide) ?_
              refine r_ni (m_run (As := [.int (iI 1), .int (iI 3)]) (rest := [.int (iI 10), .ref h]) (n := 2) X Y hZ hA hml hl.1 (r_M_a l D E h q H.size I103 J161 B103 G161 1 (by decide) (by decide) 3 (by decide) (by decide) S.1) kl_M_a ks_M_a kx_M_a ki_M_a ini_M hd_M_a ⟨Nat.le_of_ble_eq_true rfl, Nat.le_of_ble_eq_true rfl⟩ rfl (Nat.le_of_ble_eq_true rfl) d_M_error_160 ⟨Nat.le_refl _, Nat.le_refl _⟩) X Y hA S (by decide) (by decide) (fun z165 u H locs Y S s165 p165 => ?_)
              obtain ⟨I165, J165, B165, G165⟩ := u
              dsimp only at Y S s165 p165
              have i165 : I103 = I165 := (funext (fun j => s165.2.1 j (by simp))).symm
              subst i165
              have b165 : B103 = B165 := (funext (fun j => s165.2.2 j (by simp))).symm
              subst b165
              obtain ⟨l165, u165, x165⟩ := p165
              refine lv_aload_n X.1 X.2.1 d_M_error_163 rfl (lv_at hl 0 rfl) ?_
              refine lv_iconst (v := iI 1) X.1 X.2.1 d_M_error_164 (by decide) ?_
              refine lv_iconst (v := iI 3) X.1 X.2.1 d_M_error_165 (by decide) ?_
              refine r_ni (m_run (As := [.int (iI 1), .int (iI 3)]) (rest := [.int (iI z165), .int (iI 10), .ref h]) (n := 2) X Y hZ hA hml hl.1 (r_M_b l D E h q H.size I103 J165 B103 G165 1 (by decide) (by decide) 3 (by decide) (by decide) S.1) kl_M_b ks_M_b kx_M_b ki_M_b ini_M hd_M_b ⟨Nat.le_of_ble_eq_true rfl, Nat.le_of_ble_eq_true rfl⟩ rfl (Nat.le_of_ble_eq_true rfl) d_M_error_166 ⟨Nat.le_refl _, Nat.le_refl _⟩) X Y hA S (by decide) (by decide) (fun z166 u H locs Y S s166 p166 => ?_)
              obtain ⟨I166, J166, B166, G166⟩ := u
              dsimp only at Y S s166 p166
              have i166 : I103 = I166 := (funext (fun j => s166.2.1 j (by simp))).symm
              subst i166
              have b166 : B103 = B166 := (funext (fun j => s166.2.2 j (by simp))).symm
              subst b166
              obtain ⟨l166, u166, x166⟩ := p166
              have p167 : pr z165 z166 := by rw [x165, x166]; exact (pG2_cg rfl rfl (pG2_cg rfl rfl (pG2_cg rfl rfl f105))) (16 * 1 + 3 : Int).toNat (by omega)
              unfold pr at p167
              refine r_nv (m_run (As := [.int (iI 10), .int (iI z165), .int (iI z166)]) (rest := []) (n := 3) X Y hZ hA hml hl.1 (r_M_copyField l D E h q H.size I103 J166 B103 G166 10 (by decide) (by decide) z165 (by omega) (by omega) z166 (by omega) (by omega) S.1 z106 e106 (by omega) (by omega) (by omega) (by omega) (by omega) (by omega)) kl_M_copyField ks_M_copyField kx_M_copyField ki_M_copyField ini_M hd_M_copyField ⟨Nat.le_of_ble_eq_true rfl, Nat.le_of_ble_eq_true rfl⟩ rfl (Nat.le_of_ble_eq_true rfl) d_M_error_169 ⟨Nat.le_refl _, Nat.le_refl _⟩) X Y hA S (by decide) (by decide) (fun u H locs Y S s168 p168 => ?_)
              obtain ⟨I168, J168, B168, G168⟩ := u
              dsimp only at Y S s168 p168
              obtain ⟨x168, g168_MF⟩ := p168
              obtain ⟨z169, e169, l169, u169⟩ := x168
              refine lv_goto (tgt := 183) X.1 X.2.1 d_M_error_172 (by decide) ?_
              exact J121 z169 I168 J168 B168 G168 _ _ _ (hD_cg (s168.2.1 68 (by decide)) (s168.2.1 70 (by decide)) (hD_cg rfl rfl (hD_cg rfl rfl (hD_cg rfl rfl f104)))) (pG2_cg (s168.2.2 37 (by decide)) (s168.2.2 38 (by decide)) (pG2_cg rfl rfl (pG2_cg rfl rfl (pG2_cg rfl rfl f105)))) ((s168.2.1 67 (by decide)).trans e113) e169 (by omega) (by omega) (by omega) (by omega) Y S (lv_sub hl [0, 1] rfl)
  refine z_if_eq (tgt := 138) X.1 X.2.1 d_M_error_8 (by decide) ⟨by omega, by omega⟩ (fun h170 => ?_) (fun h170 => ?_)
  · exact J109 60000 I101 J101 B G101 _ _ _ (hD_cg (s101.2.1 68 (by decide)) (s101.2.1 70 (by decide)) f_HD) (pG2_cg rfl rfl f_P2) (x101.trans (congrArg iI (show (60000 : Int) = 60000 by omega))) (by omega) (by omega) (by omega) (by omega) Y S (lv_sub hl [0, 1] rfl)
  · as_aux_lemma =>
      obtain ⟨d9, ed9, ld9, ud9⟩ := hd_1 (hD_cg (s101.2.1 68 (by decide)) (s101.2.1 70 (by decide)) f_HD) e102 (by omega)
      obtain ⟨d9, ed9, ld9, ud9⟩ := hd_1 (hD_cg (s101.2.1 68 (by decide)) (s101.2.1 70 (by decide)) f_HD) e102 (by omega)
      refine lv_aload_n X.1 X.2.1 d_M_error_11 rfl (lv_at hl 0 rfl) ?_
      refine r_get0 X Y (by decide) lk_w0 (gf_w0 _ _ _) rfl (x101.trans (congrArg iI (show (60000 : Int) = 60000 by omega))) d_M_error_12 ?_
      refine lv_istore_n (lv' := [(2, .int (iI 60000)), (0, .ref h), (1, .int (iI a1))]) X.1 X.2.1 d_M_error_15 rfl hl (by decide) rfl (fun ls hl => ?_)
      refine lv_aload_n X.1 X.2.1 d_M_error_16 rfl (lv_at hl 1 rfl) ?_
      refine r_get0 X Y (by decide) lk_w0 (gf_w0 _ _ _) rfl (x101.trans (congrArg iI (show (60000 : Int) = 60000 by omega))) d_M_error_17 ?_
      refine lv_istore_n (lv' := [(3, .int (iI 60000)), (2, .int (iI 60000)), (0, .ref h), (1, .int (iI a1))]) X.1 X.2.1 d_M_error_20 rfl hl (by decide) rfl (fun ls hl => ?_)
      refine lv_aload_n X.1 X.2.1 d_M_error_21 rfl (lv_at hl 2 rfl) ?_
      refine lv_aload_n X.1 X.2.1 d_M_error_22 rfl (lv_at hl 2 rfl) ?_
      refine r_get0 X Y (by decide) lk_dataFor (gf_dataFor _ _ _) rfl ed9 d_M_error_23 ?_
      refine lv_aload_n X.1 X.2.1 d_M_error_26 rfl (lv_at hl 2 rfl) ?_
      refine r_geti (k := 71) X Y S (by decide) lk_dataFirst (gf_dataFirst _ _ _) rfl rfl d_M_error_27 (fun z171 e171 l171 u171 => ?_)
      refine lv_aload_n X.1 X.2.1 d_M_error_30 rfl (lv_at hl 2 rfl) ?_
      refine r_geti (k := 72) X Y S (by decide) lk_dataBoth (gf_dataBoth _ _ _) rfl rfl d_M_error_31 (fun z172 e172 l172 u172 => ?_)
      refine z_if_eq (tgt := 47) X.1 X.2.1 d_M_error_34 (by decide) ⟨by omega, by omega⟩ (fun h173 => ?_) (fun h173 => ?_)
      · as_aux_lemma =>
          refine lv_iconst (v := iI 0) X.1 X.2.1 d_M_error_47 (by decide) ?_
          refine r_nv (m_run (As := [.int (iI d9), .int (iI z171), .int (iI 0)]) (rest := []) (n := 3) X Y hZ hA hml hl.1 (r_M_infoOf l D E h q H.size I101 J101 B G101 d9 (by omega) (by omega) z171 (by omega) (by omega) 0 (by decide) (by decide) S.1 60000 (x101.trans (congrArg iI (show (60000 : Int) = 60000 by omega))) (by omega) (by omega)) kl_M_infoOf ks_M_infoOf kx_M_infoOf ki_M_infoOf ini_M hd_M_infoOf ⟨Nat.le_of_ble_eq_true rfl, Nat.le_of_ble_eq_true rfl⟩ rfl (Nat.le_of_ble_eq_true rfl) d_M_error_48 ⟨Nat.le_refl _, Nat.le_refl _⟩) X Y hA S (by decide) (by decide) (fun u H locs Y S s174 p174 => ?_)
          obtain ⟨I174, J174, B174, G174⟩ := u
          dsimp only at Y S s174 p174
          obtain ⟨x174, g174_MF⟩ := p174
          obtain ⟨z175, e175, l175, u175⟩ := x174
          refine lv_aload_n X.1 X.2.1 d_M_error_51 rfl (lv_at hl 2 rfl) ?_
          refine lv_bipush (v := iI 48) X.1 X.2.1 d_M_error_52 (by decide) ?_
          refine lv_iload_n X.1 X.2.1 d_M_error_54 rfl (lv_at hl 0 rfl) ?_
          refine r_nv (m_run (As := [.int (iI 48), .int (iI 60000)]) (rest := []) (n := 2) X Y hZ hA hml hl.1 (r_M_head l D E h q H.size I174 J174 B174 G174 48 (by decide) (by decide) 60000 (by decide) (by decide) S.1 z175 e175 (by omega) (by omega)) kl_M_head ks_M_head kx_M_head ki_M_head ini_M hd_M_head ⟨Nat.le_of_ble_eq_true rfl, Nat.le_of_ble_eq_true rfl⟩ rfl (Nat.le_of_ble_eq_true rfl) d_M_error_55 ⟨Nat.le_refl _, Nat.le_refl _⟩) X Y hA S (by decide) (by decide) (fun u H locs Y S s176 p176 => ?_)
          obtain ⟨I176, J176, B176, G176⟩ := u
          dsimp only at Y S s176 p176
          obtain ⟨x176, g176_MF⟩ := p176
          obtain ⟨z177, e177, l177, u177⟩ := x176
          refine lv_aload_n X.1 X.2.1 d_M_error_58 rfl (lv_at hl 2 rfl) ?_
          refine lv_iconst (v := iI 4) X.1 X.2.1 d_M_error_59 (by decide) ?_
          refine lv_iload_n X.1 X.2.1 d_M_error_60 rfl (lv_at hl 0 rfl) ?_
          refine r_nv (m_run (As := [.int (iI 4), .int (iI 60000)]) (rest := []) (n := 2) X Y hZ hA hml hl.1 (r_M_head l D E h q H.size I176 J176 B176 G176 4 (by decide) (by decide) 60000 (by decide) (by decide) S.1 z177 e177 (by omega) (by omega)) kl_M_head ks_M_head kx_M_head ki_M_head ini_M hd_M_head ⟨Nat.le_of_ble_eq_true rfl, Nat.le_of_ble_eq_true rfl⟩ rfl (Nat.le_of_ble_eq_true rfl) d_M_error_61 ⟨Nat.le_refl _, Nat.le_refl _⟩) X Y hA S (by decide) (by decide) (fun u H locs Y S s178 p178 => ?_)
          obtain ⟨I178, J178, B178, G178⟩ := u
          dsimp only at Y S s178 p178
          obtain ⟨x178, g178_MF⟩ := p178
          obtain ⟨z179, e179, l179, u179⟩ := x178
          refine lv_aload_n X.1 X.2.1 d_M_error_64 rfl (lv_at hl 2 rfl) ?_
          refine lv_iconst (v := iI 2) X.1 X.2.1 d_M_error_65 (by decide) ?_
          refine lv_iload_n X.1 X.2.1 d_M_error_66 rfl (lv_at hl 0 rfl) ?_
          refine r_nv (m_run (As := [.int (iI 2), .int (iI 60000)]) (rest := []) (n := 2) X Y hZ hA hml hl.1 (r_M_field l D E h q H.size I178 J178 B178 G178 2 (by decide) (by decide) 60000 (by decide) (by decide) S.1 z179 e179 (by omega) (by omega)) kl_M_field ks_M_field kx_M_field ki_M_field ini_M hd_M_field ⟨Nat.le_of_ble_eq_true rfl, Nat.le_of_ble_eq_true rfl⟩ rfl (Nat.le_of_ble_eq_true rfl) d_M_error_67 ⟨Nat.le_refl _, Nat.le_refl _⟩) X Y hA S (by decide) (by decide) (fun u H locs Y S s180 p180 => ?_)
          obtain ⟨I180, J180, B180, G180⟩ := u
          dsimp only at Y S s180 p180
          have f181 : pG2 (B180 37) (B180 38) := (pG2_cg (s180.2.2 37 (by decide)) (s180.2.2 38 (by decide)) (pG2_cg (s178.2.2 37 (by decide)) (s178.2.2 38 (by decide)) (pG2_cg (s176.2.2 37 (by decide)) (s176.2.2 38 (by decide)) (pG2_cg (s174.2.2 37 (by decide)) (s174.2.2 38 (by decide)) (pG2_cg rfl rfl f_P2)))))
          have f182 : hD I180 := (hD_cg (s180.2.1 68 (by decide)) (s180.2.1 70 (by decide)) (hD_cg (s178.2.1 68 (by decide)) (s178.2.1 70 (by decide)) (hD_cg (s176.2.1 68 (by decide)) (s176.2.1 70 (by decide)) (hD_cg (s174.2.1 68 (by decide)) (s174.2.1 70 (by decide)) (hD_cg (s101.2.1 68 (by decide)) (s101.2.1 70 (by decide)) f_HD)))))
          obtain ⟨x180, g180_MF⟩ := p180
          obtain ⟨z183, e183, l183, u183⟩ := x180
          refine lv_aload_n X.1 X.2.1 d_M_error_70 rfl (lv_at hl 2 rfl) ?_
          refine lv_iconst (v := iI 1) X.1 X.2.1 d_M_error_71 (by decide) ?_
          refine lv_ldc2 (v := (19)) X.1 X.2.1 X.2.2.2.1 (X.2.2.1 _ cl_M_899) d_M_error_72 ?_
          refine r_nv (m_run (As := [.int (iI 1), .long ((19))]) (rest := []) (n := 2) X Y hZ hA hml hl.1 (r_M_numberField l D E h q H.size I180 J180 B180 G180 1 (by decide) (by decide) ((19)) S.1 z183 e183 (by omega) (by omega)) kl_M_numberField ks_M_numberField kx_M_numberField ki_M_numberField ini_M hd_M_numberField ⟨Nat.le_of_ble_eq_true rfl, Nat.le_of_ble_eq_true rfl⟩ rfl (Nat.le_of_ble_eq_true rfl) d_M_error_75 ⟨Nat.le_refl _, Nat.le_refl _⟩) X Y hA S (by decide) (by decide) (fun u H locs Y S s184 p184 => ?_)
          obtain ⟨I184, J184, B184, G184⟩ := u
          dsimp only at Y S s184 p184
          obtain ⟨x184, g184_MF⟩ := p184
          obtain ⟨z185, e185, l185, u185⟩ := x184
          refine lv_aload_n X.1 X.2.1 d_M_error_78 rfl (lv_at hl 2 rfl) ?_
          refine lv_bipush (v := iI 48) X.1 X.2.1 d_M_error_79 (by decide) ?_
          refine lv_iload_n X.1 X.2.1 d_M_error_81 rfl (lv_at hl 0 rfl) ?_
          refine r_nv (m_run (As := [.int (iI 48), .int (iI 60000)]) (rest := []) (n := 2) X Y hZ hA hml hl.1 (r_M_head l D E h q H.size I184 J184 B184 G184 48 (by decide) (by decide) 60000 (by decide) (by decide) S.1 z185 e185 (by omega) (by omega)) kl_M_head ks_M_head kx_M_head ki_M_head ini_M hd_M_head ⟨Nat.le_of_ble_eq_true rfl, Nat.le_of_ble_eq_true rfl⟩ rfl (Nat.le_of_ble_eq_true rfl) d_M_error_82 ⟨Nat.le_refl _, Nat.le_refl _⟩) X Y hA S (by decide) (by decide) (fun u H locs Y S s186 p186 => ?_)
          obtain ⟨I186, J186, B186, G186⟩ := u
          dsimp only at Y S s186 p186
          obtain ⟨x186, g186_MF⟩ := p186
          obtain ⟨z187, e187, l187, u187⟩ := x186
          refine lv_aload_n X.1 X.2.1 d_M_error_85 rfl (lv_at hl 2 rfl) ?_
          refine r_get0 X Y (by decide) lk_w0 (gf_w0 _ _ _) rfl e187 d_M_error_86 ?_
          refine lv_istore (lv' := [(4, .int (iI z187)), (3, .int (iI 60000)), (2, .int (iI 60000)), (0, .ref h), (1, .int (iI a1))]) X.1 X.2.1 d_M_error_89 hl (by decide) rfl (fun ls hl => ?_)
          refine lv_aload_n X.1 X.2.1 d_M_error_91 rfl (lv_at hl 3 rfl) ?_
          refine lv_iconst (v := iI 2) X.1 X.2.1 d_M_error_92 (by decide) ?_
          refine lv_aload_n X.1 X.2.1 d_M_error_93 rfl (lv_at hl 3 rfl) ?_
          refine m_get X Y 56 (by decide) lk_made (gf_made _ _ _) rfl d_M_error_94 ?_
          refine lv_iconst (v := iI 0) X.1 X.2.1 d_M_error_97 (by decide) ?_
          refine lv_iconst (v := iI 0) X.1 X.2.1 d_M_error_98 (by decide) ?_
          refine r_nv (m_run (As := [.int (iI 2), .ref ((q 56)), .int (iI 0), .int (iI 0)]) (rest := []) (n := 4) X Y hZ hA hml hl.1 (r_M_octetField_made l D E h q H.size I186 J186 B186 G186 2 (by decide) (by decide) 0 (by decide) (by decide) 0 (by decide) (by decide) S.1 z187 e187 (by omega) (by omega) (by omega) (by omega)) kl_M_octetField ks_M_octetField kx_M_octetField ki_M_octetField ini_M hd_M_octetField ⟨Nat.le_of_ble_eq_true rfl, Nat.le_of_ble_eq_true rfl⟩ rfl (Nat.le_of_ble_eq_true rfl) d_M_error_99 ⟨Nat.le_refl _, Nat.le_refl _⟩) X Y hA S (by decide) (by decide) (fun u H locs Y S s188 p188 => ?_)
          obtain ⟨I188, J188, B188, G188⟩ := u
          dsimp only at Y S s188 p188
          obtain ⟨x188, g188_MF⟩ := p188
          obtain ⟨z189, e189, l189, u189⟩ := x188
          refine lv_aload_n X.1 X.2.1 d_M_error_102 rfl (lv_at hl 3 rfl) ?_
          refine lv_iconst (v := iI 1) X.1 X.2.1 d_M_error_103 (by decide) ?_
          refine lv_ldc2 (v := (2)) X.1 X.2.1 X.2.2.2.1 (X.2.2.1 _ cl_M_810) d_M_error_104 ?_
          refine r_nv (m_run (As := [.int (iI 1), .long ((2))]) (rest := []) (n := 2) X Y hZ hA hml hl.1 (r_M_numberField l D E h q H.size I188 J188 B188 G188 1 (by decide) (by decide) ((2)) S.1 z189 e189 (by omega) (by omega)) kl_M_numberField ks_M_numberField kx_M_numberField ki_M_numberField ini_M hd_M_numberField ⟨Nat.le_of_ble_eq_true rfl, Nat.le_of_ble_eq_true rfl⟩ rfl (Nat.le_of_ble_eq_true rfl) d_M_error_107 ⟨Nat.le_refl _, Nat.le_refl _⟩) X Y hA S (by decide) (by decide) (fun u H locs Y S s190 p190 => ?_)
          obtain ⟨I190, J190, B190, G190⟩ := u
          dsimp only at Y S s190 p190
          obtain ⟨x190, g190_MF⟩ := p190
          obtain ⟨z191, e191, l191, u191⟩ := x190
          refine lv_aload_n X.1 X.2.1 d_M_error_110 rfl (lv_at hl 3 rfl) ?_
          refine lv_bipush (v := iI 48) X.1 X.2.1 d_M_error_111 (by decide) ?_
          refine lv_iload X.1 X.2.1 d_M_error_113 (lv_at hl 0 rfl) ?_
          refine r_nv (m_run (As := [.int (iI 48), .int (iI z187)]) (rest := []) (n := 2) X Y hZ hA hml hl.1 (r_M_head l D E h q H.size I190 J190 B190 G190 48 (by decide) (by decide) z187 (by omega) (by omega) S.1 z191 e191 (by omega) (by omega)) kl_M_head ks_M_head kx_M_head ki_M_head ini_M hd_M_head ⟨Nat.le_of_ble_eq_true rfl, Nat.le_of_ble_eq_true rfl⟩ rfl (Nat.le_of_ble_eq_true rfl) d_M_error_115 ⟨Nat.le_refl _, Nat.le_refl _⟩) X Y hA S (by decide) (by decide) (fun u H locs Y S s192 p192 => ?_)
          obtain ⟨I192, J192, B192, G192⟩ := u
          dsimp only at Y S s192 p192
          have f193 : pG2 (B192 37) (B192 38) := (pG2_cg (s192.2.2 37 (by decide)) (s192.2.2 38 (by decide)) (pG2_cg (s190.2.2 37 (by decide)) (s190.2.2 38 (by decide)) (pG2_cg (s188.2.2 37 (by decide)) (s188.2.2 38 (by decide)) (pG2_cg (s186.2.2 37 (by decide)) (s186.2.2 38 (by decide)) (pG2_cg (s184.2.2 37 (by decide)) (s184.2.2 38 (by decide)) f181)))))
          have f194 : hD I192 := (hD_cg (s192.2.1 68 (by decide)) (s192.2.1 70 (by decide)) (hD_cg (s190.2.1 68 (by decide)) (s190.2.1 70 (by decide)) (hD_cg (s188.2.1 68 (by decide)) (s188.2.1 70 (by decide)) (hD_cg (s186.2.1 68 (by decide)) (s186.2.1 70 (by decide)) (hD_cg (s184.2.1 68 (by decide)) (s184.2.1 70 (by decide)) f182)))))
          obtain ⟨x192, g192_MF⟩ := p192
          obtain ⟨z195, e195, l195, u195⟩ := x192
          refine lv_aload_n X.1 X.2.1 d_M_error_118 rfl (lv_at hl 3 rfl) ?_
          refine lv_bipush (v := iI 48) X.1 X.2.1 d_M_error_119 (by decide) ?_
          refine lv_iload_n X.1 X.2.1 d_M_error_121 rfl (lv_at hl 2 rfl) ?_
          refine r_nv (m_run (As := [.int (iI 48), .int (iI 60000)]) (rest := []) (n := 2) X Y hZ hA hml hl.1 (r_M_head l D E h q H.size I192 J192 B192 G192 48 (by decide) (by decide) 60000 (by decide) (by decide) S.1 z195 e195 (by omega) (by omega)) kl_M_head ks_M_head kx_M_head ki_M_head ini_M hd_M_head ⟨Nat.le_of_ble_eq_true rfl, Nat.le_of_ble_eq_true rfl⟩ rfl (Nat.le_of_ble_eq_true rfl) d_M_error_122 ⟨Nat.le_refl _, Nat.le_refl _⟩) X Y hA S (by decide) (by decide) (fun u H locs Y S s196 p196 => ?_)
          obtain ⟨I196, J196, B196, G196⟩ := u
          dsimp only at Y S s196 p196
          obtain ⟨x196, g196_MF⟩ := p196
          obtain ⟨z197, e197, l197, u197⟩ := x196
          refine lv_aload_n X.1 X.2.1 d_M_error_125 rfl (lv_at hl 3 rfl) ?_
          refine lv_iconst (v := iI 4) X.1 X.2.1 d_M_error_126 (by decide) ?_
          refine lv_iload_n X.1 X.2.1 d_M_error_127 rfl (lv_at hl 2 rfl) ?_
          refine r_nv (m_run (As := [.int (iI 4), .int (iI 60000)]) (rest := []) (n := 2) X Y hZ hA hml hl.1 (r_M_head l D E h q H.size I196 J196 B196 G196 4 (by decide) (by decide) 60000 (by decide) (by decide) S.1 z197 e197 (by omega) (by omega)) kl_M_head ks_M_head kx_M_head ki_M_head ini_M hd_M_head ⟨Nat.le_of_ble_eq_true rfl, Nat.le_of_ble_eq_true rfl⟩ rfl (Nat.le_of_ble_eq_true rfl) d_M_error_128 ⟨Nat.le_refl _, Nat.le_refl _⟩) X Y hA S (by decide) (by decide) (fun u H locs Y S s198 p198 => ?_)
          obtain ⟨I198, J198, B198, G198⟩ := u
          dsimp only at Y S s198 p198
          obtain ⟨x198, g198_MF⟩ := p198
          obtain ⟨z199, e199, l199, u199⟩ := x198
          refine lv_aload_n X.1 X.2.1 d_M_error_131 rfl (lv_at hl 3 rfl) ?_
          refine lv_bipush (v := iI 12) X.1 X.2.1 d_M_error_132 (by decide) ?_
          refine lv_iload_n X.1 X.2.1 d_M_error_134 rfl (lv_at hl 2 rfl) ?_
          refine r_nv (m_run (As := [.int (iI 12), .int (iI 60000)]) (rest := []) (n := 2) X Y hZ hA hml hl.1 (r_M_field l D E h q H.size I198 J198 B198 G198 12 (by decide) (by decide) 60000 (by decide) (by decide) S.1 z199 e199 (by omega) (by omega)) kl_M_field ks_M_field kx_M_field ki_M_field ini_M hd_M_field ⟨Nat.le_of_ble_eq_true rfl, Nat.le_of_ble_eq_true rfl⟩ rfl (Nat.le_of_ble_eq_true rfl) d_M_error_135 ⟨Nat.le_refl _, Nat.le_refl _⟩) X Y hA S (by decide) (by decide) (fun u H locs Y S s200 p200 => ?_)
          obtain ⟨I200, J200, B200, G200⟩ := u
          dsimp only at Y S s200 p200
          obtain ⟨x200, g200_MF⟩ := p200
          obtain ⟨z201, e201, l201, u201⟩ := x200
          exact J109 z201 I200 J200 B200 G200 _ _ _ (hD_cg (s200.2.1 68 (by decide)) (s200.2.1 70 (by decide)) (hD_cg (s198.2.1 68 (by decide)) (s198.2.1 70 (by decide)) (hD_cg (s196.2.1 68 (by decide)) (s196.2.1 70 (by decide)) f194))) (pG2_cg (s200.2.2 37 (by decide)) (s200.2.2 38 (by decide)) (pG2_cg (s198.2.2 37 (by decide)) (s198.2.2 38 (by decide)) (pG2_cg (s196.2.2 37 (by decide)) (s196.2.2 38 (by decide)) f193))) e201 (by omega) (by omega) (by omega) (by omega) Y S (lv_sub hl [3, 4] rfl)
      · as_aux_lemma =>
          refine lv_bipush (v := iI 35) X.1 X.2.1 d_M_error_37 (by decide) ?_
          refine lv_aload_n X.1 X.2.1 d_M_error_39 rfl (lv_at hl 2 rfl) ?_
          refine r_get0 X Y (by decide) lk_dataFirst (gf_dataFirst _ _ _) rfl e171 d_M_error_40 ?_
          refine lv_isub X.1 X.2.1 d_M_error_43 ?_
          refine t_u (fun z202 l202 u202 => ?_)
          refine lv_goto (tgt := 48) X.1 X.2.1 d_M_error_44 (by decide) ?_
          refine r_nv (m_run (As := [.int (iI d9), .int (iI z171), .int (iI z202)]) (rest := []) (n := 3) X Y hZ hA hml hl.1 (r_M_infoOf l D E h q H.size I101 J101 B G101 d9 (by omega) (by omega) z171 (by omega) (by omega) z202 (by omega) (by omega) S.1 60000 (x101.trans (congrArg iI (show (60000 : Int) = 60000 by omega))) (by omega) (by omega)) kl_M_infoOf ks_M_infoOf kx_M_infoOf ki_M_infoOf ini_M hd_M_infoOf ⟨Nat.le_of_ble_eq_true rfl, Nat.le_of_ble_eq_true rfl⟩ rfl (Nat.le_of_ble_eq_true rfl) d_M_error_48 ⟨Nat.le_refl _, Nat.le_refl _⟩) X Y hA S (by decide) (by decide) (fun u H locs Y S s203 p203 => ?_)
          obtain ⟨I203, J203, B203, G203⟩ := u
          dsimp only at Y S s203 p203
          obtain ⟨x203, g203_MF⟩ := p203
          obtain ⟨z204, e204, l204, u204⟩ := x203
          refine lv_aload_n X.1 X.2.1 d_M_error_51 rfl (lv_at hl 2 rfl) ?_
          refine lv_bipush (v := iI 48) X.1 X.2.1 d_M_error_52 (by decide) ?_
          refine lv_iload_n X.1 X.2.1 d_M_error_54 rfl (lv_at hl 0 rfl) ?_
          refine r_nv (m_run (As := [.int (iI 48), .int (iI 60000)]) (rest := []) (n := 2) X Y hZ hA hml hl.1 (r_M_head l D E h q H.size I203 J203 B203 G203 48 (by decide) (by decide) 60000 (by decide) (by decide) S.1 z204 e204 (by omega) (by omega)) kl_M_head ks_M_head kx_M_head ki_M_head ini_M hd_M_head ⟨Nat.le_of_ble_eq_true rfl, Nat.le_of_ble_eq_true rfl⟩ rfl (Nat.le_of_ble_eq_true rfl) d_M_error_55 ⟨Nat.le_refl _, Nat.le_refl _⟩) X Y hA S (by decide) (by decide) (fun u H locs Y S s205 p205 => ?_)
          obtain ⟨I205, J205, B205, G205⟩ := u
          dsimp only at Y S s205 p205
          obtain ⟨x205, g205_MF⟩ := p205
          obtain ⟨z206, e206, l206, u206⟩ := x205
          refine lv_aload_n X.1 X.2.1 d_M_error_58 rfl (lv_at hl 2 rfl) ?_
          refine lv_iconst (v := iI 4) X.1 X.2.1 d_M_error_59 (by decide) ?_
          refine lv_iload_n X.1 X.2.1 d_M_error_60 rfl (lv_at hl 0 rfl) ?_
          refine r_nv (m_run (As := [.int (iI 4), .int (iI 60000)]) (rest := []) (n := 2) X Y hZ hA hml hl.1 (r_M_head l D E h q H.size I205 J205 B205 G205 4 (by decide) (by decide) 60000 (by decide) (by decide) S.1 z206 e206 (by omega) (by omega)) kl_M_head ks_M_head kx_M_head ki_M_head ini_M hd_M_head ⟨Nat.le_of_ble_eq_true rfl, Nat.le_of_ble_eq_true rfl⟩ rfl (Nat.le_of_ble_eq_true rfl) d_M_error_61 ⟨Nat.le_refl _, Nat.le_refl _⟩) X Y hA S (by decide) (by decide) (fun u H locs Y S s207 p207 => ?_)
          obtain ⟨I207, J207, B207, G207⟩ := u
          dsimp only at Y S s207 p207
          obtain ⟨x207, g207_MF⟩ := p207
          obtain ⟨z208, e208, l208, u208⟩ := x207
          refine lv_aload_n X.1 X.2.1 d_M_error_64 rfl (lv_at hl 2 rfl) ?_
          refine lv_iconst (v := iI 2) X.1 X.2.1 d_M_error_65 (by decide) ?_
          refine lv_iload_n X.1 X.2.1 d_M_error_66 rfl (lv_at hl 0 rfl) ?_
          refine r_nv (m_run (As := [.int (iI 2), .int (iI 60000)]) (rest := []) (n := 2) X Y hZ hA hml hl.1 (r_M_field l D E h q H.size I207 J207 B207 G207 2 (by decide) (by decide) 60000 (by decide) (by decide) S.1 z208 e208 (by omega) (by omega)) kl_M_field ks_M_field kx_M_field ki_M_field ini_M hd_M_field ⟨Nat.le_of_ble_eq_true rfl, Nat.le_of_ble_eq_true rfl⟩ rfl (Nat.le_of_ble_eq_true rfl) d_M_error_67 ⟨Nat.le_refl _, Nat.le_refl _⟩) X Y hA S (by decide) (by decide) (fun u H locs Y S s209 p209 => ?_)
          obtain ⟨I209, J209, B209, G209⟩ := u
          dsimp only at Y S s209 p209
          have f210 : pG2 (B209 37) (B209 38) := (pG2_cg (s209.2.2 37 (by decide)) (s209.2.2 38 (by decide)) (pG2_cg (s207.2.2 37 (by decide)) (s207.2.2 38 (by decide)) (pG2_cg (s205.2.2 37 (by decide)) (s205.2.2 38 (by decide)) (pG2_cg (s203.2.2 37 (by decide)) (s203.2.2 38 (by decide)) (pG2_cg rfl rfl f_P2)))))
          have f211 : hD I209 := (hD_cg (s209.2.1 68 (by decide)) (s209.2.1 70 (by decide)) (hD_cg (s207.2.1 68 (by decide)) (s207.2.1 70 (by decide)) (hD_cg (s205.2.1 68 (by decide)) (s205.2.1 70 (by decide)) (hD_cg (s203.2.1 68 (by decide)) (s203.2.1 70 (by decide)) (hD_cg (s101.2.1 68 (by decide)) (s101.2.1 70 (by decide)) f_HD)))))
          obtain ⟨x209, g209_MF⟩ := p209
          obtain ⟨z212, e212, l212, u212⟩ := x209
          refine lv_aload_n X.1 X.2.1 d_M_error_70 rfl (lv_at hl 2 rfl) ?_
          refine lv_iconst (v := iI 1) X.1 X.2.1 d_M_error_71 (by decide) ?_
          refine lv_ldc2 (v := (19)) X.1 X.2.1 X.2.2.2.1 (X.2.2.1 _ cl_M_899) d_M_error_72 ?_
          refine r_nv (m_run (As := [.int (iI 1), .long ((19))]) (rest := []) (n := 2) X Y hZ hA hml hl.1 (r_M_numberField l D E h q H.size I209 J209 B209 G209 1 (by decide) (by decide) ((19)) S.1 z212 e212 (by omega) (by omega)) kl_M_numberField ks_M_numberField kx_M_numberField ki_M_numberField ini_M hd_M_numberField ⟨Nat.le_of_ble_eq_true rfl, Nat.le_of_ble_eq_true rfl⟩ rfl (Nat.le_of_ble_eq_true rfl) d_M_error_75 ⟨Nat.le_refl _, Nat.le_refl _⟩) X Y hA S (by decide) (by decide) (fun u H locs Y S s213 p213 => ?_)
          obtain ⟨I213, J213, B213, G213⟩ := u
          dsimp only at Y S s213 p213
          obtain ⟨x213, g213_MF⟩ := p213
          obtain ⟨z214, e214, l214, u214⟩ := x213
          refine lv_aload_n X.1 X.2.1 d_M_error_78 rfl (lv_at hl 2 rfl) ?_
          refine lv_bipush (v := iI 48) X.1 X.2.1 d_M_error_79 (by decide) ?_
          refine lv_iload_n X.1 X.2.1 d_M_error_81 rfl (lv_at hl 0 rfl) ?_
          refine r_nv (m_run (As := [.int (iI 48), .int (iI 60000)]) (rest := []) (n := 2) X Y hZ hA hml hl.1 (r_M_head l D E h q H.size I213 J213 B213 G213 48 (by decide) (by decide) 60000 (by decide) (by decide) S.1 z214 e214 (by omega) (by omega)) kl_M_head ks_M_head kx_M_head ki_M_head ini_M hd_M_head ⟨Nat.le_of_ble_eq_true rfl, Nat.le_of_ble_eq_true rfl⟩ rfl (Nat.le_of_ble_eq_true rfl) d_M_error_82 ⟨Nat.le_refl _, Nat.le_refl _⟩) X Y hA S (by decide) (by decide) (fun u H locs Y S s215 p215 => ?_)
          obtain ⟨I215, J215, B215, G215⟩ := u
          dsimp only at Y S s215 p215
          obtain ⟨x215, g215_MF⟩ := p215
          obtain ⟨z216, e216, l216, u216⟩ := x215
          refine lv_aload_n X.1 X.2.1 d_M_error_85 rfl (lv_at hl 2 rfl) ?_
          refine r_get0 X Y (by decide) lk_w0 (gf_w0 _ _ _) rfl e216 d_M_error_86 ?_
          refine lv_istore (lv' := [(4, .int (iI z216)), (3, .int (iI 60000)), (2, .int (iI 60000)), (0, .ref h), (1, .int (iI a1))]) X.1 X.2.1 d_M_error_89 hl (by decide) rfl (fun ls hl => ?_)
          refine lv_aload_n X.1 X.2.1 d_M_error_91 rfl (lv_at hl 3 rfl) ?_
          refine lv_iconst (v := iI 2) X.1 X.2.1 d_M_error_92 (by decide) ?_
          refine lv_aload_n X.1 X.2.1 d_M_error_93 rfl (lv_at hl 3 rfl) ?_
          refine m_get X Y 56 (by decide) lk_made (gf_made _ _ _) rfl d_M_error_94 ?_
          refine lv_iconst (v := iI 0) X.1 X.2.1 d_M_error_97 (by decide) ?_
          refine lv_iconst (v := iI 0) X.1 X.2.1 d_M_error_98 (by decide) ?_
          refine r_nv (m_run (As := [.int (iI 2), .ref ((q 56)), .int (iI 0), .int (iI 0)]) (rest := []) (n := 4) X Y hZ hA hml hl.1 (r_M_octetField_made l D E h q H.size I215 J215 B215 G215 2 (by decide) (by decide) 0 (by decide) (by decide) 0 (by decide) (by decide) S.1 z216 e216 (by omega) (by omega) (by omega) (by omega)) kl_M_octetField ks_M_octetField kx_M_octetField ki_M_octetField ini_M hd_M_octetField ⟨Nat.le_of_ble_eq_true rfl, Nat.le_of_ble_eq_true rfl⟩ rfl (Nat.le_of_ble_eq_true rfl) d_M_error_99 ⟨Nat.le_refl _, Nat.le_refl _⟩) X Y hA S (by decide) (by decide) (fun u H locs Y S s217 p217 => ?_)
          obtain ⟨I217, J217, B217, G217⟩ := u
          dsimp only at Y S s217 p217
          obtain ⟨x217, g217_MF⟩ := p217
          obtain ⟨z218, e218, l218, u218⟩ := x217
          refine lv_aload_n X.1 X.2.1 d_M_error_102 rfl (lv_at hl 3 rfl) ?_
          refine lv_iconst (v := iI 1) X.1 X.2.1 d_M_error_103 (by decide) ?_
          refine lv_ldc2 (v := (2)) X.1 X.2.1 X.2.2.2.1 (X.2.2.1 _ cl_M_810) d_M_error_104 ?_
          refine r_nv (m_run (As := [.int (iI 1), .long ((2))]) (rest := []) (n := 2) X Y hZ hA hml hl.1 (r_M_numberField l D E h q H.size I217 J217 B217 G217 1 (by decide) (by decide) ((2)) S.1 z218 e218 (by omega) (by omega)) kl_M_numberField ks_M_numberField kx_M_numberField ki_M_numberField ini_M hd_M_numberField ⟨Nat.le_of_ble_eq_true rfl, Nat.le_of_ble_eq_true rfl⟩ rfl (Nat.le_of_ble_eq_true rfl) d_M_error_107 ⟨Nat.le_refl _, Nat.le_refl _⟩) X Y hA S (by decide) (by decide) (fun u H locs Y S s219 p219 => ?_)
          obtain ⟨I219, J219, B219, G219⟩ := u
          dsimp only at Y S s219 p219
          obtain ⟨x219, g219_MF⟩ := p219
          obtain ⟨z220, e220, l220, u220⟩ := x219
          refine lv_aload_n X.1 X.2.1 d_M_error_110 rfl (lv_at hl 3 rfl) ?_
          refine lv_bipush (v := iI 48) X.1 X.2.1 d_M_error_111 (by decide) ?_
          refine lv_iload X.1 X.2.1 d_M_error_113 (lv_at hl 0 rfl) ?_
          refine r_nv (m_run (As := [.int (iI 48), .int (iI z216)]) (rest := []) (n := 2) X Y hZ hA hml hl.1 (r_M_head l D E h q H.size I219 J219 B219 G219 48 (by decide) (by decide) z216 (by omega) (by omega) S.1 z220 e220 (by omega) (by omega)) kl_M_head ks_M_head kx_M_head ki_M_head ini_M hd_M_head ⟨Nat.le_of_ble_eq_true rfl, Nat.le_of_ble_eq_true rfl⟩ rfl (Nat.le_of_ble_eq_true rfl) d_M_error_115 ⟨Nat.le_refl _, Nat.le_refl _⟩) X Y hA S (by decide) (by decide) (fun u H locs Y S s221 p221 => ?_)
          obtain ⟨I221, J221, B221, G221⟩ := u
          dsimp only at Y S s221 p221
          have f222 : pG2 (B221 37) (B221 38) := (pG2_cg (s221.2.2 37 (by decide)) (s221.2.2 38 (by decide)) (pG2_cg (s219.2.2 37 (by decide)) (s219.2.2 38 (by decide)) (pG2_cg (s217.2.2 37 (by decide)) (s217.2.2 38 (by decide)) (pG2_cg (s215.2.2 37 (by decide)) (s215.2.2 38 (by decide)) (pG2_cg (s213.2.2 37 (by decide)) (s213.2.2 38 (by decide)) f210)))))
          have f223 : hD I221 := (hD_cg (s221.2.1 68 (by decide)) (s221.2.1 70 (by decide)) (hD_cg (s219.2.1 68 (by decide)) (s219.2.1 70 (by decide)) (hD_cg (s217.2.1 68 (by decide)) (s217.2.1 70 (by decide)) (hD_cg (s215.2.1 68 (by decide)) (s215.2.1 70 (by decide)) (hD_cg (s213.2.1 68 (by decide)) (s213.2.1 70 (by decide)) f211)))))
          obtain ⟨x221, g221_MF⟩ := p221
          obtain ⟨z224, e224, l224, u224⟩ := x221
          refine lv_aload_n X.1 X.2.1 d_M_error_118 rfl (lv_at hl 3 rfl) ?_
          refine lv_bipush (v := iI 48) X.1 X.2.1 d_M_error_119 (by decide) ?_
          refine lv_iload_n X.1 X.2.1 d_M_error_121 rfl (lv_at hl 2 rfl) ?_
          refine r_nv (m_run (As := [.int (iI 48), .int (iI 60000)]) (rest := []) (n := 2) X Y hZ hA hml hl.1 (r_M_head l D E h q H.size I221 J221 B221 G221 48 (by decide) (by decide) 60000 (by decide) (by decide) S.1 z224 e224 (by omega) (by omega)) kl_M_head ks_M_head kx_M_head ki_M_head ini_M hd_M_head ⟨Nat.le_of_ble_eq_true rfl, Nat.le_of_ble_eq_true rfl⟩ rfl (Nat.le_of_ble_eq_true rfl) d_M_error_122 ⟨Nat.le_refl _, Nat.le_refl _⟩) X Y hA S (by decide) (by decide) (fun u H locs Y S s225 p225 => ?_)
          obtain ⟨I225, J225, B225, G225⟩ := u
          dsimp only at Y S s225 p225
          obtain ⟨x225, g225_MF⟩ := p225
          obtain ⟨z226, e226, l226, u226⟩ := x225
          refine lv_aload_n X.1 X.2.1 d_M_error_125 rfl (lv_at hl 3 rfl) ?_
          refine lv_iconst (v := iI 4) X.1 X.2.1 d_M_error_126 (by decide) ?_
          refine lv_iload_n X.1 X.2.1 d_M_error_127 rfl (lv_at hl 2 rfl) ?_
          refine r_nv (m_run (As := [.int (iI 4), .int (iI 60000)]) (rest := []) (n := 2) X Y hZ hA hml hl.1 (r_M_head l D E h q H.size I225 J225 B225 G225 4 (by decide) (by decide) 60000 (by decide) (by decide) S.1 z226 e226 (by omega) (by omega)) kl_M_head ks_M_head kx_M_head ki_M_head ini_M hd_M_head ⟨Nat.le_of_ble_eq_true rfl, Nat.le_of_ble_eq_true rfl⟩ rfl (Nat.le_of_ble_eq_true rfl) d_M_error_128 ⟨Nat.le_refl _, Nat.le_refl _⟩) X Y hA S (by decide) (by decide) (fun u H locs Y S s227 p227 => ?_)
          obtain ⟨I227, J227, B227, G227⟩ := u
          dsimp only at Y S s227 p227
          obtain ⟨x227, g227_MF⟩ := p227
          obtain ⟨z228, e228, l228, u228⟩ := x227
          refine lv_aload_n X.1 X.2.1 d_M_error_131 rfl (lv_at hl 3 rfl) ?_
          refine lv_bipush (v := iI 12) X.1 X.2.1 d_M_error_132 (by decide) ?_
          refine lv_iload_n X.1 X.2.1 d_M_error_134 rfl (lv_at hl 2 rfl) ?_
          refine r_nv (m_run (As := [.int (iI 12), .int (iI 60000)]) (rest := []) (n := 2) X Y hZ hA hml hl.1 (r_M_field l D E h q H.size I227 J227 B227 G227 12 (by decide) (by decide) 60000 (by decide) (by decide) S.1 z228 e228 (by omega) (by omega)) kl_M_field ks_M_field kx_M_field ki_M_field ini_M hd_M_field ⟨Nat.le_of_ble_eq_true rfl, Nat.le_of_ble_eq_true rfl⟩ rfl (Nat.le_of_ble_eq_true rfl) d_M_error_135 ⟨Nat.le_refl _, Nat.le_refl _⟩) X Y hA S (by decide) (by decide) (fun u H locs Y S s229 p229 => ?_)
          obtain ⟨I229, J229, B229, G229⟩ := u
          dsimp only at Y S s229 p229
          obtain ⟨x229, g229_MF⟩ := p229
          obtain ⟨z230, e230, l230, u230⟩ := x229
          exact J109 z230 I229 J229 B229 G229 _ _ _ (hD_cg (s229.2.1 68 (by decide)) (s229.2.1 70 (by decide)) (hD_cg (s227.2.1 68 (by decide)) (s227.2.1 70 (by decide)) (hD_cg (s225.2.1 68 (by decide)) (s225.2.1 70 (by decide)) f223))) (pG2_cg (s229.2.2 37 (by decide)) (s229.2.2 38 (by decide)) (pG2_cg (s227.2.2 37 (by decide)) (s227.2.2 38 (by decide)) (pG2_cg (s225.2.2 37 (by decide)) (s225.2.2 38 (by decide)) f222))) e230 (by omega) (by omega) (by omega) (by omega) Y S (lv_sub hl [3, 4] rfl)
set_option maxHeartbeats 40000000 in
set_option maxRecDepth 100000 in
theorem r_M_kdc (l : Launch) (D : mD) (E : mE) (h : Nat) (q : Nat → Nat) (sz : Nat) (I : Nat → Int32) (J : Nat → Int64) (B : Nat → Nat → Int32) (G : Nat → Nat → Int64) (hT : rT I B) (cn : Int) (gcn : I 33 = iI cn) (lcn : 0 ≤ cn) (ucn : cn ≤ 1900000) (f_P1 : pG1 I) (f_P2 : pG2 (B 37) (B 38)) : Met l y_M_kdc (k_M_kdc :: lw_tg) (mR 48 2128) (va_Pc [.ref h] (mPre D E h q (I, J, B, G) sz)) (va_Qi (rPi [2, 3, 8, 14, 18, 29, 33, 36, 39, 40, 42, 54, 67, 68, 69, 70, 71, 72, 73, 74, 75, 76, 77, 78, 79, 80, 81, 84, 85, 86, 87, 88, 89] [0, 1, 5, 6, 7, 9, 10, 11, 12, 13, 15, 16, 17, 19, 20, 21, 22, 23, 24, 34, 35, 37, 38, 53, 56, 58, 59, 60, 61, 62, 63, 64, 90] I B (fun (z : Int) (u : mS) => 0 ≤ z ∧ z ≤ 68 ∧ (∃ V2 : Int, u.1 33 = iI V2 ∧ cn ≤ V2 ∧ V2 ≤ cn + 1000) ∧ pG1 u.1 ∧ pG2 (u.2.2.1 37) (u.2.2.1 38))) (mPost D E h q (mA E h q sz)) (mA E h q sz)) 0 0 (mA E h q sz) := by
  refine m_enter (by decide) rfl (Nat.le_of_ble_eq_true rfl) (fun p e s m below meth c ls AV QQ H locs hQQ X Y hZ hA hr hlk hml hl => ?_)
  have Y : mH D E (mA E h q sz) s.heap h q I J B G H locs := Y
  have S : rS [2, 3, 8, 14, 18, 29, 33, 36, 39, 40, 42, 54, 67, 68, 69, 70, 71, 72, 73, 74, 75, 76, 77, 78, 79, 80, 81, 84, 85, 86, 87, 88, 89] [0, 1, 5, 6, 7, 9, 10, 11, 12, 13, 15, 16, 17, 19, 20, 21, 22, 23, 24, 34, 35, 37, 38, 53, 56, 58, 59, 60, 61, 62, 63, 64, 90] I B I B := rS_rf hT
  have hl : lv_has ls 3 [(0, .ref h)] := hl
  refine lv_aload_n X.1 X.2.1 d_M_kdc_0 rfl (lv_at hl 0 rfl) ?_
  refine r_geti (k := 2) X Y S (by decide) lk_length (gf_length _ _ _) rfl rfl d_M_kdc_1 (fun z101 e101 l101 u101 => ?_)
  refine lv_istore_n (lv' := [(1, .int (iI z101)), (0, .ref h)]) X.1 X.2.1 d_M_kdc_4 rfl hl (by decide) rfl (fun ls hl => ?_)
  refine lv_aload_n X.1 X.2.1 d_M_kdc_5 rfl (lv_at hl 1 rfl) ?_
  refine lv_iconst (v := iI 0) X.1 X.2.1 d_M_kdc_6 (by decide) ?_
  refine r_puti (k := 2) X Y S (by decide) lk_length rfl rfl (t_M_ok 2 (by decide)) rfl rfl (sf_length _ _ _ _) (Nat.le_of_ble_eq_true rfl) rfl (show (0 : Int) ≤ 0 by omega) (show 0 ≤ (4000 : Int) by omega) ⟨by omega, by omega⟩ (by decide) d_M_kdc_7 (fun I102 H locs Y S w102 => ?_)
  refine lv_aload_n X.1 X.2.1 d_M_kdc_10 rfl (lv_at hl 1 rfl) ?_
  refine lv_iconst (v := iI 0) X.1 X.2.1 d_M_kdc_11 (by decide) ?_
  refine r_puti (k := 67) X Y S (by decide) lk_isRead rfl rfl (t_M_ok 67 (by decide)) (iI_bool (by omega) (by omega)).1 (iI_bool (by omega) (by omega)).2 (sf_isRead _ _ _ _) (Nat.le_of_ble_eq_true rfl) rfl (show (0 : Int) ≤ 0 by omega) (show 0 ≤ (1 : Int) by omega) ⟨by omega, by omega⟩ (by decide) d_M_kdc_12 (fun I103 H locs Y S w103 => ?_)
  refine lv_aload_n X.1 X.2.1 d_M_kdc_15 rfl (lv_at hl 1 rfl) ?_
  refine lv_iconst (v := iI 0) X.1 X.2.1 d_M_kdc_16 (by decide) ?_
  refine r_puti (k := 68) X Y S (by decide) lk_hasData rfl rfl (t_M_ok 68 (by decide)) (iI_bool (by omega) (by omega)).1 (iI_bool (by omega) (by omega)).2 (sf_hasData _ _ _ _) (Nat.le_of_ble_eq_true rfl) rfl (show (0 : Int) ≤ 0 by omega) (show 0 ≤ (1 : Int) by omega) ⟨by omega, by omega⟩ (by decide) d_M_kdc_17 (fun I104 H locs Y S w104 => ?_)
  refine lv_aload_n X.1 X.2.1 d_M_kdc_20 rfl (lv_at hl 1 rfl) ?_
  refine lv_iload_n X.1 X.2.1 d_M_kdc_21 rfl (lv_at hl 0 rfl) ?_
  refine r_ni (m_run (As := [.int (iI z101)]) (rest := []) (n := 1) X Y hZ hA hml hl.1 (r_M_asked l D E h q H.size I104 J B G z101 (by omega) (by omega) S.1 cn ((w104.2 33 (by decide)).trans ((w103.2 33 (by decide)).trans ((w102.2 33 (by decide)).trans gcn))) (by omega) (by omega) (pG1_cg (w104.2 39 (by decide)) (w104.2 40 (by decide)) (pG1_cg (w103.2 39 (by decide)) (w103.2 40 (by decide)) (pG1_cg (w102.2 39 (by decide)) (w102.2 40 (by decide)) f_P1))) (pG2_cg rfl rfl (pG2_cg rfl rfl (pG2_cg rfl rfl f_P2))) (Or.inl w104.1)) kl_M_asked ks_M_asked kx_M_asked ki_M_asked ini_M hd_M_asked ⟨Nat.le_of_ble_eq_true rfl, Nat.le_of_ble_eq_true rfl⟩ rfl (Nat.le_of_ble_eq_true rfl) d_M_kdc_22 ⟨Nat.le_refl _, Nat.le_refl _⟩) X Y hA S (by decide) (by decide) (fun z105 u H locs Y S s105 p105 => ?_)
  obtain ⟨I105, J105, B105, G105⟩ := u
  dsimp only at Y S s105 p105
  obtain ⟨l105, u105, x105, g105_P1, g105_P2, g105_HD⟩ := p105
  obtain ⟨z106, e106, l106, u106⟩ := x105
  refine lv_istore_n (lv' := [(2, .int (iI z105)), (1, .int (iI z101)), (0, .ref h)]) X.1 X.2.1 d_M_kdc_25 rfl hl (by decide) rfl (fun ls hl => ?_)
  refine lv_iload_n X.1 X.2.1 d_M_kdc_26 rfl (lv_at hl 0 rfl) ?_
  refine z_if_eq (tgt := 35) X.1 X.2.1 d_M_kdc_27 (by decide) ⟨by omega, by omega⟩ (fun h107 => ?_) (fun h107 => ?_)
  · refine lv_iload_n X.1 X.2.1 d_M_kdc_35 rfl (lv_at hl 0 rfl) ?_
    exact m_reti hQQ X Y hr hlk ⟨S, z105, rfl, ⟨by omega, by omega, ⟨z106, e106, by omega, by omega⟩, g105_P1, g105_P2⟩⟩ d_M_kdc_36
  · refine lv_aload_n X.1 X.2.1 d_M_kdc_30 rfl (lv_at hl 2 rfl) ?_
    refine lv_iload_n X.1 X.2.1 d_M_kdc_31 rfl (lv_at hl 0 rfl) ?_
    refine r_nv (m_run (As := [.int (iI z105)]) (rest := []) (n := 1) X Y hZ hA hml hl.1 (r_M_error l D E h q H.size I105 J105 B105 G105 z105 (by omega) (by omega) S.1 g105_P2 g105_HD) kl_M_error ks_M_error kx_M_error ki_M_error ini_M hd_M_error ⟨Nat.le_of_ble_eq_true rfl, Nat.le_of_ble_eq_true rfl⟩ rfl (Nat.le_of_ble_eq_true rfl) d_M_kdc_32 ⟨Nat.le_refl _, Nat.le_refl _⟩) X Y hA S (by decide) (by decide) (fun u H locs Y S s108 p108 => ?_)
    obtain ⟨I108, J108, B108, G108⟩ := u
    dsimp only at Y S s108 p108
    have g108_P2 := p108
    refine lv_iload_n X.1 X.2.1 d_M_kdc_35 rfl (lv_at hl 0 rfl) ?_
    exact m_reti hQQ X Y hr hlk ⟨S, z105, rfl, ⟨by omega, by omega, ⟨z106, ((s108.2.1 33 (by decide)).trans e106), by omega, by omega⟩, (pG1_cg (s108.2.1 39 (by decide)) (s108.2.1 40 (by decide)) g105_P1), g108_P2⟩⟩ d_M_kdc_36
