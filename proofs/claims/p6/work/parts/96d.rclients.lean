set_option maxHeartbeats 40000000 in
set_option maxRecDepth 100000 in
theorem r_M_handed (l : Launch) (D : mD) (E : mE) (h : Nat) (q : Nat → Nat) (sz : Nat) (I : Nat → Int32) (J : Nat → Int64) (B : Nat → Nat → Int32) (G : Nat → Nat → Int64) (a1 : Int) (l_a1 : (-2147483648) ≤ a1) (u_a1 : a1 ≤ 2147483647) (a2 : Int) (l_a2 : (-2147483648) ≤ a2) (u_a2 : a2 ≤ 2147483647) (hT : rT I B) (f_P1 : pG1 I) (f_P2 : pG2 (B 37) (B 38)) (f_FT : stT (B 97) (B 98) (B 100) (B 107) (B 108) (B 109)) : Met l y_M_handed (k_M_handed :: lw_tg) (mR 45 2045) (va_Pc [.ref h, .int (iI a1), .int (iI a2)] (mPre D E h q (I, J, B, G) sz)) (va_Qi (rPi [2, 8, 14, 18, 39, 40, 42, 73, 74] [0, 5, 6, 7, 9, 10, 11, 12, 13, 15, 16, 17, 19, 20, 21, 22, 23, 34, 37, 38, 58, 59, 97, 98, 99, 100, 101, 102, 107, 108, 109] I B (fun (z : Int) (u : mS) => (-2147483648) ≤ z ∧ z ≤ 2147483647 ∧ pG1 u.1 ∧ pG2 (u.2.2.1 37) (u.2.2.1 38) ∧ stT (u.2.2.1 97) (u.2.2.1 98) (u.2.2.1 100) (u.2.2.1 107) (u.2.2.1 108) (u.2.2.1 109))) (mPost D E h q (mA E h q sz)) (mA E h q sz)) 0 0 (mA E h q sz) := by
  refine m_enter (by decide) rfl (Nat.le_of_ble_eq_true rfl) (fun p e s m below meth c ls AV QQ H locs hQQ X Y hZ hA hr hlk hml hl => ?_)
  have Y : mH D E (mA E h q sz) s.heap h q I J B G H locs := Y
  have S : rS [2, 8, 14, 18, 39, 40, 42, 73, 74] [0, 5, 6, 7, 9, 10, 11, 12, 13, 15, 16, 17, 19, 20, 21, 22, 23, 34, 37, 38, 58, 59, 97, 98, 99, 100, 101, 102, 107, 108, 109] I B I B := rS_rf hT
  have hl : lv_has ls 12 [(0, .ref h), (1, .int (iI a1)), (2, .int (iI a2))] := hl
  refine lv_aload_n X.1 X.2.1 d_M_handed_0 rfl (lv_at hl 0 rfl) ?_
  refine r_geti (k := 2) X Y S (by decide) lk_length (gf_length _ _ _) rfl rfl d_M_handed_1 (fun z101 e101 l101 u101 => ?_)
  refine lv_istore_n (lv' := [(3, .int (iI z101)), (0, .ref h), (1, .int (iI a1)), (2, .int (iI a2))]) X.1 X.2.1 d_M_handed_4 rfl hl (by decide) rfl (fun ls hl => ?_)
  refine lv_aload_n X.1 X.2.1 d_M_handed_5 rfl (lv_at hl 1 rfl) ?_
  refine lv_iconst (v := iI 0) X.1 X.2.1 d_M_handed_6 (by decide) ?_
  refine r_puti (k := 2) X Y S (by decide) lk_length rfl rfl (t_M_ok 2 (by decide)) rfl rfl (sf_length _ _ _ _) (Nat.le_of_ble_eq_true rfl) rfl (show (0 : Int) ≤ 0 by omega) (show 0 ≤ (4000 : Int) by omega) ⟨by omega, by omega⟩ (by decide) d_M_handed_7 (fun I102 H locs Y S w102 => ?_)
  refine lv_aload_n X.1 X.2.1 d_M_handed_10 rfl (lv_at hl 1 rfl) ?_
  refine lv_iload_n X.1 X.2.1 d_M_handed_11 rfl (lv_at hl 2 rfl) ?_
  refine lv_iconst (v := iI 1) X.1 X.2.1 d_M_handed_12 (by decide) ?_
  refine r_ni (m_run (As := [.int (iI a1), .int (iI 1)]) (rest := []) (n := 2) X Y hZ hA hml hl.1 (r_M_hasSide l D E h q H.size I102 J B G a1 (by omega) (by omega) 1 (by decide) (by decide) S.1) kl_M_hasSide ks_M_hasSide kx_M_hasSide ki_M_hasSide ini_M hd_M_hasSide ⟨Nat.le_of_ble_eq_true rfl, Nat.le_of_ble_eq_true rfl⟩ rfl (Nat.le_of_ble_eq_true rfl) d_M_handed_13 ⟨Nat.le_refl _, Nat.le_refl _⟩) X Y hA S (by decide) (by decide) (fun z103 u H locs Y S s103 p103 => ?_)
  obtain ⟨I103, J103, B103, G103⟩ := u
  dsimp only at Y S s103 p103
  have i103 : I102 = I103 := (funext (fun j => s103.2.1 j (by simp))).symm
  subst i103
  have b103 : B = B103 := (funext (fun j => s103.2.2 j (by simp))).symm
  subst b103
  obtain ⟨l103, u103, x103, st103⟩ := p103
  refine z_if_eq (tgt := 27) X.1 X.2.1 d_M_handed_16 (by decide) ⟨by omega, by omega⟩ (fun h104 => ?_) (fun h104 => ?_)
  · refine lv_iconst (v := iI (-1)) X.1 X.2.1 d_M_handed_27 (by decide) ?_
    exact m_reti hQQ X Y hr hlk ⟨S, (-1), rfl, ⟨by omega, by omega, (pG1_cg rfl rfl (pG1_cg (w102.2 39 (by decide)) (w102.2 40 (by decide)) f_P1)), (pG2_cg rfl rfl (pG2_cg rfl rfl f_P2)), (stT_cg rfl rfl rfl rfl rfl rfl (stT_cg rfl rfl rfl rfl rfl rfl f_FT))⟩⟩ d_M_handed_28
  · as_aux_lemma =>
      refine lv_aload_n X.1 X.2.1 d_M_handed_19 rfl (lv_at hl 1 rfl) ?_
      refine lv_iload_n X.1 X.2.1 d_M_handed_20 rfl (lv_at hl 3 rfl) ?_
      refine r_ni (m_run (As := [.int (iI a2)]) (rest := []) (n := 1) X Y hZ hA hml hl.1 (r_M_hasAgent l D E h q H.size I102 J103 B G103 a2 (by omega) (by omega) S.1) kl_M_hasAgent ks_M_hasAgent kx_M_hasAgent ki_M_hasAgent ini_M hd_M_hasAgent ⟨Nat.le_of_ble_eq_true rfl, Nat.le_of_ble_eq_true rfl⟩ rfl (Nat.le_of_ble_eq_true rfl) d_M_handed_21 ⟨Nat.le_refl _, Nat.le_refl _⟩) X Y hA S (by decide) (by decide) (fun z105 u H locs Y S s105 p105 => ?_)
      obtain ⟨I105, J105, B105, G105⟩ := u
      dsimp only at Y S s105 p105
      have i105 : I102 = I105 := (funext (fun j => s105.2.1 j (by simp))).symm
      subst i105
      have b105 : B = B105 := (funext (fun j => s105.2.2 j (by simp))).symm
      subst b105
      obtain ⟨l105, u105, x105⟩ := p105
      refine z_if_ne (tgt := 29) X.1 X.2.1 d_M_handed_24 (by decide) ⟨by omega, by omega⟩ (fun h106 => ?_) (fun h106 => ?_)
      · as_aux_lemma =>
          refine lv_aload_n X.1 X.2.1 d_M_handed_29 rfl (lv_at hl 1 rfl) ?_
          refine lv_bipush (v := iI 22) X.1 X.2.1 d_M_handed_30 (by decide) ?_
          refine m_ldcSW (i := 24) X (by decide) (by decide) d_M_handed_32 ?_
          refine lv_iconst (v := iI 0) X.1 X.2.1 d_M_handed_35 (by decide) ?_
          refine lv_iload_n X.1 X.2.1 d_M_handed_36 rfl (lv_at hl 0 rfl) ?_
          refine lv_iconst (v := iI 0) X.1 X.2.1 d_M_handed_37 (by decide) ?_
          refine r_ni (m_run (As := [.int (iI 22), .ref ((D.2.1 24)), .int (iI 0), .int (iI z101), .int (iI 0)]) (rest := []) (n := 5) X Y hZ hA hml hl.1 (r_M_applied_t l D E h q H.size I102 J105 B G105 22 (by decide) (by decide) 24 (show 24 < nZ by decide) 0 (by decide) (by decide) z101 (by omega) (by omega) 0 (by decide) (by decide) S.1 5 (B 0) rfl (isF (B 0) 5) (by decide) (hisU (show rki 24 ≤ 5 by decide)) (pG1_cg rfl rfl (pG1_cg rfl rfl (pG1_cg (w102.2 39 (by decide)) (w102.2 40 (by decide)) f_P1))) (pG2_cg rfl rfl (pG2_cg rfl rfl (pG2_cg rfl rfl f_P2))) (by omega) (by omega)) kl_M_applied ks_M_applied kx_M_applied ki_M_applied ini_M hd_M_applied ⟨Nat.le_of_ble_eq_true rfl, Nat.le_of_ble_eq_true rfl⟩ rfl (Nat.le_of_ble_eq_true rfl) d_M_handed_38 ⟨Nat.le_refl _, Nat.le_refl _⟩) X Y hA S (by decide) (by decide) (fun z107 u H locs Y S s107 p107 => ?_)
          obtain ⟨I107, J107, B107, G107⟩ := u
          dsimp only at Y S s107 p107
          have f108 : stT (B107 97) (B107 98) (B107 100) (B107 107) (B107 108) (B107 109) := (stT_cg (s107.2.2 97 (by decide)) (s107.2.2 98 (by decide)) (s107.2.2 100 (by decide)) (s107.2.2 107 (by decide)) (s107.2.2 108 (by decide)) (s107.2.2 109 (by decide)) (stT_cg rfl rfl rfl rfl rfl rfl (stT_cg rfl rfl rfl rfl rfl rfl (stT_cg rfl rfl rfl rfl rfl rfl f_FT))))
          obtain ⟨l107, u107, x107, st107, g107_P1, g107_P2⟩ := p107
          have g107_TF : thF [0] (B 37) (B 38) (B107 37) (B107 38) := thF_of st107.1
          refine z_if_eq (tgt := 64) X.1 X.2.1 d_M_handed_41 (by decide) ⟨by omega, by omega⟩ (fun h109 => ?_) (fun h109 => ?_)
          · refine lv_bipush (v := iI (-60)) X.1 X.2.1 d_M_handed_64 (by decide) ?_
            exact m_reti hQQ X Y hr hlk ⟨S, (-60), rfl, ⟨by omega, by omega, g107_P1, g107_P2, f108⟩⟩ d_M_handed_66
          · as_aux_lemma =>
              have wa110 := (x107.mp (by omega)).1
              unfold whP at wa110
              have ra110 := el_rng (B 0) (a := 0) (b := z101) (.inl (by omega))
              have a110 := cred_K (m := (B 0)) (x107.mp (by omega)).2 (by omega) (by omega) (st107.2 (by omega))
              rw [← s107.2.2 0 (by decide)] at a110
              have wa111 := (x107.mp (by omega)).1
              unfold whP at wa111
              have ra111 := el_rng (B 0) (a := 0) (b := z101) (.inl (by omega))
              have a111 := cred_K (m := (B 0)) (x107.mp (by omega)).2 (by omega) (by omega) (st107.2 (by omega))
              rw [← s107.2.2 0 (by decide)] at a111
              refine lv_aload_n X.1 X.2.1 d_M_handed_44 rfl (lv_at hl 1 rfl) ?_
              refine lv_aload_n X.1 X.2.1 d_M_handed_45 rfl (lv_at hl 1 rfl) ?_
              refine lv_iconst (v := iI 0) X.1 X.2.1 d_M_handed_46 (by decide) ?_
              refine lv_iconst (v := iI 2) X.1 X.2.1 d_M_handed_47 (by decide) ?_
              refine r_ni (m_run (As := [.int (iI 0), .int (iI 2)]) (rest := [.ref h]) (n := 2) X Y hZ hA hml hl.1 (r_M_a l D E h q H.size I107 J107 B107 G107 0 (by decide) (by decide) 2 (by decide) (by decide) S.1) kl_M_a ks_M_a kx_M_a ki_M_a ini_M hd_M_a ⟨Nat.le_of_ble_eq_true rfl, Nat.le_of_ble_eq_true rfl⟩ rfl (Nat.le_of_ble_eq_true rfl) d_M_handed_48 ⟨Nat.le_refl _, Nat.le_refl _⟩) X Y hA S (by decide) (by decide) (fun z112 u H locs Y S s112 p112 => ?_)
              obtain ⟨I112, J112, B112, G112⟩ := u
              dsimp only at Y S s112 p112
              have i112 : I107 = I112 := (funext (fun j => s112.2.1 j (by simp))).symm
              subst i112
              have b112 : B107 = B112 := (funext (fun j => s112.2.2 j (by simp))).symm
              subst b112
              obtain ⟨l112, u112, x112⟩ := p112
              refine lv_aload_n X.1 X.2.1 d_M_handed_51 rfl (lv_at hl 1 rfl) ?_
              refine lv_iconst (v := iI 0) X.1 X.2.1 d_M_handed_52 (by decide) ?_
              refine lv_iconst (v := iI 2) X.1 X.2.1 d_M_handed_53 (by decide) ?_
              refine r_ni (m_run (As := [.int (iI 0), .int (iI 2)]) (rest := [.int (iI z112), .ref h]) (n := 2) X Y hZ hA hml hl.1 (r_M_b l D E h q H.size I107 J112 B107 G112 0 (by decide) (by decide) 2 (by decide) (by decide) S.1) kl_M_b ks_M_b kx_M_b ki_M_b ini_M hd_M_b ⟨Nat.le_of_ble_eq_true rfl, Nat.le_of_ble_eq_true rfl⟩ rfl (Nat.le_of_ble_eq_true rfl) d_M_handed_54 ⟨Nat.le_refl _, Nat.le_refl _⟩) X Y hA S (by decide) (by decide) (fun z113 u H locs Y S s113 p113 => ?_)
              obtain ⟨I113, J113, B113, G113⟩ := u
              dsimp only at Y S s113 p113
              have i113 : I107 = I113 := (funext (fun j => s113.2.1 j (by simp))).symm
              subst i113
              have b113 : B107 = B113 := (funext (fun j => s113.2.2 j (by simp))).symm
              subst b113
              obtain ⟨l113, u113, x113⟩ := p113
              have p114 : pr z112 z113 := by rw [x112, x113]; exact (pG2_cg rfl rfl (pG2_cg rfl rfl g107_P2)) (16 * 0 + 2 : Int).toNat (by omega)
              unfold pr at p114
              refine lv_iconst (v := iI 0) X.1 X.2.1 d_M_handed_57 (by decide) ?_
              refine r_ni (m_run (As := [.int (iI z112), .int (iI z113), .int (iI 0)]) (rest := []) (n := 3) X Y hZ hA hml hl.1 (r_M_nth l D E h q H.size I107 J113 B107 G113 z112 (by omega) (by omega) z113 (by omega) (by omega) 0 (by decide) (by decide) S.1 (B107 0) rfl (isF (B107 0) 4 84) (by rw [x112, x113]; exact (a111).1) (pG1_cg rfl rfl (pG1_cg rfl rfl g107_P1)) (by omega) (by omega)) kl_M_nth ks_M_nth kx_M_nth ki_M_nth ini_M hd_M_nth ⟨Nat.le_of_ble_eq_true rfl, Nat.le_of_ble_eq_true rfl⟩ rfl (Nat.le_of_ble_eq_true rfl) d_M_handed_58 ⟨Nat.le_refl _, Nat.le_refl _⟩) X Y hA S (by decide) (by decide) (fun z115 u H locs Y S s115 p115 => ?_)
              obtain ⟨I115, J115, B115, G115⟩ := u
              dsimp only at Y S s115 p115
              have b115 : B107 = B115 := (funext (fun j => s115.2.2 j (by simp))).symm
              subst b115
              obtain ⟨l115, u115, st115, g115_P1⟩ := p115
              obtain ⟨x116, y116, ex116, ey116, iy116, ty116⟩ := st115
              refine z_if_ne (tgt := 67) X.1 X.2.1 d_M_handed_61 (by decide) ⟨by omega, by omega⟩ (fun h117 => ?_) (fun h117 => ?_)
              · as_aux_lemma =>
                  have ck9 := a111.2
                  have f118 : htA x116 y116 (B107 0) := by have t9 := ty116 (by omega); rw [is_84] at t9; exact ⟨t9.1, by omega, by omega, by omega⟩
                  have ck9 := a111.2
                  have f119 : htA x116 y116 (B107 0) := by have t9 := ty116 (by omega); rw [is_84] at t9; exact ⟨t9.1, by omega, by omega, by omega⟩
                  refine lv_aload_n X.1 X.2.1 d_M_handed_67 rfl (lv_at hl 1 rfl) ?_
                  refine r_get0 X Y (by decide) lk_nthAt (gf_nthAt _ _ _) rfl ex116 d_M_handed_68 ?_
                  refine lv_istore (lv' := [(4, .int (iI x116)), (3, .int (iI z101)), (0, .ref h), (1, .int (iI a1)), (2, .int (iI a2))]) X.1 X.2.1 d_M_handed_71 hl (by decide) rfl (fun ls hl => ?_)
                  refine lv_aload_n X.1 X.2.1 d_M_handed_73 rfl (lv_at hl 2 rfl) ?_
                  refine r_get0 X Y (by decide) lk_nthEnd (gf_nthEnd _ _ _) rfl ey116 d_M_handed_74 ?_
                  refine lv_istore (lv' := [(5, .int (iI y116)), (4, .int (iI x116)), (3, .int (iI z101)), (0, .ref h), (1, .int (iI a1)), (2, .int (iI a2))]) X.1 X.2.1 d_M_handed_77 hl (by decide) rfl (fun ls hl => ?_)
                  refine lv_aload_n X.1 X.2.1 d_M_handed_79 rfl (lv_at hl 3 rfl) ?_
                  refine lv_aload_n X.1 X.2.1 d_M_handed_80 rfl (lv_at hl 3 rfl) ?_
                  refine lv_iconst (v := iI 0) X.1 X.2.1 d_M_handed_81 (by decide) ?_
                  refine lv_iconst (v := iI 2) X.1 X.2.1 d_M_handed_82 (by decide) ?_
                  refine r_ni (m_run (As := [.int (iI 0), .int (iI 2)]) (rest := [.ref h]) (n := 2) X Y hZ hA hml hl.1 (r_M_a l D E h q H.size I115 J115 B107 G115 0 (by decide) (by decide) 2 (by decide) (by decide) S.1) kl_M_a ks_M_a kx_M_a ki_M_a ini_M hd_M_a ⟨Nat.le_of_ble_eq_true rfl, Nat.le_of_ble_eq_true rfl⟩ rfl (Nat.le_of_ble_eq_true rfl) d_M_handed_83 ⟨Nat.le_refl _, Nat.le_refl _⟩) X Y hA S (by decide) (by decide) (fun z120 u H locs Y S s120 p120 => ?_)
                  obtain ⟨I120, J120, B120, G120⟩ := u
                  dsimp only at Y S s120 p120
                  have i120 : I115 = I120 := (funext (fun j => s120.2.1 j (by simp))).symm
                  subst i120
                  have b120 : B107 = B120 := (funext (fun j => s120.2.2 j (by simp))).symm
                  subst b120
                  obtain ⟨l120, u120, x120⟩ := p120
                  have p121 : pr z120 z113 := by rw [x120, x113]; exact (pG2_cg rfl rfl (pG2_cg rfl rfl (pG2_cg rfl rfl (pG2_cg rfl rfl g107_P2)))) (16 * 0 + 2 : Int).toNat (by omega)
                  unfold pr at p121
                  refine lv_aload_n X.1 X.2.1 d_M_handed_86 rfl (lv_at hl 3 rfl) ?_
                  refine lv_iconst (v := iI 0) X.1 X.2.1 d_M_handed_87 (by decide) ?_
                  refine lv_iconst (v := iI 2) X.1 X.2.1 d_M_handed_88 (by decide) ?_
                  refine r_ni (m_run (As := [.int (iI 0), .int (iI 2)]) (rest := [.int (iI z120), .ref h]) (n := 2) X Y hZ hA hml hl.1 (r_M_b l D E h q H.size I115 J120 B107 G120 0 (by decide) (by decide) 2 (by decide) (by decide) S.1) kl_M_b ks_M_b kx_M_b ki_M_b ini_M hd_M_b ⟨Nat.le_of_ble_eq_true rfl, Nat.le_of_ble_eq_true rfl⟩ rfl (Nat.le_of_ble_eq_true rfl) d_M_handed_89 ⟨Nat.le_refl _, Nat.le_refl _⟩) X Y hA S (by decide) (by decide) (fun z122 u H locs Y S s122 p122 => ?_)
                  obtain ⟨I122, J122, B122, G122⟩ := u
                  dsimp only at Y S s122 p122
                  have i122 : I115 = I122 := (funext (fun j => s122.2.1 j (by simp))).symm
                  subst i122
                  have b122 : B107 = B122 := (funext (fun j => s122.2.2 j (by simp))).symm
                  subst b122
                  obtain ⟨l122, u122, x122⟩ := p122
                  have p123 : pr z120 z122 := by rw [x120, x122]; exact (pG2_cg rfl rfl (pG2_cg rfl rfl (pG2_cg rfl rfl (pG2_cg rfl rfl (pG2_cg rfl rfl g107_P2))))) (16 * 0 + 2 : Int).toNat (by omega)
                  unfold pr at p123
                  refine lv_iconst (v := iI 1) X.1 X.2.1 d_M_handed_92 (by decide) ?_
                  refine r_ni (m_run (As := [.int (iI z120), .int (iI z122), .int (iI 1)]) (rest := []) (n := 3) X Y hZ hA hml hl.1 (r_M_nth l D E h q H.size I115 J122 B107 G122 z120 (by omega) (by omega) z122 (by omega) (by omega) 1 (by decide) (by decide) S.1 (B107 0) rfl (isF (B107 0) 4 84) (by rw [x120, x122]; exact (a111).1) (pG1_cg rfl rfl (pG1_cg rfl rfl g115_P1)) (by omega) (by omega)) kl_M_nth ks_M_nth kx_M_nth ki_M_nth ini_M hd_M_nth ⟨Nat.le_of_ble_eq_true rfl, Nat.le_of_ble_eq_true rfl⟩ rfl (Nat.le_of_ble_eq_true rfl) d_M_handed_93 ⟨Nat.le_refl _, Nat.le_refl _⟩) X Y hA S (by decide) (by decide) (fun z124 u H locs Y S s124 p124 => ?_)
                  obtain ⟨I124, J124, B124, G124⟩ := u
                  dsimp only at Y S s124 p124
                  have b124 : B107 = B124 := (funext (fun j => s124.2.2 j (by simp))).symm
                  subst b124
                  obtain ⟨l124, u124, st124, g124_P1⟩ := p124
                  obtain ⟨x125, y125, ex125, ey125, iy125, ty125⟩ := st124
                  refine z_if_eq (tgt := 102) X.1 X.2.1 d_M_handed_96 (by decide) ⟨by omega, by omega⟩ (fun h126 => ?_) (fun h126 => ?_)
                  · as_aux_lemma =>
                      refine lv_aload_n X.1 X.2.1 d_M_handed_102 rfl (lv_at hl 3 rfl) ?_
                      refine lv_iconst (v := iI 0) X.1 X.2.1 d_M_handed_103 (by decide) ?_
                      refine lv_iconst (v := iI 0) X.1 X.2.1 d_M_handed_104 (by decide) ?_
                      refine r_nl (m_run (As := [.int (iI 0), .int (iI 0)]) (rest := []) (n := 2) X Y hZ hA hml hl.1 (r_M_numberAt l D E h q H.size I124 J124 B107 G124 0 (by decide) (by decide) 0 (by decide) (by decide) S.1 g124_P1 (pG2_cg rfl rfl (pG2_cg rfl rfl (pG2_cg rfl rfl (pG2_cg rfl rfl (pG2_cg rfl rfl (pG2_cg rfl rfl g107_P2))))))) kl_M_numberAt ks_M_numberAt kx_M_numberAt ki_M_numberAt ini_M hd_M_numberAt ⟨Nat.le_of_ble_eq_true rfl, Nat.le_of_ble_eq_true rfl⟩ rfl (Nat.le_of_ble_eq_true rfl) d_M_handed_105 ⟨Nat.le_refl _, Nat.le_refl _⟩) X Y hA S (by decide) (by decide) (fun v127 u H locs Y S s127 p127 => ?_)
                      obtain ⟨I127, J127, B127, G127⟩ := u
                      dsimp only at Y S s127 p127
                      have b127 : B107 = B127 := (funext (fun j => s127.2.2 j (by simp))).symm
                      subst b127
                      have g127_P1 := p127
                      refine lv_ldc2 (v := (5)) X.1 X.2.1 X.2.2.2.1 (X.2.2.1 _ cl_M_669) d_M_handed_108 ?_
                      refine W.lcmp X.1 X.2.1 d_M_handed_111 ?_
                      refine t_u (fun z128 l128 u128 => ?_)
                      refine z_if_eq (tgt := 118) X.1 X.2.1 d_M_handed_112 (by decide) ⟨by omega, by omega⟩ (fun h129 => ?_) (fun h129 => ?_)
                      · as_aux_lemma =>
                          refine lv_aload_n X.1 X.2.1 d_M_handed_118 rfl (lv_at hl 3 rfl) ?_
                          refine lv_iconst (v := iI 0) X.1 X.2.1 d_M_handed_119 (by decide) ?_
                          refine lv_iconst (v := iI 1) X.1 X.2.1 d_M_handed_120 (by decide) ?_
                          refine r_nl (m_run (As := [.int (iI 0), .int (iI 1)]) (rest := []) (n := 2) X Y hZ hA hml hl.1 (r_M_numberAt l D E h q H.size I127 J127 B107 G127 0 (by decide) (by decide) 1 (by decide) (by decide) S.1 g127_P1 (pG2_cg rfl rfl (pG2_cg rfl rfl (pG2_cg rfl rfl (pG2_cg rfl rfl (pG2_cg rfl rfl (pG2_cg rfl rfl (pG2_cg rfl rfl g107_P2)))))))) kl_M_numberAt ks_M_numberAt kx_M_numberAt ki_M_numberAt ini_M hd_M_numberAt ⟨Nat.le_of_ble_eq_true rfl, Nat.le_of_ble_eq_true rfl⟩ rfl (Nat.le_of_ble_eq_true rfl) d_M_handed_121 ⟨Nat.le_refl _, Nat.le_refl _⟩) X Y hA S (by decide) (by decide) (fun v130 u H locs Y S s130 p130 => ?_)
                          obtain ⟨I130, J130, B130, G130⟩ := u
                          dsimp only at Y S s130 p130
                          have b130 : B107 = B130 := (funext (fun j => s130.2.2 j (by simp))).symm
                          subst b130
                          have f131 : stT (B107 97) (B107 98) (B107 100) (B107 107) (B107 108) (B107 109) := (stT_cg rfl rfl rfl rfl rfl rfl (stT_cg rfl rfl rfl rfl rfl rfl (stT_cg rfl rfl rfl rfl rfl rfl (stT_cg rfl rfl rfl rfl rfl rfl (stT_cg rfl rfl rfl rfl rfl rfl (stT_cg rfl rfl rfl rfl rfl rfl (stT_cg rfl rfl rfl rfl rfl rfl (stT_cg rfl rfl rfl rfl rfl rfl f108))))))))
                          have g130_P1 := p130
                          refine lv_ldc2 (v := (22)) X.1 X.2.1 X.2.2.2.1 (X.2.2.1 _ cl_M_1007) d_M_handed_124 ?_
                          refine W.lcmp X.1 X.2.1 d_M_handed_127 ?_
                          refine t_u (fun z132 l132 u132 => ?_)
                          refine z_if_eq (tgt := 134) X.1 X.2.1 d_M_handed_128 (by decide) ⟨by omega, by omega⟩ (fun h133 => ?_) (fun h133 => ?_)
                          · as_aux_lemma =>
                              refine lv_iconst (v := iI 0) X.1 X.2.1 d_M_handed_134 (by decide) ?_
                              have J140 : ∀ (n142 : Nat) (z135 : Int) (I134 : Nat → Int32) (J134 : Nat → Int64) (B134 : Nat → Nat → Int32) (G134 : Nat → Nat → Int64) (H : Heap) (locs : List Loc) (ls : Array Slot), (32 - z135).toNat = n142 → (0 ≤ z135) → (z135 ≤ 32) → (stT (B134 97) (B134 98) (B134 100) (B134 107) (B134 108) (B134 109)) → (htA x116 y116 (B134 0)) → (pG1 I134) → (pG2 (B134 37) (B134 38)) → mH D E (mA E h q sz) s.heap h q I134 J134 B134 G134 H locs → rS [2, 8, 14, 18, 39, 40, 42, 73, 74] [0, 5, 6, 7, 9, 10, 11, 12, 13, 15, 16, 17, 19, 20, 21, 22, 23, 34, 37, 38, 58, 59, 97, 98, 99, 100, 101, 102, 107, 108, 109] I B I134 B134 → lv_has ls 12 [(0, .ref h), (1, .int (iI a1)), (2, .int (iI a2)), (4, .int (iI x116)), (5, .int (iI y116)), (6, .int (iI z135))] → W p l e (mR 45 2045) s m AV below meth c H locs 0 0 QQ (F0 m 137 ls []) := by
                                as_aux_lemma =>
                                  intro n142
                                  induction n142 using Nat.strongRecOn with
                                  | ind n142 ih141 =>
                                    intro z135 I134 J134 B134 G134 H locs ls hm143 l135 u135 f136 f137 f138 f139 Y S hl
                                    refine lv_iload X.1 X.2.1 d_M_handed_137 (lv_at hl 5 rfl) ?_
                                    refine lv_bipush (v := iI 32) X.1 X.2.1 d_M_handed_139 (by decide) ?_
                                    refine z_icmp_ge (tgt := 169) X.1 X.2.1 d_M_handed_141 (by decide) ⟨by omega, by omega⟩ ⟨by decide, by decide⟩ (fun h144 => ?_) (fun h144 => ?_)
                                    · as_aux_lemma =>
                                        refine lv_aload_n X.1 X.2.1 d_M_handed_169 rfl (lv_at hl 0 rfl) ?_
                                        refine m_ldcSW (i := 5) X (by decide) (by decide) d_M_handed_170 ?_
                                        refine lv_aload_n X.1 X.2.1 d_M_handed_173 rfl (lv_at hl 0 rfl) ?_
                                        refine lv_iconst (v := iI 0) X.1 X.2.1 d_M_handed_174 (by decide) ?_
                                        refine lv_iconst (v := iI 3) X.1 X.2.1 d_M_handed_175 (by decide) ?_
                                        refine r_ni (m_run (As := [.int (iI 0), .int (iI 3)]) (rest := [.ref ((D.2.1 5)), .ref h]) (n := 2) X Y hZ hA hml hl.1 (r_M_a l D E h q H.size I134 J134 B134 G134 0 (by decide) (by decide) 3 (by decide) (by decide) S.1) kl_M_a ks_M_a kx_M_a ki_M_a ini_M hd_M_a ⟨Nat.le_of_ble_eq_true rfl, Nat.le_of_ble_eq_true rfl⟩ rfl (Nat.le_of_ble_eq_true rfl) d_M_handed_176 ⟨Nat.le_refl _, Nat.le_refl _⟩) X Y hA S (by decide) (by decide) (fun z145 u H locs Y S s145 p145 => ?_)
                                        obtain ⟨I145, J145, B145, G145⟩ := u
                                        dsimp only at Y S s145 p145
                                        have i145 : I134 = I145 := (funext (fun j => s145.2.1 j (by simp))).symm
                                        subst i145
                                        have b145 : B134 = B145 := (funext (fun j => s145.2.2 j (by simp))).symm
                                        subst b145
                                        obtain ⟨l145, u145, x145⟩ := p145
                                        refine lv_aload_n X.1 X.2.1 d_M_handed_179 rfl (lv_at hl 0 rfl) ?_
                                        refine lv_iconst (v := iI 0) X.1 X.2.1 d_M_handed_180 (by decide) ?_
                                        refine lv_iconst (v := iI 3) X.1 X.2.1 d_M_handed_181 (by decide) ?_
                                        refine r_ni (m_run (As := [.int (iI 0), .int (iI 3)]) (rest := [.int (iI z145), .ref ((D.2.1 5)), .ref h]) (n := 2) X Y hZ hA hml hl.1 (r_M_b l D E h q H.size I134 J145 B134 G145 0 (by decide) (by decide) 3 (by decide) (by decide) S.1) kl_M_b ks_M_b kx_M_b ki_M_b ini_M hd_M_b ⟨Nat.le_of_ble_eq_true rfl, Nat.le_of_ble_eq_true rfl⟩ rfl (Nat.le_of_ble_eq_true rfl) d_M_handed_182 ⟨Nat.le_refl _, Nat.le_refl _⟩) X Y hA S (by decide) (by decide) (fun z146 u H locs Y S s146 p146 => ?_)
                                        obtain ⟨I146, J146, B146, G146⟩ := u
                                        dsimp only at Y S s146 p146
                                        have i146 : I134 = I146 := (funext (fun j => s146.2.1 j (by simp))).symm
                                        subst i146
                                        have b146 : B134 = B146 := (funext (fun j => s146.2.2 j (by simp))).symm
                                        subst b146
                                        obtain ⟨l146, u146, x146⟩ := p146
                                        have p147 : pr z145 z146 := by rw [x145, x146]; exact (pG2_cg rfl rfl (pG2_cg rfl rfl f139)) (16 * 0 + 3 : Int).toNat (by omega)
                                        unfold pr at p147
                                        refine lv_bipush (v := iI 6) X.1 X.2.1 d_M_handed_185 (by decide) ?_
                                        refine r_ni (m_run (As := [.ref ((D.2.1 5)), .int (iI z145), .int (iI z146), .int (iI 6)]) (rest := []) (n := 4) X Y hZ hA hml hl.1 (r_M_sequence_t l D E h q H.size I134 J146 B134 G146 5 (show 5 < nZ by decide) z145 (by omega) (by omega) z146 (by omega) (by omega) 6 (by decide) (by decide) S.1 5 (B134 0) rfl (isF (B134 0) 5) (by decide) (hisU (show rki 5 ≤ 5 by decide)) (pG1_cg rfl rfl (pG1_cg rfl rfl f138)) (pG2_cg rfl rfl (pG2_cg rfl rfl f139)) (by omega) (by omega)) kl_M_sequence ks_M_sequence kx_M_sequence ki_M_sequence ini_M hd_M_sequence ⟨Nat.le_of_ble_eq_true rfl, Nat.le_of_ble_eq_true rfl⟩ rfl (Nat.le_of_ble_eq_true rfl) d_M_handed_187 ⟨Nat.le_refl _, Nat.le_refl _⟩) X Y hA S (by decide) (by decide) (fun z148 u H locs Y S s148 p148 => ?_)
                                        obtain ⟨I148, J148, B148, G148⟩ := u
                                        dsimp only at Y S s148 p148
                                        obtain ⟨l148, u148, x148, st148, g148_P1, g148_P2⟩ := p148
                                        have g148_TF : thF [6] (B134 37) (B134 38) (B148 37) (B148 38) := thF_of st148.1
                                        refine lv_pop X.1 X.2.1 d_M_handed_190 rfl ?_
                                        refine lv_aload_n X.1 X.2.1 d_M_handed_191 rfl (lv_at hl 0 rfl) ?_
                                        refine lv_bipush (v := iI 6) X.1 X.2.1 d_M_handed_192 (by decide) ?_
                                        refine lv_iconst (v := iI 0) X.1 X.2.1 d_M_handed_194 (by decide) ?_
                                        refine r_nl (m_run (As := [.int (iI 6), .int (iI 0)]) (rest := []) (n := 2) X Y hZ hA hml hl.1 (r_M_numberAt l D E h q H.size I148 J148 B148 G148 6 (by decide) (by decide) 0 (by decide) (by decide) S.1 g148_P1 g148_P2) kl_M_numberAt ks_M_numberAt kx_M_numberAt ki_M_numberAt ini_M hd_M_numberAt ⟨Nat.le_of_ble_eq_true rfl, Nat.le_of_ble_eq_true rfl⟩ rfl (Nat.le_of_ble_eq_true rfl) d_M_handed_195 ⟨Nat.le_refl _, Nat.le_refl _⟩) X Y hA S (by decide) (by decide) (fun v149 u H locs Y S s149 p149 => ?_)
                                        obtain ⟨I149, J149, B149, G149⟩ := u
                                        dsimp only at Y S s149 p149
                                        have b149 : B148 = B149 := (funext (fun j => s149.2.2 j (by simp))).symm
                                        subst b149
                                        have f150 : stT (B148 97) (B148 98) (B148 100) (B148 107) (B148 108) (B148 109) := (stT_cg rfl rfl rfl rfl rfl rfl (stT_cg (s148.2.2 97 (by decide)) (s148.2.2 98 (by decide)) (s148.2.2 100 (by decide)) (s148.2.2 107 (by decide)) (s148.2.2 108 (by decide)) (s148.2.2 109 (by decide)) (stT_cg rfl rfl rfl rfl rfl rfl (stT_cg rfl rfl rfl rfl rfl rfl f136))))
                                        have g149_P1 := p149
                                        refine lv_aload_n X.1 X.2.1 d_M_handed_198 rfl (lv_at hl 0 rfl) ?_
                                        refine m_get X Y 134 (by decide) lk_sessionTypes (gf_sessionTypes _ _ _) rfl d_M_handed_199 ?_
                                        refine lv_iload_n X.1 X.2.1 d_M_handed_202 rfl (lv_at hl 1 rfl) ?_
                                        refine r_iald X Y S (aw_sessionTypes _ _ _ _ _ _ _) rfl (by omega) (show a1 < ((8 : Nat) : Int) by omega) (by omega) d_M_handed_203 (fun z151 q151 l151 u151 => ?_)
                                        refine lv_i2l X.1 X.2.1 d_M_handed_204 rfl ?_
                                        refine t_anyl (fun v152 => ?_)
                                        refine W.lcmp X.1 X.2.1 d_M_handed_205 ?_
                                        refine t_u (fun z153 l153 u153 => ?_)
                                        refine z_if_eq (tgt := 212) X.1 X.2.1 d_M_handed_206 (by decide) ⟨by omega, by omega⟩ (fun h154 => ?_) (fun h154 => ?_)
                                        · as_aux_lemma =>
                                            refine lv_aload_n X.1 X.2.1 d_M_handed_212 rfl (lv_at hl 0 rfl) ?_
                                            refine lv_aload_n X.1 X.2.1 d_M_handed_213 rfl (lv_at hl 0 rfl) ?_
                                            refine lv_bipush (v := iI 6) X.1 X.2.1 d_M_handed_214 (by decide) ?_
                                            refine lv_iconst (v := iI 2) X.1 X.2.1 d_M_handed_216 (by decide) ?_
                                            refine r_ni (m_run (As := [.int (iI 6), .int (iI 2)]) (rest := [.ref h]) (n := 2) X Y hZ hA hml hl.1 (r_M_a l D E h q H.size I149 J149 B148 G149 6 (by decide) (by decide) 2 (by decide) (by decide) S.1) kl_M_a ks_M_a kx_M_a ki_M_a ini_M hd_M_a ⟨Nat.le_of_ble_eq_true rfl, Nat.le_of_ble_eq_true rfl⟩ rfl (Nat.le_of_ble_eq_true rfl) d_M_handed_217 ⟨Nat.le_refl _, Nat.le_refl _⟩) X Y hA S (by decide) (by decide) (fun z155 u H locs Y S s155 p155 => ?_)
                                            obtain ⟨I155, J155, B155, G155⟩ := u
                                            dsimp only at Y S s155 p155
                                            have i155 : I149 = I155 := (funext (fun j => s155.2.1 j (by simp))).symm
                                            subst i155
                                            have b155 : B148 = B155 := (funext (fun j => s155.2.2 j (by simp))).symm
                                            subst b155
                                            obtain ⟨l155, u155, x155⟩ := p155
                                            refine lv_aload_n X.1 X.2.1 d_M_handed_220 rfl (lv_at hl 0 rfl) ?_
                                            refine lv_bipush (v := iI 6) X.1 X.2.1 d_M_handed_221 (by decide) ?_
                                            refine lv_iconst (v := iI 2) X.1 X.2.1 d_M_handed_223 (by decide) ?_
                                            refine r_ni (m_run (As := [.int (iI 6), .int (iI 2)]) (rest := [.int (iI z155), .ref h]) (n := 2) X Y hZ hA hml hl.1 (r_M_b l D E h q H.size I149 J155 B148 G155 6 (by decide) (by decide) 2 (by decide) (by decide) S.1) kl_M_b ks_M_b kx_M_b ki_M_b ini_M hd_M_b ⟨Nat.le_of_ble_eq_true rfl, Nat.le_of_ble_eq_true rfl⟩ rfl (Nat.le_of_ble_eq_true rfl) d_M_handed_224 ⟨Nat.le_refl _, Nat.le_refl _⟩) X Y hA S (by decide) (by decide) (fun z156 u H locs Y S s156 p156 => ?_)
                                            obtain ⟨I156, J156, B156, G156⟩ := u
                                            dsimp only at Y S s156 p156
                                            have i156 : I149 = I156 := (funext (fun j => s156.2.1 j (by simp))).symm
                                            subst i156
                                            have b156 : B148 = B156 := (funext (fun j => s156.2.2 j (by simp))).symm
                                            subst b156
                                            obtain ⟨l156, u156, x156⟩ := p156
                                            have p157 : pr z155 z156 := by rw [x155, x156]; exact (pG2_cg rfl rfl (pG2_cg rfl rfl (pG2_cg rfl rfl g148_P2))) (16 * 6 + 2 : Int).toNat (by omega)
                                            unfold pr at p157
                                            refine lv_iconst (v := iI 4) X.1 X.2.1 d_M_handed_227 (by decide) ?_
                                            refine r_ni (m_run (As := [.int (iI z155), .int (iI z156), .int (iI 4)]) (rest := []) (n := 3) X Y hZ hA hml hl.1 (r_M_element l D E h q H.size I149 J156 B148 G156 z155 (by omega) (by omega) z156 (by omega) (by omega) 4 (by decide) (by decide) S.1 (B148 0) rfl (pG1_cg rfl rfl (pG1_cg rfl rfl g149_P1)) (by omega) (by omega)) kl_M_element ks_M_element kx_M_element ki_M_element ini_M hd_M_element ⟨Nat.le_of_ble_eq_true rfl, Nat.le_of_ble_eq_true rfl⟩ rfl (Nat.le_of_ble_eq_true rfl) d_M_handed_228 ⟨Nat.le_refl _, Nat.le_refl _⟩) X Y hA S (by decide) (by decide) (fun z158 u H locs Y S s158 p158 => ?_)
                                            obtain ⟨I158, J158, B158, G158⟩ := u
                                            dsimp only at Y S s158 p158
                                            have b158 : B148 = B158 := (funext (fun j => s158.2.2 j (by simp))).symm
                                            subst b158
                                            obtain ⟨l158, u158, x158, st158⟩ := p158
                                            obtain ⟨x159, y159, ex159, ey159, lx159, ly159, uy159, dy159, iy159, ky159⟩ := st158
                                            refine lv_pop X.1 X.2.1 d_M_handed_231 rfl ?_
                                            refine lv_aload_n X.1 X.2.1 d_M_handed_232 rfl (lv_at hl 0 rfl) ?_
                                            refine lv_aload_n X.1 X.2.1 d_M_handed_233 rfl (lv_at hl 0 rfl) ?_
                                            refine m_get X Y 58 (by decide) lk_key (gf_key _ _ _) rfl d_M_handed_234 ?_
                                            refine lv_aload_n X.1 X.2.1 d_M_handed_237 rfl (lv_at hl 0 rfl) ?_
                                            refine m_get X Y 134 (by decide) lk_sessionTypes (gf_sessionTypes _ _ _) rfl d_M_handed_238 ?_
                                            refine lv_iload_n X.1 X.2.1 d_M_handed_241 rfl (lv_at hl 1 rfl) ?_
                                            refine r_iald X Y S (aw_sessionTypes _ _ _ _ _ _ _) rfl (by omega) (show a1 < ((8 : Nat) : Int) by omega) (by omega) d_M_handed_242 (fun z160 q160 l160 u160 => ?_)
                                            refine lv_bipush (v := iI 14) X.1 X.2.1 d_M_handed_243 (by decide) ?_
                                            refine lv_aload_n X.1 X.2.1 d_M_handed_245 rfl (lv_at hl 0 rfl) ?_
                                            refine r_get0 X Y (by decide) lk_inside (gf_inside _ _ _) rfl ex159 d_M_handed_246 ?_
                                            refine lv_aload_n X.1 X.2.1 d_M_handed_249 rfl (lv_at hl 0 rfl) ?_
                                            refine r_get0 X Y (by decide) lk_behind (gf_behind _ _ _) rfl ey159 d_M_handed_250 ?_
                                            refine lv_sipush (v := iI 4200) X.1 X.2.1 d_M_handed_253 (by decide) ?_
                                            refine r_ni (m_run (As := [.ref ((q 58)), .int (iI z160), .int (iI 14), .int (iI x159), .int (iI y159), .int (iI 4200)]) (rest := []) (n := 6) X Y hZ hA hml hl.1 (r_M_open_key l D E h q H.size I158 J158 B148 G158 z160 (by omega) (by omega) 14 (by decide) (by decide) x159 (by omega) (by omega) y159 (by omega) (by omega) 4200 (by decide) (by decide) S.1 (by omega) (by omega)) kl_M_open ks_M_open kx_M_open ki_M_open ini_M hd_M_open ⟨Nat.le_of_ble_eq_true rfl, Nat.le_of_ble_eq_true rfl⟩ rfl (Nat.le_of_ble_eq_true rfl) d_M_handed_256 ⟨Nat.le_refl _, Nat.le_refl _⟩) X Y hA S (by decide) (by decide) (fun z161 u H locs Y S s161 p161 => ?_)
                                            obtain ⟨I161, J161, B161, G161⟩ := u
                                            dsimp only at Y S s161 p161
                                            have f162 : stT (B161 97) (B161 98) (B161 100) (B161 107) (B161 108) (B161 109) := (stT_cg (s161.2.2 97 (by decide)) (s161.2.2 98 (by decide)) (s161.2.2 100 (by decide)) (s161.2.2 107 (by decide)) (s161.2.2 108 (by decide)) (s161.2.2 109 (by decide)) (stT_cg rfl rfl rfl rfl rfl rfl (stT_cg rfl rfl rfl rfl rfl rfl (stT_cg rfl rfl rfl rfl rfl rfl f150))))
                                            obtain ⟨l161, u161, x161, g161_MF⟩ := p161
                                            have f163 : htA x116 y116 (B161 0) := htA_M g161_MF (by decide) (htA_cg rfl (htA_cg rfl (htA_cg rfl (htA_cg rfl (htA_cg (s148.2.2 0 (by decide)) (htA_cg rfl (htA_cg rfl f137)))))))
                                            refine lv_istore (lv' := [(6, .int (iI z161)), (0, .ref h), (1, .int (iI a1)), (2, .int (iI a2)), (4, .int (iI x116)), (5, .int (iI y116))]) X.1 X.2.1 d_M_handed_259 hl (by decide) rfl (fun ls hl => ?_)
                                            refine lv_iload X.1 X.2.1 d_M_handed_261 (lv_at hl 0 rfl) ?_
                                            refine z_if_ge (tgt := 269) X.1 X.2.1 d_M_handed_263 (by decide) ⟨by omega, by omega⟩ (fun h164 => ?_) (fun h164 => ?_)
                                            · as_aux_lemma =>
                                                refine lv_aload_n X.1 X.2.1 d_M_handed_269 rfl (lv_at hl 1 rfl) ?_
                                                refine lv_bipush (v := iI 29) X.1 X.2.1 d_M_handed_270 (by decide) ?_
                                                refine m_ldcSW (i := 25) X (by decide) (by decide) d_M_handed_272 ?_
                                                refine lv_sipush (v := iI 4200) X.1 X.2.1 d_M_handed_275 (by decide) ?_
                                                refine lv_sipush (v := iI 4200) X.1 X.2.1 d_M_handed_278 (by decide) ?_
                                                refine lv_iload X.1 X.2.1 d_M_handed_281 (lv_at hl 0 rfl) ?_
                                                refine z_iadd X.1 X.2.1 d_M_handed_283 ?_
                                                refine lv_iconst (v := iI 5) X.1 X.2.1 d_M_handed_284 (by decide) ?_
                                                refine r_ni (m_run (As := [.int (iI 29), .ref ((D.2.1 25)), .int (iI 4200), .int (iI (4200 + z161)), .int (iI 5)]) (rest := []) (n := 5) X Y hZ hA hml hl.1 (r_M_applied_t l D E h q H.size I161 J161 B161 G161 29 (by decide) (by decide) 25 (show 25 < nZ by decide) 4200 (by decide) (by decide) (4200 + z161) (by omega) (by omega) 5 (by decide) (by decide) S.1 5 (B161 0) rfl (isF (B161 0) 5) (by decide) (hisU (show rki 25 ≤ 5 by decide)) (pG1_cg (s161.2.1 39 (by decide)) (s161.2.1 40 (by decide)) (show pG1 I158 from ⟨x159, y159, ex159, ey159, by omega, by omega, by omega, by omega⟩)) (pG2_cg (s161.2.2 37 (by decide)) (s161.2.2 38 (by decide)) (pG2_cg rfl rfl (pG2_cg rfl rfl (pG2_cg rfl rfl (pG2_cg rfl rfl g148_P2))))) (by omega) (by omega)) kl_M_applied ks_M_applied kx_M_applied ki_M_applied ini_M hd_M_applied ⟨Nat.le_of_ble_eq_true rfl, Nat.le_of_ble_eq_true rfl⟩ rfl (Nat.le_of_ble_eq_true rfl) d_M_handed_285 ⟨Nat.le_refl _, Nat.le_refl _⟩) X Y hA S (by decide) (by decide) (fun z165 u H locs Y S s165 p165 => ?_)
                                                obtain ⟨I165, J165, B165, G165⟩ := u
                                                dsimp only at Y S s165 p165
                                                obtain ⟨l165, u165, x165, st165, g165_P1, g165_P2⟩ := p165
                                                have g165_TF : thF [5] (B161 37) (B161 38) (B165 37) (B165 38) := thF_of st165.1
                                                refine z_if_eq (tgt := 311) X.1 X.2.1 d_M_handed_288 (by decide) ⟨by omega, by omega⟩ (fun h166 => ?_) (fun h166 => ?_)
                                                · refine lv_bipush (v := iI (-60)) X.1 X.2.1 d_M_handed_311 (by decide) ?_
                                                  exact m_reti hQQ X Y hr hlk ⟨S, (-60), rfl, ⟨by omega, by omega, g165_P1, g165_P2, (stT_cg (s165.2.2 97 (by decide)) (s165.2.2 98 (by decide)) (s165.2.2 100 (by decide)) (s165.2.2 107 (by decide)) (s165.2.2 108 (by decide)) (s165.2.2 109 (by decide)) f162)⟩⟩ d_M_handed_313
                                                · as_aux_lemma =>
                                                    have wa167 := (x165.mp (by omega)).1
                                                    unfold whP at wa167
                                                    have ra167 := el_rng (B161 0) (a := 4200) (b := 4200 + z161) (.inl (by omega))
                                                    have a167 := cred_V (m := (B161 0)) (x165.mp (by omega)).2 (by omega) (by omega) (st165.2 (by omega))
                                                    rw [← s165.2.2 0 (by decide)] at a167
                                                    have wa168 := (x165.mp (by omega)).1
                                                    unfold whP at wa168
                                                    have ra168 := el_rng (B161 0) (a := 4200) (b := 4200 + z161) (.inl (by omega))
                                                    have a168 := cred_V (m := (B161 0)) (x165.mp (by omega)).2 (by omega) (by omega) (st165.2 (by omega))
                                                    rw [← s165.2.2 0 (by decide)] at a168
                                                    refine lv_aload_n X.1 X.2.1 d_M_handed_291 rfl (lv_at hl 1 rfl) ?_
                                                    refine lv_aload_n X.1 X.2.1 d_M_handed_292 rfl (lv_at hl 1 rfl) ?_
                                                    refine lv_iconst (v := iI 5) X.1 X.2.1 d_M_handed_293 (by decide) ?_
                                                    refine lv_iconst (v := iI 0) X.1 X.2.1 d_M_handed_294 (by decide) ?_
                                                    refine r_ni (m_run (As := [.int (iI 5), .int (iI 0)]) (rest := [.ref h]) (n := 2) X Y hZ hA hml hl.1 (r_M_a l D E h q H.size I165 J165 B165 G165 5 (by decide) (by decide) 0 (by decide) (by decide) S.1) kl_M_a ks_M_a kx_M_a ki_M_a ini_M hd_M_a ⟨Nat.le_of_ble_eq_true rfl, Nat.le_of_ble_eq_true rfl⟩ rfl (Nat.le_of_ble_eq_true rfl) d_M_handed_295 ⟨Nat.le_refl _, Nat.le_refl _⟩) X Y hA S (by decide) (by decide) (fun z169 u H locs Y S s169 p169 => ?_)
                                                    obtain ⟨I169, J169, B169, G169⟩ := u
                                                    dsimp only at Y S s169 p169
                                                    have i169 : I165 = I169 := (funext (fun j => s169.2.1 j (by simp))).symm
                                                    subst i169
                                                    have b169 : B165 = B169 := (funext (fun j => s169.2.2 j (by simp))).symm
                                                    subst b169
                                                    obtain ⟨l169, u169, x169⟩ := p169
                                                    refine lv_aload_n X.1 X.2.1 d_M_handed_298 rfl (lv_at hl 1 rfl) ?_
                                                    refine lv_iconst (v := iI 5) X.1 X.2.1 d_M_handed_299 (by decide) ?_
                                                    refine lv_iconst (v := iI 0) X.1 X.2.1 d_M_handed_300 (by decide) ?_
                                                    refine r_ni (m_run (As := [.int (iI 5), .int (iI 0)]) (rest := [.int (iI z169), .ref h]) (n := 2) X Y hZ hA hml hl.1 (r_M_b l D E h q H.size I165 J169 B165 G169 5 (by decide) (by decide) 0 (by decide) (by decide) S.1) kl_M_b ks_M_b kx_M_b ki_M_b ini_M hd_M_b ⟨Nat.le_of_ble_eq_true rfl, Nat.le_of_ble_eq_true rfl⟩ rfl (Nat.le_of_ble_eq_true rfl) d_M_handed_301 ⟨Nat.le_refl _, Nat.le_refl _⟩) X Y hA S (by decide) (by decide) (fun z170 u H locs Y S s170 p170 => ?_)
                                                    obtain ⟨I170, J170, B170, G170⟩ := u
                                                    dsimp only at Y S s170 p170
                                                    have i170 : I165 = I170 := (funext (fun j => s170.2.1 j (by simp))).symm
                                                    subst i170
                                                    have b170 : B165 = B170 := (funext (fun j => s170.2.2 j (by simp))).symm
                                                    subst b170
                                                    obtain ⟨l170, u170, x170⟩ := p170
                                                    have p171 : pr z169 z170 := by rw [x169, x170]; exact (pG2_cg rfl rfl (pG2_cg rfl rfl g165_P2)) (16 * 5 + 0 : Int).toNat (by omega)
                                                    unfold pr at p171
                                                    refine lv_iconst (v := iI 0) X.1 X.2.1 d_M_handed_304 (by decide) ?_
                                                    refine r_ni (m_run (As := [.int (iI z169), .int (iI z170), .int (iI 0)]) (rest := []) (n := 3) X Y hZ hA hml hl.1 (r_M_nth l D E h q H.size I165 J170 B165 G170 z169 (by omega) (by omega) z170 (by omega) (by omega) 0 (by decide) (by decide) S.1 (B165 0) rfl (isF (B165 0) 4 73) (by rw [x169, x170]; exact ((cvA_cg rfl rfl rfl (cvA_cg rfl rfl rfl a168))).1) (pG1_cg rfl rfl (pG1_cg rfl rfl g165_P1)) (by omega) (by omega)) kl_M_nth ks_M_nth kx_M_nth ki_M_nth ini_M hd_M_nth ⟨Nat.le_of_ble_eq_true rfl, Nat.le_of_ble_eq_true rfl⟩ rfl (Nat.le_of_ble_eq_true rfl) d_M_handed_305 ⟨Nat.le_refl _, Nat.le_refl _⟩) X Y hA S (by decide) (by decide) (fun z172 u H locs Y S s172 p172 => ?_)
                                                    obtain ⟨I172, J172, B172, G172⟩ := u
                                                    dsimp only at Y S s172 p172
                                                    have b172 : B165 = B172 := (funext (fun j => s172.2.2 j (by simp))).symm
                                                    subst b172
                                                    have f173 : stT (B165 97) (B165 98) (B165 100) (B165 107) (B165 108) (B165 109) := (stT_cg rfl rfl rfl rfl rfl rfl (stT_cg rfl rfl rfl rfl rfl rfl (stT_cg rfl rfl rfl rfl rfl rfl (stT_cg (s165.2.2 97 (by decide)) (s165.2.2 98 (by decide)) (s165.2.2 100 (by decide)) (s165.2.2 107 (by decide)) (s165.2.2 108 (by decide)) (s165.2.2 109 (by decide)) f162))))
                                                    obtain ⟨l172, u172, st172, g172_P1⟩ := p172
                                                    obtain ⟨x174, y174, ex174, ey174, iy174, ty174⟩ := st172
                                                    refine z_if_ne (tgt := 314) X.1 X.2.1 d_M_handed_308 (by decide) ⟨by omega, by omega⟩ (fun h175 => ?_) (fun h175 => ?_)
                                                    · as_aux_lemma =>
                                                        have tn9 := ty174 (by omega)
                                                        rw [is_73] at tn9
                                                        have cv9 := ((cvA_cg rfl rfl rfl (cvA_cg rfl rfl rfl (cvA_cg rfl rfl rfl a168)))).2
                                                        have tn9 := ty174 (by omega)
                                                        rw [is_73] at tn9
                                                        have cv9 := ((cvA_cg rfl rfl rfl (cvA_cg rfl rfl rfl (cvA_cg rfl rfl rfl a168)))).2
                                                        refine lv_aload_n X.1 X.2.1 d_M_handed_314 rfl (lv_at hl 1 rfl) ?_
                                                        refine m_ldcSW (i := 10) X (by decide) (by decide) d_M_handed_315 ?_
                                                        refine lv_aload_n X.1 X.2.1 d_M_handed_318 rfl (lv_at hl 1 rfl) ?_
                                                        refine r_get0 X Y (by decide) lk_nthAt (gf_nthAt _ _ _) rfl ex174 d_M_handed_319 ?_
                                                        refine lv_aload_n X.1 X.2.1 d_M_handed_322 rfl (lv_at hl 1 rfl) ?_
                                                        refine r_get0 X Y (by decide) lk_nthEnd (gf_nthEnd _ _ _) rfl ey174 d_M_handed_323 ?_
                                                        refine lv_iconst (v := iI 4) X.1 X.2.1 d_M_handed_326 (by decide) ?_
                                                        refine r_ni (m_run (As := [.ref ((D.2.1 10)), .int (iI x174), .int (iI y174), .int (iI 4)]) (rest := []) (n := 4) X Y hZ hA hml hl.1 (r_M_sequence_t l D E h q H.size I172 J172 B165 G172 10 (show 10 < nZ by decide) x174 (by omega) (by omega) y174 (by omega) (by omega) 4 (by decide) (by decide) S.1 3 (B165 0) rfl (isF (B165 0) 3) (by decide) (hisU (show rki 10 ≤ 3 by decide)) g172_P1 (pG2_cg rfl rfl (pG2_cg rfl rfl (pG2_cg rfl rfl g165_P2))) (by omega) (by omega)) kl_M_sequence ks_M_sequence kx_M_sequence ki_M_sequence ini_M hd_M_sequence ⟨Nat.le_of_ble_eq_true rfl, Nat.le_of_ble_eq_true rfl⟩ rfl (Nat.le_of_ble_eq_true rfl) d_M_handed_327 ⟨Nat.le_refl _, Nat.le_refl _⟩) X Y hA S (by decide) (by decide) (fun z176 u H locs Y S s176 p176 => ?_)
                                                        obtain ⟨I176, J176, B176, G176⟩ := u
                                                        dsimp only at Y S s176 p176
                                                        obtain ⟨l176, u176, x176, st176, g176_P1, g176_P2⟩ := p176
                                                        have g176_TF : thF [4] (B165 37) (B165 38) (B176 37) (B176 38) := thF_of st176.1
                                                        have f177 : cvA (B176 37) (B176 38) (B176 0) := (cvA_cg (s176.2.2 0 (by decide)) rfl rfl (cvA_T g176_TF (by decide) (by decide) (cvA_cg rfl rfl rfl (cvA_cg rfl rfl rfl (cvA_cg rfl rfl rfl a168)))))
                                                        have zz176 : z176 = 1 := x176.mpr tn9
                                                        have a178 := cred_N (m := B165 0) (x176.mp zz176) (by omega) (by omega) (st176.2 zz176)
                                                        rw [← s176.2.2 0 (by decide)] at a178
                                                        refine lv_pop X.1 X.2.1 d_M_handed_330 rfl ?_
                                                        refine lv_aload_n X.1 X.2.1 d_M_handed_331 rfl (lv_at hl 1 rfl) ?_
                                                        refine lv_aload_n X.1 X.2.1 d_M_handed_332 rfl (lv_at hl 1 rfl) ?_
                                                        refine lv_iconst (v := iI 5) X.1 X.2.1 d_M_handed_333 (by decide) ?_
                                                        refine lv_iconst (v := iI 0) X.1 X.2.1 d_M_handed_334 (by decide) ?_
                                                        refine r_ni (m_run (As := [.int (iI 5), .int (iI 0)]) (rest := [.ref h]) (n := 2) X Y hZ hA hml hl.1 (r_M_a l D E h q H.size I176 J176 B176 G176 5 (by decide) (by decide) 0 (by decide) (by decide) S.1) kl_M_a ks_M_a kx_M_a ki_M_a ini_M hd_M_a ⟨Nat.le_of_ble_eq_true rfl, Nat.le_of_ble_eq_true rfl⟩ rfl (Nat.le_of_ble_eq_true rfl) d_M_handed_335 ⟨Nat.le_refl _, Nat.le_refl _⟩) X Y hA S (by decide) (by decide) (fun z179 u H locs Y S s179 p179 => ?_)
                                                        obtain ⟨I179, J179, B179, G179⟩ := u
                                                        dsimp only at Y S s179 p179
                                                        have i179 : I176 = I179 := (funext (fun j => s179.2.1 j (by simp))).symm
                                                        subst i179
                                                        have b179 : B176 = B179 := (funext (fun j => s179.2.2 j (by simp))).symm
                                                        subst b179
                                                        obtain ⟨l179, u179, x179⟩ := p179
                                                        refine lv_aload_n X.1 X.2.1 d_M_handed_338 rfl (lv_at hl 1 rfl) ?_
                                                        refine lv_iconst (v := iI 5) X.1 X.2.1 d_M_handed_339 (by decide) ?_
                                                        refine lv_iconst (v := iI 0) X.1 X.2.1 d_M_handed_340 (by decide) ?_
                                                        refine r_ni (m_run (As := [.int (iI 5), .int (iI 0)]) (rest := [.int (iI z179), .ref h]) (n := 2) X Y hZ hA hml hl.1 (r_M_b l D E h q H.size I176 J179 B176 G179 5 (by decide) (by decide) 0 (by decide) (by decide) S.1) kl_M_b ks_M_b kx_M_b ki_M_b ini_M hd_M_b ⟨Nat.le_of_ble_eq_true rfl, Nat.le_of_ble_eq_true rfl⟩ rfl (Nat.le_of_ble_eq_true rfl) d_M_handed_341 ⟨Nat.le_refl _, Nat.le_refl _⟩) X Y hA S (by decide) (by decide) (fun z180 u H locs Y S s180 p180 => ?_)
                                                        obtain ⟨I180, J180, B180, G180⟩ := u
                                                        dsimp only at Y S s180 p180
                                                        have i180 : I176 = I180 := (funext (fun j => s180.2.1 j (by simp))).symm
                                                        subst i180
                                                        have b180 : B176 = B180 := (funext (fun j => s180.2.2 j (by simp))).symm
                                                        subst b180
                                                        obtain ⟨l180, u180, x180⟩ := p180
                                                        have p181 : pr z179 z180 := by rw [x179, x180]; exact (pG2_cg rfl rfl (pG2_cg rfl rfl g176_P2)) (16 * 5 + 0 : Int).toNat (by omega)
                                                        unfold pr at p181
                                                        refine lv_iconst (v := iI 1) X.1 X.2.1 d_M_handed_344 (by decide) ?_
                                                        refine r_ni (m_run (As := [.int (iI z179), .int (iI z180), .int (iI 1)]) (rest := []) (n := 3) X Y hZ hA hml hl.1 (r_M_nth l D E h q H.size I176 J180 B176 G180 z179 (by omega) (by omega) z180 (by omega) (by omega) 1 (by decide) (by decide) S.1 (B176 0) rfl (isF (B176 0) 4 73) (by rw [x179, x180]; exact ((cvA_cg rfl rfl rfl (cvA_cg rfl rfl rfl f177))).1) (pG1_cg rfl rfl (pG1_cg rfl rfl g176_P1)) (by omega) (by omega)) kl_M_nth ks_M_nth kx_M_nth ki_M_nth ini_M hd_M_nth ⟨Nat.le_of_ble_eq_true rfl, Nat.le_of_ble_eq_true rfl⟩ rfl (Nat.le_of_ble_eq_true rfl) d_M_handed_345 ⟨Nat.le_refl _, Nat.le_refl _⟩) X Y hA S (by decide) (by decide) (fun z182 u H locs Y S s182 p182 => ?_)
                                                        obtain ⟨I182, J182, B182, G182⟩ := u
                                                        dsimp only at Y S s182 p182
                                                        have b182 : B176 = B182 := (funext (fun j => s182.2.2 j (by simp))).symm
                                                        subst b182
                                                        have f183 : stT (B176 97) (B176 98) (B176 100) (B176 107) (B176 108) (B176 109) := (stT_cg rfl rfl rfl rfl rfl rfl (stT_cg rfl rfl rfl rfl rfl rfl (stT_cg rfl rfl rfl rfl rfl rfl (stT_cg (s176.2.2 97 (by decide)) (s176.2.2 98 (by decide)) (s176.2.2 100 (by decide)) (s176.2.2 107 (by decide)) (s176.2.2 108 (by decide)) (s176.2.2 109 (by decide)) f173))))
                                                        obtain ⟨l182, u182, st182, g182_P1⟩ := p182
                                                        obtain ⟨x184, y184, ex184, ey184, iy184, ty184⟩ := st182
                                                        refine z_if_ne (tgt := 388) X.1 X.2.1 d_M_handed_348 (by decide) ⟨by omega, by omega⟩ (fun h185 => ?_) (fun h185 => ?_)
                                                        · refine lv_bipush (v := iI (-60)) X.1 X.2.1 d_M_handed_388 (by decide) ?_
                                                          exact m_reti hQQ X Y hr hlk ⟨S, (-60), rfl, ⟨by omega, by omega, g182_P1, (pG2_cg rfl rfl (pG2_cg rfl rfl (pG2_cg rfl rfl g176_P2))), f183⟩⟩ d_M_handed_390
                                                        · as_aux_lemma =>
                                                            refine lv_aload_n X.1 X.2.1 d_M_handed_351 rfl (lv_at hl 1 rfl) ?_
                                                            refine lv_iconst (v := iI 4) X.1 X.2.1 d_M_handed_352 (by decide) ?_
                                                            refine lv_iconst (v := iI 2) X.1 X.2.1 d_M_handed_353 (by decide) ?_
                                                            refine r_ni (m_run (As := [.int (iI 4), .int (iI 2)]) (rest := []) (n := 2) X Y hZ hA hml hl.1 (r_M_has l D E h q H.size I182 J182 B176 G182 4 (by decide) (by decide) 2 (by decide) (by decide) S.1) kl_M_has ks_M_has kx_M_has ki_M_has ini_M hd_M_has ⟨Nat.le_of_ble_eq_true rfl, Nat.le_of_ble_eq_true rfl⟩ rfl (Nat.le_of_ble_eq_true rfl) d_M_handed_354 ⟨Nat.le_refl _, Nat.le_refl _⟩) X Y hA S (by decide) (by decide) (fun z186 u H locs Y S s186 p186 => ?_)
                                                            obtain ⟨I186, J186, B186, G186⟩ := u
                                                            dsimp only at Y S s186 p186
                                                            have i186 : I182 = I186 := (funext (fun j => s186.2.1 j (by simp))).symm
                                                            subst i186
                                                            have b186 : B176 = B186 := (funext (fun j => s186.2.2 j (by simp))).symm
                                                            subst b186
                                                            obtain ⟨l186, u186, x186⟩ := p186
                                                            refine z_if_eq (tgt := 388) X.1 X.2.1 d_M_handed_357 (by decide) ⟨by omega, by omega⟩ (fun h187 => ?_) (fun h187 => ?_)
                                                            · refine lv_bipush (v := iI (-60)) X.1 X.2.1 d_M_handed_388 (by decide) ?_
                                                              exact m_reti hQQ X Y hr hlk ⟨S, (-60), rfl, ⟨by omega, by omega, (pG1_cg rfl rfl g182_P1), (pG2_cg rfl rfl (pG2_cg rfl rfl (pG2_cg rfl rfl (pG2_cg rfl rfl g176_P2)))), (stT_cg rfl rfl rfl rfl rfl rfl f183)⟩⟩ d_M_handed_390
                                                            · as_aux_lemma =>
                                                                refine lv_aload_n X.1 X.2.1 d_M_handed_360 rfl (lv_at hl 1 rfl) ?_
                                                                refine lv_iconst (v := iI 4) X.1 X.2.1 d_M_handed_361 (by decide) ?_
                                                                refine lv_iconst (v := iI 3) X.1 X.2.1 d_M_handed_362 (by decide) ?_
                                                                refine r_ni (m_run (As := [.int (iI 4), .int (iI 3)]) (rest := []) (n := 2) X Y hZ hA hml hl.1 (r_M_has l D E h q H.size I182 J186 B176 G186 4 (by decide) (by decide) 3 (by decide) (by decide) S.1) kl_M_has ks_M_has kx_M_has ki_M_has ini_M hd_M_has ⟨Nat.le_of_ble_eq_true rfl, Nat.le_of_ble_eq_true rfl⟩ rfl (Nat.le_of_ble_eq_true rfl) d_M_handed_363 ⟨Nat.le_refl _, Nat.le_refl _⟩) X Y hA S (by decide) (by decide) (fun z188 u H locs Y S s188 p188 => ?_)
                                                                obtain ⟨I188, J188, B188, G188⟩ := u
                                                                dsimp only at Y S s188 p188
                                                                have i188 : I182 = I188 := (funext (fun j => s188.2.1 j (by simp))).symm
                                                                subst i188
                                                                have b188 : B176 = B188 := (funext (fun j => s188.2.2 j (by simp))).symm
                                                                subst b188
                                                                obtain ⟨l188, u188, x188⟩ := p188
                                                                refine z_if_eq (tgt := 388) X.1 X.2.1 d_M_handed_366 (by decide) ⟨by omega, by omega⟩ (fun h189 => ?_) (fun h189 => ?_)
                                                                · refine lv_bipush (v := iI (-60)) X.1 X.2.1 d_M_handed_388 (by decide) ?_
                                                                  exact m_reti hQQ X Y hr hlk ⟨S, (-60), rfl, ⟨by omega, by omega, (pG1_cg rfl rfl (pG1_cg rfl rfl g182_P1)), (pG2_cg rfl rfl (pG2_cg rfl rfl (pG2_cg rfl rfl (pG2_cg rfl rfl (pG2_cg rfl rfl g176_P2))))), (stT_cg rfl rfl rfl rfl rfl rfl (stT_cg rfl rfl rfl rfl rfl rfl f183))⟩⟩ d_M_handed_390
                                                                · as_aux_lemma =>
                                                                    refine lv_aload_n X.1 X.2.1 d_M_handed_369 rfl (lv_at hl 1 rfl) ?_
                                                                    refine lv_iconst (v := iI 4) X.1 X.2.1 d_M_handed_370 (by decide) ?_
                                                                    refine lv_iconst (v := iI 4) X.1 X.2.1 d_M_handed_371 (by decide) ?_
                                                                    refine r_ni (m_run (As := [.int (iI 4), .int (iI 4)]) (rest := []) (n := 2) X Y hZ hA hml hl.1 (r_M_has l D E h q H.size I182 J188 B176 G188 4 (by decide) (by decide) 4 (by decide) (by decide) S.1) kl_M_has ks_M_has kx_M_has ki_M_has ini_M hd_M_has ⟨Nat.le_of_ble_eq_true rfl, Nat.le_of_ble_eq_true rfl⟩ rfl (Nat.le_of_ble_eq_true rfl) d_M_handed_372 ⟨Nat.le_refl _, Nat.le_refl _⟩) X Y hA S (by decide) (by decide) (fun z190 u H locs Y S s190 p190 => ?_)
                                                                    obtain ⟨I190, J190, B190, G190⟩ := u
                                                                    dsimp only at Y S s190 p190
                                                                    have i190 : I182 = I190 := (funext (fun j => s190.2.1 j (by simp))).symm
                                                                    subst i190
                                                                    have b190 : B176 = B190 := (funext (fun j => s190.2.2 j (by simp))).symm
                                                                    subst b190
                                                                    obtain ⟨l190, u190, x190⟩ := p190
                                                                    refine z_if_eq (tgt := 388) X.1 X.2.1 d_M_handed_375 (by decide) ⟨by omega, by omega⟩ (fun h191 => ?_) (fun h191 => ?_)
                                                                    · refine lv_bipush (v := iI (-60)) X.1 X.2.1 d_M_handed_388 (by decide) ?_
                                                                      exact m_reti hQQ X Y hr hlk ⟨S, (-60), rfl, ⟨by omega, by omega, (pG1_cg rfl rfl (pG1_cg rfl rfl (pG1_cg rfl rfl g182_P1))), (pG2_cg rfl rfl (pG2_cg rfl rfl (pG2_cg rfl rfl (pG2_cg rfl rfl (pG2_cg rfl rfl (pG2_cg rfl rfl g176_P2)))))), (stT_cg rfl rfl rfl rfl rfl rfl (stT_cg rfl rfl rfl rfl rfl rfl (stT_cg rfl rfl rfl rfl rfl rfl f183)))⟩⟩ d_M_handed_390
                                                                    · as_aux_lemma =>
                                                                        refine lv_aload_n X.1 X.2.1 d_M_handed_378 rfl (lv_at hl 1 rfl) ?_
                                                                        refine lv_iconst (v := iI 4) X.1 X.2.1 d_M_handed_379 (by decide) ?_
                                                                        refine lv_bipush (v := iI 6) X.1 X.2.1 d_M_handed_380 (by decide) ?_
                                                                        refine r_ni (m_run (As := [.int (iI 4), .int (iI 6)]) (rest := []) (n := 2) X Y hZ hA hml hl.1 (r_M_has l D E h q H.size I182 J190 B176 G190 4 (by decide) (by decide) 6 (by decide) (by decide) S.1) kl_M_has ks_M_has kx_M_has ki_M_has ini_M hd_M_has ⟨Nat.le_of_ble_eq_true rfl, Nat.le_of_ble_eq_true rfl⟩ rfl (Nat.le_of_ble_eq_true rfl) d_M_handed_382 ⟨Nat.le_refl _, Nat.le_refl _⟩) X Y hA S (by decide) (by decide) (fun z192 u H locs Y S s192 p192 => ?_)
                                                                        obtain ⟨I192, J192, B192, G192⟩ := u
                                                                        dsimp only at Y S s192 p192
                                                                        have i192 : I182 = I192 := (funext (fun j => s192.2.1 j (by simp))).symm
                                                                        subst i192
                                                                        have b192 : B176 = B192 := (funext (fun j => s192.2.2 j (by simp))).symm
                                                                        subst b192
                                                                        obtain ⟨l192, u192, x192⟩ := p192
                                                                        refine z_if_ne (tgt := 391) X.1 X.2.1 d_M_handed_385 (by decide) ⟨by omega, by omega⟩ (fun h193 => ?_) (fun h193 => ?_)
                                                                        · as_aux_lemma =>
                                                                            refine lv_aload_n X.1 X.2.1 d_M_handed_391 rfl (lv_at hl 1 rfl) ?_
                                                                            refine lv_iconst (v := iI 5) X.1 X.2.1 d_M_handed_392 (by decide) ?_
                                                                            refine lv_iconst (v := iI 2) X.1 X.2.1 d_M_handed_393 (by decide) ?_
                                                                            refine r_ni (m_run (As := [.int (iI 5), .int (iI 2)]) (rest := []) (n := 2) X Y hZ hA hml hl.1 (r_M_has l D E h q H.size I182 J192 B176 G192 5 (by decide) (by decide) 2 (by decide) (by decide) S.1) kl_M_has ks_M_has kx_M_has ki_M_has ini_M hd_M_has ⟨Nat.le_of_ble_eq_true rfl, Nat.le_of_ble_eq_true rfl⟩ rfl (Nat.le_of_ble_eq_true rfl) d_M_handed_394 ⟨Nat.le_refl _, Nat.le_refl _⟩) X Y hA S (by decide) (by decide) (fun z194 u H locs Y S s194 p194 => ?_)
                                                                            obtain ⟨I194, J194, B194, G194⟩ := u
                                                                            dsimp only at Y S s194 p194
                                                                            have i194 : I182 = I194 := (funext (fun j => s194.2.1 j (by simp))).symm
                                                                            subst i194
                                                                            have b194 : B176 = B194 := (funext (fun j => s194.2.2 j (by simp))).symm
                                                                            subst b194
                                                                            obtain ⟨l194, u194, x194⟩ := p194
                                                                            refine z_if_eq (tgt := 418) X.1 X.2.1 d_M_handed_397 (by decide) ⟨by omega, by omega⟩ (fun h195 => ?_) (fun h195 => ?_)
                                                                            · refine lv_bipush (v := iI (-37)) X.1 X.2.1 d_M_handed_418 (by decide) ?_
                                                                              exact m_reti hQQ X Y hr hlk ⟨S, (-37), rfl, ⟨by omega, by omega, (pG1_cg rfl rfl (pG1_cg rfl rfl (pG1_cg rfl rfl (pG1_cg rfl rfl (pG1_cg rfl rfl g182_P1))))), (pG2_cg rfl rfl (pG2_cg rfl rfl (pG2_cg rfl rfl (pG2_cg rfl rfl (pG2_cg rfl rfl (pG2_cg rfl rfl (pG2_cg rfl rfl (pG2_cg rfl rfl g176_P2)))))))), (stT_cg rfl rfl rfl rfl rfl rfl (stT_cg rfl rfl rfl rfl rfl rfl (stT_cg rfl rfl rfl rfl rfl rfl (stT_cg rfl rfl rfl rfl rfl rfl (stT_cg rfl rfl rfl rfl rfl rfl f183)))))⟩⟩ d_M_handed_420
                                                                            · as_aux_lemma =>
                                                                                refine lv_aload_n X.1 X.2.1 d_M_handed_400 rfl (lv_at hl 1 rfl) ?_
                                                                                refine lv_aload_n X.1 X.2.1 d_M_handed_401 rfl (lv_at hl 1 rfl) ?_
                                                                                refine lv_iconst (v := iI 5) X.1 X.2.1 d_M_handed_402 (by decide) ?_
                                                                                refine lv_iconst (v := iI 2) X.1 X.2.1 d_M_handed_403 (by decide) ?_
                                                                                refine r_nl (m_run (As := [.int (iI 5), .int (iI 2)]) (rest := [.ref h]) (n := 2) X Y hZ hA hml hl.1 (r_M_timeOf l D E h q H.size I182 J194 B176 G194 5 (by decide) (by decide) 2 (by decide) (by decide) S.1 (pG1_cg rfl rfl (pG1_cg rfl rfl (pG1_cg rfl rfl (pG1_cg rfl rfl (pG1_cg rfl rfl g182_P1))))) (pG2_cg rfl rfl (pG2_cg rfl rfl (pG2_cg rfl rfl (pG2_cg rfl rfl (pG2_cg rfl rfl (pG2_cg rfl rfl (pG2_cg rfl rfl (pG2_cg rfl rfl g176_P2))))))))) kl_M_timeOf ks_M_timeOf kx_M_timeOf ki_M_timeOf ini_M hd_M_timeOf ⟨Nat.le_of_ble_eq_true rfl, Nat.le_of_ble_eq_true rfl⟩ rfl (Nat.le_of_ble_eq_true rfl) d_M_handed_404 ⟨Nat.le_refl _, Nat.le_refl _⟩) X Y hA S (by decide) (by decide) (fun v196 u H locs Y S s196 p196 => ?_)
                                                                                obtain ⟨I196, J196, B196, G196⟩ := u
                                                                                dsimp only at Y S s196 p196
                                                                                have b196 : B176 = B196 := (funext (fun j => s196.2.2 j (by simp))).symm
                                                                                subst b196
                                                                                have g196_P1 := p196
                                                                                refine lv_aload_n X.1 X.2.1 d_M_handed_407 rfl (lv_at hl 1 rfl) ?_
                                                                                refine r_geti (k := 4) X Y S (by decide) lk_now (gf_now _ _ _) rfl rfl d_M_handed_408 (fun z197 e197 l197 u197 => ?_)
                                                                                refine lv_i2l X.1 X.2.1 d_M_handed_411 rfl ?_
                                                                                refine t_anyl (fun v198 => ?_)
                                                                                refine r_ni (m_run (As := [.long v196, .long v198]) (rest := []) (n := 2) X Y hZ hA hml hl.1 (r_M_isFar l D E h q H.size I196 J196 B176 G196 v196 v198 S.1) kl_M_isFar ks_M_isFar kx_M_isFar ki_M_isFar ini_M hd_M_isFar ⟨Nat.le_of_ble_eq_true rfl, Nat.le_of_ble_eq_true rfl⟩ rfl (Nat.le_of_ble_eq_true rfl) d_M_handed_412 ⟨Nat.le_refl _, Nat.le_refl _⟩) X Y hA S (by decide) (by decide) (fun z199 u H locs Y S s199 p199 => ?_)
                                                                                obtain ⟨I199, J199, B199, G199⟩ := u
                                                                                dsimp only at Y S s199 p199
                                                                                have i199 : I196 = I199 := (funext (fun j => s199.2.1 j (by simp))).symm
                                                                                subst i199
                                                                                have b199 : B176 = B199 := (funext (fun j => s199.2.2 j (by simp))).symm
                                                                                subst b199
                                                                                obtain ⟨l199, u199⟩ := p199
                                                                                refine z_if_eq (tgt := 421) X.1 X.2.1 d_M_handed_415 (by decide) ⟨by omega, by omega⟩ (fun h200 => ?_) (fun h200 => ?_)
                                                                                · as_aux_lemma =>
                                                                                    have f201 : ce0 (B176 37) (B176 38) (B176 0) := (cnA_cg rfl rfl rfl (cnA_cg rfl rfl rfl (cnA_cg rfl rfl rfl (cnA_cg rfl rfl rfl (cnA_cg rfl rfl rfl (cnA_cg rfl rfl rfl (cnA_cg rfl rfl rfl (cnA_cg rfl rfl rfl (cnA_cg rfl rfl rfl (cnA_cg rfl rfl rfl a178)))))))))) (by omega)
                                                                                    have f202 : ce0 (B176 37) (B176 38) (B176 0) := (cnA_cg rfl rfl rfl (cnA_cg rfl rfl rfl (cnA_cg rfl rfl rfl (cnA_cg rfl rfl rfl (cnA_cg rfl rfl rfl (cnA_cg rfl rfl rfl (cnA_cg rfl rfl rfl (cnA_cg rfl rfl rfl (cnA_cg rfl rfl rfl (cnA_cg rfl rfl rfl a178)))))))))) (by omega)
                                                                                    refine lv_aload_n X.1 X.2.1 d_M_handed_421 rfl (lv_at hl 1 rfl) ?_
                                                                                    refine lv_aload_n X.1 X.2.1 d_M_handed_422 rfl (lv_at hl 1 rfl) ?_
                                                                                    refine lv_aload_n X.1 X.2.1 d_M_handed_423 rfl (lv_at hl 1 rfl) ?_
                                                                                    refine lv_iconst (v := iI 4) X.1 X.2.1 d_M_handed_424 (by decide) ?_
                                                                                    refine lv_iconst (v := iI 2) X.1 X.2.1 d_M_handed_425 (by decide) ?_
                                                                                    refine r_ni (m_run (As := [.int (iI 4), .int (iI 2)]) (rest := [.ref h, .ref h]) (n := 2) X Y hZ hA hml hl.1 (r_M_a l D E h q H.size I196 J199 B176 G199 4 (by decide) (by decide) 2 (by decide) (by decide) S.1) kl_M_a ks_M_a kx_M_a ki_M_a ini_M hd_M_a ⟨Nat.le_of_ble_eq_true rfl, Nat.le_of_ble_eq_true rfl⟩ rfl (Nat.le_of_ble_eq_true rfl) d_M_handed_426 ⟨Nat.le_refl _, Nat.le_refl _⟩) X Y hA S (by decide) (by decide) (fun z203 u H locs Y S s203 p203 => ?_)
                                                                                    obtain ⟨I203, J203, B203, G203⟩ := u
                                                                                    dsimp only at Y S s203 p203
                                                                                    have i203 : I196 = I203 := (funext (fun j => s203.2.1 j (by simp))).symm
                                                                                    subst i203
                                                                                    have b203 : B176 = B203 := (funext (fun j => s203.2.2 j (by simp))).symm
                                                                                    subst b203
                                                                                    have f204 : stT (B176 97) (B176 98) (B176 100) (B176 107) (B176 108) (B176 109) := (stT_cg rfl rfl rfl rfl rfl rfl (stT_cg rfl rfl rfl rfl rfl rfl (stT_cg rfl rfl rfl rfl rfl rfl (stT_cg rfl rfl rfl rfl rfl rfl (stT_cg rfl rfl rfl rfl rfl rfl (stT_cg rfl rfl rfl rfl rfl rfl (stT_cg rfl rfl rfl rfl rfl rfl (stT_cg rfl rfl rfl rfl rfl rfl f183))))))))
                                                                                    have f205 : htA x116 y116 (B176 0) := (htA_cg rfl (htA_cg rfl (htA_cg rfl (htA_cg rfl (htA_cg rfl (htA_cg rfl (htA_cg rfl (htA_cg rfl (htA_cg rfl (htA_cg rfl (htA_cg rfl (htA_cg (s176.2.2 0 (by decide)) (htA_cg rfl (htA_cg rfl (htA_cg rfl (htA_cg (s165.2.2 0 (by decide)) f163))))))))))))))))
                                                                                    obtain ⟨l203, u203, x203⟩ := p203
                                                                                    refine lv_aload_n X.1 X.2.1 d_M_handed_429 rfl (lv_at hl 1 rfl) ?_
                                                                                    refine lv_iconst (v := iI 4) X.1 X.2.1 d_M_handed_430 (by decide) ?_
                                                                                    refine lv_iconst (v := iI 2) X.1 X.2.1 d_M_handed_431 (by decide) ?_
                                                                                    refine r_ni (m_run (As := [.int (iI 4), .int (iI 2)]) (rest := [.int (iI z203), .ref h, .ref h]) (n := 2) X Y hZ hA hml hl.1 (r_M_b l D E h q H.size I196 J203 B176 G203 4 (by decide) (by decide) 2 (by decide) (by decide) S.1) kl_M_b ks_M_b kx_M_b ki_M_b ini_M hd_M_b ⟨Nat.le_of_ble_eq_true rfl, Nat.le_of_ble_eq_true rfl⟩ rfl (Nat.le_of_ble_eq_true rfl) d_M_handed_432 ⟨Nat.le_refl _, Nat.le_refl _⟩) X Y hA S (by decide) (by decide) (fun z206 u H locs Y S s206 p206 => ?_)
                                                                                    obtain ⟨I206, J206, B206, G206⟩ := u
                                                                                    dsimp only at Y S s206 p206
                                                                                    have i206 : I196 = I206 := (funext (fun j => s206.2.1 j (by simp))).symm
                                                                                    subst i206
                                                                                    have b206 : B176 = B206 := (funext (fun j => s206.2.2 j (by simp))).symm
                                                                                    subst b206
                                                                                    have f207 : cvA (B176 37) (B176 38) (B176 0) := (cvA_cg rfl rfl rfl (cvA_cg rfl rfl rfl (cvA_cg rfl rfl rfl (cvA_cg rfl rfl rfl (cvA_cg rfl rfl rfl (cvA_cg rfl rfl rfl (cvA_cg rfl rfl rfl (cvA_cg rfl rfl rfl (cvA_cg rfl rfl rfl (cvA_cg rfl rfl rfl (cvA_cg rfl rfl rfl (cvA_cg rfl rfl rfl f177))))))))))))
                                                                                    have f208 : cnA (B176 37) (B176 38) (B176 0) := (cnA_cg rfl rfl rfl (cnA_cg rfl rfl rfl (cnA_cg rfl rfl rfl (cnA_cg rfl rfl rfl (cnA_cg rfl rfl rfl (cnA_cg rfl rfl rfl (cnA_cg rfl rfl rfl (cnA_cg rfl rfl rfl (cnA_cg rfl rfl rfl (cnA_cg rfl rfl rfl (cnA_cg rfl rfl rfl (cnA_cg rfl rfl rfl a178))))))))))))
                                                                                    obtain ⟨l206, u206, x206⟩ := p206
                                                                                    have p209 : pr z203 z206 := by rw [x203, x206]; exact (pG2_cg rfl rfl (pG2_cg rfl rfl (pG2_cg rfl rfl (pG2_cg rfl rfl (pG2_cg rfl rfl (pG2_cg rfl rfl (pG2_cg rfl rfl (pG2_cg rfl rfl (pG2_cg rfl rfl (pG2_cg rfl rfl (pG2_cg rfl rfl (pG2_cg rfl rfl g176_P2)))))))))))) (16 * 4 + 2 : Int).toNat (by omega)
                                                                                    unfold pr at p209
                                                                                    refine r_ni (m_run (As := [.int (iI z203), .int (iI z206)]) (rest := [.ref h]) (n := 2) X Y hZ hA hml hl.1 (r_M_partsAt l D E h q H.size I196 J206 B176 G206 z203 (by omega) (by omega) z206 (by omega) (by omega) S.1 (pG1_cg rfl rfl (pG1_cg rfl rfl (pG1_cg rfl rfl g196_P1))) (pG2_cg rfl rfl (pG2_cg rfl rfl (pG2_cg rfl rfl (pG2_cg rfl rfl (pG2_cg rfl rfl (pG2_cg rfl rfl (pG2_cg rfl rfl (pG2_cg rfl rfl (pG2_cg rfl rfl (pG2_cg rfl rfl (pG2_cg rfl rfl (pG2_cg rfl rfl g176_P2)))))))))))) (by omega) (by omega)) kl_M_partsAt ks_M_partsAt kx_M_partsAt ki_M_partsAt ini_M hd_M_partsAt ⟨Nat.le_of_ble_eq_true rfl, Nat.le_of_ble_eq_true rfl⟩ rfl (Nat.le_of_ble_eq_true rfl) d_M_handed_435 ⟨Nat.le_refl _, Nat.le_refl _⟩) X Y hA S (by decide) (by decide) (fun z210 u H locs Y S s210 p210 => ?_)
                                                                                    obtain ⟨I210, J210, B210, G210⟩ := u
                                                                                    dsimp only at Y S s210 p210
                                                                                    obtain ⟨l210, u210, x210, st210, g210_P1, g210_P2, g210_TF⟩ := p210
                                                                                    have f211 : cvA (B210 37) (B210 38) (B210 0) := (cvA_cg (s210.2.2 0 (by decide)) rfl rfl (cvA_T g210_TF (by decide) (by decide) f207))
                                                                                    have f212 : cnA (B210 37) (B210 38) (B210 0) := (cnA_cg (s210.2.2 0 (by decide)) rfl rfl (cnA_T g210_TF (by decide) (by decide) f208))
                                                                                    refine lv_aload_n X.1 X.2.1 d_M_handed_438 rfl (lv_at hl 1 rfl) ?_
                                                                                    refine lv_bipush (v := iI 11) X.1 X.2.1 d_M_handed_439 (by decide) ?_
                                                                                    refine lv_iconst (v := iI 1) X.1 X.2.1 d_M_handed_441 (by decide) ?_
                                                                                    refine r_ni (m_run (As := [.int (iI 11), .int (iI 1)]) (rest := [.int (iI z210), .ref h]) (n := 2) X Y hZ hA hml hl.1 (r_M_b l D E h q H.size I210 J210 B210 G210 11 (by decide) (by decide) 1 (by decide) (by decide) S.1) kl_M_b ks_M_b kx_M_b ki_M_b ini_M hd_M_b ⟨Nat.le_of_ble_eq_true rfl, Nat.le_of_ble_eq_true rfl⟩ rfl (Nat.le_of_ble_eq_true rfl) d_M_handed_442 ⟨Nat.le_refl _, Nat.le_refl _⟩) X Y hA S (by decide) (by decide) (fun z213 u H locs Y S s213 p213 => ?_)
                                                                                    obtain ⟨I213, J213, B213, G213⟩ := u
                                                                                    dsimp only at Y S s213 p213
                                                                                    have i213 : I210 = I213 := (funext (fun j => s213.2.1 j (by simp))).symm
                                                                                    subst i213
                                                                                    have b213 : B210 = B213 := (funext (fun j => s213.2.2 j (by simp))).symm
                                                                                    subst b213
                                                                                    obtain ⟨l213, u213, x213⟩ := p213
                                                                                    have p214 : pr z210 z213 := by rw [x210, x213]; exact (pG2_cg rfl rfl g210_P2) (16 * 11 + 1 : Int).toNat (by omega)
                                                                                    unfold pr at p214
                                                                                    refine lv_bipush (v := iI 48) X.1 X.2.1 d_M_handed_445 (by decide) ?_
                                                                                    refine r_ni (m_run (As := [.int (iI z210), .int (iI z213), .int (iI 48)]) (rest := []) (n := 3) X Y hZ hA hml hl.1 (r_M_element l D E h q H.size I210 J213 B210 G213 z210 (by omega) (by omega) z213 (by omega) (by omega) 48 (by decide) (by decide) S.1 (B210 0) rfl (pG1_cg rfl rfl g210_P1) (by omega) (by omega)) kl_M_element ks_M_element kx_M_element ki_M_element ini_M hd_M_element ⟨Nat.le_of_ble_eq_true rfl, Nat.le_of_ble_eq_true rfl⟩ rfl (Nat.le_of_ble_eq_true rfl) d_M_handed_447 ⟨Nat.le_refl _, Nat.le_refl _⟩) X Y hA S (by decide) (by decide) (fun z215 u H locs Y S s215 p215 => ?_)
                                                                                    obtain ⟨I215, J215, B215, G215⟩ := u
                                                                                    dsimp only at Y S s215 p215
                                                                                    have b215 : B210 = B215 := (funext (fun j => s215.2.2 j (by simp))).symm
                                                                                    subst b215
                                                                                    have f216 : stT (B210 97) (B210 98) (B210 100) (B210 107) (B210 108) (B210 109) := (stT_cg rfl rfl rfl rfl rfl rfl (stT_cg rfl rfl rfl rfl rfl rfl (stT_cg (s210.2.2 97 (by decide)) (s210.2.2 98 (by decide)) (s210.2.2 100 (by decide)) (s210.2.2 107 (by decide)) (s210.2.2 108 (by decide)) (s210.2.2 109 (by decide)) (stT_cg rfl rfl rfl rfl rfl rfl f204))))
                                                                                    obtain ⟨l215, u215, x215, st215⟩ := p215
                                                                                    obtain ⟨x217, y217, ex217, ey217, lx217, ly217, uy217, dy217, iy217, ky217⟩ := st215
                                                                                    refine lv_pop X.1 X.2.1 d_M_handed_450 rfl ?_
                                                                                    refine lv_aload_n X.1 X.2.1 d_M_handed_451 rfl (lv_at hl 1 rfl) ?_
                                                                                    refine r_get0 X Y (by decide) lk_behind (gf_behind _ _ _) rfl ey217 d_M_handed_452 ?_
                                                                                    refine lv_aload_n X.1 X.2.1 d_M_handed_455 rfl (lv_at hl 1 rfl) ?_
                                                                                    refine r_get0 X Y (by decide) lk_inside (gf_inside _ _ _) rfl ex217 d_M_handed_456 ?_
                                                                                    refine z_isub X.1 X.2.1 d_M_handed_459 ?_
                                                                                    refine lv_bipush (v := iI 40) X.1 X.2.1 d_M_handed_460 (by decide) ?_
                                                                                    refine z_icmp_le (tgt := 468) X.1 X.2.1 d_M_handed_462 (by decide) ⟨by omega, by omega⟩ ⟨by decide, by decide⟩ (fun h218 => ?_) (fun h218 => ?_)
                                                                                    · as_aux_lemma =>
                                                                                        have f219 : ceA (B210 37) (B210 38) (B210 0) := ceA_cg (s210.2.2 0 (by decide)) rfl rfl (ceA_T g210_TF (by decide) (by decide) (ce_fin (ce0_cg rfl rfl rfl (ce0_cg rfl rfl rfl f202)) x203 x206 (st210 (by rw [x203, x206]; exact ((ce0_cg rfl rfl rfl (ce0_cg rfl rfl rfl f202))).1)) x210 x213 (s210.2.2 0 (by decide)) x215 iy217 (by omega)))
                                                                                        have f220 : ceA (B210 37) (B210 38) (B210 0) := ceA_cg (s210.2.2 0 (by decide)) rfl rfl (ceA_T g210_TF (by decide) (by decide) (ce_fin (ce0_cg rfl rfl rfl (ce0_cg rfl rfl rfl f202)) x203 x206 (st210 (by rw [x203, x206]; exact ((ce0_cg rfl rfl rfl (ce0_cg rfl rfl rfl f202))).1)) x210 x213 (s210.2.2 0 (by decide)) x215 iy217 (by omega)))
                                                                                        refine lv_aload_n X.1 X.2.1 d_M_handed_468 rfl (lv_at hl 1 rfl) ?_
                                                                                        refine lv_iconst (v := iI 4) X.1 X.2.1 d_M_handed_469 (by decide) ?_
                                                                                        refine lv_iconst (v := iI 0) X.1 X.2.1 d_M_handed_470 (by decide) ?_
                                                                                        refine lv_aload_n X.1 X.2.1 d_M_handed_471 rfl (lv_at hl 1 rfl) ?_
                                                                                        refine m_get X Y 59 (by decide) lk_sub (gf_sub _ _ _) rfl d_M_handed_472 ?_
                                                                                        refine r_ni (m_run (As := [.int (iI 4), .int (iI 0), .ref ((q 59))]) (rest := []) (n := 3) X Y hZ hA hml hl.1 (r_M_keyIn_sub l D E h q H.size I215 J215 B210 G215 4 (by decide) (by decide) 0 (by decide) (by decide) S.1 (show pG1 I215 from ⟨x217, y217, ex217, ey217, by omega, by omega, by omega, by omega⟩) (pG2_cg rfl rfl (pG2_cg rfl rfl g210_P2))) kl_M_keyIn ks_M_keyIn kx_M_keyIn ki_M_keyIn ini_M hd_M_keyIn ⟨Nat.le_of_ble_eq_true rfl, Nat.le_of_ble_eq_true rfl⟩ rfl (Nat.le_of_ble_eq_true rfl) d_M_handed_475 ⟨Nat.le_refl _, Nat.le_refl _⟩) X Y hA S (by decide) (by decide) (fun z221 u H locs Y S s221 p221 => ?_)
                                                                                        obtain ⟨I221, J221, B221, G221⟩ := u
                                                                                        dsimp only at Y S s221 p221
                                                                                        obtain ⟨l221, u221, x221, g221_P1, g221_P2, g221_TF⟩ := p221
                                                                                        have f222 : cvA (B221 37) (B221 38) (B221 0) := (cvA_cg (s221.2.2 0 (by decide)) rfl rfl (cvA_T g221_TF (by decide) (by decide) (cvA_cg rfl rfl rfl (cvA_cg rfl rfl rfl f211))))
                                                                                        have f223 : cnA (B221 37) (B221 38) (B221 0) := (cnA_cg (s221.2.2 0 (by decide)) rfl rfl (cnA_T g221_TF (by decide) (by decide) (cnA_cg rfl rfl rfl (cnA_cg rfl rfl rfl f212))))
                                                                                        have f224 : ceA (B221 37) (B221 38) (B221 0) := (ceA_cg (s221.2.2 0 (by decide)) rfl rfl (ceA_T g221_TF (by decide) (by decide) f220))
                                                                                        refine lv_istore (lv' := [(7, .int (iI z221)), (6, .int (iI z161)), (0, .ref h), (1, .int (iI a1)), (2, .int (iI a2)), (4, .int (iI x116)), (5, .int (iI y116))]) X.1 X.2.1 d_M_handed_478 hl (by decide) rfl (fun ls hl => ?_)
                                                                                        refine lv_iload X.1 X.2.1 d_M_handed_480 (lv_at hl 0 rfl) ?_
                                                                                        refine z_if_ne (tgt := 488) X.1 X.2.1 d_M_handed_482 (by decide) ⟨by omega, by omega⟩ (fun h225 => ?_) (fun h225 => ?_)
                                                                                        · as_aux_lemma =>
                                                                                            refine lv_iconst (v := iI 0) X.1 X.2.1 d_M_handed_488 (by decide) ?_
                                                                                            have J227 : ∀ (n229 : Nat) (z226 : Int) (H : Heap) (locs : List Loc) (ls : Array Slot), (8 - z226).toNat = n229 → (0 ≤ z226) → (z226 ≤ 8) → mH D E (mA E h q sz) s.heap h q I221 J221 B221 G221 H locs → rS [2, 8, 14, 18, 39, 40, 42, 73, 74] [0, 5, 6, 7, 9, 10, 11, 12, 13, 15, 16, 17, 19, 20, 21, 22, 23, 34, 37, 38, 58, 59, 97, 98, 99, 100, 101, 102, 107, 108, 109] I B I221 B221 → lv_has ls 12 [(0, .ref h), (2, .int (iI a2)), (4, .int (iI x116)), (5, .int (iI y116)), (7, .int (iI z221)), (8, .int (iI z226))] → W p l e (mR 45 2045) s m AV below meth c H locs 0 0 QQ (F0 m 491 ls []) := by
                                                                                              as_aux_lemma =>
                                                                                                intro n229
                                                                                                induction n229 using Nat.strongRecOn with
                                                                                                | ind n229 ih228 =>
                                                                                                  intro z226 H locs ls hm230 l226 u226 Y S hl
                                                                                                  refine lv_iload X.1 X.2.1 d_M_handed_491 (lv_at hl 5 rfl) ?_
                                                                                                  refine lv_bipush (v := iI 8) X.1 X.2.1 d_M_handed_493 (by decide) ?_
                                                                                                  have J231 : ∀  (H : Heap) (locs : List Loc) (ls : Array Slot), mH D E (mA E h q sz) s.heap h q I221 J221 B221 G221 H locs → rS [2, 8, 14, 18, 39, 40, 42, 73, 74] [0, 5, 6, 7, 9, 10, 11, 12, 13, 15, 16, 17, 19, 20, 21, 22, 23, 34, 37, 38, 58, 59, 97, 98, 99, 100, 101, 102, 107, 108, 109] I B I221 B221 → lv_has ls 12 [(0, .ref h), (2, .int (iI a2)), (4, .int (iI x116)), (5, .int (iI y116)), (7, .int (iI z221)), (8, .int (iI z226))] → W p l e (mR 45 2045) s m AV below meth c H locs 0 0 QQ (F0 m 519 ls []) := by
                                                                                                    as_aux_lemma =>
                                                                                                      intro  H locs ls  Y S hl
                                                                                                      refine lv_iload X.1 X.2.1 d_M_handed_519 (lv_at hl 5 rfl) ?_
                                                                                                      refine lv_bipush (v := iI 8) X.1 X.2.1 d_M_handed_521 (by decide) ?_
                                                                                                      refine z_icmp_ne (tgt := 529) X.1 X.2.1 d_M_handed_523 (by decide) ⟨by omega, by omega⟩ ⟨by decide, by decide⟩ (fun h235 => ?_) (fun h235 => ?_)
                                                                                                      · as_aux_lemma =>
                                                                                                          refine lv_bipush (v := iI 8) X.1 X.2.1 d_M_handed_529 (by decide) ?_
                                                                                                          refine lv_iload_n X.1 X.2.1 d_M_handed_531 rfl (lv_at hl 1 rfl) ?_
                                                                                                          refine z_imul X.1 X.2.1 d_M_handed_532 ?_
                                                                                                          refine lv_iload X.1 X.2.1 d_M_handed_533 (lv_at hl 5 rfl) ?_
                                                                                                          refine z_iadd X.1 X.2.1 d_M_handed_535 ?_
                                                                                                          refine lv_istore (lv' := [(9, .int (iI ((8 * a2) + z226))), (0, .ref h), (2, .int (iI a2)), (4, .int (iI x116)), (5, .int (iI y116)), (7, .int (iI z221)), (8, .int (iI z226))]) X.1 X.2.1 d_M_handed_536 hl (by decide) rfl (fun ls hl => ?_)
                                                                                                          refine lv_aload_n X.1 X.2.1 d_M_handed_538 rfl (lv_at hl 1 rfl) ?_
                                                                                                          refine m_get X Y 97 (by decide) lk_isTicket (gf_isTicket _ _ _) rfl d_M_handed_539 ?_
                                                                                                          refine lv_iload X.1 X.2.1 d_M_handed_542 (lv_at hl 0 rfl) ?_
                                                                                                          refine lv_iconst (v := iI 1) X.1 X.2.1 d_M_handed_544 (by decide) ?_
                                                                                                          refine r_zast X Y S (aw_isTicket _ _ _ _ _ _ _) (sw_isTicket _ _ _ _ _ _ _) rfl ⟨by omega, by omega⟩ (by omega) (show (8 * a2) + z226 < ((32 : Nat) : Int) by omega) (by omega) (by decide) d_M_handed_545 (fun B236 H locs Y S w236 => ?_)
                                                                                                          have f237 : stX ((8 * a2) + z226) (B236 97) (B236 98) (B236 100) (B236 107) (B236 108) (B236 109) := by rw [w236.1, w236.2 98 (by decide), w236.2 100 (by decide), w236.2 107 (by decide), w236.2 108 (by decide), w236.2 109 (by decide)]; exact stX_97 (show (((8 * a2) + z226).toNat : Int) = (8 * a2) + z226 by omega) (stX_of (stT_cg (s221.2.2 97 (by decide)) (s221.2.2 98 (by decide)) (s221.2.2 100 (by decide)) (s221.2.2 107 (by decide)) (s221.2.2 108 (by decide)) (s221.2.2 109 (by decide)) f216))
                                                                                                          refine lv_aload_n X.1 X.2.1 d_M_handed_546 rfl (lv_at hl 1 rfl) ?_
                                                                                                          refine m_get X Y 102 (by decide) lk_ticketTypes (gf_ticketTypes _ _ _) rfl d_M_handed_547 ?_
                                                                                                          refine lv_iload X.1 X.2.1 d_M_handed_550 (lv_at hl 0 rfl) ?_
                                                                                                          refine lv_iload X.1 X.2.1 d_M_handed_552 (lv_at hl 5 rfl) ?_
                                                                                                          refine r_iast X Y S (aw_ticketTypes _ _ _ _ _ _ _) (sw_ticketTypes _ _ _ _ _ _ _) rfl ⟨(show (0 : Int) ≤ z221 by omega), (show z221 ≤ (18 : Int) by omega)⟩ ⟨by omega, by omega⟩ (by omega) (show (8 * a2) + z226 < ((32 : Nat) : Int) by omega) (by omega) (by decide) d_M_handed_554 (fun B238 H locs Y S w238 => ?_)
                                                                                                          refine lv_iconst (v := iI 0) X.1 X.2.1 d_M_handed_555 (by decide) ?_
                                                                                                          have J248 : ∀ (n250 : Nat) (z240 : Int) (I239 : Nat → Int32) (J239 : Nat → Int64) (B239 : Nat → Nat → Int32) (G239 : Nat → Nat → Int64) (H : Heap) (locs : List Loc) (ls : Array Slot), (32 - z240).toNat = n250 → (0 ≤ z240) → (z240 ≤ 32) → (ceA (B239 37) (B239 38) (B239 0)) → (cnA (B239 37) (B239 38) (B239 0)) → (cvA (B239 37) (B239 38) (B239 0)) → (stX ((8 * a2) + z226) (B239 97) (B239 98) (B239 100) (B239 107) (B239 108) (B239 109)) → (htA x116 y116 (B239 0)) → (pG1 I239) → (pG2 (B239 37) (B239 38)) → mH D E (mA E h q sz) s.heap h q I239 J239 B239 G239 H locs → rS [2, 8, 14, 18, 39, 40, 42, 73, 74] [0, 5, 6, 7, 9, 10, 11, 12, 13, 15, 16, 17, 19, 20, 21, 22, 23, 34, 37, 38, 58, 59, 97, 98, 99, 100, 101, 102, 107, 108, 109] I B I239 B239 → lv_has ls 12 [(0, .ref h), (4, .int (iI x116)), (5, .int (iI y116)), (8, .int (iI z226)), (9, .int (iI ((8 * a2) + z226))), (10, .int (iI z240))] → W p l e (mR 45 2045) s m AV below meth c H locs 0 0 QQ (F0 m 558 ls []) := by
                                                                                                            as_aux_lemma =>
                                                                                                              intro n250
                                                                                                              induction n250 using Nat.strongRecOn with
                                                                                                              | ind n250 ih249 =>
                                                                                                                intro z240 I239 J239 B239 G239 H locs ls hm251 l240 u240 f241 f242 f243 f244 f245 f246 f247 Y S hl
                                                                                                                refine lv_iload X.1 X.2.1 d_M_handed_558 (lv_at hl 5 rfl) ?_
                                                                                                                refine lv_bipush (v := iI 32) X.1 X.2.1 d_M_handed_560 (by decide) ?_
                                                                                                                refine z_icmp_ge (tgt := 591) X.1 X.2.1 d_M_handed_562 (by decide) ⟨by omega, by omega⟩ ⟨by decide, by decide⟩ (fun h252 => ?_) (fun h252 => ?_)
                                                                                                                · as_aux_lemma =>
                                                                                                                    refine lv_aload_n X.1 X.2.1 d_M_handed_591 rfl (lv_at hl 0 rfl) ?_
                                                                                                                    refine m_get X Y 101 (by decide) lk_ticketFlags (gf_ticketFlags _ _ _) rfl d_M_handed_592 ?_
                                                                                                                    refine lv_iload X.1 X.2.1 d_M_handed_595 (lv_at hl 4 rfl) ?_
                                                                                                                    refine lv_aload_n X.1 X.2.1 d_M_handed_597 rfl (lv_at hl 0 rfl) ?_
                                                                                                                    refine lv_iconst (v := iI 4) X.1 X.2.1 d_M_handed_598 (by decide) ?_
                                                                                                                    refine lv_iconst (v := iI 3) X.1 X.2.1 d_M_handed_599 (by decide) ?_
                                                                                                                    refine r_ni (m_run (As := [.int (iI 4), .int (iI 3)]) (rest := [.int (iI ((8 * a2) + z226)), .ref ((q 101))]) (n := 2) X Y hZ hA hml hl.1 (r_M_flagsAt l D E h q H.size I239 J239 B239 G239 4 (by decide) (by decide) 3 (by decide) (by decide) S.1 f246 f247) kl_M_flagsAt ks_M_flagsAt kx_M_flagsAt ki_M_flagsAt ini_M hd_M_flagsAt ⟨Nat.le_of_ble_eq_true rfl, Nat.le_of_ble_eq_true rfl⟩ rfl (Nat.le_of_ble_eq_true rfl) d_M_handed_600 ⟨Nat.le_refl _, Nat.le_refl _⟩) X Y hA S (by decide) (by decide) (fun z253 u H locs Y S s253 p253 => ?_)
                                                                                                                    obtain ⟨I253, J253, B253, G253⟩ := u
                                                                                                                    dsimp only at Y S s253 p253
                                                                                                                    have b253 : B239 = B253 := (funext (fun j => s253.2.2 j (by simp))).symm
                                                                                                                    subst b253
                                                                                                                    obtain ⟨l253, u253, g253_P1⟩ := p253
                                                                                                                    refine r_iast X Y S (aw_ticketFlags _ _ _ _ _ _ _) (sw_ticketFlags _ _ _ _ _ _ _) rfl ⟨(show ((-2147483648) : Int) ≤ z253 by omega), (show z253 ≤ (2147483647 : Int) by omega)⟩ ⟨by omega, by omega⟩ (by omega) (show (8 * a2) + z226 < ((32 : Nat) : Int) by omega) (by omega) (by decide) d_M_handed_603 (fun B254 H locs Y S w254 => ?_)
                                                                                                                    refine lv_aload_n X.1 X.2.1 d_M_handed_604 rfl (lv_at hl 0 rfl) ?_
                                                                                                                    refine m_get X Y 103 (by decide) lk_authTimes (gf_authTimes _ _ _) rfl d_M_handed_605 ?_
                                                                                                                    refine lv_iload X.1 X.2.1 d_M_handed_608 (lv_at hl 4 rfl) ?_
                                                                                                                    refine lv_aload_n X.1 X.2.1 d_M_handed_610 rfl (lv_at hl 0 rfl) ?_
                                                                                                                    refine lv_iconst (v := iI 4) X.1 X.2.1 d_M_handed_611 (by decide) ?_
                                                                                                                    refine lv_iconst (v := iI 4) X.1 X.2.1 d_M_handed_612 (by decide) ?_
                                                                                                                    refine r_nl (m_run (As := [.int (iI 4), .int (iI 4)]) (rest := [.int (iI ((8 * a2) + z226)), .ref ((q 103))]) (n := 2) X Y hZ hA hml hl.1 (r_M_timeOf l D E h q H.size I253 J253 B254 G253 4 (by decide) (by decide) 4 (by decide) (by decide) S.1 (pG1_cg rfl rfl g253_P1) (pG2_cg (w254.2 37 (by decide)) (w254.2 38 (by decide)) (pG2_cg rfl rfl f247))) kl_M_timeOf ks_M_timeOf kx_M_timeOf ki_M_timeOf ini_M hd_M_timeOf ⟨Nat.le_of_ble_eq_true rfl, Nat.le_of_ble_eq_true rfl⟩ rfl (Nat.le_of_ble_eq_true rfl) d_M_handed_613 ⟨Nat.le_refl _, Nat.le_refl _⟩) X Y hA S (by decide) (by decide) (fun v255 u H locs Y S s255 p255 => ?_)
                                                                                                                    obtain ⟨I255, J255, B255, G255⟩ := u
                                                                                                                    dsimp only at Y S s255 p255
                                                                                                                    have b255 : B254 = B255 := (funext (fun j => s255.2.2 j (by simp))).symm
                                                                                                                    subst b255
                                                                                                                    have g255_P1 := p255
                                                                                                                    refine r_last X Y (aw_authTimes _ _ _ _ _ _ _) (sw_authTimes _ _ _ _ _ _ _) (by omega) (show (8 * a2) + z226 < ((32 : Nat) : Int) by omega) (by omega) d_M_handed_616 (fun G256 H locs Y => ?_)
                                                                                                                    refine lv_aload_n X.1 X.2.1 d_M_handed_617 rfl (lv_at hl 0 rfl) ?_
                                                                                                                    refine m_get X Y 104 (by decide) lk_startTimes (gf_startTimes _ _ _) rfl d_M_handed_618 ?_
                                                                                                                    refine lv_iload X.1 X.2.1 d_M_handed_621 (lv_at hl 4 rfl) ?_
                                                                                                                    refine lv_aload_n X.1 X.2.1 d_M_handed_623 rfl (lv_at hl 0 rfl) ?_
                                                                                                                    refine lv_iconst (v := iI 4) X.1 X.2.1 d_M_handed_624 (by decide) ?_
                                                                                                                    refine lv_iconst (v := iI 5) X.1 X.2.1 d_M_handed_625 (by decide) ?_
                                                                                                                    refine r_ni (m_run (As := [.int (iI 4), .int (iI 5)]) (rest := [.int (iI ((8 * a2) + z226)), .ref ((q 104))]) (n := 2) X Y hZ hA hml hl.1 (r_M_has l D E h q H.size I255 J255 B254 G256 4 (by decide) (by decide) 5 (by decide) (by decide) S.1) kl_M_has ks_M_has kx_M_has ki_M_has ini_M hd_M_has ⟨Nat.le_of_ble_eq_true rfl, Nat.le_of_ble_eq_true rfl⟩ rfl (Nat.le_of_ble_eq_true rfl) d_M_handed_626 ⟨Nat.le_refl _, Nat.le_refl _⟩) X Y hA S (by decide) (by decide) (fun z257 u H locs Y S s257 p257 => ?_)
                                                                                                                    obtain ⟨I257, J257, B257, G257⟩ := u
                                                                                                                    dsimp only at Y S s257 p257
                                                                                                                    have i257 : I255 = I257 := (funext (fun j => s257.2.1 j (by simp))).symm
                                                                                                                    subst i257
                                                                                                                    have b257 : B254 = B257 := (funext (fun j => s257.2.2 j (by simp))).symm
                                                                                                                    subst b257
                                                                                                                    have f258 : stX ((8 * a2) + z226) (B254 97) (B254 98) (B254 100) (B254 107) (B254 108) (B254 109) := (stX_cg rfl rfl rfl rfl rfl rfl (stX_cg rfl rfl rfl rfl rfl rfl (stX_cg (w254.2 97 (by decide)) (w254.2 98 (by decide)) (w254.2 100 (by decide)) (w254.2 107 (by decide)) (w254.2 108 (by decide)) (w254.2 109 (by decide)) (stX_cg rfl rfl rfl rfl rfl rfl f244))))
                                                                                                                    obtain ⟨l257, u257, x257⟩ := p257
                                                                                                                    have J268 : ∀ (v260 : Int64) (I259 : Nat → Int32) (J259 : Nat → Int64) (B259 : Nat → Nat → Int32) (G259 : Nat → Nat → Int64) (H : Heap) (locs : List Loc) (ls : Array Slot), (ceA (B259 37) (B259 38) (B259 0)) → (cnA (B259 37) (B259 38) (B259 0)) → (cvA (B259 37) (B259 38) (B259 0)) → (stX ((8 * a2) + z226) (B259 97) (B259 98) (B259 100) (B259 107) (B259 108) (B259 109)) → (htA x116 y116 (B259 0)) → (pG1 I259) → (pG2 (B259 37) (B259 38)) → mH D E (mA E h q sz) s.heap h q I259 J259 B259 G259 H locs → rS [2, 8, 14, 18, 39, 40, 42, 73, 74] [0, 5, 6, 7, 9, 10, 11, 12, 13, 15, 16, 17, 19, 20, 21, 22, 23, 34, 37, 38, 58, 59, 97, 98, 99, 100, 101, 102, 107, 108, 109] I B I259 B259 → lv_has ls 12 [(0, .ref h), (4, .int (iI x116)), (5, .int (iI y116)), (8, .int (iI z226)), (9, .int (iI ((8 * a2) + z226)))] → W p l e (mR 45 2045) s m AV below meth c H locs 0 0 QQ (F0 m 644 ls [.long v260, .int (iI ((8 * a2) + z226)), .ref ((q 104))]) := by
                                                                                                                      as_aux_lemma =>
                                                                                                                        intro v260 I259 J259 B259 G259 H locs ls f261 f262 f263 f264 f265 f266 f267 Y S hl
                                                                                                                        refine r_last X Y (aw_startTimes _ _ _ _ _ _ _) (sw_startTimes _ _ _ _ _ _ _) (by omega) (show (8 * a2) + z226 < ((32 : Nat) : Int) by omega) (by omega) d_M_handed_644 (fun G272 H locs Y => ?_)
                                                                                                                        refine lv_aload_n X.1 X.2.1 d_M_handed_645 rfl (lv_at hl 0 rfl) ?_
                                                                                                                        refine m_get X Y 105 (by decide) lk_endTimes (gf_endTimes _ _ _) rfl d_M_handed_646 ?_
                                                                                                                        refine lv_iload X.1 X.2.1 d_M_handed_649 (lv_at hl 4 rfl) ?_
                                                                                                                        refine lv_aload_n X.1 X.2.1 d_M_handed_651 rfl (lv_at hl 0 rfl) ?_
                                                                                                                        refine lv_iconst (v := iI 4) X.1 X.2.1 d_M_handed_652 (by decide) ?_
                                                                                                                        refine lv_bipush (v := iI 6) X.1 X.2.1 d_M_handed_653 (by decide) ?_
                                                                                                                        refine r_nl (m_run (As := [.int (iI 4), .int (iI 6)]) (rest := [.int (iI ((8 * a2) + z226)), .ref ((q 105))]) (n := 2) X Y hZ hA hml hl.1 (r_M_timeOf l D E h q H.size I259 J259 B259 G272 4 (by decide) (by decide) 6 (by decide) (by decide) S.1 f266 f267) kl_M_timeOf ks_M_timeOf kx_M_timeOf ki_M_timeOf ini_M hd_M_timeOf ⟨Nat.le_of_ble_eq_true rfl, Nat.le_of_ble_eq_true rfl⟩ rfl (Nat.le_of_ble_eq_true rfl) d_M_handed_655 ⟨Nat.le_refl _, Nat.le_refl _⟩) X Y hA S (by decide) (by decide) (fun v273 u H locs Y S s273 p273 => ?_)
                                                                                                                        obtain ⟨I273, J273, B273, G273⟩ := u
                                                                                                                        dsimp only at Y S s273 p273
                                                                                                                        have b273 : B259 = B273 := (funext (fun j => s273.2.2 j (by simp))).symm
                                                                                                                        subst b273
                                                                                                                        have g273_P1 := p273
                                                                                                                        refine r_last X Y (aw_endTimes _ _ _ _ _ _ _) (sw_endTimes _ _ _ _ _ _ _) (by omega) (show (8 * a2) + z226 < ((32 : Nat) : Int) by omega) (by omega) d_M_handed_658 (fun G274 H locs Y => ?_)
                                                                                                                        refine lv_aload_n X.1 X.2.1 d_M_handed_659 rfl (lv_at hl 0 rfl) ?_
                                                                                                                        refine m_get X Y 106 (by decide) lk_renewTimes (gf_renewTimes _ _ _) rfl d_M_handed_660 ?_
                                                                                                                        refine lv_iload X.1 X.2.1 d_M_handed_663 (lv_at hl 4 rfl) ?_
                                                                                                                        refine lv_aload_n X.1 X.2.1 d_M_handed_665 rfl (lv_at hl 0 rfl) ?_
                                                                                                                        refine lv_iconst (v := iI 4) X.1 X.2.1 d_M_handed_666 (by decide) ?_
                                                                                                                        refine lv_bipush (v := iI 7) X.1 X.2.1 d_M_handed_667 (by decide) ?_
                                                                                                                        refine r_ni (m_run (As := [.int (iI 4), .int (iI 7)]) (rest := [.int (iI ((8 * a2) + z226)), .ref ((q 106))]) (n := 2) X Y hZ hA hml hl.1 (r_M_has l D E h q H.size I273 J273 B259 G274 4 (by decide) (by decide) 7 (by decide) (by decide) S.1) kl_M_has ks_M_has kx_M_has ki_M_has ini_M hd_M_has ⟨Nat.le_of_ble_eq_true rfl, Nat.le_of_ble_eq_true rfl⟩ rfl (Nat.le_of_ble_eq_true rfl) d_M_handed_669 ⟨Nat.le_refl _, Nat.le_refl _⟩) X Y hA S (by decide) (by decide) (fun z275 u H locs Y S s275 p275 => ?_)
                                                                                                                        obtain ⟨I275, J275, B275, G275⟩ := u
                                                                                                                        dsimp only at Y S s275 p275
                                                                                                                        have i275 : I273 = I275 := (funext (fun j => s275.2.1 j (by simp))).symm
                                                                                                                        subst i275
                                                                                                                        have b275 : B259 = B275 := (funext (fun j => s275.2.2 j (by simp))).symm
                                                                                                                        subst b275
                                                                                                                        obtain ⟨l275, u275, x275⟩ := p275
                                                                                                                        have J285 : ∀ (v277 : Int64) (I276 : Nat → Int32) (J276 : Nat → Int64) (B276 : Nat → Nat → Int32) (G276 : Nat → Nat → Int64) (H : Heap) (locs : List Loc) (ls : Array Slot), (ceA (B276 37) (B276 38) (B276 0)) → (cnA (B276 37) (B276 38) (B276 0)) → (cvA (B276 37) (B276 38) (B276 0)) → (stX ((8 * a2) + z226) (B276 97) (B276 98) (B276 100) (B276 107) (B276 108) (B276 109)) → (htA x116 y116 (B276 0)) → (pG1 I276) → (pG2 (B276 37) (B276 38)) → mH D E (mA E h q sz) s.heap h q I276 J276 B276 G276 H locs → rS [2, 8, 14, 18, 39, 40, 42, 73, 74] [0, 5, 6, 7, 9, 10, 11, 12, 13, 15, 16, 17, 19, 20, 21, 22, 23, 34, 37, 38, 58, 59, 97, 98, 99, 100, 101, 102, 107, 108, 109] I B I276 B276 → lv_has ls 12 [(0, .ref h), (4, .int (iI x116)), (5, .int (iI y116)), (8, .int (iI z226)), (9, .int (iI ((8 * a2) + z226)))] → W p l e (mR 45 2045) s m AV below meth c H locs 0 0 QQ (F0 m 688 ls [.long v277, .int (iI ((8 * a2) + z226)), .ref ((q 106))]) := by
                                                                                                                          as_aux_lemma =>
                                                                                                                            intro v277 I276 J276 B276 G276 H locs ls f278 f279 f280 f281 f282 f283 f284 Y S hl
                                                                                                                            refine r_last X Y (aw_renewTimes _ _ _ _ _ _ _) (sw_renewTimes _ _ _ _ _ _ _) (by omega) (show (8 * a2) + z226 < ((32 : Nat) : Int) by omega) (by omega) d_M_handed_688 (fun G289 H locs Y => ?_)
                                                                                                                            refine lv_aload_n X.1 X.2.1 d_M_handed_689 rfl (lv_at hl 0 rfl) ?_
                                                                                                                            refine m_get X Y 100 (by decide) lk_ticketSizes (gf_ticketSizes _ _ _) rfl d_M_handed_690 ?_
                                                                                                                            refine lv_iload X.1 X.2.1 d_M_handed_693 (lv_at hl 4 rfl) ?_
                                                                                                                            refine lv_iload X.1 X.2.1 d_M_handed_695 (lv_at hl 2 rfl) ?_
                                                                                                                            refine lv_iload X.1 X.2.1 d_M_handed_697 (lv_at hl 1 rfl) ?_
                                                                                                                            refine z_isub X.1 X.2.1 d_M_handed_699 ?_
                                                                                                                            have zh := (f282).2
                                                                                                                            refine r_iast X Y S (aw_ticketSizes _ _ _ _ _ _ _) (sw_ticketSizes _ _ _ _ _ _ _) rfl ⟨(show (0 : Int) ≤ y116 - x116 by omega), (show y116 - x116 ≤ (4200 : Int) by omega)⟩ ⟨by omega, by omega⟩ (by omega) (show (8 * a2) + z226 < ((32 : Nat) : Int) by omega) (by omega) (by decide) d_M_handed_700 (fun B290 H locs Y S w290 => ?_)
                                                                                                                            have f291 : stX ((8 * a2) + z226) (B290 97) (B290 98) (B290 100) (B290 107) (B290 108) (B290 109) := by rw [w290.1, w290.2 97 (by decide), w290.2 98 (by decide), w290.2 107 (by decide), w290.2 108 (by decide), w290.2 109 (by decide)]; exact stX_100 (show (((8 * a2) + z226).toNat : Int) = (8 * a2) + z226 by omega) f281
                                                                                                                            have f292 : yeq (B290 100) ((8 * a2) + z226).toNat (y116 - x116) := by unfold yeq; rw [w290.1, pk_us, iI_toInt ⟨by omega, by omega⟩]
                                                                                                                            refine lv_iconst (v := iI 0) X.1 X.2.1 d_M_handed_701 (by decide) ?_
                                                                                                                            have J305 : ∀ (n307 : Nat) (z294 : Int) (I293 : Nat → Int32) (J293 : Nat → Int64) (B293 : Nat → Nat → Int32) (G293 : Nat → Nat → Int64) (H : Heap) (locs : List Loc) (ls : Array Slot), (4200 - z294).toNat = n307 → (0 ≤ z294) → (z294 ≤ 4200) → (ceA (B293 37) (B293 38) (B293 0)) → (cnA (B293 37) (B293 38) (B293 0)) → (cvA (B293 37) (B293 38) (B293 0)) → (stX ((8 * a2) + z226) (B293 97) (B293 98) (B293 100) (B293 107) (B293 108) (B293 109)) → (htA x116 y116 (B293 0)) → (pG1 I293) → (pG2 (B293 37) (B293 38)) → (yeq (B293 100) ((8 * a2) + z226).toNat (y116 - x116)) → (cpy (B293 98) (B293 0) (4200 * ((8 * a2) + z226)) x116 z294) → (z294 ≤ (B293 100 ((8 * a2) + z226).toNat).toInt) → mH D E (mA E h q sz) s.heap h q I293 J293 B293 G293 H locs → rS [2, 8, 14, 18, 39, 40, 42, 73, 74] [0, 5, 6, 7, 9, 10, 11, 12, 13, 15, 16, 17, 19, 20, 21, 22, 23, 34, 37, 38, 58, 59, 97, 98, 99, 100, 101, 102, 107, 108, 109] I B I293 B293 → lv_has ls 12 [(0, .ref h), (4, .int (iI x116)), (8, .int (iI z226)), (9, .int (iI ((8 * a2) + z226))), (10, .int (iI z294))] → W p l e (mR 45 2045) s m AV below meth c H locs 0 0 QQ (F0 m 704 ls []) := by
                                                                                                                              as_aux_lemma =>
                                                                                                                                intro n307
                                                                                                                                induction n307 using Nat.strongRecOn with
                                                                                                                                | ind n307 ih306 =>
                                                                                                                                  intro z294 I293 J293 B293 G293 H locs ls hm308 l294 u294 f295 f296 f297 f298 f299 f300 f301 f302 i303 i304 Y S hl
                                                                                                                                  refine lv_iload X.1 X.2.1 d_M_handed_704 (lv_at hl 4 rfl) ?_
                                                                                                                                  refine lv_aload_n X.1 X.2.1 d_M_handed_706 rfl (lv_at hl 0 rfl) ?_
                                                                                                                                  refine m_get X Y 100 (by decide) lk_ticketSizes (gf_ticketSizes _ _ _) rfl d_M_handed_707 ?_
                                                                                                                                  refine lv_iload X.1 X.2.1 d_M_handed_710 (lv_at hl 3 rfl) ?_
                                                                                                                                  refine r_iald X Y S (aw_ticketSizes _ _ _ _ _ _ _) rfl (by omega) (show (8 * a2) + z226 < ((32 : Nat) : Int) by omega) (by omega) d_M_handed_712 (fun z309 q309 l309 u309 => ?_)
                                                                                                                                  refine z_icmp_ge (tgt := 746) X.1 X.2.1 d_M_handed_713 (by decide) ⟨by omega, by omega⟩ ⟨by omega, by omega⟩ (fun h310 => ?_) (fun h310 => ?_)
                                                                                                                                  · as_aux_lemma =>
                                                                                                                                      have f311 : d98 ((8 * a2) + z226) x116 (B293 98) (B293 0) (B293 100) := by unfold d98; rw [show (B293 100 ((8 * a2) + z226).toNat).toInt = z294 by omega]; exact i303
                                                                                                                                      have f312 : d98 ((8 * a2) + z226) x116 (B293 98) (B293 0) (B293 100) := by unfold d98; rw [show (B293 100 ((8 * a2) + z226).toNat).toInt = z294 by omega]; exact i303
                                                                                                                                      refine lv_aload_n X.1 X.2.1 d_M_handed_746 rfl (lv_at hl 0 rfl) ?_
                                                                                                                                      refine m_get X Y 109 (by decide) lk_clientSizes (gf_clientSizes _ _ _) rfl d_M_handed_747 ?_
                                                                                                                                      refine lv_iload X.1 X.2.1 d_M_handed_750 (lv_at hl 3 rfl) ?_
                                                                                                                                      refine lv_aload_n X.1 X.2.1 d_M_handed_752 rfl (lv_at hl 0 rfl) ?_
                                                                                                                                      refine lv_iconst (v := iI 4) X.1 X.2.1 d_M_handed_753 (by decide) ?_
                                                                                                                                      refine lv_iconst (v := iI 2) X.1 X.2.1 d_M_handed_754 (by decide) ?_
                                                                                                                                      refine r_ni (m_run (As := [.int (iI 4), .int (iI 2)]) (rest := [.int (iI ((8 * a2) + z226)), .ref ((q 109))]) (n := 2) X Y hZ hA hml hl.1 (r_M_b l D E h q H.size I293 J293 B293 G293 4 (by decide) (by decide) 2 (by decide) (by decide) S.1) kl_M_b ks_M_b kx_M_b ki_M_b ini_M hd_M_b ⟨Nat.le_of_ble_eq_true rfl, Nat.le_of_ble_eq_true rfl⟩ rfl (Nat.le_of_ble_eq_true rfl) d_M_handed_755 ⟨Nat.le_refl _, Nat.le_refl _⟩) X Y hA S (by decide) (by decide) (fun z313 u H locs Y S s313 p313 => ?_)
                                                                                                                                      obtain ⟨I313, J313, B313, G313⟩ := u
                                                                                                                                      dsimp only at Y S s313 p313
                                                                                                                                      have i313 : I293 = I313 := (funext (fun j => s313.2.1 j (by simp))).symm
                                                                                                                                      subst i313
                                                                                                                                      have b313 : B293 = B313 := (funext (fun j => s313.2.2 j (by simp))).symm
                                                                                                                                      subst b313
                                                                                                                                      obtain ⟨l313, u313, x313⟩ := p313
                                                                                                                                      refine lv_aload_n X.1 X.2.1 d_M_handed_758 rfl (lv_at hl 0 rfl) ?_
                                                                                                                                      refine lv_iconst (v := iI 4) X.1 X.2.1 d_M_handed_759 (by decide) ?_
                                                                                                                                      refine lv_iconst (v := iI 2) X.1 X.2.1 d_M_handed_760 (by decide) ?_
                                                                                                                                      refine r_ni (m_run (As := [.int (iI 4), .int (iI 2)]) (rest := [.int (iI z313), .int (iI ((8 * a2) + z226)), .ref ((q 109))]) (n := 2) X Y hZ hA hml hl.1 (r_M_a l D E h q H.size I293 J313 B293 G313 4 (by decide) (by decide) 2 (by decide) (by decide) S.1) kl_M_a ks_M_a kx_M_a ki_M_a ini_M hd_M_a ⟨Nat.le_of_ble_eq_true rfl, Nat.le_of_ble_eq_true rfl⟩ rfl (Nat.le_of_ble_eq_true rfl) d_M_handed_761 ⟨Nat.le_refl _, Nat.le_refl _⟩) X Y hA S (by decide) (by decide) (fun z314 u H locs Y S s314 p314 => ?_)
                                                                                                                                      obtain ⟨I314, J314, B314, G314⟩ := u
                                                                                                                                      dsimp only at Y S s314 p314
                                                                                                                                      have i314 : I293 = I314 := (funext (fun j => s314.2.1 j (by simp))).symm
                                                                                                                                      subst i314
                                                                                                                                      have b314 : B293 = B314 := (funext (fun j => s314.2.2 j (by simp))).symm
                                                                                                                                      subst b314
                                                                                                                                      obtain ⟨l314, u314, x314⟩ := p314
                                                                                                                                      have p315 : pr z314 z313 := by rw [x314, x313]; exact (pG2_cg rfl rfl (pG2_cg rfl rfl f301)) (16 * 4 + 2 : Int).toNat (by omega)
                                                                                                                                      unfold pr at p315
                                                                                                                                      refine z_isub X.1 X.2.1 d_M_handed_764 ?_
                                                                                                                                      have zc := ce_cl (ceA_cg rfl rfl rfl (ceA_cg rfl rfl rfl f295))
                                                                                                                                      have zh := ((htA_cg rfl (htA_cg rfl f299))).2
                                                                                                                                      refine r_iast X Y S (aw_clientSizes _ _ _ _ _ _ _) (sw_clientSizes _ _ _ _ _ _ _) rfl ⟨(show (0 : Int) ≤ z313 - z314 by omega), (show z313 - z314 ≤ (300 : Int) by omega)⟩ ⟨by omega, by omega⟩ (by omega) (show (8 * a2) + z226 < ((32 : Nat) : Int) by omega) (by omega) (by decide) d_M_handed_765 (fun B316 H locs Y S w316 => ?_)
                                                                                                                                      have f317 : stX ((8 * a2) + z226) (B316 97) (B316 98) (B316 100) (B316 107) (B316 108) (B316 109) := by rw [w316.1, w316.2 97 (by decide), w316.2 98 (by decide), w316.2 100 (by decide), w316.2 107 (by decide), w316.2 108 (by decide)]; exact stX_109 (show (((8 * a2) + z226).toNat : Int) = (8 * a2) + z226 by omega) (stX_cg rfl rfl rfl rfl rfl rfl (stX_cg rfl rfl rfl rfl rfl rfl f298))
                                                                                                                                      have f318 : yeq (B316 109) ((8 * a2) + z226).toNat ((B316 38 (16 * 4 + 2 : Int).toNat).toInt - (B316 37 (16 * 4 + 2 : Int).toNat).toInt) := by unfold yeq; rw [w316.1, pk_us, w316.2 37 (by decide), w316.2 38 (by decide), iI_toInt ⟨by omega, by omega⟩]; omega
                                                                                                                                      refine lv_aload_n X.1 X.2.1 d_M_handed_766 rfl (lv_at hl 0 rfl) ?_
                                                                                                                                      refine lv_iconst (v := iI 4) X.1 X.2.1 d_M_handed_767 (by decide) ?_
                                                                                                                                      refine lv_iconst (v := iI 2) X.1 X.2.1 d_M_handed_768 (by decide) ?_
                                                                                                                                      refine r_ni (m_run (As := [.int (iI 4), .int (iI 2)]) (rest := []) (n := 2) X Y hZ hA hml hl.1 (r_M_a l D E h q H.size I293 J314 B316 G314 4 (by decide) (by decide) 2 (by decide) (by decide) S.1) kl_M_a ks_M_a kx_M_a ki_M_a ini_M hd_M_a ⟨Nat.le_of_ble_eq_true rfl, Nat.le_of_ble_eq_true rfl⟩ rfl (Nat.le_of_ble_eq_true rfl) d_M_handed_769 ⟨Nat.le_refl _, Nat.le_refl _⟩) X Y hA S (by decide) (by decide) (fun z319 u H locs Y S s319 p319 => ?_)
                                                                                                                                      obtain ⟨I319, J319, B319, G319⟩ := u
                                                                                                                                      dsimp only at Y S s319 p319
                                                                                                                                      have i319 : I293 = I319 := (funext (fun j => s319.2.1 j (by simp))).symm
                                                                                                                                      subst i319
                                                                                                                                      have b319 : B316 = B319 := (funext (fun j => s319.2.2 j (by simp))).symm
                                                                                                                                      subst b319
                                                                                                                                      obtain ⟨l319, u319, x319⟩ := p319
                                                                                                                                      have f320 : yeq (B316 37) (16 * 4 + 2 : Int).toNat z319 := x319.symm
                                                                                                                                      have f321 : yeq (B316 37) (16 * 4 + 2 : Int).toNat z319 := x319.symm
                                                                                                                                      refine lv_istore (lv' := [(10, .int (iI z319)), (0, .ref h), (4, .int (iI x116)), (8, .int (iI z226)), (9, .int (iI ((8 * a2) + z226)))]) X.1 X.2.1 d_M_handed_772 hl (by decide) rfl (fun ls hl => ?_)
                                                                                                                                      refine lv_aload_n X.1 X.2.1 d_M_handed_774 rfl (lv_at hl 1 rfl) ?_
                                                                                                                                      refine r_nv (m_run (As := []) (rest := []) (n := 0) X Y hZ hA hml hl.1 (r_M_start l D E h q H.size I293 J319 B316 G319 S.1) kl_M_start ks_M_start kx_M_start ki_M_start ini_M hd_M_start ⟨Nat.le_of_ble_eq_true rfl, Nat.le_of_ble_eq_true rfl⟩ rfl (Nat.le_of_ble_eq_true rfl) d_M_handed_775 ⟨Nat.le_refl _, Nat.le_refl _⟩) X Y hA S (by decide) (by decide) (fun u H locs Y S s322 p322 => ?_)
                                                                                                                                      obtain ⟨I322, J322, B322, G322⟩ := u
                                                                                                                                      dsimp only at Y S s322 p322
                                                                                                                                      have b322 : B316 = B322 := (funext (fun j => s322.2.2 j (by simp))).symm
                                                                                                                                      subst b322
                                                                                                                                      have x322 := p322
                                                                                                                                      refine lv_aload_n X.1 X.2.1 d_M_handed_778 rfl (lv_at hl 1 rfl) ?_
                                                                                                                                      refine m_ldcSW (i := 2) X (by decide) (by decide) d_M_handed_779 ?_
                                                                                                                                      refine r_nv (m_run (As := [.ref ((D.2.1 2))]) (rest := []) (n := 1) X Y hZ hA hml hl.1 (r_M_putWord l D E h q H.size I322 J322 B316 G322 2 (show 2 < nZ by decide) S.1 60000 (x322.trans (congrArg iI (show (60000 : Int) = 60000 by omega))) (by omega) (by omega)) kl_M_putWord ks_M_putWord kx_M_putWord ki_M_putWord ini_M hd_M_putWord ⟨Nat.le_of_ble_eq_true rfl, Nat.le_of_ble_eq_true rfl⟩ rfl (Nat.le_of_ble_eq_true rfl) d_M_handed_782 ⟨Nat.le_refl _, Nat.le_refl _⟩) X Y hA S (by decide) (by decide) (fun u H locs Y S s323 p323 => ?_)
                                                                                                                                      obtain ⟨I323, J323, B323, G323⟩ := u
                                                                                                                                      dsimp only at Y S s323 p323
                                                                                                                                      obtain ⟨x323, g323_MF⟩ := p323
                                                                                                                                      have f324 : htA x116 y116 (B323 0) := htA_M g323_MF (by decide) (htA_cg rfl (htA_cg rfl (htA_cg (w316.2 0 (by decide)) (htA_cg rfl (htA_cg rfl f299)))))
                                                                                                                                      have f325 : ceA (B323 37) (B323 38) (B323 0) := (ceA_cg rfl (s323.2.2 37 (by decide)) (s323.2.2 38 (by decide)) (ceA_M g323_MF (by decide) (ceA_cg rfl rfl rfl (ceA_cg rfl rfl rfl (ceA_cg (w316.2 0 (by decide)) (w316.2 37 (by decide)) (w316.2 38 (by decide)) (ceA_cg rfl rfl rfl (ceA_cg rfl rfl rfl f295)))))))
                                                                                                                                      have f326 : d98 ((8 * a2) + z226) x116 (B323 98) (B323 0) (B323 100) := by rw [s323.2.2 98 (by decide), s323.2.2 100 (by decide)]; exact d98_M g323_MF ((htA_cg rfl (htA_cg rfl (htA_cg (w316.2 0 (by decide)) (htA_cg rfl (htA_cg rfl f299)))))).2.1 (by have q9 := ((htA_cg rfl (htA_cg rfl (htA_cg (w316.2 0 (by decide)) (htA_cg rfl (htA_cg rfl f299)))))).2; have q8 := (yeq_cg rfl (yeq_cg rfl (yeq_cg (w316.2 100 (by decide)) (yeq_cg rfl (yeq_cg rfl f302))))); unfold yeq at q8; omega) (d98_cg rfl rfl rfl (d98_cg rfl rfl rfl (d98_cg (w316.2 0 (by decide)) (w316.2 98 (by decide)) (w316.2 100 (by decide)) (d98_cg rfl rfl rfl (d98_cg rfl rfl rfl f312)))))
                                                                                                                                      obtain ⟨z327, e327, l327, u327⟩ := x323
                                                                                                                                      refine lv_aload_n X.1 X.2.1 d_M_handed_785 rfl (lv_at hl 1 rfl) ?_
                                                                                                                                      refine m_get X Y 108 (by decide) lk_realmSizes (gf_realmSizes _ _ _) rfl d_M_handed_786 ?_
                                                                                                                                      refine lv_iload X.1 X.2.1 d_M_handed_789 (lv_at hl 4 rfl) ?_
                                                                                                                                      refine lv_ldc (v := (60000)) X.1 X.2.1 X.2.2.2.1 (X.2.2.1 _ cn_M_9) d_M_handed_791 ?_
                                                                                                                                      refine t_eq (y := iI 60000) (by decide) ?_
                                                                                                                                      refine lv_aload_n X.1 X.2.1 d_M_handed_793 rfl (lv_at hl 1 rfl) ?_
                                                                                                                                      refine r_get0 X Y (by decide) lk_w0 (gf_w0 _ _ _) rfl e327 d_M_handed_794 ?_
                                                                                                                                      refine z_isub X.1 X.2.1 d_M_handed_797 ?_
                                                                                                                                      refine r_iast X Y S (aw_realmSizes _ _ _ _ _ _ _) (sw_realmSizes _ _ _ _ _ _ _) rfl ⟨(show (0 : Int) ≤ 60000 - z327 by omega), (show 60000 - z327 ≤ (100 : Int) by omega)⟩ ⟨by omega, by omega⟩ (by omega) (show (8 * a2) + z226 < ((32 : Nat) : Int) by omega) (by omega) (by decide) d_M_handed_798 (fun B328 H locs Y S w328 => ?_)
                                                                                                                                      have f329 : stX ((8 * a2) + z226) (B328 97) (B328 98) (B328 100) (B328 107) (B328 108) (B328 109) := by rw [w328.1, w328.2 97 (by decide), w328.2 98 (by decide), w328.2 100 (by decide), w328.2 107 (by decide), w328.2 109 (by decide)]; exact stX_108 (show (((8 * a2) + z226).toNat : Int) = (8 * a2) + z226 by omega) (stX_cg (s323.2.2 97 (by decide)) (s323.2.2 98 (by decide)) (s323.2.2 100 (by decide)) (s323.2.2 107 (by decide)) (s323.2.2 108 (by decide)) (s323.2.2 109 (by decide)) (stX_cg rfl rfl rfl rfl rfl rfl (stX_cg rfl rfl rfl rfl rfl rfl f317)))
                                                                                                                                      refine lv_iconst (v := iI 0) X.1 X.2.1 d_M_handed_799 (by decide) ?_
                                                                                                                                      have J342 : ∀ (n344 : Nat) (z331 : Int) (I330 : Nat → Int32) (J330 : Nat → Int64) (B330 : Nat → Nat → Int32) (G330 : Nat → Nat → Int64) (H : Heap) (locs : List Loc) (ls : Array Slot), (100 - z331).toNat = n344 → (0 ≤ z331) → (z331 ≤ 100) → (ceA (B330 37) (B330 38) (B330 0)) → (d98 ((8 * a2) + z226) x116 (B330 98) (B330 0) (B330 100)) → (stX ((8 * a2) + z226) (B330 97) (B330 98) (B330 100) (B330 107) (B330 108) (B330 109)) → (htA x116 y116 (B330 0)) → (pG1 I330) → (pG2 (B330 37) (B330 38)) → (yeq (B330 100) ((8 * a2) + z226).toNat (y116 - x116)) → (yeq (B330 109) ((8 * a2) + z226).toNat ((B330 38 (16 * 4 + 2 : Int).toNat).toInt - (B330 37 (16 * 4 + 2 : Int).toNat).toInt)) → (yeq (B330 37) (16 * 4 + 2 : Int).toNat z319) → (I330 42 = iI z327) → mH D E (mA E h q sz) s.heap h q I330 J330 B330 G330 H locs → rS [2, 8, 14, 18, 39, 40, 42, 73, 74] [0, 5, 6, 7, 9, 10, 11, 12, 13, 15, 16, 17, 19, 20, 21, 22, 23, 34, 37, 38, 58, 59, 97, 98, 99, 100, 101, 102, 107, 108, 109] I B I330 B330 → lv_has ls 12 [(0, .ref h), (8, .int (iI z226)), (9, .int (iI ((8 * a2) + z226))), (10, .int (iI z319)), (11, .int (iI z331))] → W p l e (mR 45 2045) s m AV below meth c H locs 0 0 QQ (F0 m 802 ls []) := by
                                                                                                                                        as_aux_lemma =>
                                                                                                                                          intro n344
                                                                                                                                          induction n344 using Nat.strongRecOn with
                                                                                                                                          | ind n344 ih343 =>
                                                                                                                                            intro z331 I330 J330 B330 G330 H locs ls hm345 l331 u331 f332 f333 f334 f335 f336 f337 f338 f339 f340 e341 Y S hl
                                                                                                                                            refine lv_iload X.1 X.2.1 d_M_handed_802 (lv_at hl 4 rfl) ?_
                                                                                                                                            refine lv_aload_n X.1 X.2.1 d_M_handed_804 rfl (lv_at hl 0 rfl) ?_
                                                                                                                                            refine m_get X Y 108 (by decide) lk_realmSizes (gf_realmSizes _ _ _) rfl d_M_handed_805 ?_
                                                                                                                                            refine lv_iload X.1 X.2.1 d_M_handed_808 (lv_at hl 2 rfl) ?_
                                                                                                                                            refine r_iald X Y S (aw_realmSizes _ _ _ _ _ _ _) rfl (by omega) (show (8 * a2) + z226 < ((32 : Nat) : Int) by omega) (by omega) d_M_handed_810 (fun z346 q346 l346 u346 => ?_)
                                                                                                                                            refine z_icmp_ge (tgt := 846) X.1 X.2.1 d_M_handed_811 (by decide) ⟨by omega, by omega⟩ ⟨by omega, by omega⟩ (fun h347 => ?_) (fun h347 => ?_)
                                                                                                                                            · as_aux_lemma =>
                                                                                                                                                refine lv_iconst (v := iI 0) X.1 X.2.1 d_M_handed_846 (by decide) ?_
                                                                                                                                                have J362 : ∀ (n364 : Nat) (z349 : Int) (I348 : Nat → Int32) (J348 : Nat → Int64) (B348 : Nat → Nat → Int32) (G348 : Nat → Nat → Int64) (H : Heap) (locs : List Loc) (ls : Array Slot), (300 - z349).toNat = n364 → (0 ≤ z349) → (z349 ≤ 300) → (ceA (B348 37) (B348 38) (B348 0)) → (d98 ((8 * a2) + z226) x116 (B348 98) (B348 0) (B348 100)) → (stX ((8 * a2) + z226) (B348 97) (B348 98) (B348 100) (B348 107) (B348 108) (B348 109)) → (htA x116 y116 (B348 0)) → (pG1 I348) → (pG2 (B348 37) (B348 38)) → (yeq (B348 100) ((8 * a2) + z226).toNat (y116 - x116)) → (yeq (B348 109) ((8 * a2) + z226).toNat ((B348 38 (16 * 4 + 2 : Int).toNat).toInt - (B348 37 (16 * 4 + 2 : Int).toNat).toInt)) → (yeq (B348 37) (16 * 4 + 2 : Int).toNat z319) → (I348 42 = iI z327) → (cpy (B348 107) (B348 0) (400 * ((8 * a2) + z226) + (B348 108 ((8 * a2) + z226).toNat).toInt) z319 z349) → (z349 ≤ (B348 109 ((8 * a2) + z226).toNat).toInt) → mH D E (mA E h q sz) s.heap h q I348 J348 B348 G348 H locs → rS [2, 8, 14, 18, 39, 40, 42, 73, 74] [0, 5, 6, 7, 9, 10, 11, 12, 13, 15, 16, 17, 19, 20, 21, 22, 23, 34, 37, 38, 58, 59, 97, 98, 99, 100, 101, 102, 107, 108, 109] I B I348 B348 → lv_has ls 12 [(0, .ref h), (8, .int (iI z226)), (9, .int (iI ((8 * a2) + z226))), (10, .int (iI z319)), (11, .int (iI z349))] → W p l e (mR 45 2045) s m AV below meth c H locs 0 0 QQ (F0 m 849 ls []) := by
                                                                                                                                                  as_aux_lemma =>
                                                                                                                                                    intro n364
                                                                                                                                                    induction n364 using Nat.strongRecOn with
                                                                                                                                                    | ind n364 ih363 =>
                                                                                                                                                      intro z349 I348 J348 B348 G348 H locs ls hm365 l349 u349 f350 f351 f352 f353 f354 f355 f356 f357 f358 e359 i360 i361 Y S hl
                                                                                                                                                      refine lv_iload X.1 X.2.1 d_M_handed_849 (lv_at hl 4 rfl) ?_
                                                                                                                                                      refine lv_aload_n X.1 X.2.1 d_M_handed_851 rfl (lv_at hl 0 rfl) ?_
                                                                                                                                                      refine m_get X Y 109 (by decide) lk_clientSizes (gf_clientSizes _ _ _) rfl d_M_handed_852 ?_
                                                                                                                                                      refine lv_iload X.1 X.2.1 d_M_handed_855 (lv_at hl 2 rfl) ?_
                                                                                                                                                      refine r_iald X Y S (aw_clientSizes _ _ _ _ _ _ _) rfl (by omega) (show (8 * a2) + z226 < ((32 : Nat) : Int) by omega) (by omega) d_M_handed_857 (fun z366 q366 l366 u366 => ?_)
                                                                                                                                                      refine z_icmp_ge (tgt := 899) X.1 X.2.1 d_M_handed_858 (by decide) ⟨by omega, by omega⟩ ⟨by omega, by omega⟩ (fun h367 => ?_) (fun h367 => ?_)
                                                                                                                                                      · refine lv_iload X.1 X.2.1 d_M_handed_899 (lv_at hl 1 rfl) ?_
                                                                                                                                                        exact m_reti hQQ X Y hr hlk ⟨S, z226, rfl, ⟨by omega, by omega, f354, f355, (st_finh (p := z319) f352 (by omega) f353 f350 f356 f357 f358 f351 (by rw [show (B348 109 ((8 * a2) + z226).toNat).toInt = z349 by omega]; exact i360) (show 0 ≤ _ from (S.1.2 108 _).1))⟩⟩ d_M_handed_901
                                                                                                                                                      · refine lv_aload_n X.1 X.2.1 d_M_handed_861 rfl (lv_at hl 0 rfl) ?_
                                                                                                                                                        refine m_get X Y 107 (by decide) lk_clientBytes (gf_clientBytes _ _ _) rfl d_M_handed_862 ?_
                                                                                                                                                        refine lv_sipush (v := iI 400) X.1 X.2.1 d_M_handed_865 (by decide) ?_
                                                                                                                                                        refine lv_iload X.1 X.2.1 d_M_handed_868 (lv_at hl 2 rfl) ?_
                                                                                                                                                        refine z_imul X.1 X.2.1 d_M_handed_870 ?_
                                                                                                                                                        refine lv_aload_n X.1 X.2.1 d_M_handed_871 rfl (lv_at hl 0 rfl) ?_
                                                                                                                                                        refine m_get X Y 108 (by decide) lk_realmSizes (gf_realmSizes _ _ _) rfl d_M_handed_872 ?_
                                                                                                                                                        refine lv_iload X.1 X.2.1 d_M_handed_875 (lv_at hl 2 rfl) ?_
                                                                                                                                                        refine r_iald X Y S (aw_realmSizes _ _ _ _ _ _ _) rfl (by omega) (show (8 * a2) + z226 < ((32 : Nat) : Int) by omega) (by omega) d_M_handed_877 (fun z368 q368 l368 u368 => ?_)
                                                                                                                                                        refine z_iadd X.1 X.2.1 d_M_handed_878 ?_
                                                                                                                                                        refine lv_iload X.1 X.2.1 d_M_handed_879 (lv_at hl 4 rfl) ?_
                                                                                                                                                        refine z_iadd X.1 X.2.1 d_M_handed_881 ?_
                                                                                                                                                        refine lv_aload_n X.1 X.2.1 d_M_handed_882 rfl (lv_at hl 0 rfl) ?_
                                                                                                                                                        refine m_get X Y 0 (by decide) lk_mem (gf_mem _ _ _) rfl d_M_handed_883 ?_
                                                                                                                                                        refine lv_iload X.1 X.2.1 d_M_handed_886 (lv_at hl 3 rfl) ?_
                                                                                                                                                        refine lv_iload X.1 X.2.1 d_M_handed_888 (lv_at hl 4 rfl) ?_
                                                                                                                                                        refine z_iadd X.1 X.2.1 d_M_handed_890 ?_
                                                                                                                                                        refine r_bald X Y S (aw_mem _ _ _ _ _ _ _) rfl (by omega) (show z319 + z349 < ((60000 : Nat) : Int) by omega) (by omega) d_M_handed_891 (fun z369 q369 l369 u369 => ?_)
                                                                                                                                                        refine r_bast X Y S (aw_clientBytes _ _ _ _ _ _ _) (sw_clientBytes _ _ _ _ _ _ _) rfl (by omega) (show ((400 * ((8 * a2) + z226)) + z368) + z349 < ((12800 : Nat) : Int) by omega) (by omega) (by decide) d_M_handed_892 (fun B370 H locs Y S w370 => ?_)
                                                                                                                                                        have f371 : stX ((8 * a2) + z226) (B370 97) (B370 98) (B370 100) (B370 107) (B370 108) (B370 109) := by rw [w370.1, w370.2 97 (by decide), w370.2 98 (by decide), w370.2 100 (by decide), w370.2 108 (by decide), w370.2 109 (by decide)]; exact stX_107 (fun t9 => ⟨(S.1.2 108 t9).1, (S.1.2 108 t9).2, (S.1.2 109 t9).2⟩) (by omega) (by omega) f352
                                                                                                                                                        refine lv_iinc (v := iI (z349 + 1)) (lv' := [(11, .int (iI (z349 + 1))), (0, .ref h), (8, .int (iI z226)), (9, .int (iI ((8 * a2) + z226))), (10, .int (iI z319))]) X.1 X.2.1 d_M_handed_893 hl (k := 4) rfl ((iI_add _ _).trans (congrArg iI (by omega))) (by decide) rfl (fun ls hl => ?_)
                                                                                                                                                        refine lv_goto (tgt := 849) X.1 X.2.1 d_M_handed_896 (by decide) ?_
                                                                                                                                                        exact ih363 ((300 - (z349 + 1)).toNat) (by omega) (z349 + 1) I348 J348 B370 G348 _ _ _ rfl (by omega) (by omega) (ceA_cg (w370.2 0 (by decide)) (w370.2 37 (by decide)) (w370.2 38 (by decide)) f350) (d98_cg (w370.2 0 (by decide)) (w370.2 98 (by decide)) (w370.2 100 (by decide)) f351) f371 (htA_cg (w370.2 0 (by decide)) f353) (pG1_cg rfl rfl f354) (pG2_cg (w370.2 37 (by decide)) (w370.2 38 (by decide)) f355) (yeq_cg (w370.2 100 (by decide)) f356) (y109_cg (w370.2 37 (by decide)) (w370.2 38 (by decide)) (w370.2 109 (by decide)) f357) (yeq_cg (w370.2 37 (by decide)) f358) e359 (by rw [w370.2 108 (by decide)]; exact cpy_go (by omega) (by omega) (by decide) w370 (show ((400 * ((8 * a2) + z226)) + z368) + z349 = _ by omega) q369 (show z319 + z349 = _ by omega) (by omega) (by omega) i360) (by rw [w370.2 109 (by decide)]; omega) Y S (lv_sub hl [1, 2, 3, 4, 0] rfl)
                                                                                                                                                refine lv_istore (lv' := [(11, .int (iI 0)), (0, .ref h), (8, .int (iI z226)), (9, .int (iI ((8 * a2) + z226))), (10, .int (iI z319))]) X.1 X.2.1 d_M_handed_847 hl (by decide) rfl (fun ls hl => ?_)
                                                                                                                                                exact J362 _ 0 I330 J330 B330 G330 _ _ _ rfl (by omega) (by omega) f332 f333 f334 f335 f336 f337 f338 f339 f340 e341 (cpy_0 rfl) (by omega) Y S (lv_sub hl [1, 2, 3, 4, 0] rfl)
                                                                                                                                            · refine lv_aload_n X.1 X.2.1 d_M_handed_814 rfl (lv_at hl 0 rfl) ?_
                                                                                                                                              refine m_get X Y 107 (by decide) lk_clientBytes (gf_clientBytes _ _ _) rfl d_M_handed_815 ?_
                                                                                                                                              refine lv_sipush (v := iI 400) X.1 X.2.1 d_M_handed_818 (by decide) ?_
                                                                                                                                              refine lv_iload X.1 X.2.1 d_M_handed_821 (lv_at hl 2 rfl) ?_
                                                                                                                                              refine z_imul X.1 X.2.1 d_M_handed_823 ?_
                                                                                                                                              refine lv_iload X.1 X.2.1 d_M_handed_824 (lv_at hl 4 rfl) ?_
                                                                                                                                              refine z_iadd X.1 X.2.1 d_M_handed_826 ?_
                                                                                                                                              refine lv_aload_n X.1 X.2.1 d_M_handed_827 rfl (lv_at hl 0 rfl) ?_
                                                                                                                                              refine m_get X Y 0 (by decide) lk_mem (gf_mem _ _ _) rfl d_M_handed_828 ?_
                                                                                                                                              refine lv_aload_n X.1 X.2.1 d_M_handed_831 rfl (lv_at hl 0 rfl) ?_
                                                                                                                                              refine r_get0 X Y (by decide) lk_w0 (gf_w0 _ _ _) rfl e341 d_M_handed_832 ?_
                                                                                                                                              refine lv_iload X.1 X.2.1 d_M_handed_835 (lv_at hl 4 rfl) ?_
                                                                                                                                              refine z_iadd X.1 X.2.1 d_M_handed_837 ?_
                                                                                                                                              refine r_bald X Y S (aw_mem _ _ _ _ _ _ _) rfl (by omega) (show z327 + z331 < ((60000 : Nat) : Int) by omega) (by omega) d_M_handed_838 (fun z372 q372 l372 u372 => ?_)
                                                                                                                                              refine r_bast X Y S (aw_clientBytes _ _ _ _ _ _ _) (sw_clientBytes _ _ _ _ _ _ _) rfl (by omega) (show (400 * ((8 * a2) + z226)) + z331 < ((12800 : Nat) : Int) by omega) (by omega) (by decide) d_M_handed_839 (fun B373 H locs Y S w373 => ?_)
                                                                                                                                              have f374 : stX ((8 * a2) + z226) (B373 97) (B373 98) (B373 100) (B373 107) (B373 108) (B373 109) := by rw [w373.1, w373.2 97 (by decide), w373.2 98 (by decide), w373.2 100 (by decide), w373.2 108 (by decide), w373.2 109 (by decide)]; exact stX_107 (fun t9 => ⟨(S.1.2 108 t9).1, (S.1.2 108 t9).2, (S.1.2 109 t9).2⟩) (by omega) (by omega) f334
                                                                                                                                              refine lv_iinc (v := iI (z331 + 1)) (lv' := [(11, .int (iI (z331 + 1))), (0, .ref h), (8, .int (iI z226)), (9, .int (iI ((8 * a2) + z226))), (10, .int (iI z319))]) X.1 X.2.1 d_M_handed_840 hl (k := 4) rfl ((iI_add _ _).trans (congrArg iI (by omega))) (by decide) rfl (fun ls hl => ?_)
                                                                                                                                              refine lv_goto (tgt := 802) X.1 X.2.1 d_M_handed_843 (by decide) ?_
                                                                                                                                              exact ih343 ((100 - (z331 + 1)).toNat) (by omega) (z331 + 1) I330 J330 B373 G330 _ _ _ rfl (by omega) (by omega) (ceA_cg (w373.2 0 (by decide)) (w373.2 37 (by decide)) (w373.2 38 (by decide)) f332) (d98_cg (w373.2 0 (by decide)) (w373.2 98 (by decide)) (w373.2 100 (by decide)) f333) f374 (htA_cg (w373.2 0 (by decide)) f335) (pG1_cg rfl rfl f336) (pG2_cg (w373.2 37 (by decide)) (w373.2 38 (by decide)) f337) (yeq_cg (w373.2 100 (by decide)) f338) (y109_cg (w373.2 37 (by decide)) (w373.2 38 (by decide)) (w373.2 109 (by decide)) f339) (yeq_cg (w373.2 37 (by decide)) f340) e341 Y S (lv_sub hl [1, 2, 3, 4, 0] rfl)
                                                                                                                                      refine lv_istore (lv' := [(11, .int (iI 0)), (10, .int (iI z319)), (0, .ref h), (4, .int (iI x116)), (8, .int (iI z226)), (9, .int (iI ((8 * a2) + z226)))]) X.1 X.2.1 d_M_handed_800 hl (by decide) rfl (fun ls hl => ?_)
                                                                                                                                      exact J342 _ 0 I323 J323 B328 G323 _ _ _ rfl (by omega) (by omega) (ceA_cg (w328.2 0 (by decide)) (w328.2 37 (by decide)) (w328.2 38 (by decide)) f325) (d98_cg (w328.2 0 (by decide)) (w328.2 98 (by decide)) (w328.2 100 (by decide)) f326) f329 (htA_cg (w328.2 0 (by decide)) f324) (pG1_cg rfl rfl (pG1_cg (s323.2.1 39 (by decide)) (s323.2.1 40 (by decide)) (pG1_cg (s322.2.1 39 (by decide)) (s322.2.1 40 (by decide)) (pG1_cg rfl rfl (pG1_cg rfl rfl (pG1_cg rfl rfl (pG1_cg rfl rfl f300))))))) (pG2_cg (w328.2 37 (by decide)) (w328.2 38 (by decide)) (pG2_cg (s323.2.2 37 (by decide)) (s323.2.2 38 (by decide)) (pG2_cg rfl rfl (pG2_cg rfl rfl (pG2_cg (w316.2 37 (by decide)) (w316.2 38 (by decide)) (pG2_cg rfl rfl (pG2_cg rfl rfl f301))))))) (yeq_cg (w328.2 100 (by decide)) (yeq_cg (s323.2.2 100 (by decide)) (yeq_cg rfl (yeq_cg rfl (yeq_cg (w316.2 100 (by decide)) (yeq_cg rfl (yeq_cg rfl f302))))))) (y109_cg (w328.2 37 (by decide)) (w328.2 38 (by decide)) (w328.2 109 (by decide)) (y109_cg (s323.2.2 37 (by decide)) (s323.2.2 38 (by decide)) (s323.2.2 109 (by decide)) (y109_cg rfl rfl rfl (y109_cg rfl rfl rfl f318)))) (yeq_cg (w328.2 37 (by decide)) (yeq_cg (s323.2.2 37 (by decide)) (yeq_cg rfl f321))) e327 Y S (lv_sub hl [2, 4, 5, 1, 0] rfl)
                                                                                                                                  · refine lv_aload_n X.1 X.2.1 d_M_handed_716 rfl (lv_at hl 0 rfl) ?_
                                                                                                                                    refine m_get X Y 98 (by decide) lk_ticketBytes (gf_ticketBytes _ _ _) rfl d_M_handed_717 ?_
                                                                                                                                    refine lv_sipush (v := iI 4200) X.1 X.2.1 d_M_handed_720 (by decide) ?_
                                                                                                                                    refine lv_iload X.1 X.2.1 d_M_handed_723 (lv_at hl 3 rfl) ?_
                                                                                                                                    refine z_imul X.1 X.2.1 d_M_handed_725 ?_
                                                                                                                                    refine lv_iload X.1 X.2.1 d_M_handed_726 (lv_at hl 4 rfl) ?_
                                                                                                                                    refine z_iadd X.1 X.2.1 d_M_handed_728 ?_
                                                                                                                                    refine lv_aload_n X.1 X.2.1 d_M_handed_729 rfl (lv_at hl 0 rfl) ?_
                                                                                                                                    refine m_get X Y 0 (by decide) lk_mem (gf_mem _ _ _) rfl d_M_handed_730 ?_
                                                                                                                                    refine lv_iload X.1 X.2.1 d_M_handed_733 (lv_at hl 1 rfl) ?_
                                                                                                                                    refine lv_iload X.1 X.2.1 d_M_handed_735 (lv_at hl 4 rfl) ?_
                                                                                                                                    refine z_iadd X.1 X.2.1 d_M_handed_737 ?_
                                                                                                                                    refine r_bald X Y S (aw_mem _ _ _ _ _ _ _) rfl (by omega) (show x116 + z294 < ((60000 : Nat) : Int) by omega) (by omega) d_M_handed_738 (fun z375 q375 l375 u375 => ?_)
                                                                                                                                    refine r_bast X Y S (aw_ticketBytes _ _ _ _ _ _ _) (sw_ticketBytes _ _ _ _ _ _ _) rfl (by omega) (show (4200 * ((8 * a2) + z226)) + z294 < ((134400 : Nat) : Int) by omega) (by omega) (by decide) d_M_handed_739 (fun B376 H locs Y S w376 => ?_)
                                                                                                                                    have f377 : stX ((8 * a2) + z226) (B376 97) (B376 98) (B376 100) (B376 107) (B376 108) (B376 109) := by rw [w376.1, w376.2 97 (by decide), w376.2 100 (by decide), w376.2 107 (by decide), w376.2 108 (by decide), w376.2 109 (by decide)]; exact stX_98 (fun t9 => (show _ ≤ (4200 : Int) from (S.1.2 100 t9).2)) (by omega) (by omega) f298
                                                                                                                                    refine lv_iinc (v := iI (z294 + 1)) (lv' := [(10, .int (iI (z294 + 1))), (0, .ref h), (4, .int (iI x116)), (8, .int (iI z226)), (9, .int (iI ((8 * a2) + z226)))]) X.1 X.2.1 d_M_handed_740 hl (k := 4) rfl ((iI_add _ _).trans (congrArg iI (by omega))) (by decide) rfl (fun ls hl => ?_)
                                                                                                                                    refine lv_goto (tgt := 704) X.1 X.2.1 d_M_handed_743 (by decide) ?_
                                                                                                                                    exact ih306 ((4200 - (z294 + 1)).toNat) (by omega) (z294 + 1) I293 J293 B376 G293 _ _ _ rfl (by omega) (by omega) (ceA_cg (w376.2 0 (by decide)) (w376.2 37 (by decide)) (w376.2 38 (by decide)) f295) (cnA_cg (w376.2 0 (by decide)) (w376.2 37 (by decide)) (w376.2 38 (by decide)) f296) (cvA_cg (w376.2 0 (by decide)) (w376.2 37 (by decide)) (w376.2 38 (by decide)) f297) f377 (htA_cg (w376.2 0 (by decide)) f299) (pG1_cg rfl rfl f300) (pG2_cg (w376.2 37 (by decide)) (w376.2 38 (by decide)) f301) (yeq_cg (w376.2 100 (by decide)) f302) (by exact cpy_go (by omega) (by omega) (by decide) w376 (show (4200 * ((8 * a2) + z226)) + z294 = _ by omega) q375 (show x116 + z294 = _ by omega) (by omega) (by omega) i303) (by rw [w376.2 100 (by decide)]; omega) Y S (lv_sub hl [1, 2, 3, 4, 0] rfl)
                                                                                                                            refine lv_istore (lv' := [(10, .int (iI 0)), (0, .ref h), (4, .int (iI x116)), (5, .int (iI y116)), (8, .int (iI z226)), (9, .int (iI ((8 * a2) + z226)))]) X.1 X.2.1 d_M_handed_702 hl (by decide) rfl (fun ls hl => ?_)
                                                                                                                            exact J305 _ 0 I276 J276 B290 G289 _ _ _ rfl (by omega) (by omega) (ceA_cg (w290.2 0 (by decide)) (w290.2 37 (by decide)) (w290.2 38 (by decide)) f278) (cnA_cg (w290.2 0 (by decide)) (w290.2 37 (by decide)) (w290.2 38 (by decide)) f279) (cvA_cg (w290.2 0 (by decide)) (w290.2 37 (by decide)) (w290.2 38 (by decide)) f280) f291 (htA_cg (w290.2 0 (by decide)) f282) (pG1_cg rfl rfl f283) (pG2_cg (w290.2 37 (by decide)) (w290.2 38 (by decide)) f284) f292 (cpy_0 rfl) (by omega) Y S (lv_sub hl [1, 2, 4, 5, 0] rfl)
                                                                                                                        refine z_if_eq (tgt := 685) X.1 X.2.1 d_M_handed_672 (by decide) ⟨by omega, by omega⟩ (fun h378 => ?_) (fun h378 => ?_)
                                                                                                                        · refine lv_ldc2 (v := (-1)) X.1 X.2.1 X.2.2.2.1 (X.2.2.1 _ cl_M_459) d_M_handed_685 ?_
                                                                                                                          exact J285 ((-1)) I273 J275 B259 G275 _ _ _ (ceA_cg rfl rfl rfl (ceA_cg rfl rfl rfl f261)) (cnA_cg rfl rfl rfl (cnA_cg rfl rfl rfl f262)) (cvA_cg rfl rfl rfl (cvA_cg rfl rfl rfl f263)) (stX_cg rfl rfl rfl rfl rfl rfl (stX_cg rfl rfl rfl rfl rfl rfl f264)) (htA_cg rfl (htA_cg rfl f265)) (pG1_cg rfl rfl g273_P1) (pG2_cg rfl rfl (pG2_cg rfl rfl f267)) Y S (lv_sub hl [0, 1, 2, 3, 4] rfl)
                                                                                                                        · refine lv_aload_n X.1 X.2.1 d_M_handed_675 rfl (lv_at hl 0 rfl) ?_
                                                                                                                          refine lv_iconst (v := iI 4) X.1 X.2.1 d_M_handed_676 (by decide) ?_
                                                                                                                          refine lv_bipush (v := iI 7) X.1 X.2.1 d_M_handed_677 (by decide) ?_
                                                                                                                          refine r_nl (m_run (As := [.int (iI 4), .int (iI 7)]) (rest := [.int (iI ((8 * a2) + z226)), .ref ((q 106))]) (n := 2) X Y hZ hA hml hl.1 (r_M_timeOf l D E h q H.size I273 J275 B259 G275 4 (by decide) (by decide) 7 (by decide) (by decide) S.1 (pG1_cg rfl rfl g273_P1) (pG2_cg rfl rfl (pG2_cg rfl rfl f267))) kl_M_timeOf ks_M_timeOf kx_M_timeOf ki_M_timeOf ini_M hd_M_timeOf ⟨Nat.le_of_ble_eq_true rfl, Nat.le_of_ble_eq_true rfl⟩ rfl (Nat.le_of_ble_eq_true rfl) d_M_handed_679 ⟨Nat.le_refl _, Nat.le_refl _⟩) X Y hA S (by decide) (by decide) (fun v379 u H locs Y S s379 p379 => ?_)
                                                                                                                          obtain ⟨I379, J379, B379, G379⟩ := u
                                                                                                                          dsimp only at Y S s379 p379
                                                                                                                          have b379 : B259 = B379 := (funext (fun j => s379.2.2 j (by simp))).symm
                                                                                                                          subst b379
                                                                                                                          have g379_P1 := p379
                                                                                                                          refine lv_goto (tgt := 688) X.1 X.2.1 d_M_handed_682 (by decide) ?_
                                                                                                                          exact J285 v379 I379 J379 B259 G379 _ _ _ (ceA_cg rfl rfl rfl (ceA_cg rfl rfl rfl (ceA_cg rfl rfl rfl f261))) (cnA_cg rfl rfl rfl (cnA_cg rfl rfl rfl (cnA_cg rfl rfl rfl f262))) (cvA_cg rfl rfl rfl (cvA_cg rfl rfl rfl (cvA_cg rfl rfl rfl f263))) (stX_cg rfl rfl rfl rfl rfl rfl (stX_cg rfl rfl rfl rfl rfl rfl (stX_cg rfl rfl rfl rfl rfl rfl f264))) (htA_cg rfl (htA_cg rfl (htA_cg rfl f265))) g379_P1 (pG2_cg rfl rfl (pG2_cg rfl rfl (pG2_cg rfl rfl f267))) Y S (lv_sub hl [0, 1, 2, 3, 4] rfl)
                                                                                                                    refine z_if_eq (tgt := 641) X.1 X.2.1 d_M_handed_629 (by decide) ⟨by omega, by omega⟩ (fun h380 => ?_) (fun h380 => ?_)
                                                                                                                    · refine lv_ldc2 (v := (-1)) X.1 X.2.1 X.2.2.2.1 (X.2.2.1 _ cl_M_459) d_M_handed_641 ?_
                                                                                                                      exact J268 ((-1)) I255 J257 B254 G257 _ _ _ (ceA_cg rfl rfl rfl (ceA_cg rfl rfl rfl (ceA_cg (w254.2 0 (by decide)) (w254.2 37 (by decide)) (w254.2 38 (by decide)) (ceA_cg rfl rfl rfl f241)))) (cnA_cg rfl rfl rfl (cnA_cg rfl rfl rfl (cnA_cg (w254.2 0 (by decide)) (w254.2 37 (by decide)) (w254.2 38 (by decide)) (cnA_cg rfl rfl rfl f242)))) (cvA_cg rfl rfl rfl (cvA_cg rfl rfl rfl (cvA_cg (w254.2 0 (by decide)) (w254.2 37 (by decide)) (w254.2 38 (by decide)) (cvA_cg rfl rfl rfl f243)))) f258 (htA_cg rfl (htA_cg rfl (htA_cg (w254.2 0 (by decide)) (htA_cg rfl f245)))) (pG1_cg rfl rfl g255_P1) (pG2_cg rfl rfl (pG2_cg rfl rfl (pG2_cg (w254.2 37 (by decide)) (w254.2 38 (by decide)) (pG2_cg rfl rfl f247)))) Y S (lv_sub hl [0, 1, 2, 3, 4] rfl)
                                                                                                                    · refine lv_aload_n X.1 X.2.1 d_M_handed_632 rfl (lv_at hl 0 rfl) ?_
                                                                                                                      refine lv_iconst (v := iI 4) X.1 X.2.1 d_M_handed_633 (by decide) ?_
                                                                                                                      refine lv_iconst (v := iI 5) X.1 X.2.1 d_M_handed_634 (by decide) ?_
                                                                                                                      refine r_nl (m_run (As := [.int (iI 4), .int (iI 5)]) (rest := [.int (iI ((8 * a2) + z226)), .ref ((q 104))]) (n := 2) X Y hZ hA hml hl.1 (r_M_timeOf l D E h q H.size I255 J257 B254 G257 4 (by decide) (by decide) 5 (by decide) (by decide) S.1 (pG1_cg rfl rfl g255_P1) (pG2_cg rfl rfl (pG2_cg rfl rfl (pG2_cg (w254.2 37 (by decide)) (w254.2 38 (by decide)) (pG2_cg rfl rfl f247))))) kl_M_timeOf ks_M_timeOf kx_M_timeOf ki_M_timeOf ini_M hd_M_timeOf ⟨Nat.le_of_ble_eq_true rfl, Nat.le_of_ble_eq_true rfl⟩ rfl (Nat.le_of_ble_eq_true rfl) d_M_handed_635 ⟨Nat.le_refl _, Nat.le_refl _⟩) X Y hA S (by decide) (by decide) (fun v381 u H locs Y S s381 p381 => ?_)
                                                                                                                      obtain ⟨I381, J381, B381, G381⟩ := u
                                                                                                                      dsimp only at Y S s381 p381
                                                                                                                      have b381 : B254 = B381 := (funext (fun j => s381.2.2 j (by simp))).symm
                                                                                                                      subst b381
                                                                                                                      have g381_P1 := p381
                                                                                                                      refine lv_goto (tgt := 644) X.1 X.2.1 d_M_handed_638 (by decide) ?_
                                                                                                                      exact J268 v381 I381 J381 B254 G381 _ _ _ (ceA_cg rfl rfl rfl (ceA_cg rfl rfl rfl (ceA_cg rfl rfl rfl (ceA_cg (w254.2 0 (by decide)) (w254.2 37 (by decide)) (w254.2 38 (by decide)) (ceA_cg rfl rfl rfl f241))))) (cnA_cg rfl rfl rfl (cnA_cg rfl rfl rfl (cnA_cg rfl rfl rfl (cnA_cg (w254.2 0 (by decide)) (w254.2 37 (by decide)) (w254.2 38 (by decide)) (cnA_cg rfl rfl rfl f242))))) (cvA_cg rfl rfl rfl (cvA_cg rfl rfl rfl (cvA_cg rfl rfl rfl (cvA_cg (w254.2 0 (by decide)) (w254.2 37 (by decide)) (w254.2 38 (by decide)) (cvA_cg rfl rfl rfl f243))))) (stX_cg rfl rfl rfl rfl rfl rfl f258) (htA_cg rfl (htA_cg rfl (htA_cg rfl (htA_cg (w254.2 0 (by decide)) (htA_cg rfl f245))))) g381_P1 (pG2_cg rfl rfl (pG2_cg rfl rfl (pG2_cg rfl rfl (pG2_cg (w254.2 37 (by decide)) (w254.2 38 (by decide)) (pG2_cg rfl rfl f247))))) Y S (lv_sub hl [0, 1, 2, 3, 4] rfl)
                                                                                                                · refine lv_aload_n X.1 X.2.1 d_M_handed_565 rfl (lv_at hl 0 rfl) ?_
                                                                                                                  refine m_get X Y 99 (by decide) lk_ticketKeys (gf_ticketKeys _ _ _) rfl d_M_handed_566 ?_
                                                                                                                  refine lv_bipush (v := iI 32) X.1 X.2.1 d_M_handed_569 (by decide) ?_
                                                                                                                  refine lv_iload X.1 X.2.1 d_M_handed_571 (lv_at hl 4 rfl) ?_
                                                                                                                  refine z_imul X.1 X.2.1 d_M_handed_573 ?_
                                                                                                                  refine lv_iload X.1 X.2.1 d_M_handed_574 (lv_at hl 5 rfl) ?_
                                                                                                                  refine z_iadd X.1 X.2.1 d_M_handed_576 ?_
                                                                                                                  refine lv_aload_n X.1 X.2.1 d_M_handed_577 rfl (lv_at hl 0 rfl) ?_
                                                                                                                  refine m_get X Y 59 (by decide) lk_sub (gf_sub _ _ _) rfl d_M_handed_578 ?_
                                                                                                                  refine lv_iload X.1 X.2.1 d_M_handed_581 (lv_at hl 5 rfl) ?_
                                                                                                                  refine r_bald X Y S (aw_sub _ _ _ _ _ _ _) rfl (by omega) (show z240 < ((32 : Nat) : Int) by omega) (by omega) d_M_handed_583 (fun z382 q382 l382 u382 => ?_)
                                                                                                                  refine r_bast X Y S (aw_ticketKeys _ _ _ _ _ _ _) (sw_ticketKeys _ _ _ _ _ _ _) rfl (by omega) (show (32 * ((8 * a2) + z226)) + z240 < ((1024 : Nat) : Int) by omega) (by omega) (by decide) d_M_handed_584 (fun B383 H locs Y S w383 => ?_)
                                                                                                                  refine lv_iinc (v := iI (z240 + 1)) (lv' := [(10, .int (iI (z240 + 1))), (0, .ref h), (4, .int (iI x116)), (5, .int (iI y116)), (8, .int (iI z226)), (9, .int (iI ((8 * a2) + z226)))]) X.1 X.2.1 d_M_handed_585 hl (k := 5) rfl ((iI_add _ _).trans (congrArg iI (by omega))) (by decide) rfl (fun ls hl => ?_)
                                                                                                                  refine lv_goto (tgt := 558) X.1 X.2.1 d_M_handed_588 (by decide) ?_
                                                                                                                  exact ih249 ((32 - (z240 + 1)).toNat) (by omega) (z240 + 1) I239 J239 B383 G239 _ _ _ rfl (by omega) (by omega) (ceA_cg (w383.2 0 (by decide)) (w383.2 37 (by decide)) (w383.2 38 (by decide)) f241) (cnA_cg (w383.2 0 (by decide)) (w383.2 37 (by decide)) (w383.2 38 (by decide)) f242) (cvA_cg (w383.2 0 (by decide)) (w383.2 37 (by decide)) (w383.2 38 (by decide)) f243) (stX_cg (w383.2 97 (by decide)) (w383.2 98 (by decide)) (w383.2 100 (by decide)) (w383.2 107 (by decide)) (w383.2 108 (by decide)) (w383.2 109 (by decide)) f244) (htA_cg (w383.2 0 (by decide)) f245) (pG1_cg rfl rfl f246) (pG2_cg (w383.2 37 (by decide)) (w383.2 38 (by decide)) f247) Y S (lv_sub hl [1, 2, 3, 4, 5, 0] rfl)
                                                                                                          refine lv_istore (lv' := [(10, .int (iI 0)), (9, .int (iI ((8 * a2) + z226))), (0, .ref h), (2, .int (iI a2)), (4, .int (iI x116)), (5, .int (iI y116)), (7, .int (iI z221)), (8, .int (iI z226))]) X.1 X.2.1 d_M_handed_556 hl (by decide) rfl (fun ls hl => ?_)
                                                                                                          exact J248 _ 0 I221 J221 B238 G221 _ _ _ rfl (by omega) (by omega) (ceA_cg (w238.2 0 (by decide)) (w238.2 37 (by decide)) (w238.2 38 (by decide)) (ceA_cg (w236.2 0 (by decide)) (w236.2 37 (by decide)) (w236.2 38 (by decide)) f224)) (cnA_cg (w238.2 0 (by decide)) (w238.2 37 (by decide)) (w238.2 38 (by decide)) (cnA_cg (w236.2 0 (by decide)) (w236.2 37 (by decide)) (w236.2 38 (by decide)) f223)) (cvA_cg (w238.2 0 (by decide)) (w238.2 37 (by decide)) (w238.2 38 (by decide)) (cvA_cg (w236.2 0 (by decide)) (w236.2 37 (by decide)) (w236.2 38 (by decide)) f222)) (stX_cg (w238.2 97 (by decide)) (w238.2 98 (by decide)) (w238.2 100 (by decide)) (w238.2 107 (by decide)) (w238.2 108 (by decide)) (w238.2 109 (by decide)) f237) (htA_cg (w238.2 0 (by decide)) (htA_cg (w236.2 0 (by decide)) (htA_cg (s221.2.2 0 (by decide)) (htA_cg rfl (htA_cg rfl (htA_cg (s210.2.2 0 (by decide)) (htA_cg rfl f205))))))) (pG1_cg rfl rfl (pG1_cg rfl rfl g221_P1)) (pG2_cg (w238.2 37 (by decide)) (w238.2 38 (by decide)) (pG2_cg (w236.2 37 (by decide)) (w236.2 38 (by decide)) g221_P2)) Y S (lv_sub hl [2, 4, 5, 7, 1, 0] rfl)
                                                                                                      · refine lv_bipush (v := iI (-2)) X.1 X.2.1 d_M_handed_526 (by decide) ?_
                                                                                                        exact m_reti hQQ X Y hr hlk ⟨S, (-2), rfl, ⟨by omega, by omega, g221_P1, g221_P2, (stT_cg (s221.2.2 97 (by decide)) (s221.2.2 98 (by decide)) (s221.2.2 100 (by decide)) (s221.2.2 107 (by decide)) (s221.2.2 108 (by decide)) (s221.2.2 109 (by decide)) f216)⟩⟩ d_M_handed_528
                                                                                                  refine z_icmp_ge (tgt := 519) X.1 X.2.1 d_M_handed_495 (by decide) ⟨by omega, by omega⟩ ⟨by decide, by decide⟩ (fun h384 => ?_) (fun h384 => ?_)
                                                                                                  · exact J231  _ _ _  Y S (lv_sub hl [0, 1, 2, 3, 4, 5] rfl)
                                                                                                  · refine lv_aload_n X.1 X.2.1 d_M_handed_498 rfl (lv_at hl 0 rfl) ?_
                                                                                                    refine m_get X Y 97 (by decide) lk_isTicket (gf_isTicket _ _ _) rfl d_M_handed_499 ?_
                                                                                                    refine lv_bipush (v := iI 8) X.1 X.2.1 d_M_handed_502 (by decide) ?_
                                                                                                    refine lv_iload_n X.1 X.2.1 d_M_handed_504 rfl (lv_at hl 1 rfl) ?_
                                                                                                    refine z_imul X.1 X.2.1 d_M_handed_505 ?_
                                                                                                    refine lv_iload X.1 X.2.1 d_M_handed_506 (lv_at hl 5 rfl) ?_
                                                                                                    refine z_iadd X.1 X.2.1 d_M_handed_508 ?_
                                                                                                    refine r_zald X Y S (aw_isTicket _ _ _ _ _ _ _) rfl (by omega) (show (8 * a2) + z226 < ((32 : Nat) : Int) by omega) (by omega) d_M_handed_509 (fun z385 q385 l385 u385 => ?_)
                                                                                                    refine z_if_eq (tgt := 519) X.1 X.2.1 d_M_handed_510 (by decide) ⟨by omega, by omega⟩ (fun h386 => ?_) (fun h386 => ?_)
                                                                                                    · exact J231  _ _ _  Y S (lv_sub hl [0, 1, 2, 3, 4, 5] rfl)
                                                                                                    · refine lv_iinc (v := iI (z226 + 1)) (lv' := [(8, .int (iI (z226 + 1))), (0, .ref h), (2, .int (iI a2)), (4, .int (iI x116)), (5, .int (iI y116)), (7, .int (iI z221))]) X.1 X.2.1 d_M_handed_513 hl (k := 5) rfl ((iI_add _ _).trans (congrArg iI (by omega))) (by decide) rfl (fun ls hl => ?_)
                                                                                                      refine lv_goto (tgt := 491) X.1 X.2.1 d_M_handed_516 (by decide) ?_
                                                                                                      exact ih228 ((8 - (z226 + 1)).toNat) (by omega) (z226 + 1) _ _ _ rfl (by omega) (by omega) Y S (lv_sub hl [1, 2, 3, 4, 5, 0] rfl)
                                                                                            refine lv_istore (lv' := [(8, .int (iI 0)), (7, .int (iI z221)), (6, .int (iI z161)), (0, .ref h), (1, .int (iI a1)), (2, .int (iI a2)), (4, .int (iI x116)), (5, .int (iI y116))]) X.1 X.2.1 d_M_handed_489 hl (by decide) rfl (fun ls hl => ?_)
                                                                                            exact J227 _ 0 _ _ _ rfl (by omega) (by omega) Y S (lv_sub hl [3, 5, 6, 7, 1, 0] rfl)
                                                                                        · refine lv_bipush (v := iI (-14)) X.1 X.2.1 d_M_handed_485 (by decide) ?_
                                                                                          exact m_reti hQQ X Y hr hlk ⟨S, (-14), rfl, ⟨by omega, by omega, g221_P1, g221_P2, (stT_cg (s221.2.2 97 (by decide)) (s221.2.2 98 (by decide)) (s221.2.2 100 (by decide)) (s221.2.2 107 (by decide)) (s221.2.2 108 (by decide)) (s221.2.2 109 (by decide)) f216)⟩⟩ d_M_handed_487
                                                                                    · refine lv_bipush (v := iI (-60)) X.1 X.2.1 d_M_handed_465 (by decide) ?_
                                                                                      exact m_reti hQQ X Y hr hlk ⟨S, (-60), rfl, ⟨by omega, by omega, (show pG1 I215 from ⟨x217, y217, ex217, ey217, by omega, by omega, by omega, by omega⟩), (pG2_cg rfl rfl (pG2_cg rfl rfl g210_P2)), f216⟩⟩ d_M_handed_467
                                                                                · refine lv_bipush (v := iI (-37)) X.1 X.2.1 d_M_handed_418 (by decide) ?_
                                                                                  exact m_reti hQQ X Y hr hlk ⟨S, (-37), rfl, ⟨by omega, by omega, (pG1_cg rfl rfl g196_P1), (pG2_cg rfl rfl (pG2_cg rfl rfl (pG2_cg rfl rfl (pG2_cg rfl rfl (pG2_cg rfl rfl (pG2_cg rfl rfl (pG2_cg rfl rfl (pG2_cg rfl rfl (pG2_cg rfl rfl (pG2_cg rfl rfl g176_P2)))))))))), (stT_cg rfl rfl rfl rfl rfl rfl (stT_cg rfl rfl rfl rfl rfl rfl (stT_cg rfl rfl rfl rfl rfl rfl (stT_cg rfl rfl rfl rfl rfl rfl (stT_cg rfl rfl rfl rfl rfl rfl (stT_cg rfl rfl rfl rfl rfl rfl (stT_cg rfl rfl rfl rfl rfl rfl f183)))))))⟩⟩ d_M_handed_420
                                                                        · refine lv_bipush (v := iI (-60)) X.1 X.2.1 d_M_handed_388 (by decide) ?_
                                                                          exact m_reti hQQ X Y hr hlk ⟨S, (-60), rfl, ⟨by omega, by omega, (pG1_cg rfl rfl (pG1_cg rfl rfl (pG1_cg rfl rfl (pG1_cg rfl rfl g182_P1)))), (pG2_cg rfl rfl (pG2_cg rfl rfl (pG2_cg rfl rfl (pG2_cg rfl rfl (pG2_cg rfl rfl (pG2_cg rfl rfl (pG2_cg rfl rfl g176_P2))))))), (stT_cg rfl rfl rfl rfl rfl rfl (stT_cg rfl rfl rfl rfl rfl rfl (stT_cg rfl rfl rfl rfl rfl rfl (stT_cg rfl rfl rfl rfl rfl rfl f183))))⟩⟩ d_M_handed_390
                                                    · refine lv_bipush (v := iI (-60)) X.1 X.2.1 d_M_handed_311 (by decide) ?_
                                                      exact m_reti hQQ X Y hr hlk ⟨S, (-60), rfl, ⟨by omega, by omega, g172_P1, (pG2_cg rfl rfl (pG2_cg rfl rfl (pG2_cg rfl rfl g165_P2))), f173⟩⟩ d_M_handed_313
                                            · refine lv_bipush (v := iI (-31)) X.1 X.2.1 d_M_handed_266 (by decide) ?_
                                              exact m_reti hQQ X Y hr hlk ⟨S, (-31), rfl, ⟨by omega, by omega, (pG1_cg (s161.2.1 39 (by decide)) (s161.2.1 40 (by decide)) (show pG1 I158 from ⟨x159, y159, ex159, ey159, by omega, by omega, by omega, by omega⟩)), (pG2_cg (s161.2.2 37 (by decide)) (s161.2.2 38 (by decide)) (pG2_cg rfl rfl (pG2_cg rfl rfl (pG2_cg rfl rfl (pG2_cg rfl rfl g148_P2))))), f162⟩⟩ d_M_handed_268
                                        · refine lv_bipush (v := iI (-31)) X.1 X.2.1 d_M_handed_209 (by decide) ?_
                                          exact m_reti hQQ X Y hr hlk ⟨S, (-31), rfl, ⟨by omega, by omega, g149_P1, (pG2_cg rfl rfl g148_P2), f150⟩⟩ d_M_handed_211
                                    · refine lv_aload_n X.1 X.2.1 d_M_handed_144 rfl (lv_at hl 0 rfl) ?_
                                      refine m_get X Y 58 (by decide) lk_key (gf_key _ _ _) rfl d_M_handed_145 ?_
                                      refine lv_iload X.1 X.2.1 d_M_handed_148 (lv_at hl 5 rfl) ?_
                                      refine lv_aload_n X.1 X.2.1 d_M_handed_150 rfl (lv_at hl 0 rfl) ?_
                                      refine m_get X Y 136 (by decide) lk_sessionKeys (gf_sessionKeys _ _ _) rfl d_M_handed_151 ?_
                                      refine lv_bipush (v := iI 32) X.1 X.2.1 d_M_handed_154 (by decide) ?_
                                      refine lv_iload_n X.1 X.2.1 d_M_handed_156 rfl (lv_at hl 1 rfl) ?_
                                      refine z_imul X.1 X.2.1 d_M_handed_157 ?_
                                      refine lv_iload X.1 X.2.1 d_M_handed_158 (lv_at hl 5 rfl) ?_
                                      refine z_iadd X.1 X.2.1 d_M_handed_160 ?_
                                      refine r_bald X Y S (aw_sessionKeys _ _ _ _ _ _ _) rfl (by omega) (show (32 * a1) + z135 < ((256 : Nat) : Int) by omega) (by omega) d_M_handed_161 (fun z387 q387 l387 u387 => ?_)
                                      refine r_bast X Y S (aw_key _ _ _ _ _ _ _) (sw_key _ _ _ _ _ _ _) rfl (by omega) (show z135 < ((32 : Nat) : Int) by omega) (by omega) (by decide) d_M_handed_162 (fun B388 H locs Y S w388 => ?_)
                                      refine lv_iinc (v := iI (z135 + 1)) (lv' := [(6, .int (iI (z135 + 1))), (0, .ref h), (1, .int (iI a1)), (2, .int (iI a2)), (4, .int (iI x116)), (5, .int (iI y116))]) X.1 X.2.1 d_M_handed_163 hl (k := 5) rfl ((iI_add _ _).trans (congrArg iI (by omega))) (by decide) rfl (fun ls hl => ?_)
                                      refine lv_goto (tgt := 137) X.1 X.2.1 d_M_handed_166 (by decide) ?_
                                      exact ih141 ((32 - (z135 + 1)).toNat) (by omega) (z135 + 1) I134 J134 B388 G134 _ _ _ rfl (by omega) (by omega) (stT_cg (w388.2 97 (by decide)) (w388.2 98 (by decide)) (w388.2 100 (by decide)) (w388.2 107 (by decide)) (w388.2 108 (by decide)) (w388.2 109 (by decide)) f136) (htA_cg (w388.2 0 (by decide)) f137) (pG1_cg rfl rfl f138) (pG2_cg (w388.2 37 (by decide)) (w388.2 38 (by decide)) f139) Y S (lv_sub hl [1, 2, 3, 4, 5, 0] rfl)
                              refine lv_istore (lv' := [(6, .int (iI 0)), (5, .int (iI y116)), (4, .int (iI x116)), (3, .int (iI z101)), (0, .ref h), (1, .int (iI a1)), (2, .int (iI a2))]) X.1 X.2.1 d_M_handed_135 hl (by decide) rfl (fun ls hl => ?_)
                              exact J140 _ 0 I130 J130 B107 G130 _ _ _ rfl (by omega) (by omega) f131 (htA_cg rfl (htA_cg rfl (htA_cg rfl (htA_cg rfl (htA_cg rfl f119))))) g130_P1 (pG2_cg rfl rfl (pG2_cg rfl rfl (pG2_cg rfl rfl (pG2_cg rfl rfl (pG2_cg rfl rfl (pG2_cg rfl rfl (pG2_cg rfl rfl (pG2_cg rfl rfl g107_P2)))))))) Y S (lv_sub hl [4, 5, 6, 2, 1, 0] rfl)
                          · refine lv_bipush (v := iI (-40)) X.1 X.2.1 d_M_handed_131 (by decide) ?_
                            exact m_reti hQQ X Y hr hlk ⟨S, (-40), rfl, ⟨by omega, by omega, g130_P1, (pG2_cg rfl rfl (pG2_cg rfl rfl (pG2_cg rfl rfl (pG2_cg rfl rfl (pG2_cg rfl rfl (pG2_cg rfl rfl (pG2_cg rfl rfl (pG2_cg rfl rfl g107_P2)))))))), f131⟩⟩ d_M_handed_133
                      · refine lv_bipush (v := iI (-3)) X.1 X.2.1 d_M_handed_115 (by decide) ?_
                        exact m_reti hQQ X Y hr hlk ⟨S, (-3), rfl, ⟨by omega, by omega, g127_P1, (pG2_cg rfl rfl (pG2_cg rfl rfl (pG2_cg rfl rfl (pG2_cg rfl rfl (pG2_cg rfl rfl (pG2_cg rfl rfl (pG2_cg rfl rfl g107_P2))))))), (stT_cg rfl rfl rfl rfl rfl rfl (stT_cg rfl rfl rfl rfl rfl rfl (stT_cg rfl rfl rfl rfl rfl rfl (stT_cg rfl rfl rfl rfl rfl rfl (stT_cg rfl rfl rfl rfl rfl rfl (stT_cg rfl rfl rfl rfl rfl rfl (stT_cg rfl rfl rfl rfl rfl rfl f108)))))))⟩⟩ d_M_handed_117
                  · refine lv_bipush (v := iI (-60)) X.1 X.2.1 d_M_handed_99 (by decide) ?_
                    exact m_reti hQQ X Y hr hlk ⟨S, (-60), rfl, ⟨by omega, by omega, g124_P1, (pG2_cg rfl rfl (pG2_cg rfl rfl (pG2_cg rfl rfl (pG2_cg rfl rfl (pG2_cg rfl rfl (pG2_cg rfl rfl g107_P2)))))), (stT_cg rfl rfl rfl rfl rfl rfl (stT_cg rfl rfl rfl rfl rfl rfl (stT_cg rfl rfl rfl rfl rfl rfl (stT_cg rfl rfl rfl rfl rfl rfl (stT_cg rfl rfl rfl rfl rfl rfl (stT_cg rfl rfl rfl rfl rfl rfl f108))))))⟩⟩ d_M_handed_101
              · refine lv_bipush (v := iI (-60)) X.1 X.2.1 d_M_handed_64 (by decide) ?_
                exact m_reti hQQ X Y hr hlk ⟨S, (-60), rfl, ⟨by omega, by omega, g115_P1, (pG2_cg rfl rfl (pG2_cg rfl rfl (pG2_cg rfl rfl g107_P2))), (stT_cg rfl rfl rfl rfl rfl rfl (stT_cg rfl rfl rfl rfl rfl rfl (stT_cg rfl rfl rfl rfl rfl rfl f108)))⟩⟩ d_M_handed_66
      · refine lv_iconst (v := iI (-1)) X.1 X.2.1 d_M_handed_27 (by decide) ?_
        exact m_reti hQQ X Y hr hlk ⟨S, (-1), rfl, ⟨by omega, by omega, (pG1_cg rfl rfl (pG1_cg rfl rfl (pG1_cg (w102.2 39 (by decide)) (w102.2 40 (by decide)) f_P1))), (pG2_cg rfl rfl (pG2_cg rfl rfl (pG2_cg rfl rfl f_P2))), (stT_cg rfl rfl rfl rfl rfl rfl (stT_cg rfl rfl rfl rfl rfl rfl (stT_cg rfl rfl rfl rfl rfl rfl f_FT)))⟩⟩ d_M_handed_28
