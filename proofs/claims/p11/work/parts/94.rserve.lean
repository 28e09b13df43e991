set_option maxHeartbeats 4000000 in
set_option maxRecDepth 100000 in
theorem r_M_served (l : Launch) (D : mD) (E : mE) (h : Nat) (q : Nat → Nat) (sz : Nat) (I : Nat → Int32) (J : Nat → Int64) (B : Nat → Nat → Int32) (G : Nat → Nat → Int64) (a1 : Int) (l_a1 : 0 ≤ a1) (u_a1 : a1 ≤ 11) (a2 : Int) (l_a2 : 0 ≤ a2) (u_a2 : a2 ≤ 4000) (hT : rT I B) (cn : Int) (gcn : I 33 = iI cn) (lcn : 0 ≤ cn) (ucn : cn ≤ 1900000) (f_P1 : pG1 I) (f_P2 : pG2 (B 37) (B 38)) : Met l y_M_served (k_M_served :: lw_tg) (mR 46 2072) (va_Pc [.ref h, .int (iI a1), .int (iI a2)] (mPre D E h q (I, J, B, G) sz)) (va_Qi (rPi [3, 8, 14, 18, 33, 36, 39, 40, 42, 54, 79, 80] [0, 1, 5, 6, 7, 9, 10, 11, 12, 13, 15, 16, 17, 19, 20, 21, 22, 23, 34, 35, 37, 38, 53, 58, 59, 61, 62, 63, 64, 133, 134, 135, 136, 141, 142, 143] I B (fun (z : Int) (u : mS) => (-60) ≤ z ∧ z ≤ 8 ∧ (∃ V2 : Int, u.1 33 = iI V2 ∧ cn ≤ V2 ∧ V2 ≤ cn + 900) ∧ pG1 u.1 ∧ pG2 (u.2.2.1 37) (u.2.2.1 38))) (mPost D E h q (mA E h q sz)) (mA E h q sz)) 0 0 (mA E h q sz) := by
  refine m_enter (by decide) rfl (Nat.le_of_ble_eq_true rfl) (fun p e s m below meth c ls AV QQ H locs hQQ X Y hZ hA hr hlk hml hl => ?_)
  have Y : mH D E (mA E h q sz) s.heap h q I J B G H locs := Y
  have S : rS [3, 8, 14, 18, 33, 36, 39, 40, 42, 54, 79, 80] [0, 1, 5, 6, 7, 9, 10, 11, 12, 13, 15, 16, 17, 19, 20, 21, 22, 23, 34, 35, 37, 38, 53, 58, 59, 61, 62, 63, 64, 133, 134, 135, 136, 141, 142, 143] I B I B := rS_rf hT
  have hl : lv_has ls 8 [(0, .ref h), (1, .int (iI a1)), (2, .int (iI a2))] := hl
  refine lv_aload_n X.1 X.2.1 d_M_served_0 rfl (lv_at hl 0 rfl) ?_
  refine lv_bipush (v := iI 14) X.1 X.2.1 d_M_served_1 (by decide) ?_
  refine m_ldcSW (i := 14) X (by decide) (by decide) d_M_served_3 ?_
  refine lv_iconst (v := iI 0) X.1 X.2.1 d_M_served_6 (by decide) ?_
  refine lv_iload_n X.1 X.2.1 d_M_served_7 rfl (lv_at hl 2 rfl) ?_
  refine lv_iconst (v := iI 2) X.1 X.2.1 d_M_served_8 (by decide) ?_
  refine r_ni (m_run (As := [.int (iI 14), .ref ((D.2.1 14)), .int (iI 0), .int (iI a2), .int (iI 2)]) (rest := []) (n := 5) X Y hZ hA hml hl.1 (r_M_applied_t l D E h q H.size I J B G 14 (by decide) (by decide) 14 (show 14 < nZ by decide) 0 (by decide) (by decide) a2 (by omega) (by omega) 2 (by decide) (by decide) S.1 5 (B 0) rfl (isF (B 0) 5) (by decide) (hisU (show rki 14 ≤ 5 by decide)) f_P1 f_P2 (by omega) (by omega)) kl_M_applied ks_M_applied kx_M_applied ki_M_applied ini_M hd_M_applied ⟨Nat.le_of_ble_eq_true rfl, Nat.le_of_ble_eq_true rfl⟩ rfl (Nat.le_of_ble_eq_true rfl) d_M_served_9 ⟨Nat.le_refl _, Nat.le_refl _⟩) X Y hA S (by decide) (by decide) (fun z101 u H locs Y S s101 p101 => ?_)
  obtain ⟨I101, J101, B101, G101⟩ := u
  dsimp only at Y S s101 p101
  obtain ⟨l101, u101, x101, st101, g101_P1, g101_P2⟩ := p101
  have g101_TF : thF [2] (B 37) (B 38) (B101 37) (B101 38) := thF_of st101.1
  refine z_if_ne (tgt := 18) X.1 X.2.1 d_M_served_12 (by decide) ⟨by omega, by omega⟩ (fun h102 => ?_) (fun h102 => ?_)
  · have wa103 := (x101.mp (by omega)).1
    unfold whP at wa103
    have ra103 := el_rng (B 0) (a := 0) (b := a2) (.inl (by omega))
    have a103 := apreq_T (m := (B 0)) (x101.mp (by omega)).2 (by omega) (st101.2 (by omega))
    rw [← s101.2.2 0 (by decide)] at a103
    have wa104 := (x101.mp (by omega)).1
    unfold whP at wa104
    have ra104 := el_rng (B 0) (a := 0) (b := a2) (.inl (by omega))
    have a104 := apreq_T (m := (B 0)) (x101.mp (by omega)).2 (by omega) (st101.2 (by omega))
    rw [← s101.2.2 0 (by decide)] at a104
    refine lv_aload_n X.1 X.2.1 d_M_served_18 rfl (lv_at hl 0 rfl) ?_
    refine lv_iconst (v := iI 2) X.1 X.2.1 d_M_served_19 (by decide) ?_
    refine lv_iconst (v := iI 0) X.1 X.2.1 d_M_served_20 (by decide) ?_
    refine r_nl (m_run (As := [.int (iI 2), .int (iI 0)]) (rest := []) (n := 2) X Y hZ hA hml hl.1 (r_M_numberAt l D E h q H.size I101 J101 B101 G101 2 (by decide) (by decide) 0 (by decide) (by decide) S.1 g101_P1 g101_P2) kl_M_numberAt ks_M_numberAt kx_M_numberAt ki_M_numberAt ini_M hd_M_numberAt ⟨Nat.le_of_ble_eq_true rfl, Nat.le_of_ble_eq_true rfl⟩ rfl (Nat.le_of_ble_eq_true rfl) d_M_served_21 ⟨Nat.le_refl _, Nat.le_refl _⟩) X Y hA S (by decide) (by decide) (fun v105 u H locs Y S s105 p105 => ?_)
    obtain ⟨I105, J105, B105, G105⟩ := u
    dsimp only at Y S s105 p105
    have b105 : B101 = B105 := (funext (fun j => s105.2.2 j (by simp))).symm
    subst b105
    have g105_P1 := p105
    refine lv_ldc2 (v := (5)) X.1 X.2.1 X.2.2.2.1 (X.2.2.1 _ cl_M_669) d_M_served_24 ?_
    refine W.lcmp X.1 X.2.1 d_M_served_27 ?_
    refine t_u (fun z106 l106 u106 => ?_)
    refine z_if_eq (tgt := 34) X.1 X.2.1 d_M_served_28 (by decide) ⟨by omega, by omega⟩ (fun h107 => ?_) (fun h107 => ?_)
    · refine lv_aload_n X.1 X.2.1 d_M_served_34 rfl (lv_at hl 0 rfl) ?_
      refine lv_iconst (v := iI 2) X.1 X.2.1 d_M_served_35 (by decide) ?_
      refine lv_iconst (v := iI 1) X.1 X.2.1 d_M_served_36 (by decide) ?_
      refine r_nl (m_run (As := [.int (iI 2), .int (iI 1)]) (rest := []) (n := 2) X Y hZ hA hml hl.1 (r_M_numberAt l D E h q H.size I105 J105 B101 G105 2 (by decide) (by decide) 1 (by decide) (by decide) S.1 g105_P1 (pG2_cg rfl rfl g101_P2)) kl_M_numberAt ks_M_numberAt kx_M_numberAt ki_M_numberAt ini_M hd_M_numberAt ⟨Nat.le_of_ble_eq_true rfl, Nat.le_of_ble_eq_true rfl⟩ rfl (Nat.le_of_ble_eq_true rfl) d_M_served_37 ⟨Nat.le_refl _, Nat.le_refl _⟩) X Y hA S (by decide) (by decide) (fun v108 u H locs Y S s108 p108 => ?_)
      obtain ⟨I108, J108, B108, G108⟩ := u
      dsimp only at Y S s108 p108
      have b108 : B101 = B108 := (funext (fun j => s108.2.2 j (by simp))).symm
      subst b108
      have g108_P1 := p108
      refine lv_ldc2 (v := (14)) X.1 X.2.1 X.2.2.2.1 (X.2.2.1 _ cl_M_799) d_M_served_40 ?_
      refine W.lcmp X.1 X.2.1 d_M_served_43 ?_
      refine t_u (fun z109 l109 u109 => ?_)
      refine z_if_eq (tgt := 50) X.1 X.2.1 d_M_served_44 (by decide) ⟨by omega, by omega⟩ (fun h110 => ?_) (fun h110 => ?_)
      · refine lv_aload_n X.1 X.2.1 d_M_served_50 rfl (lv_at hl 0 rfl) ?_
        refine lv_iconst (v := iI 2) X.1 X.2.1 d_M_served_51 (by decide) ?_
        refine lv_iconst (v := iI 2) X.1 X.2.1 d_M_served_52 (by decide) ?_
        refine r_ni (m_run (As := [.int (iI 2), .int (iI 2)]) (rest := []) (n := 2) X Y hZ hA hml hl.1 (r_M_flagsAt l D E h q H.size I108 J108 B101 G108 2 (by decide) (by decide) 2 (by decide) (by decide) S.1 g108_P1 (pG2_cg rfl rfl (pG2_cg rfl rfl g101_P2))) kl_M_flagsAt ks_M_flagsAt kx_M_flagsAt ki_M_flagsAt ini_M hd_M_flagsAt ⟨Nat.le_of_ble_eq_true rfl, Nat.le_of_ble_eq_true rfl⟩ rfl (Nat.le_of_ble_eq_true rfl) d_M_served_53 ⟨Nat.le_refl _, Nat.le_refl _⟩) X Y hA S (by decide) (by decide) (fun z111 u H locs Y S s111 p111 => ?_)
        obtain ⟨I111, J111, B111, G111⟩ := u
        dsimp only at Y S s111 p111
        have b111 : B101 = B111 := (funext (fun j => s111.2.2 j (by simp))).symm
        subst b111
        obtain ⟨l111, u111, g111_P1⟩ := p111
        refine lv_iconst (v := iI 2) X.1 X.2.1 d_M_served_56 (by decide) ?_
        refine p_calli (As := [.int (iI 2)]) (rest := [.int (iI z111)]) (n := 1) X Y hml hl.1 (r_M_bitOf l 2 (by decide) (by decide)) kl_M_bitOf ks_M_bitOf ki_M_bitOf ini_M hd_M_bitOf ⟨Nat.le_of_ble_eq_true rfl, Nat.le_of_ble_eq_true rfl⟩ rfl (Nat.le_of_ble_eq_true rfl) d_M_served_57 ⟨Nat.le_refl _, Nat.le_refl _⟩ (fun r112 H locs p112 Y => ?_)
        obtain ⟨z112, e112, p112⟩ := p112
        subst e112
        obtain ⟨l112, u112⟩ := p112
        refine lv_iconst (v := iI (-1)) X.1 X.2.1 d_M_served_60 (by decide) ?_
        refine lv_ixor X.1 X.2.1 d_M_served_61 ?_
        refine t_u (fun z113 l113 u113 => ?_)
        refine lv_iand X.1 X.2.1 d_M_served_62 ?_
        refine t_u (fun z115 l115 u115 => ?_)
        refine z_if_ne (tgt := 75) X.1 X.2.1 d_M_served_63 (by decide) ⟨by omega, by omega⟩ (fun h116 => ?_) (fun h116 => ?_)
        · refine lv_bipush (v := iI (-13)) X.1 X.2.1 d_M_served_75 (by decide) ?_
          exact m_reti hQQ X Y hr hlk ⟨S, (-13), rfl, ⟨by omega, by omega, ⟨cn, ((s111.2.1 33 (by decide)).trans ((s108.2.1 33 (by decide)).trans ((s105.2.1 33 (by decide)).trans ((s101.2.1 33 (by decide)).trans gcn)))), by omega, by omega⟩, g111_P1, (pG2_cg rfl rfl (pG2_cg rfl rfl (pG2_cg rfl rfl g101_P2)))⟩⟩ d_M_served_77
        · refine lv_aload_n X.1 X.2.1 d_M_served_66 rfl (lv_at hl 0 rfl) ?_
          refine lv_iconst (v := iI 2) X.1 X.2.1 d_M_served_67 (by decide) ?_
          refine lv_iconst (v := iI 2) X.1 X.2.1 d_M_served_68 (by decide) ?_
          refine r_ni (m_run (As := [.int (iI 2), .int (iI 2)]) (rest := []) (n := 2) X Y hZ hA hml hl.1 (r_M_hasMoreFlags l D E h q H.size I111 J111 B101 G111 2 (by decide) (by decide) 2 (by decide) (by decide) S.1 g111_P1 (pG2_cg rfl rfl (pG2_cg rfl rfl (pG2_cg rfl rfl g101_P2)))) kl_M_hasMoreFlags ks_M_hasMoreFlags kx_M_hasMoreFlags ki_M_hasMoreFlags ini_M hd_M_hasMoreFlags ⟨Nat.le_of_ble_eq_true rfl, Nat.le_of_ble_eq_true rfl⟩ rfl (Nat.le_of_ble_eq_true rfl) d_M_served_69 ⟨Nat.le_refl _, Nat.le_refl _⟩) X Y hA S (by decide) (by decide) (fun z117 u H locs Y S s117 p117 => ?_)
          obtain ⟨I117, J117, B117, G117⟩ := u
          dsimp only at Y S s117 p117
          have b117 : B101 = B117 := (funext (fun j => s117.2.2 j (by simp))).symm
          subst b117
          obtain ⟨l117, u117, g117_P1⟩ := p117
          refine z_if_eq (tgt := 78) X.1 X.2.1 d_M_served_72 (by decide) ⟨by omega, by omega⟩ (fun h118 => ?_) (fun h118 => ?_)
          · refine lv_aload_n X.1 X.2.1 d_M_served_78 rfl (lv_at hl 0 rfl) ?_
            refine lv_aload_n X.1 X.2.1 d_M_served_79 rfl (lv_at hl 0 rfl) ?_
            refine lv_iconst (v := iI 2) X.1 X.2.1 d_M_served_80 (by decide) ?_
            refine lv_iconst (v := iI 2) X.1 X.2.1 d_M_served_81 (by decide) ?_
            refine r_ni (m_run (As := [.int (iI 2), .int (iI 2)]) (rest := [.ref h]) (n := 2) X Y hZ hA hml hl.1 (r_M_flagsAt l D E h q H.size I117 J117 B101 G117 2 (by decide) (by decide) 2 (by decide) (by decide) S.1 g117_P1 (pG2_cg rfl rfl (pG2_cg rfl rfl (pG2_cg rfl rfl (pG2_cg rfl rfl g101_P2))))) kl_M_flagsAt ks_M_flagsAt kx_M_flagsAt ki_M_flagsAt ini_M hd_M_flagsAt ⟨Nat.le_of_ble_eq_true rfl, Nat.le_of_ble_eq_true rfl⟩ rfl (Nat.le_of_ble_eq_true rfl) d_M_served_82 ⟨Nat.le_refl _, Nat.le_refl _⟩) X Y hA S (by decide) (by decide) (fun z119 u H locs Y S s119 p119 => ?_)
            obtain ⟨I119, J119, B119, G119⟩ := u
            dsimp only at Y S s119 p119
            have b119 : B101 = B119 := (funext (fun j => s119.2.2 j (by simp))).symm
            subst b119
            obtain ⟨l119, u119, g119_P1⟩ := p119
            refine lv_iconst (v := iI 2) X.1 X.2.1 d_M_served_85 (by decide) ?_
            refine r_ni (m_run (As := [.int (iI z119), .int (iI 2)]) (rest := []) (n := 2) X Y hZ hA hml hl.1 (r_M_bit l D E h q H.size I119 J119 B101 G119 z119 (by omega) (by omega) 2 (by decide) (by decide) S.1) kl_M_bit ks_M_bit kx_M_bit ki_M_bit ini_M hd_M_bit ⟨Nat.le_of_ble_eq_true rfl, Nat.le_of_ble_eq_true rfl⟩ rfl (Nat.le_of_ble_eq_true rfl) d_M_served_86 ⟨Nat.le_refl _, Nat.le_refl _⟩) X Y hA S (by decide) (by decide) (fun z120 u H locs Y S s120 p120 => ?_)
            obtain ⟨I120, J120, B120, G120⟩ := u
            dsimp only at Y S s120 p120
            have i120 : I119 = I120 := (funext (fun j => s120.2.1 j (by simp))).symm
            subst i120
            have b120 : B101 = B120 := (funext (fun j => s120.2.2 j (by simp))).symm
            subst b120
            obtain ⟨l120, u120⟩ := p120
            refine lv_istore_n (lv' := [(3, .int (iI z120)), (0, .ref h), (1, .int (iI a1)), (2, .int (iI a2))]) X.1 X.2.1 d_M_served_89 rfl hl (by decide) rfl (fun ls hl => ?_)
            refine lv_aload_n X.1 X.2.1 d_M_served_90 rfl (lv_at hl 1 rfl) ?_
            refine lv_aload_n X.1 X.2.1 d_M_served_91 rfl (lv_at hl 1 rfl) ?_
            refine lv_iconst (v := iI 2) X.1 X.2.1 d_M_served_92 (by decide) ?_
            refine lv_iconst (v := iI 3) X.1 X.2.1 d_M_served_93 (by decide) ?_
            refine r_ni (m_run (As := [.int (iI 2), .int (iI 3)]) (rest := [.ref h]) (n := 2) X Y hZ hA hml hl.1 (r_M_a l D E h q H.size I119 J120 B101 G120 2 (by decide) (by decide) 3 (by decide) (by decide) S.1) kl_M_a ks_M_a kx_M_a ki_M_a ini_M hd_M_a ⟨Nat.le_of_ble_eq_true rfl, Nat.le_of_ble_eq_true rfl⟩ rfl (Nat.le_of_ble_eq_true rfl) d_M_served_94 ⟨Nat.le_refl _, Nat.le_refl _⟩) X Y hA S (by decide) (by decide) (fun z121 u H locs Y S s121 p121 => ?_)
            obtain ⟨I121, J121, B121, G121⟩ := u
            dsimp only at Y S s121 p121
            have i121 : I119 = I121 := (funext (fun j => s121.2.1 j (by simp))).symm
            subst i121
            have b121 : B101 = B121 := (funext (fun j => s121.2.2 j (by simp))).symm
            subst b121
            obtain ⟨l121, u121, x121⟩ := p121
            refine lv_aload_n X.1 X.2.1 d_M_served_97 rfl (lv_at hl 1 rfl) ?_
            refine lv_iconst (v := iI 2) X.1 X.2.1 d_M_served_98 (by decide) ?_
            refine lv_iconst (v := iI 3) X.1 X.2.1 d_M_served_99 (by decide) ?_
            refine r_ni (m_run (As := [.int (iI 2), .int (iI 3)]) (rest := [.int (iI z121), .ref h]) (n := 2) X Y hZ hA hml hl.1 (r_M_b l D E h q H.size I119 J121 B101 G121 2 (by decide) (by decide) 3 (by decide) (by decide) S.1) kl_M_b ks_M_b kx_M_b ki_M_b ini_M hd_M_b ⟨Nat.le_of_ble_eq_true rfl, Nat.le_of_ble_eq_true rfl⟩ rfl (Nat.le_of_ble_eq_true rfl) d_M_served_100 ⟨Nat.le_refl _, Nat.le_refl _⟩) X Y hA S (by decide) (by decide) (fun z122 u H locs Y S s122 p122 => ?_)
            obtain ⟨I122, J122, B122, G122⟩ := u
            dsimp only at Y S s122 p122
            have i122 : I119 = I122 := (funext (fun j => s122.2.1 j (by simp))).symm
            subst i122
            have b122 : B101 = B122 := (funext (fun j => s122.2.2 j (by simp))).symm
            subst b122
            obtain ⟨l122, u122, x122⟩ := p122
            have p123 : pr z121 z122 := by rw [x121, x122]; exact (pG2_cg rfl rfl (pG2_cg rfl rfl (pG2_cg rfl rfl (pG2_cg rfl rfl (pG2_cg rfl rfl (pG2_cg rfl rfl (pG2_cg rfl rfl (pG2_cg rfl rfl g101_P2)))))))) (16 * 2 + 3 : Int).toNat (by omega)
            unfold pr at p123
            refine lv_bipush (v := iI 97) X.1 X.2.1 d_M_served_103 (by decide) ?_
            refine r_ni (m_run (As := [.int (iI z121), .int (iI z122), .int (iI 97)]) (rest := []) (n := 3) X Y hZ hA hml hl.1 (r_M_whole l D E h q H.size I119 J122 B101 G122 z121 (by omega) (by omega) z122 (by omega) (by omega) 97 (by decide) (by decide) S.1 (B101 0) rfl (pG1_cg rfl rfl (pG1_cg rfl rfl (pG1_cg rfl rfl g119_P1))) (by omega) (by omega)) kl_M_whole ks_M_whole kx_M_whole ki_M_whole ini_M hd_M_whole ⟨Nat.le_of_ble_eq_true rfl, Nat.le_of_ble_eq_true rfl⟩ rfl (Nat.le_of_ble_eq_true rfl) d_M_served_105 ⟨Nat.le_refl _, Nat.le_refl _⟩) X Y hA S (by decide) (by decide) (fun z124 u H locs Y S s124 p124 => ?_)
            obtain ⟨I124, J124, B124, G124⟩ := u
            dsimp only at Y S s124 p124
            have b124 : B101 = B124 := (funext (fun j => s124.2.2 j (by simp))).symm
            subst b124
            obtain ⟨l124, u124, x124, st124⟩ := p124
            obtain ⟨x125, y125, ex125, ey125, lx125, ly125, uy125, dy125, iy125⟩ := st124
            have zw124 : z124 = 1 := x124.mpr (by rw [x121, x122]; exact a104)
            refine lv_pop X.1 X.2.1 d_M_served_108 rfl ?_
            refine lv_aload_n X.1 X.2.1 d_M_served_109 rfl (lv_at hl 1 rfl) ?_
            refine m_ldcSW (i := 7) X (by decide) (by decide) d_M_served_110 ?_
            refine lv_aload_n X.1 X.2.1 d_M_served_113 rfl (lv_at hl 1 rfl) ?_
            refine r_get0 X Y (by decide) lk_inside (gf_inside _ _ _) rfl ex125 d_M_served_114 ?_
            refine lv_aload_n X.1 X.2.1 d_M_served_117 rfl (lv_at hl 1 rfl) ?_
            refine lv_iconst (v := iI 2) X.1 X.2.1 d_M_served_118 (by decide) ?_
            refine lv_iconst (v := iI 3) X.1 X.2.1 d_M_served_119 (by decide) ?_
            refine r_ni (m_run (As := [.int (iI 2), .int (iI 3)]) (rest := [.int (iI x125), .ref ((D.2.1 7)), .ref h]) (n := 2) X Y hZ hA hml hl.1 (r_M_b l D E h q H.size I124 J124 B101 G124 2 (by decide) (by decide) 3 (by decide) (by decide) S.1) kl_M_b ks_M_b kx_M_b ki_M_b ini_M hd_M_b ⟨Nat.le_of_ble_eq_true rfl, Nat.le_of_ble_eq_true rfl⟩ rfl (Nat.le_of_ble_eq_true rfl) d_M_served_120 ⟨Nat.le_refl _, Nat.le_refl _⟩) X Y hA S (by decide) (by decide) (fun z126 u H locs Y S s126 p126 => ?_)
            obtain ⟨I126, J126, B126, G126⟩ := u
            dsimp only at Y S s126 p126
            have i126 : I124 = I126 := (funext (fun j => s126.2.1 j (by simp))).symm
            subst i126
            have b126 : B101 = B126 := (funext (fun j => s126.2.2 j (by simp))).symm
            subst b126
            obtain ⟨l126, u126, x126⟩ := p126
            have p127 : pr z121 z126 := by rw [x121, x126]; exact (pG2_cg rfl rfl (pG2_cg rfl rfl (pG2_cg rfl rfl (pG2_cg rfl rfl (pG2_cg rfl rfl (pG2_cg rfl rfl (pG2_cg rfl rfl (pG2_cg rfl rfl (pG2_cg rfl rfl (pG2_cg rfl rfl g101_P2)))))))))) (16 * 2 + 3 : Int).toNat (by omega)
            unfold pr at p127
            refine lv_iconst (v := iI 3) X.1 X.2.1 d_M_served_123 (by decide) ?_
            refine r_ni (m_run (As := [.ref ((D.2.1 7)), .int (iI x125), .int (iI z126), .int (iI 3)]) (rest := []) (n := 4) X Y hZ hA hml hl.1 (r_M_sequence_t l D E h q H.size I124 J126 B101 G126 7 (show 7 < nZ by decide) x125 (by omega) (by omega) z126 (by omega) (by omega) 3 (by decide) (by decide) S.1 5 (B101 0) rfl (isF (B101 0) 5) (by decide) (hisU (show rki 7 ≤ 5 by decide)) (pG1_cg rfl rfl (show pG1 I124 from ⟨x125, y125, ex125, ey125, by omega, by omega, by omega, by omega⟩)) (pG2_cg rfl rfl (pG2_cg rfl rfl (pG2_cg rfl rfl (pG2_cg rfl rfl (pG2_cg rfl rfl (pG2_cg rfl rfl (pG2_cg rfl rfl (pG2_cg rfl rfl (pG2_cg rfl rfl (pG2_cg rfl rfl g101_P2)))))))))) (by omega) (by omega)) kl_M_sequence ks_M_sequence kx_M_sequence ki_M_sequence ini_M hd_M_sequence ⟨Nat.le_of_ble_eq_true rfl, Nat.le_of_ble_eq_true rfl⟩ rfl (Nat.le_of_ble_eq_true rfl) d_M_served_124 ⟨Nat.le_refl _, Nat.le_refl _⟩) X Y hA S (by decide) (by decide) (fun z128 u H locs Y S s128 p128 => ?_)
            obtain ⟨I128, J128, B128, G128⟩ := u
            dsimp only at Y S s128 p128
            obtain ⟨l128, u128, x128, st128, g128_P1, g128_P2⟩ := p128
            have g128_TF : thF [3] (B101 37) (B101 38) (B128 37) (B128 38) := thF_of st128.1
            refine lv_pop X.1 X.2.1 d_M_served_127 rfl ?_
            refine lv_aload_n X.1 X.2.1 d_M_served_128 rfl (lv_at hl 1 rfl) ?_
            refine lv_iload_n X.1 X.2.1 d_M_served_129 rfl (lv_at hl 2 rfl) ?_
            refine lv_iconst (v := iI 0) X.1 X.2.1 d_M_served_130 (by decide) ?_
            refine r_ni (m_run (As := [.int (iI a1), .int (iI 0)]) (rest := []) (n := 2) X Y hZ hA hml hl.1 (r_M_opensTicket l D E h q H.size I128 J128 B128 G128 a1 (by omega) (by omega) 0 (by decide) (by decide) S.1 g128_P1 g128_P2) kl_M_opensTicket ks_M_opensTicket kx_M_opensTicket ki_M_opensTicket ini_M hd_M_opensTicket ⟨Nat.le_of_ble_eq_true rfl, Nat.le_of_ble_eq_true rfl⟩ rfl (Nat.le_of_ble_eq_true rfl) d_M_served_131 ⟨Nat.le_refl _, Nat.le_refl _⟩) X Y hA S (by decide) (by decide) (fun z129 u H locs Y S s129 p129 => ?_)
            obtain ⟨I129, J129, B129, G129⟩ := u
            dsimp only at Y S s129 p129
            obtain ⟨l129, u129, st129, g129_P1, g129_P2, g129_TF, g129_MF⟩ := p129
            refine lv_istore (lv' := [(4, .int (iI z129)), (3, .int (iI z120)), (0, .ref h), (1, .int (iI a1)), (2, .int (iI a2))]) X.1 X.2.1 d_M_served_134 hl (by decide) rfl (fun ls hl => ?_)
            refine lv_iload X.1 X.2.1 d_M_served_136 (lv_at hl 0 rfl) ?_
            refine z_if_ne (tgt := 149) X.1 X.2.1 d_M_served_138 (by decide) ⟨by omega, by omega⟩ (fun h130 => ?_) (fun h130 => ?_)
            · refine lv_iload X.1 X.2.1 d_M_served_149 (lv_at hl 0 rfl) ?_
              refine z_if_ne (tgt := 161) X.1 X.2.1 d_M_served_151 (by decide) ⟨by omega, by omega⟩ (fun h131 => ?_) (fun h131 => False.elim (by omega))
              · refine lv_iload X.1 X.2.1 d_M_served_161 (lv_at hl 0 rfl) ?_
                refine z_if_eq (tgt := 170) X.1 X.2.1 d_M_served_163 (by decide) ⟨by omega, by omega⟩ (fun h132 => False.elim (by omega)) (fun h132 => ?_)
                · refine lv_iload X.1 X.2.1 d_M_served_166 (lv_at hl 0 rfl) ?_
                  refine lv_ineg X.1 X.2.1 d_M_served_168 (t_eq (iI_neg z129) ?_)
                  exact m_reti hQQ X Y hr hlk ⟨S, (-z129), rfl, ⟨by omega, by omega, ⟨cn, ((s129.2.1 33 (by decide)).trans ((s128.2.1 33 (by decide)).trans ((s124.2.1 33 (by decide)).trans ((s119.2.1 33 (by decide)).trans ((s117.2.1 33 (by decide)).trans ((s111.2.1 33 (by decide)).trans ((s108.2.1 33 (by decide)).trans ((s105.2.1 33 (by decide)).trans ((s101.2.1 33 (by decide)).trans gcn))))))))), by omega, by omega⟩, g129_P1, g129_P2⟩⟩ d_M_served_169
            · have f133 : tkA (B129 37) (B129 38) (B129 0) := st129 (by omega)
              have f134 : tkA (B129 37) (B129 38) (B129 0) := st129 (by omega)
              refine lv_aload_n X.1 X.2.1 d_M_served_141 rfl (lv_at hl 2 rfl) ?_
              refine lv_bipush (v := iI 11) X.1 X.2.1 d_M_served_142 (by decide) ?_
              refine r_ni (m_run (As := [.int (iI 11)]) (rest := []) (n := 1) X Y hZ hA hml hl.1 (r_M_opensAuthenticator l D E h q H.size I129 J129 B129 G129 11 (by decide) (by decide) S.1 g129_P1 g129_P2) kl_M_opensAuthenticator ks_M_opensAuthenticator kx_M_opensAuthenticator ki_M_opensAuthenticator ini_M hd_M_opensAuthenticator ⟨Nat.le_of_ble_eq_true rfl, Nat.le_of_ble_eq_true rfl⟩ rfl (Nat.le_of_ble_eq_true rfl) d_M_served_144 ⟨Nat.le_refl _, Nat.le_refl _⟩) X Y hA S (by decide) (by decide) (fun z135 u H locs Y S s135 p135 => ?_)
              obtain ⟨I135, J135, B135, G135⟩ := u
              dsimp only at Y S s135 p135
              obtain ⟨l135, u135, x135, st135, g135_P1, g135_P2, g135_TF, g135_MF⟩ := p135
              have f136 : tkA (B135 37) (B135 38) (B135 0) := (tkA_M g135_MF (by decide) (tkA_T g135_TF (by decide) (by decide) f134))
              obtain ⟨z137, e137, x137, y137, y2137⟩ := x135
              refine lv_istore (lv' := [(4, .int (iI z135)), (3, .int (iI z120)), (0, .ref h), (1, .int (iI a1)), (2, .int (iI a2))]) X.1 X.2.1 d_M_served_147 hl (by decide) rfl (fun ls hl => ?_)
              refine lv_iload X.1 X.2.1 d_M_served_149 (lv_at hl 0 rfl) ?_
              refine z_if_ne (tgt := 161) X.1 X.2.1 d_M_served_151 (by decide) ⟨by omega, by omega⟩ (fun h138 => ?_) (fun h138 => ?_)
              · refine lv_iload X.1 X.2.1 d_M_served_161 (lv_at hl 0 rfl) ?_
                refine z_if_eq (tgt := 170) X.1 X.2.1 d_M_served_163 (by decide) ⟨by omega, by omega⟩ (fun h139 => False.elim (by omega)) (fun h139 => ?_)
                · refine lv_iload X.1 X.2.1 d_M_served_166 (lv_at hl 0 rfl) ?_
                  refine lv_ineg X.1 X.2.1 d_M_served_168 (t_eq (iI_neg z135) ?_)
                  exact m_reti hQQ X Y hr hlk ⟨S, (-z135), rfl, ⟨by omega, by omega, ⟨cn, ((s135.2.1 33 (by decide)).trans ((s129.2.1 33 (by decide)).trans ((s128.2.1 33 (by decide)).trans ((s124.2.1 33 (by decide)).trans ((s119.2.1 33 (by decide)).trans ((s117.2.1 33 (by decide)).trans ((s111.2.1 33 (by decide)).trans ((s108.2.1 33 (by decide)).trans ((s105.2.1 33 (by decide)).trans ((s101.2.1 33 (by decide)).trans gcn)))))))))), by omega, by omega⟩, g135_P1, g135_P2⟩⟩ d_M_served_169
              · have f140 : auA (B135 37) (B135 38) (B135 0) := st135 (by omega)
                have f141 : auA (B135 37) (B135 38) (B135 0) := st135 (by omega)
                refine lv_aload_n X.1 X.2.1 d_M_served_154 rfl (lv_at hl 2 rfl) ?_
                refine lv_iload_n X.1 X.2.1 d_M_served_155 rfl (lv_at hl 3 rfl) ?_
                refine r_ni (m_run (As := [.int (iI a1)]) (rest := []) (n := 1) X Y hZ hA hml hl.1 (r_M_sameTime l D E h q H.size I135 J135 B135 G135 a1 (by omega) (by omega) S.1 g135_P1 g135_P2 f136 f141) kl_M_sameTime ks_M_sameTime kx_M_sameTime ki_M_sameTime ini_M hd_M_sameTime ⟨Nat.le_of_ble_eq_true rfl, Nat.le_of_ble_eq_true rfl⟩ rfl (Nat.le_of_ble_eq_true rfl) d_M_served_156 ⟨Nat.le_refl _, Nat.le_refl _⟩) X Y hA S (by decide) (by decide) (fun z142 u H locs Y S s142 p142 => ?_)
                obtain ⟨I142, J142, B142, G142⟩ := u
                dsimp only at Y S s142 p142
                obtain ⟨l142, u142, g142_P1, g142_P2, g142_TF⟩ := p142
                have f143 : tkA (B142 37) (B142 38) (B142 0) := (tkA_cg (s142.2.2 0 (by decide)) rfl rfl (tkA_T g142_TF (by decide) (by decide) f136))
                have f144 : auA (B142 37) (B142 38) (B142 0) := (auA_cg (s142.2.2 0 (by decide)) rfl rfl (auA_T g142_TF (by decide) (by decide) f141))
                refine lv_istore (lv' := [(4, .int (iI z142)), (3, .int (iI z120)), (0, .ref h), (1, .int (iI a1)), (2, .int (iI a2))]) X.1 X.2.1 d_M_served_159 hl (by decide) rfl (fun ls hl => ?_)
                refine lv_iload X.1 X.2.1 d_M_served_161 (lv_at hl 0 rfl) ?_
                refine z_if_eq (tgt := 170) X.1 X.2.1 d_M_served_163 (by decide) ⟨by omega, by omega⟩ (fun h145 => ?_) (fun h145 => ?_)
                · refine lv_aload_n X.1 X.2.1 d_M_served_170 rfl (lv_at hl 2 rfl) ?_
                  refine lv_iconst (v := iI 4) X.1 X.2.1 d_M_served_171 (by decide) ?_
                  refine lv_bipush (v := iI 6) X.1 X.2.1 d_M_served_172 (by decide) ?_
                  refine lv_iconst (v := iI 5) X.1 X.2.1 d_M_served_174 (by decide) ?_
                  refine r_nl (m_run (As := [.int (iI 4), .int (iI 6), .int (iI 5)]) (rest := []) (n := 3) X Y hZ hA hml hl.1 (r_M_startOf l D E h q H.size I142 J142 B142 G142 4 (by decide) (by decide) 6 (by decide) (by decide) 5 (by decide) (by decide) S.1 g142_P1 g142_P2) kl_M_startOf ks_M_startOf kx_M_startOf ki_M_startOf ini_M hd_M_startOf ⟨Nat.le_of_ble_eq_true rfl, Nat.le_of_ble_eq_true rfl⟩ rfl (Nat.le_of_ble_eq_true rfl) d_M_served_175 ⟨Nat.le_refl _, Nat.le_refl _⟩) X Y hA S (by decide) (by decide) (fun v146 u H locs Y S s146 p146 => ?_)
                  obtain ⟨I146, J146, B146, G146⟩ := u
                  dsimp only at Y S s146 p146
                  have b146 : B142 = B146 := (funext (fun j => s146.2.2 j (by simp))).symm
                  subst b146
                  have g146_P1 := p146
                  refine lv_aload_n X.1 X.2.1 d_M_served_178 rfl (lv_at hl 2 rfl) ?_
                  refine r_geti (k := 4) X Y S (by decide) lk_now (gf_now _ _ _) rfl rfl d_M_served_179 (fun z147 e147 l147 u147 => ?_)
                  refine lv_i2l X.1 X.2.1 d_M_served_182 rfl ?_
                  refine t_anyl (fun v148 => ?_)
                  refine lv_ldc2 (v := (300)) X.1 X.2.1 X.2.2.2.1 (X.2.2.1 _ cl_M_646) d_M_served_183 ?_
                  refine lv_ladd X.1 X.2.1 d_M_served_186 ?_
                  refine t_anyl (fun v149 => ?_)
                  refine W.lcmp X.1 X.2.1 d_M_served_187 ?_
                  refine t_u (fun z150 l150 u150 => ?_)
                  refine z_if_le (tgt := 194) X.1 X.2.1 d_M_served_188 (by decide) ⟨by omega, by omega⟩ (fun h151 => ?_) (fun h151 => ?_)
                  · refine lv_aload_n X.1 X.2.1 d_M_served_194 rfl (lv_at hl 2 rfl) ?_
                    refine lv_iconst (v := iI 4) X.1 X.2.1 d_M_served_195 (by decide) ?_
                    refine lv_bipush (v := iI 7) X.1 X.2.1 d_M_served_196 (by decide) ?_
                    refine r_nl (m_run (As := [.int (iI 4), .int (iI 7)]) (rest := []) (n := 2) X Y hZ hA hml hl.1 (r_M_timeOf l D E h q H.size I146 J146 B142 G146 4 (by decide) (by decide) 7 (by decide) (by decide) S.1 g146_P1 (pG2_cg rfl rfl g142_P2)) kl_M_timeOf ks_M_timeOf kx_M_timeOf ki_M_timeOf ini_M hd_M_timeOf ⟨Nat.le_of_ble_eq_true rfl, Nat.le_of_ble_eq_true rfl⟩ rfl (Nat.le_of_ble_eq_true rfl) d_M_served_198 ⟨Nat.le_refl _, Nat.le_refl _⟩) X Y hA S (by decide) (by decide) (fun v152 u H locs Y S s152 p152 => ?_)
                    obtain ⟨I152, J152, B152, G152⟩ := u
                    dsimp only at Y S s152 p152
                    have b152 : B142 = B152 := (funext (fun j => s152.2.2 j (by simp))).symm
                    subst b152
                    have g152_P1 := p152
                    refine lv_aload_n X.1 X.2.1 d_M_served_201 rfl (lv_at hl 2 rfl) ?_
                    refine r_get0 X Y (by decide) lk_now (gf_now _ _ _) rfl ((s152.2.1 4 (by decide)).trans e147) d_M_served_202 ?_
                    refine lv_i2l X.1 X.2.1 d_M_served_205 rfl ?_
                    refine t_anyl (fun v153 => ?_)
                    refine W.lcmp X.1 X.2.1 d_M_served_206 ?_
                    refine t_u (fun z154 l154 u154 => ?_)
                    refine z_if_gt (tgt := 213) X.1 X.2.1 d_M_served_207 (by decide) ⟨by omega, by omega⟩ (fun h155 => ?_) (fun h155 => ?_)
                    · refine lv_aload_n X.1 X.2.1 d_M_served_213 rfl (lv_at hl 2 rfl) ?_
                      refine lv_aload_n X.1 X.2.1 d_M_served_214 rfl (lv_at hl 2 rfl) ?_
                      refine lv_iconst (v := iI 5) X.1 X.2.1 d_M_served_215 (by decide) ?_
                      refine lv_bipush (v := iI 6) X.1 X.2.1 d_M_served_216 (by decide) ?_
                      refine r_ni (m_run (As := [.int (iI 5), .int (iI 6)]) (rest := [.ref h]) (n := 2) X Y hZ hA hml hl.1 (r_M_has l D E h q H.size I152 J152 B142 G152 5 (by decide) (by decide) 6 (by decide) (by decide) S.1) kl_M_has ks_M_has kx_M_has ki_M_has ini_M hd_M_has ⟨Nat.le_of_ble_eq_true rfl, Nat.le_of_ble_eq_true rfl⟩ rfl (Nat.le_of_ble_eq_true rfl) d_M_served_218 ⟨Nat.le_refl _, Nat.le_refl _⟩) X Y hA S (by decide) (by decide) (fun z156 u H locs Y S s156 p156 => ?_)
                      obtain ⟨I156, J156, B156, G156⟩ := u
                      dsimp only at Y S s156 p156
                      have i156 : I152 = I156 := (funext (fun j => s156.2.1 j (by simp))).symm
                      subst i156
                      have b156 : B142 = B156 := (funext (fun j => s156.2.2 j (by simp))).symm
                      subst b156
                      obtain ⟨l156, u156, x156⟩ := p156
                      have J165 : ∀ (z158 : Int) (I157 : Nat → Int32) (J157 : Nat → Int64) (B157 : Nat → Nat → Int32) (G157 : Nat → Nat → Int64) (H : Heap) (locs : List Loc) (ls : Array Slot), ((-1) ≤ z158) → (z158 ≤ 18) → (auA (B157 37) (B157 38) (B157 0)) → (pG1 I157) → (pG2 (B157 37) (B157 38)) → (tkA (B157 37) (B157 38) (B157 0)) → (I157 33 = iI cn) → (I157 79 = iI z137) → mH D E (mA E h q sz) s.heap h q I157 J157 B157 G157 H locs → rS [3, 8, 14, 18, 33, 36, 39, 40, 42, 54, 79, 80] [0, 1, 5, 6, 7, 9, 10, 11, 12, 13, 15, 16, 17, 19, 20, 21, 22, 23, 34, 35, 37, 38, 53, 58, 59, 61, 62, 63, 64, 133, 134, 135, 136, 141, 142, 143] I B I157 B157 → lv_has ls 8 [(0, .ref h), (1, .int (iI a1)), (3, .int (iI z120))] → W p l e (mR 46 2072) s m AV below meth c H locs 0 0 QQ (F0 m 239 ls [.int (iI z158), .ref h]) := by
                        intro z158 I157 J157 B157 G157 H locs ls l158 u158 f159 f160 f161 f162 e163 e164 Y S hl
                        refine r_puti (k := 80) X Y S (by decide) lk_subType rfl rfl (t_M_ok 80 (by decide)) rfl rfl (sf_subType _ _ _ _) (Nat.le_of_ble_eq_true rfl) rfl (show ((-2147483648) : Int) ≤ z158 by omega) (show z158 ≤ (2147483647 : Int) by omega) ⟨by omega, by omega⟩ (by decide) d_M_served_239 (fun I169 H locs Y S w169 => ?_)
                        refine lv_aload_n X.1 X.2.1 d_M_served_242 rfl (lv_at hl 0 rfl) ?_
                        refine r_get0 X Y (by decide) lk_subType (gf_subType _ _ _) rfl w169.1 d_M_served_243 ?_
                        refine z_if_ne (tgt := 252) X.1 X.2.1 d_M_served_246 (by decide) ⟨by omega, by omega⟩ (fun h170 => ?_) (fun h170 => ?_)
                        · refine lv_aload_n X.1 X.2.1 d_M_served_252 rfl (lv_at hl 0 rfl) ?_
                          refine lv_iload_n X.1 X.2.1 d_M_served_253 rfl (lv_at hl 1 rfl) ?_
                          refine lv_bipush (v := iI 32) X.1 X.2.1 d_M_served_254 (by decide) ?_
                          refine r_ni (m_run (As := [.int (iI a1), .int (iI 32)]) (rest := []) (n := 2) X Y hZ hA hml hl.1 (r_M_says l D E h q H.size I169 J157 B157 G157 a1 (by omega) (by omega) 32 (by decide) (by decide) S.1) kl_M_says ks_M_says kx_M_says ki_M_says ini_M hd_M_says ⟨Nat.le_of_ble_eq_true rfl, Nat.le_of_ble_eq_true rfl⟩ rfl (Nat.le_of_ble_eq_true rfl) d_M_served_256 ⟨Nat.le_refl _, Nat.le_refl _⟩) X Y hA S (by decide) (by decide) (fun z171 u H locs Y S s171 p171 => ?_)
                          obtain ⟨I171, J171, B171, G171⟩ := u
                          dsimp only at Y S s171 p171
                          have i171 : I169 = I171 := (funext (fun j => s171.2.1 j (by simp))).symm
                          subst i171
                          have b171 : B157 = B171 := (funext (fun j => s171.2.2 j (by simp))).symm
                          subst b171
                          obtain ⟨l171, u171⟩ := p171
                          refine z_if_eq (tgt := 265) X.1 X.2.1 d_M_served_259 (by decide) ⟨by omega, by omega⟩ (fun h172 => ?_) (fun h172 => ?_)
                          · refine lv_iconst (v := iI 0) X.1 X.2.1 d_M_served_265 (by decide) ?_
                            have J174 : ∀ (n176 : Nat) (z173 : Int) (H : Heap) (locs : List Loc) (ls : Array Slot), (8 - z173).toNat = n176 → (0 ≤ z173) → (z173 ≤ 8) → mH D E (mA E h q sz) s.heap h q I169 J171 B157 G171 H locs → rS [3, 8, 14, 18, 33, 36, 39, 40, 42, 54, 79, 80] [0, 1, 5, 6, 7, 9, 10, 11, 12, 13, 15, 16, 17, 19, 20, 21, 22, 23, 34, 35, 37, 38, 53, 58, 59, 61, 62, 63, 64, 133, 134, 135, 136, 141, 142, 143] I B I169 B157 → lv_has ls 8 [(0, .ref h), (3, .int (iI z120)), (5, .int (iI z173))] → W p l e (mR 46 2072) s m AV below meth c H locs 0 0 QQ (F0 m 268 ls []) := by
                              intro n176
                              induction n176 using Nat.strongRecOn with
                              | ind n176 ih175 =>
                                intro z173 H locs ls hm177 l173 u173 Y S hl
                                refine lv_iload X.1 X.2.1 d_M_served_268 (lv_at hl 2 rfl) ?_
                                refine lv_bipush (v := iI 8) X.1 X.2.1 d_M_served_270 (by decide) ?_
                                have J178 : ∀  (H : Heap) (locs : List Loc) (ls : Array Slot), mH D E (mA E h q sz) s.heap h q I169 J171 B157 G171 H locs → rS [3, 8, 14, 18, 33, 36, 39, 40, 42, 54, 79, 80] [0, 1, 5, 6, 7, 9, 10, 11, 12, 13, 15, 16, 17, 19, 20, 21, 22, 23, 34, 35, 37, 38, 53, 58, 59, 61, 62, 63, 64, 133, 134, 135, 136, 141, 142, 143] I B I169 B157 → lv_has ls 8 [(0, .ref h), (3, .int (iI z120)), (5, .int (iI z173))] → W p l e (mR 46 2072) s m AV below meth c H locs 0 0 QQ (F0 m 291 ls []) := by
                                  intro  H locs ls  Y S hl
                                  refine lv_iload X.1 X.2.1 d_M_served_291 (lv_at hl 2 rfl) ?_
                                  refine lv_bipush (v := iI 8) X.1 X.2.1 d_M_served_293 (by decide) ?_
                                  refine z_icmp_ne (tgt := 301) X.1 X.2.1 d_M_served_295 (by decide) ⟨by omega, by omega⟩ ⟨by decide, by decide⟩ (fun h182 => ?_) (fun h182 => ?_)
                                  · refine lv_aload_n X.1 X.2.1 d_M_served_301 rfl (lv_at hl 0 rfl) ?_
                                    refine m_get X Y 133 (by decide) lk_isSession (gf_isSession _ _ _) rfl d_M_served_302 ?_
                                    refine lv_iload X.1 X.2.1 d_M_served_305 (lv_at hl 2 rfl) ?_
                                    refine lv_iconst (v := iI 1) X.1 X.2.1 d_M_served_307 (by decide) ?_
                                    refine r_zast X Y S (aw_isSession _ _ _ _ _ _ _) (sw_isSession _ _ _ _ _ _ _) rfl ⟨by omega, by omega⟩ (by omega) (show z173 < ((8 : Nat) : Int) by omega) (by omega) (by decide) d_M_served_308 (fun B183 H locs Y S w183 => ?_)
                                    refine lv_aload_n X.1 X.2.1 d_M_served_309 rfl (lv_at hl 0 rfl) ?_
                                    refine m_get X Y 135 (by decide) lk_sessionAgents (gf_sessionAgents _ _ _) rfl d_M_served_310 ?_
                                    refine lv_iload X.1 X.2.1 d_M_served_313 (lv_at hl 2 rfl) ?_
                                    refine lv_iconst (v := iI (-1)) X.1 X.2.1 d_M_served_315 (by decide) ?_
                                    refine r_iast X Y S (aw_sessionAgents _ _ _ _ _ _ _) (sw_sessionAgents _ _ _ _ _ _ _) rfl ⟨(show ((-1) : Int) ≤ (-1) by omega), (show (-1) ≤ (3 : Int) by omega)⟩ ⟨by omega, by omega⟩ (by omega) (show z173 < ((8 : Nat) : Int) by omega) (by omega) (by decide) d_M_served_316 (fun B184 H locs Y S w184 => ?_)
                                    refine lv_aload_n X.1 X.2.1 d_M_served_317 rfl (lv_at hl 0 rfl) ?_
                                    refine m_get X Y 134 (by decide) lk_sessionTypes (gf_sessionTypes _ _ _) rfl d_M_served_318 ?_
                                    refine lv_iload X.1 X.2.1 d_M_served_321 (lv_at hl 2 rfl) ?_
                                    refine lv_aload_n X.1 X.2.1 d_M_served_323 rfl (lv_at hl 0 rfl) ?_
                                    refine r_get0 X Y (by decide) lk_subType (gf_subType _ _ _) rfl w169.1 d_M_served_324 ?_
                                    refine z_if_le (tgt := 337) X.1 X.2.1 d_M_served_327 (by decide) ⟨by omega, by omega⟩ (fun h185 => ?_) (fun h185 => ?_)
                                    · refine lv_aload_n X.1 X.2.1 d_M_served_337 rfl (lv_at hl 0 rfl) ?_
                                      refine r_get0 X Y (by decide) lk_ticketType (gf_ticketType _ _ _) rfl ((w169.2 79 (by decide)).trans e164) d_M_served_338 ?_
                                      refine r_iast X Y S (aw_sessionTypes _ _ _ _ _ _ _) (sw_sessionTypes _ _ _ _ _ _ _) rfl ⟨(show (0 : Int) ≤ z137 by omega), (show z137 ≤ (18 : Int) by omega)⟩ ⟨by omega, by omega⟩ (by omega) (show z173 < ((8 : Nat) : Int) by omega) (by omega) (by decide) d_M_served_341 (fun B186 H locs Y S w186 => ?_)
                                      have f187 : tkA (B186 37) (B186 38) (B186 0) := (tkA_cg (w186.2 0 (by decide)) (w186.2 37 (by decide)) (w186.2 38 (by decide)) (tkA_cg (w184.2 0 (by decide)) (w184.2 37 (by decide)) (w184.2 38 (by decide)) (tkA_cg (w183.2 0 (by decide)) (w183.2 37 (by decide)) (w183.2 38 (by decide)) (tkA_cg rfl rfl rfl (tkA_cg rfl rfl rfl f162)))))
                                      have f188 : auA (B186 37) (B186 38) (B186 0) := (auA_cg (w186.2 0 (by decide)) (w186.2 37 (by decide)) (w186.2 38 (by decide)) (auA_cg (w184.2 0 (by decide)) (w184.2 37 (by decide)) (w184.2 38 (by decide)) (auA_cg (w183.2 0 (by decide)) (w183.2 37 (by decide)) (w183.2 38 (by decide)) (auA_cg rfl rfl rfl (auA_cg rfl rfl rfl f159)))))
                                      refine lv_iconst (v := iI 0) X.1 X.2.1 d_M_served_342 (by decide) ?_
                                      have J198 : ∀ (n200 : Nat) (z190 : Int) (I189 : Nat → Int32) (J189 : Nat → Int64) (B189 : Nat → Nat → Int32) (G189 : Nat → Nat → Int64) (H : Heap) (locs : List Loc) (ls : Array Slot), (32 - z190).toNat = n200 → (0 ≤ z190) → (z190 ≤ 32) → (auA (B189 37) (B189 38) (B189 0)) → (pG1 I189) → (pG2 (B189 37) (B189 38)) → (tkA (B189 37) (B189 38) (B189 0)) → (I189 33 = iI cn) → (I189 79 = iI z137) → (I189 80 = iI z158) → mH D E (mA E h q sz) s.heap h q I189 J189 B189 G189 H locs → rS [3, 8, 14, 18, 33, 36, 39, 40, 42, 54, 79, 80] [0, 1, 5, 6, 7, 9, 10, 11, 12, 13, 15, 16, 17, 19, 20, 21, 22, 23, 34, 35, 37, 38, 53, 58, 59, 61, 62, 63, 64, 133, 134, 135, 136, 141, 142, 143] I B I189 B189 → lv_has ls 8 [(0, .ref h), (3, .int (iI z120)), (5, .int (iI z173)), (6, .int (iI z190))] → W p l e (mR 46 2072) s m AV below meth c H locs 0 0 QQ (F0 m 345 ls []) := by
                                        intro n200
                                        induction n200 using Nat.strongRecOn with
                                        | ind n200 ih199 =>
                                          intro z190 I189 J189 B189 G189 H locs ls hm201 l190 u190 f191 f192 f193 f194 e195 e196 e197 Y S hl
                                          refine lv_iload X.1 X.2.1 d_M_served_345 (lv_at hl 3 rfl) ?_
                                          refine lv_bipush (v := iI 32) X.1 X.2.1 d_M_served_347 (by decide) ?_
                                          refine z_icmp_ge (tgt := 415) X.1 X.2.1 d_M_served_349 (by decide) ⟨by omega, by omega⟩ ⟨by decide, by decide⟩ (fun h202 => ?_) (fun h202 => ?_)
                                          · refine lv_aload_n X.1 X.2.1 d_M_served_415 rfl (lv_at hl 0 rfl) ?_
                                            refine m_get X Y 142 (by decide) lk_beganTypes (gf_beganTypes _ _ _) rfl d_M_served_416 ?_
                                            refine lv_iload X.1 X.2.1 d_M_served_419 (lv_at hl 2 rfl) ?_
                                            refine lv_aload_n X.1 X.2.1 d_M_served_421 rfl (lv_at hl 0 rfl) ?_
                                            refine r_get0 X Y (by decide) lk_ticketType (gf_ticketType _ _ _) rfl e196 d_M_served_422 ?_
                                            refine r_iast X Y S (aw_beganTypes _ _ _ _ _ _ _) (sw_beganTypes _ _ _ _ _ _ _) rfl ⟨(show (0 : Int) ≤ z137 by omega), (show z137 ≤ (18 : Int) by omega)⟩ ⟨by omega, by omega⟩ (by omega) (show z173 < ((8 : Nat) : Int) by omega) (by omega) (by decide) d_M_served_425 (fun B203 H locs Y S w203 => ?_)
                                            refine lv_aload_n X.1 X.2.1 d_M_served_426 rfl (lv_at hl 0 rfl) ?_
                                            refine m_get X Y 139 (by decide) lk_beganTime (gf_beganTime _ _ _) rfl d_M_served_427 ?_
                                            refine lv_iload X.1 X.2.1 d_M_served_430 (lv_at hl 2 rfl) ?_
                                            refine lv_aload_n X.1 X.2.1 d_M_served_432 rfl (lv_at hl 0 rfl) ?_
                                            refine lv_iconst (v := iI 5) X.1 X.2.1 d_M_served_433 (by decide) ?_
                                            refine lv_iconst (v := iI 5) X.1 X.2.1 d_M_served_434 (by decide) ?_
                                            refine r_nl (m_run (As := [.int (iI 5), .int (iI 5)]) (rest := [.int (iI z173), .ref ((q 139))]) (n := 2) X Y hZ hA hml hl.1 (r_M_timeOf l D E h q H.size I189 J189 B203 G189 5 (by decide) (by decide) 5 (by decide) (by decide) S.1 (pG1_cg rfl rfl f192) (pG2_cg (w203.2 37 (by decide)) (w203.2 38 (by decide)) f193)) kl_M_timeOf ks_M_timeOf kx_M_timeOf ki_M_timeOf ini_M hd_M_timeOf ⟨Nat.le_of_ble_eq_true rfl, Nat.le_of_ble_eq_true rfl⟩ rfl (Nat.le_of_ble_eq_true rfl) d_M_served_435 ⟨Nat.le_refl _, Nat.le_refl _⟩) X Y hA S (by decide) (by decide) (fun v204 u H locs Y S s204 p204 => ?_)
                                            obtain ⟨I204, J204, B204, G204⟩ := u
                                            dsimp only at Y S s204 p204
                                            have b204 : B203 = B204 := (funext (fun j => s204.2.2 j (by simp))).symm
                                            subst b204
                                            have g204_P1 := p204
                                            refine r_last X Y (aw_beganTime _ _ _ _ _ _ _) (sw_beganTime _ _ _ _ _ _ _) (by omega) (show z173 < ((8 : Nat) : Int) by omega) (by omega) d_M_served_438 (fun G205 H locs Y => ?_)
                                            refine lv_aload_n X.1 X.2.1 d_M_served_439 rfl (lv_at hl 0 rfl) ?_
                                            refine m_get X Y 141 (by decide) lk_beganMicros (gf_beganMicros _ _ _) rfl d_M_served_440 ?_
                                            refine lv_iload X.1 X.2.1 d_M_served_443 (lv_at hl 2 rfl) ?_
                                            refine lv_aload_n X.1 X.2.1 d_M_served_445 rfl (lv_at hl 0 rfl) ?_
                                            refine lv_iconst (v := iI 5) X.1 X.2.1 d_M_served_446 (by decide) ?_
                                            refine lv_iconst (v := iI 4) X.1 X.2.1 d_M_served_447 (by decide) ?_
                                            refine r_nl (m_run (As := [.int (iI 5), .int (iI 4)]) (rest := [.int (iI z173), .ref ((q 141))]) (n := 2) X Y hZ hA hml hl.1 (r_M_numberAt l D E h q H.size I204 J204 B203 G205 5 (by decide) (by decide) 4 (by decide) (by decide) S.1 g204_P1 (pG2_cg rfl rfl (pG2_cg (w203.2 37 (by decide)) (w203.2 38 (by decide)) f193))) kl_M_numberAt ks_M_numberAt kx_M_numberAt ki_M_numberAt ini_M hd_M_numberAt ⟨Nat.le_of_ble_eq_true rfl, Nat.le_of_ble_eq_true rfl⟩ rfl (Nat.le_of_ble_eq_true rfl) d_M_served_448 ⟨Nat.le_refl _, Nat.le_refl _⟩) X Y hA S (by decide) (by decide) (fun v206 u H locs Y S s206 p206 => ?_)
                                            obtain ⟨I206, J206, B206, G206⟩ := u
                                            dsimp only at Y S s206 p206
                                            have b206 : B203 = B206 := (funext (fun j => s206.2.2 j (by simp))).symm
                                            subst b206
                                            have g206_P1 := p206
                                            refine lv_l2i X.1 X.2.1 d_M_served_451 rfl ?_
                                            refine t_u (fun z207 l207 u207 => ?_)
                                            refine r_iast X Y S (aw_beganMicros _ _ _ _ _ _ _) (sw_beganMicros _ _ _ _ _ _ _) rfl ⟨(show ((-2147483648) : Int) ≤ z207 by omega), (show z207 ≤ (2147483647 : Int) by omega)⟩ ⟨by omega, by omega⟩ (by omega) (show z173 < ((8 : Nat) : Int) by omega) (by omega) (by decide) d_M_served_452 (fun B208 H locs Y S w208 => ?_)
                                            refine lv_aload_n X.1 X.2.1 d_M_served_453 rfl (lv_at hl 0 rfl) ?_
                                            refine m_get X Y 140 (by decide) lk_beganNumber (gf_beganNumber _ _ _) rfl d_M_served_454 ?_
                                            refine lv_iload X.1 X.2.1 d_M_served_457 (lv_at hl 2 rfl) ?_
                                            refine lv_aload_n X.1 X.2.1 d_M_served_459 rfl (lv_at hl 0 rfl) ?_
                                            refine lv_iconst (v := iI 5) X.1 X.2.1 d_M_served_460 (by decide) ?_
                                            refine lv_bipush (v := iI 7) X.1 X.2.1 d_M_served_461 (by decide) ?_
                                            refine r_ni (m_run (As := [.int (iI 5), .int (iI 7)]) (rest := [.int (iI z173), .ref ((q 140))]) (n := 2) X Y hZ hA hml hl.1 (r_M_has l D E h q H.size I206 J206 B208 G206 5 (by decide) (by decide) 7 (by decide) (by decide) S.1) kl_M_has ks_M_has kx_M_has ki_M_has ini_M hd_M_has ⟨Nat.le_of_ble_eq_true rfl, Nat.le_of_ble_eq_true rfl⟩ rfl (Nat.le_of_ble_eq_true rfl) d_M_served_463 ⟨Nat.le_refl _, Nat.le_refl _⟩) X Y hA S (by decide) (by decide) (fun z209 u H locs Y S s209 p209 => ?_)
                                            obtain ⟨I209, J209, B209, G209⟩ := u
                                            dsimp only at Y S s209 p209
                                            have i209 : I206 = I209 := (funext (fun j => s209.2.1 j (by simp))).symm
                                            subst i209
                                            have b209 : B208 = B209 := (funext (fun j => s209.2.2 j (by simp))).symm
                                            subst b209
                                            obtain ⟨l209, u209, x209⟩ := p209
                                            have J219 : ∀ (v211 : Int64) (I210 : Nat → Int32) (J210 : Nat → Int64) (B210 : Nat → Nat → Int32) (G210 : Nat → Nat → Int64) (H : Heap) (locs : List Loc) (ls : Array Slot), (auA (B210 37) (B210 38) (B210 0)) → (pG1 I210) → (pG2 (B210 37) (B210 38)) → (tkA (B210 37) (B210 38) (B210 0)) → (I210 33 = iI cn) → (I210 79 = iI z137) → (I210 80 = iI z158) → mH D E (mA E h q sz) s.heap h q I210 J210 B210 G210 H locs → rS [3, 8, 14, 18, 33, 36, 39, 40, 42, 54, 79, 80] [0, 1, 5, 6, 7, 9, 10, 11, 12, 13, 15, 16, 17, 19, 20, 21, 22, 23, 34, 35, 37, 38, 53, 58, 59, 61, 62, 63, 64, 133, 134, 135, 136, 141, 142, 143] I B I210 B210 → lv_has ls 8 [(0, .ref h), (3, .int (iI z120)), (5, .int (iI z173))] → W p l e (mR 46 2072) s m AV below meth c H locs 0 0 QQ (F0 m 480 ls [.long v211, .int (iI z173), .ref ((q 140))]) := by
                                              intro v211 I210 J210 B210 G210 H locs ls f212 f213 f214 f215 e216 e217 e218 Y S hl
                                              refine r_last X Y (aw_beganNumber _ _ _ _ _ _ _) (sw_beganNumber _ _ _ _ _ _ _) (by omega) (show z173 < ((8 : Nat) : Int) by omega) (by omega) d_M_served_480 (fun G223 H locs Y => ?_)
                                              refine lv_aload_n X.1 X.2.1 d_M_served_481 rfl (lv_at hl 0 rfl) ?_
                                              refine m_get X Y 138 (by decide) lk_dueNumber (gf_dueNumber _ _ _) rfl d_M_served_482 ?_
                                              refine lv_iconst (v := iI 2) X.1 X.2.1 d_M_served_485 (by decide) ?_
                                              refine lv_iload X.1 X.2.1 d_M_served_486 (lv_at hl 2 rfl) ?_
                                              refine z_imul X.1 X.2.1 d_M_served_488 ?_
                                              refine lv_iconst (v := iI 1) X.1 X.2.1 d_M_served_489 (by decide) ?_
                                              refine z_iadd X.1 X.2.1 d_M_served_490 ?_
                                              refine lv_aload_n X.1 X.2.1 d_M_served_491 rfl (lv_at hl 0 rfl) ?_
                                              refine m_get X Y 140 (by decide) lk_beganNumber (gf_beganNumber _ _ _) rfl d_M_served_492 ?_
                                              refine lv_iload X.1 X.2.1 d_M_served_495 (lv_at hl 2 rfl) ?_
                                              refine r_lald X Y (aw_beganNumber _ _ _ _ _ _ _) (by omega) (show z173 < ((8 : Nat) : Int) by omega) (by omega) d_M_served_497 (fun v224 => ?_)
                                              refine r_last X Y (aw_dueNumber _ _ _ _ _ _ _) (sw_dueNumber _ _ _ _ _ _ _) (by omega) (show (2 * z173) + 1 < ((16 : Nat) : Int) by omega) (by omega) d_M_served_498 (fun G225 H locs Y => ?_)
                                              refine lv_aload_n X.1 X.2.1 d_M_served_499 rfl (lv_at hl 0 rfl) ?_
                                              refine m_get X Y 137 (by decide) lk_ownNumber (gf_ownNumber _ _ _) rfl d_M_served_500 ?_
                                              refine lv_iconst (v := iI 2) X.1 X.2.1 d_M_served_503 (by decide) ?_
                                              refine lv_iload X.1 X.2.1 d_M_served_504 (lv_at hl 2 rfl) ?_
                                              refine z_imul X.1 X.2.1 d_M_served_506 ?_
                                              refine lv_iconst (v := iI 1) X.1 X.2.1 d_M_served_507 (by decide) ?_
                                              refine z_iadd X.1 X.2.1 d_M_served_508 ?_
                                              refine lv_lconst (v := 0) X.1 X.2.1 d_M_served_509 rfl ?_
                                              refine r_last X Y (aw_ownNumber _ _ _ _ _ _ _) (sw_ownNumber _ _ _ _ _ _ _) (by omega) (show (2 * z173) + 1 < ((16 : Nat) : Int) by omega) (by omega) d_M_served_510 (fun G226 H locs Y => ?_)
                                              refine lv_aload_n X.1 X.2.1 d_M_served_511 rfl (lv_at hl 0 rfl) ?_
                                              refine lv_iconst (v := iI 0) X.1 X.2.1 d_M_served_512 (by decide) ?_
                                              refine r_puti (k := 3) X Y S (by decide) lk_outMany rfl rfl (t_M_ok 3 (by decide)) rfl rfl (sf_outMany _ _ _ _) (Nat.le_of_ble_eq_true rfl) rfl (show (0 : Int) ≤ 0 by omega) (show 0 ≤ (20000 : Int) by omega) ⟨by omega, by omega⟩ (by decide) d_M_served_513 (fun I227 H locs Y S w227 => ?_)
                                              refine lv_iload_n X.1 X.2.1 d_M_served_516 rfl (lv_at hl 1 rfl) ?_
                                              refine z_if_ne (tgt := 523) X.1 X.2.1 d_M_served_517 (by decide) ⟨by omega, by omega⟩ (fun h228 => ?_) (fun h228 => ?_)
                                              · refine lv_lconst (v := 0) X.1 X.2.1 d_M_served_523 rfl ?_
                                                refine lv_lstore (lv' := [(6, .long 0), (0, .ref h), (3, .int (iI z120)), (5, .int (iI z173))]) X.1 X.2.1 d_M_served_524 hl (by decide) rfl (fun ls hl => ?_)
                                                refine lv_aload_n X.1 X.2.1 d_M_served_526 rfl (lv_at hl 1 rfl) ?_
                                                refine lv_iconst (v := iI 5) X.1 X.2.1 d_M_served_527 (by decide) ?_
                                                refine lv_bipush (v := iI 7) X.1 X.2.1 d_M_served_528 (by decide) ?_
                                                refine r_ni (m_run (As := [.int (iI 5), .int (iI 7)]) (rest := []) (n := 2) X Y hZ hA hml hl.1 (r_M_has l D E h q H.size I227 J210 B210 G226 5 (by decide) (by decide) 7 (by decide) (by decide) S.1) kl_M_has ks_M_has kx_M_has ki_M_has ini_M hd_M_has ⟨Nat.le_of_ble_eq_true rfl, Nat.le_of_ble_eq_true rfl⟩ rfl (Nat.le_of_ble_eq_true rfl) d_M_served_530 ⟨Nat.le_refl _, Nat.le_refl _⟩) X Y hA S (by decide) (by decide) (fun z229 u H locs Y S s229 p229 => ?_)
                                                obtain ⟨I229, J229, B229, G229⟩ := u
                                                dsimp only at Y S s229 p229
                                                have i229 : I227 = I229 := (funext (fun j => s229.2.1 j (by simp))).symm
                                                subst i229
                                                have b229 : B210 = B229 := (funext (fun j => s229.2.2 j (by simp))).symm
                                                subst b229
                                                obtain ⟨l229, u229, x229⟩ := p229
                                                have J240 : ∀ (v231 : Int64) (z238 : Int) (I230 : Nat → Int32) (J230 : Nat → Int64) (B230 : Nat → Nat → Int32) (G230 : Nat → Nat → Int64) (H : Heap) (locs : List Loc) (ls : Array Slot), (auA (B230 37) (B230 38) (B230 0)) → (pG1 I230) → (pG2 (B230 37) (B230 38)) → (tkA (B230 37) (B230 38) (B230 0)) → (I230 79 = iI z137) → (I230 80 = iI z158) → (I230 33 = iI z238) → (0 ≤ z238) → (z238 ≤ 1901000) → (cn ≤ z238 ∧ z238 ≤ cn + 4) → mH D E (mA E h q sz) s.heap h q I230 J230 B230 G230 H locs → rS [3, 8, 14, 18, 33, 36, 39, 40, 42, 54, 79, 80] [0, 1, 5, 6, 7, 9, 10, 11, 12, 13, 15, 16, 17, 19, 20, 21, 22, 23, 34, 35, 37, 38, 53, 58, 59, 61, 62, 63, 64, 133, 134, 135, 136, 141, 142, 143] I B I230 B230 → lv_has ls 8 [(0, .ref h), (5, .int (iI z173)), (6, .long v231)] → W p l e (mR 46 2072) s m AV below meth c H locs 0 0 QQ (F0 m 560 ls []) := by
                                                  intro v231 z238 I230 J230 B230 G230 H locs ls f232 f233 f234 f235 e236 e237 e238 l238 u238 i239 Y S hl
                                                  refine lv_aload_n X.1 X.2.1 d_M_served_560 rfl (lv_at hl 0 rfl) ?_
                                                  refine r_nv (m_run (As := []) (rest := []) (n := 0) X Y hZ hA hml hl.1 (r_M_start l D E h q H.size I230 J230 B230 G230 S.1) kl_M_start ks_M_start kx_M_start ki_M_start ini_M hd_M_start ⟨Nat.le_of_ble_eq_true rfl, Nat.le_of_ble_eq_true rfl⟩ rfl (Nat.le_of_ble_eq_true rfl) d_M_served_561 ⟨Nat.le_refl _, Nat.le_refl _⟩) X Y hA S (by decide) (by decide) (fun u H locs Y S s244 p244 => ?_)
                                                  obtain ⟨I244, J244, B244, G244⟩ := u
                                                  dsimp only at Y S s244 p244
                                                  have b244 : B230 = B244 := (funext (fun j => s244.2.2 j (by simp))).symm
                                                  subst b244
                                                  have x244 := p244
                                                  refine lv_aload_n X.1 X.2.1 d_M_served_564 rfl (lv_at hl 0 rfl) ?_
                                                  refine lv_iconst (v := iI 5) X.1 X.2.1 d_M_served_565 (by decide) ?_
                                                  refine lv_bipush (v := iI 7) X.1 X.2.1 d_M_served_566 (by decide) ?_
                                                  refine r_ni (m_run (As := [.int (iI 5), .int (iI 7)]) (rest := []) (n := 2) X Y hZ hA hml hl.1 (r_M_has l D E h q H.size I244 J244 B230 G244 5 (by decide) (by decide) 7 (by decide) (by decide) S.1) kl_M_has ks_M_has kx_M_has ki_M_has ini_M hd_M_has ⟨Nat.le_of_ble_eq_true rfl, Nat.le_of_ble_eq_true rfl⟩ rfl (Nat.le_of_ble_eq_true rfl) d_M_served_568 ⟨Nat.le_refl _, Nat.le_refl _⟩) X Y hA S (by decide) (by decide) (fun z245 u H locs Y S s245 p245 => ?_)
                                                  obtain ⟨I245, J245, B245, G245⟩ := u
                                                  dsimp only at Y S s245 p245
                                                  have i245 : I244 = I245 := (funext (fun j => s245.2.1 j (by simp))).symm
                                                  subst i245
                                                  have b245 : B230 = B245 := (funext (fun j => s245.2.2 j (by simp))).symm
                                                  subst b245
                                                  obtain ⟨l245, u245, x245⟩ := p245
                                                  have J255 : ∀ (z253 : Int) (I246 : Nat → Int32) (J246 : Nat → Int64) (B246 : Nat → Nat → Int32) (G246 : Nat → Nat → Int64) (H : Heap) (locs : List Loc) (ls : Array Slot), (pG1 I246) → (pG2 (B246 37) (B246 38)) → (tkA (B246 37) (B246 38) (B246 0)) → (I246 33 = iI z238) → (I246 79 = iI z137) → (I246 80 = iI z158) → (I246 42 = iI z253) → (0 ≤ z253) → (z253 ≤ 60000) → (59900 ≤ z253) → mH D E (mA E h q sz) s.heap h q I246 J246 B246 G246 H locs → rS [3, 8, 14, 18, 33, 36, 39, 40, 42, 54, 79, 80] [0, 1, 5, 6, 7, 9, 10, 11, 12, 13, 15, 16, 17, 19, 20, 21, 22, 23, 34, 35, 37, 38, 53, 58, 59, 61, 62, 63, 64, 133, 134, 135, 136, 141, 142, 143] I B I246 B246 → lv_has ls 8 [(0, .ref h), (5, .int (iI z173))] → W p l e (mR 46 2072) s m AV below meth c H locs 0 0 QQ (F0 m 581 ls []) := by
                                                    intro z253 I246 J246 B246 G246 H locs ls f247 f248 f249 e250 e251 e252 e253 l253 u253 i254 Y S hl
                                                    refine lv_aload_n X.1 X.2.1 d_M_served_581 rfl (lv_at hl 0 rfl) ?_
                                                    refine lv_iconst (v := iI 1) X.1 X.2.1 d_M_served_582 (by decide) ?_
                                                    refine lv_aload_n X.1 X.2.1 d_M_served_583 rfl (lv_at hl 0 rfl) ?_
                                                    refine lv_iconst (v := iI 5) X.1 X.2.1 d_M_served_584 (by decide) ?_
                                                    refine lv_iconst (v := iI 4) X.1 X.2.1 d_M_served_585 (by decide) ?_
                                                    refine r_nl (m_run (As := [.int (iI 5), .int (iI 4)]) (rest := [.int (iI 1), .ref h]) (n := 2) X Y hZ hA hml hl.1 (r_M_numberAt l D E h q H.size I246 J246 B246 G246 5 (by decide) (by decide) 4 (by decide) (by decide) S.1 f247 f248) kl_M_numberAt ks_M_numberAt kx_M_numberAt ki_M_numberAt ini_M hd_M_numberAt ⟨Nat.le_of_ble_eq_true rfl, Nat.le_of_ble_eq_true rfl⟩ rfl (Nat.le_of_ble_eq_true rfl) d_M_served_586 ⟨Nat.le_refl _, Nat.le_refl _⟩) X Y hA S (by decide) (by decide) (fun v259 u H locs Y S s259 p259 => ?_)
                                                    obtain ⟨I259, J259, B259, G259⟩ := u
                                                    dsimp only at Y S s259 p259
                                                    have b259 : B246 = B259 := (funext (fun j => s259.2.2 j (by simp))).symm
                                                    subst b259
                                                    have g259_P1 := p259
                                                    refine r_nv (m_run (As := [.int (iI 1), .long v259]) (rest := []) (n := 2) X Y hZ hA hml hl.1 (r_M_numberField l D E h q H.size I259 J259 B246 G259 1 (by decide) (by decide) v259 S.1 z253 ((s259.2.1 42 (by decide)).trans e253) (by omega) (by omega)) kl_M_numberField ks_M_numberField kx_M_numberField ki_M_numberField ini_M hd_M_numberField ⟨Nat.le_of_ble_eq_true rfl, Nat.le_of_ble_eq_true rfl⟩ rfl (Nat.le_of_ble_eq_true rfl) d_M_served_589 ⟨Nat.le_refl _, Nat.le_refl _⟩) X Y hA S (by decide) (by decide) (fun u H locs Y S s260 p260 => ?_)
                                                    obtain ⟨I260, J260, B260, G260⟩ := u
                                                    dsimp only at Y S s260 p260
                                                    obtain ⟨x260, g260_MF⟩ := p260
                                                    have f261 : tkA (B260 37) (B260 38) (B260 0) := (tkA_cg rfl (s260.2.2 37 (by decide)) (s260.2.2 38 (by decide)) (tkA_M g260_MF (by decide) (tkA_cg rfl rfl rfl f249)))
                                                    obtain ⟨z262, e262, l262, u262⟩ := x260
                                                    refine lv_aload_n X.1 X.2.1 d_M_served_592 rfl (lv_at hl 0 rfl) ?_
                                                    refine lv_iconst (v := iI 0) X.1 X.2.1 d_M_served_593 (by decide) ?_
                                                    refine lv_aload_n X.1 X.2.1 d_M_served_594 rfl (lv_at hl 0 rfl) ?_
                                                    refine lv_iconst (v := iI 5) X.1 X.2.1 d_M_served_595 (by decide) ?_
                                                    refine lv_iconst (v := iI 5) X.1 X.2.1 d_M_served_596 (by decide) ?_
                                                    refine r_nl (m_run (As := [.int (iI 5), .int (iI 5)]) (rest := [.int (iI 0), .ref h]) (n := 2) X Y hZ hA hml hl.1 (r_M_timeOf l D E h q H.size I260 J260 B260 G260 5 (by decide) (by decide) 5 (by decide) (by decide) S.1 (pG1_cg (s260.2.1 39 (by decide)) (s260.2.1 40 (by decide)) g259_P1) (pG2_cg (s260.2.2 37 (by decide)) (s260.2.2 38 (by decide)) (pG2_cg rfl rfl f248))) kl_M_timeOf ks_M_timeOf kx_M_timeOf ki_M_timeOf ini_M hd_M_timeOf ⟨Nat.le_of_ble_eq_true rfl, Nat.le_of_ble_eq_true rfl⟩ rfl (Nat.le_of_ble_eq_true rfl) d_M_served_597 ⟨Nat.le_refl _, Nat.le_refl _⟩) X Y hA S (by decide) (by decide) (fun v263 u H locs Y S s263 p263 => ?_)
                                                    obtain ⟨I263, J263, B263, G263⟩ := u
                                                    dsimp only at Y S s263 p263
                                                    have b263 : B260 = B263 := (funext (fun j => s263.2.2 j (by simp))).symm
                                                    subst b263
                                                    have g263_P1 := p263
                                                    refine r_nv (m_run (As := [.int (iI 0), .long v263]) (rest := []) (n := 2) X Y hZ hA hml hl.1 (r_M_timeField l D E h q H.size I263 J263 B260 G263 0 (by decide) (by decide) v263 S.1 z262 ((s263.2.1 42 (by decide)).trans e262) (by omega) (by omega)) kl_M_timeField ks_M_timeField kx_M_timeField ki_M_timeField ini_M hd_M_timeField ⟨Nat.le_of_ble_eq_true rfl, Nat.le_of_ble_eq_true rfl⟩ rfl (Nat.le_of_ble_eq_true rfl) d_M_served_600 ⟨Nat.le_refl _, Nat.le_refl _⟩) X Y hA S (by decide) (by decide) (fun u H locs Y S s264 p264 => ?_)
                                                    obtain ⟨I264, J264, B264, G264⟩ := u
                                                    dsimp only at Y S s264 p264
                                                    obtain ⟨x264, g264_MF⟩ := p264
                                                    have f265 : tkA (B264 37) (B264 38) (B264 0) := (tkA_cg rfl (s264.2.2 37 (by decide)) (s264.2.2 38 (by decide)) (tkA_M g264_MF (by decide) (tkA_cg rfl rfl rfl f261)))
                                                    obtain ⟨z266, e266, l266, u266⟩ := x264
                                                    refine lv_aload_n X.1 X.2.1 d_M_served_603 rfl (lv_at hl 0 rfl) ?_
                                                    refine lv_bipush (v := iI 48) X.1 X.2.1 d_M_served_604 (by decide) ?_
                                                    refine lv_ldc (v := (60000)) X.1 X.2.1 X.2.2.2.1 (X.2.2.1 _ cn_M_9) d_M_served_606 ?_
                                                    refine t_eq (y := iI 60000) (by decide) ?_
                                                    refine r_nv (m_run (As := [.int (iI 48), .int (iI 60000)]) (rest := []) (n := 2) X Y hZ hA hml hl.1 (r_M_head l D E h q H.size I264 J264 B264 G264 48 (by decide) (by decide) 60000 (by decide) (by decide) S.1 z266 e266 (by omega) (by omega)) kl_M_head ks_M_head kx_M_head ki_M_head ini_M hd_M_head ⟨Nat.le_of_ble_eq_true rfl, Nat.le_of_ble_eq_true rfl⟩ rfl (Nat.le_of_ble_eq_true rfl) d_M_served_608 ⟨Nat.le_refl _, Nat.le_refl _⟩) X Y hA S (by decide) (by decide) (fun u H locs Y S s267 p267 => ?_)
                                                    obtain ⟨I267, J267, B267, G267⟩ := u
                                                    dsimp only at Y S s267 p267
                                                    obtain ⟨x267, g267_MF⟩ := p267
                                                    have f268 : tkA (B267 37) (B267 38) (B267 0) := (tkA_cg rfl (s267.2.2 37 (by decide)) (s267.2.2 38 (by decide)) (tkA_M g267_MF (by decide) f265))
                                                    obtain ⟨z269, e269, l269, u269⟩ := x267
                                                    refine lv_aload_n X.1 X.2.1 d_M_served_611 rfl (lv_at hl 0 rfl) ?_
                                                    refine lv_bipush (v := iI 123) X.1 X.2.1 d_M_served_612 (by decide) ?_
                                                    refine lv_ldc (v := (60000)) X.1 X.2.1 X.2.2.2.1 (X.2.2.1 _ cn_M_9) d_M_served_614 ?_
                                                    refine t_eq (y := iI 60000) (by decide) ?_
                                                    refine r_nv (m_run (As := [.int (iI 123), .int (iI 60000)]) (rest := []) (n := 2) X Y hZ hA hml hl.1 (r_M_head l D E h q H.size I267 J267 B267 G267 123 (by decide) (by decide) 60000 (by decide) (by decide) S.1 z269 e269 (by omega) (by omega)) kl_M_head ks_M_head kx_M_head ki_M_head ini_M hd_M_head ⟨Nat.le_of_ble_eq_true rfl, Nat.le_of_ble_eq_true rfl⟩ rfl (Nat.le_of_ble_eq_true rfl) d_M_served_616 ⟨Nat.le_refl _, Nat.le_refl _⟩) X Y hA S (by decide) (by decide) (fun u H locs Y S s270 p270 => ?_)
                                                    obtain ⟨I270, J270, B270, G270⟩ := u
                                                    dsimp only at Y S s270 p270
                                                    have f271 : pG2 (B270 37) (B270 38) := (pG2_cg (s270.2.2 37 (by decide)) (s270.2.2 38 (by decide)) (pG2_cg (s267.2.2 37 (by decide)) (s267.2.2 38 (by decide)) (pG2_cg (s264.2.2 37 (by decide)) (s264.2.2 38 (by decide)) (pG2_cg rfl rfl (pG2_cg (s260.2.2 37 (by decide)) (s260.2.2 38 (by decide)) (pG2_cg rfl rfl f248))))))
                                                    obtain ⟨x270, g270_MF⟩ := p270
                                                    have f272 : tkA (B270 37) (B270 38) (B270 0) := (tkA_cg rfl (s270.2.2 37 (by decide)) (s270.2.2 38 (by decide)) (tkA_M g270_MF (by decide) f268))
                                                    obtain ⟨z273, e273, l273, u273⟩ := x270
                                                    refine lv_aload_n X.1 X.2.1 d_M_served_619 rfl (lv_at hl 0 rfl) ?_
                                                    refine lv_aload_n X.1 X.2.1 d_M_served_620 rfl (lv_at hl 0 rfl) ?_
                                                    refine m_get X Y 58 (by decide) lk_key (gf_key _ _ _) rfl d_M_served_621 ?_
                                                    refine lv_aload_n X.1 X.2.1 d_M_served_624 rfl (lv_at hl 0 rfl) ?_
                                                    refine r_get0 X Y (by decide) lk_ticketType (gf_ticketType _ _ _) rfl ((s270.2.1 79 (by decide)).trans ((s267.2.1 79 (by decide)).trans ((s264.2.1 79 (by decide)).trans ((s263.2.1 79 (by decide)).trans ((s260.2.1 79 (by decide)).trans ((s259.2.1 79 (by decide)).trans e251)))))) d_M_served_625 ?_
                                                    refine lv_bipush (v := iI 12) X.1 X.2.1 d_M_served_628 (by decide) ?_
                                                    refine lv_aload_n X.1 X.2.1 d_M_served_630 rfl (lv_at hl 0 rfl) ?_
                                                    refine r_get0 X Y (by decide) lk_w0 (gf_w0 _ _ _) rfl e273 d_M_served_631 ?_
                                                    refine lv_ldc (v := (60000)) X.1 X.2.1 X.2.2.2.1 (X.2.2.1 _ cn_M_9) d_M_served_634 ?_
                                                    refine t_eq (y := iI 60000) (by decide) ?_
                                                    refine r_nv (m_run (As := [.ref ((q 58)), .int (iI z137), .int (iI 12), .int (iI z273), .int (iI 60000)]) (rest := []) (n := 5) X Y hZ hA hml hl.1 (r_M_seal_key l D E h q H.size I270 J270 B270 G270 z137 (by omega) (by omega) 12 (by decide) (by decide) z273 (by omega) (by omega) 60000 (by decide) (by decide) S.1 z238 ((s270.2.1 33 (by decide)).trans ((s267.2.1 33 (by decide)).trans ((s264.2.1 33 (by decide)).trans ((s263.2.1 33 (by decide)).trans ((s260.2.1 33 (by decide)).trans ((s259.2.1 33 (by decide)).trans e250)))))) (by omega) (by omega) (by omega) (by omega)) kl_M_seal ks_M_seal kx_M_seal ki_M_seal ini_M hd_M_seal ⟨Nat.le_of_ble_eq_true rfl, Nat.le_of_ble_eq_true rfl⟩ rfl (Nat.le_of_ble_eq_true rfl) d_M_served_636 ⟨Nat.le_refl _, Nat.le_refl _⟩) X Y hA S (by decide) (by decide) (fun u H locs Y S s274 p274 => ?_)
                                                    obtain ⟨I274, J274, B274, G274⟩ := u
                                                    dsimp only at Y S s274 p274
                                                    have f275 : pG1 I274 := (pG1_cg (s274.2.1 39 (by decide)) (s274.2.1 40 (by decide)) (pG1_cg (s270.2.1 39 (by decide)) (s270.2.1 40 (by decide)) (pG1_cg (s267.2.1 39 (by decide)) (s267.2.1 40 (by decide)) (pG1_cg (s264.2.1 39 (by decide)) (s264.2.1 40 (by decide)) g263_P1))))
                                                    have x274 := p274
                                                    obtain ⟨x274_0, x274_1⟩ := x274
                                                    refine lv_aload_n X.1 X.2.1 d_M_served_639 rfl (lv_at hl 0 rfl) ?_
                                                    refine r_nv (m_run (As := []) (rest := []) (n := 0) X Y hZ hA hml hl.1 (r_M_start l D E h q H.size I274 J274 B274 G274 S.1) kl_M_start ks_M_start kx_M_start ki_M_start ini_M hd_M_start ⟨Nat.le_of_ble_eq_true rfl, Nat.le_of_ble_eq_true rfl⟩ rfl (Nat.le_of_ble_eq_true rfl) d_M_served_640 ⟨Nat.le_refl _, Nat.le_refl _⟩) X Y hA S (by decide) (by decide) (fun u H locs Y S s276 p276 => ?_)
                                                    obtain ⟨I276, J276, B276, G276⟩ := u
                                                    dsimp only at Y S s276 p276
                                                    have b276 : B274 = B276 := (funext (fun j => s276.2.2 j (by simp))).symm
                                                    subst b276
                                                    have x276 := p276
                                                    refine lv_aload_n X.1 X.2.1 d_M_served_643 rfl (lv_at hl 0 rfl) ?_
                                                    refine lv_iconst (v := iI 2) X.1 X.2.1 d_M_served_644 (by decide) ?_
                                                    refine lv_aload_n X.1 X.2.1 d_M_served_645 rfl (lv_at hl 0 rfl) ?_
                                                    refine r_get0 X Y (by decide) lk_ticketType (gf_ticketType _ _ _) rfl ((s276.2.1 79 (by decide)).trans ((s274.2.1 79 (by decide)).trans ((s270.2.1 79 (by decide)).trans ((s267.2.1 79 (by decide)).trans ((s264.2.1 79 (by decide)).trans ((s263.2.1 79 (by decide)).trans ((s260.2.1 79 (by decide)).trans ((s259.2.1 79 (by decide)).trans e251)))))))) d_M_served_646 ?_
                                                    refine lv_lconst (v := 0) X.1 X.2.1 d_M_served_649 rfl ?_
                                                    refine r_nv (m_run (As := [.int (iI 2), .int (iI z137), .long 0]) (rest := []) (n := 3) X Y hZ hA hml hl.1 (r_M_sealedField l D E h q H.size I276 J276 B274 G276 2 (by decide) (by decide) z137 (by omega) (by omega) 0 S.1 60000 (x276.trans (congrArg iI (show (60000 : Int) = 60000 by omega))) (by omega) (by omega) (60000 - z273 + 28) ((s276.2.1 36 (by decide)).trans (x274_0.trans (congrArg iI (show (60000 - z273 + 28 : Int) = 60000 - z273 + 28 by omega)))) (by omega) (by omega) (by omega)) kl_M_sealedField ks_M_sealedField kx_M_sealedField ki_M_sealedField ini_M hd_M_sealedField ⟨Nat.le_of_ble_eq_true rfl, Nat.le_of_ble_eq_true rfl⟩ rfl (Nat.le_of_ble_eq_true rfl) d_M_served_650 ⟨Nat.le_refl _, Nat.le_refl _⟩) X Y hA S (by decide) (by decide) (fun u H locs Y S s277 p277 => ?_)
                                                    obtain ⟨I277, J277, B277, G277⟩ := u
                                                    dsimp only at Y S s277 p277
                                                    obtain ⟨x277, g277_MF⟩ := p277
                                                    have f278 : tkA (B277 37) (B277 38) (B277 0) := (tkA_cg rfl (s277.2.2 37 (by decide)) (s277.2.2 38 (by decide)) (tkA_M g277_MF (by decide) (tkA_cg rfl rfl rfl (tkA_cg (s274.2.2 0 (by decide)) (s274.2.2 37 (by decide)) (s274.2.2 38 (by decide)) f272))))
                                                    obtain ⟨z279, e279, l279, u279⟩ := x277
                                                    refine lv_aload_n X.1 X.2.1 d_M_served_653 rfl (lv_at hl 0 rfl) ?_
                                                    refine lv_iconst (v := iI 1) X.1 X.2.1 d_M_served_654 (by decide) ?_
                                                    refine lv_ldc2 (v := (15)) X.1 X.2.1 X.2.2.2.1 (X.2.2.1 _ cl_M_981) d_M_served_655 ?_
                                                    refine r_nv (m_run (As := [.int (iI 1), .long ((15))]) (rest := []) (n := 2) X Y hZ hA hml hl.1 (r_M_numberField l D E h q H.size I277 J277 B277 G277 1 (by decide) (by decide) ((15)) S.1 z279 e279 (by omega) (by omega)) kl_M_numberField ks_M_numberField kx_M_numberField ki_M_numberField ini_M hd_M_numberField ⟨Nat.le_of_ble_eq_true rfl, Nat.le_of_ble_eq_true rfl⟩ rfl (Nat.le_of_ble_eq_true rfl) d_M_served_658 ⟨Nat.le_refl _, Nat.le_refl _⟩) X Y hA S (by decide) (by decide) (fun u H locs Y S s280 p280 => ?_)
                                                    obtain ⟨I280, J280, B280, G280⟩ := u
                                                    dsimp only at Y S s280 p280
                                                    obtain ⟨x280, g280_MF⟩ := p280
                                                    have f281 : tkA (B280 37) (B280 38) (B280 0) := (tkA_cg rfl (s280.2.2 37 (by decide)) (s280.2.2 38 (by decide)) (tkA_M g280_MF (by decide) f278))
                                                    obtain ⟨z282, e282, l282, u282⟩ := x280
                                                    refine lv_aload_n X.1 X.2.1 d_M_served_661 rfl (lv_at hl 0 rfl) ?_
                                                    refine lv_iconst (v := iI 0) X.1 X.2.1 d_M_served_662 (by decide) ?_
                                                    refine lv_ldc2 (v := (5)) X.1 X.2.1 X.2.2.2.1 (X.2.2.1 _ cl_M_669) d_M_served_663 ?_
                                                    refine r_nv (m_run (As := [.int (iI 0), .long ((5))]) (rest := []) (n := 2) X Y hZ hA hml hl.1 (r_M_numberField l D E h q H.size I280 J280 B280 G280 0 (by decide) (by decide) ((5)) S.1 z282 e282 (by omega) (by omega)) kl_M_numberField ks_M_numberField kx_M_numberField ki_M_numberField ini_M hd_M_numberField ⟨Nat.le_of_ble_eq_true rfl, Nat.le_of_ble_eq_true rfl⟩ rfl (Nat.le_of_ble_eq_true rfl) d_M_served_666 ⟨Nat.le_refl _, Nat.le_refl _⟩) X Y hA S (by decide) (by decide) (fun u H locs Y S s283 p283 => ?_)
                                                    obtain ⟨I283, J283, B283, G283⟩ := u
                                                    dsimp only at Y S s283 p283
                                                    have f284 : pG2 (B283 37) (B283 38) := (pG2_cg (s283.2.2 37 (by decide)) (s283.2.2 38 (by decide)) (pG2_cg (s280.2.2 37 (by decide)) (s280.2.2 38 (by decide)) (pG2_cg (s277.2.2 37 (by decide)) (s277.2.2 38 (by decide)) (pG2_cg rfl rfl (pG2_cg (s274.2.2 37 (by decide)) (s274.2.2 38 (by decide)) f271)))))
                                                    obtain ⟨x283, g283_MF⟩ := p283
                                                    have f285 : tkA (B283 37) (B283 38) (B283 0) := (tkA_cg rfl (s283.2.2 37 (by decide)) (s283.2.2 38 (by decide)) (tkA_M g283_MF (by decide) f281))
                                                    obtain ⟨z286, e286, l286, u286⟩ := x283
                                                    refine lv_aload_n X.1 X.2.1 d_M_served_669 rfl (lv_at hl 0 rfl) ?_
                                                    refine lv_bipush (v := iI 48) X.1 X.2.1 d_M_served_670 (by decide) ?_
                                                    refine lv_ldc (v := (60000)) X.1 X.2.1 X.2.2.2.1 (X.2.2.1 _ cn_M_9) d_M_served_672 ?_
                                                    refine t_eq (y := iI 60000) (by decide) ?_
                                                    refine r_nv (m_run (As := [.int (iI 48), .int (iI 60000)]) (rest := []) (n := 2) X Y hZ hA hml hl.1 (r_M_head l D E h q H.size I283 J283 B283 G283 48 (by decide) (by decide) 60000 (by decide) (by decide) S.1 z286 e286 (by omega) (by omega)) kl_M_head ks_M_head kx_M_head ki_M_head ini_M hd_M_head ⟨Nat.le_of_ble_eq_true rfl, Nat.le_of_ble_eq_true rfl⟩ rfl (Nat.le_of_ble_eq_true rfl) d_M_served_674 ⟨Nat.le_refl _, Nat.le_refl _⟩) X Y hA S (by decide) (by decide) (fun u H locs Y S s287 p287 => ?_)
                                                    obtain ⟨I287, J287, B287, G287⟩ := u
                                                    dsimp only at Y S s287 p287
                                                    have f288 : pG1 I287 := (pG1_cg (s287.2.1 39 (by decide)) (s287.2.1 40 (by decide)) (pG1_cg (s283.2.1 39 (by decide)) (s283.2.1 40 (by decide)) (pG1_cg (s280.2.1 39 (by decide)) (s280.2.1 40 (by decide)) (pG1_cg (s277.2.1 39 (by decide)) (s277.2.1 40 (by decide)) (pG1_cg (s276.2.1 39 (by decide)) (s276.2.1 40 (by decide)) f275)))))
                                                    obtain ⟨x287, g287_MF⟩ := p287
                                                    have f289 : tkA (B287 37) (B287 38) (B287 0) := (tkA_cg rfl (s287.2.2 37 (by decide)) (s287.2.2 38 (by decide)) (tkA_M g287_MF (by decide) f285))
                                                    obtain ⟨z290, e290, l290, u290⟩ := x287
                                                    refine lv_aload_n X.1 X.2.1 d_M_served_677 rfl (lv_at hl 0 rfl) ?_
                                                    refine lv_bipush (v := iI 111) X.1 X.2.1 d_M_served_678 (by decide) ?_
                                                    refine lv_ldc (v := (60000)) X.1 X.2.1 X.2.2.2.1 (X.2.2.1 _ cn_M_9) d_M_served_680 ?_
                                                    refine t_eq (y := iI 60000) (by decide) ?_
                                                    refine r_nv (m_run (As := [.int (iI 111), .int (iI 60000)]) (rest := []) (n := 2) X Y hZ hA hml hl.1 (r_M_head l D E h q H.size I287 J287 B287 G287 111 (by decide) (by decide) 60000 (by decide) (by decide) S.1 z290 e290 (by omega) (by omega)) kl_M_head ks_M_head kx_M_head ki_M_head ini_M hd_M_head ⟨Nat.le_of_ble_eq_true rfl, Nat.le_of_ble_eq_true rfl⟩ rfl (Nat.le_of_ble_eq_true rfl) d_M_served_682 ⟨Nat.le_refl _, Nat.le_refl _⟩) X Y hA S (by decide) (by decide) (fun u H locs Y S s291 p291 => ?_)
                                                    obtain ⟨I291, J291, B291, G291⟩ := u
                                                    dsimp only at Y S s291 p291
                                                    obtain ⟨x291, g291_MF⟩ := p291
                                                    have f292 : tkA (B291 37) (B291 38) (B291 0) := (tkA_cg rfl (s291.2.2 37 (by decide)) (s291.2.2 38 (by decide)) (tkA_M g291_MF (by decide) f289))
                                                    obtain ⟨z293, e293, l293, u293⟩ := x291
                                                    refine lv_aload_n X.1 X.2.1 d_M_served_685 rfl (lv_at hl 0 rfl) ?_
                                                    refine r_nv (m_run (As := []) (rest := []) (n := 0) X Y hZ hA hml hl.1 (r_M_written l D E h q H.size I291 J291 B291 G291 S.1 z293 e293 (by omega) (by omega)) kl_M_written ks_M_written kx_M_written ki_M_written ini_M hd_M_written ⟨Nat.le_of_ble_eq_true rfl, Nat.le_of_ble_eq_true rfl⟩ rfl (Nat.le_of_ble_eq_true rfl) d_M_served_686 ⟨Nat.le_refl _, Nat.le_refl _⟩) X Y hA S (by decide) (by decide) (fun u H locs Y S s294 p294 => ?_)
                                                    obtain ⟨I294, J294, B294, G294⟩ := u
                                                    dsimp only at Y S s294 p294
                                                    have g294_MF := p294
                                                    refine lv_iload X.1 X.2.1 d_M_served_689 (lv_at hl 1 rfl) ?_
                                                    exact m_reti hQQ X Y hr hlk ⟨S, z173, rfl, ⟨by omega, by omega, ⟨z238 + 16, ((s294.2.1 33 (by decide)).trans ((s291.2.1 33 (by decide)).trans ((s287.2.1 33 (by decide)).trans ((s283.2.1 33 (by decide)).trans ((s280.2.1 33 (by decide)).trans ((s277.2.1 33 (by decide)).trans ((s276.2.1 33 (by decide)).trans (x274_1.trans (congrArg iI (show (z238 + 16 : Int) = z238 + 16 by omega)))))))))), by omega, by omega⟩, (pG1_cg (s294.2.1 39 (by decide)) (s294.2.1 40 (by decide)) (pG1_cg (s291.2.1 39 (by decide)) (s291.2.1 40 (by decide)) f288)), (pG2_cg (s294.2.2 37 (by decide)) (s294.2.2 38 (by decide)) (pG2_cg (s291.2.2 37 (by decide)) (s291.2.2 38 (by decide)) (pG2_cg (s287.2.2 37 (by decide)) (s287.2.2 38 (by decide)) f284)))⟩⟩ d_M_served_691
                                                  refine z_if_eq (tgt := 581) X.1 X.2.1 d_M_served_571 (by decide) ⟨by omega, by omega⟩ (fun h295 => ?_) (fun h295 => ?_)
                                                  · exact J255 60000 I244 J245 B230 G245 _ _ _ (pG1_cg rfl rfl (pG1_cg (s244.2.1 39 (by decide)) (s244.2.1 40 (by decide)) f233)) (pG2_cg rfl rfl (pG2_cg rfl rfl f234)) (tkA_cg rfl rfl rfl (tkA_cg rfl rfl rfl f235)) ((s244.2.1 33 (by decide)).trans e238) ((s244.2.1 79 (by decide)).trans e236) ((s244.2.1 80 (by decide)).trans e237) (x244.trans (congrArg iI (show (60000 : Int) = 60000 by omega))) (by omega) (by omega) (by omega) Y S (lv_sub hl [0, 1] rfl)
                                                  · refine lv_aload_n X.1 X.2.1 d_M_served_574 rfl (lv_at hl 0 rfl) ?_
                                                    refine lv_iconst (v := iI 3) X.1 X.2.1 d_M_served_575 (by decide) ?_
                                                    refine lv_lload X.1 X.2.1 d_M_served_576 (lv_at hl 2 rfl) ?_
                                                    refine r_nv (m_run (As := [.int (iI 3), .long v231]) (rest := []) (n := 2) X Y hZ hA hml hl.1 (r_M_numberField l D E h q H.size I244 J245 B230 G245 3 (by decide) (by decide) v231 S.1 60000 (x244.trans (congrArg iI (show (60000 : Int) = 60000 by omega))) (by omega) (by omega)) kl_M_numberField ks_M_numberField kx_M_numberField ki_M_numberField ini_M hd_M_numberField ⟨Nat.le_of_ble_eq_true rfl, Nat.le_of_ble_eq_true rfl⟩ rfl (Nat.le_of_ble_eq_true rfl) d_M_served_578 ⟨Nat.le_refl _, Nat.le_refl _⟩) X Y hA S (by decide) (by decide) (fun u H locs Y S s296 p296 => ?_)
                                                    obtain ⟨I296, J296, B296, G296⟩ := u
                                                    dsimp only at Y S s296 p296
                                                    obtain ⟨x296, g296_MF⟩ := p296
                                                    have f297 : tkA (B296 37) (B296 38) (B296 0) := (tkA_cg rfl (s296.2.2 37 (by decide)) (s296.2.2 38 (by decide)) (tkA_M g296_MF (by decide) (tkA_cg rfl rfl rfl (tkA_cg rfl rfl rfl f235))))
                                                    obtain ⟨z298, e298, l298, u298⟩ := x296
                                                    exact J255 z298 I296 J296 B296 G296 _ _ _ (pG1_cg (s296.2.1 39 (by decide)) (s296.2.1 40 (by decide)) (pG1_cg rfl rfl (pG1_cg (s244.2.1 39 (by decide)) (s244.2.1 40 (by decide)) f233))) (pG2_cg (s296.2.2 37 (by decide)) (s296.2.2 38 (by decide)) (pG2_cg rfl rfl (pG2_cg rfl rfl f234))) f297 ((s296.2.1 33 (by decide)).trans ((s244.2.1 33 (by decide)).trans e238)) ((s296.2.1 79 (by decide)).trans ((s244.2.1 79 (by decide)).trans e236)) ((s296.2.1 80 (by decide)).trans ((s244.2.1 80 (by decide)).trans e237)) e298 (by omega) (by omega) (by omega) Y S (lv_sub hl [0, 1] rfl)
                                                refine z_if_eq (tgt := 560) X.1 X.2.1 d_M_served_533 (by decide) ⟨by omega, by omega⟩ (fun h299 => ?_) (fun h299 => ?_)
                                                · exact J240 0 cn I227 J229 B210 G229 _ _ _ (auA_cg rfl rfl rfl (auA_cg rfl rfl rfl f212)) (pG1_cg rfl rfl (pG1_cg (w227.2 39 (by decide)) (w227.2 40 (by decide)) f213)) (pG2_cg rfl rfl (pG2_cg rfl rfl f214)) (tkA_cg rfl rfl rfl (tkA_cg rfl rfl rfl f215)) ((w227.2 79 (by decide)).trans e217) ((w227.2 80 (by decide)).trans e218) ((w227.2 33 (by decide)).trans e216) (by omega) (by omega) (by omega) Y S (lv_sub hl [1, 3, 0] rfl)
                                                · refine lv_aload_n X.1 X.2.1 d_M_served_536 rfl (lv_at hl 1 rfl) ?_
                                                  refine r_ni (m_run (As := []) (rest := []) (n := 0) X Y hZ hA hml hl.1 (r_M_fourCoins l D E h q H.size I227 J229 B210 G229 S.1 cn ((w227.2 33 (by decide)).trans e216) (by omega) (by omega)) kl_M_fourCoins ks_M_fourCoins kx_M_fourCoins ki_M_fourCoins ini_M hd_M_fourCoins ⟨Nat.le_of_ble_eq_true rfl, Nat.le_of_ble_eq_true rfl⟩ rfl (Nat.le_of_ble_eq_true rfl) d_M_served_537 ⟨Nat.le_refl _, Nat.le_refl _⟩) X Y hA S (by decide) (by decide) (fun z300 u H locs Y S s300 p300 => ?_)
                                                  obtain ⟨I300, J300, B300, G300⟩ := u
                                                  dsimp only at Y S s300 p300
                                                  obtain ⟨l300, u300, x300⟩ := p300
                                                  refine lv_ldcw (v := (1073741823)) X.1 X.2.1 X.2.2.2.1 (X.2.2.1 _ cn_M_974) d_M_served_540 ?_
                                                  refine t_eq (y := iI 1073741823) (by decide) ?_
                                                  refine z_iand X.1 X.2.1 (by omega) (by omega) d_M_served_543 (fun z301 l301 u301 => ?_)
                                                  refine lv_i2l X.1 X.2.1 d_M_served_544 rfl ?_
                                                  refine t_anyl (fun v302 => ?_)
                                                  refine lv_lstore (lv' := [(6, .long v302), (0, .ref h), (3, .int (iI z120)), (5, .int (iI z173))]) X.1 X.2.1 d_M_served_545 hl (by decide) rfl (fun ls hl => ?_)
                                                  refine lv_aload_n X.1 X.2.1 d_M_served_547 rfl (lv_at hl 1 rfl) ?_
                                                  refine m_get X Y 137 (by decide) lk_ownNumber (gf_ownNumber _ _ _) rfl d_M_served_548 ?_
                                                  refine lv_iconst (v := iI 2) X.1 X.2.1 d_M_served_551 (by decide) ?_
                                                  refine lv_iload X.1 X.2.1 d_M_served_552 (lv_at hl 3 rfl) ?_
                                                  refine z_imul X.1 X.2.1 d_M_served_554 ?_
                                                  refine lv_iconst (v := iI 1) X.1 X.2.1 d_M_served_555 (by decide) ?_
                                                  refine z_iadd X.1 X.2.1 d_M_served_556 ?_
                                                  refine lv_lload X.1 X.2.1 d_M_served_557 (lv_at hl 0 rfl) ?_
                                                  refine r_last X Y (aw_ownNumber _ _ _ _ _ _ _) (sw_ownNumber _ _ _ _ _ _ _) (by omega) (show (2 * z173) + 1 < ((16 : Nat) : Int) by omega) (by omega) d_M_served_559 (fun G303 H locs Y => ?_)
                                                  exact J240 v302 (cn + 4) I300 J300 B300 G303 _ _ _ (auA_cg (s300.2.2 0 (by decide)) (s300.2.2 37 (by decide)) (s300.2.2 38 (by decide)) (auA_cg rfl rfl rfl (auA_cg rfl rfl rfl f212))) (pG1_cg (s300.2.1 39 (by decide)) (s300.2.1 40 (by decide)) (pG1_cg rfl rfl (pG1_cg (w227.2 39 (by decide)) (w227.2 40 (by decide)) f213))) (pG2_cg (s300.2.2 37 (by decide)) (s300.2.2 38 (by decide)) (pG2_cg rfl rfl (pG2_cg rfl rfl f214))) (tkA_cg (s300.2.2 0 (by decide)) (s300.2.2 37 (by decide)) (s300.2.2 38 (by decide)) (tkA_cg rfl rfl rfl (tkA_cg rfl rfl rfl f215))) ((s300.2.1 79 (by decide)).trans ((w227.2 79 (by decide)).trans e217)) ((s300.2.1 80 (by decide)).trans ((w227.2 80 (by decide)).trans e218)) (x300.trans (congrArg iI (show (cn + 4 : Int) = cn + 4 by omega))) (by omega) (by omega) (by omega) Y S (lv_sub hl [1, 3, 0] rfl)
                                              · refine lv_iload X.1 X.2.1 d_M_served_520 (lv_at hl 2 rfl) ?_
                                                exact m_reti hQQ X Y hr hlk ⟨S, z173, rfl, ⟨by omega, by omega, ⟨cn, ((w227.2 33 (by decide)).trans e216), by omega, by omega⟩, (pG1_cg (w227.2 39 (by decide)) (w227.2 40 (by decide)) f213), (pG2_cg rfl rfl f214)⟩⟩ d_M_served_522
                                            refine z_if_eq (tgt := 479) X.1 X.2.1 d_M_served_466 (by decide) ⟨by omega, by omega⟩ (fun h304 => ?_) (fun h304 => ?_)
                                            · refine lv_lconst (v := 0) X.1 X.2.1 d_M_served_479 rfl ?_
                                              exact J219 0 I206 J209 B208 G209 _ _ _ (auA_cg rfl rfl rfl (auA_cg (w208.2 0 (by decide)) (w208.2 37 (by decide)) (w208.2 38 (by decide)) (auA_cg rfl rfl rfl (auA_cg rfl rfl rfl (auA_cg (w203.2 0 (by decide)) (w203.2 37 (by decide)) (w203.2 38 (by decide)) f191))))) (pG1_cg rfl rfl (pG1_cg rfl rfl g206_P1)) (pG2_cg rfl rfl (pG2_cg (w208.2 37 (by decide)) (w208.2 38 (by decide)) (pG2_cg rfl rfl (pG2_cg rfl rfl (pG2_cg (w203.2 37 (by decide)) (w203.2 38 (by decide)) f193))))) (tkA_cg rfl rfl rfl (tkA_cg (w208.2 0 (by decide)) (w208.2 37 (by decide)) (w208.2 38 (by decide)) (tkA_cg rfl rfl rfl (tkA_cg rfl rfl rfl (tkA_cg (w203.2 0 (by decide)) (w203.2 37 (by decide)) (w203.2 38 (by decide)) f194))))) ((s206.2.1 33 (by decide)).trans ((s204.2.1 33 (by decide)).trans e195)) ((s206.2.1 79 (by decide)).trans ((s204.2.1 79 (by decide)).trans e196)) ((s206.2.1 80 (by decide)).trans ((s204.2.1 80 (by decide)).trans e197)) Y S (lv_sub hl [0, 1, 2] rfl)
                                            · refine lv_aload_n X.1 X.2.1 d_M_served_469 rfl (lv_at hl 0 rfl) ?_
                                              refine lv_iconst (v := iI 5) X.1 X.2.1 d_M_served_470 (by decide) ?_
                                              refine lv_bipush (v := iI 7) X.1 X.2.1 d_M_served_471 (by decide) ?_
                                              refine r_nl (m_run (As := [.int (iI 5), .int (iI 7)]) (rest := [.int (iI z173), .ref ((q 140))]) (n := 2) X Y hZ hA hml hl.1 (r_M_numberAt l D E h q H.size I206 J209 B208 G209 5 (by decide) (by decide) 7 (by decide) (by decide) S.1 (pG1_cg rfl rfl (pG1_cg rfl rfl g206_P1)) (pG2_cg rfl rfl (pG2_cg (w208.2 37 (by decide)) (w208.2 38 (by decide)) (pG2_cg rfl rfl (pG2_cg rfl rfl (pG2_cg (w203.2 37 (by decide)) (w203.2 38 (by decide)) f193)))))) kl_M_numberAt ks_M_numberAt kx_M_numberAt ki_M_numberAt ini_M hd_M_numberAt ⟨Nat.le_of_ble_eq_true rfl, Nat.le_of_ble_eq_true rfl⟩ rfl (Nat.le_of_ble_eq_true rfl) d_M_served_473 ⟨Nat.le_refl _, Nat.le_refl _⟩) X Y hA S (by decide) (by decide) (fun v305 u H locs Y S s305 p305 => ?_)
                                              obtain ⟨I305, J305, B305, G305⟩ := u
                                              dsimp only at Y S s305 p305
                                              have b305 : B208 = B305 := (funext (fun j => s305.2.2 j (by simp))).symm
                                              subst b305
                                              have g305_P1 := p305
                                              refine lv_goto (tgt := 480) X.1 X.2.1 d_M_served_476 (by decide) ?_
                                              exact J219 v305 I305 J305 B208 G305 _ _ _ (auA_cg rfl rfl rfl (auA_cg rfl rfl rfl (auA_cg (w208.2 0 (by decide)) (w208.2 37 (by decide)) (w208.2 38 (by decide)) (auA_cg rfl rfl rfl (auA_cg rfl rfl rfl (auA_cg (w203.2 0 (by decide)) (w203.2 37 (by decide)) (w203.2 38 (by decide)) f191)))))) g305_P1 (pG2_cg rfl rfl (pG2_cg rfl rfl (pG2_cg (w208.2 37 (by decide)) (w208.2 38 (by decide)) (pG2_cg rfl rfl (pG2_cg rfl rfl (pG2_cg (w203.2 37 (by decide)) (w203.2 38 (by decide)) f193)))))) (tkA_cg rfl rfl rfl (tkA_cg rfl rfl rfl (tkA_cg (w208.2 0 (by decide)) (w208.2 37 (by decide)) (w208.2 38 (by decide)) (tkA_cg rfl rfl rfl (tkA_cg rfl rfl rfl (tkA_cg (w203.2 0 (by decide)) (w203.2 37 (by decide)) (w203.2 38 (by decide)) f194)))))) ((s305.2.1 33 (by decide)).trans ((s206.2.1 33 (by decide)).trans ((s204.2.1 33 (by decide)).trans e195))) ((s305.2.1 79 (by decide)).trans ((s206.2.1 79 (by decide)).trans ((s204.2.1 79 (by decide)).trans e196))) ((s305.2.1 80 (by decide)).trans ((s206.2.1 80 (by decide)).trans ((s204.2.1 80 (by decide)).trans e197))) Y S (lv_sub hl [0, 1, 2] rfl)
                                          · refine lv_aload_n X.1 X.2.1 d_M_served_352 rfl (lv_at hl 0 rfl) ?_
                                            refine m_get X Y 136 (by decide) lk_sessionKeys (gf_sessionKeys _ _ _) rfl d_M_served_353 ?_
                                            refine lv_bipush (v := iI 32) X.1 X.2.1 d_M_served_356 (by decide) ?_
                                            refine lv_iload X.1 X.2.1 d_M_served_358 (lv_at hl 2 rfl) ?_
                                            refine z_imul X.1 X.2.1 d_M_served_360 ?_
                                            refine lv_iload X.1 X.2.1 d_M_served_361 (lv_at hl 3 rfl) ?_
                                            refine z_iadd X.1 X.2.1 d_M_served_363 ?_
                                            refine lv_aload_n X.1 X.2.1 d_M_served_364 rfl (lv_at hl 0 rfl) ?_
                                            refine r_get0 X Y (by decide) lk_subType (gf_subType _ _ _) rfl e197 d_M_served_365 ?_
                                            have J307 : ∀ (z306 : Int) (H : Heap) (locs : List Loc) (ls : Array Slot), ((-128) ≤ z306) → (z306 ≤ 127) → mH D E (mA E h q sz) s.heap h q I189 J189 B189 G189 H locs → rS [3, 8, 14, 18, 33, 36, 39, 40, 42, 54, 79, 80] [0, 1, 5, 6, 7, 9, 10, 11, 12, 13, 15, 16, 17, 19, 20, 21, 22, 23, 34, 35, 37, 38, 53, 58, 59, 61, 62, 63, 64, 133, 134, 135, 136, 141, 142, 143] I B I189 B189 → lv_has ls 8 [(0, .ref h), (3, .int (iI z120)), (5, .int (iI z173)), (6, .int (iI z190))] → W p l e (mR 46 2072) s m AV below meth c H locs 0 0 QQ (F0 m 388 ls [.int (iI z306), .int (iI ((32 * z173) + z190)), .ref ((q 136))]) := by
                                              intro z306 H locs ls l306 u306 Y S hl
                                              refine r_bast X Y S (aw_sessionKeys _ _ _ _ _ _ _) (sw_sessionKeys _ _ _ _ _ _ _) rfl (by omega) (show (32 * z173) + z190 < ((256 : Nat) : Int) by omega) (by omega) (by decide) d_M_served_388 (fun B311 H locs Y S w311 => ?_)
                                              refine lv_aload_n X.1 X.2.1 d_M_served_389 rfl (lv_at hl 0 rfl) ?_
                                              refine m_get X Y 143 (by decide) lk_beganKeys (gf_beganKeys _ _ _) rfl d_M_served_390 ?_
                                              refine lv_bipush (v := iI 32) X.1 X.2.1 d_M_served_393 (by decide) ?_
                                              refine lv_iload X.1 X.2.1 d_M_served_395 (lv_at hl 2 rfl) ?_
                                              refine z_imul X.1 X.2.1 d_M_served_397 ?_
                                              refine lv_iload X.1 X.2.1 d_M_served_398 (lv_at hl 3 rfl) ?_
                                              refine z_iadd X.1 X.2.1 d_M_served_400 ?_
                                              refine lv_aload_n X.1 X.2.1 d_M_served_401 rfl (lv_at hl 0 rfl) ?_
                                              refine m_get X Y 58 (by decide) lk_key (gf_key _ _ _) rfl d_M_served_402 ?_
                                              refine lv_iload X.1 X.2.1 d_M_served_405 (lv_at hl 3 rfl) ?_
                                              refine r_bald X Y S (aw_key _ _ _ _ _ _ _) rfl (by omega) (show z190 < ((32 : Nat) : Int) by omega) (by omega) d_M_served_407 (fun z312 q312 l312 u312 => ?_)
                                              refine r_bast X Y S (aw_beganKeys _ _ _ _ _ _ _) (sw_beganKeys _ _ _ _ _ _ _) rfl (by omega) (show (32 * z173) + z190 < ((256 : Nat) : Int) by omega) (by omega) (by decide) d_M_served_408 (fun B313 H locs Y S w313 => ?_)
                                              refine lv_iinc (v := iI (z190 + 1)) (lv' := [(6, .int (iI (z190 + 1))), (0, .ref h), (3, .int (iI z120)), (5, .int (iI z173))]) X.1 X.2.1 d_M_served_409 hl (k := 3) rfl ((iI_add _ _).trans (congrArg iI (by omega))) (by decide) rfl (fun ls hl => ?_)
                                              refine lv_goto (tgt := 345) X.1 X.2.1 d_M_served_412 (by decide) ?_
                                              exact ih199 ((32 - (z190 + 1)).toNat) (by omega) (z190 + 1) I189 J189 B313 G189 _ _ _ rfl (by omega) (by omega) (auA_cg (w313.2 0 (by decide)) (w313.2 37 (by decide)) (w313.2 38 (by decide)) (auA_cg (w311.2 0 (by decide)) (w311.2 37 (by decide)) (w311.2 38 (by decide)) f191)) (pG1_cg rfl rfl (pG1_cg rfl rfl f192)) (pG2_cg (w313.2 37 (by decide)) (w313.2 38 (by decide)) (pG2_cg (w311.2 37 (by decide)) (w311.2 38 (by decide)) f193)) (tkA_cg (w313.2 0 (by decide)) (w313.2 37 (by decide)) (w313.2 38 (by decide)) (tkA_cg (w311.2 0 (by decide)) (w311.2 37 (by decide)) (w311.2 38 (by decide)) f194)) e195 e196 e197 Y S (lv_sub hl [1, 2, 3, 0] rfl)
                                            refine z_if_le (tgt := 381) X.1 X.2.1 d_M_served_368 (by decide) ⟨by omega, by omega⟩ (fun h314 => ?_) (fun h314 => False.elim (by omega))
                                            · refine lv_aload_n X.1 X.2.1 d_M_served_381 rfl (lv_at hl 0 rfl) ?_
                                              refine m_get X Y 58 (by decide) lk_key (gf_key _ _ _) rfl d_M_served_382 ?_
                                              refine lv_iload X.1 X.2.1 d_M_served_385 (lv_at hl 3 rfl) ?_
                                              refine r_bald X Y S (aw_key _ _ _ _ _ _ _) rfl (by omega) (show z190 < ((32 : Nat) : Int) by omega) (by omega) d_M_served_387 (fun z315 q315 l315 u315 => ?_)
                                              exact J307 z315 _ _ _ (by omega) (by omega) Y S (lv_sub hl [0, 1, 2, 3] rfl)
                                      refine lv_istore (lv' := [(6, .int (iI 0)), (0, .ref h), (3, .int (iI z120)), (5, .int (iI z173))]) X.1 X.2.1 d_M_served_343 hl (by decide) rfl (fun ls hl => ?_)
                                      exact J198 _ 0 I169 J171 B186 G171 _ _ _ rfl (by omega) (by omega) f188 (pG1_cg rfl rfl (pG1_cg rfl rfl (pG1_cg rfl rfl (pG1_cg rfl rfl (pG1_cg (w169.2 39 (by decide)) (w169.2 40 (by decide)) f160))))) (pG2_cg (w186.2 37 (by decide)) (w186.2 38 (by decide)) (pG2_cg (w184.2 37 (by decide)) (w184.2 38 (by decide)) (pG2_cg (w183.2 37 (by decide)) (w183.2 38 (by decide)) (pG2_cg rfl rfl (pG2_cg rfl rfl f161))))) f187 ((w169.2 33 (by decide)).trans e163) ((w169.2 79 (by decide)).trans e164) w169.1 Y S (lv_sub hl [1, 2, 3, 0] rfl)
                                    · refine lv_aload_n X.1 X.2.1 d_M_served_330 rfl (lv_at hl 0 rfl) ?_
                                      refine r_get0 X Y (by decide) lk_subType (gf_subType _ _ _) rfl w169.1 d_M_served_331 ?_
                                      refine lv_goto (tgt := 341) X.1 X.2.1 d_M_served_334 (by decide) ?_
                                      refine r_iast X Y S (aw_sessionTypes _ _ _ _ _ _ _) (sw_sessionTypes _ _ _ _ _ _ _) rfl ⟨(show (0 : Int) ≤ z158 by omega), (show z158 ≤ (18 : Int) by omega)⟩ ⟨by omega, by omega⟩ (by omega) (show z173 < ((8 : Nat) : Int) by omega) (by omega) (by decide) d_M_served_341 (fun B316 H locs Y S w316 => ?_)
                                      have f317 : tkA (B316 37) (B316 38) (B316 0) := (tkA_cg (w316.2 0 (by decide)) (w316.2 37 (by decide)) (w316.2 38 (by decide)) (tkA_cg (w184.2 0 (by decide)) (w184.2 37 (by decide)) (w184.2 38 (by decide)) (tkA_cg (w183.2 0 (by decide)) (w183.2 37 (by decide)) (w183.2 38 (by decide)) (tkA_cg rfl rfl rfl (tkA_cg rfl rfl rfl f162)))))
                                      have f318 : auA (B316 37) (B316 38) (B316 0) := (auA_cg (w316.2 0 (by decide)) (w316.2 37 (by decide)) (w316.2 38 (by decide)) (auA_cg (w184.2 0 (by decide)) (w184.2 37 (by decide)) (w184.2 38 (by decide)) (auA_cg (w183.2 0 (by decide)) (w183.2 37 (by decide)) (w183.2 38 (by decide)) (auA_cg rfl rfl rfl (auA_cg rfl rfl rfl f159)))))
                                      refine lv_iconst (v := iI 0) X.1 X.2.1 d_M_served_342 (by decide) ?_
                                      have J328 : ∀ (n330 : Nat) (z320 : Int) (I319 : Nat → Int32) (J319 : Nat → Int64) (B319 : Nat → Nat → Int32) (G319 : Nat → Nat → Int64) (H : Heap) (locs : List Loc) (ls : Array Slot), (32 - z320).toNat = n330 → (0 ≤ z320) → (z320 ≤ 32) → (auA (B319 37) (B319 38) (B319 0)) → (pG1 I319) → (pG2 (B319 37) (B319 38)) → (tkA (B319 37) (B319 38) (B319 0)) → (I319 33 = iI cn) → (I319 79 = iI z137) → (I319 80 = iI z158) → mH D E (mA E h q sz) s.heap h q I319 J319 B319 G319 H locs → rS [3, 8, 14, 18, 33, 36, 39, 40, 42, 54, 79, 80] [0, 1, 5, 6, 7, 9, 10, 11, 12, 13, 15, 16, 17, 19, 20, 21, 22, 23, 34, 35, 37, 38, 53, 58, 59, 61, 62, 63, 64, 133, 134, 135, 136, 141, 142, 143] I B I319 B319 → lv_has ls 8 [(0, .ref h), (3, .int (iI z120)), (5, .int (iI z173)), (6, .int (iI z320))] → W p l e (mR 46 2072) s m AV below meth c H locs 0 0 QQ (F0 m 345 ls []) := by
                                        intro n330
                                        induction n330 using Nat.strongRecOn with
                                        | ind n330 ih329 =>
                                          intro z320 I319 J319 B319 G319 H locs ls hm331 l320 u320 f321 f322 f323 f324 e325 e326 e327 Y S hl
                                          refine lv_iload X.1 X.2.1 d_M_served_345 (lv_at hl 3 rfl) ?_
                                          refine lv_bipush (v := iI 32) X.1 X.2.1 d_M_served_347 (by decide) ?_
                                          refine z_icmp_ge (tgt := 415) X.1 X.2.1 d_M_served_349 (by decide) ⟨by omega, by omega⟩ ⟨by decide, by decide⟩ (fun h332 => ?_) (fun h332 => ?_)
                                          · refine lv_aload_n X.1 X.2.1 d_M_served_415 rfl (lv_at hl 0 rfl) ?_
                                            refine m_get X Y 142 (by decide) lk_beganTypes (gf_beganTypes _ _ _) rfl d_M_served_416 ?_
                                            refine lv_iload X.1 X.2.1 d_M_served_419 (lv_at hl 2 rfl) ?_
                                            refine lv_aload_n X.1 X.2.1 d_M_served_421 rfl (lv_at hl 0 rfl) ?_
                                            refine r_get0 X Y (by decide) lk_ticketType (gf_ticketType _ _ _) rfl e326 d_M_served_422 ?_
                                            refine r_iast X Y S (aw_beganTypes _ _ _ _ _ _ _) (sw_beganTypes _ _ _ _ _ _ _) rfl ⟨(show (0 : Int) ≤ z137 by omega), (show z137 ≤ (18 : Int) by omega)⟩ ⟨by omega, by omega⟩ (by omega) (show z173 < ((8 : Nat) : Int) by omega) (by omega) (by decide) d_M_served_425 (fun B333 H locs Y S w333 => ?_)
                                            refine lv_aload_n X.1 X.2.1 d_M_served_426 rfl (lv_at hl 0 rfl) ?_
                                            refine m_get X Y 139 (by decide) lk_beganTime (gf_beganTime _ _ _) rfl d_M_served_427 ?_
                                            refine lv_iload X.1 X.2.1 d_M_served_430 (lv_at hl 2 rfl) ?_
                                            refine lv_aload_n X.1 X.2.1 d_M_served_432 rfl (lv_at hl 0 rfl) ?_
                                            refine lv_iconst (v := iI 5) X.1 X.2.1 d_M_served_433 (by decide) ?_
                                            refine lv_iconst (v := iI 5) X.1 X.2.1 d_M_served_434 (by decide) ?_
                                            refine r_nl (m_run (As := [.int (iI 5), .int (iI 5)]) (rest := [.int (iI z173), .ref ((q 139))]) (n := 2) X Y hZ hA hml hl.1 (r_M_timeOf l D E h q H.size I319 J319 B333 G319 5 (by decide) (by decide) 5 (by decide) (by decide) S.1 (pG1_cg rfl rfl f322) (pG2_cg (w333.2 37 (by decide)) (w333.2 38 (by decide)) f323)) kl_M_timeOf ks_M_timeOf kx_M_timeOf ki_M_timeOf ini_M hd_M_timeOf ⟨Nat.le_of_ble_eq_true rfl, Nat.le_of_ble_eq_true rfl⟩ rfl (Nat.le_of_ble_eq_true rfl) d_M_served_435 ⟨Nat.le_refl _, Nat.le_refl _⟩) X Y hA S (by decide) (by decide) (fun v334 u H locs Y S s334 p334 => ?_)
                                            obtain ⟨I334, J334, B334, G334⟩ := u
                                            dsimp only at Y S s334 p334
                                            have b334 : B333 = B334 := (funext (fun j => s334.2.2 j (by simp))).symm
                                            subst b334
                                            have g334_P1 := p334
                                            refine r_last X Y (aw_beganTime _ _ _ _ _ _ _) (sw_beganTime _ _ _ _ _ _ _) (by omega) (show z173 < ((8 : Nat) : Int) by omega) (by omega) d_M_served_438 (fun G335 H locs Y => ?_)
                                            refine lv_aload_n X.1 X.2.1 d_M_served_439 rfl (lv_at hl 0 rfl) ?_
                                            refine m_get X Y 141 (by decide) lk_beganMicros (gf_beganMicros _ _ _) rfl d_M_served_440 ?_
                                            refine lv_iload X.1 X.2.1 d_M_served_443 (lv_at hl 2 rfl) ?_
                                            refine lv_aload_n X.1 X.2.1 d_M_served_445 rfl (lv_at hl 0 rfl) ?_
                                            refine lv_iconst (v := iI 5) X.1 X.2.1 d_M_served_446 (by decide) ?_
                                            refine lv_iconst (v := iI 4) X.1 X.2.1 d_M_served_447 (by decide) ?_
                                            refine r_nl (m_run (As := [.int (iI 5), .int (iI 4)]) (rest := [.int (iI z173), .ref ((q 141))]) (n := 2) X Y hZ hA hml hl.1 (r_M_numberAt l D E h q H.size I334 J334 B333 G335 5 (by decide) (by decide) 4 (by decide) (by decide) S.1 g334_P1 (pG2_cg rfl rfl (pG2_cg (w333.2 37 (by decide)) (w333.2 38 (by decide)) f323))) kl_M_numberAt ks_M_numberAt kx_M_numberAt ki_M_numberAt ini_M hd_M_numberAt ⟨Nat.le_of_ble_eq_true rfl, Nat.le_of_ble_eq_true rfl⟩ rfl (Nat.le_of_ble_eq_true rfl) d_M_served_448 ⟨Nat.le_refl _, Nat.le_refl _⟩) X Y hA S (by decide) (by decide) (fun v336 u H locs Y S s336 p336 => ?_)
                                            obtain ⟨I336, J336, B336, G336⟩ := u
                                            dsimp only at Y S s336 p336
                                            have b336 : B333 = B336 := (funext (fun j => s336.2.2 j (by simp))).symm
                                            subst b336
                                            have g336_P1 := p336
                                            refine lv_l2i X.1 X.2.1 d_M_served_451 rfl ?_
                                            refine t_u (fun z337 l337 u337 => ?_)
                                            refine r_iast X Y S (aw_beganMicros _ _ _ _ _ _ _) (sw_beganMicros _ _ _ _ _ _ _) rfl ⟨(show ((-2147483648) : Int) ≤ z337 by omega), (show z337 ≤ (2147483647 : Int) by omega)⟩ ⟨by omega, by omega⟩ (by omega) (show z173 < ((8 : Nat) : Int) by omega) (by omega) (by decide) d_M_served_452 (fun B338 H locs Y S w338 => ?_)
                                            refine lv_aload_n X.1 X.2.1 d_M_served_453 rfl (lv_at hl 0 rfl) ?_
                                            refine m_get X Y 140 (by decide) lk_beganNumber (gf_beganNumber _ _ _) rfl d_M_served_454 ?_
                                            refine lv_iload X.1 X.2.1 d_M_served_457 (lv_at hl 2 rfl) ?_
                                            refine lv_aload_n X.1 X.2.1 d_M_served_459 rfl (lv_at hl 0 rfl) ?_
                                            refine lv_iconst (v := iI 5) X.1 X.2.1 d_M_served_460 (by decide) ?_
                                            refine lv_bipush (v := iI 7) X.1 X.2.1 d_M_served_461 (by decide) ?_
                                            refine r_ni (m_run (As := [.int (iI 5), .int (iI 7)]) (rest := [.int (iI z173), .ref ((q 140))]) (n := 2) X Y hZ hA hml hl.1 (r_M_has l D E h q H.size I336 J336 B338 G336 5 (by decide) (by decide) 7 (by decide) (by decide) S.1) kl_M_has ks_M_has kx_M_has ki_M_has ini_M hd_M_has ⟨Nat.le_of_ble_eq_true rfl, Nat.le_of_ble_eq_true rfl⟩ rfl (Nat.le_of_ble_eq_true rfl) d_M_served_463 ⟨Nat.le_refl _, Nat.le_refl _⟩) X Y hA S (by decide) (by decide) (fun z339 u H locs Y S s339 p339 => ?_)
                                            obtain ⟨I339, J339, B339, G339⟩ := u
                                            dsimp only at Y S s339 p339
                                            have i339 : I336 = I339 := (funext (fun j => s339.2.1 j (by simp))).symm
                                            subst i339
                                            have b339 : B338 = B339 := (funext (fun j => s339.2.2 j (by simp))).symm
                                            subst b339
                                            obtain ⟨l339, u339, x339⟩ := p339
                                            have J349 : ∀ (v341 : Int64) (I340 : Nat → Int32) (J340 : Nat → Int64) (B340 : Nat → Nat → Int32) (G340 : Nat → Nat → Int64) (H : Heap) (locs : List Loc) (ls : Array Slot), (auA (B340 37) (B340 38) (B340 0)) → (pG1 I340) → (pG2 (B340 37) (B340 38)) → (tkA (B340 37) (B340 38) (B340 0)) → (I340 33 = iI cn) → (I340 79 = iI z137) → (I340 80 = iI z158) → mH D E (mA E h q sz) s.heap h q I340 J340 B340 G340 H locs → rS [3, 8, 14, 18, 33, 36, 39, 40, 42, 54, 79, 80] [0, 1, 5, 6, 7, 9, 10, 11, 12, 13, 15, 16, 17, 19, 20, 21, 22, 23, 34, 35, 37, 38, 53, 58, 59, 61, 62, 63, 64, 133, 134, 135, 136, 141, 142, 143] I B I340 B340 → lv_has ls 8 [(0, .ref h), (3, .int (iI z120)), (5, .int (iI z173))] → W p l e (mR 46 2072) s m AV below meth c H locs 0 0 QQ (F0 m 480 ls [.long v341, .int (iI z173), .ref ((q 140))]) := by
                                              intro v341 I340 J340 B340 G340 H locs ls f342 f343 f344 f345 e346 e347 e348 Y S hl
                                              refine r_last X Y (aw_beganNumber _ _ _ _ _ _ _) (sw_beganNumber _ _ _ _ _ _ _) (by omega) (show z173 < ((8 : Nat) : Int) by omega) (by omega) d_M_served_480 (fun G353 H locs Y => ?_)
                                              refine lv_aload_n X.1 X.2.1 d_M_served_481 rfl (lv_at hl 0 rfl) ?_
                                              refine m_get X Y 138 (by decide) lk_dueNumber (gf_dueNumber _ _ _) rfl d_M_served_482 ?_
                                              refine lv_iconst (v := iI 2) X.1 X.2.1 d_M_served_485 (by decide) ?_
                                              refine lv_iload X.1 X.2.1 d_M_served_486 (lv_at hl 2 rfl) ?_
                                              refine z_imul X.1 X.2.1 d_M_served_488 ?_
                                              refine lv_iconst (v := iI 1) X.1 X.2.1 d_M_served_489 (by decide) ?_
                                              refine z_iadd X.1 X.2.1 d_M_served_490 ?_
                                              refine lv_aload_n X.1 X.2.1 d_M_served_491 rfl (lv_at hl 0 rfl) ?_
                                              refine m_get X Y 140 (by decide) lk_beganNumber (gf_beganNumber _ _ _) rfl d_M_served_492 ?_
                                              refine lv_iload X.1 X.2.1 d_M_served_495 (lv_at hl 2 rfl) ?_
                                              refine r_lald X Y (aw_beganNumber _ _ _ _ _ _ _) (by omega) (show z173 < ((8 : Nat) : Int) by omega) (by omega) d_M_served_497 (fun v354 => ?_)
                                              refine r_last X Y (aw_dueNumber _ _ _ _ _ _ _) (sw_dueNumber _ _ _ _ _ _ _) (by omega) (show (2 * z173) + 1 < ((16 : Nat) : Int) by omega) (by omega) d_M_served_498 (fun G355 H locs Y => ?_)
                                              refine lv_aload_n X.1 X.2.1 d_M_served_499 rfl (lv_at hl 0 rfl) ?_
                                              refine m_get X Y 137 (by decide) lk_ownNumber (gf_ownNumber _ _ _) rfl d_M_served_500 ?_
                                              refine lv_iconst (v := iI 2) X.1 X.2.1 d_M_served_503 (by decide) ?_
                                              refine lv_iload X.1 X.2.1 d_M_served_504 (lv_at hl 2 rfl) ?_
                                              refine z_imul X.1 X.2.1 d_M_served_506 ?_
                                              refine lv_iconst (v := iI 1) X.1 X.2.1 d_M_served_507 (by decide) ?_
                                              refine z_iadd X.1 X.2.1 d_M_served_508 ?_
                                              refine lv_lconst (v := 0) X.1 X.2.1 d_M_served_509 rfl ?_
                                              refine r_last X Y (aw_ownNumber _ _ _ _ _ _ _) (sw_ownNumber _ _ _ _ _ _ _) (by omega) (show (2 * z173) + 1 < ((16 : Nat) : Int) by omega) (by omega) d_M_served_510 (fun G356 H locs Y => ?_)
                                              refine lv_aload_n X.1 X.2.1 d_M_served_511 rfl (lv_at hl 0 rfl) ?_
                                              refine lv_iconst (v := iI 0) X.1 X.2.1 d_M_served_512 (by decide) ?_
                                              refine r_puti (k := 3) X Y S (by decide) lk_outMany rfl rfl (t_M_ok 3 (by decide)) rfl rfl (sf_outMany _ _ _ _) (Nat.le_of_ble_eq_true rfl) rfl (show (0 : Int) ≤ 0 by omega) (show 0 ≤ (20000 : Int) by omega) ⟨by omega, by omega⟩ (by decide) d_M_served_513 (fun I357 H locs Y S w357 => ?_)
                                              refine lv_iload_n X.1 X.2.1 d_M_served_516 rfl (lv_at hl 1 rfl) ?_
                                              refine z_if_ne (tgt := 523) X.1 X.2.1 d_M_served_517 (by decide) ⟨by omega, by omega⟩ (fun h358 => ?_) (fun h358 => ?_)
                                              · refine lv_lconst (v := 0) X.1 X.2.1 d_M_served_523 rfl ?_
                                                refine lv_lstore (lv' := [(6, .long 0), (0, .ref h), (3, .int (iI z120)), (5, .int (iI z173))]) X.1 X.2.1 d_M_served_524 hl (by decide) rfl (fun ls hl => ?_)
                                                refine lv_aload_n X.1 X.2.1 d_M_served_526 rfl (lv_at hl 1 rfl) ?_
                                                refine lv_iconst (v := iI 5) X.1 X.2.1 d_M_served_527 (by decide) ?_
                                                refine lv_bipush (v := iI 7) X.1 X.2.1 d_M_served_528 (by decide) ?_
                                                refine r_ni (m_run (As := [.int (iI 5), .int (iI 7)]) (rest := []) (n := 2) X Y hZ hA hml hl.1 (r_M_has l D E h q H.size I357 J340 B340 G356 5 (by decide) (by decide) 7 (by decide) (by decide) S.1) kl_M_has ks_M_has kx_M_has ki_M_has ini_M hd_M_has ⟨Nat.le_of_ble_eq_true rfl, Nat.le_of_ble_eq_true rfl⟩ rfl (Nat.le_of_ble_eq_true rfl) d_M_served_530 ⟨Nat.le_refl _, Nat.le_refl _⟩) X Y hA S (by decide) (by decide) (fun z359 u H locs Y S s359 p359 => ?_)
                                                obtain ⟨I359, J359, B359, G359⟩ := u
                                                dsimp only at Y S s359 p359
                                                have i359 : I357 = I359 := (funext (fun j => s359.2.1 j (by simp))).symm
                                                subst i359
                                                have b359 : B340 = B359 := (funext (fun j => s359.2.2 j (by simp))).symm
                                                subst b359
                                                obtain ⟨l359, u359, x359⟩ := p359
                                                have J370 : ∀ (v361 : Int64) (z368 : Int) (I360 : Nat → Int32) (J360 : Nat → Int64) (B360 : Nat → Nat → Int32) (G360 : Nat → Nat → Int64) (H : Heap) (locs : List Loc) (ls : Array Slot), (auA (B360 37) (B360 38) (B360 0)) → (pG1 I360) → (pG2 (B360 37) (B360 38)) → (tkA (B360 37) (B360 38) (B360 0)) → (I360 79 = iI z137) → (I360 80 = iI z158) → (I360 33 = iI z368) → (0 ≤ z368) → (z368 ≤ 1901000) → (cn ≤ z368 ∧ z368 ≤ cn + 4) → mH D E (mA E h q sz) s.heap h q I360 J360 B360 G360 H locs → rS [3, 8, 14, 18, 33, 36, 39, 40, 42, 54, 79, 80] [0, 1, 5, 6, 7, 9, 10, 11, 12, 13, 15, 16, 17, 19, 20, 21, 22, 23, 34, 35, 37, 38, 53, 58, 59, 61, 62, 63, 64, 133, 134, 135, 136, 141, 142, 143] I B I360 B360 → lv_has ls 8 [(0, .ref h), (5, .int (iI z173)), (6, .long v361)] → W p l e (mR 46 2072) s m AV below meth c H locs 0 0 QQ (F0 m 560 ls []) := by
                                                  intro v361 z368 I360 J360 B360 G360 H locs ls f362 f363 f364 f365 e366 e367 e368 l368 u368 i369 Y S hl
                                                  refine lv_aload_n X.1 X.2.1 d_M_served_560 rfl (lv_at hl 0 rfl) ?_
                                                  refine r_nv (m_run (As := []) (rest := []) (n := 0) X Y hZ hA hml hl.1 (r_M_start l D E h q H.size I360 J360 B360 G360 S.1) kl_M_start ks_M_start kx_M_start ki_M_start ini_M hd_M_start ⟨Nat.le_of_ble_eq_true rfl, Nat.le_of_ble_eq_true rfl⟩ rfl (Nat.le_of_ble_eq_true rfl) d_M_served_561 ⟨Nat.le_refl _, Nat.le_refl _⟩) X Y hA S (by decide) (by decide) (fun u H locs Y S s374 p374 => ?_)
                                                  obtain ⟨I374, J374, B374, G374⟩ := u
                                                  dsimp only at Y S s374 p374
                                                  have b374 : B360 = B374 := (funext (fun j => s374.2.2 j (by simp))).symm
                                                  subst b374
                                                  have x374 := p374
                                                  refine lv_aload_n X.1 X.2.1 d_M_served_564 rfl (lv_at hl 0 rfl) ?_
                                                  refine lv_iconst (v := iI 5) X.1 X.2.1 d_M_served_565 (by decide) ?_
                                                  refine lv_bipush (v := iI 7) X.1 X.2.1 d_M_served_566 (by decide) ?_
                                                  refine r_ni (m_run (As := [.int (iI 5), .int (iI 7)]) (rest := []) (n := 2) X Y hZ hA hml hl.1 (r_M_has l D E h q H.size I374 J374 B360 G374 5 (by decide) (by decide) 7 (by decide) (by decide) S.1) kl_M_has ks_M_has kx_M_has ki_M_has ini_M hd_M_has ⟨Nat.le_of_ble_eq_true rfl, Nat.le_of_ble_eq_true rfl⟩ rfl (Nat.le_of_ble_eq_true rfl) d_M_served_568 ⟨Nat.le_refl _, Nat.le_refl _⟩) X Y hA S (by decide) (by decide) (fun z375 u H locs Y S s375 p375 => ?_)
                                                  obtain ⟨I375, J375, B375, G375⟩ := u
                                                  dsimp only at Y S s375 p375
                                                  have i375 : I374 = I375 := (funext (fun j => s375.2.1 j (by simp))).symm
                                                  subst i375
                                                  have b375 : B360 = B375 := (funext (fun j => s375.2.2 j (by simp))).symm
                                                  subst b375
                                                  obtain ⟨l375, u375, x375⟩ := p375
                                                  have J385 : ∀ (z383 : Int) (I376 : Nat → Int32) (J376 : Nat → Int64) (B376 : Nat → Nat → Int32) (G376 : Nat → Nat → Int64) (H : Heap) (locs : List Loc) (ls : Array Slot), (pG1 I376) → (pG2 (B376 37) (B376 38)) → (tkA (B376 37) (B376 38) (B376 0)) → (I376 33 = iI z368) → (I376 79 = iI z137) → (I376 80 = iI z158) → (I376 42 = iI z383) → (0 ≤ z383) → (z383 ≤ 60000) → (59900 ≤ z383) → mH D E (mA E h q sz) s.heap h q I376 J376 B376 G376 H locs → rS [3, 8, 14, 18, 33, 36, 39, 40, 42, 54, 79, 80] [0, 1, 5, 6, 7, 9, 10, 11, 12, 13, 15, 16, 17, 19, 20, 21, 22, 23, 34, 35, 37, 38, 53, 58, 59, 61, 62, 63, 64, 133, 134, 135, 136, 141, 142, 143] I B I376 B376 → lv_has ls 8 [(0, .ref h), (5, .int (iI z173))] → W p l e (mR 46 2072) s m AV below meth c H locs 0 0 QQ (F0 m 581 ls []) := by
                                                    intro z383 I376 J376 B376 G376 H locs ls f377 f378 f379 e380 e381 e382 e383 l383 u383 i384 Y S hl
                                                    refine lv_aload_n X.1 X.2.1 d_M_served_581 rfl (lv_at hl 0 rfl) ?_
                                                    refine lv_iconst (v := iI 1) X.1 X.2.1 d_M_served_582 (by decide) ?_
                                                    refine lv_aload_n X.1 X.2.1 d_M_served_583 rfl (lv_at hl 0 rfl) ?_
                                                    refine lv_iconst (v := iI 5) X.1 X.2.1 d_M_served_584 (by decide) ?_
                                                    refine lv_iconst (v := iI 4) X.1 X.2.1 d_M_served_585 (by decide) ?_
                                                    refine r_nl (m_run (As := [.int (iI 5), .int (iI 4)]) (rest := [.int (iI 1), .ref h]) (n := 2) X Y hZ hA hml hl.1 (r_M_numberAt l D E h q H.size I376 J376 B376 G376 5 (by decide) (by decide) 4 (by decide) (by decide) S.1 f377 f378) kl_M_numberAt ks_M_numberAt kx_M_numberAt ki_M_numberAt ini_M hd_M_numberAt ⟨Nat.le_of_ble_eq_true rfl, Nat.le_of_ble_eq_true rfl⟩ rfl (Nat.le_of_ble_eq_true rfl) d_M_served_586 ⟨Nat.le_refl _, Nat.le_refl _⟩) X Y hA S (by decide) (by decide) (fun v389 u H locs Y S s389 p389 => ?_)
                                                    obtain ⟨I389, J389, B389, G389⟩ := u
                                                    dsimp only at Y S s389 p389
                                                    have b389 : B376 = B389 := (funext (fun j => s389.2.2 j (by simp))).symm
                                                    subst b389
                                                    have g389_P1 := p389
                                                    refine r_nv (m_run (As := [.int (iI 1), .long v389]) (rest := []) (n := 2) X Y hZ hA hml hl.1 (r_M_numberField l D E h q H.size I389 J389 B376 G389 1 (by decide) (by decide) v389 S.1 z383 ((s389.2.1 42 (by decide)).trans e383) (by omega) (by omega)) kl_M_numberField ks_M_numberField kx_M_numberField ki_M_numberField ini_M hd_M_numberField ⟨Nat.le_of_ble_eq_true rfl, Nat.le_of_ble_eq_true rfl⟩ rfl (Nat.le_of_ble_eq_true rfl) d_M_served_589 ⟨Nat.le_refl _, Nat.le_refl _⟩) X Y hA S (by decide) (by decide) (fun u H locs Y S s390 p390 => ?_)
                                                    obtain ⟨I390, J390, B390, G390⟩ := u
                                                    dsimp only at Y S s390 p390
                                                    obtain ⟨x390, g390_MF⟩ := p390
                                                    have f391 : tkA (B390 37) (B390 38) (B390 0) := (tkA_cg rfl (s390.2.2 37 (by decide)) (s390.2.2 38 (by decide)) (tkA_M g390_MF (by decide) (tkA_cg rfl rfl rfl f379)))
                                                    obtain ⟨z392, e392, l392, u392⟩ := x390
                                                    refine lv_aload_n X.1 X.2.1 d_M_served_592 rfl (lv_at hl 0 rfl) ?_
                                                    refine lv_iconst (v := iI 0) X.1 X.2.1 d_M_served_593 (by decide) ?_
                                                    refine lv_aload_n X.1 X.2.1 d_M_served_594 rfl (lv_at hl 0 rfl) ?_
                                                    refine lv_iconst (v := iI 5) X.1 X.2.1 d_M_served_595 (by decide) ?_
                                                    refine lv_iconst (v := iI 5) X.1 X.2.1 d_M_served_596 (by decide) ?_
                                                    refine r_nl (m_run (As := [.int (iI 5), .int (iI 5)]) (rest := [.int (iI 0), .ref h]) (n := 2) X Y hZ hA hml hl.1 (r_M_timeOf l D E h q H.size I390 J390 B390 G390 5 (by decide) (by decide) 5 (by decide) (by decide) S.1 (pG1_cg (s390.2.1 39 (by decide)) (s390.2.1 40 (by decide)) g389_P1) (pG2_cg (s390.2.2 37 (by decide)) (s390.2.2 38 (by decide)) (pG2_cg rfl rfl f378))) kl_M_timeOf ks_M_timeOf kx_M_timeOf ki_M_timeOf ini_M hd_M_timeOf ⟨Nat.le_of_ble_eq_true rfl, Nat.le_of_ble_eq_true rfl⟩ rfl (Nat.le_of_ble_eq_true rfl) d_M_served_597 ⟨Nat.le_refl _, Nat.le_refl _⟩) X Y hA S (by decide) (by decide) (fun v393 u H locs Y S s393 p393 => ?_)
                                                    obtain ⟨I393, J393, B393, G393⟩ := u
                                                    dsimp only at Y S s393 p393
                                                    have b393 : B390 = B393 := (funext (fun j => s393.2.2 j (by simp))).symm
                                                    subst b393
                                                    have g393_P1 := p393
                                                    refine r_nv (m_run (As := [.int (iI 0), .long v393]) (rest := []) (n := 2) X Y hZ hA hml hl.1 (r_M_timeField l D E h q H.size I393 J393 B390 G393 0 (by decide) (by decide) v393 S.1 z392 ((s393.2.1 42 (by decide)).trans e392) (by omega) (by omega)) kl_M_timeField ks_M_timeField kx_M_timeField ki_M_timeField ini_M hd_M_timeField ⟨Nat.le_of_ble_eq_true rfl, Nat.le_of_ble_eq_true rfl⟩ rfl (Nat.le_of_ble_eq_true rfl) d_M_served_600 ⟨Nat.le_refl _, Nat.le_refl _⟩) X Y hA S (by decide) (by decide) (fun u H locs Y S s394 p394 => ?_)
                                                    obtain ⟨I394, J394, B394, G394⟩ := u
                                                    dsimp only at Y S s394 p394
                                                    obtain ⟨x394, g394_MF⟩ := p394
                                                    have f395 : tkA (B394 37) (B394 38) (B394 0) := (tkA_cg rfl (s394.2.2 37 (by decide)) (s394.2.2 38 (by decide)) (tkA_M g394_MF (by decide) (tkA_cg rfl rfl rfl f391)))
                                                    obtain ⟨z396, e396, l396, u396⟩ := x394
                                                    refine lv_aload_n X.1 X.2.1 d_M_served_603 rfl (lv_at hl 0 rfl) ?_
                                                    refine lv_bipush (v := iI 48) X.1 X.2.1 d_M_served_604 (by decide) ?_
                                                    refine lv_ldc (v := (60000)) X.1 X.2.1 X.2.2.2.1 (X.2.2.1 _ cn_M_9) d_M_served_606 ?_
                                                    refine t_eq (y := iI 60000) (by decide) ?_
                                                    refine r_nv (m_run (As := [.int (iI 48), .int (iI 60000)]) (rest := []) (n := 2) X Y hZ hA hml hl.1 (r_M_head l D E h q H.size I394 J394 B394 G394 48 (by decide) (by decide) 60000 (by decide) (by decide) S.1 z396 e396 (by omega) (by omega)) kl_M_head ks_M_head kx_M_head ki_M_head ini_M hd_M_head ⟨Nat.le_of_ble_eq_true rfl, Nat.le_of_ble_eq_true rfl⟩ rfl (Nat.le_of_ble_eq_true rfl) d_M_served_608 ⟨Nat.le_refl _, Nat.le_refl _⟩) X Y hA S (by decide) (by decide) (fun u H locs Y S s397 p397 => ?_)
                                                    obtain ⟨I397, J397, B397, G397⟩ := u
                                                    dsimp only at Y S s397 p397
                                                    obtain ⟨x397, g397_MF⟩ := p397
                                                    have f398 : tkA (B397 37) (B397 38) (B397 0) := (tkA_cg rfl (s397.2.2 37 (by decide)) (s397.2.2 38 (by decide)) (tkA_M g397_MF (by decide) f395))
                                                    obtain ⟨z399, e399, l399, u399⟩ := x397
                                                    refine lv_aload_n X.1 X.2.1 d_M_served_611 rfl (lv_at hl 0 rfl) ?_
                                                    refine lv_bipush (v := iI 123) X.1 X.2.1 d_M_served_612 (by decide) ?_
                                                    refine lv_ldc (v := (60000)) X.1 X.2.1 X.2.2.2.1 (X.2.2.1 _ cn_M_9) d_M_served_614 ?_
                                                    refine t_eq (y := iI 60000) (by decide) ?_
                                                    refine r_nv (m_run (As := [.int (iI 123), .int (iI 60000)]) (rest := []) (n := 2) X Y hZ hA hml hl.1 (r_M_head l D E h q H.size I397 J397 B397 G397 123 (by decide) (by decide) 60000 (by decide) (by decide) S.1 z399 e399 (by omega) (by omega)) kl_M_head ks_M_head kx_M_head ki_M_head ini_M hd_M_head ⟨Nat.le_of_ble_eq_true rfl, Nat.le_of_ble_eq_true rfl⟩ rfl (Nat.le_of_ble_eq_true rfl) d_M_served_616 ⟨Nat.le_refl _, Nat.le_refl _⟩) X Y hA S (by decide) (by decide) (fun u H locs Y S s400 p400 => ?_)
                                                    obtain ⟨I400, J400, B400, G400⟩ := u
                                                    dsimp only at Y S s400 p400
                                                    have f401 : pG2 (B400 37) (B400 38) := (pG2_cg (s400.2.2 37 (by decide)) (s400.2.2 38 (by decide)) (pG2_cg (s397.2.2 37 (by decide)) (s397.2.2 38 (by decide)) (pG2_cg (s394.2.2 37 (by decide)) (s394.2.2 38 (by decide)) (pG2_cg rfl rfl (pG2_cg (s390.2.2 37 (by decide)) (s390.2.2 38 (by decide)) (pG2_cg rfl rfl f378))))))
                                                    obtain ⟨x400, g400_MF⟩ := p400
                                                    have f402 : tkA (B400 37) (B400 38) (B400 0) := (tkA_cg rfl (s400.2.2 37 (by decide)) (s400.2.2 38 (by decide)) (tkA_M g400_MF (by decide) f398))
                                                    obtain ⟨z403, e403, l403, u403⟩ := x400
                                                    refine lv_aload_n X.1 X.2.1 d_M_served_619 rfl (lv_at hl 0 rfl) ?_
                                                    refine lv_aload_n X.1 X.2.1 d_M_served_620 rfl (lv_at hl 0 rfl) ?_
                                                    refine m_get X Y 58 (by decide) lk_key (gf_key _ _ _) rfl d_M_served_621 ?_
                                                    refine lv_aload_n X.1 X.2.1 d_M_served_624 rfl (lv_at hl 0 rfl) ?_
                                                    refine r_get0 X Y (by decide) lk_ticketType (gf_ticketType _ _ _) rfl ((s400.2.1 79 (by decide)).trans ((s397.2.1 79 (by decide)).trans ((s394.2.1 79 (by decide)).trans ((s393.2.1 79 (by decide)).trans ((s390.2.1 79 (by decide)).trans ((s389.2.1 79 (by decide)).trans e381)))))) d_M_served_625 ?_
                                                    refine lv_bipush (v := iI 12) X.1 X.2.1 d_M_served_628 (by decide) ?_
                                                    refine lv_aload_n X.1 X.2.1 d_M_served_630 rfl (lv_at hl 0 rfl) ?_
                                                    refine r_get0 X Y (by decide) lk_w0 (gf_w0 _ _ _) rfl e403 d_M_served_631 ?_
                                                    refine lv_ldc (v := (60000)) X.1 X.2.1 X.2.2.2.1 (X.2.2.1 _ cn_M_9) d_M_served_634 ?_
                                                    refine t_eq (y := iI 60000) (by decide) ?_
                                                    refine r_nv (m_run (As := [.ref ((q 58)), .int (iI z137), .int (iI 12), .int (iI z403), .int (iI 60000)]) (rest := []) (n := 5) X Y hZ hA hml hl.1 (r_M_seal_key l D E h q H.size I400 J400 B400 G400 z137 (by omega) (by omega) 12 (by decide) (by decide) z403 (by omega) (by omega) 60000 (by decide) (by decide) S.1 z368 ((s400.2.1 33 (by decide)).trans ((s397.2.1 33 (by decide)).trans ((s394.2.1 33 (by decide)).trans ((s393.2.1 33 (by decide)).trans ((s390.2.1 33 (by decide)).trans ((s389.2.1 33 (by decide)).trans e380)))))) (by omega) (by omega) (by omega) (by omega)) kl_M_seal ks_M_seal kx_M_seal ki_M_seal ini_M hd_M_seal ⟨Nat.le_of_ble_eq_true rfl, Nat.le_of_ble_eq_true rfl⟩ rfl (Nat.le_of_ble_eq_true rfl) d_M_served_636 ⟨Nat.le_refl _, Nat.le_refl _⟩) X Y hA S (by decide) (by decide) (fun u H locs Y S s404 p404 => ?_)
                                                    obtain ⟨I404, J404, B404, G404⟩ := u
                                                    dsimp only at Y S s404 p404
                                                    have f405 : pG1 I404 := (pG1_cg (s404.2.1 39 (by decide)) (s404.2.1 40 (by decide)) (pG1_cg (s400.2.1 39 (by decide)) (s400.2.1 40 (by decide)) (pG1_cg (s397.2.1 39 (by decide)) (s397.2.1 40 (by decide)) (pG1_cg (s394.2.1 39 (by decide)) (s394.2.1 40 (by decide)) g393_P1))))
                                                    have x404 := p404
                                                    obtain ⟨x404_0, x404_1⟩ := x404
                                                    refine lv_aload_n X.1 X.2.1 d_M_served_639 rfl (lv_at hl 0 rfl) ?_
                                                    refine r_nv (m_run (As := []) (rest := []) (n := 0) X Y hZ hA hml hl.1 (r_M_start l D E h q H.size I404 J404 B404 G404 S.1) kl_M_start ks_M_start kx_M_start ki_M_start ini_M hd_M_start ⟨Nat.le_of_ble_eq_true rfl, Nat.le_of_ble_eq_true rfl⟩ rfl (Nat.le_of_ble_eq_true rfl) d_M_served_640 ⟨Nat.le_refl _, Nat.le_refl _⟩) X Y hA S (by decide) (by decide) (fun u H locs Y S s406 p406 => ?_)
                                                    obtain ⟨I406, J406, B406, G406⟩ := u
                                                    dsimp only at Y S s406 p406
                                                    have b406 : B404 = B406 := (funext (fun j => s406.2.2 j (by simp))).symm
                                                    subst b406
                                                    have x406 := p406
                                                    refine lv_aload_n X.1 X.2.1 d_M_served_643 rfl (lv_at hl 0 rfl) ?_
                                                    refine lv_iconst (v := iI 2) X.1 X.2.1 d_M_served_644 (by decide) ?_
                                                    refine lv_aload_n X.1 X.2.1 d_M_served_645 rfl (lv_at hl 0 rfl) ?_
                                                    refine r_get0 X Y (by decide) lk_ticketType (gf_ticketType _ _ _) rfl ((s406.2.1 79 (by decide)).trans ((s404.2.1 79 (by decide)).trans ((s400.2.1 79 (by decide)).trans ((s397.2.1 79 (by decide)).trans ((s394.2.1 79 (by decide)).trans ((s393.2.1 79 (by decide)).trans ((s390.2.1 79 (by decide)).trans ((s389.2.1 79 (by decide)).trans e381)))))))) d_M_served_646 ?_
                                                    refine lv_lconst (v := 0) X.1 X.2.1 d_M_served_649 rfl ?_
                                                    refine r_nv (m_run (As := [.int (iI 2), .int (iI z137), .long 0]) (rest := []) (n := 3) X Y hZ hA hml hl.1 (r_M_sealedField l D E h q H.size I406 J406 B404 G406 2 (by decide) (by decide) z137 (by omega) (by omega) 0 S.1 60000 (x406.trans (congrArg iI (show (60000 : Int) = 60000 by omega))) (by omega) (by omega) (60000 - z403 + 28) ((s406.2.1 36 (by decide)).trans (x404_0.trans (congrArg iI (show (60000 - z403 + 28 : Int) = 60000 - z403 + 28 by omega)))) (by omega) (by omega) (by omega)) kl_M_sealedField ks_M_sealedField kx_M_sealedField ki_M_sealedField ini_M hd_M_sealedField ⟨Nat.le_of_ble_eq_true rfl, Nat.le_of_ble_eq_true rfl⟩ rfl (Nat.le_of_ble_eq_true rfl) d_M_served_650 ⟨Nat.le_refl _, Nat.le_refl _⟩) X Y hA S (by decide) (by decide) (fun u H locs Y S s407 p407 => ?_)
                                                    obtain ⟨I407, J407, B407, G407⟩ := u
                                                    dsimp only at Y S s407 p407
                                                    obtain ⟨x407, g407_MF⟩ := p407
                                                    have f408 : tkA (B407 37) (B407 38) (B407 0) := (tkA_cg rfl (s407.2.2 37 (by decide)) (s407.2.2 38 (by decide)) (tkA_M g407_MF (by decide) (tkA_cg rfl rfl rfl (tkA_cg (s404.2.2 0 (by decide)) (s404.2.2 37 (by decide)) (s404.2.2 38 (by decide)) f402))))
                                                    obtain ⟨z409, e409, l409, u409⟩ := x407
                                                    refine lv_aload_n X.1 X.2.1 d_M_served_653 rfl (lv_at hl 0 rfl) ?_
                                                    refine lv_iconst (v := iI 1) X.1 X.2.1 d_M_served_654 (by decide) ?_
                                                    refine lv_ldc2 (v := (15)) X.1 X.2.1 X.2.2.2.1 (X.2.2.1 _ cl_M_981) d_M_served_655 ?_
                                                    refine r_nv (m_run (As := [.int (iI 1), .long ((15))]) (rest := []) (n := 2) X Y hZ hA hml hl.1 (r_M_numberField l D E h q H.size I407 J407 B407 G407 1 (by decide) (by decide) ((15)) S.1 z409 e409 (by omega) (by omega)) kl_M_numberField ks_M_numberField kx_M_numberField ki_M_numberField ini_M hd_M_numberField ⟨Nat.le_of_ble_eq_true rfl, Nat.le_of_ble_eq_true rfl⟩ rfl (Nat.le_of_ble_eq_true rfl) d_M_served_658 ⟨Nat.le_refl _, Nat.le_refl _⟩) X Y hA S (by decide) (by decide) (fun u H locs Y S s410 p410 => ?_)
                                                    obtain ⟨I410, J410, B410, G410⟩ := u
                                                    dsimp only at Y S s410 p410
                                                    obtain ⟨x410, g410_MF⟩ := p410
                                                    have f411 : tkA (B410 37) (B410 38) (B410 0) := (tkA_cg rfl (s410.2.2 37 (by decide)) (s410.2.2 38 (by decide)) (tkA_M g410_MF (by decide) f408))
                                                    obtain ⟨z412, e412, l412, u412⟩ := x410
                                                    refine lv_aload_n X.1 X.2.1 d_M_served_661 rfl (lv_at hl 0 rfl) ?_
                                                    refine lv_iconst (v := iI 0) X.1 X.2.1 d_M_served_662 (by decide) ?_
                                                    refine lv_ldc2 (v := (5)) X.1 X.2.1 X.2.2.2.1 (X.2.2.1 _ cl_M_669) d_M_served_663 ?_
                                                    refine r_nv (m_run (As := [.int (iI 0), .long ((5))]) (rest := []) (n := 2) X Y hZ hA hml hl.1 (r_M_numberField l D E h q H.size I410 J410 B410 G410 0 (by decide) (by decide) ((5)) S.1 z412 e412 (by omega) (by omega)) kl_M_numberField ks_M_numberField kx_M_numberField ki_M_numberField ini_M hd_M_numberField ⟨Nat.le_of_ble_eq_true rfl, Nat.le_of_ble_eq_true rfl⟩ rfl (Nat.le_of_ble_eq_true rfl) d_M_served_666 ⟨Nat.le_refl _, Nat.le_refl _⟩) X Y hA S (by decide) (by decide) (fun u H locs Y S s413 p413 => ?_)
                                                    obtain ⟨I413, J413, B413, G413⟩ := u
                                                    dsimp only at Y S s413 p413
                                                    have f414 : pG2 (B413 37) (B413 38) := (pG2_cg (s413.2.2 37 (by decide)) (s413.2.2 38 (by decide)) (pG2_cg (s410.2.2 37 (by decide)) (s410.2.2 38 (by decide)) (pG2_cg (s407.2.2 37 (by decide)) (s407.2.2 38 (by decide)) (pG2_cg rfl rfl (pG2_cg (s404.2.2 37 (by decide)) (s404.2.2 38 (by decide)) f401)))))
                                                    obtain ⟨x413, g413_MF⟩ := p413
                                                    have f415 : tkA (B413 37) (B413 38) (B413 0) := (tkA_cg rfl (s413.2.2 37 (by decide)) (s413.2.2 38 (by decide)) (tkA_M g413_MF (by decide) f411))
                                                    obtain ⟨z416, e416, l416, u416⟩ := x413
                                                    refine lv_aload_n X.1 X.2.1 d_M_served_669 rfl (lv_at hl 0 rfl) ?_
                                                    refine lv_bipush (v := iI 48) X.1 X.2.1 d_M_served_670 (by decide) ?_
                                                    refine lv_ldc (v := (60000)) X.1 X.2.1 X.2.2.2.1 (X.2.2.1 _ cn_M_9) d_M_served_672 ?_
                                                    refine t_eq (y := iI 60000) (by decide) ?_
                                                    refine r_nv (m_run (As := [.int (iI 48), .int (iI 60000)]) (rest := []) (n := 2) X Y hZ hA hml hl.1 (r_M_head l D E h q H.size I413 J413 B413 G413 48 (by decide) (by decide) 60000 (by decide) (by decide) S.1 z416 e416 (by omega) (by omega)) kl_M_head ks_M_head kx_M_head ki_M_head ini_M hd_M_head ⟨Nat.le_of_ble_eq_true rfl, Nat.le_of_ble_eq_true rfl⟩ rfl (Nat.le_of_ble_eq_true rfl) d_M_served_674 ⟨Nat.le_refl _, Nat.le_refl _⟩) X Y hA S (by decide) (by decide) (fun u H locs Y S s417 p417 => ?_)
                                                    obtain ⟨I417, J417, B417, G417⟩ := u
                                                    dsimp only at Y S s417 p417
                                                    have f418 : pG1 I417 := (pG1_cg (s417.2.1 39 (by decide)) (s417.2.1 40 (by decide)) (pG1_cg (s413.2.1 39 (by decide)) (s413.2.1 40 (by decide)) (pG1_cg (s410.2.1 39 (by decide)) (s410.2.1 40 (by decide)) (pG1_cg (s407.2.1 39 (by decide)) (s407.2.1 40 (by decide)) (pG1_cg (s406.2.1 39 (by decide)) (s406.2.1 40 (by decide)) f405)))))
                                                    obtain ⟨x417, g417_MF⟩ := p417
                                                    have f419 : tkA (B417 37) (B417 38) (B417 0) := (tkA_cg rfl (s417.2.2 37 (by decide)) (s417.2.2 38 (by decide)) (tkA_M g417_MF (by decide) f415))
                                                    obtain ⟨z420, e420, l420, u420⟩ := x417
                                                    refine lv_aload_n X.1 X.2.1 d_M_served_677 rfl (lv_at hl 0 rfl) ?_
                                                    refine lv_bipush (v := iI 111) X.1 X.2.1 d_M_served_678 (by decide) ?_
                                                    refine lv_ldc (v := (60000)) X.1 X.2.1 X.2.2.2.1 (X.2.2.1 _ cn_M_9) d_M_served_680 ?_
                                                    refine t_eq (y := iI 60000) (by decide) ?_
                                                    refine r_nv (m_run (As := [.int (iI 111), .int (iI 60000)]) (rest := []) (n := 2) X Y hZ hA hml hl.1 (r_M_head l D E h q H.size I417 J417 B417 G417 111 (by decide) (by decide) 60000 (by decide) (by decide) S.1 z420 e420 (by omega) (by omega)) kl_M_head ks_M_head kx_M_head ki_M_head ini_M hd_M_head ⟨Nat.le_of_ble_eq_true rfl, Nat.le_of_ble_eq_true rfl⟩ rfl (Nat.le_of_ble_eq_true rfl) d_M_served_682 ⟨Nat.le_refl _, Nat.le_refl _⟩) X Y hA S (by decide) (by decide) (fun u H locs Y S s421 p421 => ?_)
                                                    obtain ⟨I421, J421, B421, G421⟩ := u
                                                    dsimp only at Y S s421 p421
                                                    obtain ⟨x421, g421_MF⟩ := p421
                                                    have f422 : tkA (B421 37) (B421 38) (B421 0) := (tkA_cg rfl (s421.2.2 37 (by decide)) (s421.2.2 38 (by decide)) (tkA_M g421_MF (by decide) f419))
                                                    obtain ⟨z423, e423, l423, u423⟩ := x421
                                                    refine lv_aload_n X.1 X.2.1 d_M_served_685 rfl (lv_at hl 0 rfl) ?_
                                                    refine r_nv (m_run (As := []) (rest := []) (n := 0) X Y hZ hA hml hl.1 (r_M_written l D E h q H.size I421 J421 B421 G421 S.1 z423 e423 (by omega) (by omega)) kl_M_written ks_M_written kx_M_written ki_M_written ini_M hd_M_written ⟨Nat.le_of_ble_eq_true rfl, Nat.le_of_ble_eq_true rfl⟩ rfl (Nat.le_of_ble_eq_true rfl) d_M_served_686 ⟨Nat.le_refl _, Nat.le_refl _⟩) X Y hA S (by decide) (by decide) (fun u H locs Y S s424 p424 => ?_)
                                                    obtain ⟨I424, J424, B424, G424⟩ := u
                                                    dsimp only at Y S s424 p424
                                                    have g424_MF := p424
                                                    refine lv_iload X.1 X.2.1 d_M_served_689 (lv_at hl 1 rfl) ?_
                                                    exact m_reti hQQ X Y hr hlk ⟨S, z173, rfl, ⟨by omega, by omega, ⟨z368 + 16, ((s424.2.1 33 (by decide)).trans ((s421.2.1 33 (by decide)).trans ((s417.2.1 33 (by decide)).trans ((s413.2.1 33 (by decide)).trans ((s410.2.1 33 (by decide)).trans ((s407.2.1 33 (by decide)).trans ((s406.2.1 33 (by decide)).trans (x404_1.trans (congrArg iI (show (z368 + 16 : Int) = z368 + 16 by omega)))))))))), by omega, by omega⟩, (pG1_cg (s424.2.1 39 (by decide)) (s424.2.1 40 (by decide)) (pG1_cg (s421.2.1 39 (by decide)) (s421.2.1 40 (by decide)) f418)), (pG2_cg (s424.2.2 37 (by decide)) (s424.2.2 38 (by decide)) (pG2_cg (s421.2.2 37 (by decide)) (s421.2.2 38 (by decide)) (pG2_cg (s417.2.2 37 (by decide)) (s417.2.2 38 (by decide)) f414)))⟩⟩ d_M_served_691
                                                  refine z_if_eq (tgt := 581) X.1 X.2.1 d_M_served_571 (by decide) ⟨by omega, by omega⟩ (fun h425 => ?_) (fun h425 => ?_)
                                                  · exact J385 60000 I374 J375 B360 G375 _ _ _ (pG1_cg rfl rfl (pG1_cg (s374.2.1 39 (by decide)) (s374.2.1 40 (by decide)) f363)) (pG2_cg rfl rfl (pG2_cg rfl rfl f364)) (tkA_cg rfl rfl rfl (tkA_cg rfl rfl rfl f365)) ((s374.2.1 33 (by decide)).trans e368) ((s374.2.1 79 (by decide)).trans e366) ((s374.2.1 80 (by decide)).trans e367) (x374.trans (congrArg iI (show (60000 : Int) = 60000 by omega))) (by omega) (by omega) (by omega) Y S (lv_sub hl [0, 1] rfl)
                                                  · refine lv_aload_n X.1 X.2.1 d_M_served_574 rfl (lv_at hl 0 rfl) ?_
                                                    refine lv_iconst (v := iI 3) X.1 X.2.1 d_M_served_575 (by decide) ?_
                                                    refine lv_lload X.1 X.2.1 d_M_served_576 (lv_at hl 2 rfl) ?_
                                                    refine r_nv (m_run (As := [.int (iI 3), .long v361]) (rest := []) (n := 2) X Y hZ hA hml hl.1 (r_M_numberField l D E h q H.size I374 J375 B360 G375 3 (by decide) (by decide) v361 S.1 60000 (x374.trans (congrArg iI (show (60000 : Int) = 60000 by omega))) (by omega) (by omega)) kl_M_numberField ks_M_numberField kx_M_numberField ki_M_numberField ini_M hd_M_numberField ⟨Nat.le_of_ble_eq_true rfl, Nat.le_of_ble_eq_true rfl⟩ rfl (Nat.le_of_ble_eq_true rfl) d_M_served_578 ⟨Nat.le_refl _, Nat.le_refl _⟩) X Y hA S (by decide) (by decide) (fun u H locs Y S s426 p426 => ?_)
                                                    obtain ⟨I426, J426, B426, G426⟩ := u
                                                    dsimp only at Y S s426 p426
                                                    obtain ⟨x426, g426_MF⟩ := p426
                                                    have f427 : tkA (B426 37) (B426 38) (B426 0) := (tkA_cg rfl (s426.2.2 37 (by decide)) (s426.2.2 38 (by decide)) (tkA_M g426_MF (by decide) (tkA_cg rfl rfl rfl (tkA_cg rfl rfl rfl f365))))
                                                    obtain ⟨z428, e428, l428, u428⟩ := x426
                                                    exact J385 z428 I426 J426 B426 G426 _ _ _ (pG1_cg (s426.2.1 39 (by decide)) (s426.2.1 40 (by decide)) (pG1_cg rfl rfl (pG1_cg (s374.2.1 39 (by decide)) (s374.2.1 40 (by decide)) f363))) (pG2_cg (s426.2.2 37 (by decide)) (s426.2.2 38 (by decide)) (pG2_cg rfl rfl (pG2_cg rfl rfl f364))) f427 ((s426.2.1 33 (by decide)).trans ((s374.2.1 33 (by decide)).trans e368)) ((s426.2.1 79 (by decide)).trans ((s374.2.1 79 (by decide)).trans e366)) ((s426.2.1 80 (by decide)).trans ((s374.2.1 80 (by decide)).trans e367)) e428 (by omega) (by omega) (by omega) Y S (lv_sub hl [0, 1] rfl)
                                                refine z_if_eq (tgt := 560) X.1 X.2.1 d_M_served_533 (by decide) ⟨by omega, by omega⟩ (fun h429 => ?_) (fun h429 => ?_)
                                                · exact J370 0 cn I357 J359 B340 G359 _ _ _ (auA_cg rfl rfl rfl (auA_cg rfl rfl rfl f342)) (pG1_cg rfl rfl (pG1_cg (w357.2 39 (by decide)) (w357.2 40 (by decide)) f343)) (pG2_cg rfl rfl (pG2_cg rfl rfl f344)) (tkA_cg rfl rfl rfl (tkA_cg rfl rfl rfl f345)) ((w357.2 79 (by decide)).trans e347) ((w357.2 80 (by decide)).trans e348) ((w357.2 33 (by decide)).trans e346) (by omega) (by omega) (by omega) Y S (lv_sub hl [1, 3, 0] rfl)
                                                · refine lv_aload_n X.1 X.2.1 d_M_served_536 rfl (lv_at hl 1 rfl) ?_
                                                  refine r_ni (m_run (As := []) (rest := []) (n := 0) X Y hZ hA hml hl.1 (r_M_fourCoins l D E h q H.size I357 J359 B340 G359 S.1 cn ((w357.2 33 (by decide)).trans e346) (by omega) (by omega)) kl_M_fourCoins ks_M_fourCoins kx_M_fourCoins ki_M_fourCoins ini_M hd_M_fourCoins ⟨Nat.le_of_ble_eq_true rfl, Nat.le_of_ble_eq_true rfl⟩ rfl (Nat.le_of_ble_eq_true rfl) d_M_served_537 ⟨Nat.le_refl _, Nat.le_refl _⟩) X Y hA S (by decide) (by decide) (fun z430 u H locs Y S s430 p430 => ?_)
                                                  obtain ⟨I430, J430, B430, G430⟩ := u
                                                  dsimp only at Y S s430 p430
                                                  obtain ⟨l430, u430, x430⟩ := p430
                                                  refine lv_ldcw (v := (1073741823)) X.1 X.2.1 X.2.2.2.1 (X.2.2.1 _ cn_M_974) d_M_served_540 ?_
                                                  refine t_eq (y := iI 1073741823) (by decide) ?_
                                                  refine z_iand X.1 X.2.1 (by omega) (by omega) d_M_served_543 (fun z431 l431 u431 => ?_)
                                                  refine lv_i2l X.1 X.2.1 d_M_served_544 rfl ?_
                                                  refine t_anyl (fun v432 => ?_)
                                                  refine lv_lstore (lv' := [(6, .long v432), (0, .ref h), (3, .int (iI z120)), (5, .int (iI z173))]) X.1 X.2.1 d_M_served_545 hl (by decide) rfl (fun ls hl => ?_)
                                                  refine lv_aload_n X.1 X.2.1 d_M_served_547 rfl (lv_at hl 1 rfl) ?_
                                                  refine m_get X Y 137 (by decide) lk_ownNumber (gf_ownNumber _ _ _) rfl d_M_served_548 ?_
                                                  refine lv_iconst (v := iI 2) X.1 X.2.1 d_M_served_551 (by decide) ?_
                                                  refine lv_iload X.1 X.2.1 d_M_served_552 (lv_at hl 3 rfl) ?_
                                                  refine z_imul X.1 X.2.1 d_M_served_554 ?_
                                                  refine lv_iconst (v := iI 1) X.1 X.2.1 d_M_served_555 (by decide) ?_
                                                  refine z_iadd X.1 X.2.1 d_M_served_556 ?_
                                                  refine lv_lload X.1 X.2.1 d_M_served_557 (lv_at hl 0 rfl) ?_
                                                  refine r_last X Y (aw_ownNumber _ _ _ _ _ _ _) (sw_ownNumber _ _ _ _ _ _ _) (by omega) (show (2 * z173) + 1 < ((16 : Nat) : Int) by omega) (by omega) d_M_served_559 (fun G433 H locs Y => ?_)
                                                  exact J370 v432 (cn + 4) I430 J430 B430 G433 _ _ _ (auA_cg (s430.2.2 0 (by decide)) (s430.2.2 37 (by decide)) (s430.2.2 38 (by decide)) (auA_cg rfl rfl rfl (auA_cg rfl rfl rfl f342))) (pG1_cg (s430.2.1 39 (by decide)) (s430.2.1 40 (by decide)) (pG1_cg rfl rfl (pG1_cg (w357.2 39 (by decide)) (w357.2 40 (by decide)) f343))) (pG2_cg (s430.2.2 37 (by decide)) (s430.2.2 38 (by decide)) (pG2_cg rfl rfl (pG2_cg rfl rfl f344))) (tkA_cg (s430.2.2 0 (by decide)) (s430.2.2 37 (by decide)) (s430.2.2 38 (by decide)) (tkA_cg rfl rfl rfl (tkA_cg rfl rfl rfl f345))) ((s430.2.1 79 (by decide)).trans ((w357.2 79 (by decide)).trans e347)) ((s430.2.1 80 (by decide)).trans ((w357.2 80 (by decide)).trans e348)) (x430.trans (congrArg iI (show (cn + 4 : Int) = cn + 4 by omega))) (by omega) (by omega) (by omega) Y S (lv_sub hl [1, 3, 0] rfl)
                                              · refine lv_iload X.1 X.2.1 d_M_served_520 (lv_at hl 2 rfl) ?_
                                                exact m_reti hQQ X Y hr hlk ⟨S, z173, rfl, ⟨by omega, by omega, ⟨cn, ((w357.2 33 (by decide)).trans e346), by omega, by omega⟩, (pG1_cg (w357.2 39 (by decide)) (w357.2 40 (by decide)) f343), (pG2_cg rfl rfl f344)⟩⟩ d_M_served_522
                                            refine z_if_eq (tgt := 479) X.1 X.2.1 d_M_served_466 (by decide) ⟨by omega, by omega⟩ (fun h434 => ?_) (fun h434 => ?_)
                                            · refine lv_lconst (v := 0) X.1 X.2.1 d_M_served_479 rfl ?_
                                              exact J349 0 I336 J339 B338 G339 _ _ _ (auA_cg rfl rfl rfl (auA_cg (w338.2 0 (by decide)) (w338.2 37 (by decide)) (w338.2 38 (by decide)) (auA_cg rfl rfl rfl (auA_cg rfl rfl rfl (auA_cg (w333.2 0 (by decide)) (w333.2 37 (by decide)) (w333.2 38 (by decide)) f321))))) (pG1_cg rfl rfl (pG1_cg rfl rfl g336_P1)) (pG2_cg rfl rfl (pG2_cg (w338.2 37 (by decide)) (w338.2 38 (by decide)) (pG2_cg rfl rfl (pG2_cg rfl rfl (pG2_cg (w333.2 37 (by decide)) (w333.2 38 (by decide)) f323))))) (tkA_cg rfl rfl rfl (tkA_cg (w338.2 0 (by decide)) (w338.2 37 (by decide)) (w338.2 38 (by decide)) (tkA_cg rfl rfl rfl (tkA_cg rfl rfl rfl (tkA_cg (w333.2 0 (by decide)) (w333.2 37 (by decide)) (w333.2 38 (by decide)) f324))))) ((s336.2.1 33 (by decide)).trans ((s334.2.1 33 (by decide)).trans e325)) ((s336.2.1 79 (by decide)).trans ((s334.2.1 79 (by decide)).trans e326)) ((s336.2.1 80 (by decide)).trans ((s334.2.1 80 (by decide)).trans e327)) Y S (lv_sub hl [0, 1, 2] rfl)
                                            · refine lv_aload_n X.1 X.2.1 d_M_served_469 rfl (lv_at hl 0 rfl) ?_
                                              refine lv_iconst (v := iI 5) X.1 X.2.1 d_M_served_470 (by decide) ?_
                                              refine lv_bipush (v := iI 7) X.1 X.2.1 d_M_served_471 (by decide) ?_
                                              refine r_nl (m_run (As := [.int (iI 5), .int (iI 7)]) (rest := [.int (iI z173), .ref ((q 140))]) (n := 2) X Y hZ hA hml hl.1 (r_M_numberAt l D E h q H.size I336 J339 B338 G339 5 (by decide) (by decide) 7 (by decide) (by decide) S.1 (pG1_cg rfl rfl (pG1_cg rfl rfl g336_P1)) (pG2_cg rfl rfl (pG2_cg (w338.2 37 (by decide)) (w338.2 38 (by decide)) (pG2_cg rfl rfl (pG2_cg rfl rfl (pG2_cg (w333.2 37 (by decide)) (w333.2 38 (by decide)) f323)))))) kl_M_numberAt ks_M_numberAt kx_M_numberAt ki_M_numberAt ini_M hd_M_numberAt ⟨Nat.le_of_ble_eq_true rfl, Nat.le_of_ble_eq_true rfl⟩ rfl (Nat.le_of_ble_eq_true rfl) d_M_served_473 ⟨Nat.le_refl _, Nat.le_refl _⟩) X Y hA S (by decide) (by decide) (fun v435 u H locs Y S s435 p435 => ?_)
                                              obtain ⟨I435, J435, B435, G435⟩ := u
                                              dsimp only at Y S s435 p435
                                              have b435 : B338 = B435 := (funext (fun j => s435.2.2 j (by simp))).symm
                                              subst b435
                                              have g435_P1 := p435
                                              refine lv_goto (tgt := 480) X.1 X.2.1 d_M_served_476 (by decide) ?_
                                              exact J349 v435 I435 J435 B338 G435 _ _ _ (auA_cg rfl rfl rfl (auA_cg rfl rfl rfl (auA_cg (w338.2 0 (by decide)) (w338.2 37 (by decide)) (w338.2 38 (by decide)) (auA_cg rfl rfl rfl (auA_cg rfl rfl rfl (auA_cg (w333.2 0 (by decide)) (w333.2 37 (by decide)) (w333.2 38 (by decide)) f321)))))) g435_P1 (pG2_cg rfl rfl (pG2_cg rfl rfl (pG2_cg (w338.2 37 (by decide)) (w338.2 38 (by decide)) (pG2_cg rfl rfl (pG2_cg rfl rfl (pG2_cg (w333.2 37 (by decide)) (w333.2 38 (by decide)) f323)))))) (tkA_cg rfl rfl rfl (tkA_cg rfl rfl rfl (tkA_cg (w338.2 0 (by decide)) (w338.2 37 (by decide)) (w338.2 38 (by decide)) (tkA_cg rfl rfl rfl (tkA_cg rfl rfl rfl (tkA_cg (w333.2 0 (by decide)) (w333.2 37 (by decide)) (w333.2 38 (by decide)) f324)))))) ((s435.2.1 33 (by decide)).trans ((s336.2.1 33 (by decide)).trans ((s334.2.1 33 (by decide)).trans e325))) ((s435.2.1 79 (by decide)).trans ((s336.2.1 79 (by decide)).trans ((s334.2.1 79 (by decide)).trans e326))) ((s435.2.1 80 (by decide)).trans ((s336.2.1 80 (by decide)).trans ((s334.2.1 80 (by decide)).trans e327))) Y S (lv_sub hl [0, 1, 2] rfl)
                                          · refine lv_aload_n X.1 X.2.1 d_M_served_352 rfl (lv_at hl 0 rfl) ?_
                                            refine m_get X Y 136 (by decide) lk_sessionKeys (gf_sessionKeys _ _ _) rfl d_M_served_353 ?_
                                            refine lv_bipush (v := iI 32) X.1 X.2.1 d_M_served_356 (by decide) ?_
                                            refine lv_iload X.1 X.2.1 d_M_served_358 (lv_at hl 2 rfl) ?_
                                            refine z_imul X.1 X.2.1 d_M_served_360 ?_
                                            refine lv_iload X.1 X.2.1 d_M_served_361 (lv_at hl 3 rfl) ?_
                                            refine z_iadd X.1 X.2.1 d_M_served_363 ?_
                                            refine lv_aload_n X.1 X.2.1 d_M_served_364 rfl (lv_at hl 0 rfl) ?_
                                            refine r_get0 X Y (by decide) lk_subType (gf_subType _ _ _) rfl e327 d_M_served_365 ?_
                                            have J437 : ∀ (z436 : Int) (H : Heap) (locs : List Loc) (ls : Array Slot), ((-128) ≤ z436) → (z436 ≤ 127) → mH D E (mA E h q sz) s.heap h q I319 J319 B319 G319 H locs → rS [3, 8, 14, 18, 33, 36, 39, 40, 42, 54, 79, 80] [0, 1, 5, 6, 7, 9, 10, 11, 12, 13, 15, 16, 17, 19, 20, 21, 22, 23, 34, 35, 37, 38, 53, 58, 59, 61, 62, 63, 64, 133, 134, 135, 136, 141, 142, 143] I B I319 B319 → lv_has ls 8 [(0, .ref h), (3, .int (iI z120)), (5, .int (iI z173)), (6, .int (iI z320))] → W p l e (mR 46 2072) s m AV below meth c H locs 0 0 QQ (F0 m 388 ls [.int (iI z436), .int (iI ((32 * z173) + z320)), .ref ((q 136))]) := by
                                              intro z436 H locs ls l436 u436 Y S hl
                                              refine r_bast X Y S (aw_sessionKeys _ _ _ _ _ _ _) (sw_sessionKeys _ _ _ _ _ _ _) rfl (by omega) (show (32 * z173) + z320 < ((256 : Nat) : Int) by omega) (by omega) (by decide) d_M_served_388 (fun B441 H locs Y S w441 => ?_)
                                              refine lv_aload_n X.1 X.2.1 d_M_served_389 rfl (lv_at hl 0 rfl) ?_
                                              refine m_get X Y 143 (by decide) lk_beganKeys (gf_beganKeys _ _ _) rfl d_M_served_390 ?_
                                              refine lv_bipush (v := iI 32) X.1 X.2.1 d_M_served_393 (by decide) ?_
                                              refine lv_iload X.1 X.2.1 d_M_served_395 (lv_at hl 2 rfl) ?_
                                              refine z_imul X.1 X.2.1 d_M_served_397 ?_
                                              refine lv_iload X.1 X.2.1 d_M_served_398 (lv_at hl 3 rfl) ?_
                                              refine z_iadd X.1 X.2.1 d_M_served_400 ?_
                                              refine lv_aload_n X.1 X.2.1 d_M_served_401 rfl (lv_at hl 0 rfl) ?_
                                              refine m_get X Y 58 (by decide) lk_key (gf_key _ _ _) rfl d_M_served_402 ?_
                                              refine lv_iload X.1 X.2.1 d_M_served_405 (lv_at hl 3 rfl) ?_
                                              refine r_bald X Y S (aw_key _ _ _ _ _ _ _) rfl (by omega) (show z320 < ((32 : Nat) : Int) by omega) (by omega) d_M_served_407 (fun z442 q442 l442 u442 => ?_)
                                              refine r_bast X Y S (aw_beganKeys _ _ _ _ _ _ _) (sw_beganKeys _ _ _ _ _ _ _) rfl (by omega) (show (32 * z173) + z320 < ((256 : Nat) : Int) by omega) (by omega) (by decide) d_M_served_408 (fun B443 H locs Y S w443 => ?_)
                                              refine lv_iinc (v := iI (z320 + 1)) (lv' := [(6, .int (iI (z320 + 1))), (0, .ref h), (3, .int (iI z120)), (5, .int (iI z173))]) X.1 X.2.1 d_M_served_409 hl (k := 3) rfl ((iI_add _ _).trans (congrArg iI (by omega))) (by decide) rfl (fun ls hl => ?_)
                                              refine lv_goto (tgt := 345) X.1 X.2.1 d_M_served_412 (by decide) ?_
                                              exact ih329 ((32 - (z320 + 1)).toNat) (by omega) (z320 + 1) I319 J319 B443 G319 _ _ _ rfl (by omega) (by omega) (auA_cg (w443.2 0 (by decide)) (w443.2 37 (by decide)) (w443.2 38 (by decide)) (auA_cg (w441.2 0 (by decide)) (w441.2 37 (by decide)) (w441.2 38 (by decide)) f321)) (pG1_cg rfl rfl (pG1_cg rfl rfl f322)) (pG2_cg (w443.2 37 (by decide)) (w443.2 38 (by decide)) (pG2_cg (w441.2 37 (by decide)) (w441.2 38 (by decide)) f323)) (tkA_cg (w443.2 0 (by decide)) (w443.2 37 (by decide)) (w443.2 38 (by decide)) (tkA_cg (w441.2 0 (by decide)) (w441.2 37 (by decide)) (w441.2 38 (by decide)) f324)) e325 e326 e327 Y S (lv_sub hl [1, 2, 3, 0] rfl)
                                            refine z_if_le (tgt := 381) X.1 X.2.1 d_M_served_368 (by decide) ⟨by omega, by omega⟩ (fun h444 => False.elim (by omega)) (fun h444 => ?_)
                                            · refine lv_aload_n X.1 X.2.1 d_M_served_371 rfl (lv_at hl 0 rfl) ?_
                                              refine m_get X Y 59 (by decide) lk_sub (gf_sub _ _ _) rfl d_M_served_372 ?_
                                              refine lv_iload X.1 X.2.1 d_M_served_375 (lv_at hl 3 rfl) ?_
                                              refine r_bald X Y S (aw_sub _ _ _ _ _ _ _) rfl (by omega) (show z320 < ((32 : Nat) : Int) by omega) (by omega) d_M_served_377 (fun z445 q445 l445 u445 => ?_)
                                              refine lv_goto (tgt := 388) X.1 X.2.1 d_M_served_378 (by decide) ?_
                                              exact J437 z445 _ _ _ (by omega) (by omega) Y S (lv_sub hl [0, 1, 2, 3] rfl)
                                      refine lv_istore (lv' := [(6, .int (iI 0)), (0, .ref h), (3, .int (iI z120)), (5, .int (iI z173))]) X.1 X.2.1 d_M_served_343 hl (by decide) rfl (fun ls hl => ?_)
                                      exact J328 _ 0 I169 J171 B316 G171 _ _ _ rfl (by omega) (by omega) f318 (pG1_cg rfl rfl (pG1_cg rfl rfl (pG1_cg rfl rfl (pG1_cg rfl rfl (pG1_cg (w169.2 39 (by decide)) (w169.2 40 (by decide)) f160))))) (pG2_cg (w316.2 37 (by decide)) (w316.2 38 (by decide)) (pG2_cg (w184.2 37 (by decide)) (w184.2 38 (by decide)) (pG2_cg (w183.2 37 (by decide)) (w183.2 38 (by decide)) (pG2_cg rfl rfl (pG2_cg rfl rfl f161))))) f317 ((w169.2 33 (by decide)).trans e163) ((w169.2 79 (by decide)).trans e164) w169.1 Y S (lv_sub hl [1, 2, 3, 0] rfl)
                                  · refine lv_bipush (v := iI (-29)) X.1 X.2.1 d_M_served_298 (by decide) ?_
                                    exact m_reti hQQ X Y hr hlk ⟨S, (-29), rfl, ⟨by omega, by omega, ⟨cn, ((w169.2 33 (by decide)).trans e163), by omega, by omega⟩, (pG1_cg rfl rfl (pG1_cg (w169.2 39 (by decide)) (w169.2 40 (by decide)) f160)), (pG2_cg rfl rfl (pG2_cg rfl rfl f161))⟩⟩ d_M_served_300
                                refine z_icmp_ge (tgt := 291) X.1 X.2.1 d_M_served_272 (by decide) ⟨by omega, by omega⟩ ⟨by decide, by decide⟩ (fun h446 => ?_) (fun h446 => ?_)
                                · exact J178  _ _ _  Y S (lv_sub hl [0, 1, 2] rfl)
                                · refine lv_aload_n X.1 X.2.1 d_M_served_275 rfl (lv_at hl 0 rfl) ?_
                                  refine m_get X Y 133 (by decide) lk_isSession (gf_isSession _ _ _) rfl d_M_served_276 ?_
                                  refine lv_iload X.1 X.2.1 d_M_served_279 (lv_at hl 2 rfl) ?_
                                  refine r_zald X Y S (aw_isSession _ _ _ _ _ _ _) rfl (by omega) (show z173 < ((8 : Nat) : Int) by omega) (by omega) d_M_served_281 (fun z447 q447 l447 u447 => ?_)
                                  refine z_if_eq (tgt := 291) X.1 X.2.1 d_M_served_282 (by decide) ⟨by omega, by omega⟩ (fun h448 => ?_) (fun h448 => ?_)
                                  · exact J178  _ _ _  Y S (lv_sub hl [0, 1, 2] rfl)
                                  · refine lv_iinc (v := iI (z173 + 1)) (lv' := [(5, .int (iI (z173 + 1))), (0, .ref h), (3, .int (iI z120))]) X.1 X.2.1 d_M_served_285 hl (k := 2) rfl ((iI_add _ _).trans (congrArg iI (by omega))) (by decide) rfl (fun ls hl => ?_)
                                    refine lv_goto (tgt := 268) X.1 X.2.1 d_M_served_288 (by decide) ?_
                                    exact ih175 ((8 - (z173 + 1)).toNat) (by omega) (z173 + 1) _ _ _ rfl (by omega) (by omega) Y S (lv_sub hl [1, 2, 0] rfl)
                            refine lv_istore (lv' := [(5, .int (iI 0)), (0, .ref h), (1, .int (iI a1)), (3, .int (iI z120))]) X.1 X.2.1 d_M_served_266 hl (by decide) rfl (fun ls hl => ?_)
                            exact J174 _ 0 _ _ _ rfl (by omega) (by omega) Y S (lv_sub hl [1, 3, 0] rfl)
                          · refine lv_bipush (v := iI (-18)) X.1 X.2.1 d_M_served_262 (by decide) ?_
                            exact m_reti hQQ X Y hr hlk ⟨S, (-18), rfl, ⟨by omega, by omega, ⟨cn, ((w169.2 33 (by decide)).trans e163), by omega, by omega⟩, (pG1_cg rfl rfl (pG1_cg (w169.2 39 (by decide)) (w169.2 40 (by decide)) f160)), (pG2_cg rfl rfl (pG2_cg rfl rfl f161))⟩⟩ d_M_served_264
                        · refine lv_bipush (v := iI (-14)) X.1 X.2.1 d_M_served_249 (by decide) ?_
                          exact m_reti hQQ X Y hr hlk ⟨S, (-14), rfl, ⟨by omega, by omega, ⟨cn, ((w169.2 33 (by decide)).trans e163), by omega, by omega⟩, (pG1_cg (w169.2 39 (by decide)) (w169.2 40 (by decide)) f160), (pG2_cg rfl rfl f161)⟩⟩ d_M_served_251
                      refine z_if_eq (tgt := 238) X.1 X.2.1 d_M_served_221 (by decide) ⟨by omega, by omega⟩ (fun h449 => ?_) (fun h449 => ?_)
                      · refine lv_iconst (v := iI (-1)) X.1 X.2.1 d_M_served_238 (by decide) ?_
                        exact J165 ((-1)) I152 J156 B142 G156 _ _ _ (by omega) (by omega) (auA_cg rfl rfl rfl (auA_cg rfl rfl rfl (auA_cg rfl rfl rfl f144))) (pG1_cg rfl rfl g152_P1) (pG2_cg rfl rfl (pG2_cg rfl rfl (pG2_cg rfl rfl g142_P2))) (tkA_cg rfl rfl rfl (tkA_cg rfl rfl rfl (tkA_cg rfl rfl rfl f143))) ((s152.2.1 33 (by decide)).trans ((s146.2.1 33 (by decide)).trans ((s142.2.1 33 (by decide)).trans ((s135.2.1 33 (by decide)).trans ((s129.2.1 33 (by decide)).trans ((s128.2.1 33 (by decide)).trans ((s124.2.1 33 (by decide)).trans ((s119.2.1 33 (by decide)).trans ((s117.2.1 33 (by decide)).trans ((s111.2.1 33 (by decide)).trans ((s108.2.1 33 (by decide)).trans ((s105.2.1 33 (by decide)).trans ((s101.2.1 33 (by decide)).trans gcn))))))))))))) ((s152.2.1 79 (by decide)).trans ((s146.2.1 79 (by decide)).trans ((s142.2.1 79 (by decide)).trans e137))) Y S (lv_sub hl [2, 3, 1] rfl)
                      · refine lv_aload_n X.1 X.2.1 d_M_served_224 rfl (lv_at hl 2 rfl) ?_
                        refine lv_iconst (v := iI 5) X.1 X.2.1 d_M_served_225 (by decide) ?_
                        refine lv_bipush (v := iI 6) X.1 X.2.1 d_M_served_226 (by decide) ?_
                        refine lv_aload_n X.1 X.2.1 d_M_served_228 rfl (lv_at hl 2 rfl) ?_
                        refine m_get X Y 59 (by decide) lk_sub (gf_sub _ _ _) rfl d_M_served_229 ?_
                        refine r_ni (m_run (As := [.int (iI 5), .int (iI 6), .ref ((q 59))]) (rest := [.ref h]) (n := 3) X Y hZ hA hml hl.1 (r_M_keyIn_sub l D E h q H.size I152 J156 B142 G156 5 (by decide) (by decide) 6 (by decide) (by decide) S.1 (pG1_cg rfl rfl g152_P1) (pG2_cg rfl rfl (pG2_cg rfl rfl (pG2_cg rfl rfl g142_P2)))) kl_M_keyIn ks_M_keyIn kx_M_keyIn ki_M_keyIn ini_M hd_M_keyIn ⟨Nat.le_of_ble_eq_true rfl, Nat.le_of_ble_eq_true rfl⟩ rfl (Nat.le_of_ble_eq_true rfl) d_M_served_232 ⟨Nat.le_refl _, Nat.le_refl _⟩) X Y hA S (by decide) (by decide) (fun z450 u H locs Y S s450 p450 => ?_)
                        obtain ⟨I450, J450, B450, G450⟩ := u
                        dsimp only at Y S s450 p450
                        obtain ⟨l450, u450, x450, g450_P1, g450_P2, g450_TF⟩ := p450
                        have f451 : tkA (B450 37) (B450 38) (B450 0) := (tkA_cg (s450.2.2 0 (by decide)) rfl rfl (tkA_T g450_TF (by decide) (by decide) (tkA_cg rfl rfl rfl (tkA_cg rfl rfl rfl (tkA_cg rfl rfl rfl f143)))))
                        have f452 : auA (B450 37) (B450 38) (B450 0) := (auA_cg (s450.2.2 0 (by decide)) rfl rfl (auA_T g450_TF (by decide) (by decide) (auA_cg rfl rfl rfl (auA_cg rfl rfl rfl (auA_cg rfl rfl rfl f144)))))
                        refine lv_goto (tgt := 239) X.1 X.2.1 d_M_served_235 (by decide) ?_
                        exact J165 z450 I450 J450 B450 G450 _ _ _ (by omega) (by omega) f452 g450_P1 g450_P2 f451 ((s450.2.1 33 (by decide)).trans ((s152.2.1 33 (by decide)).trans ((s146.2.1 33 (by decide)).trans ((s142.2.1 33 (by decide)).trans ((s135.2.1 33 (by decide)).trans ((s129.2.1 33 (by decide)).trans ((s128.2.1 33 (by decide)).trans ((s124.2.1 33 (by decide)).trans ((s119.2.1 33 (by decide)).trans ((s117.2.1 33 (by decide)).trans ((s111.2.1 33 (by decide)).trans ((s108.2.1 33 (by decide)).trans ((s105.2.1 33 (by decide)).trans ((s101.2.1 33 (by decide)).trans gcn)))))))))))))) ((s450.2.1 79 (by decide)).trans ((s152.2.1 79 (by decide)).trans ((s146.2.1 79 (by decide)).trans ((s142.2.1 79 (by decide)).trans e137)))) Y S (lv_sub hl [2, 3, 1] rfl)
                    · refine lv_bipush (v := iI (-32)) X.1 X.2.1 d_M_served_210 (by decide) ?_
                      exact m_reti hQQ X Y hr hlk ⟨S, (-32), rfl, ⟨by omega, by omega, ⟨cn, ((s152.2.1 33 (by decide)).trans ((s146.2.1 33 (by decide)).trans ((s142.2.1 33 (by decide)).trans ((s135.2.1 33 (by decide)).trans ((s129.2.1 33 (by decide)).trans ((s128.2.1 33 (by decide)).trans ((s124.2.1 33 (by decide)).trans ((s119.2.1 33 (by decide)).trans ((s117.2.1 33 (by decide)).trans ((s111.2.1 33 (by decide)).trans ((s108.2.1 33 (by decide)).trans ((s105.2.1 33 (by decide)).trans ((s101.2.1 33 (by decide)).trans gcn))))))))))))), by omega, by omega⟩, g152_P1, (pG2_cg rfl rfl (pG2_cg rfl rfl g142_P2))⟩⟩ d_M_served_212
                  · refine lv_bipush (v := iI (-33)) X.1 X.2.1 d_M_served_191 (by decide) ?_
                    exact m_reti hQQ X Y hr hlk ⟨S, (-33), rfl, ⟨by omega, by omega, ⟨cn, ((s146.2.1 33 (by decide)).trans ((s142.2.1 33 (by decide)).trans ((s135.2.1 33 (by decide)).trans ((s129.2.1 33 (by decide)).trans ((s128.2.1 33 (by decide)).trans ((s124.2.1 33 (by decide)).trans ((s119.2.1 33 (by decide)).trans ((s117.2.1 33 (by decide)).trans ((s111.2.1 33 (by decide)).trans ((s108.2.1 33 (by decide)).trans ((s105.2.1 33 (by decide)).trans ((s101.2.1 33 (by decide)).trans gcn)))))))))))), by omega, by omega⟩, g146_P1, (pG2_cg rfl rfl g142_P2)⟩⟩ d_M_served_193
                · refine lv_iload X.1 X.2.1 d_M_served_166 (lv_at hl 0 rfl) ?_
                  refine lv_ineg X.1 X.2.1 d_M_served_168 (t_eq (iI_neg z142) ?_)
                  exact m_reti hQQ X Y hr hlk ⟨S, (-z142), rfl, ⟨by omega, by omega, ⟨cn, ((s142.2.1 33 (by decide)).trans ((s135.2.1 33 (by decide)).trans ((s129.2.1 33 (by decide)).trans ((s128.2.1 33 (by decide)).trans ((s124.2.1 33 (by decide)).trans ((s119.2.1 33 (by decide)).trans ((s117.2.1 33 (by decide)).trans ((s111.2.1 33 (by decide)).trans ((s108.2.1 33 (by decide)).trans ((s105.2.1 33 (by decide)).trans ((s101.2.1 33 (by decide)).trans gcn))))))))))), by omega, by omega⟩, g142_P1, g142_P2⟩⟩ d_M_served_169
          · refine lv_bipush (v := iI (-13)) X.1 X.2.1 d_M_served_75 (by decide) ?_
            exact m_reti hQQ X Y hr hlk ⟨S, (-13), rfl, ⟨by omega, by omega, ⟨cn, ((s117.2.1 33 (by decide)).trans ((s111.2.1 33 (by decide)).trans ((s108.2.1 33 (by decide)).trans ((s105.2.1 33 (by decide)).trans ((s101.2.1 33 (by decide)).trans gcn))))), by omega, by omega⟩, g117_P1, (pG2_cg rfl rfl (pG2_cg rfl rfl (pG2_cg rfl rfl (pG2_cg rfl rfl g101_P2))))⟩⟩ d_M_served_77
      · refine lv_bipush (v := iI (-40)) X.1 X.2.1 d_M_served_47 (by decide) ?_
        exact m_reti hQQ X Y hr hlk ⟨S, (-40), rfl, ⟨by omega, by omega, ⟨cn, ((s108.2.1 33 (by decide)).trans ((s105.2.1 33 (by decide)).trans ((s101.2.1 33 (by decide)).trans gcn))), by omega, by omega⟩, g108_P1, (pG2_cg rfl rfl (pG2_cg rfl rfl g101_P2))⟩⟩ d_M_served_49
    · refine lv_bipush (v := iI (-3)) X.1 X.2.1 d_M_served_31 (by decide) ?_
      exact m_reti hQQ X Y hr hlk ⟨S, (-3), rfl, ⟨by omega, by omega, ⟨cn, ((s105.2.1 33 (by decide)).trans ((s101.2.1 33 (by decide)).trans gcn)), by omega, by omega⟩, g105_P1, (pG2_cg rfl rfl g101_P2)⟩⟩ d_M_served_33
  · refine lv_bipush (v := iI (-60)) X.1 X.2.1 d_M_served_15 (by decide) ?_
    exact m_reti hQQ X Y hr hlk ⟨S, (-60), rfl, ⟨by omega, by omega, ⟨cn, ((s101.2.1 33 (by decide)).trans gcn), by omega, by omega⟩, g101_P1, g101_P2⟩⟩ d_M_served_17
set_option maxHeartbeats 4000000 in
set_option maxRecDepth 100000 in
theorem r_M_serve (l : Launch) (D : mD) (E : mE) (h : Nat) (q : Nat → Nat) (sz : Nat) (I : Nat → Int32) (J : Nat → Int64) (B : Nat → Nat → Int32) (G : Nat → Nat → Int64) (a1 : Int) (l_a1 : (-2147483648) ≤ a1) (u_a1 : a1 ≤ 2147483647) (hT : rT I B) (cn : Int) (gcn : I 33 = iI cn) (lcn : 0 ≤ cn) (ucn : cn ≤ 1900000) (f_P1 : pG1 I) (f_P2 : pG2 (B 37) (B 38)) : Met l y_M_serve (k_M_serve :: lw_tg) (mR 47 2099) (va_Pc [.ref h, .int (iI a1)] (mPre D E h q (I, J, B, G) sz)) (va_Qi (rPi [2, 3, 8, 14, 18, 33, 36, 39, 40, 42, 54, 79, 80] [0, 1, 5, 6, 7, 9, 10, 11, 12, 13, 15, 16, 17, 19, 20, 21, 22, 23, 34, 35, 37, 38, 53, 58, 59, 61, 62, 63, 64, 133, 134, 135, 136, 141, 142, 143] I B (fun (z : Int) (u : mS) => (-2147483648) ≤ z ∧ z ≤ 2147483647 ∧ (∃ V2 : Int, u.1 33 = iI V2 ∧ cn ≤ V2 ∧ V2 ≤ cn + 1000) ∧ pG1 u.1 ∧ pG2 (u.2.2.1 37) (u.2.2.1 38))) (mPost D E h q (mA E h q sz)) (mA E h q sz)) 0 0 (mA E h q sz) := by
  refine m_enter (by decide) rfl (Nat.le_of_ble_eq_true rfl) (fun p e s m below meth c ls AV QQ H locs hQQ X Y hZ hA hr hlk hml hl => ?_)
  have Y : mH D E (mA E h q sz) s.heap h q I J B G H locs := Y
  have S : rS [2, 3, 8, 14, 18, 33, 36, 39, 40, 42, 54, 79, 80] [0, 1, 5, 6, 7, 9, 10, 11, 12, 13, 15, 16, 17, 19, 20, 21, 22, 23, 34, 35, 37, 38, 53, 58, 59, 61, 62, 63, 64, 133, 134, 135, 136, 141, 142, 143] I B I B := rS_rf hT
  have hl : lv_has ls 4 [(0, .ref h), (1, .int (iI a1))] := hl
  refine lv_aload_n X.1 X.2.1 d_M_serve_0 rfl (lv_at hl 0 rfl) ?_
  refine r_geti (k := 2) X Y S (by decide) lk_length (gf_length _ _ _) rfl rfl d_M_serve_1 (fun z101 e101 l101 u101 => ?_)
  refine lv_istore_n (lv' := [(2, .int (iI z101)), (0, .ref h), (1, .int (iI a1))]) X.1 X.2.1 d_M_serve_4 rfl hl (by decide) rfl (fun ls hl => ?_)
  refine lv_aload_n X.1 X.2.1 d_M_serve_5 rfl (lv_at hl 1 rfl) ?_
  refine lv_iconst (v := iI 0) X.1 X.2.1 d_M_serve_6 (by decide) ?_
  refine r_puti (k := 2) X Y S (by decide) lk_length rfl rfl (t_M_ok 2 (by decide)) rfl rfl (sf_length _ _ _ _) (Nat.le_of_ble_eq_true rfl) rfl (show (0 : Int) ≤ 0 by omega) (show 0 ≤ (4000 : Int) by omega) ⟨by omega, by omega⟩ (by decide) d_M_serve_7 (fun I102 H locs Y S w102 => ?_)
  refine lv_iload_n X.1 X.2.1 d_M_serve_10 rfl (lv_at hl 2 rfl) ?_
  refine z_if_lt (tgt := 22) X.1 X.2.1 d_M_serve_11 (by decide) ⟨by omega, by omega⟩ (fun h103 => ?_) (fun h103 => ?_)
  · refine lv_iconst (v := iI (-1)) X.1 X.2.1 d_M_serve_22 (by decide) ?_
    exact m_reti hQQ X Y hr hlk ⟨S, (-1), rfl, ⟨by omega, by omega, ⟨cn, ((w102.2 33 (by decide)).trans gcn), by omega, by omega⟩, (pG1_cg (w102.2 39 (by decide)) (w102.2 40 (by decide)) f_P1), (pG2_cg rfl rfl f_P2)⟩⟩ d_M_serve_23
  · refine lv_iload_n X.1 X.2.1 d_M_serve_14 rfl (lv_at hl 2 rfl) ?_
    refine lv_aload_n X.1 X.2.1 d_M_serve_15 rfl (lv_at hl 1 rfl) ?_
    refine r_geti (k := 43) X Y S (by decide) lk_principals (gf_principals _ _ _) rfl rfl d_M_serve_16 (fun z104 e104 l104 u104 => ?_)
    refine z_icmp_lt (tgt := 24) X.1 X.2.1 d_M_serve_19 (by decide) ⟨by omega, by omega⟩ ⟨by omega, by omega⟩ (fun h105 => ?_) (fun h105 => ?_)
    · refine lv_aload_n X.1 X.2.1 d_M_serve_24 rfl (lv_at hl 1 rfl) ?_
      refine lv_iload_n X.1 X.2.1 d_M_serve_25 rfl (lv_at hl 2 rfl) ?_
      refine lv_iload_n X.1 X.2.1 d_M_serve_26 rfl (lv_at hl 0 rfl) ?_
      refine r_ni (m_run (As := [.int (iI a1), .int (iI z101)]) (rest := []) (n := 2) X Y hZ hA hml hl.1 (r_M_served l D E h q H.size I102 J B G a1 (by omega) (by omega) z101 (by omega) (by omega) S.1 cn ((w102.2 33 (by decide)).trans gcn) (by omega) (by omega) (pG1_cg (w102.2 39 (by decide)) (w102.2 40 (by decide)) f_P1) (pG2_cg rfl rfl f_P2)) kl_M_served ks_M_served kx_M_served ki_M_served ini_M hd_M_served ⟨Nat.le_of_ble_eq_true rfl, Nat.le_of_ble_eq_true rfl⟩ rfl (Nat.le_of_ble_eq_true rfl) d_M_serve_27 ⟨Nat.le_refl _, Nat.le_refl _⟩) X Y hA S (by decide) (by decide) (fun z106 u H locs Y S s106 p106 => ?_)
      obtain ⟨I106, J106, B106, G106⟩ := u
      dsimp only at Y S s106 p106
      obtain ⟨l106, u106, x106, g106_P1, g106_P2⟩ := p106
      obtain ⟨z107, e107, l107, u107⟩ := x106
      refine lv_istore_n (lv' := [(3, .int (iI z106)), (2, .int (iI z101)), (0, .ref h), (1, .int (iI a1))]) X.1 X.2.1 d_M_serve_30 rfl hl (by decide) rfl (fun ls hl => ?_)
      refine lv_iload_n X.1 X.2.1 d_M_serve_31 rfl (lv_at hl 0 rfl) ?_
      refine z_if_lt (tgt := 37) X.1 X.2.1 d_M_serve_32 (by decide) ⟨by omega, by omega⟩ (fun h108 => ?_) (fun h108 => ?_)
      · refine lv_aload_n X.1 X.2.1 d_M_serve_37 rfl (lv_at hl 2 rfl) ?_
        refine r_nv (m_run (As := []) (rest := []) (n := 0) X Y hZ hA hml hl.1 (r_M_start l D E h q H.size I106 J106 B106 G106 S.1) kl_M_start ks_M_start kx_M_start ki_M_start ini_M hd_M_start ⟨Nat.le_of_ble_eq_true rfl, Nat.le_of_ble_eq_true rfl⟩ rfl (Nat.le_of_ble_eq_true rfl) d_M_serve_38 ⟨Nat.le_refl _, Nat.le_refl _⟩) X Y hA S (by decide) (by decide) (fun u H locs Y S s109 p109 => ?_)
        obtain ⟨I109, J109, B109, G109⟩ := u
        dsimp only at Y S s109 p109
        have b109 : B106 = B109 := (funext (fun j => s109.2.2 j (by simp))).symm
        subst b109
        have x109 := p109
        refine lv_aload_n X.1 X.2.1 d_M_serve_41 rfl (lv_at hl 2 rfl) ?_
        refine lv_bipush (v := iI 10) X.1 X.2.1 d_M_serve_42 (by decide) ?_
        refine lv_iload_n X.1 X.2.1 d_M_serve_44 rfl (lv_at hl 3 rfl) ?_
        refine lv_iconst (v := iI 2) X.1 X.2.1 d_M_serve_45 (by decide) ?_
        refine r_nv (m_run (As := [.int (iI 10), .int (iI a1), .int (iI 2)]) (rest := []) (n := 3) X Y hZ hA hml hl.1 (r_M_nameField l D E h q H.size I109 J109 B106 G109 10 (by decide) (by decide) a1 (by omega) (by omega) 2 (by decide) (by decide) S.1 60000 (x109.trans (congrArg iI (show (60000 : Int) = 60000 by omega))) (by omega) (by omega)) kl_M_nameField ks_M_nameField kx_M_nameField ki_M_nameField ini_M hd_M_nameField ⟨Nat.le_of_ble_eq_true rfl, Nat.le_of_ble_eq_true rfl⟩ rfl (Nat.le_of_ble_eq_true rfl) d_M_serve_46 ⟨Nat.le_refl _, Nat.le_refl _⟩) X Y hA S (by decide) (by decide) (fun u H locs Y S s110 p110 => ?_)
        obtain ⟨I110, J110, B110, G110⟩ := u
        dsimp only at Y S s110 p110
        obtain ⟨x110, g110_MF⟩ := p110
        obtain ⟨z111, e111, l111, u111⟩ := x110
        refine lv_aload_n X.1 X.2.1 d_M_serve_49 rfl (lv_at hl 2 rfl) ?_
        refine lv_bipush (v := iI 9) X.1 X.2.1 d_M_serve_50 (by decide) ?_
        refine m_ldcSW (i := 2) X (by decide) (by decide) d_M_serve_52 ?_
        refine r_nv (m_run (As := [.int (iI 9), .ref ((D.2.1 2))]) (rest := []) (n := 2) X Y hZ hA hml hl.1 (r_M_wordField l D E h q H.size I110 J110 B110 G110 9 (by decide) (by decide) 2 (show 2 < nZ by decide) S.1 z111 e111 (by omega) (by omega)) kl_M_wordField ks_M_wordField kx_M_wordField ki_M_wordField ini_M hd_M_wordField ⟨Nat.le_of_ble_eq_true rfl, Nat.le_of_ble_eq_true rfl⟩ rfl (Nat.le_of_ble_eq_true rfl) d_M_serve_55 ⟨Nat.le_refl _, Nat.le_refl _⟩) X Y hA S (by decide) (by decide) (fun u H locs Y S s112 p112 => ?_)
        obtain ⟨I112, J112, B112, G112⟩ := u
        dsimp only at Y S s112 p112
        obtain ⟨x112, g112_MF⟩ := p112
        obtain ⟨z113, e113, l113, u113⟩ := x112
        refine lv_aload_n X.1 X.2.1 d_M_serve_58 rfl (lv_at hl 2 rfl) ?_
        refine lv_iload_n X.1 X.2.1 d_M_serve_59 rfl (lv_at hl 0 rfl) ?_
        refine lv_ineg X.1 X.2.1 d_M_serve_60 (t_eq (iI_neg z106) ?_)
        refine r_nv (m_run (As := [.int (iI ((-z106)))]) (rest := []) (n := 1) X Y hZ hA hml hl.1 (r_M_errorHead l D E h q H.size I112 J112 B112 G112 ((-z106)) (by omega) (by omega) S.1 z113 e113 (by omega) (by omega)) kl_M_errorHead ks_M_errorHead kx_M_errorHead ki_M_errorHead ini_M hd_M_errorHead ⟨Nat.le_of_ble_eq_true rfl, Nat.le_of_ble_eq_true rfl⟩ rfl (Nat.le_of_ble_eq_true rfl) d_M_serve_61 ⟨Nat.le_refl _, Nat.le_refl _⟩) X Y hA S (by decide) (by decide) (fun u H locs Y S s114 p114 => ?_)
        obtain ⟨I114, J114, B114, G114⟩ := u
        dsimp only at Y S s114 p114
        have f115 : pG1 I114 := (pG1_cg (s114.2.1 39 (by decide)) (s114.2.1 40 (by decide)) (pG1_cg (s112.2.1 39 (by decide)) (s112.2.1 40 (by decide)) (pG1_cg (s110.2.1 39 (by decide)) (s110.2.1 40 (by decide)) (pG1_cg (s109.2.1 39 (by decide)) (s109.2.1 40 (by decide)) g106_P1))))
        obtain ⟨x114, g114_MF⟩ := p114
        obtain ⟨z116, e116, l116, u116⟩ := x114
        refine lv_aload_n X.1 X.2.1 d_M_serve_64 rfl (lv_at hl 2 rfl) ?_
        refine r_nv (m_run (As := []) (rest := []) (n := 0) X Y hZ hA hml hl.1 (r_M_written l D E h q H.size I114 J114 B114 G114 S.1 z116 e116 (by omega) (by omega)) kl_M_written ks_M_written kx_M_written ki_M_written ini_M hd_M_written ⟨Nat.le_of_ble_eq_true rfl, Nat.le_of_ble_eq_true rfl⟩ rfl (Nat.le_of_ble_eq_true rfl) d_M_serve_65 ⟨Nat.le_refl _, Nat.le_refl _⟩) X Y hA S (by decide) (by decide) (fun u H locs Y S s117 p117 => ?_)
        obtain ⟨I117, J117, B117, G117⟩ := u
        dsimp only at Y S s117 p117
        have f118 : pG2 (B117 37) (B117 38) := (pG2_cg (s117.2.2 37 (by decide)) (s117.2.2 38 (by decide)) (pG2_cg (s114.2.2 37 (by decide)) (s114.2.2 38 (by decide)) (pG2_cg (s112.2.2 37 (by decide)) (s112.2.2 38 (by decide)) (pG2_cg (s110.2.2 37 (by decide)) (s110.2.2 38 (by decide)) (pG2_cg rfl rfl g106_P2)))))
        have g117_MF := p117
        refine lv_iload_n X.1 X.2.1 d_M_serve_68 rfl (lv_at hl 0 rfl) ?_
        exact m_reti hQQ X Y hr hlk ⟨S, z106, rfl, ⟨by omega, by omega, ⟨z107, ((s117.2.1 33 (by decide)).trans ((s114.2.1 33 (by decide)).trans ((s112.2.1 33 (by decide)).trans ((s110.2.1 33 (by decide)).trans ((s109.2.1 33 (by decide)).trans e107))))), by omega, by omega⟩, (pG1_cg (s117.2.1 39 (by decide)) (s117.2.1 40 (by decide)) f115), f118⟩⟩ d_M_serve_69
      · refine lv_iload_n X.1 X.2.1 d_M_serve_35 rfl (lv_at hl 0 rfl) ?_
        exact m_reti hQQ X Y hr hlk ⟨S, z106, rfl, ⟨by omega, by omega, ⟨z107, e107, by omega, by omega⟩, g106_P1, g106_P2⟩⟩ d_M_serve_36
    · refine lv_iconst (v := iI (-1)) X.1 X.2.1 d_M_serve_22 (by decide) ?_
      exact m_reti hQQ X Y hr hlk ⟨S, (-1), rfl, ⟨by omega, by omega, ⟨cn, ((w102.2 33 (by decide)).trans gcn), by omega, by omega⟩, (pG1_cg (w102.2 39 (by decide)) (w102.2 40 (by decide)) f_P1), (pG2_cg rfl rfl f_P2)⟩⟩ d_M_serve_23
set_option maxHeartbeats 4000000 in
set_option maxRecDepth 100000 in
theorem r_M_met (l : Launch) (D : mD) (E : mE) (h : Nat) (q : Nat → Nat) (sz : Nat) (I : Nat → Int32) (J : Nat → Int64) (B : Nat → Nat → Int32) (G : Nat → Nat → Int64) (a1 : Int) (l_a1 : (-2147483648) ≤ a1) (u_a1 : a1 ≤ 2147483647) (hT : rT I B) (f_P1 : pG1 I) (f_P2 : pG2 (B 37) (B 38)) : Met l y_M_met (k_M_met :: lw_tg) (mR 45 2045) (va_Pc [.ref h, .int (iI a1)] (mPre D E h q (I, J, B, G) sz)) (va_Qi (rPi [2, 8, 14, 18, 39, 40] [0, 5, 6, 7, 9, 10, 11, 12, 13, 15, 16, 17, 19, 20, 21, 22, 23, 34, 37, 38, 58, 121] I B (fun (z : Int) (u : mS) => (-2147483648) ≤ z ∧ z ≤ 2147483647 ∧ pG1 u.1 ∧ pG2 (u.2.2.1 37) (u.2.2.1 38))) (mPost D E h q (mA E h q sz)) (mA E h q sz)) 0 0 (mA E h q sz) := by
  refine m_enter (by decide) rfl (Nat.le_of_ble_eq_true rfl) (fun p e s m below meth c ls AV QQ H locs hQQ X Y hZ hA hr hlk hml hl => ?_)
  have Y : mH D E (mA E h q sz) s.heap h q I J B G H locs := Y
  have S : rS [2, 8, 14, 18, 39, 40] [0, 5, 6, 7, 9, 10, 11, 12, 13, 15, 16, 17, 19, 20, 21, 22, 23, 34, 37, 38, 58, 121] I B I B := rS_rf hT
  have hl : lv_has ls 4 [(0, .ref h), (1, .int (iI a1))] := hl
  refine lv_aload_n X.1 X.2.1 d_M_met_0 rfl (lv_at hl 0 rfl) ?_
  refine r_geti (k := 2) X Y S (by decide) lk_length (gf_length _ _ _) rfl rfl d_M_met_1 (fun z101 e101 l101 u101 => ?_)
  refine lv_istore_n (lv' := [(2, .int (iI z101)), (0, .ref h), (1, .int (iI a1))]) X.1 X.2.1 d_M_met_4 rfl hl (by decide) rfl (fun ls hl => ?_)
  refine lv_aload_n X.1 X.2.1 d_M_met_5 rfl (lv_at hl 1 rfl) ?_
  refine lv_iconst (v := iI 0) X.1 X.2.1 d_M_met_6 (by decide) ?_
  refine r_puti (k := 2) X Y S (by decide) lk_length rfl rfl (t_M_ok 2 (by decide)) rfl rfl (sf_length _ _ _ _) (Nat.le_of_ble_eq_true rfl) rfl (show (0 : Int) ≤ 0 by omega) (show 0 ≤ (4000 : Int) by omega) ⟨by omega, by omega⟩ (by decide) d_M_met_7 (fun I102 H locs Y S w102 => ?_)
  refine lv_aload_n X.1 X.2.1 d_M_met_10 rfl (lv_at hl 1 rfl) ?_
  refine lv_iload_n X.1 X.2.1 d_M_met_11 rfl (lv_at hl 2 rfl) ?_
  refine r_ni (m_run (As := [.int (iI a1)]) (rest := []) (n := 1) X Y hZ hA hml hl.1 (r_M_hasAgent l D E h q H.size I102 J B G a1 (by omega) (by omega) S.1) kl_M_hasAgent ks_M_hasAgent kx_M_hasAgent ki_M_hasAgent ini_M hd_M_hasAgent ⟨Nat.le_of_ble_eq_true rfl, Nat.le_of_ble_eq_true rfl⟩ rfl (Nat.le_of_ble_eq_true rfl) d_M_met_12 ⟨Nat.le_refl _, Nat.le_refl _⟩) X Y hA S (by decide) (by decide) (fun z103 u H locs Y S s103 p103 => ?_)
  obtain ⟨I103, J103, B103, G103⟩ := u
  dsimp only at Y S s103 p103
  have i103 : I102 = I103 := (funext (fun j => s103.2.1 j (by simp))).symm
  subst i103
  have b103 : B = B103 := (funext (fun j => s103.2.2 j (by simp))).symm
  subst b103
  obtain ⟨l103, u103, x103⟩ := p103
  refine z_if_ne (tgt := 20) X.1 X.2.1 d_M_met_15 (by decide) ⟨by omega, by omega⟩ (fun h104 => ?_) (fun h104 => ?_)
  · refine lv_aload_n X.1 X.2.1 d_M_met_20 rfl (lv_at hl 1 rfl) ?_
    refine m_get X Y 121 (by decide) lk_wantsMet (gf_wantsMet _ _ _) rfl d_M_met_21 ?_
    refine lv_iload_n X.1 X.2.1 d_M_met_24 rfl (lv_at hl 2 rfl) ?_
    refine r_zald X Y S (aw_wantsMet _ _ _ _ _ _ _) rfl (by omega) (show a1 < ((4 : Nat) : Int) by omega) (by omega) d_M_met_25 (fun z105 q105 l105 u105 => ?_)
    refine z_if_ne (tgt := 32) X.1 X.2.1 d_M_met_26 (by decide) ⟨by omega, by omega⟩ (fun h106 => ?_) (fun h106 => ?_)
    · refine lv_aload_n X.1 X.2.1 d_M_met_32 rfl (lv_at hl 1 rfl) ?_
      refine m_get X Y 121 (by decide) lk_wantsMet (gf_wantsMet _ _ _) rfl d_M_met_33 ?_
      refine lv_iload_n X.1 X.2.1 d_M_met_36 rfl (lv_at hl 2 rfl) ?_
      refine lv_iconst (v := iI 0) X.1 X.2.1 d_M_met_37 (by decide) ?_
      refine r_zast X Y S (aw_wantsMet _ _ _ _ _ _ _) (sw_wantsMet _ _ _ _ _ _ _) rfl ⟨by omega, by omega⟩ (by omega) (show a1 < ((4 : Nat) : Int) by omega) (by omega) (by decide) d_M_met_38 (fun B107 H locs Y S w107 => ?_)
      refine lv_aload_n X.1 X.2.1 d_M_met_39 rfl (lv_at hl 1 rfl) ?_
      refine lv_bipush (v := iI 15) X.1 X.2.1 d_M_met_40 (by decide) ?_
      refine m_ldcSW (i := 20) X (by decide) (by decide) d_M_met_42 ?_
      refine lv_iconst (v := iI 0) X.1 X.2.1 d_M_met_45 (by decide) ?_
      refine lv_iload_n X.1 X.2.1 d_M_met_46 rfl (lv_at hl 0 rfl) ?_
      refine lv_iconst (v := iI 0) X.1 X.2.1 d_M_met_47 (by decide) ?_
      refine r_ni (m_run (As := [.int (iI 15), .ref ((D.2.1 20)), .int (iI 0), .int (iI z101), .int (iI 0)]) (rest := []) (n := 5) X Y hZ hA hml hl.1 (r_M_applied_t l D E h q H.size I102 J103 B107 G103 15 (by decide) (by decide) 20 (show 20 < nZ by decide) 0 (by decide) (by decide) z101 (by omega) (by omega) 0 (by decide) (by decide) S.1 5 (B107 0) rfl (isF (B107 0) 5) (by decide) (hisU (show rki 20 ≤ 5 by decide)) (pG1_cg rfl rfl (pG1_cg rfl rfl (pG1_cg (w102.2 39 (by decide)) (w102.2 40 (by decide)) f_P1))) (pG2_cg (w107.2 37 (by decide)) (w107.2 38 (by decide)) (pG2_cg rfl rfl (pG2_cg rfl rfl f_P2))) (by omega) (by omega)) kl_M_applied ks_M_applied kx_M_applied ki_M_applied ini_M hd_M_applied ⟨Nat.le_of_ble_eq_true rfl, Nat.le_of_ble_eq_true rfl⟩ rfl (Nat.le_of_ble_eq_true rfl) d_M_met_48 ⟨Nat.le_refl _, Nat.le_refl _⟩) X Y hA S (by decide) (by decide) (fun z108 u H locs Y S s108 p108 => ?_)
      obtain ⟨I108, J108, B108, G108⟩ := u
      dsimp only at Y S s108 p108
      obtain ⟨l108, u108, x108, st108, g108_P1, g108_P2⟩ := p108
      have g108_TF : thF [0] (B107 37) (B107 38) (B108 37) (B108 38) := thF_of st108.1
      refine z_if_ne (tgt := 57) X.1 X.2.1 d_M_met_51 (by decide) ⟨by omega, by omega⟩ (fun h109 => ?_) (fun h109 => ?_)
      · refine lv_aload_n X.1 X.2.1 d_M_met_57 rfl (lv_at hl 1 rfl) ?_
        refine lv_iconst (v := iI 0) X.1 X.2.1 d_M_met_58 (by decide) ?_
        refine lv_iconst (v := iI 0) X.1 X.2.1 d_M_met_59 (by decide) ?_
        refine r_nl (m_run (As := [.int (iI 0), .int (iI 0)]) (rest := []) (n := 2) X Y hZ hA hml hl.1 (r_M_numberAt l D E h q H.size I108 J108 B108 G108 0 (by decide) (by decide) 0 (by decide) (by decide) S.1 g108_P1 g108_P2) kl_M_numberAt ks_M_numberAt kx_M_numberAt ki_M_numberAt ini_M hd_M_numberAt ⟨Nat.le_of_ble_eq_true rfl, Nat.le_of_ble_eq_true rfl⟩ rfl (Nat.le_of_ble_eq_true rfl) d_M_met_60 ⟨Nat.le_refl _, Nat.le_refl _⟩) X Y hA S (by decide) (by decide) (fun v110 u H locs Y S s110 p110 => ?_)
        obtain ⟨I110, J110, B110, G110⟩ := u
        dsimp only at Y S s110 p110
        have b110 : B108 = B110 := (funext (fun j => s110.2.2 j (by simp))).symm
        subst b110
        have g110_P1 := p110
        refine lv_ldc2 (v := (5)) X.1 X.2.1 X.2.2.2.1 (X.2.2.1 _ cl_M_669) d_M_met_63 ?_
        refine W.lcmp X.1 X.2.1 d_M_met_66 ?_
        refine t_u (fun z111 l111 u111 => ?_)
        refine z_if_eq (tgt := 73) X.1 X.2.1 d_M_met_67 (by decide) ⟨by omega, by omega⟩ (fun h112 => ?_) (fun h112 => ?_)
        · refine lv_aload_n X.1 X.2.1 d_M_met_73 rfl (lv_at hl 1 rfl) ?_
          refine lv_iconst (v := iI 0) X.1 X.2.1 d_M_met_74 (by decide) ?_
          refine lv_iconst (v := iI 1) X.1 X.2.1 d_M_met_75 (by decide) ?_
          refine r_nl (m_run (As := [.int (iI 0), .int (iI 1)]) (rest := []) (n := 2) X Y hZ hA hml hl.1 (r_M_numberAt l D E h q H.size I110 J110 B108 G110 0 (by decide) (by decide) 1 (by decide) (by decide) S.1 g110_P1 (pG2_cg rfl rfl g108_P2)) kl_M_numberAt ks_M_numberAt kx_M_numberAt ki_M_numberAt ini_M hd_M_numberAt ⟨Nat.le_of_ble_eq_true rfl, Nat.le_of_ble_eq_true rfl⟩ rfl (Nat.le_of_ble_eq_true rfl) d_M_met_76 ⟨Nat.le_refl _, Nat.le_refl _⟩) X Y hA S (by decide) (by decide) (fun v113 u H locs Y S s113 p113 => ?_)
          obtain ⟨I113, J113, B113, G113⟩ := u
          dsimp only at Y S s113 p113
          have b113 : B108 = B113 := (funext (fun j => s113.2.2 j (by simp))).symm
          subst b113
          have g113_P1 := p113
          refine lv_ldc2 (v := (15)) X.1 X.2.1 X.2.2.2.1 (X.2.2.1 _ cl_M_981) d_M_met_79 ?_
          refine W.lcmp X.1 X.2.1 d_M_met_82 ?_
          refine t_u (fun z114 l114 u114 => ?_)
          refine z_if_eq (tgt := 89) X.1 X.2.1 d_M_met_83 (by decide) ⟨by omega, by omega⟩ (fun h115 => ?_) (fun h115 => ?_)
          · refine lv_iconst (v := iI 0) X.1 X.2.1 d_M_met_89 (by decide) ?_
            have J120 : ∀ (n122 : Nat) (z117 : Int) (I116 : Nat → Int32) (J116 : Nat → Int64) (B116 : Nat → Nat → Int32) (G116 : Nat → Nat → Int64) (H : Heap) (locs : List Loc) (ls : Array Slot), (32 - z117).toNat = n122 → (0 ≤ z117) → (z117 ≤ 32) → (pG1 I116) → (pG2 (B116 37) (B116 38)) → mH D E (mA E h q sz) s.heap h q I116 J116 B116 G116 H locs → rS [2, 8, 14, 18, 39, 40] [0, 5, 6, 7, 9, 10, 11, 12, 13, 15, 16, 17, 19, 20, 21, 22, 23, 34, 37, 38, 58, 121] I B I116 B116 → lv_has ls 4 [(0, .ref h), (1, .int (iI a1)), (3, .int (iI z117))] → W p l e (mR 45 2045) s m AV below meth c H locs 0 0 QQ (F0 m 91 ls []) := by
              intro n122
              induction n122 using Nat.strongRecOn with
              | ind n122 ih121 =>
                intro z117 I116 J116 B116 G116 H locs ls hm123 l117 u117 f118 f119 Y S hl
                refine lv_iload_n X.1 X.2.1 d_M_met_91 rfl (lv_at hl 2 rfl) ?_
                refine lv_bipush (v := iI 32) X.1 X.2.1 d_M_met_92 (by decide) ?_
                refine z_icmp_ge (tgt := 120) X.1 X.2.1 d_M_met_94 (by decide) ⟨by omega, by omega⟩ ⟨by decide, by decide⟩ (fun h124 => ?_) (fun h124 => ?_)
                · refine lv_aload_n X.1 X.2.1 d_M_met_120 rfl (lv_at hl 0 rfl) ?_
                  refine m_ldcSW (i := 5) X (by decide) (by decide) d_M_met_121 ?_
                  refine lv_aload_n X.1 X.2.1 d_M_met_124 rfl (lv_at hl 0 rfl) ?_
                  refine lv_iconst (v := iI 0) X.1 X.2.1 d_M_met_125 (by decide) ?_
                  refine lv_iconst (v := iI 2) X.1 X.2.1 d_M_met_126 (by decide) ?_
                  refine r_ni (m_run (As := [.int (iI 0), .int (iI 2)]) (rest := [.ref ((D.2.1 5)), .ref h]) (n := 2) X Y hZ hA hml hl.1 (r_M_a l D E h q H.size I116 J116 B116 G116 0 (by decide) (by decide) 2 (by decide) (by decide) S.1) kl_M_a ks_M_a kx_M_a ki_M_a ini_M hd_M_a ⟨Nat.le_of_ble_eq_true rfl, Nat.le_of_ble_eq_true rfl⟩ rfl (Nat.le_of_ble_eq_true rfl) d_M_met_127 ⟨Nat.le_refl _, Nat.le_refl _⟩) X Y hA S (by decide) (by decide) (fun z125 u H locs Y S s125 p125 => ?_)
                  obtain ⟨I125, J125, B125, G125⟩ := u
                  dsimp only at Y S s125 p125
                  have i125 : I116 = I125 := (funext (fun j => s125.2.1 j (by simp))).symm
                  subst i125
                  have b125 : B116 = B125 := (funext (fun j => s125.2.2 j (by simp))).symm
                  subst b125
                  obtain ⟨l125, u125, x125⟩ := p125
                  refine lv_aload_n X.1 X.2.1 d_M_met_130 rfl (lv_at hl 0 rfl) ?_
                  refine lv_iconst (v := iI 0) X.1 X.2.1 d_M_met_131 (by decide) ?_
                  refine lv_iconst (v := iI 2) X.1 X.2.1 d_M_met_132 (by decide) ?_
                  refine r_ni (m_run (As := [.int (iI 0), .int (iI 2)]) (rest := [.int (iI z125), .ref ((D.2.1 5)), .ref h]) (n := 2) X Y hZ hA hml hl.1 (r_M_b l D E h q H.size I116 J125 B116 G125 0 (by decide) (by decide) 2 (by decide) (by decide) S.1) kl_M_b ks_M_b kx_M_b ki_M_b ini_M hd_M_b ⟨Nat.le_of_ble_eq_true rfl, Nat.le_of_ble_eq_true rfl⟩ rfl (Nat.le_of_ble_eq_true rfl) d_M_met_133 ⟨Nat.le_refl _, Nat.le_refl _⟩) X Y hA S (by decide) (by decide) (fun z126 u H locs Y S s126 p126 => ?_)
                  obtain ⟨I126, J126, B126, G126⟩ := u
                  dsimp only at Y S s126 p126
                  have i126 : I116 = I126 := (funext (fun j => s126.2.1 j (by simp))).symm
                  subst i126
                  have b126 : B116 = B126 := (funext (fun j => s126.2.2 j (by simp))).symm
                  subst b126
                  obtain ⟨l126, u126, x126⟩ := p126
                  have p127 : pr z125 z126 := by rw [x125, x126]; exact (pG2_cg rfl rfl (pG2_cg rfl rfl f119)) (16 * 0 + 2 : Int).toNat (by omega)
                  unfold pr at p127
                  refine lv_bipush (v := iI 6) X.1 X.2.1 d_M_met_136 (by decide) ?_
                  refine r_ni (m_run (As := [.ref ((D.2.1 5)), .int (iI z125), .int (iI z126), .int (iI 6)]) (rest := []) (n := 4) X Y hZ hA hml hl.1 (r_M_sequence_t l D E h q H.size I116 J126 B116 G126 5 (show 5 < nZ by decide) z125 (by omega) (by omega) z126 (by omega) (by omega) 6 (by decide) (by decide) S.1 5 (B116 0) rfl (isF (B116 0) 5) (by decide) (hisU (show rki 5 ≤ 5 by decide)) (pG1_cg rfl rfl (pG1_cg rfl rfl f118)) (pG2_cg rfl rfl (pG2_cg rfl rfl f119)) (by omega) (by omega)) kl_M_sequence ks_M_sequence kx_M_sequence ki_M_sequence ini_M hd_M_sequence ⟨Nat.le_of_ble_eq_true rfl, Nat.le_of_ble_eq_true rfl⟩ rfl (Nat.le_of_ble_eq_true rfl) d_M_met_138 ⟨Nat.le_refl _, Nat.le_refl _⟩) X Y hA S (by decide) (by decide) (fun z128 u H locs Y S s128 p128 => ?_)
                  obtain ⟨I128, J128, B128, G128⟩ := u
                  dsimp only at Y S s128 p128
                  obtain ⟨l128, u128, x128, st128, g128_P1, g128_P2⟩ := p128
                  have g128_TF : thF [6] (B116 37) (B116 38) (B128 37) (B128 38) := thF_of st128.1
                  refine lv_pop X.1 X.2.1 d_M_met_141 rfl ?_
                  refine lv_aload_n X.1 X.2.1 d_M_met_142 rfl (lv_at hl 0 rfl) ?_
                  refine lv_bipush (v := iI 6) X.1 X.2.1 d_M_met_143 (by decide) ?_
                  refine lv_iconst (v := iI 0) X.1 X.2.1 d_M_met_145 (by decide) ?_
                  refine r_nl (m_run (As := [.int (iI 6), .int (iI 0)]) (rest := []) (n := 2) X Y hZ hA hml hl.1 (r_M_numberAt l D E h q H.size I128 J128 B128 G128 6 (by decide) (by decide) 0 (by decide) (by decide) S.1 g128_P1 g128_P2) kl_M_numberAt ks_M_numberAt kx_M_numberAt ki_M_numberAt ini_M hd_M_numberAt ⟨Nat.le_of_ble_eq_true rfl, Nat.le_of_ble_eq_true rfl⟩ rfl (Nat.le_of_ble_eq_true rfl) d_M_met_146 ⟨Nat.le_refl _, Nat.le_refl _⟩) X Y hA S (by decide) (by decide) (fun v129 u H locs Y S s129 p129 => ?_)
                  obtain ⟨I129, J129, B129, G129⟩ := u
                  dsimp only at Y S s129 p129
                  have b129 : B128 = B129 := (funext (fun j => s129.2.2 j (by simp))).symm
                  subst b129
                  have g129_P1 := p129
                  refine lv_aload_n X.1 X.2.1 d_M_met_149 rfl (lv_at hl 0 rfl) ?_
                  refine m_get X Y 122 (by decide) lk_apType (gf_apType _ _ _) rfl d_M_met_150 ?_
                  refine lv_iload_n X.1 X.2.1 d_M_met_153 rfl (lv_at hl 1 rfl) ?_
                  refine r_iald X Y S (aw_apType _ _ _ _ _ _ _) rfl (by omega) (show a1 < ((4 : Nat) : Int) by omega) (by omega) d_M_met_154 (fun z130 q130 l130 u130 => ?_)
                  refine lv_i2l X.1 X.2.1 d_M_met_155 rfl ?_
                  refine t_anyl (fun v131 => ?_)
                  refine W.lcmp X.1 X.2.1 d_M_met_156 ?_
                  refine t_u (fun z132 l132 u132 => ?_)
                  refine z_if_eq (tgt := 163) X.1 X.2.1 d_M_met_157 (by decide) ⟨by omega, by omega⟩ (fun h133 => ?_) (fun h133 => ?_)
                  · refine lv_aload_n X.1 X.2.1 d_M_met_163 rfl (lv_at hl 0 rfl) ?_
                    refine lv_aload_n X.1 X.2.1 d_M_met_164 rfl (lv_at hl 0 rfl) ?_
                    refine lv_bipush (v := iI 6) X.1 X.2.1 d_M_met_165 (by decide) ?_
                    refine lv_iconst (v := iI 2) X.1 X.2.1 d_M_met_167 (by decide) ?_
                    refine r_ni (m_run (As := [.int (iI 6), .int (iI 2)]) (rest := [.ref h]) (n := 2) X Y hZ hA hml hl.1 (r_M_a l D E h q H.size I129 J129 B128 G129 6 (by decide) (by decide) 2 (by decide) (by decide) S.1) kl_M_a ks_M_a kx_M_a ki_M_a ini_M hd_M_a ⟨Nat.le_of_ble_eq_true rfl, Nat.le_of_ble_eq_true rfl⟩ rfl (Nat.le_of_ble_eq_true rfl) d_M_met_168 ⟨Nat.le_refl _, Nat.le_refl _⟩) X Y hA S (by decide) (by decide) (fun z134 u H locs Y S s134 p134 => ?_)
                    obtain ⟨I134, J134, B134, G134⟩ := u
                    dsimp only at Y S s134 p134
                    have i134 : I129 = I134 := (funext (fun j => s134.2.1 j (by simp))).symm
                    subst i134
                    have b134 : B128 = B134 := (funext (fun j => s134.2.2 j (by simp))).symm
                    subst b134
                    obtain ⟨l134, u134, x134⟩ := p134
                    refine lv_aload_n X.1 X.2.1 d_M_met_171 rfl (lv_at hl 0 rfl) ?_
                    refine lv_bipush (v := iI 6) X.1 X.2.1 d_M_met_172 (by decide) ?_
                    refine lv_iconst (v := iI 2) X.1 X.2.1 d_M_met_174 (by decide) ?_
                    refine r_ni (m_run (As := [.int (iI 6), .int (iI 2)]) (rest := [.int (iI z134), .ref h]) (n := 2) X Y hZ hA hml hl.1 (r_M_b l D E h q H.size I129 J134 B128 G134 6 (by decide) (by decide) 2 (by decide) (by decide) S.1) kl_M_b ks_M_b kx_M_b ki_M_b ini_M hd_M_b ⟨Nat.le_of_ble_eq_true rfl, Nat.le_of_ble_eq_true rfl⟩ rfl (Nat.le_of_ble_eq_true rfl) d_M_met_175 ⟨Nat.le_refl _, Nat.le_refl _⟩) X Y hA S (by decide) (by decide) (fun z135 u H locs Y S s135 p135 => ?_)
                    obtain ⟨I135, J135, B135, G135⟩ := u
                    dsimp only at Y S s135 p135
                    have i135 : I129 = I135 := (funext (fun j => s135.2.1 j (by simp))).symm
                    subst i135
                    have b135 : B128 = B135 := (funext (fun j => s135.2.2 j (by simp))).symm
                    subst b135
                    obtain ⟨l135, u135, x135⟩ := p135
                    have p136 : pr z134 z135 := by rw [x134, x135]; exact (pG2_cg rfl rfl (pG2_cg rfl rfl (pG2_cg rfl rfl g128_P2))) (16 * 6 + 2 : Int).toNat (by omega)
                    unfold pr at p136
                    refine lv_iconst (v := iI 4) X.1 X.2.1 d_M_met_178 (by decide) ?_
                    refine r_ni (m_run (As := [.int (iI z134), .int (iI z135), .int (iI 4)]) (rest := []) (n := 3) X Y hZ hA hml hl.1 (r_M_element l D E h q H.size I129 J135 B128 G135 z134 (by omega) (by omega) z135 (by omega) (by omega) 4 (by decide) (by decide) S.1 (B128 0) rfl (pG1_cg rfl rfl (pG1_cg rfl rfl g129_P1)) (by omega) (by omega)) kl_M_element ks_M_element kx_M_element ki_M_element ini_M hd_M_element ⟨Nat.le_of_ble_eq_true rfl, Nat.le_of_ble_eq_true rfl⟩ rfl (Nat.le_of_ble_eq_true rfl) d_M_met_179 ⟨Nat.le_refl _, Nat.le_refl _⟩) X Y hA S (by decide) (by decide) (fun z137 u H locs Y S s137 p137 => ?_)
                    obtain ⟨I137, J137, B137, G137⟩ := u
                    dsimp only at Y S s137 p137
                    have b137 : B128 = B137 := (funext (fun j => s137.2.2 j (by simp))).symm
                    subst b137
                    obtain ⟨l137, u137, x137, st137⟩ := p137
                    obtain ⟨x138, y138, ex138, ey138, lx138, ly138, uy138, dy138, iy138, ky138⟩ := st137
                    refine lv_pop X.1 X.2.1 d_M_met_182 rfl ?_
                    refine lv_aload_n X.1 X.2.1 d_M_met_183 rfl (lv_at hl 0 rfl) ?_
                    refine lv_aload_n X.1 X.2.1 d_M_met_184 rfl (lv_at hl 0 rfl) ?_
                    refine m_get X Y 58 (by decide) lk_key (gf_key _ _ _) rfl d_M_met_185 ?_
                    refine lv_aload_n X.1 X.2.1 d_M_met_188 rfl (lv_at hl 0 rfl) ?_
                    refine m_get X Y 122 (by decide) lk_apType (gf_apType _ _ _) rfl d_M_met_189 ?_
                    refine lv_iload_n X.1 X.2.1 d_M_met_192 rfl (lv_at hl 1 rfl) ?_
                    refine r_iald X Y S (aw_apType _ _ _ _ _ _ _) rfl (by omega) (show a1 < ((4 : Nat) : Int) by omega) (by omega) d_M_met_193 (fun z139 q139 l139 u139 => ?_)
                    refine lv_bipush (v := iI 12) X.1 X.2.1 d_M_met_194 (by decide) ?_
                    refine lv_aload_n X.1 X.2.1 d_M_met_196 rfl (lv_at hl 0 rfl) ?_
                    refine r_get0 X Y (by decide) lk_inside (gf_inside _ _ _) rfl ex138 d_M_met_197 ?_
                    refine lv_aload_n X.1 X.2.1 d_M_met_200 rfl (lv_at hl 0 rfl) ?_
                    refine r_get0 X Y (by decide) lk_behind (gf_behind _ _ _) rfl ey138 d_M_met_201 ?_
                    refine lv_sipush (v := iI 4200) X.1 X.2.1 d_M_met_204 (by decide) ?_
                    refine r_ni (m_run (As := [.ref ((q 58)), .int (iI z139), .int (iI 12), .int (iI x138), .int (iI y138), .int (iI 4200)]) (rest := []) (n := 6) X Y hZ hA hml hl.1 (r_M_open_key l D E h q H.size I137 J137 B128 G137 z139 (by omega) (by omega) 12 (by decide) (by decide) x138 (by omega) (by omega) y138 (by omega) (by omega) 4200 (by decide) (by decide) S.1 (by omega) (by omega)) kl_M_open ks_M_open kx_M_open ki_M_open ini_M hd_M_open ⟨Nat.le_of_ble_eq_true rfl, Nat.le_of_ble_eq_true rfl⟩ rfl (Nat.le_of_ble_eq_true rfl) d_M_met_207 ⟨Nat.le_refl _, Nat.le_refl _⟩) X Y hA S (by decide) (by decide) (fun z140 u H locs Y S s140 p140 => ?_)
                    obtain ⟨I140, J140, B140, G140⟩ := u
                    dsimp only at Y S s140 p140
                    obtain ⟨l140, u140, x140, g140_MF⟩ := p140
                    refine lv_istore_n (lv' := [(3, .int (iI z140)), (0, .ref h), (1, .int (iI a1))]) X.1 X.2.1 d_M_met_210 rfl hl (by decide) rfl (fun ls hl => ?_)
                    refine lv_iload_n X.1 X.2.1 d_M_met_211 rfl (lv_at hl 0 rfl) ?_
                    refine z_if_ge (tgt := 218) X.1 X.2.1 d_M_met_212 (by decide) ⟨by omega, by omega⟩ (fun h141 => ?_) (fun h141 => ?_)
                    · refine lv_aload_n X.1 X.2.1 d_M_met_218 rfl (lv_at hl 1 rfl) ?_
                      refine lv_bipush (v := iI 27) X.1 X.2.1 d_M_met_219 (by decide) ?_
                      refine m_ldcSW (i := 21) X (by decide) (by decide) d_M_met_221 ?_
                      refine lv_sipush (v := iI 4200) X.1 X.2.1 d_M_met_224 (by decide) ?_
                      refine lv_sipush (v := iI 4200) X.1 X.2.1 d_M_met_227 (by decide) ?_
                      refine lv_iload_n X.1 X.2.1 d_M_met_230 rfl (lv_at hl 0 rfl) ?_
                      refine z_iadd X.1 X.2.1 d_M_met_231 ?_
                      refine lv_iconst (v := iI 4) X.1 X.2.1 d_M_met_232 (by decide) ?_
                      refine r_ni (m_run (As := [.int (iI 27), .ref ((D.2.1 21)), .int (iI 4200), .int (iI (4200 + z140)), .int (iI 4)]) (rest := []) (n := 5) X Y hZ hA hml hl.1 (r_M_applied_t l D E h q H.size I140 J140 B140 G140 27 (by decide) (by decide) 21 (show 21 < nZ by decide) 4200 (by decide) (by decide) (4200 + z140) (by omega) (by omega) 4 (by decide) (by decide) S.1 5 (B140 0) rfl (isF (B140 0) 5) (by decide) (hisU (show rki 21 ≤ 5 by decide)) (pG1_cg (s140.2.1 39 (by decide)) (s140.2.1 40 (by decide)) (show pG1 I137 from ⟨x138, y138, ex138, ey138, by omega, by omega, by omega, by omega⟩)) (pG2_cg (s140.2.2 37 (by decide)) (s140.2.2 38 (by decide)) (pG2_cg rfl rfl (pG2_cg rfl rfl (pG2_cg rfl rfl (pG2_cg rfl rfl g128_P2))))) (by omega) (by omega)) kl_M_applied ks_M_applied kx_M_applied ki_M_applied ini_M hd_M_applied ⟨Nat.le_of_ble_eq_true rfl, Nat.le_of_ble_eq_true rfl⟩ rfl (Nat.le_of_ble_eq_true rfl) d_M_met_233 ⟨Nat.le_refl _, Nat.le_refl _⟩) X Y hA S (by decide) (by decide) (fun z142 u H locs Y S s142 p142 => ?_)
                      obtain ⟨I142, J142, B142, G142⟩ := u
                      dsimp only at Y S s142 p142
                      obtain ⟨l142, u142, x142, st142, g142_P1, g142_P2⟩ := p142
                      have g142_TF : thF [4] (B140 37) (B140 38) (B142 37) (B142 38) := thF_of st142.1
                      refine z_if_ne (tgt := 242) X.1 X.2.1 d_M_met_236 (by decide) ⟨by omega, by omega⟩ (fun h143 => ?_) (fun h143 => ?_)
                      · refine lv_aload_n X.1 X.2.1 d_M_met_242 rfl (lv_at hl 1 rfl) ?_
                        refine lv_iconst (v := iI 4) X.1 X.2.1 d_M_met_243 (by decide) ?_
                        refine lv_iconst (v := iI 0) X.1 X.2.1 d_M_met_244 (by decide) ?_
                        refine r_nl (m_run (As := [.int (iI 4), .int (iI 0)]) (rest := []) (n := 2) X Y hZ hA hml hl.1 (r_M_timeOf l D E h q H.size I142 J142 B142 G142 4 (by decide) (by decide) 0 (by decide) (by decide) S.1 g142_P1 g142_P2) kl_M_timeOf ks_M_timeOf kx_M_timeOf ki_M_timeOf ini_M hd_M_timeOf ⟨Nat.le_of_ble_eq_true rfl, Nat.le_of_ble_eq_true rfl⟩ rfl (Nat.le_of_ble_eq_true rfl) d_M_met_245 ⟨Nat.le_refl _, Nat.le_refl _⟩) X Y hA S (by decide) (by decide) (fun v144 u H locs Y S s144 p144 => ?_)
                        obtain ⟨I144, J144, B144, G144⟩ := u
                        dsimp only at Y S s144 p144
                        have b144 : B142 = B144 := (funext (fun j => s144.2.2 j (by simp))).symm
                        subst b144
                        have g144_P1 := p144
                        refine lv_aload_n X.1 X.2.1 d_M_met_248 rfl (lv_at hl 1 rfl) ?_
                        refine m_get X Y 128 (by decide) lk_apTime (gf_apTime _ _ _) rfl d_M_met_249 ?_
                        refine lv_iload_n X.1 X.2.1 d_M_met_252 rfl (lv_at hl 2 rfl) ?_
                        refine r_lald X Y (aw_apTime _ _ _ _ _ _ _) (by omega) (show a1 < ((4 : Nat) : Int) by omega) (by omega) d_M_met_253 (fun v145 => ?_)
                        refine W.lcmp X.1 X.2.1 d_M_met_254 ?_
                        refine t_u (fun z146 l146 u146 => ?_)
                        refine z_if_ne (tgt := 275) X.1 X.2.1 d_M_met_255 (by decide) ⟨by omega, by omega⟩ (fun h147 => ?_) (fun h147 => ?_)
                        · refine lv_bipush (v := iI (-46)) X.1 X.2.1 d_M_met_275 (by decide) ?_
                          exact m_reti hQQ X Y hr hlk ⟨S, (-46), rfl, ⟨by omega, by omega, g144_P1, (pG2_cg rfl rfl g142_P2)⟩⟩ d_M_met_277
                        · refine lv_aload_n X.1 X.2.1 d_M_met_258 rfl (lv_at hl 1 rfl) ?_
                          refine lv_iconst (v := iI 4) X.1 X.2.1 d_M_met_259 (by decide) ?_
                          refine lv_iconst (v := iI 1) X.1 X.2.1 d_M_met_260 (by decide) ?_
                          refine r_nl (m_run (As := [.int (iI 4), .int (iI 1)]) (rest := []) (n := 2) X Y hZ hA hml hl.1 (r_M_numberAt l D E h q H.size I144 J144 B142 G144 4 (by decide) (by decide) 1 (by decide) (by decide) S.1 g144_P1 (pG2_cg rfl rfl g142_P2)) kl_M_numberAt ks_M_numberAt kx_M_numberAt ki_M_numberAt ini_M hd_M_numberAt ⟨Nat.le_of_ble_eq_true rfl, Nat.le_of_ble_eq_true rfl⟩ rfl (Nat.le_of_ble_eq_true rfl) d_M_met_261 ⟨Nat.le_refl _, Nat.le_refl _⟩) X Y hA S (by decide) (by decide) (fun v148 u H locs Y S s148 p148 => ?_)
                          obtain ⟨I148, J148, B148, G148⟩ := u
                          dsimp only at Y S s148 p148
                          have b148 : B142 = B148 := (funext (fun j => s148.2.2 j (by simp))).symm
                          subst b148
                          have g148_P1 := p148
                          refine lv_aload_n X.1 X.2.1 d_M_met_264 rfl (lv_at hl 1 rfl) ?_
                          refine m_get X Y 124 (by decide) lk_apMicros (gf_apMicros _ _ _) rfl d_M_met_265 ?_
                          refine lv_iload_n X.1 X.2.1 d_M_met_268 rfl (lv_at hl 2 rfl) ?_
                          refine r_iald X Y S (aw_apMicros _ _ _ _ _ _ _) rfl (by omega) (show a1 < ((4 : Nat) : Int) by omega) (by omega) d_M_met_269 (fun z149 q149 l149 u149 => ?_)
                          refine lv_i2l X.1 X.2.1 d_M_met_270 rfl ?_
                          refine t_anyl (fun v150 => ?_)
                          refine W.lcmp X.1 X.2.1 d_M_met_271 ?_
                          refine t_u (fun z151 l151 u151 => ?_)
                          refine z_if_eq (tgt := 278) X.1 X.2.1 d_M_met_272 (by decide) ⟨by omega, by omega⟩ (fun h152 => ?_) (fun h152 => ?_)
                          · refine lv_aload_n X.1 X.2.1 d_M_met_278 rfl (lv_at hl 1 rfl) ?_
                            refine m_get X Y 130 (by decide) lk_apOther (gf_apOther _ _ _) rfl d_M_met_279 ?_
                            refine lv_iload_n X.1 X.2.1 d_M_met_282 rfl (lv_at hl 2 rfl) ?_
                            refine lv_aload_n X.1 X.2.1 d_M_met_283 rfl (lv_at hl 1 rfl) ?_
                            refine lv_iconst (v := iI 4) X.1 X.2.1 d_M_met_284 (by decide) ?_
                            refine lv_iconst (v := iI 3) X.1 X.2.1 d_M_met_285 (by decide) ?_
                            refine r_ni (m_run (As := [.int (iI 4), .int (iI 3)]) (rest := [.int (iI a1), .ref ((q 130))]) (n := 2) X Y hZ hA hml hl.1 (r_M_has l D E h q H.size I148 J148 B142 G148 4 (by decide) (by decide) 3 (by decide) (by decide) S.1) kl_M_has ks_M_has kx_M_has ki_M_has ini_M hd_M_has ⟨Nat.le_of_ble_eq_true rfl, Nat.le_of_ble_eq_true rfl⟩ rfl (Nat.le_of_ble_eq_true rfl) d_M_met_286 ⟨Nat.le_refl _, Nat.le_refl _⟩) X Y hA S (by decide) (by decide) (fun z153 u H locs Y S s153 p153 => ?_)
                            obtain ⟨I153, J153, B153, G153⟩ := u
                            dsimp only at Y S s153 p153
                            have i153 : I148 = I153 := (funext (fun j => s153.2.1 j (by simp))).symm
                            subst i153
                            have b153 : B142 = B153 := (funext (fun j => s153.2.2 j (by simp))).symm
                            subst b153
                            obtain ⟨l153, u153, x153⟩ := p153
                            refine z_if_eq (tgt := 301) X.1 X.2.1 d_M_met_289 (by decide) ⟨by omega, by omega⟩ (fun h154 => ?_) (fun h154 => ?_)
                            · refine lv_lconst (v := 0) X.1 X.2.1 d_M_met_301 rfl ?_
                              refine r_last X Y (aw_apOther _ _ _ _ _ _ _) (sw_apOther _ _ _ _ _ _ _) (by omega) (show a1 < ((4 : Nat) : Int) by omega) (by omega) d_M_met_302 (fun G155 H locs Y => ?_)
                              refine lv_iconst (v := iI 0) X.1 X.2.1 d_M_met_303 (by decide) ?_
                              exact m_reti hQQ X Y hr hlk ⟨S, 0, rfl, ⟨by omega, by omega, (pG1_cg rfl rfl g148_P1), (pG2_cg rfl rfl (pG2_cg rfl rfl (pG2_cg rfl rfl g142_P2)))⟩⟩ d_M_met_304
                            · refine lv_aload_n X.1 X.2.1 d_M_met_292 rfl (lv_at hl 1 rfl) ?_
                              refine lv_iconst (v := iI 4) X.1 X.2.1 d_M_met_293 (by decide) ?_
                              refine lv_iconst (v := iI 3) X.1 X.2.1 d_M_met_294 (by decide) ?_
                              refine r_nl (m_run (As := [.int (iI 4), .int (iI 3)]) (rest := [.int (iI a1), .ref ((q 130))]) (n := 2) X Y hZ hA hml hl.1 (r_M_numberAt l D E h q H.size I148 J153 B142 G153 4 (by decide) (by decide) 3 (by decide) (by decide) S.1 (pG1_cg rfl rfl g148_P1) (pG2_cg rfl rfl (pG2_cg rfl rfl (pG2_cg rfl rfl g142_P2)))) kl_M_numberAt ks_M_numberAt kx_M_numberAt ki_M_numberAt ini_M hd_M_numberAt ⟨Nat.le_of_ble_eq_true rfl, Nat.le_of_ble_eq_true rfl⟩ rfl (Nat.le_of_ble_eq_true rfl) d_M_met_295 ⟨Nat.le_refl _, Nat.le_refl _⟩) X Y hA S (by decide) (by decide) (fun v156 u H locs Y S s156 p156 => ?_)
                              obtain ⟨I156, J156, B156, G156⟩ := u
                              dsimp only at Y S s156 p156
                              have b156 : B142 = B156 := (funext (fun j => s156.2.2 j (by simp))).symm
                              subst b156
                              have g156_P1 := p156
                              refine lv_goto (tgt := 302) X.1 X.2.1 d_M_met_298 (by decide) ?_
                              refine r_last X Y (aw_apOther _ _ _ _ _ _ _) (sw_apOther _ _ _ _ _ _ _) (by omega) (show a1 < ((4 : Nat) : Int) by omega) (by omega) d_M_met_302 (fun G157 H locs Y => ?_)
                              refine lv_iconst (v := iI 0) X.1 X.2.1 d_M_met_303 (by decide) ?_
                              exact m_reti hQQ X Y hr hlk ⟨S, 0, rfl, ⟨by omega, by omega, g156_P1, (pG2_cg rfl rfl (pG2_cg rfl rfl (pG2_cg rfl rfl (pG2_cg rfl rfl g142_P2))))⟩⟩ d_M_met_304
                          · refine lv_bipush (v := iI (-46)) X.1 X.2.1 d_M_met_275 (by decide) ?_
                            exact m_reti hQQ X Y hr hlk ⟨S, (-46), rfl, ⟨by omega, by omega, g148_P1, (pG2_cg rfl rfl (pG2_cg rfl rfl g142_P2))⟩⟩ d_M_met_277
                      · refine lv_bipush (v := iI (-60)) X.1 X.2.1 d_M_met_239 (by decide) ?_
                        exact m_reti hQQ X Y hr hlk ⟨S, (-60), rfl, ⟨by omega, by omega, g142_P1, g142_P2⟩⟩ d_M_met_241
                    · refine lv_bipush (v := iI (-31)) X.1 X.2.1 d_M_met_215 (by decide) ?_
                      exact m_reti hQQ X Y hr hlk ⟨S, (-31), rfl, ⟨by omega, by omega, (pG1_cg (s140.2.1 39 (by decide)) (s140.2.1 40 (by decide)) (show pG1 I137 from ⟨x138, y138, ex138, ey138, by omega, by omega, by omega, by omega⟩)), (pG2_cg (s140.2.2 37 (by decide)) (s140.2.2 38 (by decide)) (pG2_cg rfl rfl (pG2_cg rfl rfl (pG2_cg rfl rfl (pG2_cg rfl rfl g128_P2)))))⟩⟩ d_M_met_217
                  · refine lv_bipush (v := iI (-31)) X.1 X.2.1 d_M_met_160 (by decide) ?_
                    exact m_reti hQQ X Y hr hlk ⟨S, (-31), rfl, ⟨by omega, by omega, g129_P1, (pG2_cg rfl rfl g128_P2)⟩⟩ d_M_met_162
                · refine lv_aload_n X.1 X.2.1 d_M_met_97 rfl (lv_at hl 0 rfl) ?_
                  refine m_get X Y 58 (by decide) lk_key (gf_key _ _ _) rfl d_M_met_98 ?_
                  refine lv_iload_n X.1 X.2.1 d_M_met_101 rfl (lv_at hl 2 rfl) ?_
                  refine lv_aload_n X.1 X.2.1 d_M_met_102 rfl (lv_at hl 0 rfl) ?_
                  refine m_get X Y 126 (by decide) lk_apKeys (gf_apKeys _ _ _) rfl d_M_met_103 ?_
                  refine lv_bipush (v := iI 32) X.1 X.2.1 d_M_met_106 (by decide) ?_
                  refine lv_iload_n X.1 X.2.1 d_M_met_108 rfl (lv_at hl 1 rfl) ?_
                  refine z_imul X.1 X.2.1 d_M_met_109 ?_
                  refine lv_iload_n X.1 X.2.1 d_M_met_110 rfl (lv_at hl 2 rfl) ?_
                  refine z_iadd X.1 X.2.1 d_M_met_111 ?_
                  refine r_bald X Y S (aw_apKeys _ _ _ _ _ _ _) rfl (by omega) (show (32 * a1) + z117 < ((128 : Nat) : Int) by omega) (by omega) d_M_met_112 (fun z158 q158 l158 u158 => ?_)
                  refine r_bast X Y S (aw_key _ _ _ _ _ _ _) (sw_key _ _ _ _ _ _ _) rfl (by omega) (show z117 < ((32 : Nat) : Int) by omega) (by omega) (by decide) d_M_met_113 (fun B159 H locs Y S w159 => ?_)
                  refine lv_iinc (v := iI (z117 + 1)) (lv' := [(3, .int (iI (z117 + 1))), (0, .ref h), (1, .int (iI a1))]) X.1 X.2.1 d_M_met_114 hl (k := 2) rfl ((iI_add _ _).trans (congrArg iI (by omega))) (by decide) rfl (fun ls hl => ?_)
                  refine lv_goto (tgt := 91) X.1 X.2.1 d_M_met_117 (by decide) ?_
                  exact ih121 ((32 - (z117 + 1)).toNat) (by omega) (z117 + 1) I116 J116 B159 G116 _ _ _ rfl (by omega) (by omega) (pG1_cg rfl rfl f118) (pG2_cg (w159.2 37 (by decide)) (w159.2 38 (by decide)) f119) Y S (lv_sub hl [1, 2, 0] rfl)
            refine lv_istore_n (lv' := [(3, .int (iI 0)), (2, .int (iI z101)), (0, .ref h), (1, .int (iI a1))]) X.1 X.2.1 d_M_met_90 rfl hl (by decide) rfl (fun ls hl => ?_)
            exact J120 _ 0 I113 J113 B108 G113 _ _ _ rfl (by omega) (by omega) g113_P1 (pG2_cg rfl rfl (pG2_cg rfl rfl g108_P2)) Y S (lv_sub hl [2, 3, 0] rfl)
          · refine lv_bipush (v := iI (-40)) X.1 X.2.1 d_M_met_86 (by decide) ?_
            exact m_reti hQQ X Y hr hlk ⟨S, (-40), rfl, ⟨by omega, by omega, g113_P1, (pG2_cg rfl rfl (pG2_cg rfl rfl g108_P2))⟩⟩ d_M_met_88
        · refine lv_bipush (v := iI (-3)) X.1 X.2.1 d_M_met_70 (by decide) ?_
          exact m_reti hQQ X Y hr hlk ⟨S, (-3), rfl, ⟨by omega, by omega, g110_P1, (pG2_cg rfl rfl g108_P2)⟩⟩ d_M_met_72
      · refine lv_bipush (v := iI (-60)) X.1 X.2.1 d_M_met_54 (by decide) ?_
        exact m_reti hQQ X Y hr hlk ⟨S, (-60), rfl, ⟨by omega, by omega, g108_P1, g108_P2⟩⟩ d_M_met_56
    · refine lv_bipush (v := iI (-3)) X.1 X.2.1 d_M_met_29 (by decide) ?_
      exact m_reti hQQ X Y hr hlk ⟨S, (-3), rfl, ⟨by omega, by omega, (pG1_cg rfl rfl (pG1_cg (w102.2 39 (by decide)) (w102.2 40 (by decide)) f_P1)), (pG2_cg rfl rfl (pG2_cg rfl rfl f_P2))⟩⟩ d_M_met_31
  · refine lv_iconst (v := iI (-1)) X.1 X.2.1 d_M_met_18 (by decide) ?_
    exact m_reti hQQ X Y hr hlk ⟨S, (-1), rfl, ⟨by omega, by omega, (pG1_cg rfl rfl (pG1_cg (w102.2 39 (by decide)) (w102.2 40 (by decide)) f_P1)), (pG2_cg rfl rfl (pG2_cg rfl rfl f_P2))⟩⟩ d_M_met_19
set_option maxHeartbeats 4000000 in
set_option maxRecDepth 100000 in
theorem r_M_heard (l : Launch) (D : mD) (E : mE) (h : Nat) (q : Nat → Nat) (sz : Nat) (I : Nat → Int32) (J : Nat → Int64) (B : Nat → Nat → Int32) (G : Nat → Nat → Int64) (a1 : Int) (l_a1 : 0 ≤ a1) (u_a1 : a1 ≤ 7) (a2 : Int) (l_a2 : 0 ≤ a2) (u_a2 : a2 ≤ 1) (hT : rT I B) (f_P1 : pG1 I) (f_P2 : pG2 (B 37) (B 38)) (f_SA : sA a1 a2 (B 135)) : Met l y_M_heard (k_M_heard :: lw_tg) (mR 43 1992) (va_Pc [.ref h, .int (iI a1), .int (iI a2)] (mPre D E h q (I, J, B, G) sz)) (va_Qi (rPi [3, 39, 40] [1, 37, 38] I B (fun (z : Int) (u : mS) => (-2147483648) ≤ z ∧ z ≤ 2147483647 ∧ pG1 u.1 ∧ pG2 (u.2.2.1 37) (u.2.2.1 38))) (mPost D E h q (mA E h q sz)) (mA E h q sz)) 0 0 (mA E h q sz) := by
  refine m_enter (by decide) rfl (Nat.le_of_ble_eq_true rfl) (fun p e s m below meth c ls AV QQ H locs hQQ X Y hZ hA hr hlk hml hl => ?_)
  have Y : mH D E (mA E h q sz) s.heap h q I J B G H locs := Y
  have S : rS [3, 39, 40] [1, 37, 38] I B I B := rS_rf hT
  have hl : lv_has ls 4 [(0, .ref h), (1, .int (iI a1)), (2, .int (iI a2))] := hl
  refine lv_aload_n X.1 X.2.1 d_M_heard_0 rfl (lv_at hl 0 rfl) ?_
  refine lv_iconst (v := iI 4) X.1 X.2.1 d_M_heard_1 (by decide) ?_
  refine lv_iconst (v := iI 1) X.1 X.2.1 d_M_heard_2 (by decide) ?_
  refine r_ni (m_run (As := [.int (iI 4), .int (iI 1)]) (rest := []) (n := 2) X Y hZ hA hml hl.1 (r_M_has l D E h q H.size I J B G 4 (by decide) (by decide) 1 (by decide) (by decide) S.1) kl_M_has ks_M_has kx_M_has ki_M_has ini_M hd_M_has ⟨Nat.le_of_ble_eq_true rfl, Nat.le_of_ble_eq_true rfl⟩ rfl (Nat.le_of_ble_eq_true rfl) d_M_heard_3 ⟨Nat.le_refl _, Nat.le_refl _⟩) X Y hA S (by decide) (by decide) (fun z101 u H locs Y S s101 p101 => ?_)
  obtain ⟨I101, J101, B101, G101⟩ := u
  dsimp only at Y S s101 p101
  have i101 : I = I101 := (funext (fun j => s101.2.1 j (by simp))).symm
  subst i101
  have b101 : B = B101 := (funext (fun j => s101.2.2 j (by simp))).symm
  subst b101
  obtain ⟨l101, u101, x101⟩ := p101
  refine z_if_eq (tgt := 28) X.1 X.2.1 d_M_heard_6 (by decide) ⟨by omega, by omega⟩ (fun h102 => ?_) (fun h102 => ?_)
  · refine lv_bipush (v := iI (-37)) X.1 X.2.1 d_M_heard_28 (by decide) ?_
    exact m_reti hQQ X Y hr hlk ⟨S, (-37), rfl, ⟨by omega, by omega, (pG1_cg rfl rfl f_P1), (pG2_cg rfl rfl f_P2)⟩⟩ d_M_heard_30
  · refine lv_aload_n X.1 X.2.1 d_M_heard_9 rfl (lv_at hl 0 rfl) ?_
    refine lv_aload_n X.1 X.2.1 d_M_heard_10 rfl (lv_at hl 0 rfl) ?_
    refine lv_iconst (v := iI 4) X.1 X.2.1 d_M_heard_11 (by decide) ?_
    refine lv_iconst (v := iI 1) X.1 X.2.1 d_M_heard_12 (by decide) ?_
    refine r_nl (m_run (As := [.int (iI 4), .int (iI 1)]) (rest := [.ref h]) (n := 2) X Y hZ hA hml hl.1 (r_M_timeOf l D E h q H.size I J101 B G101 4 (by decide) (by decide) 1 (by decide) (by decide) S.1 (pG1_cg rfl rfl f_P1) (pG2_cg rfl rfl f_P2)) kl_M_timeOf ks_M_timeOf kx_M_timeOf ki_M_timeOf ini_M hd_M_timeOf ⟨Nat.le_of_ble_eq_true rfl, Nat.le_of_ble_eq_true rfl⟩ rfl (Nat.le_of_ble_eq_true rfl) d_M_heard_13 ⟨Nat.le_refl _, Nat.le_refl _⟩) X Y hA S (by decide) (by decide) (fun v103 u H locs Y S s103 p103 => ?_)
    obtain ⟨I103, J103, B103, G103⟩ := u
    dsimp only at Y S s103 p103
    have b103 : B = B103 := (funext (fun j => s103.2.2 j (by simp))).symm
    subst b103
    have g103_P1 := p103
    refine lv_aload_n X.1 X.2.1 d_M_heard_16 rfl (lv_at hl 0 rfl) ?_
    refine lv_iload_n X.1 X.2.1 d_M_heard_17 rfl (lv_at hl 1 rfl) ?_
    refine lv_iload_n X.1 X.2.1 d_M_heard_18 rfl (lv_at hl 2 rfl) ?_
    refine r_nl (m_run (As := [.int (iI a1), .int (iI a2)]) (rest := [.long v103, .ref h]) (n := 2) X Y hZ hA hml hl.1 (r_M_clockOfSide l D E h q H.size I103 J103 B G103 a1 (by omega) (by omega) a2 (by omega) (by omega) S.1 (sA_cg rfl (sA_cg rfl f_SA))) kl_M_clockOfSide ks_M_clockOfSide kx_M_clockOfSide ki_M_clockOfSide ini_M hd_M_clockOfSide ⟨Nat.le_of_ble_eq_true rfl, Nat.le_of_ble_eq_true rfl⟩ rfl (Nat.le_of_ble_eq_true rfl) d_M_heard_19 ⟨Nat.le_refl _, Nat.le_refl _⟩) X Y hA S (by decide) (by decide) (fun v104 u H locs Y S s104 p104 => ?_)
    obtain ⟨I104, J104, B104, G104⟩ := u
    dsimp only at Y S s104 p104
    have i104 : I103 = I104 := (funext (fun j => s104.2.1 j (by simp))).symm
    subst i104
    have b104 : B = B104 := (funext (fun j => s104.2.2 j (by simp))).symm
    subst b104
    refine r_ni (m_run (As := [.long v103, .long v104]) (rest := []) (n := 2) X Y hZ hA hml hl.1 (r_M_isFar l D E h q H.size I103 J104 B G104 v103 v104 S.1) kl_M_isFar ks_M_isFar kx_M_isFar ki_M_isFar ini_M hd_M_isFar ⟨Nat.le_of_ble_eq_true rfl, Nat.le_of_ble_eq_true rfl⟩ rfl (Nat.le_of_ble_eq_true rfl) d_M_heard_22 ⟨Nat.le_refl _, Nat.le_refl _⟩) X Y hA S (by decide) (by decide) (fun z105 u H locs Y S s105 p105 => ?_)
    obtain ⟨I105, J105, B105, G105⟩ := u
    dsimp only at Y S s105 p105
    have i105 : I103 = I105 := (funext (fun j => s105.2.1 j (by simp))).symm
    subst i105
    have b105 : B = B105 := (funext (fun j => s105.2.2 j (by simp))).symm
    subst b105
    obtain ⟨l105, u105⟩ := p105
    refine z_if_eq (tgt := 31) X.1 X.2.1 d_M_heard_25 (by decide) ⟨by omega, by omega⟩ (fun h106 => ?_) (fun h106 => ?_)
    · refine lv_aload_n X.1 X.2.1 d_M_heard_31 rfl (lv_at hl 0 rfl) ?_
      refine m_ldcSW (i := 6) X (by decide) (by decide) d_M_heard_32 ?_
      refine lv_aload_n X.1 X.2.1 d_M_heard_35 rfl (lv_at hl 0 rfl) ?_
      refine lv_iconst (v := iI 4) X.1 X.2.1 d_M_heard_36 (by decide) ?_
      refine lv_iconst (v := iI 4) X.1 X.2.1 d_M_heard_37 (by decide) ?_
      refine r_ni (m_run (As := [.int (iI 4), .int (iI 4)]) (rest := [.ref ((D.2.1 6)), .ref h]) (n := 2) X Y hZ hA hml hl.1 (r_M_a l D E h q H.size I103 J105 B G105 4 (by decide) (by decide) 4 (by decide) (by decide) S.1) kl_M_a ks_M_a kx_M_a ki_M_a ini_M hd_M_a ⟨Nat.le_of_ble_eq_true rfl, Nat.le_of_ble_eq_true rfl⟩ rfl (Nat.le_of_ble_eq_true rfl) d_M_heard_38 ⟨Nat.le_refl _, Nat.le_refl _⟩) X Y hA S (by decide) (by decide) (fun z107 u H locs Y S s107 p107 => ?_)
      obtain ⟨I107, J107, B107, G107⟩ := u
      dsimp only at Y S s107 p107
      have i107 : I103 = I107 := (funext (fun j => s107.2.1 j (by simp))).symm
      subst i107
      have b107 : B = B107 := (funext (fun j => s107.2.2 j (by simp))).symm
      subst b107
      obtain ⟨l107, u107, x107⟩ := p107
      refine lv_aload_n X.1 X.2.1 d_M_heard_41 rfl (lv_at hl 0 rfl) ?_
      refine lv_iconst (v := iI 4) X.1 X.2.1 d_M_heard_42 (by decide) ?_
      refine lv_iconst (v := iI 4) X.1 X.2.1 d_M_heard_43 (by decide) ?_
      refine r_ni (m_run (As := [.int (iI 4), .int (iI 4)]) (rest := [.int (iI z107), .ref ((D.2.1 6)), .ref h]) (n := 2) X Y hZ hA hml hl.1 (r_M_b l D E h q H.size I103 J107 B G107 4 (by decide) (by decide) 4 (by decide) (by decide) S.1) kl_M_b ks_M_b kx_M_b ki_M_b ini_M hd_M_b ⟨Nat.le_of_ble_eq_true rfl, Nat.le_of_ble_eq_true rfl⟩ rfl (Nat.le_of_ble_eq_true rfl) d_M_heard_44 ⟨Nat.le_refl _, Nat.le_refl _⟩) X Y hA S (by decide) (by decide) (fun z108 u H locs Y S s108 p108 => ?_)
      obtain ⟨I108, J108, B108, G108⟩ := u
      dsimp only at Y S s108 p108
      have i108 : I103 = I108 := (funext (fun j => s108.2.1 j (by simp))).symm
      subst i108
      have b108 : B = B108 := (funext (fun j => s108.2.2 j (by simp))).symm
      subst b108
      obtain ⟨l108, u108, x108⟩ := p108
      have p109 : pr z107 z108 := by rw [x107, x108]; exact (pG2_cg rfl rfl (pG2_cg rfl rfl (pG2_cg rfl rfl (pG2_cg rfl rfl (pG2_cg rfl rfl (pG2_cg rfl rfl f_P2)))))) (16 * 4 + 4 : Int).toNat (by omega)
      unfold pr at p109
      refine lv_bipush (v := iI 7) X.1 X.2.1 d_M_heard_47 (by decide) ?_
      refine r_ni (m_run (As := [.ref ((D.2.1 6)), .int (iI z107), .int (iI z108), .int (iI 7)]) (rest := []) (n := 4) X Y hZ hA hml hl.1 (r_M_sequence_t l D E h q H.size I103 J108 B G108 6 (show 6 < nZ by decide) z107 (by omega) (by omega) z108 (by omega) (by omega) 7 (by decide) (by decide) S.1 5 (B 0) rfl (isF (B 0) 5) (by decide) (hisU (show rki 6 ≤ 5 by decide)) (pG1_cg rfl rfl (pG1_cg rfl rfl (pG1_cg rfl rfl (pG1_cg rfl rfl g103_P1)))) (pG2_cg rfl rfl (pG2_cg rfl rfl (pG2_cg rfl rfl (pG2_cg rfl rfl (pG2_cg rfl rfl (pG2_cg rfl rfl f_P2)))))) (by omega) (by omega)) kl_M_sequence ks_M_sequence kx_M_sequence ki_M_sequence ini_M hd_M_sequence ⟨Nat.le_of_ble_eq_true rfl, Nat.le_of_ble_eq_true rfl⟩ rfl (Nat.le_of_ble_eq_true rfl) d_M_heard_49 ⟨Nat.le_refl _, Nat.le_refl _⟩) X Y hA S (by decide) (by decide) (fun z110 u H locs Y S s110 p110 => ?_)
      obtain ⟨I110, J110, B110, G110⟩ := u
      dsimp only at Y S s110 p110
      obtain ⟨l110, u110, x110, st110, g110_P1, g110_P2⟩ := p110
      have g110_TF : thF [7] (B 37) (B 38) (B110 37) (B110 38) := thF_of st110.1
      refine lv_pop X.1 X.2.1 d_M_heard_52 rfl ?_
      refine lv_aload_n X.1 X.2.1 d_M_heard_53 rfl (lv_at hl 0 rfl) ?_
      refine lv_aload_n X.1 X.2.1 d_M_heard_54 rfl (lv_at hl 0 rfl) ?_
      refine lv_bipush (v := iI 7) X.1 X.2.1 d_M_heard_55 (by decide) ?_
      refine lv_iconst (v := iI 1) X.1 X.2.1 d_M_heard_57 (by decide) ?_
      refine r_ni (m_run (As := [.int (iI 7), .int (iI 1)]) (rest := [.ref h]) (n := 2) X Y hZ hA hml hl.1 (r_M_a l D E h q H.size I110 J110 B110 G110 7 (by decide) (by decide) 1 (by decide) (by decide) S.1) kl_M_a ks_M_a kx_M_a ki_M_a ini_M hd_M_a ⟨Nat.le_of_ble_eq_true rfl, Nat.le_of_ble_eq_true rfl⟩ rfl (Nat.le_of_ble_eq_true rfl) d_M_heard_58 ⟨Nat.le_refl _, Nat.le_refl _⟩) X Y hA S (by decide) (by decide) (fun z111 u H locs Y S s111 p111 => ?_)
      obtain ⟨I111, J111, B111, G111⟩ := u
      dsimp only at Y S s111 p111
      have i111 : I110 = I111 := (funext (fun j => s111.2.1 j (by simp))).symm
      subst i111
      have b111 : B110 = B111 := (funext (fun j => s111.2.2 j (by simp))).symm
      subst b111
      obtain ⟨l111, u111, x111⟩ := p111
      refine lv_aload_n X.1 X.2.1 d_M_heard_61 rfl (lv_at hl 0 rfl) ?_
      refine lv_bipush (v := iI 7) X.1 X.2.1 d_M_heard_62 (by decide) ?_
      refine lv_iconst (v := iI 1) X.1 X.2.1 d_M_heard_64 (by decide) ?_
      refine r_ni (m_run (As := [.int (iI 7), .int (iI 1)]) (rest := [.int (iI z111), .ref h]) (n := 2) X Y hZ hA hml hl.1 (r_M_b l D E h q H.size I110 J111 B110 G111 7 (by decide) (by decide) 1 (by decide) (by decide) S.1) kl_M_b ks_M_b kx_M_b ki_M_b ini_M hd_M_b ⟨Nat.le_of_ble_eq_true rfl, Nat.le_of_ble_eq_true rfl⟩ rfl (Nat.le_of_ble_eq_true rfl) d_M_heard_65 ⟨Nat.le_refl _, Nat.le_refl _⟩) X Y hA S (by decide) (by decide) (fun z112 u H locs Y S s112 p112 => ?_)
      obtain ⟨I112, J112, B112, G112⟩ := u
      dsimp only at Y S s112 p112
      have i112 : I110 = I112 := (funext (fun j => s112.2.1 j (by simp))).symm
      subst i112
      have b112 : B110 = B112 := (funext (fun j => s112.2.2 j (by simp))).symm
      subst b112
      obtain ⟨l112, u112, x112⟩ := p112
      have p113 : pr z111 z112 := by rw [x111, x112]; exact (pG2_cg rfl rfl (pG2_cg rfl rfl g110_P2)) (16 * 7 + 1 : Int).toNat (by omega)
      unfold pr at p113
      refine lv_iconst (v := iI 4) X.1 X.2.1 d_M_heard_68 (by decide) ?_
      refine r_ni (m_run (As := [.int (iI z111), .int (iI z112), .int (iI 4)]) (rest := []) (n := 3) X Y hZ hA hml hl.1 (r_M_element l D E h q H.size I110 J112 B110 G112 z111 (by omega) (by omega) z112 (by omega) (by omega) 4 (by decide) (by decide) S.1 (B110 0) rfl (pG1_cg rfl rfl (pG1_cg rfl rfl g110_P1)) (by omega) (by omega)) kl_M_element ks_M_element kx_M_element ki_M_element ini_M hd_M_element ⟨Nat.le_of_ble_eq_true rfl, Nat.le_of_ble_eq_true rfl⟩ rfl (Nat.le_of_ble_eq_true rfl) d_M_heard_69 ⟨Nat.le_refl _, Nat.le_refl _⟩) X Y hA S (by decide) (by decide) (fun z114 u H locs Y S s114 p114 => ?_)
      obtain ⟨I114, J114, B114, G114⟩ := u
      dsimp only at Y S s114 p114
      have b114 : B110 = B114 := (funext (fun j => s114.2.2 j (by simp))).symm
      subst b114
      obtain ⟨l114, u114, x114, st114⟩ := p114
      obtain ⟨x115, y115, ex115, ey115, lx115, ly115, uy115, dy115, iy115, ky115⟩ := st114
      refine lv_pop X.1 X.2.1 d_M_heard_72 rfl ?_
      refine lv_aload_n X.1 X.2.1 d_M_heard_73 rfl (lv_at hl 0 rfl) ?_
      refine r_get0 X Y (by decide) lk_behind (gf_behind _ _ _) rfl ey115 d_M_heard_74 ?_
      refine lv_aload_n X.1 X.2.1 d_M_heard_77 rfl (lv_at hl 0 rfl) ?_
      refine r_get0 X Y (by decide) lk_inside (gf_inside _ _ _) rfl ex115 d_M_heard_78 ?_
      refine z_isub X.1 X.2.1 d_M_heard_81 ?_
      refine lv_iconst (v := iI 4) X.1 X.2.1 d_M_heard_82 (by decide) ?_
      refine z_icmp_ne (tgt := 149) X.1 X.2.1 d_M_heard_83 (by decide) ⟨by omega, by omega⟩ ⟨by decide, by decide⟩ (fun h116 => ?_) (fun h116 => ?_)
      · refine lv_iconst (v := iI 0) X.1 X.2.1 d_M_heard_149 (by decide) ?_
        refine lv_istore_n (lv' := [(3, .int (iI 0)), (0, .ref h), (1, .int (iI a1)), (2, .int (iI a2))]) X.1 X.2.1 d_M_heard_150 rfl hl (by decide) rfl (fun ls hl => ?_)
        refine lv_iload_n X.1 X.2.1 d_M_heard_151 rfl (lv_at hl 0 rfl) ?_
        refine z_if_eq (tgt := 169) X.1 X.2.1 d_M_heard_152 (by decide) ⟨by decide, by decide⟩ (fun h117 => ?_) (fun h117 => False.elim (by omega))
        · refine lv_bipush (v := iI (-38)) X.1 X.2.1 d_M_heard_169 (by decide) ?_
          exact m_reti hQQ X Y hr hlk ⟨S, (-38), rfl, ⟨by omega, by omega, (show pG1 I114 from ⟨x115, y115, ex115, ey115, by omega, by omega, by omega, by omega⟩), (pG2_cg rfl rfl (pG2_cg rfl rfl (pG2_cg rfl rfl g110_P2)))⟩⟩ d_M_heard_171
      · refine lv_aload_n X.1 X.2.1 d_M_heard_86 rfl (lv_at hl 0 rfl) ?_
        refine m_get X Y 0 (by decide) lk_mem (gf_mem _ _ _) rfl d_M_heard_87 ?_
        refine lv_aload_n X.1 X.2.1 d_M_heard_90 rfl (lv_at hl 0 rfl) ?_
        refine r_get0 X Y (by decide) lk_inside (gf_inside _ _ _) rfl ex115 d_M_heard_91 ?_
        refine r_bald X Y S (aw_mem _ _ _ _ _ _ _) rfl (by omega) (show x115 < ((60000 : Nat) : Int) by omega) (by omega) d_M_heard_94 (fun z118 q118 l118 u118 => ?_)
        refine lv_bipush (v := iI 10) X.1 X.2.1 d_M_heard_95 (by decide) ?_
        refine z_icmp_ne (tgt := 149) X.1 X.2.1 d_M_heard_97 (by decide) ⟨by omega, by omega⟩ ⟨by decide, by decide⟩ (fun h119 => ?_) (fun h119 => ?_)
        · refine lv_iconst (v := iI 0) X.1 X.2.1 d_M_heard_149 (by decide) ?_
          refine lv_istore_n (lv' := [(3, .int (iI 0)), (0, .ref h), (1, .int (iI a1)), (2, .int (iI a2))]) X.1 X.2.1 d_M_heard_150 rfl hl (by decide) rfl (fun ls hl => ?_)
          refine lv_iload_n X.1 X.2.1 d_M_heard_151 rfl (lv_at hl 0 rfl) ?_
          refine z_if_eq (tgt := 169) X.1 X.2.1 d_M_heard_152 (by decide) ⟨by decide, by decide⟩ (fun h120 => ?_) (fun h120 => False.elim (by omega))
          · refine lv_bipush (v := iI (-38)) X.1 X.2.1 d_M_heard_169 (by decide) ?_
            exact m_reti hQQ X Y hr hlk ⟨S, (-38), rfl, ⟨by omega, by omega, (show pG1 I114 from ⟨x115, y115, ex115, ey115, by omega, by omega, by omega, by omega⟩), (pG2_cg rfl rfl (pG2_cg rfl rfl (pG2_cg rfl rfl g110_P2)))⟩⟩ d_M_heard_171
        · refine lv_aload_n X.1 X.2.1 d_M_heard_100 rfl (lv_at hl 0 rfl) ?_
          refine m_get X Y 0 (by decide) lk_mem (gf_mem _ _ _) rfl d_M_heard_101 ?_
          refine lv_aload_n X.1 X.2.1 d_M_heard_104 rfl (lv_at hl 0 rfl) ?_
          refine r_get0 X Y (by decide) lk_inside (gf_inside _ _ _) rfl ex115 d_M_heard_105 ?_
          refine lv_iconst (v := iI 1) X.1 X.2.1 d_M_heard_108 (by decide) ?_
          refine z_iadd X.1 X.2.1 d_M_heard_109 ?_
          refine r_bald X Y S (aw_mem _ _ _ _ _ _ _) rfl (by omega) (show x115 + 1 < ((60000 : Nat) : Int) by omega) (by omega) d_M_heard_110 (fun z121 q121 l121 u121 => ?_)
          refine z_if_ne (tgt := 149) X.1 X.2.1 d_M_heard_111 (by decide) ⟨by omega, by omega⟩ (fun h122 => ?_) (fun h122 => ?_)
          · refine lv_iconst (v := iI 0) X.1 X.2.1 d_M_heard_149 (by decide) ?_
            refine lv_istore_n (lv' := [(3, .int (iI 0)), (0, .ref h), (1, .int (iI a1)), (2, .int (iI a2))]) X.1 X.2.1 d_M_heard_150 rfl hl (by decide) rfl (fun ls hl => ?_)
            refine lv_iload_n X.1 X.2.1 d_M_heard_151 rfl (lv_at hl 0 rfl) ?_
            refine z_if_eq (tgt := 169) X.1 X.2.1 d_M_heard_152 (by decide) ⟨by decide, by decide⟩ (fun h123 => ?_) (fun h123 => False.elim (by omega))
            · refine lv_bipush (v := iI (-38)) X.1 X.2.1 d_M_heard_169 (by decide) ?_
              exact m_reti hQQ X Y hr hlk ⟨S, (-38), rfl, ⟨by omega, by omega, (show pG1 I114 from ⟨x115, y115, ex115, ey115, by omega, by omega, by omega, by omega⟩), (pG2_cg rfl rfl (pG2_cg rfl rfl (pG2_cg rfl rfl g110_P2)))⟩⟩ d_M_heard_171
          · refine lv_aload_n X.1 X.2.1 d_M_heard_114 rfl (lv_at hl 0 rfl) ?_
            refine m_get X Y 0 (by decide) lk_mem (gf_mem _ _ _) rfl d_M_heard_115 ?_
            refine lv_aload_n X.1 X.2.1 d_M_heard_118 rfl (lv_at hl 0 rfl) ?_
            refine r_get0 X Y (by decide) lk_inside (gf_inside _ _ _) rfl ex115 d_M_heard_119 ?_
            refine lv_iconst (v := iI 2) X.1 X.2.1 d_M_heard_122 (by decide) ?_
            refine z_iadd X.1 X.2.1 d_M_heard_123 ?_
            refine r_bald X Y S (aw_mem _ _ _ _ _ _ _) rfl (by omega) (show x115 + 2 < ((60000 : Nat) : Int) by omega) (by omega) d_M_heard_124 (fun z124 q124 l124 u124 => ?_)
            refine z_if_ne (tgt := 149) X.1 X.2.1 d_M_heard_125 (by decide) ⟨by omega, by omega⟩ (fun h125 => ?_) (fun h125 => ?_)
            · refine lv_iconst (v := iI 0) X.1 X.2.1 d_M_heard_149 (by decide) ?_
              refine lv_istore_n (lv' := [(3, .int (iI 0)), (0, .ref h), (1, .int (iI a1)), (2, .int (iI a2))]) X.1 X.2.1 d_M_heard_150 rfl hl (by decide) rfl (fun ls hl => ?_)
              refine lv_iload_n X.1 X.2.1 d_M_heard_151 rfl (lv_at hl 0 rfl) ?_
              refine z_if_eq (tgt := 169) X.1 X.2.1 d_M_heard_152 (by decide) ⟨by decide, by decide⟩ (fun h126 => ?_) (fun h126 => False.elim (by omega))
              · refine lv_bipush (v := iI (-38)) X.1 X.2.1 d_M_heard_169 (by decide) ?_
                exact m_reti hQQ X Y hr hlk ⟨S, (-38), rfl, ⟨by omega, by omega, (show pG1 I114 from ⟨x115, y115, ex115, ey115, by omega, by omega, by omega, by omega⟩), (pG2_cg rfl rfl (pG2_cg rfl rfl (pG2_cg rfl rfl g110_P2)))⟩⟩ d_M_heard_171
            · refine lv_aload_n X.1 X.2.1 d_M_heard_128 rfl (lv_at hl 0 rfl) ?_
              refine m_get X Y 0 (by decide) lk_mem (gf_mem _ _ _) rfl d_M_heard_129 ?_
              refine lv_aload_n X.1 X.2.1 d_M_heard_132 rfl (lv_at hl 0 rfl) ?_
              refine r_get0 X Y (by decide) lk_inside (gf_inside _ _ _) rfl ex115 d_M_heard_133 ?_
              refine lv_iconst (v := iI 3) X.1 X.2.1 d_M_heard_136 (by decide) ?_
              refine z_iadd X.1 X.2.1 d_M_heard_137 ?_
              refine r_bald X Y S (aw_mem _ _ _ _ _ _ _) rfl (by omega) (show x115 + 3 < ((60000 : Nat) : Int) by omega) (by omega) d_M_heard_138 (fun z127 q127 l127 u127 => ?_)
              refine lv_iconst (v := iI 1) X.1 X.2.1 d_M_heard_139 (by decide) ?_
              refine lv_iload_n X.1 X.2.1 d_M_heard_140 rfl (lv_at hl 2 rfl) ?_
              refine z_isub X.1 X.2.1 d_M_heard_141 ?_
              refine z_icmp_ne (tgt := 149) X.1 X.2.1 d_M_heard_142 (by decide) ⟨by omega, by omega⟩ ⟨by omega, by omega⟩ (fun h128 => ?_) (fun h128 => ?_)
              · refine lv_iconst (v := iI 0) X.1 X.2.1 d_M_heard_149 (by decide) ?_
                refine lv_istore_n (lv' := [(3, .int (iI 0)), (0, .ref h), (1, .int (iI a1)), (2, .int (iI a2))]) X.1 X.2.1 d_M_heard_150 rfl hl (by decide) rfl (fun ls hl => ?_)
                refine lv_iload_n X.1 X.2.1 d_M_heard_151 rfl (lv_at hl 0 rfl) ?_
                refine z_if_eq (tgt := 169) X.1 X.2.1 d_M_heard_152 (by decide) ⟨by decide, by decide⟩ (fun h129 => ?_) (fun h129 => False.elim (by omega))
                · refine lv_bipush (v := iI (-38)) X.1 X.2.1 d_M_heard_169 (by decide) ?_
                  exact m_reti hQQ X Y hr hlk ⟨S, (-38), rfl, ⟨by omega, by omega, (show pG1 I114 from ⟨x115, y115, ex115, ey115, by omega, by omega, by omega, by omega⟩), (pG2_cg rfl rfl (pG2_cg rfl rfl (pG2_cg rfl rfl g110_P2)))⟩⟩ d_M_heard_171
              · refine lv_iconst (v := iI 1) X.1 X.2.1 d_M_heard_145 (by decide) ?_
                refine lv_goto (tgt := 150) X.1 X.2.1 d_M_heard_146 (by decide) ?_
                refine lv_istore_n (lv' := [(3, .int (iI 1)), (0, .ref h), (1, .int (iI a1)), (2, .int (iI a2))]) X.1 X.2.1 d_M_heard_150 rfl hl (by decide) rfl (fun ls hl => ?_)
                refine lv_iload_n X.1 X.2.1 d_M_heard_151 rfl (lv_at hl 0 rfl) ?_
                refine z_if_eq (tgt := 169) X.1 X.2.1 d_M_heard_152 (by decide) ⟨by decide, by decide⟩ (fun h130 => False.elim (by omega)) (fun h130 => ?_)
                · refine lv_aload_n X.1 X.2.1 d_M_heard_155 rfl (lv_at hl 1 rfl) ?_
                  refine lv_bipush (v := iI 7) X.1 X.2.1 d_M_heard_156 (by decide) ?_
                  refine lv_iconst (v := iI 0) X.1 X.2.1 d_M_heard_158 (by decide) ?_
                  refine r_nl (m_run (As := [.int (iI 7), .int (iI 0)]) (rest := []) (n := 2) X Y hZ hA hml hl.1 (r_M_numberAt l D E h q H.size I114 J114 B110 G114 7 (by decide) (by decide) 0 (by decide) (by decide) S.1 (show pG1 I114 from ⟨x115, y115, ex115, ey115, by omega, by omega, by omega, by omega⟩) (pG2_cg rfl rfl (pG2_cg rfl rfl (pG2_cg rfl rfl g110_P2)))) kl_M_numberAt ks_M_numberAt kx_M_numberAt ki_M_numberAt ini_M hd_M_numberAt ⟨Nat.le_of_ble_eq_true rfl, Nat.le_of_ble_eq_true rfl⟩ rfl (Nat.le_of_ble_eq_true rfl) d_M_heard_159 ⟨Nat.le_refl _, Nat.le_refl _⟩) X Y hA S (by decide) (by decide) (fun v131 u H locs Y S s131 p131 => ?_)
                  obtain ⟨I131, J131, B131, G131⟩ := u
                  dsimp only at Y S s131 p131
                  have b131 : B110 = B131 := (funext (fun j => s131.2.2 j (by simp))).symm
                  subst b131
                  have g131_P1 := p131
                  refine lv_ldc2 (v := (2)) X.1 X.2.1 X.2.2.2.1 (X.2.2.1 _ cl_M_810) d_M_heard_162 ?_
                  refine W.lcmp X.1 X.2.1 d_M_heard_165 ?_
                  refine t_u (fun z132 l132 u132 => ?_)
                  refine z_if_eq (tgt := 172) X.1 X.2.1 d_M_heard_166 (by decide) ⟨by omega, by omega⟩ (fun h133 => ?_) (fun h133 => ?_)
                  · refine lv_aload_n X.1 X.2.1 d_M_heard_172 rfl (lv_at hl 1 rfl) ?_
                    refine lv_iconst (v := iI 4) X.1 X.2.1 d_M_heard_173 (by decide) ?_
                    refine lv_iconst (v := iI 3) X.1 X.2.1 d_M_heard_174 (by decide) ?_
                    refine r_ni (m_run (As := [.int (iI 4), .int (iI 3)]) (rest := []) (n := 2) X Y hZ hA hml hl.1 (r_M_has l D E h q H.size I131 J131 B110 G131 4 (by decide) (by decide) 3 (by decide) (by decide) S.1) kl_M_has ks_M_has kx_M_has ki_M_has ini_M hd_M_has ⟨Nat.le_of_ble_eq_true rfl, Nat.le_of_ble_eq_true rfl⟩ rfl (Nat.le_of_ble_eq_true rfl) d_M_heard_175 ⟨Nat.le_refl _, Nat.le_refl _⟩) X Y hA S (by decide) (by decide) (fun z134 u H locs Y S s134 p134 => ?_)
                    obtain ⟨I134, J134, B134, G134⟩ := u
                    dsimp only at Y S s134 p134
                    have i134 : I131 = I134 := (funext (fun j => s134.2.1 j (by simp))).symm
                    subst i134
                    have b134 : B110 = B134 := (funext (fun j => s134.2.2 j (by simp))).symm
                    subst b134
                    obtain ⟨l134, u134, x134⟩ := p134
                    refine z_if_eq (tgt := 201) X.1 X.2.1 d_M_heard_178 (by decide) ⟨by omega, by omega⟩ (fun h135 => ?_) (fun h135 => ?_)
                    · refine lv_bipush (v := iI (-42)) X.1 X.2.1 d_M_heard_201 (by decide) ?_
                      exact m_reti hQQ X Y hr hlk ⟨S, (-42), rfl, ⟨by omega, by omega, (pG1_cg rfl rfl g131_P1), (pG2_cg rfl rfl (pG2_cg rfl rfl (pG2_cg rfl rfl (pG2_cg rfl rfl (pG2_cg rfl rfl g110_P2)))))⟩⟩ d_M_heard_203
                    · refine lv_aload_n X.1 X.2.1 d_M_heard_181 rfl (lv_at hl 1 rfl) ?_
                      refine lv_iconst (v := iI 4) X.1 X.2.1 d_M_heard_182 (by decide) ?_
                      refine lv_iconst (v := iI 3) X.1 X.2.1 d_M_heard_183 (by decide) ?_
                      refine r_nl (m_run (As := [.int (iI 4), .int (iI 3)]) (rest := []) (n := 2) X Y hZ hA hml hl.1 (r_M_numberAt l D E h q H.size I131 J134 B110 G134 4 (by decide) (by decide) 3 (by decide) (by decide) S.1 (pG1_cg rfl rfl g131_P1) (pG2_cg rfl rfl (pG2_cg rfl rfl (pG2_cg rfl rfl (pG2_cg rfl rfl (pG2_cg rfl rfl g110_P2)))))) kl_M_numberAt ks_M_numberAt kx_M_numberAt ki_M_numberAt ini_M hd_M_numberAt ⟨Nat.le_of_ble_eq_true rfl, Nat.le_of_ble_eq_true rfl⟩ rfl (Nat.le_of_ble_eq_true rfl) d_M_heard_184 ⟨Nat.le_refl _, Nat.le_refl _⟩) X Y hA S (by decide) (by decide) (fun v136 u H locs Y S s136 p136 => ?_)
                      obtain ⟨I136, J136, B136, G136⟩ := u
                      dsimp only at Y S s136 p136
                      have b136 : B110 = B136 := (funext (fun j => s136.2.2 j (by simp))).symm
                      subst b136
                      have g136_P1 := p136
                      refine lv_aload_n X.1 X.2.1 d_M_heard_187 rfl (lv_at hl 1 rfl) ?_
                      refine m_get X Y 138 (by decide) lk_dueNumber (gf_dueNumber _ _ _) rfl d_M_heard_188 ?_
                      refine lv_iconst (v := iI 2) X.1 X.2.1 d_M_heard_191 (by decide) ?_
                      refine lv_iload_n X.1 X.2.1 d_M_heard_192 rfl (lv_at hl 2 rfl) ?_
                      refine z_imul X.1 X.2.1 d_M_heard_193 ?_
                      refine lv_iload_n X.1 X.2.1 d_M_heard_194 rfl (lv_at hl 3 rfl) ?_
                      refine z_iadd X.1 X.2.1 d_M_heard_195 ?_
                      refine r_lald X Y (aw_dueNumber _ _ _ _ _ _ _) (by omega) (show (2 * a1) + a2 < ((16 : Nat) : Int) by omega) (by omega) d_M_heard_196 (fun v137 => ?_)
                      refine W.lcmp X.1 X.2.1 d_M_heard_197 ?_
                      refine t_u (fun z138 l138 u138 => ?_)
                      refine z_if_eq (tgt := 204) X.1 X.2.1 d_M_heard_198 (by decide) ⟨by omega, by omega⟩ (fun h139 => ?_) (fun h139 => ?_)
                      · refine lv_aload_n X.1 X.2.1 d_M_heard_204 rfl (lv_at hl 1 rfl) ?_
                        refine m_get X Y 138 (by decide) lk_dueNumber (gf_dueNumber _ _ _) rfl d_M_heard_205 ?_
                        refine lv_iconst (v := iI 2) X.1 X.2.1 d_M_heard_208 (by decide) ?_
                        refine lv_iload_n X.1 X.2.1 d_M_heard_209 rfl (lv_at hl 2 rfl) ?_
                        refine z_imul X.1 X.2.1 d_M_heard_210 ?_
                        refine lv_iload_n X.1 X.2.1 d_M_heard_211 rfl (lv_at hl 3 rfl) ?_
                        refine z_iadd X.1 X.2.1 d_M_heard_212 ?_
                        refine lv_aload_n X.1 X.2.1 d_M_heard_213 rfl (lv_at hl 1 rfl) ?_
                        refine m_get X Y 138 (by decide) lk_dueNumber (gf_dueNumber _ _ _) rfl d_M_heard_214 ?_
                        refine lv_iconst (v := iI 2) X.1 X.2.1 d_M_heard_217 (by decide) ?_
                        refine lv_iload_n X.1 X.2.1 d_M_heard_218 rfl (lv_at hl 2 rfl) ?_
                        refine z_imul X.1 X.2.1 d_M_heard_219 ?_
                        refine lv_iload_n X.1 X.2.1 d_M_heard_220 rfl (lv_at hl 3 rfl) ?_
                        refine z_iadd X.1 X.2.1 d_M_heard_221 ?_
                        refine r_lald X Y (aw_dueNumber _ _ _ _ _ _ _) (by omega) (show (2 * a1) + a2 < ((16 : Nat) : Int) by omega) (by omega) d_M_heard_222 (fun v140 => ?_)
                        refine lv_lconst (v := 1) X.1 X.2.1 d_M_heard_223 rfl ?_
                        refine lv_ladd X.1 X.2.1 d_M_heard_224 ?_
                        refine t_anyl (fun v141 => ?_)
                        refine lv_ldc2 (v := (4294967295)) X.1 X.2.1 X.2.2.2.1 (X.2.2.1 _ cl_M_503) d_M_heard_225 ?_
                        refine lv_land X.1 X.2.1 d_M_heard_228 ?_
                        refine t_anyl (fun v142 => ?_)
                        refine r_last X Y (aw_dueNumber _ _ _ _ _ _ _) (sw_dueNumber _ _ _ _ _ _ _) (by omega) (show (2 * a1) + a2 < ((16 : Nat) : Int) by omega) (by omega) d_M_heard_229 (fun G143 H locs Y => ?_)
                        refine lv_aload_n X.1 X.2.1 d_M_heard_230 rfl (lv_at hl 1 rfl) ?_
                        refine lv_aload_n X.1 X.2.1 d_M_heard_231 rfl (lv_at hl 1 rfl) ?_
                        refine lv_iconst (v := iI 4) X.1 X.2.1 d_M_heard_232 (by decide) ?_
                        refine lv_iconst (v := iI 0) X.1 X.2.1 d_M_heard_233 (by decide) ?_
                        refine r_ni (m_run (As := [.int (iI 4), .int (iI 0)]) (rest := [.ref h]) (n := 2) X Y hZ hA hml hl.1 (r_M_a l D E h q H.size I136 J136 B110 G143 4 (by decide) (by decide) 0 (by decide) (by decide) S.1) kl_M_a ks_M_a kx_M_a ki_M_a ini_M hd_M_a ⟨Nat.le_of_ble_eq_true rfl, Nat.le_of_ble_eq_true rfl⟩ rfl (Nat.le_of_ble_eq_true rfl) d_M_heard_234 ⟨Nat.le_refl _, Nat.le_refl _⟩) X Y hA S (by decide) (by decide) (fun z144 u H locs Y S s144 p144 => ?_)
                        obtain ⟨I144, J144, B144, G144⟩ := u
                        dsimp only at Y S s144 p144
                        have i144 : I136 = I144 := (funext (fun j => s144.2.1 j (by simp))).symm
                        subst i144
                        have b144 : B110 = B144 := (funext (fun j => s144.2.2 j (by simp))).symm
                        subst b144
                        obtain ⟨l144, u144, x144⟩ := p144
                        refine lv_aload_n X.1 X.2.1 d_M_heard_237 rfl (lv_at hl 1 rfl) ?_
                        refine lv_iconst (v := iI 4) X.1 X.2.1 d_M_heard_238 (by decide) ?_
                        refine lv_iconst (v := iI 0) X.1 X.2.1 d_M_heard_239 (by decide) ?_
                        refine r_ni (m_run (As := [.int (iI 4), .int (iI 0)]) (rest := [.int (iI z144), .ref h]) (n := 2) X Y hZ hA hml hl.1 (r_M_b l D E h q H.size I136 J144 B110 G144 4 (by decide) (by decide) 0 (by decide) (by decide) S.1) kl_M_b ks_M_b kx_M_b ki_M_b ini_M hd_M_b ⟨Nat.le_of_ble_eq_true rfl, Nat.le_of_ble_eq_true rfl⟩ rfl (Nat.le_of_ble_eq_true rfl) d_M_heard_240 ⟨Nat.le_refl _, Nat.le_refl _⟩) X Y hA S (by decide) (by decide) (fun z145 u H locs Y S s145 p145 => ?_)
                        obtain ⟨I145, J145, B145, G145⟩ := u
                        dsimp only at Y S s145 p145
                        have i145 : I136 = I145 := (funext (fun j => s145.2.1 j (by simp))).symm
                        subst i145
                        have b145 : B110 = B145 := (funext (fun j => s145.2.2 j (by simp))).symm
                        subst b145
                        obtain ⟨l145, u145, x145⟩ := p145
                        have p146 : pr z144 z145 := by rw [x144, x145]; exact (pG2_cg rfl rfl (pG2_cg rfl rfl (pG2_cg rfl rfl (pG2_cg rfl rfl (pG2_cg rfl rfl (pG2_cg rfl rfl (pG2_cg rfl rfl (pG2_cg rfl rfl g110_P2)))))))) (16 * 4 + 0 : Int).toNat (by omega)
                        unfold pr at p146
                        refine lv_iconst (v := iI 4) X.1 X.2.1 d_M_heard_243 (by decide) ?_
                        refine r_ni (m_run (As := [.int (iI z144), .int (iI z145), .int (iI 4)]) (rest := []) (n := 3) X Y hZ hA hml hl.1 (r_M_element l D E h q H.size I136 J145 B110 G145 z144 (by omega) (by omega) z145 (by omega) (by omega) 4 (by decide) (by decide) S.1 (B110 0) rfl (pG1_cg rfl rfl (pG1_cg rfl rfl g136_P1)) (by omega) (by omega)) kl_M_element ks_M_element kx_M_element ki_M_element ini_M hd_M_element ⟨Nat.le_of_ble_eq_true rfl, Nat.le_of_ble_eq_true rfl⟩ rfl (Nat.le_of_ble_eq_true rfl) d_M_heard_244 ⟨Nat.le_refl _, Nat.le_refl _⟩) X Y hA S (by decide) (by decide) (fun z147 u H locs Y S s147 p147 => ?_)
                        obtain ⟨I147, J147, B147, G147⟩ := u
                        dsimp only at Y S s147 p147
                        have b147 : B110 = B147 := (funext (fun j => s147.2.2 j (by simp))).symm
                        subst b147
                        obtain ⟨l147, u147, x147, st147⟩ := p147
                        obtain ⟨x148, y148, ex148, ey148, lx148, ly148, uy148, dy148, iy148, ky148⟩ := st147
                        refine lv_pop X.1 X.2.1 d_M_heard_247 rfl ?_
                        refine lv_aload_n X.1 X.2.1 d_M_heard_248 rfl (lv_at hl 1 rfl) ?_
                        refine lv_aload_n X.1 X.2.1 d_M_heard_249 rfl (lv_at hl 1 rfl) ?_
                        refine r_get0 X Y (by decide) lk_inside (gf_inside _ _ _) rfl ex148 d_M_heard_250 ?_
                        refine lv_aload_n X.1 X.2.1 d_M_heard_253 rfl (lv_at hl 1 rfl) ?_
                        refine r_get0 X Y (by decide) lk_behind (gf_behind _ _ _) rfl ey148 d_M_heard_254 ?_
                        refine r_nv (m_run (As := [.int (iI x148), .int (iI y148)]) (rest := []) (n := 2) X Y hZ hA hml hl.1 (r_M_toOut l D E h q H.size I147 J147 B110 G147 x148 (by omega) (by omega) y148 (by omega) (by omega) S.1 (by omega) (by omega)) kl_M_toOut ks_M_toOut kx_M_toOut ki_M_toOut ini_M hd_M_toOut ⟨Nat.le_of_ble_eq_true rfl, Nat.le_of_ble_eq_true rfl⟩ rfl (Nat.le_of_ble_eq_true rfl) d_M_heard_257 ⟨Nat.le_refl _, Nat.le_refl _⟩) X Y hA S (by decide) (by decide) (fun u H locs Y S s149 p149 => ?_)
                        obtain ⟨I149, J149, B149, G149⟩ := u
                        dsimp only at Y S s149 p149
                        have f150 : sA a1 a2 (B149 135) := (sA_cg (s149.2.2 135 (by decide)) (sA_cg rfl (sA_cg rfl (sA_cg rfl (sA_cg rfl (sA_cg rfl (sA_cg rfl (sA_cg rfl (sA_cg rfl (sA_cg rfl (sA_cg (s110.2.2 135 (by decide)) (sA_cg rfl (sA_cg rfl (sA_cg rfl (sA_cg rfl (sA_cg rfl (sA_cg rfl f_SA)))))))))))))))))
                        refine lv_aload_n X.1 X.2.1 d_M_heard_260 rfl (lv_at hl 1 rfl) ?_
                        refine r_geti (k := 3) X Y S (by decide) lk_outMany (gf_outMany _ _ _) rfl rfl d_M_heard_261 (fun z151 e151 l151 u151 => ?_)
                        exact m_reti hQQ X Y hr hlk ⟨S, z151, rfl, ⟨by omega, by omega, (pG1_cg (s149.2.1 39 (by decide)) (s149.2.1 40 (by decide)) (show pG1 I147 from ⟨x148, y148, ex148, ey148, by omega, by omega, by omega, by omega⟩)), (pG2_cg (s149.2.2 37 (by decide)) (s149.2.2 38 (by decide)) (pG2_cg rfl rfl (pG2_cg rfl rfl (pG2_cg rfl rfl (pG2_cg rfl rfl (pG2_cg rfl rfl (pG2_cg rfl rfl (pG2_cg rfl rfl (pG2_cg rfl rfl (pG2_cg rfl rfl g110_P2))))))))))⟩⟩ d_M_heard_264
                      · refine lv_bipush (v := iI (-42)) X.1 X.2.1 d_M_heard_201 (by decide) ?_
                        exact m_reti hQQ X Y hr hlk ⟨S, (-42), rfl, ⟨by omega, by omega, g136_P1, (pG2_cg rfl rfl (pG2_cg rfl rfl (pG2_cg rfl rfl (pG2_cg rfl rfl (pG2_cg rfl rfl (pG2_cg rfl rfl g110_P2))))))⟩⟩ d_M_heard_203
                  · refine lv_bipush (v := iI (-38)) X.1 X.2.1 d_M_heard_169 (by decide) ?_
                    exact m_reti hQQ X Y hr hlk ⟨S, (-38), rfl, ⟨by omega, by omega, g131_P1, (pG2_cg rfl rfl (pG2_cg rfl rfl (pG2_cg rfl rfl (pG2_cg rfl rfl g110_P2))))⟩⟩ d_M_heard_171
    · refine lv_bipush (v := iI (-37)) X.1 X.2.1 d_M_heard_28 (by decide) ?_
      exact m_reti hQQ X Y hr hlk ⟨S, (-37), rfl, ⟨by omega, by omega, (pG1_cg rfl rfl (pG1_cg rfl rfl g103_P1)), (pG2_cg rfl rfl (pG2_cg rfl rfl (pG2_cg rfl rfl (pG2_cg rfl rfl f_P2))))⟩⟩ d_M_heard_30
set_option maxHeartbeats 4000000 in
set_option maxRecDepth 100000 in
theorem r_M_receive (l : Launch) (D : mD) (E : mE) (h : Nat) (q : Nat → Nat) (sz : Nat) (I : Nat → Int32) (J : Nat → Int64) (B : Nat → Nat → Int32) (G : Nat → Nat → Int64) (a1 : Int) (l_a1 : (-2147483648) ≤ a1) (u_a1 : a1 ≤ 2147483647) (a2 : Int) (l_a2 : (-2147483648) ≤ a2) (u_a2 : a2 ≤ 2147483647) (hT : rT I B) (f_P1 : pG1 I) (f_P2 : pG2 (B 37) (B 38)) : Met l y_M_receive (k_M_receive :: lw_tg) (mR 45 2045) (va_Pc [.ref h, .int (iI a1), .int (iI a2)] (mPre D E h q (I, J, B, G) sz)) (va_Qi (rPi [2, 3, 8, 14, 18, 39, 40] [0, 1, 5, 6, 7, 9, 10, 11, 12, 13, 15, 16, 17, 19, 20, 21, 22, 23, 34, 37, 38, 58] I B (fun (z : Int) (u : mS) => (-2147483648) ≤ z ∧ z ≤ 2147483647 ∧ pG1 u.1 ∧ pG2 (u.2.2.1 37) (u.2.2.1 38))) (mPost D E h q (mA E h q sz)) (mA E h q sz)) 0 0 (mA E h q sz) := by
  refine m_enter (by decide) rfl (Nat.le_of_ble_eq_true rfl) (fun p e s m below meth c ls AV QQ H locs hQQ X Y hZ hA hr hlk hml hl => ?_)
  have Y : mH D E (mA E h q sz) s.heap h q I J B G H locs := Y
  have S : rS [2, 3, 8, 14, 18, 39, 40] [0, 1, 5, 6, 7, 9, 10, 11, 12, 13, 15, 16, 17, 19, 20, 21, 22, 23, 34, 37, 38, 58] I B I B := rS_rf hT
  have hl : lv_has ls 5 [(0, .ref h), (1, .int (iI a1)), (2, .int (iI a2))] := hl
  refine lv_aload_n X.1 X.2.1 d_M_receive_0 rfl (lv_at hl 0 rfl) ?_
  refine r_geti (k := 2) X Y S (by decide) lk_length (gf_length _ _ _) rfl rfl d_M_receive_1 (fun z101 e101 l101 u101 => ?_)
  refine lv_istore_n (lv' := [(3, .int (iI z101)), (0, .ref h), (1, .int (iI a1)), (2, .int (iI a2))]) X.1 X.2.1 d_M_receive_4 rfl hl (by decide) rfl (fun ls hl => ?_)
  refine lv_aload_n X.1 X.2.1 d_M_receive_5 rfl (lv_at hl 1 rfl) ?_
  refine lv_iconst (v := iI 0) X.1 X.2.1 d_M_receive_6 (by decide) ?_
  refine r_puti (k := 2) X Y S (by decide) lk_length rfl rfl (t_M_ok 2 (by decide)) rfl rfl (sf_length _ _ _ _) (Nat.le_of_ble_eq_true rfl) rfl (show (0 : Int) ≤ 0 by omega) (show 0 ≤ (4000 : Int) by omega) ⟨by omega, by omega⟩ (by decide) d_M_receive_7 (fun I102 H locs Y S w102 => ?_)
  refine lv_aload_n X.1 X.2.1 d_M_receive_10 rfl (lv_at hl 1 rfl) ?_
  refine lv_iload_n X.1 X.2.1 d_M_receive_11 rfl (lv_at hl 2 rfl) ?_
  refine lv_iload_n X.1 X.2.1 d_M_receive_12 rfl (lv_at hl 3 rfl) ?_
  refine r_ni (m_run (As := [.int (iI a1), .int (iI a2)]) (rest := []) (n := 2) X Y hZ hA hml hl.1 (r_M_hasSide l D E h q H.size I102 J B G a1 (by omega) (by omega) a2 (by omega) (by omega) S.1) kl_M_hasSide ks_M_hasSide kx_M_hasSide ki_M_hasSide ini_M hd_M_hasSide ⟨Nat.le_of_ble_eq_true rfl, Nat.le_of_ble_eq_true rfl⟩ rfl (Nat.le_of_ble_eq_true rfl) d_M_receive_13 ⟨Nat.le_refl _, Nat.le_refl _⟩) X Y hA S (by decide) (by decide) (fun z103 u H locs Y S s103 p103 => ?_)
  obtain ⟨I103, J103, B103, G103⟩ := u
  dsimp only at Y S s103 p103
  have i103 : I102 = I103 := (funext (fun j => s103.2.1 j (by simp))).symm
  subst i103
  have b103 : B = B103 := (funext (fun j => s103.2.2 j (by simp))).symm
  subst b103
  obtain ⟨l103, u103, x103, st103⟩ := p103
  refine z_if_ne (tgt := 21) X.1 X.2.1 d_M_receive_16 (by decide) ⟨by omega, by omega⟩ (fun h104 => ?_) (fun h104 => ?_)
  · have f105 : sA a1 a2 (B 135) := st103 (by omega)
    have f106 : sA a1 a2 (B 135) := st103 (by omega)
    refine lv_aload_n X.1 X.2.1 d_M_receive_21 rfl (lv_at hl 1 rfl) ?_
    refine lv_bipush (v := iI 21) X.1 X.2.1 d_M_receive_22 (by decide) ?_
    refine m_ldcSW (i := 22) X (by decide) (by decide) d_M_receive_24 ?_
    refine lv_iconst (v := iI 0) X.1 X.2.1 d_M_receive_27 (by decide) ?_
    refine lv_iload_n X.1 X.2.1 d_M_receive_28 rfl (lv_at hl 0 rfl) ?_
    refine lv_iconst (v := iI 0) X.1 X.2.1 d_M_receive_29 (by decide) ?_
    refine r_ni (m_run (As := [.int (iI 21), .ref ((D.2.1 22)), .int (iI 0), .int (iI z101), .int (iI 0)]) (rest := []) (n := 5) X Y hZ hA hml hl.1 (r_M_applied_t l D E h q H.size I102 J103 B G103 21 (by decide) (by decide) 22 (show 22 < nZ by decide) 0 (by decide) (by decide) z101 (by omega) (by omega) 0 (by decide) (by decide) S.1 5 (B 0) rfl (isF (B 0) 5) (by decide) (hisU (show rki 22 ≤ 5 by decide)) (pG1_cg rfl rfl (pG1_cg (w102.2 39 (by decide)) (w102.2 40 (by decide)) f_P1)) (pG2_cg rfl rfl (pG2_cg rfl rfl f_P2)) (by omega) (by omega)) kl_M_applied ks_M_applied kx_M_applied ki_M_applied ini_M hd_M_applied ⟨Nat.le_of_ble_eq_true rfl, Nat.le_of_ble_eq_true rfl⟩ rfl (Nat.le_of_ble_eq_true rfl) d_M_receive_30 ⟨Nat.le_refl _, Nat.le_refl _⟩) X Y hA S (by decide) (by decide) (fun z107 u H locs Y S s107 p107 => ?_)
    obtain ⟨I107, J107, B107, G107⟩ := u
    dsimp only at Y S s107 p107
    obtain ⟨l107, u107, x107, st107, g107_P1, g107_P2⟩ := p107
    have g107_TF : thF [0] (B 37) (B 38) (B107 37) (B107 38) := thF_of st107.1
    refine z_if_ne (tgt := 39) X.1 X.2.1 d_M_receive_33 (by decide) ⟨by omega, by omega⟩ (fun h108 => ?_) (fun h108 => ?_)
    · refine lv_aload_n X.1 X.2.1 d_M_receive_39 rfl (lv_at hl 1 rfl) ?_
      refine lv_iconst (v := iI 0) X.1 X.2.1 d_M_receive_40 (by decide) ?_
      refine lv_iconst (v := iI 0) X.1 X.2.1 d_M_receive_41 (by decide) ?_
      refine r_nl (m_run (As := [.int (iI 0), .int (iI 0)]) (rest := []) (n := 2) X Y hZ hA hml hl.1 (r_M_numberAt l D E h q H.size I107 J107 B107 G107 0 (by decide) (by decide) 0 (by decide) (by decide) S.1 g107_P1 g107_P2) kl_M_numberAt ks_M_numberAt kx_M_numberAt ki_M_numberAt ini_M hd_M_numberAt ⟨Nat.le_of_ble_eq_true rfl, Nat.le_of_ble_eq_true rfl⟩ rfl (Nat.le_of_ble_eq_true rfl) d_M_receive_42 ⟨Nat.le_refl _, Nat.le_refl _⟩) X Y hA S (by decide) (by decide) (fun v109 u H locs Y S s109 p109 => ?_)
      obtain ⟨I109, J109, B109, G109⟩ := u
      dsimp only at Y S s109 p109
      have b109 : B107 = B109 := (funext (fun j => s109.2.2 j (by simp))).symm
      subst b109
      have g109_P1 := p109
      refine lv_ldc2 (v := (5)) X.1 X.2.1 X.2.2.2.1 (X.2.2.1 _ cl_M_669) d_M_receive_45 ?_
      refine W.lcmp X.1 X.2.1 d_M_receive_48 ?_
      refine t_u (fun z110 l110 u110 => ?_)
      refine z_if_eq (tgt := 55) X.1 X.2.1 d_M_receive_49 (by decide) ⟨by omega, by omega⟩ (fun h111 => ?_) (fun h111 => ?_)
      · refine lv_aload_n X.1 X.2.1 d_M_receive_55 rfl (lv_at hl 1 rfl) ?_
        refine lv_iconst (v := iI 0) X.1 X.2.1 d_M_receive_56 (by decide) ?_
        refine lv_iconst (v := iI 1) X.1 X.2.1 d_M_receive_57 (by decide) ?_
        refine r_nl (m_run (As := [.int (iI 0), .int (iI 1)]) (rest := []) (n := 2) X Y hZ hA hml hl.1 (r_M_numberAt l D E h q H.size I109 J109 B107 G109 0 (by decide) (by decide) 1 (by decide) (by decide) S.1 g109_P1 (pG2_cg rfl rfl g107_P2)) kl_M_numberAt ks_M_numberAt kx_M_numberAt ki_M_numberAt ini_M hd_M_numberAt ⟨Nat.le_of_ble_eq_true rfl, Nat.le_of_ble_eq_true rfl⟩ rfl (Nat.le_of_ble_eq_true rfl) d_M_receive_58 ⟨Nat.le_refl _, Nat.le_refl _⟩) X Y hA S (by decide) (by decide) (fun v112 u H locs Y S s112 p112 => ?_)
        obtain ⟨I112, J112, B112, G112⟩ := u
        dsimp only at Y S s112 p112
        have b112 : B107 = B112 := (funext (fun j => s112.2.2 j (by simp))).symm
        subst b112
        have g112_P1 := p112
        refine lv_ldc2 (v := (21)) X.1 X.2.1 X.2.2.2.1 (X.2.2.1 _ cl_M_996) d_M_receive_61 ?_
        refine W.lcmp X.1 X.2.1 d_M_receive_64 ?_
        refine t_u (fun z113 l113 u113 => ?_)
        refine z_if_eq (tgt := 71) X.1 X.2.1 d_M_receive_65 (by decide) ⟨by omega, by omega⟩ (fun h114 => ?_) (fun h114 => ?_)
        · refine lv_iconst (v := iI 0) X.1 X.2.1 d_M_receive_71 (by decide) ?_
          have J120 : ∀ (n122 : Nat) (z116 : Int) (I115 : Nat → Int32) (J115 : Nat → Int64) (B115 : Nat → Nat → Int32) (G115 : Nat → Nat → Int64) (H : Heap) (locs : List Loc) (ls : Array Slot), (32 - z116).toNat = n122 → (0 ≤ z116) → (z116 ≤ 32) → (pG1 I115) → (pG2 (B115 37) (B115 38)) → (sA a1 a2 (B115 135)) → mH D E (mA E h q sz) s.heap h q I115 J115 B115 G115 H locs → rS [2, 3, 8, 14, 18, 39, 40] [0, 1, 5, 6, 7, 9, 10, 11, 12, 13, 15, 16, 17, 19, 20, 21, 22, 23, 34, 37, 38, 58] I B I115 B115 → lv_has ls 5 [(0, .ref h), (1, .int (iI a1)), (2, .int (iI a2)), (4, .int (iI z116))] → W p l e (mR 45 2045) s m AV below meth c H locs 0 0 QQ (F0 m 74 ls []) := by
            intro n122
            induction n122 using Nat.strongRecOn with
            | ind n122 ih121 =>
              intro z116 I115 J115 B115 G115 H locs ls hm123 l116 u116 f117 f118 f119 Y S hl
              refine lv_iload X.1 X.2.1 d_M_receive_74 (lv_at hl 3 rfl) ?_
              refine lv_bipush (v := iI 32) X.1 X.2.1 d_M_receive_76 (by decide) ?_
              refine z_icmp_ge (tgt := 106) X.1 X.2.1 d_M_receive_78 (by decide) ⟨by omega, by omega⟩ ⟨by decide, by decide⟩ (fun h124 => ?_) (fun h124 => ?_)
              · refine lv_aload_n X.1 X.2.1 d_M_receive_106 rfl (lv_at hl 0 rfl) ?_
                refine m_ldcSW (i := 5) X (by decide) (by decide) d_M_receive_107 ?_
                refine lv_aload_n X.1 X.2.1 d_M_receive_110 rfl (lv_at hl 0 rfl) ?_
                refine lv_iconst (v := iI 0) X.1 X.2.1 d_M_receive_111 (by decide) ?_
                refine lv_iconst (v := iI 3) X.1 X.2.1 d_M_receive_112 (by decide) ?_
                refine r_ni (m_run (As := [.int (iI 0), .int (iI 3)]) (rest := [.ref ((D.2.1 5)), .ref h]) (n := 2) X Y hZ hA hml hl.1 (r_M_a l D E h q H.size I115 J115 B115 G115 0 (by decide) (by decide) 3 (by decide) (by decide) S.1) kl_M_a ks_M_a kx_M_a ki_M_a ini_M hd_M_a ⟨Nat.le_of_ble_eq_true rfl, Nat.le_of_ble_eq_true rfl⟩ rfl (Nat.le_of_ble_eq_true rfl) d_M_receive_113 ⟨Nat.le_refl _, Nat.le_refl _⟩) X Y hA S (by decide) (by decide) (fun z125 u H locs Y S s125 p125 => ?_)
                obtain ⟨I125, J125, B125, G125⟩ := u
                dsimp only at Y S s125 p125
                have i125 : I115 = I125 := (funext (fun j => s125.2.1 j (by simp))).symm
                subst i125
                have b125 : B115 = B125 := (funext (fun j => s125.2.2 j (by simp))).symm
                subst b125
                obtain ⟨l125, u125, x125⟩ := p125
                refine lv_aload_n X.1 X.2.1 d_M_receive_116 rfl (lv_at hl 0 rfl) ?_
                refine lv_iconst (v := iI 0) X.1 X.2.1 d_M_receive_117 (by decide) ?_
                refine lv_iconst (v := iI 3) X.1 X.2.1 d_M_receive_118 (by decide) ?_
                refine r_ni (m_run (As := [.int (iI 0), .int (iI 3)]) (rest := [.int (iI z125), .ref ((D.2.1 5)), .ref h]) (n := 2) X Y hZ hA hml hl.1 (r_M_b l D E h q H.size I115 J125 B115 G125 0 (by decide) (by decide) 3 (by decide) (by decide) S.1) kl_M_b ks_M_b kx_M_b ki_M_b ini_M hd_M_b ⟨Nat.le_of_ble_eq_true rfl, Nat.le_of_ble_eq_true rfl⟩ rfl (Nat.le_of_ble_eq_true rfl) d_M_receive_119 ⟨Nat.le_refl _, Nat.le_refl _⟩) X Y hA S (by decide) (by decide) (fun z126 u H locs Y S s126 p126 => ?_)
                obtain ⟨I126, J126, B126, G126⟩ := u
                dsimp only at Y S s126 p126
                have i126 : I115 = I126 := (funext (fun j => s126.2.1 j (by simp))).symm
                subst i126
                have b126 : B115 = B126 := (funext (fun j => s126.2.2 j (by simp))).symm
                subst b126
                obtain ⟨l126, u126, x126⟩ := p126
                have p127 : pr z125 z126 := by rw [x125, x126]; exact (pG2_cg rfl rfl (pG2_cg rfl rfl f118)) (16 * 0 + 3 : Int).toNat (by omega)
                unfold pr at p127
                refine lv_bipush (v := iI 6) X.1 X.2.1 d_M_receive_122 (by decide) ?_
                refine r_ni (m_run (As := [.ref ((D.2.1 5)), .int (iI z125), .int (iI z126), .int (iI 6)]) (rest := []) (n := 4) X Y hZ hA hml hl.1 (r_M_sequence_t l D E h q H.size I115 J126 B115 G126 5 (show 5 < nZ by decide) z125 (by omega) (by omega) z126 (by omega) (by omega) 6 (by decide) (by decide) S.1 5 (B115 0) rfl (isF (B115 0) 5) (by decide) (hisU (show rki 5 ≤ 5 by decide)) (pG1_cg rfl rfl (pG1_cg rfl rfl f117)) (pG2_cg rfl rfl (pG2_cg rfl rfl f118)) (by omega) (by omega)) kl_M_sequence ks_M_sequence kx_M_sequence ki_M_sequence ini_M hd_M_sequence ⟨Nat.le_of_ble_eq_true rfl, Nat.le_of_ble_eq_true rfl⟩ rfl (Nat.le_of_ble_eq_true rfl) d_M_receive_124 ⟨Nat.le_refl _, Nat.le_refl _⟩) X Y hA S (by decide) (by decide) (fun z128 u H locs Y S s128 p128 => ?_)
                obtain ⟨I128, J128, B128, G128⟩ := u
                dsimp only at Y S s128 p128
                obtain ⟨l128, u128, x128, st128, g128_P1, g128_P2⟩ := p128
                have g128_TF : thF [6] (B115 37) (B115 38) (B128 37) (B128 38) := thF_of st128.1
                refine lv_pop X.1 X.2.1 d_M_receive_127 rfl ?_
                refine lv_aload_n X.1 X.2.1 d_M_receive_128 rfl (lv_at hl 0 rfl) ?_
                refine lv_bipush (v := iI 6) X.1 X.2.1 d_M_receive_129 (by decide) ?_
                refine lv_iconst (v := iI 0) X.1 X.2.1 d_M_receive_131 (by decide) ?_
                refine r_nl (m_run (As := [.int (iI 6), .int (iI 0)]) (rest := []) (n := 2) X Y hZ hA hml hl.1 (r_M_numberAt l D E h q H.size I128 J128 B128 G128 6 (by decide) (by decide) 0 (by decide) (by decide) S.1 g128_P1 g128_P2) kl_M_numberAt ks_M_numberAt kx_M_numberAt ki_M_numberAt ini_M hd_M_numberAt ⟨Nat.le_of_ble_eq_true rfl, Nat.le_of_ble_eq_true rfl⟩ rfl (Nat.le_of_ble_eq_true rfl) d_M_receive_132 ⟨Nat.le_refl _, Nat.le_refl _⟩) X Y hA S (by decide) (by decide) (fun v129 u H locs Y S s129 p129 => ?_)
                obtain ⟨I129, J129, B129, G129⟩ := u
                dsimp only at Y S s129 p129
                have b129 : B128 = B129 := (funext (fun j => s129.2.2 j (by simp))).symm
                subst b129
                have g129_P1 := p129
                refine lv_aload_n X.1 X.2.1 d_M_receive_135 rfl (lv_at hl 0 rfl) ?_
                refine m_get X Y 134 (by decide) lk_sessionTypes (gf_sessionTypes _ _ _) rfl d_M_receive_136 ?_
                refine lv_iload_n X.1 X.2.1 d_M_receive_139 rfl (lv_at hl 1 rfl) ?_
                refine r_iald X Y S (aw_sessionTypes _ _ _ _ _ _ _) rfl (by omega) (show a1 < ((8 : Nat) : Int) by omega) (by omega) d_M_receive_140 (fun z130 q130 l130 u130 => ?_)
                refine lv_i2l X.1 X.2.1 d_M_receive_141 rfl ?_
                refine t_anyl (fun v131 => ?_)
                refine W.lcmp X.1 X.2.1 d_M_receive_142 ?_
                refine t_u (fun z132 l132 u132 => ?_)
                refine z_if_eq (tgt := 149) X.1 X.2.1 d_M_receive_143 (by decide) ⟨by omega, by omega⟩ (fun h133 => ?_) (fun h133 => ?_)
                · refine lv_aload_n X.1 X.2.1 d_M_receive_149 rfl (lv_at hl 0 rfl) ?_
                  refine lv_aload_n X.1 X.2.1 d_M_receive_150 rfl (lv_at hl 0 rfl) ?_
                  refine lv_bipush (v := iI 6) X.1 X.2.1 d_M_receive_151 (by decide) ?_
                  refine lv_iconst (v := iI 2) X.1 X.2.1 d_M_receive_153 (by decide) ?_
                  refine r_ni (m_run (As := [.int (iI 6), .int (iI 2)]) (rest := [.ref h]) (n := 2) X Y hZ hA hml hl.1 (r_M_a l D E h q H.size I129 J129 B128 G129 6 (by decide) (by decide) 2 (by decide) (by decide) S.1) kl_M_a ks_M_a kx_M_a ki_M_a ini_M hd_M_a ⟨Nat.le_of_ble_eq_true rfl, Nat.le_of_ble_eq_true rfl⟩ rfl (Nat.le_of_ble_eq_true rfl) d_M_receive_154 ⟨Nat.le_refl _, Nat.le_refl _⟩) X Y hA S (by decide) (by decide) (fun z134 u H locs Y S s134 p134 => ?_)
                  obtain ⟨I134, J134, B134, G134⟩ := u
                  dsimp only at Y S s134 p134
                  have i134 : I129 = I134 := (funext (fun j => s134.2.1 j (by simp))).symm
                  subst i134
                  have b134 : B128 = B134 := (funext (fun j => s134.2.2 j (by simp))).symm
                  subst b134
                  obtain ⟨l134, u134, x134⟩ := p134
                  refine lv_aload_n X.1 X.2.1 d_M_receive_157 rfl (lv_at hl 0 rfl) ?_
                  refine lv_bipush (v := iI 6) X.1 X.2.1 d_M_receive_158 (by decide) ?_
                  refine lv_iconst (v := iI 2) X.1 X.2.1 d_M_receive_160 (by decide) ?_
                  refine r_ni (m_run (As := [.int (iI 6), .int (iI 2)]) (rest := [.int (iI z134), .ref h]) (n := 2) X Y hZ hA hml hl.1 (r_M_b l D E h q H.size I129 J134 B128 G134 6 (by decide) (by decide) 2 (by decide) (by decide) S.1) kl_M_b ks_M_b kx_M_b ki_M_b ini_M hd_M_b ⟨Nat.le_of_ble_eq_true rfl, Nat.le_of_ble_eq_true rfl⟩ rfl (Nat.le_of_ble_eq_true rfl) d_M_receive_161 ⟨Nat.le_refl _, Nat.le_refl _⟩) X Y hA S (by decide) (by decide) (fun z135 u H locs Y S s135 p135 => ?_)
                  obtain ⟨I135, J135, B135, G135⟩ := u
                  dsimp only at Y S s135 p135
                  have i135 : I129 = I135 := (funext (fun j => s135.2.1 j (by simp))).symm
                  subst i135
                  have b135 : B128 = B135 := (funext (fun j => s135.2.2 j (by simp))).symm
                  subst b135
                  obtain ⟨l135, u135, x135⟩ := p135
                  have p136 : pr z134 z135 := by rw [x134, x135]; exact (pG2_cg rfl rfl (pG2_cg rfl rfl (pG2_cg rfl rfl g128_P2))) (16 * 6 + 2 : Int).toNat (by omega)
                  unfold pr at p136
                  refine lv_iconst (v := iI 4) X.1 X.2.1 d_M_receive_164 (by decide) ?_
                  refine r_ni (m_run (As := [.int (iI z134), .int (iI z135), .int (iI 4)]) (rest := []) (n := 3) X Y hZ hA hml hl.1 (r_M_element l D E h q H.size I129 J135 B128 G135 z134 (by omega) (by omega) z135 (by omega) (by omega) 4 (by decide) (by decide) S.1 (B128 0) rfl (pG1_cg rfl rfl (pG1_cg rfl rfl g129_P1)) (by omega) (by omega)) kl_M_element ks_M_element kx_M_element ki_M_element ini_M hd_M_element ⟨Nat.le_of_ble_eq_true rfl, Nat.le_of_ble_eq_true rfl⟩ rfl (Nat.le_of_ble_eq_true rfl) d_M_receive_165 ⟨Nat.le_refl _, Nat.le_refl _⟩) X Y hA S (by decide) (by decide) (fun z137 u H locs Y S s137 p137 => ?_)
                  obtain ⟨I137, J137, B137, G137⟩ := u
                  dsimp only at Y S s137 p137
                  have b137 : B128 = B137 := (funext (fun j => s137.2.2 j (by simp))).symm
                  subst b137
                  obtain ⟨l137, u137, x137, st137⟩ := p137
                  obtain ⟨x138, y138, ex138, ey138, lx138, ly138, uy138, dy138, iy138, ky138⟩ := st137
                  refine lv_pop X.1 X.2.1 d_M_receive_168 rfl ?_
                  refine lv_aload_n X.1 X.2.1 d_M_receive_169 rfl (lv_at hl 0 rfl) ?_
                  refine lv_aload_n X.1 X.2.1 d_M_receive_170 rfl (lv_at hl 0 rfl) ?_
                  refine m_get X Y 58 (by decide) lk_key (gf_key _ _ _) rfl d_M_receive_171 ?_
                  refine lv_aload_n X.1 X.2.1 d_M_receive_174 rfl (lv_at hl 0 rfl) ?_
                  refine m_get X Y 134 (by decide) lk_sessionTypes (gf_sessionTypes _ _ _) rfl d_M_receive_175 ?_
                  refine lv_iload_n X.1 X.2.1 d_M_receive_178 rfl (lv_at hl 1 rfl) ?_
                  refine r_iald X Y S (aw_sessionTypes _ _ _ _ _ _ _) rfl (by omega) (show a1 < ((8 : Nat) : Int) by omega) (by omega) d_M_receive_179 (fun z139 q139 l139 u139 => ?_)
                  refine lv_bipush (v := iI 13) X.1 X.2.1 d_M_receive_180 (by decide) ?_
                  refine lv_aload_n X.1 X.2.1 d_M_receive_182 rfl (lv_at hl 0 rfl) ?_
                  refine r_get0 X Y (by decide) lk_inside (gf_inside _ _ _) rfl ex138 d_M_receive_183 ?_
                  refine lv_aload_n X.1 X.2.1 d_M_receive_186 rfl (lv_at hl 0 rfl) ?_
                  refine r_get0 X Y (by decide) lk_behind (gf_behind _ _ _) rfl ey138 d_M_receive_187 ?_
                  refine lv_sipush (v := iI 4200) X.1 X.2.1 d_M_receive_190 (by decide) ?_
                  refine r_ni (m_run (As := [.ref ((q 58)), .int (iI z139), .int (iI 13), .int (iI x138), .int (iI y138), .int (iI 4200)]) (rest := []) (n := 6) X Y hZ hA hml hl.1 (r_M_open_key l D E h q H.size I137 J137 B128 G137 z139 (by omega) (by omega) 13 (by decide) (by decide) x138 (by omega) (by omega) y138 (by omega) (by omega) 4200 (by decide) (by decide) S.1 (by omega) (by omega)) kl_M_open ks_M_open kx_M_open ki_M_open ini_M hd_M_open ⟨Nat.le_of_ble_eq_true rfl, Nat.le_of_ble_eq_true rfl⟩ rfl (Nat.le_of_ble_eq_true rfl) d_M_receive_193 ⟨Nat.le_refl _, Nat.le_refl _⟩) X Y hA S (by decide) (by decide) (fun z140 u H locs Y S s140 p140 => ?_)
                  obtain ⟨I140, J140, B140, G140⟩ := u
                  dsimp only at Y S s140 p140
                  obtain ⟨l140, u140, x140, g140_MF⟩ := p140
                  refine lv_istore (lv' := [(4, .int (iI z140)), (0, .ref h), (1, .int (iI a1)), (2, .int (iI a2))]) X.1 X.2.1 d_M_receive_196 hl (by decide) rfl (fun ls hl => ?_)
                  refine lv_iload X.1 X.2.1 d_M_receive_198 (lv_at hl 0 rfl) ?_
                  refine z_if_ge (tgt := 206) X.1 X.2.1 d_M_receive_200 (by decide) ⟨by omega, by omega⟩ (fun h141 => ?_) (fun h141 => ?_)
                  · refine lv_aload_n X.1 X.2.1 d_M_receive_206 rfl (lv_at hl 1 rfl) ?_
                    refine lv_bipush (v := iI 28) X.1 X.2.1 d_M_receive_207 (by decide) ?_
                    refine m_ldcSW (i := 9) X (by decide) (by decide) d_M_receive_209 ?_
                    refine lv_sipush (v := iI 4200) X.1 X.2.1 d_M_receive_212 (by decide) ?_
                    refine lv_sipush (v := iI 4200) X.1 X.2.1 d_M_receive_215 (by decide) ?_
                    refine lv_iload X.1 X.2.1 d_M_receive_218 (lv_at hl 0 rfl) ?_
                    refine z_iadd X.1 X.2.1 d_M_receive_220 ?_
                    refine lv_iconst (v := iI 4) X.1 X.2.1 d_M_receive_221 (by decide) ?_
                    refine r_ni (m_run (As := [.int (iI 28), .ref ((D.2.1 9)), .int (iI 4200), .int (iI (4200 + z140)), .int (iI 4)]) (rest := []) (n := 5) X Y hZ hA hml hl.1 (r_M_applied_t l D E h q H.size I140 J140 B140 G140 28 (by decide) (by decide) 9 (show 9 < nZ by decide) 4200 (by decide) (by decide) (4200 + z140) (by omega) (by omega) 4 (by decide) (by decide) S.1 5 (B140 0) rfl (isF (B140 0) 5) (by decide) (hisU (show rki 9 ≤ 5 by decide)) (pG1_cg (s140.2.1 39 (by decide)) (s140.2.1 40 (by decide)) (show pG1 I137 from ⟨x138, y138, ex138, ey138, by omega, by omega, by omega, by omega⟩)) (pG2_cg (s140.2.2 37 (by decide)) (s140.2.2 38 (by decide)) (pG2_cg rfl rfl (pG2_cg rfl rfl (pG2_cg rfl rfl (pG2_cg rfl rfl g128_P2))))) (by omega) (by omega)) kl_M_applied ks_M_applied kx_M_applied ki_M_applied ini_M hd_M_applied ⟨Nat.le_of_ble_eq_true rfl, Nat.le_of_ble_eq_true rfl⟩ rfl (Nat.le_of_ble_eq_true rfl) d_M_receive_222 ⟨Nat.le_refl _, Nat.le_refl _⟩) X Y hA S (by decide) (by decide) (fun z142 u H locs Y S s142 p142 => ?_)
                    obtain ⟨I142, J142, B142, G142⟩ := u
                    dsimp only at Y S s142 p142
                    obtain ⟨l142, u142, x142, st142, g142_P1, g142_P2⟩ := p142
                    have g142_TF : thF [4] (B140 37) (B140 38) (B142 37) (B142 38) := thF_of st142.1
                    refine z_if_ne (tgt := 231) X.1 X.2.1 d_M_receive_225 (by decide) ⟨by omega, by omega⟩ (fun h143 => ?_) (fun h143 => ?_)
                    · refine lv_aload_n X.1 X.2.1 d_M_receive_231 rfl (lv_at hl 1 rfl) ?_
                      refine lv_iload_n X.1 X.2.1 d_M_receive_232 rfl (lv_at hl 2 rfl) ?_
                      refine lv_iload_n X.1 X.2.1 d_M_receive_233 rfl (lv_at hl 3 rfl) ?_
                      refine r_ni (m_run (As := [.int (iI a1), .int (iI a2)]) (rest := []) (n := 2) X Y hZ hA hml hl.1 (r_M_heard l D E h q H.size I142 J142 B142 G142 a1 (by omega) (by omega) a2 (by omega) (by omega) S.1 g142_P1 g142_P2 (sA_cg (s142.2.2 135 (by decide)) (sA_cg (s140.2.2 135 (by decide)) (sA_cg rfl (sA_cg rfl (sA_cg rfl (sA_cg rfl (sA_cg (s128.2.2 135 (by decide)) (sA_cg rfl (sA_cg rfl f119)))))))))) kl_M_heard ks_M_heard kx_M_heard ki_M_heard ini_M hd_M_heard ⟨Nat.le_of_ble_eq_true rfl, Nat.le_of_ble_eq_true rfl⟩ rfl (Nat.le_of_ble_eq_true rfl) d_M_receive_234 ⟨Nat.le_refl _, Nat.le_refl _⟩) X Y hA S (by decide) (by decide) (fun z144 u H locs Y S s144 p144 => ?_)
                      obtain ⟨I144, J144, B144, G144⟩ := u
                      dsimp only at Y S s144 p144
                      obtain ⟨l144, u144, g144_P1, g144_P2⟩ := p144
                      exact m_reti hQQ X Y hr hlk ⟨S, z144, rfl, ⟨by omega, by omega, g144_P1, g144_P2⟩⟩ d_M_receive_237
                    · refine lv_bipush (v := iI (-60)) X.1 X.2.1 d_M_receive_228 (by decide) ?_
                      exact m_reti hQQ X Y hr hlk ⟨S, (-60), rfl, ⟨by omega, by omega, g142_P1, g142_P2⟩⟩ d_M_receive_230
                  · refine lv_bipush (v := iI (-31)) X.1 X.2.1 d_M_receive_203 (by decide) ?_
                    exact m_reti hQQ X Y hr hlk ⟨S, (-31), rfl, ⟨by omega, by omega, (pG1_cg (s140.2.1 39 (by decide)) (s140.2.1 40 (by decide)) (show pG1 I137 from ⟨x138, y138, ex138, ey138, by omega, by omega, by omega, by omega⟩)), (pG2_cg (s140.2.2 37 (by decide)) (s140.2.2 38 (by decide)) (pG2_cg rfl rfl (pG2_cg rfl rfl (pG2_cg rfl rfl (pG2_cg rfl rfl g128_P2)))))⟩⟩ d_M_receive_205
                · refine lv_bipush (v := iI (-31)) X.1 X.2.1 d_M_receive_146 (by decide) ?_
                  exact m_reti hQQ X Y hr hlk ⟨S, (-31), rfl, ⟨by omega, by omega, g129_P1, (pG2_cg rfl rfl g128_P2)⟩⟩ d_M_receive_148
              · refine lv_aload_n X.1 X.2.1 d_M_receive_81 rfl (lv_at hl 0 rfl) ?_
                refine m_get X Y 58 (by decide) lk_key (gf_key _ _ _) rfl d_M_receive_82 ?_
                refine lv_iload X.1 X.2.1 d_M_receive_85 (lv_at hl 3 rfl) ?_
                refine lv_aload_n X.1 X.2.1 d_M_receive_87 rfl (lv_at hl 0 rfl) ?_
                refine m_get X Y 136 (by decide) lk_sessionKeys (gf_sessionKeys _ _ _) rfl d_M_receive_88 ?_
                refine lv_bipush (v := iI 32) X.1 X.2.1 d_M_receive_91 (by decide) ?_
                refine lv_iload_n X.1 X.2.1 d_M_receive_93 rfl (lv_at hl 1 rfl) ?_
                refine z_imul X.1 X.2.1 d_M_receive_94 ?_
                refine lv_iload X.1 X.2.1 d_M_receive_95 (lv_at hl 3 rfl) ?_
                refine z_iadd X.1 X.2.1 d_M_receive_97 ?_
                refine r_bald X Y S (aw_sessionKeys _ _ _ _ _ _ _) rfl (by omega) (show (32 * a1) + z116 < ((256 : Nat) : Int) by omega) (by omega) d_M_receive_98 (fun z145 q145 l145 u145 => ?_)
                refine r_bast X Y S (aw_key _ _ _ _ _ _ _) (sw_key _ _ _ _ _ _ _) rfl (by omega) (show z116 < ((32 : Nat) : Int) by omega) (by omega) (by decide) d_M_receive_99 (fun B146 H locs Y S w146 => ?_)
                refine lv_iinc (v := iI (z116 + 1)) (lv' := [(4, .int (iI (z116 + 1))), (0, .ref h), (1, .int (iI a1)), (2, .int (iI a2))]) X.1 X.2.1 d_M_receive_100 hl (k := 3) rfl ((iI_add _ _).trans (congrArg iI (by omega))) (by decide) rfl (fun ls hl => ?_)
                refine lv_goto (tgt := 74) X.1 X.2.1 d_M_receive_103 (by decide) ?_
                exact ih121 ((32 - (z116 + 1)).toNat) (by omega) (z116 + 1) I115 J115 B146 G115 _ _ _ rfl (by omega) (by omega) (pG1_cg rfl rfl f117) (pG2_cg (w146.2 37 (by decide)) (w146.2 38 (by decide)) f118) (sA_cg (w146.2 135 (by decide)) f119) Y S (lv_sub hl [1, 2, 3, 0] rfl)
          refine lv_istore (lv' := [(4, .int (iI 0)), (3, .int (iI z101)), (0, .ref h), (1, .int (iI a1)), (2, .int (iI a2))]) X.1 X.2.1 d_M_receive_72 hl (by decide) rfl (fun ls hl => ?_)
          exact J120 _ 0 I112 J112 B107 G112 _ _ _ rfl (by omega) (by omega) g112_P1 (pG2_cg rfl rfl (pG2_cg rfl rfl g107_P2)) (sA_cg rfl (sA_cg rfl (sA_cg (s107.2.2 135 (by decide)) f106))) Y S (lv_sub hl [2, 3, 4, 0] rfl)
        · refine lv_bipush (v := iI (-40)) X.1 X.2.1 d_M_receive_68 (by decide) ?_
          exact m_reti hQQ X Y hr hlk ⟨S, (-40), rfl, ⟨by omega, by omega, g112_P1, (pG2_cg rfl rfl (pG2_cg rfl rfl g107_P2))⟩⟩ d_M_receive_70
      · refine lv_bipush (v := iI (-3)) X.1 X.2.1 d_M_receive_52 (by decide) ?_
        exact m_reti hQQ X Y hr hlk ⟨S, (-3), rfl, ⟨by omega, by omega, g109_P1, (pG2_cg rfl rfl g107_P2)⟩⟩ d_M_receive_54
    · refine lv_bipush (v := iI (-60)) X.1 X.2.1 d_M_receive_36 (by decide) ?_
      exact m_reti hQQ X Y hr hlk ⟨S, (-60), rfl, ⟨by omega, by omega, g107_P1, g107_P2⟩⟩ d_M_receive_38
  · refine lv_iconst (v := iI (-1)) X.1 X.2.1 d_M_receive_19 (by decide) ?_
    exact m_reti hQQ X Y hr hlk ⟨S, (-1), rfl, ⟨by omega, by omega, (pG1_cg rfl rfl (pG1_cg (w102.2 39 (by decide)) (w102.2 40 (by decide)) f_P1)), (pG2_cg rfl rfl (pG2_cg rfl rfl f_P2))⟩⟩ d_M_receive_20
set_option maxHeartbeats 4000000 in
set_option maxRecDepth 100000 in
theorem r_M_assured (l : Launch) (D : mD) (E : mE) (h : Nat) (q : Nat → Nat) (sz : Nat) (I : Nat → Int32) (J : Nat → Int64) (B : Nat → Nat → Int32) (G : Nat → Nat → Int64) (a1 : Int) (l_a1 : (-2147483648) ≤ a1) (u_a1 : a1 ≤ 2147483647) (a2 : Int) (l_a2 : (-2147483648) ≤ a2) (u_a2 : a2 ≤ 2147483647) (hT : rT I B) (f_P1 : pG1 I) (f_P2 : pG2 (B 37) (B 38)) : Met l y_M_assured (k_M_assured :: lw_tg) (mR 45 2045) (va_Pc [.ref h, .int (iI a1), .int (iI a2)] (mPre D E h q (I, J, B, G) sz)) (va_Qi (rPi [2, 3, 8, 14, 18, 39, 40] [1, 5, 6, 7, 9, 10, 11, 12, 13, 15, 16, 17, 19, 20, 21, 22, 23, 37, 38, 58] I B (fun (z : Int) (u : mS) => (-2147483648) ≤ z ∧ z ≤ 2147483647 ∧ pG1 u.1 ∧ pG2 (u.2.2.1 37) (u.2.2.1 38))) (mPost D E h q (mA E h q sz)) (mA E h q sz)) 0 0 (mA E h q sz) := by
  refine m_enter (by decide) rfl (Nat.le_of_ble_eq_true rfl) (fun p e s m below meth c ls AV QQ H locs hQQ X Y hZ hA hr hlk hml hl => ?_)
  have Y : mH D E (mA E h q sz) s.heap h q I J B G H locs := Y
  have S : rS [2, 3, 8, 14, 18, 39, 40] [1, 5, 6, 7, 9, 10, 11, 12, 13, 15, 16, 17, 19, 20, 21, 22, 23, 37, 38, 58] I B I B := rS_rf hT
  have hl : lv_has ls 5 [(0, .ref h), (1, .int (iI a1)), (2, .int (iI a2))] := hl
  refine lv_aload_n X.1 X.2.1 d_M_assured_0 rfl (lv_at hl 0 rfl) ?_
  refine r_geti (k := 2) X Y S (by decide) lk_length (gf_length _ _ _) rfl rfl d_M_assured_1 (fun z101 e101 l101 u101 => ?_)
  refine lv_istore_n (lv' := [(3, .int (iI z101)), (0, .ref h), (1, .int (iI a1)), (2, .int (iI a2))]) X.1 X.2.1 d_M_assured_4 rfl hl (by decide) rfl (fun ls hl => ?_)
  refine lv_aload_n X.1 X.2.1 d_M_assured_5 rfl (lv_at hl 1 rfl) ?_
  refine lv_iconst (v := iI 0) X.1 X.2.1 d_M_assured_6 (by decide) ?_
  refine r_puti (k := 2) X Y S (by decide) lk_length rfl rfl (t_M_ok 2 (by decide)) rfl rfl (sf_length _ _ _ _) (Nat.le_of_ble_eq_true rfl) rfl (show (0 : Int) ≤ 0 by omega) (show 0 ≤ (4000 : Int) by omega) ⟨by omega, by omega⟩ (by decide) d_M_assured_7 (fun I102 H locs Y S w102 => ?_)
  refine lv_aload_n X.1 X.2.1 d_M_assured_10 rfl (lv_at hl 1 rfl) ?_
  refine lv_iload_n X.1 X.2.1 d_M_assured_11 rfl (lv_at hl 2 rfl) ?_
  refine lv_iload_n X.1 X.2.1 d_M_assured_12 rfl (lv_at hl 3 rfl) ?_
  refine r_ni (m_run (As := [.int (iI a1), .int (iI a2)]) (rest := []) (n := 2) X Y hZ hA hml hl.1 (r_M_hasSide l D E h q H.size I102 J B G a1 (by omega) (by omega) a2 (by omega) (by omega) S.1) kl_M_hasSide ks_M_hasSide kx_M_hasSide ki_M_hasSide ini_M hd_M_hasSide ⟨Nat.le_of_ble_eq_true rfl, Nat.le_of_ble_eq_true rfl⟩ rfl (Nat.le_of_ble_eq_true rfl) d_M_assured_13 ⟨Nat.le_refl _, Nat.le_refl _⟩) X Y hA S (by decide) (by decide) (fun z103 u H locs Y S s103 p103 => ?_)
  obtain ⟨I103, J103, B103, G103⟩ := u
  dsimp only at Y S s103 p103
  have i103 : I102 = I103 := (funext (fun j => s103.2.1 j (by simp))).symm
  subst i103
  have b103 : B = B103 := (funext (fun j => s103.2.2 j (by simp))).symm
  subst b103
  obtain ⟨l103, u103, x103, st103⟩ := p103
  refine z_if_ne (tgt := 21) X.1 X.2.1 d_M_assured_16 (by decide) ⟨by omega, by omega⟩ (fun h104 => ?_) (fun h104 => ?_)
  · have f105 : sA a1 a2 (B 135) := st103 (by omega)
    have f106 : sA a1 a2 (B 135) := st103 (by omega)
    refine lv_aload_n X.1 X.2.1 d_M_assured_21 rfl (lv_at hl 1 rfl) ?_
    refine lv_bipush (v := iI 20) X.1 X.2.1 d_M_assured_22 (by decide) ?_
    refine m_ldcSW (i := 23) X (by decide) (by decide) d_M_assured_24 ?_
    refine lv_iconst (v := iI 0) X.1 X.2.1 d_M_assured_27 (by decide) ?_
    refine lv_iload_n X.1 X.2.1 d_M_assured_28 rfl (lv_at hl 0 rfl) ?_
    refine lv_iconst (v := iI 0) X.1 X.2.1 d_M_assured_29 (by decide) ?_
    refine r_ni (m_run (As := [.int (iI 20), .ref ((D.2.1 23)), .int (iI 0), .int (iI z101), .int (iI 0)]) (rest := []) (n := 5) X Y hZ hA hml hl.1 (r_M_applied_t l D E h q H.size I102 J103 B G103 20 (by decide) (by decide) 23 (show 23 < nZ by decide) 0 (by decide) (by decide) z101 (by omega) (by omega) 0 (by decide) (by decide) S.1 5 (B 0) rfl (isF (B 0) 5) (by decide) (hisU (show rki 23 ≤ 5 by decide)) (pG1_cg rfl rfl (pG1_cg (w102.2 39 (by decide)) (w102.2 40 (by decide)) f_P1)) (pG2_cg rfl rfl (pG2_cg rfl rfl f_P2)) (by omega) (by omega)) kl_M_applied ks_M_applied kx_M_applied ki_M_applied ini_M hd_M_applied ⟨Nat.le_of_ble_eq_true rfl, Nat.le_of_ble_eq_true rfl⟩ rfl (Nat.le_of_ble_eq_true rfl) d_M_assured_30 ⟨Nat.le_refl _, Nat.le_refl _⟩) X Y hA S (by decide) (by decide) (fun z107 u H locs Y S s107 p107 => ?_)
    obtain ⟨I107, J107, B107, G107⟩ := u
    dsimp only at Y S s107 p107
    obtain ⟨l107, u107, x107, st107, g107_P1, g107_P2⟩ := p107
    have g107_TF : thF [0] (B 37) (B 38) (B107 37) (B107 38) := thF_of st107.1
    refine z_if_ne (tgt := 39) X.1 X.2.1 d_M_assured_33 (by decide) ⟨by omega, by omega⟩ (fun h108 => ?_) (fun h108 => ?_)
    · refine lv_aload_n X.1 X.2.1 d_M_assured_39 rfl (lv_at hl 1 rfl) ?_
      refine lv_iconst (v := iI 0) X.1 X.2.1 d_M_assured_40 (by decide) ?_
      refine lv_iconst (v := iI 0) X.1 X.2.1 d_M_assured_41 (by decide) ?_
      refine r_nl (m_run (As := [.int (iI 0), .int (iI 0)]) (rest := []) (n := 2) X Y hZ hA hml hl.1 (r_M_numberAt l D E h q H.size I107 J107 B107 G107 0 (by decide) (by decide) 0 (by decide) (by decide) S.1 g107_P1 g107_P2) kl_M_numberAt ks_M_numberAt kx_M_numberAt ki_M_numberAt ini_M hd_M_numberAt ⟨Nat.le_of_ble_eq_true rfl, Nat.le_of_ble_eq_true rfl⟩ rfl (Nat.le_of_ble_eq_true rfl) d_M_assured_42 ⟨Nat.le_refl _, Nat.le_refl _⟩) X Y hA S (by decide) (by decide) (fun v109 u H locs Y S s109 p109 => ?_)
      obtain ⟨I109, J109, B109, G109⟩ := u
      dsimp only at Y S s109 p109
      have b109 : B107 = B109 := (funext (fun j => s109.2.2 j (by simp))).symm
      subst b109
      have g109_P1 := p109
      refine lv_ldc2 (v := (5)) X.1 X.2.1 X.2.2.2.1 (X.2.2.1 _ cl_M_669) d_M_assured_45 ?_
      refine W.lcmp X.1 X.2.1 d_M_assured_48 ?_
      refine t_u (fun z110 l110 u110 => ?_)
      refine z_if_eq (tgt := 55) X.1 X.2.1 d_M_assured_49 (by decide) ⟨by omega, by omega⟩ (fun h111 => ?_) (fun h111 => ?_)
      · refine lv_aload_n X.1 X.2.1 d_M_assured_55 rfl (lv_at hl 1 rfl) ?_
        refine lv_iconst (v := iI 0) X.1 X.2.1 d_M_assured_56 (by decide) ?_
        refine lv_iconst (v := iI 1) X.1 X.2.1 d_M_assured_57 (by decide) ?_
        refine r_nl (m_run (As := [.int (iI 0), .int (iI 1)]) (rest := []) (n := 2) X Y hZ hA hml hl.1 (r_M_numberAt l D E h q H.size I109 J109 B107 G109 0 (by decide) (by decide) 1 (by decide) (by decide) S.1 g109_P1 (pG2_cg rfl rfl g107_P2)) kl_M_numberAt ks_M_numberAt kx_M_numberAt ki_M_numberAt ini_M hd_M_numberAt ⟨Nat.le_of_ble_eq_true rfl, Nat.le_of_ble_eq_true rfl⟩ rfl (Nat.le_of_ble_eq_true rfl) d_M_assured_58 ⟨Nat.le_refl _, Nat.le_refl _⟩) X Y hA S (by decide) (by decide) (fun v112 u H locs Y S s112 p112 => ?_)
        obtain ⟨I112, J112, B112, G112⟩ := u
        dsimp only at Y S s112 p112
        have b112 : B107 = B112 := (funext (fun j => s112.2.2 j (by simp))).symm
        subst b112
        have g112_P1 := p112
        refine lv_ldc2 (v := (20)) X.1 X.2.1 X.2.2.2.1 (X.2.2.1 _ cl_M_1003) d_M_assured_61 ?_
        refine W.lcmp X.1 X.2.1 d_M_assured_64 ?_
        refine t_u (fun z113 l113 u113 => ?_)
        refine z_if_eq (tgt := 71) X.1 X.2.1 d_M_assured_65 (by decide) ⟨by omega, by omega⟩ (fun h114 => ?_) (fun h114 => ?_)
        · refine lv_aload_n X.1 X.2.1 d_M_assured_71 rfl (lv_at hl 1 rfl) ?_
          refine m_ldcSW (i := 6) X (by decide) (by decide) d_M_assured_72 ?_
          refine lv_aload_n X.1 X.2.1 d_M_assured_75 rfl (lv_at hl 1 rfl) ?_
          refine lv_iconst (v := iI 0) X.1 X.2.1 d_M_assured_76 (by decide) ?_
          refine lv_iconst (v := iI 3) X.1 X.2.1 d_M_assured_77 (by decide) ?_
          refine r_ni (m_run (As := [.int (iI 0), .int (iI 3)]) (rest := [.ref ((D.2.1 6)), .ref h]) (n := 2) X Y hZ hA hml hl.1 (r_M_a l D E h q H.size I112 J112 B107 G112 0 (by decide) (by decide) 3 (by decide) (by decide) S.1) kl_M_a ks_M_a kx_M_a ki_M_a ini_M hd_M_a ⟨Nat.le_of_ble_eq_true rfl, Nat.le_of_ble_eq_true rfl⟩ rfl (Nat.le_of_ble_eq_true rfl) d_M_assured_78 ⟨Nat.le_refl _, Nat.le_refl _⟩) X Y hA S (by decide) (by decide) (fun z115 u H locs Y S s115 p115 => ?_)
          obtain ⟨I115, J115, B115, G115⟩ := u
          dsimp only at Y S s115 p115
          have i115 : I112 = I115 := (funext (fun j => s115.2.1 j (by simp))).symm
          subst i115
          have b115 : B107 = B115 := (funext (fun j => s115.2.2 j (by simp))).symm
          subst b115
          obtain ⟨l115, u115, x115⟩ := p115
          refine lv_aload_n X.1 X.2.1 d_M_assured_81 rfl (lv_at hl 1 rfl) ?_
          refine lv_iconst (v := iI 0) X.1 X.2.1 d_M_assured_82 (by decide) ?_
          refine lv_iconst (v := iI 3) X.1 X.2.1 d_M_assured_83 (by decide) ?_
          refine r_ni (m_run (As := [.int (iI 0), .int (iI 3)]) (rest := [.int (iI z115), .ref ((D.2.1 6)), .ref h]) (n := 2) X Y hZ hA hml hl.1 (r_M_b l D E h q H.size I112 J115 B107 G115 0 (by decide) (by decide) 3 (by decide) (by decide) S.1) kl_M_b ks_M_b kx_M_b ki_M_b ini_M hd_M_b ⟨Nat.le_of_ble_eq_true rfl, Nat.le_of_ble_eq_true rfl⟩ rfl (Nat.le_of_ble_eq_true rfl) d_M_assured_84 ⟨Nat.le_refl _, Nat.le_refl _⟩) X Y hA S (by decide) (by decide) (fun z116 u H locs Y S s116 p116 => ?_)
          obtain ⟨I116, J116, B116, G116⟩ := u
          dsimp only at Y S s116 p116
          have i116 : I112 = I116 := (funext (fun j => s116.2.1 j (by simp))).symm
          subst i116
          have b116 : B107 = B116 := (funext (fun j => s116.2.2 j (by simp))).symm
          subst b116
          obtain ⟨l116, u116, x116⟩ := p116
          have p117 : pr z115 z116 := by rw [x115, x116]; exact (pG2_cg rfl rfl (pG2_cg rfl rfl (pG2_cg rfl rfl (pG2_cg rfl rfl g107_P2)))) (16 * 0 + 3 : Int).toNat (by omega)
          unfold pr at p117
          refine lv_bipush (v := iI 8) X.1 X.2.1 d_M_assured_87 (by decide) ?_
          refine r_ni (m_run (As := [.ref ((D.2.1 6)), .int (iI z115), .int (iI z116), .int (iI 8)]) (rest := []) (n := 4) X Y hZ hA hml hl.1 (r_M_sequence_t l D E h q H.size I112 J116 B107 G116 6 (show 6 < nZ by decide) z115 (by omega) (by omega) z116 (by omega) (by omega) 8 (by decide) (by decide) S.1 5 (B107 0) rfl (isF (B107 0) 5) (by decide) (hisU (show rki 6 ≤ 5 by decide)) (pG1_cg rfl rfl (pG1_cg rfl rfl g112_P1)) (pG2_cg rfl rfl (pG2_cg rfl rfl (pG2_cg rfl rfl (pG2_cg rfl rfl g107_P2)))) (by omega) (by omega)) kl_M_sequence ks_M_sequence kx_M_sequence ki_M_sequence ini_M hd_M_sequence ⟨Nat.le_of_ble_eq_true rfl, Nat.le_of_ble_eq_true rfl⟩ rfl (Nat.le_of_ble_eq_true rfl) d_M_assured_89 ⟨Nat.le_refl _, Nat.le_refl _⟩) X Y hA S (by decide) (by decide) (fun z118 u H locs Y S s118 p118 => ?_)
          obtain ⟨I118, J118, B118, G118⟩ := u
          dsimp only at Y S s118 p118
          obtain ⟨l118, u118, x118, st118, g118_P1, g118_P2⟩ := p118
          have g118_TF : thF [8] (B107 37) (B107 38) (B118 37) (B118 38) := thF_of st118.1
          refine lv_pop X.1 X.2.1 d_M_assured_92 rfl ?_
          refine lv_aload_n X.1 X.2.1 d_M_assured_93 rfl (lv_at hl 1 rfl) ?_
          refine lv_bipush (v := iI 8) X.1 X.2.1 d_M_assured_94 (by decide) ?_
          refine lv_iconst (v := iI 0) X.1 X.2.1 d_M_assured_96 (by decide) ?_
          refine r_nl (m_run (As := [.int (iI 8), .int (iI 0)]) (rest := []) (n := 2) X Y hZ hA hml hl.1 (r_M_numberAt l D E h q H.size I118 J118 B118 G118 8 (by decide) (by decide) 0 (by decide) (by decide) S.1 g118_P1 g118_P2) kl_M_numberAt ks_M_numberAt kx_M_numberAt ki_M_numberAt ini_M hd_M_numberAt ⟨Nat.le_of_ble_eq_true rfl, Nat.le_of_ble_eq_true rfl⟩ rfl (Nat.le_of_ble_eq_true rfl) d_M_assured_97 ⟨Nat.le_refl _, Nat.le_refl _⟩) X Y hA S (by decide) (by decide) (fun v119 u H locs Y S s119 p119 => ?_)
          obtain ⟨I119, J119, B119, G119⟩ := u
          dsimp only at Y S s119 p119
          have b119 : B118 = B119 := (funext (fun j => s119.2.2 j (by simp))).symm
          subst b119
          have g119_P1 := p119
          refine lv_aload_n X.1 X.2.1 d_M_assured_100 rfl (lv_at hl 1 rfl) ?_
          refine m_get X Y 134 (by decide) lk_sessionTypes (gf_sessionTypes _ _ _) rfl d_M_assured_101 ?_
          refine lv_iload_n X.1 X.2.1 d_M_assured_104 rfl (lv_at hl 2 rfl) ?_
          refine r_iald X Y S (aw_sessionTypes _ _ _ _ _ _ _) rfl (by omega) (show a1 < ((8 : Nat) : Int) by omega) (by omega) d_M_assured_105 (fun z120 q120 l120 u120 => ?_)
          refine lv_i2l X.1 X.2.1 d_M_assured_106 rfl ?_
          refine t_anyl (fun v121 => ?_)
          refine lv_ldc2 (v := (2)) X.1 X.2.1 X.2.2.2.1 (X.2.2.1 _ cl_M_810) d_M_assured_107 ?_
          refine lv_lsub X.1 X.2.1 d_M_assured_110 ?_
          refine t_anyl (fun v122 => ?_)
          refine W.lcmp X.1 X.2.1 d_M_assured_111 ?_
          refine t_u (fun z123 l123 u123 => ?_)
          refine z_if_eq (tgt := 118) X.1 X.2.1 d_M_assured_112 (by decide) ⟨by omega, by omega⟩ (fun h124 => ?_) (fun h124 => ?_)
          · refine lv_iconst (v := iI 0) X.1 X.2.1 d_M_assured_118 (by decide) ?_
            have J130 : ∀ (n132 : Nat) (z126 : Int) (I125 : Nat → Int32) (J125 : Nat → Int64) (B125 : Nat → Nat → Int32) (G125 : Nat → Nat → Int64) (H : Heap) (locs : List Loc) (ls : Array Slot), (32 - z126).toNat = n132 → (0 ≤ z126) → (z126 ≤ 32) → (pG1 I125) → (pG2 (B125 37) (B125 38)) → (sA a1 a2 (B125 135)) → mH D E (mA E h q sz) s.heap h q I125 J125 B125 G125 H locs → rS [2, 3, 8, 14, 18, 39, 40] [1, 5, 6, 7, 9, 10, 11, 12, 13, 15, 16, 17, 19, 20, 21, 22, 23, 37, 38, 58] I B I125 B125 → lv_has ls 5 [(0, .ref h), (1, .int (iI a1)), (2, .int (iI a2)), (4, .int (iI z126))] → W p l e (mR 45 2045) s m AV below meth c H locs 0 0 QQ (F0 m 121 ls []) := by
              intro n132
              induction n132 using Nat.strongRecOn with
              | ind n132 ih131 =>
                intro z126 I125 J125 B125 G125 H locs ls hm133 l126 u126 f127 f128 f129 Y S hl
                refine lv_iload X.1 X.2.1 d_M_assured_121 (lv_at hl 3 rfl) ?_
                refine lv_bipush (v := iI 32) X.1 X.2.1 d_M_assured_123 (by decide) ?_
                refine z_icmp_ge (tgt := 153) X.1 X.2.1 d_M_assured_125 (by decide) ⟨by omega, by omega⟩ ⟨by decide, by decide⟩ (fun h134 => ?_) (fun h134 => ?_)
                · refine lv_aload_n X.1 X.2.1 d_M_assured_153 rfl (lv_at hl 0 rfl) ?_
                  refine lv_aload_n X.1 X.2.1 d_M_assured_154 rfl (lv_at hl 0 rfl) ?_
                  refine m_get X Y 58 (by decide) lk_key (gf_key _ _ _) rfl d_M_assured_155 ?_
                  refine lv_aload_n X.1 X.2.1 d_M_assured_158 rfl (lv_at hl 0 rfl) ?_
                  refine m_get X Y 134 (by decide) lk_sessionTypes (gf_sessionTypes _ _ _) rfl d_M_assured_159 ?_
                  refine lv_iload_n X.1 X.2.1 d_M_assured_162 rfl (lv_at hl 1 rfl) ?_
                  refine r_iald X Y S (aw_sessionTypes _ _ _ _ _ _ _) rfl (by omega) (show a1 < ((8 : Nat) : Int) by omega) (by omega) d_M_assured_163 (fun z135 q135 l135 u135 => ?_)
                  refine lv_bipush (v := iI 15) X.1 X.2.1 d_M_assured_164 (by decide) ?_
                  refine lv_aload_n X.1 X.2.1 d_M_assured_166 rfl (lv_at hl 0 rfl) ?_
                  refine lv_iconst (v := iI 0) X.1 X.2.1 d_M_assured_167 (by decide) ?_
                  refine lv_iconst (v := iI 2) X.1 X.2.1 d_M_assured_168 (by decide) ?_
                  refine r_ni (m_run (As := [.int (iI 0), .int (iI 2)]) (rest := [.int (iI 15), .int (iI z135), .ref ((q 58)), .ref h]) (n := 2) X Y hZ hA hml hl.1 (r_M_a l D E h q H.size I125 J125 B125 G125 0 (by decide) (by decide) 2 (by decide) (by decide) S.1) kl_M_a ks_M_a kx_M_a ki_M_a ini_M hd_M_a ⟨Nat.le_of_ble_eq_true rfl, Nat.le_of_ble_eq_true rfl⟩ rfl (Nat.le_of_ble_eq_true rfl) d_M_assured_169 ⟨Nat.le_refl _, Nat.le_refl _⟩) X Y hA S (by decide) (by decide) (fun z136 u H locs Y S s136 p136 => ?_)
                  obtain ⟨I136, J136, B136, G136⟩ := u
                  dsimp only at Y S s136 p136
                  have i136 : I125 = I136 := (funext (fun j => s136.2.1 j (by simp))).symm
                  subst i136
                  have b136 : B125 = B136 := (funext (fun j => s136.2.2 j (by simp))).symm
                  subst b136
                  obtain ⟨l136, u136, x136⟩ := p136
                  refine lv_aload_n X.1 X.2.1 d_M_assured_172 rfl (lv_at hl 0 rfl) ?_
                  refine lv_iconst (v := iI 0) X.1 X.2.1 d_M_assured_173 (by decide) ?_
                  refine lv_iconst (v := iI 2) X.1 X.2.1 d_M_assured_174 (by decide) ?_
                  refine r_ni (m_run (As := [.int (iI 0), .int (iI 2)]) (rest := [.int (iI z136), .int (iI 15), .int (iI z135), .ref ((q 58)), .ref h]) (n := 2) X Y hZ hA hml hl.1 (r_M_b l D E h q H.size I125 J136 B125 G136 0 (by decide) (by decide) 2 (by decide) (by decide) S.1) kl_M_b ks_M_b kx_M_b ki_M_b ini_M hd_M_b ⟨Nat.le_of_ble_eq_true rfl, Nat.le_of_ble_eq_true rfl⟩ rfl (Nat.le_of_ble_eq_true rfl) d_M_assured_175 ⟨Nat.le_refl _, Nat.le_refl _⟩) X Y hA S (by decide) (by decide) (fun z137 u H locs Y S s137 p137 => ?_)
                  obtain ⟨I137, J137, B137, G137⟩ := u
                  dsimp only at Y S s137 p137
                  have i137 : I125 = I137 := (funext (fun j => s137.2.1 j (by simp))).symm
                  subst i137
                  have b137 : B125 = B137 := (funext (fun j => s137.2.2 j (by simp))).symm
                  subst b137
                  obtain ⟨l137, u137, x137⟩ := p137
                  have p138 : pr z136 z137 := by rw [x136, x137]; exact (pG2_cg rfl rfl (pG2_cg rfl rfl f128)) (16 * 0 + 2 : Int).toNat (by omega)
                  unfold pr at p138
                  refine r_nv (m_run (As := [.ref ((q 58)), .int (iI z135), .int (iI 15), .int (iI z136), .int (iI z137)]) (rest := []) (n := 5) X Y hZ hA hml hl.1 (r_M_checksum_key l D E h q H.size I125 J137 B125 G137 z135 (by omega) (by omega) 15 (by decide) (by decide) z136 (by omega) (by omega) z137 (by omega) (by omega) S.1 (by omega)) kl_M_checksum ks_M_checksum kx_M_checksum ki_M_checksum ini_M hd_M_checksum ⟨Nat.le_of_ble_eq_true rfl, Nat.le_of_ble_eq_true rfl⟩ rfl (Nat.le_of_ble_eq_true rfl) d_M_assured_178 ⟨Nat.le_refl _, Nat.le_refl _⟩) X Y hA S (by decide) (by decide) (fun u H locs Y S s139 p139 => ?_)
                  obtain ⟨I139, J139, B139, G139⟩ := u
                  dsimp only at Y S s139 p139
                  refine lv_aload_n X.1 X.2.1 d_M_assured_181 rfl (lv_at hl 0 rfl) ?_
                  refine lv_aload_n X.1 X.2.1 d_M_assured_182 rfl (lv_at hl 0 rfl) ?_
                  refine lv_bipush (v := iI 8) X.1 X.2.1 d_M_assured_183 (by decide) ?_
                  refine lv_iconst (v := iI 1) X.1 X.2.1 d_M_assured_185 (by decide) ?_
                  refine r_ni (m_run (As := [.int (iI 8), .int (iI 1)]) (rest := [.ref h]) (n := 2) X Y hZ hA hml hl.1 (r_M_a l D E h q H.size I139 J139 B139 G139 8 (by decide) (by decide) 1 (by decide) (by decide) S.1) kl_M_a ks_M_a kx_M_a ki_M_a ini_M hd_M_a ⟨Nat.le_of_ble_eq_true rfl, Nat.le_of_ble_eq_true rfl⟩ rfl (Nat.le_of_ble_eq_true rfl) d_M_assured_186 ⟨Nat.le_refl _, Nat.le_refl _⟩) X Y hA S (by decide) (by decide) (fun z140 u H locs Y S s140 p140 => ?_)
                  obtain ⟨I140, J140, B140, G140⟩ := u
                  dsimp only at Y S s140 p140
                  have i140 : I139 = I140 := (funext (fun j => s140.2.1 j (by simp))).symm
                  subst i140
                  have b140 : B139 = B140 := (funext (fun j => s140.2.2 j (by simp))).symm
                  subst b140
                  obtain ⟨l140, u140, x140⟩ := p140
                  refine lv_aload_n X.1 X.2.1 d_M_assured_189 rfl (lv_at hl 0 rfl) ?_
                  refine lv_bipush (v := iI 8) X.1 X.2.1 d_M_assured_190 (by decide) ?_
                  refine lv_iconst (v := iI 1) X.1 X.2.1 d_M_assured_192 (by decide) ?_
                  refine r_ni (m_run (As := [.int (iI 8), .int (iI 1)]) (rest := [.int (iI z140), .ref h]) (n := 2) X Y hZ hA hml hl.1 (r_M_b l D E h q H.size I139 J140 B139 G140 8 (by decide) (by decide) 1 (by decide) (by decide) S.1) kl_M_b ks_M_b kx_M_b ki_M_b ini_M hd_M_b ⟨Nat.le_of_ble_eq_true rfl, Nat.le_of_ble_eq_true rfl⟩ rfl (Nat.le_of_ble_eq_true rfl) d_M_assured_193 ⟨Nat.le_refl _, Nat.le_refl _⟩) X Y hA S (by decide) (by decide) (fun z141 u H locs Y S s141 p141 => ?_)
                  obtain ⟨I141, J141, B141, G141⟩ := u
                  dsimp only at Y S s141 p141
                  have i141 : I139 = I141 := (funext (fun j => s141.2.1 j (by simp))).symm
                  subst i141
                  have b141 : B139 = B141 := (funext (fun j => s141.2.2 j (by simp))).symm
                  subst b141
                  obtain ⟨l141, u141, x141⟩ := p141
                  have p142 : pr z140 z141 := by rw [x140, x141]; exact (pG2_cg rfl rfl (pG2_cg rfl rfl (pG2_cg (s139.2.2 37 (by decide)) (s139.2.2 38 (by decide)) (pG2_cg rfl rfl (pG2_cg rfl rfl f128))))) (16 * 8 + 1 : Int).toNat (by omega)
                  unfold pr at p142
                  refine lv_iconst (v := iI 4) X.1 X.2.1 d_M_assured_196 (by decide) ?_
                  refine r_ni (m_run (As := [.int (iI z140), .int (iI z141), .int (iI 4)]) (rest := []) (n := 3) X Y hZ hA hml hl.1 (r_M_element l D E h q H.size I139 J141 B139 G141 z140 (by omega) (by omega) z141 (by omega) (by omega) 4 (by decide) (by decide) S.1 (B139 0) rfl (pG1_cg rfl rfl (pG1_cg rfl rfl (pG1_cg (s139.2.1 39 (by decide)) (s139.2.1 40 (by decide)) (pG1_cg rfl rfl (pG1_cg rfl rfl f127))))) (by omega) (by omega)) kl_M_element ks_M_element kx_M_element ki_M_element ini_M hd_M_element ⟨Nat.le_of_ble_eq_true rfl, Nat.le_of_ble_eq_true rfl⟩ rfl (Nat.le_of_ble_eq_true rfl) d_M_assured_197 ⟨Nat.le_refl _, Nat.le_refl _⟩) X Y hA S (by decide) (by decide) (fun z143 u H locs Y S s143 p143 => ?_)
                  obtain ⟨I143, J143, B143, G143⟩ := u
                  dsimp only at Y S s143 p143
                  have b143 : B139 = B143 := (funext (fun j => s143.2.2 j (by simp))).symm
                  subst b143
                  obtain ⟨l143, u143, x143, st143⟩ := p143
                  obtain ⟨x144, y144, ex144, ey144, lx144, ly144, uy144, dy144, iy144, ky144⟩ := st143
                  refine lv_pop X.1 X.2.1 d_M_assured_200 rfl ?_
                  refine lv_aload_n X.1 X.2.1 d_M_assured_201 rfl (lv_at hl 0 rfl) ?_
                  refine r_get0 X Y (by decide) lk_behind (gf_behind _ _ _) rfl ey144 d_M_assured_202 ?_
                  refine lv_aload_n X.1 X.2.1 d_M_assured_205 rfl (lv_at hl 0 rfl) ?_
                  refine r_get0 X Y (by decide) lk_inside (gf_inside _ _ _) rfl ex144 d_M_assured_206 ?_
                  refine z_isub X.1 X.2.1 d_M_assured_209 ?_
                  refine lv_bipush (v := iI 12) X.1 X.2.1 d_M_assured_210 (by decide) ?_
                  refine z_icmp_eq (tgt := 218) X.1 X.2.1 d_M_assured_212 (by decide) ⟨by omega, by omega⟩ ⟨by decide, by decide⟩ (fun h145 => ?_) (fun h145 => ?_)
                  · refine lv_iconst (v := iI 0) X.1 X.2.1 d_M_assured_218 (by decide) ?_
                    have J147 : ∀ (n149 : Nat) (z146 : Int) (H : Heap) (locs : List Loc) (ls : Array Slot), (12 - z146).toNat = n149 → (0 ≤ z146) → (z146 ≤ 12) → mH D E (mA E h q sz) s.heap h q I143 J143 B139 G143 H locs → rS [2, 3, 8, 14, 18, 39, 40] [1, 5, 6, 7, 9, 10, 11, 12, 13, 15, 16, 17, 19, 20, 21, 22, 23, 37, 38, 58] I B I143 B139 → lv_has ls 5 [(0, .ref h), (1, .int (iI a1)), (2, .int (iI a2)), (4, .int (iI z146))] → W p l e (mR 45 2045) s m AV below meth c H locs 0 0 QQ (F0 m 221 ls []) := by
                      intro n149
                      induction n149 using Nat.strongRecOn with
                      | ind n149 ih148 =>
                        intro z146 H locs ls hm150 l146 u146 Y S hl
                        refine lv_iload X.1 X.2.1 d_M_assured_221 (lv_at hl 3 rfl) ?_
                        refine lv_bipush (v := iI 12) X.1 X.2.1 d_M_assured_223 (by decide) ?_
                        refine z_icmp_ge (tgt := 259) X.1 X.2.1 d_M_assured_225 (by decide) ⟨by omega, by omega⟩ ⟨by decide, by decide⟩ (fun h151 => ?_) (fun h151 => ?_)
                        · refine lv_aload_n X.1 X.2.1 d_M_assured_259 rfl (lv_at hl 0 rfl) ?_
                          refine m_ldcSW (i := 9) X (by decide) (by decide) d_M_assured_260 ?_
                          refine lv_aload_n X.1 X.2.1 d_M_assured_263 rfl (lv_at hl 0 rfl) ?_
                          refine lv_iconst (v := iI 0) X.1 X.2.1 d_M_assured_264 (by decide) ?_
                          refine lv_iconst (v := iI 2) X.1 X.2.1 d_M_assured_265 (by decide) ?_
                          refine r_ni (m_run (As := [.int (iI 0), .int (iI 2)]) (rest := [.ref ((D.2.1 9)), .ref h]) (n := 2) X Y hZ hA hml hl.1 (r_M_a l D E h q H.size I143 J143 B139 G143 0 (by decide) (by decide) 2 (by decide) (by decide) S.1) kl_M_a ks_M_a kx_M_a ki_M_a ini_M hd_M_a ⟨Nat.le_of_ble_eq_true rfl, Nat.le_of_ble_eq_true rfl⟩ rfl (Nat.le_of_ble_eq_true rfl) d_M_assured_266 ⟨Nat.le_refl _, Nat.le_refl _⟩) X Y hA S (by decide) (by decide) (fun z152 u H locs Y S s152 p152 => ?_)
                          obtain ⟨I152, J152, B152, G152⟩ := u
                          dsimp only at Y S s152 p152
                          have i152 : I143 = I152 := (funext (fun j => s152.2.1 j (by simp))).symm
                          subst i152
                          have b152 : B139 = B152 := (funext (fun j => s152.2.2 j (by simp))).symm
                          subst b152
                          obtain ⟨l152, u152, x152⟩ := p152
                          refine lv_aload_n X.1 X.2.1 d_M_assured_269 rfl (lv_at hl 0 rfl) ?_
                          refine lv_iconst (v := iI 0) X.1 X.2.1 d_M_assured_270 (by decide) ?_
                          refine lv_iconst (v := iI 2) X.1 X.2.1 d_M_assured_271 (by decide) ?_
                          refine r_ni (m_run (As := [.int (iI 0), .int (iI 2)]) (rest := [.int (iI z152), .ref ((D.2.1 9)), .ref h]) (n := 2) X Y hZ hA hml hl.1 (r_M_b l D E h q H.size I143 J152 B139 G152 0 (by decide) (by decide) 2 (by decide) (by decide) S.1) kl_M_b ks_M_b kx_M_b ki_M_b ini_M hd_M_b ⟨Nat.le_of_ble_eq_true rfl, Nat.le_of_ble_eq_true rfl⟩ rfl (Nat.le_of_ble_eq_true rfl) d_M_assured_272 ⟨Nat.le_refl _, Nat.le_refl _⟩) X Y hA S (by decide) (by decide) (fun z153 u H locs Y S s153 p153 => ?_)
                          obtain ⟨I153, J153, B153, G153⟩ := u
                          dsimp only at Y S s153 p153
                          have i153 : I143 = I153 := (funext (fun j => s153.2.1 j (by simp))).symm
                          subst i153
                          have b153 : B139 = B153 := (funext (fun j => s153.2.2 j (by simp))).symm
                          subst b153
                          obtain ⟨l153, u153, x153⟩ := p153
                          have p154 : pr z152 z153 := by rw [x152, x153]; exact (pG2_cg rfl rfl (pG2_cg rfl rfl (pG2_cg rfl rfl (pG2_cg rfl rfl (pG2_cg rfl rfl (pG2_cg (s139.2.2 37 (by decide)) (s139.2.2 38 (by decide)) (pG2_cg rfl rfl (pG2_cg rfl rfl f128)))))))) (16 * 0 + 2 : Int).toNat (by omega)
                          unfold pr at p154
                          refine lv_iconst (v := iI 4) X.1 X.2.1 d_M_assured_275 (by decide) ?_
                          refine r_ni (m_run (As := [.ref ((D.2.1 9)), .int (iI z152), .int (iI z153), .int (iI 4)]) (rest := []) (n := 4) X Y hZ hA hml hl.1 (r_M_sequence_t l D E h q H.size I143 J153 B139 G153 9 (show 9 < nZ by decide) z152 (by omega) (by omega) z153 (by omega) (by omega) 4 (by decide) (by decide) S.1 5 (B139 0) rfl (isF (B139 0) 5) (by decide) (hisU (show rki 9 ≤ 5 by decide)) (pG1_cg rfl rfl (pG1_cg rfl rfl (show pG1 I143 from ⟨x144, y144, ex144, ey144, by omega, by omega, by omega, by omega⟩))) (pG2_cg rfl rfl (pG2_cg rfl rfl (pG2_cg rfl rfl (pG2_cg rfl rfl (pG2_cg rfl rfl (pG2_cg (s139.2.2 37 (by decide)) (s139.2.2 38 (by decide)) (pG2_cg rfl rfl (pG2_cg rfl rfl f128)))))))) (by omega) (by omega)) kl_M_sequence ks_M_sequence kx_M_sequence ki_M_sequence ini_M hd_M_sequence ⟨Nat.le_of_ble_eq_true rfl, Nat.le_of_ble_eq_true rfl⟩ rfl (Nat.le_of_ble_eq_true rfl) d_M_assured_276 ⟨Nat.le_refl _, Nat.le_refl _⟩) X Y hA S (by decide) (by decide) (fun z155 u H locs Y S s155 p155 => ?_)
                          obtain ⟨I155, J155, B155, G155⟩ := u
                          dsimp only at Y S s155 p155
                          obtain ⟨l155, u155, x155, st155, g155_P1, g155_P2⟩ := p155
                          have g155_TF : thF [4] (B139 37) (B139 38) (B155 37) (B155 38) := thF_of st155.1
                          refine lv_pop X.1 X.2.1 d_M_assured_279 rfl ?_
                          refine lv_aload_n X.1 X.2.1 d_M_assured_280 rfl (lv_at hl 0 rfl) ?_
                          refine lv_iload_n X.1 X.2.1 d_M_assured_281 rfl (lv_at hl 1 rfl) ?_
                          refine lv_iload_n X.1 X.2.1 d_M_assured_282 rfl (lv_at hl 2 rfl) ?_
                          refine r_ni (m_run (As := [.int (iI a1), .int (iI a2)]) (rest := []) (n := 2) X Y hZ hA hml hl.1 (r_M_heard l D E h q H.size I155 J155 B155 G155 a1 (by omega) (by omega) a2 (by omega) (by omega) S.1 g155_P1 g155_P2 (sA_cg (s155.2.2 135 (by decide)) (sA_cg rfl (sA_cg rfl (sA_cg rfl (sA_cg rfl (sA_cg rfl (sA_cg (s139.2.2 135 (by decide)) (sA_cg rfl (sA_cg rfl f129)))))))))) kl_M_heard ks_M_heard kx_M_heard ki_M_heard ini_M hd_M_heard ⟨Nat.le_of_ble_eq_true rfl, Nat.le_of_ble_eq_true rfl⟩ rfl (Nat.le_of_ble_eq_true rfl) d_M_assured_283 ⟨Nat.le_refl _, Nat.le_refl _⟩) X Y hA S (by decide) (by decide) (fun z156 u H locs Y S s156 p156 => ?_)
                          obtain ⟨I156, J156, B156, G156⟩ := u
                          dsimp only at Y S s156 p156
                          obtain ⟨l156, u156, g156_P1, g156_P2⟩ := p156
                          exact m_reti hQQ X Y hr hlk ⟨S, z156, rfl, ⟨by omega, by omega, g156_P1, g156_P2⟩⟩ d_M_assured_286
                        · refine lv_aload_n X.1 X.2.1 d_M_assured_228 rfl (lv_at hl 0 rfl) ?_
                          refine m_get X Y 0 (by decide) lk_mem (gf_mem _ _ _) rfl d_M_assured_229 ?_
                          refine lv_aload_n X.1 X.2.1 d_M_assured_232 rfl (lv_at hl 0 rfl) ?_
                          refine r_get0 X Y (by decide) lk_inside (gf_inside _ _ _) rfl ex144 d_M_assured_233 ?_
                          refine lv_iload X.1 X.2.1 d_M_assured_236 (lv_at hl 3 rfl) ?_
                          refine z_iadd X.1 X.2.1 d_M_assured_238 ?_
                          refine r_bald X Y S (aw_mem _ _ _ _ _ _ _) rfl (by omega) (show x144 + z146 < ((60000 : Nat) : Int) by omega) (by omega) d_M_assured_239 (fun z157 q157 l157 u157 => ?_)
                          refine lv_aload_n X.1 X.2.1 d_M_assured_240 rfl (lv_at hl 0 rfl) ?_
                          refine m_get X Y 10 (by decide) lk_mac (gf_mac _ _ _) rfl d_M_assured_241 ?_
                          refine lv_iload X.1 X.2.1 d_M_assured_244 (lv_at hl 3 rfl) ?_
                          refine r_bald X Y S (aw_mac _ _ _ _ _ _ _) rfl (by omega) (show z146 < ((20 : Nat) : Int) by omega) (by omega) d_M_assured_246 (fun z158 q158 l158 u158 => ?_)
                          refine z_icmp_eq (tgt := 253) X.1 X.2.1 d_M_assured_247 (by decide) ⟨by omega, by omega⟩ ⟨by omega, by omega⟩ (fun h159 => ?_) (fun h159 => ?_)
                          · refine lv_iinc (v := iI (z146 + 1)) (lv' := [(4, .int (iI (z146 + 1))), (0, .ref h), (1, .int (iI a1)), (2, .int (iI a2))]) X.1 X.2.1 d_M_assured_253 hl (k := 3) rfl ((iI_add _ _).trans (congrArg iI (by omega))) (by decide) rfl (fun ls hl => ?_)
                            refine lv_goto (tgt := 221) X.1 X.2.1 d_M_assured_256 (by decide) ?_
                            exact ih148 ((12 - (z146 + 1)).toNat) (by omega) (z146 + 1) _ _ _ rfl (by omega) (by omega) Y S (lv_sub hl [1, 2, 3, 0] rfl)
                          · refine lv_bipush (v := iI (-41)) X.1 X.2.1 d_M_assured_250 (by decide) ?_
                            exact m_reti hQQ X Y hr hlk ⟨S, (-41), rfl, ⟨by omega, by omega, (show pG1 I143 from ⟨x144, y144, ex144, ey144, by omega, by omega, by omega, by omega⟩), (pG2_cg rfl rfl (pG2_cg rfl rfl (pG2_cg rfl rfl (pG2_cg (s139.2.2 37 (by decide)) (s139.2.2 38 (by decide)) (pG2_cg rfl rfl (pG2_cg rfl rfl f128))))))⟩⟩ d_M_assured_252
                    refine lv_istore (lv' := [(4, .int (iI 0)), (0, .ref h), (1, .int (iI a1)), (2, .int (iI a2))]) X.1 X.2.1 d_M_assured_219 hl (by decide) rfl (fun ls hl => ?_)
                    exact J147 _ 0 _ _ _ rfl (by omega) (by omega) Y S (lv_sub hl [1, 2, 3, 0] rfl)
                  · refine lv_bipush (v := iI (-41)) X.1 X.2.1 d_M_assured_215 (by decide) ?_
                    exact m_reti hQQ X Y hr hlk ⟨S, (-41), rfl, ⟨by omega, by omega, (show pG1 I143 from ⟨x144, y144, ex144, ey144, by omega, by omega, by omega, by omega⟩), (pG2_cg rfl rfl (pG2_cg rfl rfl (pG2_cg rfl rfl (pG2_cg (s139.2.2 37 (by decide)) (s139.2.2 38 (by decide)) (pG2_cg rfl rfl (pG2_cg rfl rfl f128))))))⟩⟩ d_M_assured_217
                · refine lv_aload_n X.1 X.2.1 d_M_assured_128 rfl (lv_at hl 0 rfl) ?_
                  refine m_get X Y 58 (by decide) lk_key (gf_key _ _ _) rfl d_M_assured_129 ?_
                  refine lv_iload X.1 X.2.1 d_M_assured_132 (lv_at hl 3 rfl) ?_
                  refine lv_aload_n X.1 X.2.1 d_M_assured_134 rfl (lv_at hl 0 rfl) ?_
                  refine m_get X Y 136 (by decide) lk_sessionKeys (gf_sessionKeys _ _ _) rfl d_M_assured_135 ?_
                  refine lv_bipush (v := iI 32) X.1 X.2.1 d_M_assured_138 (by decide) ?_
                  refine lv_iload_n X.1 X.2.1 d_M_assured_140 rfl (lv_at hl 1 rfl) ?_
                  refine z_imul X.1 X.2.1 d_M_assured_141 ?_
                  refine lv_iload X.1 X.2.1 d_M_assured_142 (lv_at hl 3 rfl) ?_
                  refine z_iadd X.1 X.2.1 d_M_assured_144 ?_
                  refine r_bald X Y S (aw_sessionKeys _ _ _ _ _ _ _) rfl (by omega) (show (32 * a1) + z126 < ((256 : Nat) : Int) by omega) (by omega) d_M_assured_145 (fun z160 q160 l160 u160 => ?_)
                  refine r_bast X Y S (aw_key _ _ _ _ _ _ _) (sw_key _ _ _ _ _ _ _) rfl (by omega) (show z126 < ((32 : Nat) : Int) by omega) (by omega) (by decide) d_M_assured_146 (fun B161 H locs Y S w161 => ?_)
                  refine lv_iinc (v := iI (z126 + 1)) (lv' := [(4, .int (iI (z126 + 1))), (0, .ref h), (1, .int (iI a1)), (2, .int (iI a2))]) X.1 X.2.1 d_M_assured_147 hl (k := 3) rfl ((iI_add _ _).trans (congrArg iI (by omega))) (by decide) rfl (fun ls hl => ?_)
                  refine lv_goto (tgt := 121) X.1 X.2.1 d_M_assured_150 (by decide) ?_
                  exact ih131 ((32 - (z126 + 1)).toNat) (by omega) (z126 + 1) I125 J125 B161 G125 _ _ _ rfl (by omega) (by omega) (pG1_cg rfl rfl f127) (pG2_cg (w161.2 37 (by decide)) (w161.2 38 (by decide)) f128) (sA_cg (w161.2 135 (by decide)) f129) Y S (lv_sub hl [1, 2, 3, 0] rfl)
            refine lv_istore (lv' := [(4, .int (iI 0)), (3, .int (iI z101)), (0, .ref h), (1, .int (iI a1)), (2, .int (iI a2))]) X.1 X.2.1 d_M_assured_119 hl (by decide) rfl (fun ls hl => ?_)
            exact J130 _ 0 I119 J119 B118 G119 _ _ _ rfl (by omega) (by omega) g119_P1 (pG2_cg rfl rfl g118_P2) (sA_cg rfl (sA_cg (s118.2.2 135 (by decide)) (sA_cg rfl (sA_cg rfl (sA_cg rfl (sA_cg rfl (sA_cg (s107.2.2 135 (by decide)) f106))))))) Y S (lv_sub hl [2, 3, 4, 0] rfl)
          · refine lv_bipush (v := iI (-50)) X.1 X.2.1 d_M_assured_115 (by decide) ?_
            exact m_reti hQQ X Y hr hlk ⟨S, (-50), rfl, ⟨by omega, by omega, g119_P1, (pG2_cg rfl rfl g118_P2)⟩⟩ d_M_assured_117
        · refine lv_bipush (v := iI (-40)) X.1 X.2.1 d_M_assured_68 (by decide) ?_
          exact m_reti hQQ X Y hr hlk ⟨S, (-40), rfl, ⟨by omega, by omega, g112_P1, (pG2_cg rfl rfl (pG2_cg rfl rfl g107_P2))⟩⟩ d_M_assured_70
      · refine lv_bipush (v := iI (-3)) X.1 X.2.1 d_M_assured_52 (by decide) ?_
        exact m_reti hQQ X Y hr hlk ⟨S, (-3), rfl, ⟨by omega, by omega, g109_P1, (pG2_cg rfl rfl g107_P2)⟩⟩ d_M_assured_54
    · refine lv_bipush (v := iI (-60)) X.1 X.2.1 d_M_assured_36 (by decide) ?_
      exact m_reti hQQ X Y hr hlk ⟨S, (-60), rfl, ⟨by omega, by omega, g107_P1, g107_P2⟩⟩ d_M_assured_38
  · refine lv_iconst (v := iI (-1)) X.1 X.2.1 d_M_assured_19 (by decide) ?_
    exact m_reti hQQ X Y hr hlk ⟨S, (-1), rfl, ⟨by omega, by omega, (pG1_cg rfl rfl (pG1_cg (w102.2 39 (by decide)) (w102.2 40 (by decide)) f_P1)), (pG2_cg rfl rfl (pG2_cg rfl rfl f_P2))⟩⟩ d_M_assured_20
