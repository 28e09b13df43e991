set_option maxHeartbeats 40000000 in
set_option maxRecDepth 100000 in
theorem r_M_initial (l : Launch) (D : mD) (E : mE) (h : Nat) (q : Nat → Nat) (sz : Nat) (I : Nat → Int32) (J : Nat → Int64) (B : Nat → Nat → Int32) (G : Nat → Nat → Int64) (hT : rT I B) (cn : Int) (gcn : I 33 = iI cn) (lcn : 0 ≤ cn) (ucn : cn ≤ 1900000) (f_P1 : pG1 I) (f_P2 : pG2 (B 37) (B 38)) (f_R3 : rwO (16 * 0 + 3 : Int).toNat (B 37) (B 38) (B 0)) (f_R24 : rwA (16 * 1 + 8 : Int).toNat (B 37) (B 38) (B 0)) (f_S1 : sz3 (16 * 1 + 1 : Int).toNat (16 * 1 + 3 : Int).toNat (16 * 1 + 9 : Int).toNat (B 37) (B 38)) (f_HD : hD I) (f_IA : I 69 = iI 1) : Met l y_M_initial (k_M_initial :: lw_tg) (mR 46 2080) (va_Pc [.ref h] (mPre D E h q (I, J, B, G) sz)) (va_Qi (rPi [3, 8, 14, 18, 29, 33, 36, 39, 40, 42, 54, 68, 70, 71, 72, 73, 74, 75, 76, 77, 78, 80, 81, 84, 85, 86, 87, 88, 89] [0, 1, 5, 6, 7, 9, 10, 11, 12, 13, 15, 16, 17, 19, 20, 21, 22, 23, 24, 34, 35, 37, 38, 53, 56, 58, 59, 60, 90] I B (fun (z : Int) (u : mS) => 0 ≤ z ∧ z ≤ 60 ∧ (∃ V2 : Int, u.1 33 = iI V2 ∧ cn ≤ V2 ∧ V2 ≤ cn + 1000) ∧ pG1 u.1 ∧ pG2 (u.2.2.1 37) (u.2.2.1 38) ∧ hD u.1)) (mPost D E h q (mA E h q sz)) (mA E h q sz)) 0 0 (mA E h q sz) := by
  refine m_enter (by decide) rfl (Nat.le_of_ble_eq_true rfl) (fun p e s m below meth c ls AV QQ H locs hQQ X Y hZ hA hr hlk hml hl => ?_)
  have Y : mH D E (mA E h q sz) s.heap h q I J B G H locs := Y
  have S : rS [3, 8, 14, 18, 29, 33, 36, 39, 40, 42, 54, 68, 70, 71, 72, 73, 74, 75, 76, 77, 78, 80, 81, 84, 85, 86, 87, 88, 89] [0, 1, 5, 6, 7, 9, 10, 11, 12, 13, 15, 16, 17, 19, 20, 21, 22, 23, 24, 34, 35, 37, 38, 53, 56, 58, 59, 60, 90] I B I B := rS_rf hT
  have hl : lv_has ls 2 [(0, .ref h)] := hl
  refine lv_aload_n X.1 X.2.1 d_M_initial_0 rfl (lv_at hl 0 rfl) ?_
  refine lv_aload_n X.1 X.2.1 d_M_initial_1 rfl (lv_at hl 0 rfl) ?_
  refine lv_iconst (v := iI 1) X.1 X.2.1 d_M_initial_2 (by decide) ?_
  refine lv_iconst (v := iI 1) X.1 X.2.1 d_M_initial_3 (by decide) ?_
  refine r_ni (m_run (As := [.int (iI 1), .int (iI 1)]) (rest := [.ref h]) (n := 2) X Y hZ hA hml hl.1 (r_M_has l D E h q H.size I J B G 1 (by decide) (by decide) 1 (by decide) (by decide) S.1) kl_M_has ks_M_has kx_M_has ki_M_has ini_M hd_M_has ⟨Nat.le_of_ble_eq_true rfl, Nat.le_of_ble_eq_true rfl⟩ rfl (Nat.le_of_ble_eq_true rfl) d_M_initial_4 ⟨Nat.le_refl _, Nat.le_refl _⟩) X Y hA S (by decide) (by decide) (fun z101 u H locs Y S s101 p101 => ?_)
  obtain ⟨I101, J101, B101, G101⟩ := u
  dsimp only at Y S s101 p101
  have i101 : I = I101 := (funext (fun j => s101.2.1 j (by simp))).symm
  subst i101
  have b101 : B = B101 := (funext (fun j => s101.2.2 j (by simp))).symm
  subst b101
  obtain ⟨l101, u101, x101⟩ := p101
  have J112 : ∀ (z103 : Int) (I102 : Nat → Int32) (J102 : Nat → Int64) (B102 : Nat → Nat → Int32) (G102 : Nat → Nat → Int64) (H : Heap) (locs : List Loc) (ls : Array Slot), ((-1) ≤ z103) → (z103 ≤ 11) → (hD I102) → (I102 69 = iI 1) → (pG1 I102) → (pG2 (B102 37) (B102 38)) → (rwA (16 * 1 + 8 : Int).toNat (B102 37) (B102 38) (B102 0)) → (rwO (16 * 0 + 3 : Int).toNat (B102 37) (B102 38) (B102 0)) → (sz3 (16 * 1 + 1 : Int).toNat (16 * 1 + 3 : Int).toNat (16 * 1 + 9 : Int).toNat (B102 37) (B102 38)) → (I102 33 = iI cn) → mH D E (mA E h q sz) s.heap h q I102 J102 B102 G102 H locs → rS [3, 8, 14, 18, 29, 33, 36, 39, 40, 42, 54, 68, 70, 71, 72, 73, 74, 75, 76, 77, 78, 80, 81, 84, 85, 86, 87, 88, 89] [0, 1, 5, 6, 7, 9, 10, 11, 12, 13, 15, 16, 17, 19, 20, 21, 22, 23, 24, 34, 35, 37, 38, 53, 56, 58, 59, 60, 90] I B I102 B102 → lv_has ls 2 [(0, .ref h)] → W p l e (mR 46 2080) s m AV below meth c H locs 0 0 QQ (F0 m 30 ls [.int (iI z103), .ref h]) := by
    as_aux_lemma =>
      intro z103 I102 J102 B102 G102 H locs ls l103 u103 f104 f105 f106 f107 f108 f109 f110 e111 Y S hl
      refine r_puti (k := 75) X Y S (by decide) lk_client rfl rfl (t_M_ok 75 (by decide)) rfl rfl (sf_client _ _ _ _) (Nat.le_of_ble_eq_true rfl) rfl (show ((-1) : Int) ≤ z103 by omega) (show z103 ≤ (11 : Int) by omega) ⟨by omega, by omega⟩ (by decide) d_M_initial_30 (fun I116 H locs Y S w116 => ?_)
      refine lv_aload_n X.1 X.2.1 d_M_initial_33 rfl (lv_at hl 0 rfl) ?_
      refine r_get0 X Y (by decide) lk_client (gf_client _ _ _) rfl w116.1 d_M_initial_34 ?_
      refine z_if_ge (tgt := 43) X.1 X.2.1 d_M_initial_37 (by decide) ⟨by omega, by omega⟩ (fun h117 => ?_) (fun h117 => ?_)
      · as_aux_lemma =>
          refine lv_aload_n X.1 X.2.1 d_M_initial_43 rfl (lv_at hl 0 rfl) ?_
          refine lv_aload_n X.1 X.2.1 d_M_initial_44 rfl (lv_at hl 0 rfl) ?_
          refine r_get0 X Y (by decide) lk_client (gf_client _ _ _) rfl w116.1 d_M_initial_45 ?_
          refine lv_bipush (v := iI 32) X.1 X.2.1 d_M_initial_48 (by decide) ?_
          refine r_ni (m_run (As := [.int (iI z103), .int (iI 32)]) (rest := []) (n := 2) X Y hZ hA hml hl.1 (r_M_says l D E h q H.size I116 J102 B102 G102 z103 (by omega) (by omega) 32 (by decide) (by decide) S.1) kl_M_says ks_M_says kx_M_says ki_M_says ini_M hd_M_says ⟨Nat.le_of_ble_eq_true rfl, Nat.le_of_ble_eq_true rfl⟩ rfl (Nat.le_of_ble_eq_true rfl) d_M_initial_50 ⟨Nat.le_refl _, Nat.le_refl _⟩) X Y hA S (by decide) (by decide) (fun z118 u H locs Y S s118 p118 => ?_)
          obtain ⟨I118, J118, B118, G118⟩ := u
          dsimp only at Y S s118 p118
          have i118 : I116 = I118 := (funext (fun j => s118.2.1 j (by simp))).symm
          subst i118
          have b118 : B102 = B118 := (funext (fun j => s118.2.2 j (by simp))).symm
          subst b118
          obtain ⟨l118, u118⟩ := p118
          refine z_if_eq (tgt := 59) X.1 X.2.1 d_M_initial_53 (by decide) ⟨by omega, by omega⟩ (fun h119 => ?_) (fun h119 => ?_)
          · as_aux_lemma =>
              refine lv_aload_n X.1 X.2.1 d_M_initial_59 rfl (lv_at hl 0 rfl) ?_
              refine lv_aload_n X.1 X.2.1 d_M_initial_60 rfl (lv_at hl 0 rfl) ?_
              refine r_get0 X Y (by decide) lk_client (gf_client _ _ _) rfl w116.1 d_M_initial_61 ?_
              refine r_ni (m_run (As := [.int (iI z103)]) (rest := []) (n := 1) X Y hZ hA hml hl.1 (r_M_isExpired l D E h q H.size I116 J118 B102 G118 z103 (by omega) (by omega) S.1) kl_M_isExpired ks_M_isExpired kx_M_isExpired ki_M_isExpired ini_M hd_M_isExpired ⟨Nat.le_of_ble_eq_true rfl, Nat.le_of_ble_eq_true rfl⟩ rfl (Nat.le_of_ble_eq_true rfl) d_M_initial_64 ⟨Nat.le_refl _, Nat.le_refl _⟩) X Y hA S (by decide) (by decide) (fun z120 u H locs Y S s120 p120 => ?_)
              obtain ⟨I120, J120, B120, G120⟩ := u
              dsimp only at Y S s120 p120
              have i120 : I116 = I120 := (funext (fun j => s120.2.1 j (by simp))).symm
              subst i120
              have b120 : B102 = B120 := (funext (fun j => s120.2.2 j (by simp))).symm
              subst b120
              obtain ⟨l120, u120⟩ := p120
              refine z_if_eq (tgt := 72) X.1 X.2.1 d_M_initial_67 (by decide) ⟨by omega, by omega⟩ (fun h121 => ?_) (fun h121 => ?_)
              · as_aux_lemma =>
                  refine lv_aload_n X.1 X.2.1 d_M_initial_72 rfl (lv_at hl 0 rfl) ?_
                  refine r_ni (m_run (As := []) (rest := []) (n := 0) X Y hZ hA hml hl.1 (r_M_forService l D E h q H.size I116 J120 B102 G120 S.1 (pG1_cg rfl rfl (pG1_cg rfl rfl (pG1_cg (w116.2 39 (by decide)) (w116.2 40 (by decide)) f106))) (pG2_cg rfl rfl (pG2_cg rfl rfl (pG2_cg rfl rfl f107)))) kl_M_forService ks_M_forService kx_M_forService ki_M_forService ini_M hd_M_forService ⟨Nat.le_of_ble_eq_true rfl, Nat.le_of_ble_eq_true rfl⟩ rfl (Nat.le_of_ble_eq_true rfl) d_M_initial_73 ⟨Nat.le_refl _, Nat.le_refl _⟩) X Y hA S (by decide) (by decide) (fun z122 u H locs Y S s122 p122 => ?_)
                  obtain ⟨I122, J122, B122, G122⟩ := u
                  dsimp only at Y S s122 p122
                  obtain ⟨l122, u122, x122, g122_P1, g122_P2, g122_TF⟩ := p122
                  have f123 : rwO (16 * 0 + 3 : Int).toNat (B122 37) (B122 38) (B122 0) := (rwO_cg (s122.2.2 0 (by decide)) rfl rfl (rwO_T g122_TF (by decide) (by decide) (rwO_cg rfl rfl rfl (rwO_cg rfl rfl rfl (rwO_cg rfl rfl rfl f109)))))
                  have f124 : rwA (16 * 1 + 8 : Int).toNat (B122 37) (B122 38) (B122 0) := (rwA_cg (s122.2.2 0 (by decide)) rfl rfl (rwA_T g122_TF (by decide) (by decide) (rwA_cg rfl rfl rfl (rwA_cg rfl rfl rfl (rwA_cg rfl rfl rfl f108)))))
                  have f125 : sz3 (16 * 1 + 1 : Int).toNat (16 * 1 + 3 : Int).toNat (16 * 1 + 9 : Int).toNat (B122 37) (B122 38) := sz3_T g122_TF (by decide) (by decide) (sz3_cg rfl rfl (sz3_cg rfl rfl (sz3_cg rfl rfl f110)))
                  obtain ⟨z126, e126, x126, y126, y2126⟩ := x122
                  refine lv_istore_n (lv' := [(1, .int (iI z122)), (0, .ref h)]) X.1 X.2.1 d_M_initial_76 rfl hl (by decide) rfl (fun ls hl => ?_)
                  refine lv_iload_n X.1 X.2.1 d_M_initial_77 rfl (lv_at hl 0 rfl) ?_
                  refine z_if_eq (tgt := 83) X.1 X.2.1 d_M_initial_78 (by decide) ⟨by omega, by omega⟩ (fun h127 => ?_) (fun h127 => ?_)
                  · as_aux_lemma =>
                      refine lv_aload_n X.1 X.2.1 d_M_initial_83 rfl (lv_at hl 1 rfl) ?_
                      refine lv_iconst (v := iI 0) X.1 X.2.1 d_M_initial_84 (by decide) ?_
                      refine r_ni (m_run (As := [.int (iI 0)]) (rest := []) (n := 1) X Y hZ hA hml hl.1 (r_M_mayOptions l D E h q H.size I122 J122 B122 G122 0 (by decide) (by decide) S.1 g122_P1 g122_P2) kl_M_mayOptions ks_M_mayOptions kx_M_mayOptions ki_M_mayOptions ini_M hd_M_mayOptions ⟨Nat.le_of_ble_eq_true rfl, Nat.le_of_ble_eq_true rfl⟩ rfl (Nat.le_of_ble_eq_true rfl) d_M_initial_85 ⟨Nat.le_refl _, Nat.le_refl _⟩) X Y hA S (by decide) (by decide) (fun z128 u H locs Y S s128 p128 => ?_)
                      obtain ⟨I128, J128, B128, G128⟩ := u
                      dsimp only at Y S s128 p128
                      have b128 : B122 = B128 := (funext (fun j => s128.2.2 j (by simp))).symm
                      subst b128
                      obtain ⟨l128, u128, g128_P1⟩ := p128
                      refine z_if_ne (tgt := 94) X.1 X.2.1 d_M_initial_88 (by decide) ⟨by omega, by omega⟩ (fun h129 => ?_) (fun h129 => ?_)
                      · as_aux_lemma =>
                          refine lv_aload_n X.1 X.2.1 d_M_initial_94 rfl (lv_at hl 1 rfl) ?_
                          refine lv_iconst (v := iI 1) X.1 X.2.1 d_M_initial_95 (by decide) ?_
                          refine lv_iconst (v := iI 4) X.1 X.2.1 d_M_initial_96 (by decide) ?_
                          refine r_ni (m_run (As := [.int (iI 1), .int (iI 4)]) (rest := []) (n := 2) X Y hZ hA hml hl.1 (r_M_has l D E h q H.size I128 J128 B122 G128 1 (by decide) (by decide) 4 (by decide) (by decide) S.1) kl_M_has ks_M_has kx_M_has ki_M_has ini_M hd_M_has ⟨Nat.le_of_ble_eq_true rfl, Nat.le_of_ble_eq_true rfl⟩ rfl (Nat.le_of_ble_eq_true rfl) d_M_initial_97 ⟨Nat.le_refl _, Nat.le_refl _⟩) X Y hA S (by decide) (by decide) (fun z130 u H locs Y S s130 p130 => ?_)
                          obtain ⟨I130, J130, B130, G130⟩ := u
                          dsimp only at Y S s130 p130
                          have i130 : I128 = I130 := (funext (fun j => s130.2.1 j (by simp))).symm
                          subst i130
                          have b130 : B122 = B130 := (funext (fun j => s130.2.2 j (by simp))).symm
                          subst b130
                          obtain ⟨l130, u130, x130⟩ := p130
                          have J142 : ∀ (I131 : Nat → Int32) (J131 : Nat → Int64) (B131 : Nat → Nat → Int32) (G131 : Nat → Nat → Int64) (H : Heap) (locs : List Loc) (ls : Array Slot), (hD I131) → (I131 69 = iI 1) → (pG1 I131) → (pG2 (B131 37) (B131 38)) → (rwA (16 * 1 + 8 : Int).toNat (B131 37) (B131 38) (B131 0)) → (rwO (16 * 0 + 3 : Int).toNat (B131 37) (B131 38) (B131 0)) → (sz3 (16 * 1 + 1 : Int).toNat (16 * 1 + 3 : Int).toNat (16 * 1 + 9 : Int).toNat (B131 37) (B131 38)) → (I131 75 = iI z103) → (I131 76 = iI z126) → (I131 33 = iI cn) → mH D E (mA E h q sz) s.heap h q I131 J131 B131 G131 H locs → rS [3, 8, 14, 18, 29, 33, 36, 39, 40, 42, 54, 68, 70, 71, 72, 73, 74, 75, 76, 77, 78, 80, 81, 84, 85, 86, 87, 88, 89] [0, 1, 5, 6, 7, 9, 10, 11, 12, 13, 15, 16, 17, 19, 20, 21, 22, 23, 24, 34, 35, 37, 38, 53, 56, 58, 59, 60, 90] I B I131 B131 → lv_has ls 2 [(0, .ref h)] → W p l e (mR 46 2080) s m AV below meth c H locs 0 0 QQ (F0 m 125 ls []) := by
                            as_aux_lemma =>
                              intro I131 J131 B131 G131 H locs ls f132 f133 f134 f135 f136 f137 f138 e139 e140 e141 Y S hl
                              refine lv_aload_n X.1 X.2.1 d_M_initial_125 rfl (lv_at hl 0 rfl) ?_
                              refine lv_aload_n X.1 X.2.1 d_M_initial_126 rfl (lv_at hl 0 rfl) ?_
                              refine lv_iconst (v := iI 0) X.1 X.2.1 d_M_initial_127 (by decide) ?_
                              refine r_ni (m_run (As := [.int (iI 0)]) (rest := [.ref h]) (n := 1) X Y hZ hA hml hl.1 (r_M_typeAsked l D E h q H.size I131 J131 B131 G131 0 (by decide) (by decide) S.1 f134 f135 f136) kl_M_typeAsked ks_M_typeAsked kx_M_typeAsked ki_M_typeAsked ini_M hd_M_typeAsked ⟨Nat.le_of_ble_eq_true rfl, Nat.le_of_ble_eq_true rfl⟩ rfl (Nat.le_of_ble_eq_true rfl) d_M_initial_128 ⟨Nat.le_refl _, Nat.le_refl _⟩) X Y hA S (by decide) (by decide) (fun z146 u H locs Y S s146 p146 => ?_)
                              obtain ⟨I146, J146, B146, G146⟩ := u
                              dsimp only at Y S s146 p146
                              have b146 : B131 = B146 := (funext (fun j => s146.2.2 j (by simp))).symm
                              subst b146
                              obtain ⟨l146, u146, x146, g146_P1⟩ := p146
                              refine r_puti (k := 77) X Y S (by decide) lk_type rfl rfl (t_M_ok 77 (by decide)) rfl rfl (sf_type _ _ _ _) (Nat.le_of_ble_eq_true rfl) rfl (show ((-2147483648) : Int) ≤ z146 by omega) (show z146 ≤ (2147483647 : Int) by omega) ⟨by omega, by omega⟩ (by decide) d_M_initial_131 (fun I147 H locs Y S w147 => ?_)
                              refine lv_aload_n X.1 X.2.1 d_M_initial_134 rfl (lv_at hl 0 rfl) ?_
                              refine r_get0 X Y (by decide) lk_type (gf_type _ _ _) rfl w147.1 d_M_initial_135 ?_
                              refine z_if_ne (tgt := 144) X.1 X.2.1 d_M_initial_138 (by decide) ⟨by omega, by omega⟩ (fun h148 => ?_) (fun h148 => ?_)
                              · as_aux_lemma =>
                                  refine lv_aload_n X.1 X.2.1 d_M_initial_144 rfl (lv_at hl 0 rfl) ?_
                                  refine lv_iconst (v := iI 0) X.1 X.2.1 d_M_initial_145 (by decide) ?_
                                  refine r_puti (k := 78) X Y S (by decide) lk_shown rfl rfl (t_M_ok 78 (by decide)) (iI_bool (by omega) (by omega)).1 (iI_bool (by omega) (by omega)).2 (sf_shown _ _ _ _) (Nat.le_of_ble_eq_true rfl) rfl (show (0 : Int) ≤ 0 by omega) (show 0 ≤ (1 : Int) by omega) ⟨by omega, by omega⟩ (by decide) d_M_initial_146 (fun I149 H locs Y S w149 => ?_)
                                  refine lv_aload_n X.1 X.2.1 d_M_initial_149 rfl (lv_at hl 0 rfl) ?_
                                  refine lv_aload_n X.1 X.2.1 d_M_initial_150 rfl (lv_at hl 0 rfl) ?_
                                  refine r_get0 X Y (by decide) lk_client (gf_client _ _ _) rfl ((w149.2 75 (by decide)).trans ((w147.2 75 (by decide)).trans ((s146.2.1 75 (by decide)).trans e139))) d_M_initial_151 ?_
                                  refine lv_iconst (v := iI 1) X.1 X.2.1 d_M_initial_154 (by decide) ?_
                                  refine r_ni (m_run (As := [.int (iI z103), .int (iI 1)]) (rest := []) (n := 2) X Y hZ hA hml hl.1 (r_M_says l D E h q H.size I149 J146 B131 G146 z103 (by omega) (by omega) 1 (by decide) (by decide) S.1) kl_M_says ks_M_says kx_M_says ki_M_says ini_M hd_M_says ⟨Nat.le_of_ble_eq_true rfl, Nat.le_of_ble_eq_true rfl⟩ rfl (Nat.le_of_ble_eq_true rfl) d_M_initial_155 ⟨Nat.le_refl _, Nat.le_refl _⟩) X Y hA S (by decide) (by decide) (fun z150 u H locs Y S s150 p150 => ?_)
                                  obtain ⟨I150, J150, B150, G150⟩ := u
                                  dsimp only at Y S s150 p150
                                  have i150 : I149 = I150 := (funext (fun j => s150.2.1 j (by simp))).symm
                                  subst i150
                                  have b150 : B131 = B150 := (funext (fun j => s150.2.2 j (by simp))).symm
                                  subst b150
                                  obtain ⟨l150, u150⟩ := p150
                                  have J163 : ∀ (I151 : Nat → Int32) (J151 : Nat → Int64) (B151 : Nat → Nat → Int32) (G151 : Nat → Nat → Int64) (H : Heap) (locs : List Loc) (ls : Array Slot), (hD I151) → (I151 69 = iI 1) → (pG1 I151) → (pG2 (B151 37) (B151 38)) → (rwA (16 * 1 + 8 : Int).toNat (B151 37) (B151 38) (B151 0)) → (rwO (16 * 0 + 3 : Int).toNat (B151 37) (B151 38) (B151 0)) → (sz3 (16 * 1 + 1 : Int).toNat (16 * 1 + 3 : Int).toNat (16 * 1 + 9 : Int).toNat (B151 37) (B151 38)) → (I151 75 = iI z103) → (I151 76 = iI z126) → (I151 77 = iI z146) → (I151 33 = iI cn) → mH D E (mA E h q sz) s.heap h q I151 J151 B151 G151 H locs → rS [3, 8, 14, 18, 29, 33, 36, 39, 40, 42, 54, 68, 70, 71, 72, 73, 74, 75, 76, 77, 78, 80, 81, 84, 85, 86, 87, 88, 89] [0, 1, 5, 6, 7, 9, 10, 11, 12, 13, 15, 16, 17, 19, 20, 21, 22, 23, 24, 34, 35, 37, 38, 53, 56, 58, 59, 60, 90] I B I151 B151 → lv_has ls 2 [(0, .ref h)] → W p l e (mR 46 2080) s m AV below meth c H locs 0 0 QQ (F0 m 177 ls []) := by
                                    as_aux_lemma =>
                                      intro I151 J151 B151 G151 H locs ls f152 f153 f154 f155 f156 f157 f158 e159 e160 e161 e162 Y S hl
                                      refine lv_aload_n X.1 X.2.1 d_M_initial_177 rfl (lv_at hl 0 rfl) ?_
                                      obtain ⟨z167, e167, l167, u167⟩ := r_rng (k := 69) (lo := 0) (hi := 1) S rfl
                                      refine r_ni (m_run (As := []) (rest := []) (n := 0) X Y hZ hA hml hl.1 (r_M_issued l D E h q H.size I151 J151 B151 G151 S.1 z103 e159 (by omega) (by omega) z126 e160 (by omega) (by omega) z146 e161 (by omega) (by omega) cn e162 (by omega) (by omega) z167 e167 (by omega) (by omega) f154 f155 f158 (Or.inl f153)) kl_M_issued ks_M_issued kx_M_issued ki_M_issued ini_M hd_M_issued ⟨Nat.le_of_ble_eq_true rfl, Nat.le_of_ble_eq_true rfl⟩ rfl (Nat.le_of_ble_eq_true rfl) d_M_initial_178 ⟨Nat.le_refl _, Nat.le_refl _⟩) X Y hA S (by decide) (by decide) (fun z168 u H locs Y S s168 p168 => ?_)
                                      obtain ⟨I168, J168, B168, G168⟩ := u
                                      dsimp only at Y S s168 p168
                                      obtain ⟨l168, u168, x168, g168_P1, g168_P2, g168_TF⟩ := p168
                                      have f169 : rwO (16 * 0 + 3 : Int).toNat (B168 37) (B168 38) (B168 0) := (rwO_cg (s168.2.2 0 (by decide)) rfl rfl (rwO_T g168_TF (by decide) (by decide) f157))
                                      have f170 : rwA (16 * 1 + 8 : Int).toNat (B168 37) (B168 38) (B168 0) := (rwA_cg (s168.2.2 0 (by decide)) rfl rfl (rwA_T g168_TF (by decide) (by decide) f156))
                                      have f171 : sz3 (16 * 1 + 1 : Int).toNat (16 * 1 + 3 : Int).toNat (16 * 1 + 9 : Int).toNat (B168 37) (B168 38) := sz3_T g168_TF (by decide) (by decide) f158
                                      obtain ⟨z172, e172, l172, u172⟩ := x168
                                      exact m_reti hQQ X Y hr hlk ⟨S, z168, rfl, ⟨by omega, by omega, ⟨z172, e172, by omega, by omega⟩, g168_P1, g168_P2, (hD_cg (s168.2.1 68 (by decide)) (s168.2.1 70 (by decide)) f152)⟩⟩ d_M_initial_181
                                  refine z_if_eq (tgt := 177) X.1 X.2.1 d_M_initial_158 (by decide) ⟨by omega, by omega⟩ (fun h173 => ?_) (fun h173 => ?_)
                                  · exact J163 I149 J150 B131 G150 _ _ _ (hD_cg rfl rfl (hD_cg (w149.2 68 (by decide)) (w149.2 70 (by decide)) (hD_cg (w147.2 68 (by decide)) (w147.2 70 (by decide)) (hD_cg (s146.2.1 68 (by decide)) (s146.2.1 70 (by decide)) f132)))) (ia_cg rfl (ia_cg (w149.2 69 (by decide)) (ia_cg (w147.2 69 (by decide)) (ia_cg (s146.2.1 69 (by decide)) f133)))) (pG1_cg rfl rfl (pG1_cg (w149.2 39 (by decide)) (w149.2 40 (by decide)) (pG1_cg (w147.2 39 (by decide)) (w147.2 40 (by decide)) g146_P1))) (pG2_cg rfl rfl (pG2_cg rfl rfl (pG2_cg rfl rfl (pG2_cg rfl rfl f135)))) (rwA_cg rfl rfl rfl (rwA_cg rfl rfl rfl (rwA_cg rfl rfl rfl (rwA_cg rfl rfl rfl f136)))) (rwO_cg rfl rfl rfl (rwO_cg rfl rfl rfl (rwO_cg rfl rfl rfl (rwO_cg rfl rfl rfl f137)))) (sz3_cg rfl rfl (sz3_cg rfl rfl (sz3_cg rfl rfl (sz3_cg rfl rfl f138)))) ((w149.2 75 (by decide)).trans ((w147.2 75 (by decide)).trans ((s146.2.1 75 (by decide)).trans e139))) ((w149.2 76 (by decide)).trans ((w147.2 76 (by decide)).trans ((s146.2.1 76 (by decide)).trans e140))) ((w149.2 77 (by decide)).trans w147.1) ((w149.2 33 (by decide)).trans ((w147.2 33 (by decide)).trans ((s146.2.1 33 (by decide)).trans e141))) Y S (lv_sub hl [0] rfl)
                                  · refine lv_aload_n X.1 X.2.1 d_M_initial_161 rfl (lv_at hl 0 rfl) ?_
                                    refine r_ni (m_run (As := []) (rest := []) (n := 0) X Y hZ hA hml hl.1 (r_M_shownAhead l D E h q H.size I149 J150 B131 G150 S.1 z103 ((w149.2 75 (by decide)).trans ((w147.2 75 (by decide)).trans ((s146.2.1 75 (by decide)).trans e139))) (by omega) (by omega) (pG1_cg rfl rfl (pG1_cg (w149.2 39 (by decide)) (w149.2 40 (by decide)) (pG1_cg (w147.2 39 (by decide)) (w147.2 40 (by decide)) g146_P1))) (pG2_cg rfl rfl (pG2_cg rfl rfl (pG2_cg rfl rfl (pG2_cg rfl rfl f135)))) (rwO_cg rfl rfl rfl (rwO_cg rfl rfl rfl (rwO_cg rfl rfl rfl (rwO_cg rfl rfl rfl f137)))) (rwA_cg rfl rfl rfl (rwA_cg rfl rfl rfl (rwA_cg rfl rfl rfl (rwA_cg rfl rfl rfl f136)))) (hD_cg rfl rfl (hD_cg (w149.2 68 (by decide)) (w149.2 70 (by decide)) (hD_cg (w147.2 68 (by decide)) (w147.2 70 (by decide)) (hD_cg (s146.2.1 68 (by decide)) (s146.2.1 70 (by decide)) f132))))) kl_M_shownAhead ks_M_shownAhead kx_M_shownAhead ki_M_shownAhead ini_M hd_M_shownAhead ⟨Nat.le_of_ble_eq_true rfl, Nat.le_of_ble_eq_true rfl⟩ rfl (Nat.le_of_ble_eq_true rfl) d_M_initial_162 ⟨Nat.le_refl _, Nat.le_refl _⟩) X Y hA S (by decide) (by decide) (fun z174 u H locs Y S s174 p174 => ?_)
                                    obtain ⟨I174, J174, B174, G174⟩ := u
                                    dsimp only at Y S s174 p174
                                    obtain ⟨l174, u174, g174_P1, g174_P2, g174_HD, g174_TF, g174_MF⟩ := p174
                                    have f175 : sz3 (16 * 1 + 1 : Int).toNat (16 * 1 + 3 : Int).toNat (16 * 1 + 9 : Int).toNat (B174 37) (B174 38) := sz3_T g174_TF (by decide) (by decide) (sz3_cg rfl rfl (sz3_cg rfl rfl (sz3_cg rfl rfl (sz3_cg rfl rfl f138))))
                                    have f176 : rwO (16 * 0 + 3 : Int).toNat (B174 37) (B174 38) (B174 0) := (rwO_M g174_MF (by decide) (rwO_T g174_TF (by decide) (by decide) (rwO_cg rfl rfl rfl (rwO_cg rfl rfl rfl (rwO_cg rfl rfl rfl (rwO_cg rfl rfl rfl f137))))))
                                    have f177 : rwA (16 * 1 + 8 : Int).toNat (B174 37) (B174 38) (B174 0) := (rwA_M g174_MF (by decide) (rwA_T g174_TF (by decide) (by decide) (rwA_cg rfl rfl rfl (rwA_cg rfl rfl rfl (rwA_cg rfl rfl rfl (rwA_cg rfl rfl rfl f136))))))
                                    refine lv_istore_n (lv' := [(1, .int (iI z174)), (0, .ref h)]) X.1 X.2.1 d_M_initial_165 rfl hl (by decide) rfl (fun ls hl => ?_)
                                    refine lv_iload_n X.1 X.2.1 d_M_initial_166 rfl (lv_at hl 0 rfl) ?_
                                    refine z_if_eq (tgt := 172) X.1 X.2.1 d_M_initial_167 (by decide) ⟨by omega, by omega⟩ (fun h178 => ?_) (fun h178 => ?_)
                                    · refine lv_aload_n X.1 X.2.1 d_M_initial_172 rfl (lv_at hl 1 rfl) ?_
                                      refine lv_iconst (v := iI 1) X.1 X.2.1 d_M_initial_173 (by decide) ?_
                                      refine r_puti (k := 78) X Y S (by decide) lk_shown rfl rfl (t_M_ok 78 (by decide)) (iI_bool (by omega) (by omega)).1 (iI_bool (by omega) (by omega)).2 (sf_shown _ _ _ _) (Nat.le_of_ble_eq_true rfl) rfl (show (0 : Int) ≤ 1 by omega) (show 1 ≤ (1 : Int) by omega) ⟨by omega, by omega⟩ (by decide) d_M_initial_174 (fun I179 H locs Y S w179 => ?_)
                                      exact J163 I179 J174 B174 G174 _ _ _ (hD_cg (w179.2 68 (by decide)) (w179.2 70 (by decide)) g174_HD) (ia_cg (w179.2 69 (by decide)) (ia_cg (s174.2.1 69 (by decide)) (ia_cg rfl (ia_cg (w149.2 69 (by decide)) (ia_cg (w147.2 69 (by decide)) (ia_cg (s146.2.1 69 (by decide)) f133)))))) (pG1_cg (w179.2 39 (by decide)) (w179.2 40 (by decide)) g174_P1) (pG2_cg rfl rfl g174_P2) (rwA_cg rfl rfl rfl f177) (rwO_cg rfl rfl rfl f176) (sz3_cg rfl rfl f175) ((w179.2 75 (by decide)).trans ((s174.2.1 75 (by decide)).trans ((w149.2 75 (by decide)).trans ((w147.2 75 (by decide)).trans ((s146.2.1 75 (by decide)).trans e139))))) ((w179.2 76 (by decide)).trans ((s174.2.1 76 (by decide)).trans ((w149.2 76 (by decide)).trans ((w147.2 76 (by decide)).trans ((s146.2.1 76 (by decide)).trans e140))))) ((w179.2 77 (by decide)).trans ((s174.2.1 77 (by decide)).trans ((w149.2 77 (by decide)).trans w147.1))) ((w179.2 33 (by decide)).trans ((s174.2.1 33 (by decide)).trans ((w149.2 33 (by decide)).trans ((w147.2 33 (by decide)).trans ((s146.2.1 33 (by decide)).trans e141))))) Y S (lv_sub hl [1] rfl)
                                    · refine lv_iload_n X.1 X.2.1 d_M_initial_170 rfl (lv_at hl 0 rfl) ?_
                                      exact m_reti hQQ X Y hr hlk ⟨S, z174, rfl, ⟨by omega, by omega, ⟨cn, ((s174.2.1 33 (by decide)).trans ((w149.2 33 (by decide)).trans ((w147.2 33 (by decide)).trans ((s146.2.1 33 (by decide)).trans e141)))), by omega, by omega⟩, g174_P1, g174_P2, g174_HD⟩⟩ d_M_initial_171
                              · refine lv_bipush (v := iI 14) X.1 X.2.1 d_M_initial_141 (by decide) ?_
                                exact m_reti hQQ X Y hr hlk ⟨S, 14, rfl, ⟨by omega, by omega, ⟨cn, ((w147.2 33 (by decide)).trans ((s146.2.1 33 (by decide)).trans e141)), by omega, by omega⟩, (pG1_cg (w147.2 39 (by decide)) (w147.2 40 (by decide)) g146_P1), (pG2_cg rfl rfl (pG2_cg rfl rfl f135)), (hD_cg (w147.2 68 (by decide)) (w147.2 70 (by decide)) (hD_cg (s146.2.1 68 (by decide)) (s146.2.1 70 (by decide)) f132))⟩⟩ d_M_initial_143
                          refine z_if_eq (tgt := 125) X.1 X.2.1 d_M_initial_100 (by decide) ⟨by omega, by omega⟩ (fun h180 => ?_) (fun h180 => ?_)
                          · exact J142 I128 J130 B122 G130 _ _ _ (hD_cg rfl rfl (hD_cg (s128.2.1 68 (by decide)) (s128.2.1 70 (by decide)) (hD_cg (s122.2.1 68 (by decide)) (s122.2.1 70 (by decide)) (hD_cg rfl rfl (hD_cg rfl rfl (hD_cg (w116.2 68 (by decide)) (w116.2 70 (by decide)) f104)))))) (ia_cg rfl (ia_cg (s128.2.1 69 (by decide)) (ia_cg (s122.2.1 69 (by decide)) (ia_cg rfl (ia_cg rfl (ia_cg (w116.2 69 (by decide)) f105)))))) (pG1_cg rfl rfl g128_P1) (pG2_cg rfl rfl (pG2_cg rfl rfl g122_P2)) (rwA_cg rfl rfl rfl (rwA_cg rfl rfl rfl f124)) (rwO_cg rfl rfl rfl (rwO_cg rfl rfl rfl f123)) (sz3_cg rfl rfl (sz3_cg rfl rfl f125)) ((s128.2.1 75 (by decide)).trans ((s122.2.1 75 (by decide)).trans w116.1)) ((s128.2.1 76 (by decide)).trans e126) ((s128.2.1 33 (by decide)).trans ((s122.2.1 33 (by decide)).trans ((w116.2 33 (by decide)).trans e111))) Y S (lv_sub hl [1] rfl)
                          · refine lv_aload_n X.1 X.2.1 d_M_initial_103 rfl (lv_at hl 1 rfl) ?_
                            refine lv_iconst (v := iI 1) X.1 X.2.1 d_M_initial_104 (by decide) ?_
                            refine lv_iconst (v := iI 4) X.1 X.2.1 d_M_initial_105 (by decide) ?_
                            refine r_nl (m_run (As := [.int (iI 1), .int (iI 4)]) (rest := []) (n := 2) X Y hZ hA hml hl.1 (r_M_timeOf l D E h q H.size I128 J130 B122 G130 1 (by decide) (by decide) 4 (by decide) (by decide) S.1 (pG1_cg rfl rfl g128_P1) (pG2_cg rfl rfl (pG2_cg rfl rfl g122_P2))) kl_M_timeOf ks_M_timeOf kx_M_timeOf ki_M_timeOf ini_M hd_M_timeOf ⟨Nat.le_of_ble_eq_true rfl, Nat.le_of_ble_eq_true rfl⟩ rfl (Nat.le_of_ble_eq_true rfl) d_M_initial_106 ⟨Nat.le_refl _, Nat.le_refl _⟩) X Y hA S (by decide) (by decide) (fun v181 u H locs Y S s181 p181 => ?_)
                            obtain ⟨I181, J181, B181, G181⟩ := u
                            dsimp only at Y S s181 p181
                            have b181 : B122 = B181 := (funext (fun j => s181.2.2 j (by simp))).symm
                            subst b181
                            have f182 : hD I181 := (hD_cg (s181.2.1 68 (by decide)) (s181.2.1 70 (by decide)) (hD_cg rfl rfl (hD_cg (s128.2.1 68 (by decide)) (s128.2.1 70 (by decide)) (hD_cg (s122.2.1 68 (by decide)) (s122.2.1 70 (by decide)) (hD_cg rfl rfl (hD_cg rfl rfl (hD_cg (w116.2 68 (by decide)) (w116.2 70 (by decide)) f104)))))))
                            have g181_P1 := p181
                            refine lv_aload_n X.1 X.2.1 d_M_initial_109 rfl (lv_at hl 1 rfl) ?_
                            refine r_geti (k := 4) X Y S (by decide) lk_now (gf_now _ _ _) rfl rfl d_M_initial_110 (fun z183 e183 l183 u183 => ?_)
                            refine lv_i2l X.1 X.2.1 d_M_initial_113 rfl ?_
                            refine t_anyl (fun v184 => ?_)
                            refine lv_ldc2 (v := (300)) X.1 X.2.1 X.2.2.2.1 (X.2.2.1 _ cl_M_646) d_M_initial_114 ?_
                            refine lv_ladd X.1 X.2.1 d_M_initial_117 ?_
                            refine t_anyl (fun v185 => ?_)
                            refine W.lcmp X.1 X.2.1 d_M_initial_118 ?_
                            refine t_u (fun z186 l186 u186 => ?_)
                            refine z_if_le (tgt := 125) X.1 X.2.1 d_M_initial_119 (by decide) ⟨by omega, by omega⟩ (fun h187 => ?_) (fun h187 => ?_)
                            · exact J142 I181 J181 B122 G181 _ _ _ f182 (ia_cg (s181.2.1 69 (by decide)) (ia_cg rfl (ia_cg (s128.2.1 69 (by decide)) (ia_cg (s122.2.1 69 (by decide)) (ia_cg rfl (ia_cg rfl (ia_cg (w116.2 69 (by decide)) f105))))))) g181_P1 (pG2_cg rfl rfl (pG2_cg rfl rfl (pG2_cg rfl rfl g122_P2))) (rwA_cg rfl rfl rfl (rwA_cg rfl rfl rfl (rwA_cg rfl rfl rfl f124))) (rwO_cg rfl rfl rfl (rwO_cg rfl rfl rfl (rwO_cg rfl rfl rfl f123))) (sz3_cg rfl rfl (sz3_cg rfl rfl (sz3_cg rfl rfl f125))) ((s181.2.1 75 (by decide)).trans ((s128.2.1 75 (by decide)).trans ((s122.2.1 75 (by decide)).trans w116.1))) ((s181.2.1 76 (by decide)).trans ((s128.2.1 76 (by decide)).trans e126)) ((s181.2.1 33 (by decide)).trans ((s128.2.1 33 (by decide)).trans ((s122.2.1 33 (by decide)).trans ((w116.2 33 (by decide)).trans e111)))) Y S (lv_sub hl [1] rfl)
                            · refine lv_bipush (v := iI 10) X.1 X.2.1 d_M_initial_122 (by decide) ?_
                              exact m_reti hQQ X Y hr hlk ⟨S, 10, rfl, ⟨by omega, by omega, ⟨cn, ((s181.2.1 33 (by decide)).trans ((s128.2.1 33 (by decide)).trans ((s122.2.1 33 (by decide)).trans ((w116.2 33 (by decide)).trans e111)))), by omega, by omega⟩, g181_P1, (pG2_cg rfl rfl (pG2_cg rfl rfl (pG2_cg rfl rfl g122_P2))), f182⟩⟩ d_M_initial_124
                      · refine lv_bipush (v := iI 13) X.1 X.2.1 d_M_initial_91 (by decide) ?_
                        exact m_reti hQQ X Y hr hlk ⟨S, 13, rfl, ⟨by omega, by omega, ⟨cn, ((s128.2.1 33 (by decide)).trans ((s122.2.1 33 (by decide)).trans ((w116.2 33 (by decide)).trans e111))), by omega, by omega⟩, g128_P1, (pG2_cg rfl rfl g122_P2), (hD_cg (s128.2.1 68 (by decide)) (s128.2.1 70 (by decide)) (hD_cg (s122.2.1 68 (by decide)) (s122.2.1 70 (by decide)) (hD_cg rfl rfl (hD_cg rfl rfl (hD_cg (w116.2 68 (by decide)) (w116.2 70 (by decide)) f104)))))⟩⟩ d_M_initial_93
                  · refine lv_iload_n X.1 X.2.1 d_M_initial_81 rfl (lv_at hl 0 rfl) ?_
                    exact m_reti hQQ X Y hr hlk ⟨S, z122, rfl, ⟨by omega, by omega, ⟨cn, ((s122.2.1 33 (by decide)).trans ((w116.2 33 (by decide)).trans e111)), by omega, by omega⟩, g122_P1, g122_P2, (hD_cg (s122.2.1 68 (by decide)) (s122.2.1 70 (by decide)) (hD_cg rfl rfl (hD_cg rfl rfl (hD_cg (w116.2 68 (by decide)) (w116.2 70 (by decide)) f104))))⟩⟩ d_M_initial_82
              · refine lv_iconst (v := iI 1) X.1 X.2.1 d_M_initial_70 (by decide) ?_
                exact m_reti hQQ X Y hr hlk ⟨S, 1, rfl, ⟨by omega, by omega, ⟨cn, ((w116.2 33 (by decide)).trans e111), by omega, by omega⟩, (pG1_cg rfl rfl (pG1_cg rfl rfl (pG1_cg (w116.2 39 (by decide)) (w116.2 40 (by decide)) f106))), (pG2_cg rfl rfl (pG2_cg rfl rfl (pG2_cg rfl rfl f107))), (hD_cg rfl rfl (hD_cg rfl rfl (hD_cg (w116.2 68 (by decide)) (w116.2 70 (by decide)) f104)))⟩⟩ d_M_initial_71
          · refine lv_bipush (v := iI 18) X.1 X.2.1 d_M_initial_56 (by decide) ?_
            exact m_reti hQQ X Y hr hlk ⟨S, 18, rfl, ⟨by omega, by omega, ⟨cn, ((w116.2 33 (by decide)).trans e111), by omega, by omega⟩, (pG1_cg rfl rfl (pG1_cg (w116.2 39 (by decide)) (w116.2 40 (by decide)) f106)), (pG2_cg rfl rfl (pG2_cg rfl rfl f107)), (hD_cg rfl rfl (hD_cg (w116.2 68 (by decide)) (w116.2 70 (by decide)) f104))⟩⟩ d_M_initial_58
      · refine lv_bipush (v := iI 6) X.1 X.2.1 d_M_initial_40 (by decide) ?_
        exact m_reti hQQ X Y hr hlk ⟨S, 6, rfl, ⟨by omega, by omega, ⟨cn, ((w116.2 33 (by decide)).trans e111), by omega, by omega⟩, (pG1_cg (w116.2 39 (by decide)) (w116.2 40 (by decide)) f106), (pG2_cg rfl rfl f107), (hD_cg (w116.2 68 (by decide)) (w116.2 70 (by decide)) f104)⟩⟩ d_M_initial_42
  refine z_if_eq (tgt := 29) X.1 X.2.1 d_M_initial_7 (by decide) ⟨by omega, by omega⟩ (fun h188 => ?_) (fun h188 => ?_)
  · refine lv_iconst (v := iI (-1)) X.1 X.2.1 d_M_initial_29 (by decide) ?_
    exact J112 ((-1)) I J101 B G101 _ _ _ (by omega) (by omega) (hD_cg rfl rfl f_HD) (ia_cg rfl f_IA) (pG1_cg rfl rfl f_P1) (pG2_cg rfl rfl f_P2) (rwA_cg rfl rfl rfl f_R24) (rwO_cg rfl rfl rfl f_R3) (sz3_cg rfl rfl f_S1) gcn Y S (lv_sub hl [0] rfl)
  · as_aux_lemma =>
      refine lv_aload_n X.1 X.2.1 d_M_initial_10 rfl (lv_at hl 0 rfl) ?_
      refine lv_aload_n X.1 X.2.1 d_M_initial_11 rfl (lv_at hl 0 rfl) ?_
      refine lv_iconst (v := iI 1) X.1 X.2.1 d_M_initial_12 (by decide) ?_
      refine lv_iconst (v := iI 1) X.1 X.2.1 d_M_initial_13 (by decide) ?_
      refine r_ni (m_run (As := [.int (iI 1), .int (iI 1)]) (rest := [.ref h, .ref h]) (n := 2) X Y hZ hA hml hl.1 (r_M_a l D E h q H.size I J101 B G101 1 (by decide) (by decide) 1 (by decide) (by decide) S.1) kl_M_a ks_M_a kx_M_a ki_M_a ini_M hd_M_a ⟨Nat.le_of_ble_eq_true rfl, Nat.le_of_ble_eq_true rfl⟩ rfl (Nat.le_of_ble_eq_true rfl) d_M_initial_14 ⟨Nat.le_refl _, Nat.le_refl _⟩) X Y hA S (by decide) (by decide) (fun z189 u H locs Y S s189 p189 => ?_)
      obtain ⟨I189, J189, B189, G189⟩ := u
      dsimp only at Y S s189 p189
      have i189 : I = I189 := (funext (fun j => s189.2.1 j (by simp))).symm
      subst i189
      have b189 : B = B189 := (funext (fun j => s189.2.2 j (by simp))).symm
      subst b189
      obtain ⟨l189, u189, x189⟩ := p189
      refine lv_aload_n X.1 X.2.1 d_M_initial_17 rfl (lv_at hl 0 rfl) ?_
      refine lv_iconst (v := iI 1) X.1 X.2.1 d_M_initial_18 (by decide) ?_
      refine lv_iconst (v := iI 1) X.1 X.2.1 d_M_initial_19 (by decide) ?_
      refine r_ni (m_run (As := [.int (iI 1), .int (iI 1)]) (rest := [.int (iI z189), .ref h, .ref h]) (n := 2) X Y hZ hA hml hl.1 (r_M_b l D E h q H.size I J189 B G189 1 (by decide) (by decide) 1 (by decide) (by decide) S.1) kl_M_b ks_M_b kx_M_b ki_M_b ini_M hd_M_b ⟨Nat.le_of_ble_eq_true rfl, Nat.le_of_ble_eq_true rfl⟩ rfl (Nat.le_of_ble_eq_true rfl) d_M_initial_20 ⟨Nat.le_refl _, Nat.le_refl _⟩) X Y hA S (by decide) (by decide) (fun z190 u H locs Y S s190 p190 => ?_)
      obtain ⟨I190, J190, B190, G190⟩ := u
      dsimp only at Y S s190 p190
      have i190 : I = I190 := (funext (fun j => s190.2.1 j (by simp))).symm
      subst i190
      have b190 : B = B190 := (funext (fun j => s190.2.2 j (by simp))).symm
      subst b190
      obtain ⟨l190, u190, x190⟩ := p190
      have p191 : pr z189 z190 := by rw [x189, x190]; exact (pG2_cg rfl rfl (pG2_cg rfl rfl (pG2_cg rfl rfl f_P2))) (16 * 1 + 1 : Int).toNat (by omega)
      unfold pr at p191
      refine r_ni (m_run (As := [.int (iI z189), .int (iI z190)]) (rest := [.ref h]) (n := 2) X Y hZ hA hml hl.1 (r_M_principalAt l D E h q H.size I J190 B G190 z189 (by omega) (by omega) z190 (by omega) (by omega) S.1 (pG1_cg rfl rfl (pG1_cg rfl rfl (pG1_cg rfl rfl f_P1))) (pG2_cg rfl rfl (pG2_cg rfl rfl (pG2_cg rfl rfl f_P2))) (by omega) (by omega)) kl_M_principalAt ks_M_principalAt kx_M_principalAt ki_M_principalAt ini_M hd_M_principalAt ⟨Nat.le_of_ble_eq_true rfl, Nat.le_of_ble_eq_true rfl⟩ rfl (Nat.le_of_ble_eq_true rfl) d_M_initial_23 ⟨Nat.le_refl _, Nat.le_refl _⟩) X Y hA S (by decide) (by decide) (fun z192 u H locs Y S s192 p192 => ?_)
      obtain ⟨I192, J192, B192, G192⟩ := u
      dsimp only at Y S s192 p192
      obtain ⟨l192, u192, g192_P1, g192_P2, g192_TF⟩ := p192
      have f193 : rwO (16 * 0 + 3 : Int).toNat (B192 37) (B192 38) (B192 0) := (rwO_cg (s192.2.2 0 (by decide)) rfl rfl (rwO_T g192_TF (by decide) (by decide) (rwO_cg rfl rfl rfl (rwO_cg rfl rfl rfl (rwO_cg rfl rfl rfl f_R3)))))
      have f194 : rwA (16 * 1 + 8 : Int).toNat (B192 37) (B192 38) (B192 0) := (rwA_cg (s192.2.2 0 (by decide)) rfl rfl (rwA_T g192_TF (by decide) (by decide) (rwA_cg rfl rfl rfl (rwA_cg rfl rfl rfl (rwA_cg rfl rfl rfl f_R24)))))
      have f195 : sz3 (16 * 1 + 1 : Int).toNat (16 * 1 + 3 : Int).toNat (16 * 1 + 9 : Int).toNat (B192 37) (B192 38) := sz3_T g192_TF (by decide) (by decide) (sz3_cg rfl rfl (sz3_cg rfl rfl (sz3_cg rfl rfl f_S1)))
      refine lv_goto (tgt := 30) X.1 X.2.1 d_M_initial_26 (by decide) ?_
      exact J112 z192 I192 J192 B192 G192 _ _ _ (by omega) (by omega) (hD_cg (s192.2.1 68 (by decide)) (s192.2.1 70 (by decide)) (hD_cg rfl rfl (hD_cg rfl rfl (hD_cg rfl rfl f_HD)))) (ia_cg (s192.2.1 69 (by decide)) (ia_cg rfl (ia_cg rfl (ia_cg rfl f_IA)))) g192_P1 g192_P2 f194 f193 f195 ((s192.2.1 33 (by decide)).trans gcn) Y S (lv_sub hl [0] rfl)
