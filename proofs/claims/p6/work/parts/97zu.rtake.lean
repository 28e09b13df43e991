set_option maxHeartbeats 40000000 in
set_option maxRecDepth 100000 in
theorem r_M_take (l : Launch) (D : mD) (E : mE) (h : Nat) (q : Nat → Nat) (sz : Nat) (I : Nat → Int32) (J : Nat → Int64) (B : Nat → Nat → Int32) (G : Nat → Nat → Int64) (a1 : Int) (l_a1 : (-2147483648) ≤ a1) (u_a1 : a1 ≤ 2147483647) (hT : rT I B) (f_P1 : pG1 I) (f_P2 : pG2 (B 37) (B 38)) (f_FT : stT (B 97) (B 98) (B 100) (B 107) (B 108) (B 109)) (f_FA : stA (B 110) (B 118) (B 119) (B 120)) : Met l y_M_take (k_M_take :: lw_tg) (mR 46 2068) (va_Pc [.ref h, .int (iI a1)] (mPre D E h q (I, J, B, G) sz)) (va_Qi (rPi [2, 8, 14, 18, 39, 40, 42] [0, 5, 6, 7, 9, 10, 11, 12, 13, 15, 16, 17, 19, 20, 21, 22, 23, 34, 37, 38, 58, 59, 97, 98, 99, 100, 101, 102, 107, 108, 109, 110] I B (fun (z : Int) (u : mS) => (-2147483648) ≤ z ∧ z ≤ 2147483647 ∧ pG1 u.1 ∧ pG2 (u.2.2.1 37) (u.2.2.1 38) ∧ stT (u.2.2.1 97) (u.2.2.1 98) (u.2.2.1 100) (u.2.2.1 107) (u.2.2.1 108) (u.2.2.1 109) ∧ stA (u.2.2.1 110) (u.2.2.1 118) (u.2.2.1 119) (u.2.2.1 120))) (mPost D E h q (mA E h q sz)) (mA E h q sz)) 0 0 (mA E h q sz) := by
  refine m_enter (by decide) rfl (Nat.le_of_ble_eq_true rfl) (fun p e s m below meth c ls AV QQ H locs hQQ X Y hZ hA hr hlk hml hl => ?_)
  have Y : mH D E (mA E h q sz) s.heap h q I J B G H locs := Y
  have S : rS [2, 8, 14, 18, 39, 40, 42] [0, 5, 6, 7, 9, 10, 11, 12, 13, 15, 16, 17, 19, 20, 21, 22, 23, 34, 37, 38, 58, 59, 97, 98, 99, 100, 101, 102, 107, 108, 109, 110] I B I B := rS_rf hT
  have hl : lv_has ls 12 [(0, .ref h), (1, .int (iI a1))] := hl
  refine lv_aload_n X.1 X.2.1 d_M_take_0 rfl (lv_at hl 0 rfl) ?_
  refine r_geti (k := 2) X Y S (by decide) lk_length (gf_length _ _ _) rfl rfl d_M_take_1 (fun z101 e101 l101 u101 => ?_)
  refine lv_istore_n (lv' := [(2, .int (iI z101)), (0, .ref h), (1, .int (iI a1))]) X.1 X.2.1 d_M_take_4 rfl hl (by decide) rfl (fun ls hl => ?_)
  refine lv_aload_n X.1 X.2.1 d_M_take_5 rfl (lv_at hl 1 rfl) ?_
  refine lv_iconst (v := iI 0) X.1 X.2.1 d_M_take_6 (by decide) ?_
  refine r_puti (k := 2) X Y S (by decide) lk_length rfl rfl (t_M_ok 2 (by decide)) rfl rfl (sf_length _ _ _ _) (Nat.le_of_ble_eq_true rfl) rfl (show (0 : Int) ≤ 0 by omega) (show 0 ≤ (4000 : Int) by omega) ⟨by omega, by omega⟩ (by decide) d_M_take_7 (fun I102 H locs Y S w102 => ?_)
  refine lv_aload_n X.1 X.2.1 d_M_take_10 rfl (lv_at hl 1 rfl) ?_
  refine lv_iload_n X.1 X.2.1 d_M_take_11 rfl (lv_at hl 2 rfl) ?_
  refine r_ni (m_run (As := [.int (iI a1)]) (rest := []) (n := 1) X Y hZ hA hml hl.1 (r_M_hasAgent l D E h q H.size I102 J B G a1 (by omega) (by omega) S.1) kl_M_hasAgent ks_M_hasAgent kx_M_hasAgent ki_M_hasAgent ini_M hd_M_hasAgent ⟨Nat.le_of_ble_eq_true rfl, Nat.le_of_ble_eq_true rfl⟩ rfl (Nat.le_of_ble_eq_true rfl) d_M_take_12 ⟨Nat.le_refl _, Nat.le_refl _⟩) X Y hA S (by decide) (by decide) (fun z103 u H locs Y S s103 p103 => ?_)
  obtain ⟨I103, J103, B103, G103⟩ := u
  dsimp only at Y S s103 p103
  have i103 : I102 = I103 := (funext (fun j => s103.2.1 j (by simp))).symm
  subst i103
  have b103 : B = B103 := (funext (fun j => s103.2.2 j (by simp))).symm
  subst b103
  obtain ⟨l103, u103, x103⟩ := p103
  refine z_if_ne (tgt := 20) X.1 X.2.1 d_M_take_15 (by decide) ⟨by omega, by omega⟩ (fun h104 => ?_) (fun h104 => ?_)
  · as_aux_lemma =>
      refine lv_aload_n X.1 X.2.1 d_M_take_20 rfl (lv_at hl 1 rfl) ?_
      refine m_get X Y 110 (by decide) lk_askedKind (gf_askedKind _ _ _) rfl d_M_take_21 ?_
      refine lv_iload_n X.1 X.2.1 d_M_take_24 rfl (lv_at hl 2 rfl) ?_
      refine r_iald X Y S (aw_askedKind _ _ _ _ _ _ _) rfl (by omega) (show a1 < ((4 : Nat) : Int) by omega) (by omega) d_M_take_25 (fun z105 q105 l105 u105 => ?_)
      refine z_if_ge (tgt := 32) X.1 X.2.1 d_M_take_26 (by decide) ⟨by omega, by omega⟩ (fun h106 => ?_) (fun h106 => ?_)
      · as_aux_lemma =>
          refine lv_aload_n X.1 X.2.1 d_M_take_32 rfl (lv_at hl 1 rfl) ?_
          refine m_get X Y 110 (by decide) lk_askedKind (gf_askedKind _ _ _) rfl d_M_take_33 ?_
          refine lv_iload_n X.1 X.2.1 d_M_take_36 rfl (lv_at hl 2 rfl) ?_
          refine r_iald X Y S (aw_askedKind _ _ _ _ _ _ _) rfl (by omega) (show a1 < ((4 : Nat) : Int) by omega) (by omega) d_M_take_37 (fun z107 q107 l107 u107 => ?_)
          have f108 : akA a1 z107 (B 118) (B 119) (B 120) := ak_of (stA_cg rfl rfl rfl rfl (stA_cg rfl rfl rfl rfl f_FA)) (by omega) (by omega) q107
          have f109 : akA a1 z107 (B 118) (B 119) (B 120) := ak_of (stA_cg rfl rfl rfl rfl (stA_cg rfl rfl rfl rfl f_FA)) (by omega) (by omega) q107
          refine lv_istore_n (lv' := [(3, .int (iI z107)), (2, .int (iI z101)), (0, .ref h), (1, .int (iI a1))]) X.1 X.2.1 d_M_take_38 rfl hl (by decide) rfl (fun ls hl => ?_)
          refine lv_aload_n X.1 X.2.1 d_M_take_39 rfl (lv_at hl 2 rfl) ?_
          refine m_get X Y 110 (by decide) lk_askedKind (gf_askedKind _ _ _) rfl d_M_take_40 ?_
          refine lv_iload_n X.1 X.2.1 d_M_take_43 rfl (lv_at hl 3 rfl) ?_
          refine lv_iconst (v := iI (-1)) X.1 X.2.1 d_M_take_44 (by decide) ?_
          refine r_iast X Y S (aw_askedKind _ _ _ _ _ _ _) (sw_askedKind _ _ _ _ _ _ _) rfl ⟨(show ((-1) : Int) ≤ (-1) by omega), (show (-1) ≤ (2 : Int) by omega)⟩ ⟨by omega, by omega⟩ (by omega) (show a1 < ((4 : Nat) : Int) by omega) (by omega) (by decide) d_M_take_45 (fun B110 H locs Y S w110 => ?_)
          have f111 : stA (B110 110) (B110 118) (B110 119) (B110 120) := by rw [w110.1, w110.2 118 (by decide), w110.2 119 (by decide), w110.2 120 (by decide)]; exact stA_off ⟨by omega, by omega⟩ (by omega) (stA_cg rfl rfl rfl rfl (stA_cg rfl rfl rfl rfl f_FA))
          refine lv_iload_n X.1 X.2.1 d_M_take_46 rfl (lv_at hl 1 rfl) ?_
          refine z_if_ne (tgt := 54) X.1 X.2.1 d_M_take_47 (by decide) ⟨by omega, by omega⟩ (fun h112 => ?_) (fun h112 => ?_)
          · as_aux_lemma =>
              refine lv_aload_n X.1 X.2.1 d_M_take_54 rfl (lv_at hl 2 rfl) ?_
              refine m_get X Y 0 (by decide) lk_mem (gf_mem _ _ _) rfl d_M_take_55 ?_
              refine lv_iconst (v := iI 0) X.1 X.2.1 d_M_take_58 (by decide) ?_
              refine r_bald X Y S (aw_mem _ _ _ _ _ _ _) rfl (by omega) (show 0 < ((60000 : Nat) : Int) by omega) (by omega) d_M_take_59 (fun z113 q113 l113 u113 => ?_)
              refine lv_sipush (v := iI 255) X.1 X.2.1 d_M_take_60 (by decide) ?_
              refine z_iand X.1 X.2.1 (by omega) (by omega) d_M_take_63 (fun z114 l114 u114 => ?_)
              refine lv_istore (lv' := [(4, .int (iI z114)), (3, .int (iI z107)), (2, .int (iI z101)), (0, .ref h), (1, .int (iI a1))]) X.1 X.2.1 d_M_take_64 hl (by decide) rfl (fun ls hl => ?_)
              refine lv_iload X.1 X.2.1 d_M_take_66 (lv_at hl 0 rfl) ?_
              refine lv_bipush (v := iI 126) X.1 X.2.1 d_M_take_68 (by decide) ?_
              refine z_icmp_ne (tgt := 126) X.1 X.2.1 d_M_take_70 (by decide) ⟨by omega, by omega⟩ ⟨by decide, by decide⟩ (fun h115 => ?_) (fun h115 => ?_)
              · as_aux_lemma =>
                  refine lv_iload X.1 X.2.1 d_M_take_126 (lv_at hl 0 rfl) ?_
                  refine lv_bipush (v := iI 107) X.1 X.2.1 d_M_take_128 (by decide) ?_
                  refine z_icmp_ne (tgt := 137) X.1 X.2.1 d_M_take_130 (by decide) ⟨by omega, by omega⟩ ⟨by decide, by decide⟩ (fun h116 => ?_) (fun h116 => ?_)
                  · as_aux_lemma =>
                      refine lv_iconst (v := iI 0) X.1 X.2.1 d_M_take_137 (by decide) ?_
                      refine lv_istore (lv' := [(5, .int (iI 0)), (4, .int (iI z114)), (3, .int (iI z107)), (2, .int (iI z101)), (0, .ref h), (1, .int (iI a1))]) X.1 X.2.1 d_M_take_138 hl (by decide) rfl (fun ls hl => ?_)
                      refine lv_iload X.1 X.2.1 d_M_take_140 (lv_at hl 0 rfl) ?_
                      refine z_if_ne (tgt := 152) X.1 X.2.1 d_M_take_142 (by decide) ⟨by decide, by decide⟩ (fun h117 => False.elim (by omega)) (fun h117 => ?_)
                      · as_aux_lemma =>
                          refine lv_iload X.1 X.2.1 d_M_take_145 (lv_at hl 1 rfl) ?_
                          refine lv_bipush (v := iI 109) X.1 X.2.1 d_M_take_147 (by decide) ?_
                          refine z_icmp_ne (tgt := 177) X.1 X.2.1 d_M_take_149 (by decide) ⟨by omega, by omega⟩ ⟨by decide, by decide⟩ (fun h118 => ?_) (fun h118 => ?_)
                          · refine lv_bipush (v := iI (-60)) X.1 X.2.1 d_M_take_177 (by decide) ?_
                            exact m_reti hQQ X Y hr hlk ⟨S, (-60), rfl, ⟨by omega, by omega, (pG1_cg rfl rfl (pG1_cg rfl rfl (pG1_cg (w102.2 39 (by decide)) (w102.2 40 (by decide)) f_P1))), (pG2_cg (w110.2 37 (by decide)) (w110.2 38 (by decide)) (pG2_cg rfl rfl (pG2_cg rfl rfl f_P2))), (stT_cg (w110.2 97 (by decide)) (w110.2 98 (by decide)) (w110.2 100 (by decide)) (w110.2 107 (by decide)) (w110.2 108 (by decide)) (w110.2 109 (by decide)) (stT_cg rfl rfl rfl rfl rfl rfl (stT_cg rfl rfl rfl rfl rfl rfl f_FT))), f111⟩⟩ d_M_take_179
                          · as_aux_lemma =>
                              refine lv_aload_n X.1 X.2.1 d_M_take_152 rfl (lv_at hl 4 rfl) ?_
                              refine lv_iload X.1 X.2.1 d_M_take_153 (lv_at hl 0 rfl) ?_
                              refine z_if_eq (tgt := 163) X.1 X.2.1 d_M_take_155 (by decide) ⟨by decide, by decide⟩ (fun h119 => ?_) (fun h119 => False.elim (by omega))
                              · as_aux_lemma =>
                                  refine lv_bipush (v := iI 13) X.1 X.2.1 d_M_take_163 (by decide) ?_
                                  refine m_ldcSW (i := 18) X (by decide) (by decide) d_M_take_165 ?_
                                  refine lv_iconst (v := iI 0) X.1 X.2.1 d_M_take_168 (by decide) ?_
                                  refine lv_iload_n X.1 X.2.1 d_M_take_169 rfl (lv_at hl 3 rfl) ?_
                                  refine lv_iconst (v := iI 0) X.1 X.2.1 d_M_take_170 (by decide) ?_
                                  refine r_ni (m_run (As := [.int (iI 13), .ref ((D.2.1 18)), .int (iI 0), .int (iI z101), .int (iI 0)]) (rest := []) (n := 5) X Y hZ hA hml hl.1 (r_M_applied_t l D E h q H.size I102 J103 B110 G103 13 (by decide) (by decide) 18 (show 18 < nZ by decide) 0 (by decide) (by decide) z101 (by omega) (by omega) 0 (by decide) (by decide) S.1 5 (B110 0) rfl (isF (B110 0) 5) (by decide) (hisU (show rki 18 ≤ 5 by decide)) (pG1_cg rfl rfl (pG1_cg rfl rfl (pG1_cg (w102.2 39 (by decide)) (w102.2 40 (by decide)) f_P1))) (pG2_cg (w110.2 37 (by decide)) (w110.2 38 (by decide)) (pG2_cg rfl rfl (pG2_cg rfl rfl f_P2))) (by omega) (by omega)) kl_M_applied ks_M_applied kx_M_applied ki_M_applied ini_M hd_M_applied ⟨Nat.le_of_ble_eq_true rfl, Nat.le_of_ble_eq_true rfl⟩ rfl (Nat.le_of_ble_eq_true rfl) d_M_take_171 ⟨Nat.le_refl _, Nat.le_refl _⟩) X Y hA S (by decide) (by decide) (fun z120 u H locs Y S s120 p120 => ?_)
                                  obtain ⟨I120, J120, B120, G120⟩ := u
                                  dsimp only at Y S s120 p120
                                  have f121 : stT (B120 97) (B120 98) (B120 100) (B120 107) (B120 108) (B120 109) := (stT_cg (s120.2.2 97 (by decide)) (s120.2.2 98 (by decide)) (s120.2.2 100 (by decide)) (s120.2.2 107 (by decide)) (s120.2.2 108 (by decide)) (s120.2.2 109 (by decide)) (stT_cg (w110.2 97 (by decide)) (w110.2 98 (by decide)) (w110.2 100 (by decide)) (w110.2 107 (by decide)) (w110.2 108 (by decide)) (w110.2 109 (by decide)) (stT_cg rfl rfl rfl rfl rfl rfl (stT_cg rfl rfl rfl rfl rfl rfl f_FT))))
                                  obtain ⟨l120, u120, x120, st120, g120_P1, g120_P2⟩ := p120
                                  have g120_TF : thF [0] (B110 37) (B110 38) (B120 37) (B120 38) := thF_of st120.1
                                  refine z_if_ne (tgt := 180) X.1 X.2.1 d_M_take_174 (by decide) ⟨by omega, by omega⟩ (fun h122 => ?_) (fun h122 => ?_)
                                  · as_aux_lemma =>
                                      have wa123 := (x120.mp (by omega)).1
                                      unfold whP at wa123
                                      have ra123 := el_rng (B110 0) (a := 0) (b := z101) (.inl (by omega))
                                      have a123 := reply_R (m := (B110 0)) (x120.mp (by omega)).2 (by omega) (by omega) (st120.2 (by omega))
                                      rw [← s120.2.2 0 (by decide)] at a123
                                      have wa124 := (x120.mp (by omega)).1
                                      unfold whP at wa124
                                      have ra124 := el_rng (B110 0) (a := 0) (b := z101) (.inl (by omega))
                                      have a124 := reply_R (m := (B110 0)) (x120.mp (by omega)).2 (by omega) (by omega) (st120.2 (by omega))
                                      rw [← s120.2.2 0 (by decide)] at a124
                                      refine lv_iload X.1 X.2.1 d_M_take_180 (lv_at hl 0 rfl) ?_
                                      refine lv_iload_n X.1 X.2.1 d_M_take_182 rfl (lv_at hl 2 rfl) ?_
                                      refine lv_iconst (v := iI 2) X.1 X.2.1 d_M_take_183 (by decide) ?_
                                      refine z_icmp_ge (tgt := 191) X.1 X.2.1 d_M_take_184 (by decide) ⟨by omega, by omega⟩ ⟨by decide, by decide⟩ (fun h125 => ?_) (fun h125 => ?_)
                                      · as_aux_lemma =>
                                          refine lv_iconst (v := iI 0) X.1 X.2.1 d_M_take_191 (by decide) ?_
                                          refine z_icmp_eq (tgt := 198) X.1 X.2.1 d_M_take_192 (by decide) ⟨by decide, by decide⟩ ⟨by decide, by decide⟩ (fun h126 => ?_) (fun h126 => False.elim (by omega))
                                          · as_aux_lemma =>
                                              refine lv_aload_n X.1 X.2.1 d_M_take_198 rfl (lv_at hl 4 rfl) ?_
                                              refine m_ldcSW (i := 5) X (by decide) (by decide) d_M_take_199 ?_
                                              refine lv_aload_n X.1 X.2.1 d_M_take_202 rfl (lv_at hl 4 rfl) ?_
                                              refine lv_iconst (v := iI 0) X.1 X.2.1 d_M_take_203 (by decide) ?_
                                              refine lv_bipush (v := iI 6) X.1 X.2.1 d_M_take_204 (by decide) ?_
                                              refine r_ni (m_run (As := [.int (iI 0), .int (iI 6)]) (rest := [.ref ((D.2.1 5)), .ref h]) (n := 2) X Y hZ hA hml hl.1 (r_M_a l D E h q H.size I120 J120 B120 G120 0 (by decide) (by decide) 6 (by decide) (by decide) S.1) kl_M_a ks_M_a kx_M_a ki_M_a ini_M hd_M_a ⟨Nat.le_of_ble_eq_true rfl, Nat.le_of_ble_eq_true rfl⟩ rfl (Nat.le_of_ble_eq_true rfl) d_M_take_206 ⟨Nat.le_refl _, Nat.le_refl _⟩) X Y hA S (by decide) (by decide) (fun z127 u H locs Y S s127 p127 => ?_)
                                              obtain ⟨I127, J127, B127, G127⟩ := u
                                              dsimp only at Y S s127 p127
                                              have i127 : I120 = I127 := (funext (fun j => s127.2.1 j (by simp))).symm
                                              subst i127
                                              have b127 : B120 = B127 := (funext (fun j => s127.2.2 j (by simp))).symm
                                              subst b127
                                              obtain ⟨l127, u127, x127⟩ := p127
                                              refine lv_aload_n X.1 X.2.1 d_M_take_209 rfl (lv_at hl 4 rfl) ?_
                                              refine lv_iconst (v := iI 0) X.1 X.2.1 d_M_take_210 (by decide) ?_
                                              refine lv_bipush (v := iI 6) X.1 X.2.1 d_M_take_211 (by decide) ?_
                                              refine r_ni (m_run (As := [.int (iI 0), .int (iI 6)]) (rest := [.int (iI z127), .ref ((D.2.1 5)), .ref h]) (n := 2) X Y hZ hA hml hl.1 (r_M_b l D E h q H.size I120 J127 B120 G127 0 (by decide) (by decide) 6 (by decide) (by decide) S.1) kl_M_b ks_M_b kx_M_b ki_M_b ini_M hd_M_b ⟨Nat.le_of_ble_eq_true rfl, Nat.le_of_ble_eq_true rfl⟩ rfl (Nat.le_of_ble_eq_true rfl) d_M_take_213 ⟨Nat.le_refl _, Nat.le_refl _⟩) X Y hA S (by decide) (by decide) (fun z128 u H locs Y S s128 p128 => ?_)
                                              obtain ⟨I128, J128, B128, G128⟩ := u
                                              dsimp only at Y S s128 p128
                                              have i128 : I120 = I128 := (funext (fun j => s128.2.1 j (by simp))).symm
                                              subst i128
                                              have b128 : B120 = B128 := (funext (fun j => s128.2.2 j (by simp))).symm
                                              subst b128
                                              obtain ⟨l128, u128, x128⟩ := p128
                                              have p129 : pr z127 z128 := by rw [x127, x128]; exact (pG2_cg rfl rfl (pG2_cg rfl rfl g120_P2)) (16 * 0 + 6 : Int).toNat (by omega)
                                              unfold pr at p129
                                              refine lv_bipush (v := iI 6) X.1 X.2.1 d_M_take_216 (by decide) ?_
                                              refine r_ni (m_run (As := [.ref ((D.2.1 5)), .int (iI z127), .int (iI z128), .int (iI 6)]) (rest := []) (n := 4) X Y hZ hA hml hl.1 (r_M_sequence_t l D E h q H.size I120 J128 B120 G128 5 (show 5 < nZ by decide) z127 (by omega) (by omega) z128 (by omega) (by omega) 6 (by decide) (by decide) S.1 5 (B120 0) rfl (isF (B120 0) 5) (by decide) (hisU (show rki 5 ≤ 5 by decide)) (pG1_cg rfl rfl (pG1_cg rfl rfl g120_P1)) (pG2_cg rfl rfl (pG2_cg rfl rfl g120_P2)) (by omega) (by omega)) kl_M_sequence ks_M_sequence kx_M_sequence ki_M_sequence ini_M hd_M_sequence ⟨Nat.le_of_ble_eq_true rfl, Nat.le_of_ble_eq_true rfl⟩ rfl (Nat.le_of_ble_eq_true rfl) d_M_take_218 ⟨Nat.le_refl _, Nat.le_refl _⟩) X Y hA S (by decide) (by decide) (fun z130 u H locs Y S s130 p130 => ?_)
                                              obtain ⟨I130, J130, B130, G130⟩ := u
                                              dsimp only at Y S s130 p130
                                              have f131 : akA a1 z107 (B130 118) (B130 119) (B130 120) := (akA_cg (s130.2.2 118 (by decide)) (s130.2.2 119 (by decide)) (s130.2.2 120 (by decide)) (akA_cg rfl rfl rfl (akA_cg rfl rfl rfl (akA_cg (s120.2.2 118 (by decide)) (s120.2.2 119 (by decide)) (s120.2.2 120 (by decide)) (akA_cg (w110.2 118 (by decide)) (w110.2 119 (by decide)) (w110.2 120 (by decide)) f109)))))
                                              have f132 : stA (B130 110) (B130 118) (B130 119) (B130 120) := (stA_cg (s130.2.2 110 (by decide)) (s130.2.2 118 (by decide)) (s130.2.2 119 (by decide)) (s130.2.2 120 (by decide)) (stA_cg rfl rfl rfl rfl (stA_cg rfl rfl rfl rfl (stA_cg (s120.2.2 110 (by decide)) (s120.2.2 118 (by decide)) (s120.2.2 119 (by decide)) (s120.2.2 120 (by decide)) f111))))
                                              obtain ⟨l130, u130, x130, st130, g130_P1, g130_P2⟩ := p130
                                              have g130_TF : thF [6] (B120 37) (B120 38) (B130 37) (B130 38) := thF_of st130.1
                                              have f133 : rpA (B130 37) (B130 38) (B130 0) := (rpA_cg (s130.2.2 0 (by decide)) rfl rfl (rpA_T g130_TF (by decide) (by decide) (rpA_cg rfl rfl rfl (rpA_cg rfl rfl rfl a124))))
                                              refine lv_pop X.1 X.2.1 d_M_take_221 rfl ?_
                                              refine lv_aload_n X.1 X.2.1 d_M_take_222 rfl (lv_at hl 4 rfl) ?_
                                              refine lv_bipush (v := iI 6) X.1 X.2.1 d_M_take_223 (by decide) ?_
                                              refine lv_iconst (v := iI 0) X.1 X.2.1 d_M_take_225 (by decide) ?_
                                              refine r_nl (m_run (As := [.int (iI 6), .int (iI 0)]) (rest := []) (n := 2) X Y hZ hA hml hl.1 (r_M_numberAt l D E h q H.size I130 J130 B130 G130 6 (by decide) (by decide) 0 (by decide) (by decide) S.1 g130_P1 g130_P2) kl_M_numberAt ks_M_numberAt kx_M_numberAt ki_M_numberAt ini_M hd_M_numberAt ⟨Nat.le_of_ble_eq_true rfl, Nat.le_of_ble_eq_true rfl⟩ rfl (Nat.le_of_ble_eq_true rfl) d_M_take_226 ⟨Nat.le_refl _, Nat.le_refl _⟩) X Y hA S (by decide) (by decide) (fun v134 u H locs Y S s134 p134 => ?_)
                                              obtain ⟨I134, J134, B134, G134⟩ := u
                                              dsimp only at Y S s134 p134
                                              have b134 : B130 = B134 := (funext (fun j => s134.2.2 j (by simp))).symm
                                              subst b134
                                              have f135 : stT (B130 97) (B130 98) (B130 100) (B130 107) (B130 108) (B130 109) := (stT_cg rfl rfl rfl rfl rfl rfl (stT_cg (s130.2.2 97 (by decide)) (s130.2.2 98 (by decide)) (s130.2.2 100 (by decide)) (s130.2.2 107 (by decide)) (s130.2.2 108 (by decide)) (s130.2.2 109 (by decide)) (stT_cg rfl rfl rfl rfl rfl rfl (stT_cg rfl rfl rfl rfl rfl rfl f121))))
                                              have g134_P1 := p134
                                              refine lv_lstore (lv' := [(6, .long v134), (5, .int (iI 0)), (4, .int (iI z114)), (3, .int (iI z107)), (2, .int (iI z101)), (0, .ref h), (1, .int (iI a1))]) X.1 X.2.1 d_M_take_229 hl (by decide) rfl (fun ls hl => ?_)
                                              refine lv_aload_n X.1 X.2.1 d_M_take_231 rfl (lv_at hl 5 rfl) ?_
                                              refine m_get X Y 111 (by decide) lk_askedTypes (gf_askedTypes _ _ _) rfl d_M_take_232 ?_
                                              refine lv_iload_n X.1 X.2.1 d_M_take_235 rfl (lv_at hl 6 rfl) ?_
                                              refine r_iald X Y S (aw_askedTypes _ _ _ _ _ _ _) rfl (by omega) (show a1 < ((4 : Nat) : Int) by omega) (by omega) d_M_take_236 (fun z136 q136 l136 u136 => ?_)
                                              refine lv_istore (lv' := [(8, .int (iI z136)), (6, .long v134), (5, .int (iI 0)), (4, .int (iI z114)), (3, .int (iI z107)), (2, .int (iI z101)), (0, .ref h), (1, .int (iI a1))]) X.1 X.2.1 d_M_take_237 hl (by decide) rfl (fun ls hl => ?_)
                                              refine lv_lload X.1 X.2.1 d_M_take_239 (lv_at hl 1 rfl) ?_
                                              refine lv_ldc2 (v := (17)) X.1 X.2.1 X.2.2.2.1 (X.2.2.1 _ cl_M_697) d_M_take_241 ?_
                                              refine z_lcmp X.1 X.2.1 d_M_take_244 (fun z137 l137 u137 x137 y137 => ?_)
                                              have c137 : ((17) : Int64).toInt = (17) := by decide
                                              refine z_if_ne (tgt := 262) X.1 X.2.1 d_M_take_245 (by decide) ⟨by omega, by omega⟩ (fun h138 => ?_) (fun h138 => ?_)
                                              · as_aux_lemma =>
                                                  refine lv_lload X.1 X.2.1 d_M_take_262 (lv_at hl 1 rfl) ?_
                                                  refine lv_ldc2 (v := (18)) X.1 X.2.1 X.2.2.2.1 (X.2.2.1 _ cl_M_699) d_M_take_264 ?_
                                                  refine z_lcmp X.1 X.2.1 d_M_take_267 (fun z139 l139 u139 x139 y139 => ?_)
                                                  have c139 : ((18) : Int64).toInt = (18) := by decide
                                                  refine z_if_ne (tgt := 281) X.1 X.2.1 d_M_take_268 (by decide) ⟨by omega, by omega⟩ (fun h140 => ?_) (fun h140 => ?_)
                                                  · as_aux_lemma =>
                                                      refine lv_iconst (v := iI 0) X.1 X.2.1 d_M_take_281 (by decide) ?_
                                                      refine lv_istore (lv' := [(9, .int (iI 0)), (8, .int (iI z136)), (6, .long v134), (5, .int (iI 0)), (4, .int (iI z114)), (3, .int (iI z107)), (2, .int (iI z101)), (0, .ref h), (1, .int (iI a1))]) X.1 X.2.1 d_M_take_282 hl (by decide) rfl (fun ls hl => ?_)
                                                      refine lv_iload_n X.1 X.2.1 d_M_take_284 rfl (lv_at hl 5 rfl) ?_
                                                      refine lv_iconst (v := iI 2) X.1 X.2.1 d_M_take_285 (by decide) ?_
                                                      refine z_icmp_ne (tgt := 309) X.1 X.2.1 d_M_take_286 (by decide) ⟨by omega, by omega⟩ ⟨by decide, by decide⟩ (fun h141 => False.elim (by omega)) (fun h141 => ?_)
                                                      · as_aux_lemma =>
                                                          refine lv_lload X.1 X.2.1 d_M_take_289 (lv_at hl 2 rfl) ?_
                                                          refine lv_aload_n X.1 X.2.1 d_M_take_291 rfl (lv_at hl 7 rfl) ?_
                                                          refine m_get X Y 112 (by decide) lk_askedSub (gf_askedSub _ _ _) rfl d_M_take_292 ?_
                                                          refine lv_iload_n X.1 X.2.1 d_M_take_295 rfl (lv_at hl 8 rfl) ?_
                                                          refine r_iald X Y S (aw_askedSub _ _ _ _ _ _ _) rfl (by omega) (show a1 < ((4 : Nat) : Int) by omega) (by omega) d_M_take_296 (fun z142 q142 l142 u142 => ?_)
                                                          refine z_i2lx X.1 X.2.1 ⟨by omega, by omega⟩ d_M_take_297 (fun v143 tv143 => ?_)
                                                          refine z_lcmp X.1 X.2.1 d_M_take_298 (fun z144 l144 u144 x144 y144 => ?_)
                                                          refine z_if_ne (tgt := 306) X.1 X.2.1 d_M_take_299 (by decide) ⟨by omega, by omega⟩ (fun h145 => ?_) (fun h145 => ?_)
                                                          · refine lv_iconst (v := iI 0) X.1 X.2.1 d_M_take_306 (by decide) ?_
                                                            refine lv_istore (lv' := [(9, .int (iI 0)), (8, .int (iI z136)), (6, .long v134), (5, .int (iI 0)), (4, .int (iI z114)), (3, .int (iI z107)), (2, .int (iI z101)), (0, .ref h), (1, .int (iI a1))]) X.1 X.2.1 d_M_take_307 hl (by decide) rfl (fun ls hl => ?_)
                                                            refine lv_iload X.1 X.2.1 d_M_take_309 (lv_at hl 0 rfl) ?_
                                                            refine z_if_ne (tgt := 317) X.1 X.2.1 d_M_take_311 (by decide) ⟨by decide, by decide⟩ (fun h146 => False.elim (by omega)) (fun h146 => ?_)
                                                            · refine lv_bipush (v := iI (-14)) X.1 X.2.1 d_M_take_314 (by decide) ?_
                                                              exact m_reti hQQ X Y hr hlk ⟨S, (-14), rfl, ⟨by omega, by omega, g134_P1, (pG2_cg rfl rfl g130_P2), f135, (stA_cg rfl rfl rfl rfl f132)⟩⟩ d_M_take_316
                                                          · as_aux_lemma =>
                                                              refine lv_iconst (v := iI 1) X.1 X.2.1 d_M_take_302 (by decide) ?_
                                                              refine lv_goto (tgt := 307) X.1 X.2.1 d_M_take_303 (by decide) ?_
                                                              refine lv_istore (lv' := [(9, .int (iI 1)), (8, .int (iI z136)), (6, .long v134), (5, .int (iI 0)), (4, .int (iI z114)), (3, .int (iI z107)), (2, .int (iI z101)), (0, .ref h), (1, .int (iI a1))]) X.1 X.2.1 d_M_take_307 hl (by decide) rfl (fun ls hl => ?_)
                                                              refine lv_iload X.1 X.2.1 d_M_take_309 (lv_at hl 0 rfl) ?_
                                                              refine z_if_ne (tgt := 317) X.1 X.2.1 d_M_take_311 (by decide) ⟨by decide, by decide⟩ (fun h147 => ?_) (fun h147 => False.elim (by omega))
                                                              · as_aux_lemma =>
                                                                  refine lv_iconst (v := iI 0) X.1 X.2.1 d_M_take_317 (by decide) ?_
                                                                  have J156 : ∀ (n158 : Nat) (z149 : Int) (I148 : Nat → Int32) (J148 : Nat → Int64) (B148 : Nat → Nat → Int32) (G148 : Nat → Nat → Int64) (H : Heap) (locs : List Loc) (ls : Array Slot), (32 - z149).toNat = n158 → (0 ≤ z149) → (z149 ≤ 32) → (akA a1 z107 (B148 118) (B148 119) (B148 120)) → (stA (B148 110) (B148 118) (B148 119) (B148 120)) → (stT (B148 97) (B148 98) (B148 100) (B148 107) (B148 108) (B148 109)) → (pG1 I148) → (pG2 (B148 37) (B148 38)) → (rpA (B148 37) (B148 38) (B148 0)) → mH D E (mA E h q sz) s.heap h q I148 J148 B148 G148 H locs → rS [2, 8, 14, 18, 39, 40, 42] [0, 5, 6, 7, 9, 10, 11, 12, 13, 15, 16, 17, 19, 20, 21, 22, 23, 34, 37, 38, 58, 59, 97, 98, 99, 100, 101, 102, 107, 108, 109, 110] I B I148 B148 → lv_has ls 12 [(0, .ref h), (1, .int (iI a1)), (3, .int (iI z107)), (6, .long v134), (10, .int (iI z149))] → W p l e (mR 46 2068) s m AV below meth c H locs 0 0 QQ (F0 m 320 ls []) := by
                                                                    as_aux_lemma =>
                                                                      intro n158
                                                                      induction n158 using Nat.strongRecOn with
                                                                      | ind n158 ih157 =>
                                                                        intro z149 I148 J148 B148 G148 H locs ls hm159 l149 u149 f150 f151 f152 f153 f154 f155 Y S hl
                                                                        refine lv_iload X.1 X.2.1 d_M_take_320 (lv_at hl 4 rfl) ?_
                                                                        refine lv_bipush (v := iI 32) X.1 X.2.1 d_M_take_322 (by decide) ?_
                                                                        refine z_icmp_ge (tgt := 382) X.1 X.2.1 d_M_take_324 (by decide) ⟨by omega, by omega⟩ ⟨by decide, by decide⟩ (fun h160 => ?_) (fun h160 => ?_)
                                                                        · as_aux_lemma =>
                                                                            refine lv_aload_n X.1 X.2.1 d_M_take_382 rfl (lv_at hl 0 rfl) ?_
                                                                            refine lv_aload_n X.1 X.2.1 d_M_take_383 rfl (lv_at hl 0 rfl) ?_
                                                                            refine lv_bipush (v := iI 6) X.1 X.2.1 d_M_take_384 (by decide) ?_
                                                                            refine lv_iconst (v := iI 2) X.1 X.2.1 d_M_take_386 (by decide) ?_
                                                                            refine r_ni (m_run (As := [.int (iI 6), .int (iI 2)]) (rest := [.ref h]) (n := 2) X Y hZ hA hml hl.1 (r_M_a l D E h q H.size I148 J148 B148 G148 6 (by decide) (by decide) 2 (by decide) (by decide) S.1) kl_M_a ks_M_a kx_M_a ki_M_a ini_M hd_M_a ⟨Nat.le_of_ble_eq_true rfl, Nat.le_of_ble_eq_true rfl⟩ rfl (Nat.le_of_ble_eq_true rfl) d_M_take_387 ⟨Nat.le_refl _, Nat.le_refl _⟩) X Y hA S (by decide) (by decide) (fun z161 u H locs Y S s161 p161 => ?_)
                                                                            obtain ⟨I161, J161, B161, G161⟩ := u
                                                                            dsimp only at Y S s161 p161
                                                                            have i161 : I148 = I161 := (funext (fun j => s161.2.1 j (by simp))).symm
                                                                            subst i161
                                                                            have b161 : B148 = B161 := (funext (fun j => s161.2.2 j (by simp))).symm
                                                                            subst b161
                                                                            obtain ⟨l161, u161, x161⟩ := p161
                                                                            refine lv_aload_n X.1 X.2.1 d_M_take_390 rfl (lv_at hl 0 rfl) ?_
                                                                            refine lv_bipush (v := iI 6) X.1 X.2.1 d_M_take_391 (by decide) ?_
                                                                            refine lv_iconst (v := iI 2) X.1 X.2.1 d_M_take_393 (by decide) ?_
                                                                            refine r_ni (m_run (As := [.int (iI 6), .int (iI 2)]) (rest := [.int (iI z161), .ref h]) (n := 2) X Y hZ hA hml hl.1 (r_M_b l D E h q H.size I148 J161 B148 G161 6 (by decide) (by decide) 2 (by decide) (by decide) S.1) kl_M_b ks_M_b kx_M_b ki_M_b ini_M hd_M_b ⟨Nat.le_of_ble_eq_true rfl, Nat.le_of_ble_eq_true rfl⟩ rfl (Nat.le_of_ble_eq_true rfl) d_M_take_394 ⟨Nat.le_refl _, Nat.le_refl _⟩) X Y hA S (by decide) (by decide) (fun z162 u H locs Y S s162 p162 => ?_)
                                                                            obtain ⟨I162, J162, B162, G162⟩ := u
                                                                            dsimp only at Y S s162 p162
                                                                            have i162 : I148 = I162 := (funext (fun j => s162.2.1 j (by simp))).symm
                                                                            subst i162
                                                                            have b162 : B148 = B162 := (funext (fun j => s162.2.2 j (by simp))).symm
                                                                            subst b162
                                                                            obtain ⟨l162, u162, x162⟩ := p162
                                                                            have p163 : pr z161 z162 := by rw [x161, x162]; exact (pG2_cg rfl rfl (pG2_cg rfl rfl f154)) (16 * 6 + 2 : Int).toNat (by omega)
                                                                            unfold pr at p163
                                                                            refine lv_iconst (v := iI 4) X.1 X.2.1 d_M_take_397 (by decide) ?_
                                                                            refine r_ni (m_run (As := [.int (iI z161), .int (iI z162), .int (iI 4)]) (rest := []) (n := 3) X Y hZ hA hml hl.1 (r_M_element l D E h q H.size I148 J162 B148 G162 z161 (by omega) (by omega) z162 (by omega) (by omega) 4 (by decide) (by decide) S.1 (B148 0) rfl (pG1_cg rfl rfl (pG1_cg rfl rfl f153)) (by omega) (by omega)) kl_M_element ks_M_element kx_M_element ki_M_element ini_M hd_M_element ⟨Nat.le_of_ble_eq_true rfl, Nat.le_of_ble_eq_true rfl⟩ rfl (Nat.le_of_ble_eq_true rfl) d_M_take_398 ⟨Nat.le_refl _, Nat.le_refl _⟩) X Y hA S (by decide) (by decide) (fun z164 u H locs Y S s164 p164 => ?_)
                                                                            obtain ⟨I164, J164, B164, G164⟩ := u
                                                                            dsimp only at Y S s164 p164
                                                                            have b164 : B148 = B164 := (funext (fun j => s164.2.2 j (by simp))).symm
                                                                            subst b164
                                                                            obtain ⟨l164, u164, x164, st164⟩ := p164
                                                                            obtain ⟨x165, y165, ex165, ey165, lx165, ly165, uy165, dy165, iy165, ky165⟩ := st164
                                                                            refine lv_pop X.1 X.2.1 d_M_take_401 rfl ?_
                                                                            refine lv_aload_n X.1 X.2.1 d_M_take_402 rfl (lv_at hl 0 rfl) ?_
                                                                            refine lv_aload_n X.1 X.2.1 d_M_take_403 rfl (lv_at hl 0 rfl) ?_
                                                                            refine m_get X Y 58 (by decide) lk_key (gf_key _ _ _) rfl d_M_take_404 ?_
                                                                            refine lv_lload X.1 X.2.1 d_M_take_407 (lv_at hl 3 rfl) ?_
                                                                            refine z_l2i X.1 X.2.1 d_M_take_409 (fun z166 l166 u166 x166 => ?_)
                                                                            refine lv_iload_n X.1 X.2.1 d_M_take_410 rfl (lv_at hl 2 rfl) ?_
                                                                            refine lv_iconst (v := iI 2) X.1 X.2.1 d_M_take_411 (by decide) ?_
                                                                            refine z_icmp_ge (tgt := 419) X.1 X.2.1 d_M_take_412 (by decide) ⟨by omega, by omega⟩ ⟨by decide, by decide⟩ (fun h167 => ?_) (fun h167 => False.elim (by omega))
                                                                            · as_aux_lemma =>
                                                                                refine lv_bipush (v := iI 9) X.1 X.2.1 d_M_take_419 (by decide) ?_
                                                                                refine lv_aload_n X.1 X.2.1 d_M_take_421 rfl (lv_at hl 0 rfl) ?_
                                                                                refine r_get0 X Y (by decide) lk_inside (gf_inside _ _ _) rfl ex165 d_M_take_422 ?_
                                                                                refine lv_aload_n X.1 X.2.1 d_M_take_425 rfl (lv_at hl 0 rfl) ?_
                                                                                refine r_get0 X Y (by decide) lk_behind (gf_behind _ _ _) rfl ey165 d_M_take_426 ?_
                                                                                refine lv_sipush (v := iI 4200) X.1 X.2.1 d_M_take_429 (by decide) ?_
                                                                                refine r_ni (m_run (As := [.ref ((q 58)), .int (iI z166), .int (iI 9), .int (iI x165), .int (iI y165), .int (iI 4200)]) (rest := []) (n := 6) X Y hZ hA hml hl.1 (r_M_open_key l D E h q H.size I164 J164 B148 G164 z166 (by omega) (by omega) 9 (by decide) (by decide) x165 (by omega) (by omega) y165 (by omega) (by omega) 4200 (by decide) (by decide) S.1 (by omega) (by omega)) kl_M_open ks_M_open kx_M_open ki_M_open ini_M hd_M_open ⟨Nat.le_of_ble_eq_true rfl, Nat.le_of_ble_eq_true rfl⟩ rfl (Nat.le_of_ble_eq_true rfl) d_M_take_432 ⟨Nat.le_refl _, Nat.le_refl _⟩) X Y hA S (by decide) (by decide) (fun z168 u H locs Y S s168 p168 => ?_)
                                                                                obtain ⟨I168, J168, B168, G168⟩ := u
                                                                                dsimp only at Y S s168 p168
                                                                                have f169 : stT (B168 97) (B168 98) (B168 100) (B168 107) (B168 108) (B168 109) := (stT_cg (s168.2.2 97 (by decide)) (s168.2.2 98 (by decide)) (s168.2.2 100 (by decide)) (s168.2.2 107 (by decide)) (s168.2.2 108 (by decide)) (s168.2.2 109 (by decide)) (stT_cg rfl rfl rfl rfl rfl rfl (stT_cg rfl rfl rfl rfl rfl rfl (stT_cg rfl rfl rfl rfl rfl rfl f152))))
                                                                                obtain ⟨l168, u168, x168, g168_MF⟩ := p168
                                                                                have f170 : rpA (B168 37) (B168 38) (B168 0) := (rpA_cg rfl (s168.2.2 37 (by decide)) (s168.2.2 38 (by decide)) (rpA_M g168_MF (by decide) (rpA_cg rfl rfl rfl (rpA_cg rfl rfl rfl (rpA_cg rfl rfl rfl f155)))))
                                                                                refine lv_istore (lv' := [(10, .int (iI z168)), (0, .ref h), (1, .int (iI a1)), (3, .int (iI z107)), (6, .long v134)]) X.1 X.2.1 d_M_take_435 hl (by decide) rfl (fun ls hl => ?_)
                                                                                refine lv_iload X.1 X.2.1 d_M_take_437 (lv_at hl 0 rfl) ?_
                                                                                refine z_if_ge (tgt := 445) X.1 X.2.1 d_M_take_439 (by decide) ⟨by omega, by omega⟩ (fun h171 => ?_) (fun h171 => ?_)
                                                                                · as_aux_lemma =>
                                                                                    refine lv_iload_n X.1 X.2.1 d_M_take_445 rfl (lv_at hl 3 rfl) ?_
                                                                                    refine lv_iconst (v := iI 2) X.1 X.2.1 d_M_take_446 (by decide) ?_
                                                                                    refine z_icmp_ge (tgt := 472) X.1 X.2.1 d_M_take_447 (by decide) ⟨by omega, by omega⟩ ⟨by decide, by decide⟩ (fun h172 => ?_) (fun h172 => False.elim (by omega))
                                                                                    · as_aux_lemma =>
                                                                                        refine lv_aload_n X.1 X.2.1 d_M_take_472 rfl (lv_at hl 1 rfl) ?_
                                                                                        refine lv_bipush (v := iI 26) X.1 X.2.1 d_M_take_473 (by decide) ?_
                                                                                        refine m_ldcSW (i := 19) X (by decide) (by decide) d_M_take_475 ?_
                                                                                        refine lv_sipush (v := iI 4200) X.1 X.2.1 d_M_take_478 (by decide) ?_
                                                                                        refine lv_sipush (v := iI 4200) X.1 X.2.1 d_M_take_481 (by decide) ?_
                                                                                        refine lv_iload X.1 X.2.1 d_M_take_484 (lv_at hl 0 rfl) ?_
                                                                                        refine z_iadd X.1 X.2.1 d_M_take_486 ?_
                                                                                        refine lv_iconst (v := iI 4) X.1 X.2.1 d_M_take_487 (by decide) ?_
                                                                                        refine r_ni (m_run (As := [.int (iI 26), .ref ((D.2.1 19)), .int (iI 4200), .int (iI (4200 + z168)), .int (iI 4)]) (rest := []) (n := 5) X Y hZ hA hml hl.1 (r_M_applied_t l D E h q H.size I168 J168 B168 G168 26 (by decide) (by decide) 19 (show 19 < nZ by decide) 4200 (by decide) (by decide) (4200 + z168) (by omega) (by omega) 4 (by decide) (by decide) S.1 5 (B168 0) rfl (isF (B168 0) 5) (by decide) (hisU (show rki 19 ≤ 5 by decide)) (pG1_cg (s168.2.1 39 (by decide)) (s168.2.1 40 (by decide)) (show pG1 I164 from ⟨x165, y165, ex165, ey165, by omega, by omega, by omega, by omega⟩)) (pG2_cg (s168.2.2 37 (by decide)) (s168.2.2 38 (by decide)) (pG2_cg rfl rfl (pG2_cg rfl rfl (pG2_cg rfl rfl f154)))) (by omega) (by omega)) kl_M_applied ks_M_applied kx_M_applied ki_M_applied ini_M hd_M_applied ⟨Nat.le_of_ble_eq_true rfl, Nat.le_of_ble_eq_true rfl⟩ rfl (Nat.le_of_ble_eq_true rfl) d_M_take_488 ⟨Nat.le_refl _, Nat.le_refl _⟩) X Y hA S (by decide) (by decide) (fun z173 u H locs Y S s173 p173 => ?_)
                                                                                        obtain ⟨I173, J173, B173, G173⟩ := u
                                                                                        dsimp only at Y S s173 p173
                                                                                        have f174 : stA (B173 110) (B173 118) (B173 119) (B173 120) := (stA_cg (s173.2.2 110 (by decide)) (s173.2.2 118 (by decide)) (s173.2.2 119 (by decide)) (s173.2.2 120 (by decide)) (stA_cg (s168.2.2 110 (by decide)) (s168.2.2 118 (by decide)) (s168.2.2 119 (by decide)) (s168.2.2 120 (by decide)) (stA_cg rfl rfl rfl rfl (stA_cg rfl rfl rfl rfl (stA_cg rfl rfl rfl rfl f151)))))
                                                                                        obtain ⟨l173, u173, x173, st173, g173_P1, g173_P2⟩ := p173
                                                                                        have g173_TF : thF [4] (B168 37) (B168 38) (B173 37) (B173 38) := thF_of st173.1
                                                                                        have f175 : rpA (B173 37) (B173 38) (B173 0) := (rpA_cg (s173.2.2 0 (by decide)) rfl rfl (rpA_T g173_TF (by decide) (by decide) f170))
                                                                                        refine z_if_eq (tgt := 498) X.1 X.2.1 d_M_take_491 (by decide) ⟨by omega, by omega⟩ (fun h176 => ?_) (fun h176 => ?_)
                                                                                        · refine lv_iconst (v := iI 0) X.1 X.2.1 d_M_take_498 (by decide) ?_
                                                                                          refine lv_istore (lv' := [(11, .int (iI 0)), (10, .int (iI z168)), (0, .ref h), (1, .int (iI a1)), (3, .int (iI z107)), (6, .long v134)]) X.1 X.2.1 d_M_take_499 hl (by decide) rfl (fun ls hl => ?_)
                                                                                          refine lv_iload X.1 X.2.1 d_M_take_501 (lv_at hl 0 rfl) ?_
                                                                                          refine z_if_ne (tgt := 509) X.1 X.2.1 d_M_take_503 (by decide) ⟨by decide, by decide⟩ (fun h177 => False.elim (by omega)) (fun h177 => ?_)
                                                                                          · refine lv_bipush (v := iI (-60)) X.1 X.2.1 d_M_take_506 (by decide) ?_
                                                                                            exact m_reti hQQ X Y hr hlk ⟨S, (-60), rfl, ⟨by omega, by omega, g173_P1, g173_P2, (stT_cg (s173.2.2 97 (by decide)) (s173.2.2 98 (by decide)) (s173.2.2 100 (by decide)) (s173.2.2 107 (by decide)) (s173.2.2 108 (by decide)) (s173.2.2 109 (by decide)) f169), f174⟩⟩ d_M_take_508
                                                                                        · as_aux_lemma =>
                                                                                            refine lv_iconst (v := iI 1) X.1 X.2.1 d_M_take_494 (by decide) ?_
                                                                                            refine lv_goto (tgt := 499) X.1 X.2.1 d_M_take_495 (by decide) ?_
                                                                                            refine lv_istore (lv' := [(11, .int (iI 1)), (10, .int (iI z168)), (0, .ref h), (1, .int (iI a1)), (3, .int (iI z107)), (6, .long v134)]) X.1 X.2.1 d_M_take_499 hl (by decide) rfl (fun ls hl => ?_)
                                                                                            refine lv_iload X.1 X.2.1 d_M_take_501 (lv_at hl 0 rfl) ?_
                                                                                            refine z_if_ne (tgt := 509) X.1 X.2.1 d_M_take_503 (by decide) ⟨by decide, by decide⟩ (fun h178 => ?_) (fun h178 => False.elim (by omega))
                                                                                            · as_aux_lemma =>
                                                                                                refine lv_aload_n X.1 X.2.1 d_M_take_509 rfl (lv_at hl 2 rfl) ?_
                                                                                                refine lv_iconst (v := iI 4) X.1 X.2.1 d_M_take_510 (by decide) ?_
                                                                                                refine lv_iconst (v := iI 2) X.1 X.2.1 d_M_take_511 (by decide) ?_
                                                                                                refine r_nl (m_run (As := [.int (iI 4), .int (iI 2)]) (rest := []) (n := 2) X Y hZ hA hml hl.1 (r_M_numberAt l D E h q H.size I173 J173 B173 G173 4 (by decide) (by decide) 2 (by decide) (by decide) S.1 g173_P1 g173_P2) kl_M_numberAt ks_M_numberAt kx_M_numberAt ki_M_numberAt ini_M hd_M_numberAt ⟨Nat.le_of_ble_eq_true rfl, Nat.le_of_ble_eq_true rfl⟩ rfl (Nat.le_of_ble_eq_true rfl) d_M_take_512 ⟨Nat.le_refl _, Nat.le_refl _⟩) X Y hA S (by decide) (by decide) (fun v179 u H locs Y S s179 p179 => ?_)
                                                                                                obtain ⟨I179, J179, B179, G179⟩ := u
                                                                                                dsimp only at Y S s179 p179
                                                                                                have b179 : B173 = B179 := (funext (fun j => s179.2.2 j (by simp))).symm
                                                                                                subst b179
                                                                                                have f180 : akA a1 z107 (B173 118) (B173 119) (B173 120) := (akA_cg rfl rfl rfl (akA_cg (s173.2.2 118 (by decide)) (s173.2.2 119 (by decide)) (s173.2.2 120 (by decide)) (akA_cg (s168.2.2 118 (by decide)) (s168.2.2 119 (by decide)) (s168.2.2 120 (by decide)) (akA_cg rfl rfl rfl (akA_cg rfl rfl rfl (akA_cg rfl rfl rfl f150))))))
                                                                                                have g179_P1 := p179
                                                                                                refine lv_aload_n X.1 X.2.1 d_M_take_515 rfl (lv_at hl 2 rfl) ?_
                                                                                                refine m_get X Y 114 (by decide) lk_askedNonce (gf_askedNonce _ _ _) rfl d_M_take_516 ?_
                                                                                                refine lv_iload_n X.1 X.2.1 d_M_take_519 rfl (lv_at hl 3 rfl) ?_
                                                                                                refine r_lald X Y (aw_askedNonce _ _ _ _ _ _ _) (by omega) (show a1 < ((4 : Nat) : Int) by omega) (by omega) d_M_take_520 (fun v181 => ?_)
                                                                                                refine z_lcmp X.1 X.2.1 d_M_take_521 (fun z182 l182 u182 x182 y182 => ?_)
                                                                                                refine z_if_eq (tgt := 528) X.1 X.2.1 d_M_take_522 (by decide) ⟨by omega, by omega⟩ (fun h183 => ?_) (fun h183 => ?_)
                                                                                                · refine lv_aload_n X.1 X.2.1 d_M_take_528 rfl (lv_at hl 2 rfl) ?_
                                                                                                  refine lv_iload_n X.1 X.2.1 d_M_take_529 rfl (lv_at hl 3 rfl) ?_
                                                                                                  refine lv_iload_n X.1 X.2.1 d_M_take_530 rfl (lv_at hl 4 rfl) ?_
                                                                                                  refine r_ni (m_run (As := [.int (iI a1), .int (iI z107)]) (rest := []) (n := 2) X Y hZ hA hml hl.1 (r_M_taken l D E h q H.size I179 J179 B173 G179 a1 (by omega) (by omega) z107 (by omega) (by omega) S.1 g179_P1 (pG2_cg rfl rfl g173_P2) (stT_cg rfl rfl rfl rfl rfl rfl (stT_cg (s173.2.2 97 (by decide)) (s173.2.2 98 (by decide)) (s173.2.2 100 (by decide)) (s173.2.2 107 (by decide)) (s173.2.2 108 (by decide)) (s173.2.2 109 (by decide)) f169)) (stA_cg rfl rfl rfl rfl f174) (rpA_cg rfl rfl rfl f175) f180) kl_M_taken ks_M_taken kx_M_taken ki_M_taken ini_M hd_M_taken ⟨Nat.le_of_ble_eq_true rfl, Nat.le_of_ble_eq_true rfl⟩ rfl (Nat.le_of_ble_eq_true rfl) d_M_take_531 ⟨Nat.le_refl _, Nat.le_refl _⟩) X Y hA S (by decide) (by decide) (fun z184 u H locs Y S s184 p184 => ?_)
                                                                                                  obtain ⟨I184, J184, B184, G184⟩ := u
                                                                                                  dsimp only at Y S s184 p184
                                                                                                  obtain ⟨l184, u184, g184_P1, g184_P2, g184_FT, g184_FA⟩ := p184
                                                                                                  exact m_reti hQQ X Y hr hlk ⟨S, z184, rfl, ⟨by omega, by omega, g184_P1, g184_P2, g184_FT, g184_FA⟩⟩ d_M_take_534
                                                                                                · refine lv_bipush (v := iI (-41)) X.1 X.2.1 d_M_take_525 (by decide) ?_
                                                                                                  exact m_reti hQQ X Y hr hlk ⟨S, (-41), rfl, ⟨by omega, by omega, g179_P1, (pG2_cg rfl rfl g173_P2), (stT_cg rfl rfl rfl rfl rfl rfl (stT_cg (s173.2.2 97 (by decide)) (s173.2.2 98 (by decide)) (s173.2.2 100 (by decide)) (s173.2.2 107 (by decide)) (s173.2.2 108 (by decide)) (s173.2.2 109 (by decide)) f169)), (stA_cg rfl rfl rfl rfl f174)⟩⟩ d_M_take_527
                                                                                · refine lv_bipush (v := iI (-31)) X.1 X.2.1 d_M_take_442 (by decide) ?_
                                                                                  exact m_reti hQQ X Y hr hlk ⟨S, (-31), rfl, ⟨by omega, by omega, (pG1_cg (s168.2.1 39 (by decide)) (s168.2.1 40 (by decide)) (show pG1 I164 from ⟨x165, y165, ex165, ey165, by omega, by omega, by omega, by omega⟩)), (pG2_cg (s168.2.2 37 (by decide)) (s168.2.2 38 (by decide)) (pG2_cg rfl rfl (pG2_cg rfl rfl (pG2_cg rfl rfl f154)))), f169, (stA_cg (s168.2.2 110 (by decide)) (s168.2.2 118 (by decide)) (s168.2.2 119 (by decide)) (s168.2.2 120 (by decide)) (stA_cg rfl rfl rfl rfl (stA_cg rfl rfl rfl rfl (stA_cg rfl rfl rfl rfl f151))))⟩⟩ d_M_take_444
                                                                        · refine lv_aload_n X.1 X.2.1 d_M_take_327 rfl (lv_at hl 0 rfl) ?_
                                                                          refine m_get X Y 58 (by decide) lk_key (gf_key _ _ _) rfl d_M_take_328 ?_
                                                                          refine lv_iload X.1 X.2.1 d_M_take_331 (lv_at hl 4 rfl) ?_
                                                                          refine lv_iload_n X.1 X.2.1 d_M_take_333 rfl (lv_at hl 2 rfl) ?_
                                                                          refine lv_iconst (v := iI 2) X.1 X.2.1 d_M_take_334 (by decide) ?_
                                                                          refine z_icmp_ge (tgt := 363) X.1 X.2.1 d_M_take_335 (by decide) ⟨by omega, by omega⟩ ⟨by decide, by decide⟩ (fun h185 => ?_) (fun h185 => False.elim (by omega))
                                                                          · refine lv_aload_n X.1 X.2.1 d_M_take_363 rfl (lv_at hl 0 rfl) ?_
                                                                            refine m_get X Y 116 (by decide) lk_askedKeys (gf_askedKeys _ _ _) rfl d_M_take_364 ?_
                                                                            refine lv_bipush (v := iI 32) X.1 X.2.1 d_M_take_367 (by decide) ?_
                                                                            refine lv_iload_n X.1 X.2.1 d_M_take_369 rfl (lv_at hl 1 rfl) ?_
                                                                            refine z_imul X.1 X.2.1 d_M_take_370 ?_
                                                                            refine lv_iload X.1 X.2.1 d_M_take_371 (lv_at hl 4 rfl) ?_
                                                                            refine z_iadd X.1 X.2.1 d_M_take_373 ?_
                                                                            refine r_bald X Y S (aw_askedKeys _ _ _ _ _ _ _) rfl (by omega) (show (32 * a1) + z149 < ((128 : Nat) : Int) by omega) (by omega) d_M_take_374 (fun z186 q186 l186 u186 => ?_)
                                                                            refine r_bast X Y S (aw_key _ _ _ _ _ _ _) (sw_key _ _ _ _ _ _ _) rfl (by omega) (show z149 < ((32 : Nat) : Int) by omega) (by omega) (by decide) d_M_take_375 (fun B187 H locs Y S w187 => ?_)
                                                                            refine lv_iinc (v := iI (z149 + 1)) (lv' := [(10, .int (iI (z149 + 1))), (0, .ref h), (1, .int (iI a1)), (3, .int (iI z107)), (6, .long v134)]) X.1 X.2.1 d_M_take_376 hl (k := 4) rfl ((iI_add _ _).trans (congrArg iI (by omega))) (by decide) rfl (fun ls hl => ?_)
                                                                            refine lv_goto (tgt := 320) X.1 X.2.1 d_M_take_379 (by decide) ?_
                                                                            exact ih157 ((32 - (z149 + 1)).toNat) (by omega) (z149 + 1) I148 J148 B187 G148 _ _ _ rfl (by omega) (by omega) (akA_cg (w187.2 118 (by decide)) (w187.2 119 (by decide)) (w187.2 120 (by decide)) f150) (stA_cg (w187.2 110 (by decide)) (w187.2 118 (by decide)) (w187.2 119 (by decide)) (w187.2 120 (by decide)) f151) (stT_cg (w187.2 97 (by decide)) (w187.2 98 (by decide)) (w187.2 100 (by decide)) (w187.2 107 (by decide)) (w187.2 108 (by decide)) (w187.2 109 (by decide)) f152) (pG1_cg rfl rfl f153) (pG2_cg (w187.2 37 (by decide)) (w187.2 38 (by decide)) f154) (rpA_cg (w187.2 0 (by decide)) (w187.2 37 (by decide)) (w187.2 38 (by decide)) f155) Y S (lv_sub hl [1, 2, 3, 4, 0] rfl)
                                                                  refine lv_istore (lv' := [(10, .int (iI 0)), (9, .int (iI 1)), (8, .int (iI z136)), (6, .long v134), (5, .int (iI 0)), (4, .int (iI z114)), (3, .int (iI z107)), (2, .int (iI z101)), (0, .ref h), (1, .int (iI a1))]) X.1 X.2.1 d_M_take_318 hl (by decide) rfl (fun ls hl => ?_)
                                                                  exact J156 _ 0 I134 J134 B130 G134 _ _ _ rfl (by omega) (by omega) (akA_cg rfl rfl rfl f131) (stA_cg rfl rfl rfl rfl f132) f135 g134_P1 (pG2_cg rfl rfl g130_P2) (rpA_cg rfl rfl rfl f133) Y S (lv_sub hl [8, 9, 6, 3, 0] rfl)
                                                  · as_aux_lemma =>
                                                      refine lv_iload X.1 X.2.1 d_M_take_271 (lv_at hl 0 rfl) ?_
                                                      refine lv_iconst (v := iI 1) X.1 X.2.1 d_M_take_273 (by decide) ?_
                                                      refine z_icmp_eq (tgt := 281) X.1 X.2.1 d_M_take_274 (by decide) ⟨by omega, by omega⟩ ⟨by decide, by decide⟩ (fun h188 => ?_) (fun h188 => ?_)
                                                      · as_aux_lemma =>
                                                          refine lv_iconst (v := iI 0) X.1 X.2.1 d_M_take_281 (by decide) ?_
                                                          refine lv_istore (lv' := [(9, .int (iI 0)), (8, .int (iI z136)), (6, .long v134), (5, .int (iI 0)), (4, .int (iI z114)), (3, .int (iI z107)), (2, .int (iI z101)), (0, .ref h), (1, .int (iI a1))]) X.1 X.2.1 d_M_take_282 hl (by decide) rfl (fun ls hl => ?_)
                                                          refine lv_iload_n X.1 X.2.1 d_M_take_284 rfl (lv_at hl 5 rfl) ?_
                                                          refine lv_iconst (v := iI 2) X.1 X.2.1 d_M_take_285 (by decide) ?_
                                                          refine z_icmp_ne (tgt := 309) X.1 X.2.1 d_M_take_286 (by decide) ⟨by omega, by omega⟩ ⟨by decide, by decide⟩ (fun h189 => False.elim (by omega)) (fun h189 => ?_)
                                                          · as_aux_lemma =>
                                                              refine lv_lload X.1 X.2.1 d_M_take_289 (lv_at hl 2 rfl) ?_
                                                              refine lv_aload_n X.1 X.2.1 d_M_take_291 rfl (lv_at hl 7 rfl) ?_
                                                              refine m_get X Y 112 (by decide) lk_askedSub (gf_askedSub _ _ _) rfl d_M_take_292 ?_
                                                              refine lv_iload_n X.1 X.2.1 d_M_take_295 rfl (lv_at hl 8 rfl) ?_
                                                              refine r_iald X Y S (aw_askedSub _ _ _ _ _ _ _) rfl (by omega) (show a1 < ((4 : Nat) : Int) by omega) (by omega) d_M_take_296 (fun z190 q190 l190 u190 => ?_)
                                                              refine z_i2lx X.1 X.2.1 ⟨by omega, by omega⟩ d_M_take_297 (fun v191 tv191 => ?_)
                                                              refine z_lcmp X.1 X.2.1 d_M_take_298 (fun z192 l192 u192 x192 y192 => ?_)
                                                              refine z_if_ne (tgt := 306) X.1 X.2.1 d_M_take_299 (by decide) ⟨by omega, by omega⟩ (fun h193 => ?_) (fun h193 => ?_)
                                                              · refine lv_iconst (v := iI 0) X.1 X.2.1 d_M_take_306 (by decide) ?_
                                                                refine lv_istore (lv' := [(9, .int (iI 0)), (8, .int (iI z136)), (6, .long v134), (5, .int (iI 0)), (4, .int (iI z114)), (3, .int (iI z107)), (2, .int (iI z101)), (0, .ref h), (1, .int (iI a1))]) X.1 X.2.1 d_M_take_307 hl (by decide) rfl (fun ls hl => ?_)
                                                                refine lv_iload X.1 X.2.1 d_M_take_309 (lv_at hl 0 rfl) ?_
                                                                refine z_if_ne (tgt := 317) X.1 X.2.1 d_M_take_311 (by decide) ⟨by decide, by decide⟩ (fun h194 => False.elim (by omega)) (fun h194 => ?_)
                                                                · refine lv_bipush (v := iI (-14)) X.1 X.2.1 d_M_take_314 (by decide) ?_
                                                                  exact m_reti hQQ X Y hr hlk ⟨S, (-14), rfl, ⟨by omega, by omega, g134_P1, (pG2_cg rfl rfl g130_P2), f135, (stA_cg rfl rfl rfl rfl f132)⟩⟩ d_M_take_316
                                                              · as_aux_lemma =>
                                                                  refine lv_iconst (v := iI 1) X.1 X.2.1 d_M_take_302 (by decide) ?_
                                                                  refine lv_goto (tgt := 307) X.1 X.2.1 d_M_take_303 (by decide) ?_
                                                                  refine lv_istore (lv' := [(9, .int (iI 1)), (8, .int (iI z136)), (6, .long v134), (5, .int (iI 0)), (4, .int (iI z114)), (3, .int (iI z107)), (2, .int (iI z101)), (0, .ref h), (1, .int (iI a1))]) X.1 X.2.1 d_M_take_307 hl (by decide) rfl (fun ls hl => ?_)
                                                                  refine lv_iload X.1 X.2.1 d_M_take_309 (lv_at hl 0 rfl) ?_
                                                                  refine z_if_ne (tgt := 317) X.1 X.2.1 d_M_take_311 (by decide) ⟨by decide, by decide⟩ (fun h195 => ?_) (fun h195 => False.elim (by omega))
                                                                  · as_aux_lemma =>
                                                                      refine lv_iconst (v := iI 0) X.1 X.2.1 d_M_take_317 (by decide) ?_
                                                                      have J204 : ∀ (n206 : Nat) (z197 : Int) (I196 : Nat → Int32) (J196 : Nat → Int64) (B196 : Nat → Nat → Int32) (G196 : Nat → Nat → Int64) (H : Heap) (locs : List Loc) (ls : Array Slot), (32 - z197).toNat = n206 → (0 ≤ z197) → (z197 ≤ 32) → (akA a1 z107 (B196 118) (B196 119) (B196 120)) → (stA (B196 110) (B196 118) (B196 119) (B196 120)) → (stT (B196 97) (B196 98) (B196 100) (B196 107) (B196 108) (B196 109)) → (pG1 I196) → (pG2 (B196 37) (B196 38)) → (rpA (B196 37) (B196 38) (B196 0)) → mH D E (mA E h q sz) s.heap h q I196 J196 B196 G196 H locs → rS [2, 8, 14, 18, 39, 40, 42] [0, 5, 6, 7, 9, 10, 11, 12, 13, 15, 16, 17, 19, 20, 21, 22, 23, 34, 37, 38, 58, 59, 97, 98, 99, 100, 101, 102, 107, 108, 109, 110] I B I196 B196 → lv_has ls 12 [(0, .ref h), (1, .int (iI a1)), (3, .int (iI z107)), (6, .long v134), (10, .int (iI z197))] → W p l e (mR 46 2068) s m AV below meth c H locs 0 0 QQ (F0 m 320 ls []) := by
                                                                        as_aux_lemma =>
                                                                          intro n206
                                                                          induction n206 using Nat.strongRecOn with
                                                                          | ind n206 ih205 =>
                                                                            intro z197 I196 J196 B196 G196 H locs ls hm207 l197 u197 f198 f199 f200 f201 f202 f203 Y S hl
                                                                            refine lv_iload X.1 X.2.1 d_M_take_320 (lv_at hl 4 rfl) ?_
                                                                            refine lv_bipush (v := iI 32) X.1 X.2.1 d_M_take_322 (by decide) ?_
                                                                            refine z_icmp_ge (tgt := 382) X.1 X.2.1 d_M_take_324 (by decide) ⟨by omega, by omega⟩ ⟨by decide, by decide⟩ (fun h208 => ?_) (fun h208 => ?_)
                                                                            · as_aux_lemma =>
                                                                                refine lv_aload_n X.1 X.2.1 d_M_take_382 rfl (lv_at hl 0 rfl) ?_
                                                                                refine lv_aload_n X.1 X.2.1 d_M_take_383 rfl (lv_at hl 0 rfl) ?_
                                                                                refine lv_bipush (v := iI 6) X.1 X.2.1 d_M_take_384 (by decide) ?_
                                                                                refine lv_iconst (v := iI 2) X.1 X.2.1 d_M_take_386 (by decide) ?_
                                                                                refine r_ni (m_run (As := [.int (iI 6), .int (iI 2)]) (rest := [.ref h]) (n := 2) X Y hZ hA hml hl.1 (r_M_a l D E h q H.size I196 J196 B196 G196 6 (by decide) (by decide) 2 (by decide) (by decide) S.1) kl_M_a ks_M_a kx_M_a ki_M_a ini_M hd_M_a ⟨Nat.le_of_ble_eq_true rfl, Nat.le_of_ble_eq_true rfl⟩ rfl (Nat.le_of_ble_eq_true rfl) d_M_take_387 ⟨Nat.le_refl _, Nat.le_refl _⟩) X Y hA S (by decide) (by decide) (fun z209 u H locs Y S s209 p209 => ?_)
                                                                                obtain ⟨I209, J209, B209, G209⟩ := u
                                                                                dsimp only at Y S s209 p209
                                                                                have i209 : I196 = I209 := (funext (fun j => s209.2.1 j (by simp))).symm
                                                                                subst i209
                                                                                have b209 : B196 = B209 := (funext (fun j => s209.2.2 j (by simp))).symm
                                                                                subst b209
                                                                                obtain ⟨l209, u209, x209⟩ := p209
                                                                                refine lv_aload_n X.1 X.2.1 d_M_take_390 rfl (lv_at hl 0 rfl) ?_
                                                                                refine lv_bipush (v := iI 6) X.1 X.2.1 d_M_take_391 (by decide) ?_
                                                                                refine lv_iconst (v := iI 2) X.1 X.2.1 d_M_take_393 (by decide) ?_
                                                                                refine r_ni (m_run (As := [.int (iI 6), .int (iI 2)]) (rest := [.int (iI z209), .ref h]) (n := 2) X Y hZ hA hml hl.1 (r_M_b l D E h q H.size I196 J209 B196 G209 6 (by decide) (by decide) 2 (by decide) (by decide) S.1) kl_M_b ks_M_b kx_M_b ki_M_b ini_M hd_M_b ⟨Nat.le_of_ble_eq_true rfl, Nat.le_of_ble_eq_true rfl⟩ rfl (Nat.le_of_ble_eq_true rfl) d_M_take_394 ⟨Nat.le_refl _, Nat.le_refl _⟩) X Y hA S (by decide) (by decide) (fun z210 u H locs Y S s210 p210 => ?_)
                                                                                obtain ⟨I210, J210, B210, G210⟩ := u
                                                                                dsimp only at Y S s210 p210
                                                                                have i210 : I196 = I210 := (funext (fun j => s210.2.1 j (by simp))).symm
                                                                                subst i210
                                                                                have b210 : B196 = B210 := (funext (fun j => s210.2.2 j (by simp))).symm
                                                                                subst b210
                                                                                obtain ⟨l210, u210, x210⟩ := p210
                                                                                have p211 : pr z209 z210 := by rw [x209, x210]; exact (pG2_cg rfl rfl (pG2_cg rfl rfl f202)) (16 * 6 + 2 : Int).toNat (by omega)
                                                                                unfold pr at p211
                                                                                refine lv_iconst (v := iI 4) X.1 X.2.1 d_M_take_397 (by decide) ?_
                                                                                refine r_ni (m_run (As := [.int (iI z209), .int (iI z210), .int (iI 4)]) (rest := []) (n := 3) X Y hZ hA hml hl.1 (r_M_element l D E h q H.size I196 J210 B196 G210 z209 (by omega) (by omega) z210 (by omega) (by omega) 4 (by decide) (by decide) S.1 (B196 0) rfl (pG1_cg rfl rfl (pG1_cg rfl rfl f201)) (by omega) (by omega)) kl_M_element ks_M_element kx_M_element ki_M_element ini_M hd_M_element ⟨Nat.le_of_ble_eq_true rfl, Nat.le_of_ble_eq_true rfl⟩ rfl (Nat.le_of_ble_eq_true rfl) d_M_take_398 ⟨Nat.le_refl _, Nat.le_refl _⟩) X Y hA S (by decide) (by decide) (fun z212 u H locs Y S s212 p212 => ?_)
                                                                                obtain ⟨I212, J212, B212, G212⟩ := u
                                                                                dsimp only at Y S s212 p212
                                                                                have b212 : B196 = B212 := (funext (fun j => s212.2.2 j (by simp))).symm
                                                                                subst b212
                                                                                obtain ⟨l212, u212, x212, st212⟩ := p212
                                                                                obtain ⟨x213, y213, ex213, ey213, lx213, ly213, uy213, dy213, iy213, ky213⟩ := st212
                                                                                refine lv_pop X.1 X.2.1 d_M_take_401 rfl ?_
                                                                                refine lv_aload_n X.1 X.2.1 d_M_take_402 rfl (lv_at hl 0 rfl) ?_
                                                                                refine lv_aload_n X.1 X.2.1 d_M_take_403 rfl (lv_at hl 0 rfl) ?_
                                                                                refine m_get X Y 58 (by decide) lk_key (gf_key _ _ _) rfl d_M_take_404 ?_
                                                                                refine lv_lload X.1 X.2.1 d_M_take_407 (lv_at hl 3 rfl) ?_
                                                                                refine z_l2i X.1 X.2.1 d_M_take_409 (fun z214 l214 u214 x214 => ?_)
                                                                                refine lv_iload_n X.1 X.2.1 d_M_take_410 rfl (lv_at hl 2 rfl) ?_
                                                                                refine lv_iconst (v := iI 2) X.1 X.2.1 d_M_take_411 (by decide) ?_
                                                                                refine z_icmp_ge (tgt := 419) X.1 X.2.1 d_M_take_412 (by decide) ⟨by omega, by omega⟩ ⟨by decide, by decide⟩ (fun h215 => ?_) (fun h215 => False.elim (by omega))
                                                                                · as_aux_lemma =>
                                                                                    refine lv_bipush (v := iI 9) X.1 X.2.1 d_M_take_419 (by decide) ?_
                                                                                    refine lv_aload_n X.1 X.2.1 d_M_take_421 rfl (lv_at hl 0 rfl) ?_
                                                                                    refine r_get0 X Y (by decide) lk_inside (gf_inside _ _ _) rfl ex213 d_M_take_422 ?_
                                                                                    refine lv_aload_n X.1 X.2.1 d_M_take_425 rfl (lv_at hl 0 rfl) ?_
                                                                                    refine r_get0 X Y (by decide) lk_behind (gf_behind _ _ _) rfl ey213 d_M_take_426 ?_
                                                                                    refine lv_sipush (v := iI 4200) X.1 X.2.1 d_M_take_429 (by decide) ?_
                                                                                    refine r_ni (m_run (As := [.ref ((q 58)), .int (iI z214), .int (iI 9), .int (iI x213), .int (iI y213), .int (iI 4200)]) (rest := []) (n := 6) X Y hZ hA hml hl.1 (r_M_open_key l D E h q H.size I212 J212 B196 G212 z214 (by omega) (by omega) 9 (by decide) (by decide) x213 (by omega) (by omega) y213 (by omega) (by omega) 4200 (by decide) (by decide) S.1 (by omega) (by omega)) kl_M_open ks_M_open kx_M_open ki_M_open ini_M hd_M_open ⟨Nat.le_of_ble_eq_true rfl, Nat.le_of_ble_eq_true rfl⟩ rfl (Nat.le_of_ble_eq_true rfl) d_M_take_432 ⟨Nat.le_refl _, Nat.le_refl _⟩) X Y hA S (by decide) (by decide) (fun z216 u H locs Y S s216 p216 => ?_)
                                                                                    obtain ⟨I216, J216, B216, G216⟩ := u
                                                                                    dsimp only at Y S s216 p216
                                                                                    have f217 : stT (B216 97) (B216 98) (B216 100) (B216 107) (B216 108) (B216 109) := (stT_cg (s216.2.2 97 (by decide)) (s216.2.2 98 (by decide)) (s216.2.2 100 (by decide)) (s216.2.2 107 (by decide)) (s216.2.2 108 (by decide)) (s216.2.2 109 (by decide)) (stT_cg rfl rfl rfl rfl rfl rfl (stT_cg rfl rfl rfl rfl rfl rfl (stT_cg rfl rfl rfl rfl rfl rfl f200))))
                                                                                    obtain ⟨l216, u216, x216, g216_MF⟩ := p216
                                                                                    have f218 : rpA (B216 37) (B216 38) (B216 0) := (rpA_cg rfl (s216.2.2 37 (by decide)) (s216.2.2 38 (by decide)) (rpA_M g216_MF (by decide) (rpA_cg rfl rfl rfl (rpA_cg rfl rfl rfl (rpA_cg rfl rfl rfl f203)))))
                                                                                    refine lv_istore (lv' := [(10, .int (iI z216)), (0, .ref h), (1, .int (iI a1)), (3, .int (iI z107)), (6, .long v134)]) X.1 X.2.1 d_M_take_435 hl (by decide) rfl (fun ls hl => ?_)
                                                                                    refine lv_iload X.1 X.2.1 d_M_take_437 (lv_at hl 0 rfl) ?_
                                                                                    refine z_if_ge (tgt := 445) X.1 X.2.1 d_M_take_439 (by decide) ⟨by omega, by omega⟩ (fun h219 => ?_) (fun h219 => ?_)
                                                                                    · as_aux_lemma =>
                                                                                        refine lv_iload_n X.1 X.2.1 d_M_take_445 rfl (lv_at hl 3 rfl) ?_
                                                                                        refine lv_iconst (v := iI 2) X.1 X.2.1 d_M_take_446 (by decide) ?_
                                                                                        refine z_icmp_ge (tgt := 472) X.1 X.2.1 d_M_take_447 (by decide) ⟨by omega, by omega⟩ ⟨by decide, by decide⟩ (fun h220 => ?_) (fun h220 => False.elim (by omega))
                                                                                        · as_aux_lemma =>
                                                                                            refine lv_aload_n X.1 X.2.1 d_M_take_472 rfl (lv_at hl 1 rfl) ?_
                                                                                            refine lv_bipush (v := iI 26) X.1 X.2.1 d_M_take_473 (by decide) ?_
                                                                                            refine m_ldcSW (i := 19) X (by decide) (by decide) d_M_take_475 ?_
                                                                                            refine lv_sipush (v := iI 4200) X.1 X.2.1 d_M_take_478 (by decide) ?_
                                                                                            refine lv_sipush (v := iI 4200) X.1 X.2.1 d_M_take_481 (by decide) ?_
                                                                                            refine lv_iload X.1 X.2.1 d_M_take_484 (lv_at hl 0 rfl) ?_
                                                                                            refine z_iadd X.1 X.2.1 d_M_take_486 ?_
                                                                                            refine lv_iconst (v := iI 4) X.1 X.2.1 d_M_take_487 (by decide) ?_
                                                                                            refine r_ni (m_run (As := [.int (iI 26), .ref ((D.2.1 19)), .int (iI 4200), .int (iI (4200 + z216)), .int (iI 4)]) (rest := []) (n := 5) X Y hZ hA hml hl.1 (r_M_applied_t l D E h q H.size I216 J216 B216 G216 26 (by decide) (by decide) 19 (show 19 < nZ by decide) 4200 (by decide) (by decide) (4200 + z216) (by omega) (by omega) 4 (by decide) (by decide) S.1 5 (B216 0) rfl (isF (B216 0) 5) (by decide) (hisU (show rki 19 ≤ 5 by decide)) (pG1_cg (s216.2.1 39 (by decide)) (s216.2.1 40 (by decide)) (show pG1 I212 from ⟨x213, y213, ex213, ey213, by omega, by omega, by omega, by omega⟩)) (pG2_cg (s216.2.2 37 (by decide)) (s216.2.2 38 (by decide)) (pG2_cg rfl rfl (pG2_cg rfl rfl (pG2_cg rfl rfl f202)))) (by omega) (by omega)) kl_M_applied ks_M_applied kx_M_applied ki_M_applied ini_M hd_M_applied ⟨Nat.le_of_ble_eq_true rfl, Nat.le_of_ble_eq_true rfl⟩ rfl (Nat.le_of_ble_eq_true rfl) d_M_take_488 ⟨Nat.le_refl _, Nat.le_refl _⟩) X Y hA S (by decide) (by decide) (fun z221 u H locs Y S s221 p221 => ?_)
                                                                                            obtain ⟨I221, J221, B221, G221⟩ := u
                                                                                            dsimp only at Y S s221 p221
                                                                                            have f222 : stA (B221 110) (B221 118) (B221 119) (B221 120) := (stA_cg (s221.2.2 110 (by decide)) (s221.2.2 118 (by decide)) (s221.2.2 119 (by decide)) (s221.2.2 120 (by decide)) (stA_cg (s216.2.2 110 (by decide)) (s216.2.2 118 (by decide)) (s216.2.2 119 (by decide)) (s216.2.2 120 (by decide)) (stA_cg rfl rfl rfl rfl (stA_cg rfl rfl rfl rfl (stA_cg rfl rfl rfl rfl f199)))))
                                                                                            obtain ⟨l221, u221, x221, st221, g221_P1, g221_P2⟩ := p221
                                                                                            have g221_TF : thF [4] (B216 37) (B216 38) (B221 37) (B221 38) := thF_of st221.1
                                                                                            have f223 : rpA (B221 37) (B221 38) (B221 0) := (rpA_cg (s221.2.2 0 (by decide)) rfl rfl (rpA_T g221_TF (by decide) (by decide) f218))
                                                                                            refine z_if_eq (tgt := 498) X.1 X.2.1 d_M_take_491 (by decide) ⟨by omega, by omega⟩ (fun h224 => ?_) (fun h224 => ?_)
                                                                                            · refine lv_iconst (v := iI 0) X.1 X.2.1 d_M_take_498 (by decide) ?_
                                                                                              refine lv_istore (lv' := [(11, .int (iI 0)), (10, .int (iI z216)), (0, .ref h), (1, .int (iI a1)), (3, .int (iI z107)), (6, .long v134)]) X.1 X.2.1 d_M_take_499 hl (by decide) rfl (fun ls hl => ?_)
                                                                                              refine lv_iload X.1 X.2.1 d_M_take_501 (lv_at hl 0 rfl) ?_
                                                                                              refine z_if_ne (tgt := 509) X.1 X.2.1 d_M_take_503 (by decide) ⟨by decide, by decide⟩ (fun h225 => False.elim (by omega)) (fun h225 => ?_)
                                                                                              · refine lv_bipush (v := iI (-60)) X.1 X.2.1 d_M_take_506 (by decide) ?_
                                                                                                exact m_reti hQQ X Y hr hlk ⟨S, (-60), rfl, ⟨by omega, by omega, g221_P1, g221_P2, (stT_cg (s221.2.2 97 (by decide)) (s221.2.2 98 (by decide)) (s221.2.2 100 (by decide)) (s221.2.2 107 (by decide)) (s221.2.2 108 (by decide)) (s221.2.2 109 (by decide)) f217), f222⟩⟩ d_M_take_508
                                                                                            · as_aux_lemma =>
                                                                                                refine lv_iconst (v := iI 1) X.1 X.2.1 d_M_take_494 (by decide) ?_
                                                                                                refine lv_goto (tgt := 499) X.1 X.2.1 d_M_take_495 (by decide) ?_
                                                                                                refine lv_istore (lv' := [(11, .int (iI 1)), (10, .int (iI z216)), (0, .ref h), (1, .int (iI a1)), (3, .int (iI z107)), (6, .long v134)]) X.1 X.2.1 d_M_take_499 hl (by decide) rfl (fun ls hl => ?_)
                                                                                                refine lv_iload X.1 X.2.1 d_M_take_501 (lv_at hl 0 rfl) ?_
                                                                                                refine z_if_ne (tgt := 509) X.1 X.2.1 d_M_take_503 (by decide) ⟨by decide, by decide⟩ (fun h226 => ?_) (fun h226 => False.elim (by omega))
                                                                                                · as_aux_lemma =>
                                                                                                    refine lv_aload_n X.1 X.2.1 d_M_take_509 rfl (lv_at hl 2 rfl) ?_
                                                                                                    refine lv_iconst (v := iI 4) X.1 X.2.1 d_M_take_510 (by decide) ?_
                                                                                                    refine lv_iconst (v := iI 2) X.1 X.2.1 d_M_take_511 (by decide) ?_
                                                                                                    refine r_nl (m_run (As := [.int (iI 4), .int (iI 2)]) (rest := []) (n := 2) X Y hZ hA hml hl.1 (r_M_numberAt l D E h q H.size I221 J221 B221 G221 4 (by decide) (by decide) 2 (by decide) (by decide) S.1 g221_P1 g221_P2) kl_M_numberAt ks_M_numberAt kx_M_numberAt ki_M_numberAt ini_M hd_M_numberAt ⟨Nat.le_of_ble_eq_true rfl, Nat.le_of_ble_eq_true rfl⟩ rfl (Nat.le_of_ble_eq_true rfl) d_M_take_512 ⟨Nat.le_refl _, Nat.le_refl _⟩) X Y hA S (by decide) (by decide) (fun v227 u H locs Y S s227 p227 => ?_)
                                                                                                    obtain ⟨I227, J227, B227, G227⟩ := u
                                                                                                    dsimp only at Y S s227 p227
                                                                                                    have b227 : B221 = B227 := (funext (fun j => s227.2.2 j (by simp))).symm
                                                                                                    subst b227
                                                                                                    have f228 : akA a1 z107 (B221 118) (B221 119) (B221 120) := (akA_cg rfl rfl rfl (akA_cg (s221.2.2 118 (by decide)) (s221.2.2 119 (by decide)) (s221.2.2 120 (by decide)) (akA_cg (s216.2.2 118 (by decide)) (s216.2.2 119 (by decide)) (s216.2.2 120 (by decide)) (akA_cg rfl rfl rfl (akA_cg rfl rfl rfl (akA_cg rfl rfl rfl f198))))))
                                                                                                    have g227_P1 := p227
                                                                                                    refine lv_aload_n X.1 X.2.1 d_M_take_515 rfl (lv_at hl 2 rfl) ?_
                                                                                                    refine m_get X Y 114 (by decide) lk_askedNonce (gf_askedNonce _ _ _) rfl d_M_take_516 ?_
                                                                                                    refine lv_iload_n X.1 X.2.1 d_M_take_519 rfl (lv_at hl 3 rfl) ?_
                                                                                                    refine r_lald X Y (aw_askedNonce _ _ _ _ _ _ _) (by omega) (show a1 < ((4 : Nat) : Int) by omega) (by omega) d_M_take_520 (fun v229 => ?_)
                                                                                                    refine z_lcmp X.1 X.2.1 d_M_take_521 (fun z230 l230 u230 x230 y230 => ?_)
                                                                                                    refine z_if_eq (tgt := 528) X.1 X.2.1 d_M_take_522 (by decide) ⟨by omega, by omega⟩ (fun h231 => ?_) (fun h231 => ?_)
                                                                                                    · refine lv_aload_n X.1 X.2.1 d_M_take_528 rfl (lv_at hl 2 rfl) ?_
                                                                                                      refine lv_iload_n X.1 X.2.1 d_M_take_529 rfl (lv_at hl 3 rfl) ?_
                                                                                                      refine lv_iload_n X.1 X.2.1 d_M_take_530 rfl (lv_at hl 4 rfl) ?_
                                                                                                      refine r_ni (m_run (As := [.int (iI a1), .int (iI z107)]) (rest := []) (n := 2) X Y hZ hA hml hl.1 (r_M_taken l D E h q H.size I227 J227 B221 G227 a1 (by omega) (by omega) z107 (by omega) (by omega) S.1 g227_P1 (pG2_cg rfl rfl g221_P2) (stT_cg rfl rfl rfl rfl rfl rfl (stT_cg (s221.2.2 97 (by decide)) (s221.2.2 98 (by decide)) (s221.2.2 100 (by decide)) (s221.2.2 107 (by decide)) (s221.2.2 108 (by decide)) (s221.2.2 109 (by decide)) f217)) (stA_cg rfl rfl rfl rfl f222) (rpA_cg rfl rfl rfl f223) f228) kl_M_taken ks_M_taken kx_M_taken ki_M_taken ini_M hd_M_taken ⟨Nat.le_of_ble_eq_true rfl, Nat.le_of_ble_eq_true rfl⟩ rfl (Nat.le_of_ble_eq_true rfl) d_M_take_531 ⟨Nat.le_refl _, Nat.le_refl _⟩) X Y hA S (by decide) (by decide) (fun z232 u H locs Y S s232 p232 => ?_)
                                                                                                      obtain ⟨I232, J232, B232, G232⟩ := u
                                                                                                      dsimp only at Y S s232 p232
                                                                                                      obtain ⟨l232, u232, g232_P1, g232_P2, g232_FT, g232_FA⟩ := p232
                                                                                                      exact m_reti hQQ X Y hr hlk ⟨S, z232, rfl, ⟨by omega, by omega, g232_P1, g232_P2, g232_FT, g232_FA⟩⟩ d_M_take_534
                                                                                                    · refine lv_bipush (v := iI (-41)) X.1 X.2.1 d_M_take_525 (by decide) ?_
                                                                                                      exact m_reti hQQ X Y hr hlk ⟨S, (-41), rfl, ⟨by omega, by omega, g227_P1, (pG2_cg rfl rfl g221_P2), (stT_cg rfl rfl rfl rfl rfl rfl (stT_cg (s221.2.2 97 (by decide)) (s221.2.2 98 (by decide)) (s221.2.2 100 (by decide)) (s221.2.2 107 (by decide)) (s221.2.2 108 (by decide)) (s221.2.2 109 (by decide)) f217)), (stA_cg rfl rfl rfl rfl f222)⟩⟩ d_M_take_527
                                                                                    · refine lv_bipush (v := iI (-31)) X.1 X.2.1 d_M_take_442 (by decide) ?_
                                                                                      exact m_reti hQQ X Y hr hlk ⟨S, (-31), rfl, ⟨by omega, by omega, (pG1_cg (s216.2.1 39 (by decide)) (s216.2.1 40 (by decide)) (show pG1 I212 from ⟨x213, y213, ex213, ey213, by omega, by omega, by omega, by omega⟩)), (pG2_cg (s216.2.2 37 (by decide)) (s216.2.2 38 (by decide)) (pG2_cg rfl rfl (pG2_cg rfl rfl (pG2_cg rfl rfl f202)))), f217, (stA_cg (s216.2.2 110 (by decide)) (s216.2.2 118 (by decide)) (s216.2.2 119 (by decide)) (s216.2.2 120 (by decide)) (stA_cg rfl rfl rfl rfl (stA_cg rfl rfl rfl rfl (stA_cg rfl rfl rfl rfl f199))))⟩⟩ d_M_take_444
                                                                            · refine lv_aload_n X.1 X.2.1 d_M_take_327 rfl (lv_at hl 0 rfl) ?_
                                                                              refine m_get X Y 58 (by decide) lk_key (gf_key _ _ _) rfl d_M_take_328 ?_
                                                                              refine lv_iload X.1 X.2.1 d_M_take_331 (lv_at hl 4 rfl) ?_
                                                                              refine lv_iload_n X.1 X.2.1 d_M_take_333 rfl (lv_at hl 2 rfl) ?_
                                                                              refine lv_iconst (v := iI 2) X.1 X.2.1 d_M_take_334 (by decide) ?_
                                                                              refine z_icmp_ge (tgt := 363) X.1 X.2.1 d_M_take_335 (by decide) ⟨by omega, by omega⟩ ⟨by decide, by decide⟩ (fun h233 => ?_) (fun h233 => False.elim (by omega))
                                                                              · refine lv_aload_n X.1 X.2.1 d_M_take_363 rfl (lv_at hl 0 rfl) ?_
                                                                                refine m_get X Y 116 (by decide) lk_askedKeys (gf_askedKeys _ _ _) rfl d_M_take_364 ?_
                                                                                refine lv_bipush (v := iI 32) X.1 X.2.1 d_M_take_367 (by decide) ?_
                                                                                refine lv_iload_n X.1 X.2.1 d_M_take_369 rfl (lv_at hl 1 rfl) ?_
                                                                                refine z_imul X.1 X.2.1 d_M_take_370 ?_
                                                                                refine lv_iload X.1 X.2.1 d_M_take_371 (lv_at hl 4 rfl) ?_
                                                                                refine z_iadd X.1 X.2.1 d_M_take_373 ?_
                                                                                refine r_bald X Y S (aw_askedKeys _ _ _ _ _ _ _) rfl (by omega) (show (32 * a1) + z197 < ((128 : Nat) : Int) by omega) (by omega) d_M_take_374 (fun z234 q234 l234 u234 => ?_)
                                                                                refine r_bast X Y S (aw_key _ _ _ _ _ _ _) (sw_key _ _ _ _ _ _ _) rfl (by omega) (show z197 < ((32 : Nat) : Int) by omega) (by omega) (by decide) d_M_take_375 (fun B235 H locs Y S w235 => ?_)
                                                                                refine lv_iinc (v := iI (z197 + 1)) (lv' := [(10, .int (iI (z197 + 1))), (0, .ref h), (1, .int (iI a1)), (3, .int (iI z107)), (6, .long v134)]) X.1 X.2.1 d_M_take_376 hl (k := 4) rfl ((iI_add _ _).trans (congrArg iI (by omega))) (by decide) rfl (fun ls hl => ?_)
                                                                                refine lv_goto (tgt := 320) X.1 X.2.1 d_M_take_379 (by decide) ?_
                                                                                exact ih205 ((32 - (z197 + 1)).toNat) (by omega) (z197 + 1) I196 J196 B235 G196 _ _ _ rfl (by omega) (by omega) (akA_cg (w235.2 118 (by decide)) (w235.2 119 (by decide)) (w235.2 120 (by decide)) f198) (stA_cg (w235.2 110 (by decide)) (w235.2 118 (by decide)) (w235.2 119 (by decide)) (w235.2 120 (by decide)) f199) (stT_cg (w235.2 97 (by decide)) (w235.2 98 (by decide)) (w235.2 100 (by decide)) (w235.2 107 (by decide)) (w235.2 108 (by decide)) (w235.2 109 (by decide)) f200) (pG1_cg rfl rfl f201) (pG2_cg (w235.2 37 (by decide)) (w235.2 38 (by decide)) f202) (rpA_cg (w235.2 0 (by decide)) (w235.2 37 (by decide)) (w235.2 38 (by decide)) f203) Y S (lv_sub hl [1, 2, 3, 4, 0] rfl)
                                                                      refine lv_istore (lv' := [(10, .int (iI 0)), (9, .int (iI 1)), (8, .int (iI z136)), (6, .long v134), (5, .int (iI 0)), (4, .int (iI z114)), (3, .int (iI z107)), (2, .int (iI z101)), (0, .ref h), (1, .int (iI a1))]) X.1 X.2.1 d_M_take_318 hl (by decide) rfl (fun ls hl => ?_)
                                                                      exact J204 _ 0 I134 J134 B130 G134 _ _ _ rfl (by omega) (by omega) (akA_cg rfl rfl rfl f131) (stA_cg rfl rfl rfl rfl f132) f135 g134_P1 (pG2_cg rfl rfl g130_P2) (rpA_cg rfl rfl rfl f133) Y S (lv_sub hl [8, 9, 6, 3, 0] rfl)
                                                      · as_aux_lemma =>
                                                          refine lv_iconst (v := iI 1) X.1 X.2.1 d_M_take_277 (by decide) ?_
                                                          refine lv_goto (tgt := 282) X.1 X.2.1 d_M_take_278 (by decide) ?_
                                                          refine lv_istore (lv' := [(9, .int (iI 1)), (8, .int (iI z136)), (6, .long v134), (5, .int (iI 0)), (4, .int (iI z114)), (3, .int (iI z107)), (2, .int (iI z101)), (0, .ref h), (1, .int (iI a1))]) X.1 X.2.1 d_M_take_282 hl (by decide) rfl (fun ls hl => ?_)
                                                          refine lv_iload_n X.1 X.2.1 d_M_take_284 rfl (lv_at hl 5 rfl) ?_
                                                          refine lv_iconst (v := iI 2) X.1 X.2.1 d_M_take_285 (by decide) ?_
                                                          refine z_icmp_ne (tgt := 309) X.1 X.2.1 d_M_take_286 (by decide) ⟨by omega, by omega⟩ ⟨by decide, by decide⟩ (fun h236 => False.elim (by omega)) (fun h236 => ?_)
                                                          · as_aux_lemma =>
                                                              refine lv_lload X.1 X.2.1 d_M_take_289 (lv_at hl 2 rfl) ?_
                                                              refine lv_aload_n X.1 X.2.1 d_M_take_291 rfl (lv_at hl 7 rfl) ?_
                                                              refine m_get X Y 112 (by decide) lk_askedSub (gf_askedSub _ _ _) rfl d_M_take_292 ?_
                                                              refine lv_iload_n X.1 X.2.1 d_M_take_295 rfl (lv_at hl 8 rfl) ?_
                                                              refine r_iald X Y S (aw_askedSub _ _ _ _ _ _ _) rfl (by omega) (show a1 < ((4 : Nat) : Int) by omega) (by omega) d_M_take_296 (fun z237 q237 l237 u237 => ?_)
                                                              refine z_i2lx X.1 X.2.1 ⟨by omega, by omega⟩ d_M_take_297 (fun v238 tv238 => ?_)
                                                              refine z_lcmp X.1 X.2.1 d_M_take_298 (fun z239 l239 u239 x239 y239 => ?_)
                                                              refine z_if_ne (tgt := 306) X.1 X.2.1 d_M_take_299 (by decide) ⟨by omega, by omega⟩ (fun h240 => ?_) (fun h240 => ?_)
                                                              · refine lv_iconst (v := iI 0) X.1 X.2.1 d_M_take_306 (by decide) ?_
                                                                refine lv_istore (lv' := [(9, .int (iI 0)), (8, .int (iI z136)), (6, .long v134), (5, .int (iI 0)), (4, .int (iI z114)), (3, .int (iI z107)), (2, .int (iI z101)), (0, .ref h), (1, .int (iI a1))]) X.1 X.2.1 d_M_take_307 hl (by decide) rfl (fun ls hl => ?_)
                                                                refine lv_iload X.1 X.2.1 d_M_take_309 (lv_at hl 0 rfl) ?_
                                                                refine z_if_ne (tgt := 317) X.1 X.2.1 d_M_take_311 (by decide) ⟨by decide, by decide⟩ (fun h241 => False.elim (by omega)) (fun h241 => ?_)
                                                                · refine lv_bipush (v := iI (-14)) X.1 X.2.1 d_M_take_314 (by decide) ?_
                                                                  exact m_reti hQQ X Y hr hlk ⟨S, (-14), rfl, ⟨by omega, by omega, g134_P1, (pG2_cg rfl rfl g130_P2), f135, (stA_cg rfl rfl rfl rfl f132)⟩⟩ d_M_take_316
                                                              · as_aux_lemma =>
                                                                  refine lv_iconst (v := iI 1) X.1 X.2.1 d_M_take_302 (by decide) ?_
                                                                  refine lv_goto (tgt := 307) X.1 X.2.1 d_M_take_303 (by decide) ?_
                                                                  refine lv_istore (lv' := [(9, .int (iI 1)), (8, .int (iI z136)), (6, .long v134), (5, .int (iI 0)), (4, .int (iI z114)), (3, .int (iI z107)), (2, .int (iI z101)), (0, .ref h), (1, .int (iI a1))]) X.1 X.2.1 d_M_take_307 hl (by decide) rfl (fun ls hl => ?_)
                                                                  refine lv_iload X.1 X.2.1 d_M_take_309 (lv_at hl 0 rfl) ?_
                                                                  refine z_if_ne (tgt := 317) X.1 X.2.1 d_M_take_311 (by decide) ⟨by decide, by decide⟩ (fun h242 => ?_) (fun h242 => False.elim (by omega))
                                                                  · as_aux_lemma =>
                                                                      refine lv_iconst (v := iI 0) X.1 X.2.1 d_M_take_317 (by decide) ?_
                                                                      have J251 : ∀ (n253 : Nat) (z244 : Int) (I243 : Nat → Int32) (J243 : Nat → Int64) (B243 : Nat → Nat → Int32) (G243 : Nat → Nat → Int64) (H : Heap) (locs : List Loc) (ls : Array Slot), (32 - z244).toNat = n253 → (0 ≤ z244) → (z244 ≤ 32) → (akA a1 z107 (B243 118) (B243 119) (B243 120)) → (stA (B243 110) (B243 118) (B243 119) (B243 120)) → (stT (B243 97) (B243 98) (B243 100) (B243 107) (B243 108) (B243 109)) → (pG1 I243) → (pG2 (B243 37) (B243 38)) → (rpA (B243 37) (B243 38) (B243 0)) → mH D E (mA E h q sz) s.heap h q I243 J243 B243 G243 H locs → rS [2, 8, 14, 18, 39, 40, 42] [0, 5, 6, 7, 9, 10, 11, 12, 13, 15, 16, 17, 19, 20, 21, 22, 23, 34, 37, 38, 58, 59, 97, 98, 99, 100, 101, 102, 107, 108, 109, 110] I B I243 B243 → lv_has ls 12 [(0, .ref h), (1, .int (iI a1)), (3, .int (iI z107)), (6, .long v134), (10, .int (iI z244))] → W p l e (mR 46 2068) s m AV below meth c H locs 0 0 QQ (F0 m 320 ls []) := by
                                                                        as_aux_lemma =>
                                                                          intro n253
                                                                          induction n253 using Nat.strongRecOn with
                                                                          | ind n253 ih252 =>
                                                                            intro z244 I243 J243 B243 G243 H locs ls hm254 l244 u244 f245 f246 f247 f248 f249 f250 Y S hl
                                                                            refine lv_iload X.1 X.2.1 d_M_take_320 (lv_at hl 4 rfl) ?_
                                                                            refine lv_bipush (v := iI 32) X.1 X.2.1 d_M_take_322 (by decide) ?_
                                                                            refine z_icmp_ge (tgt := 382) X.1 X.2.1 d_M_take_324 (by decide) ⟨by omega, by omega⟩ ⟨by decide, by decide⟩ (fun h255 => ?_) (fun h255 => ?_)
                                                                            · as_aux_lemma =>
                                                                                refine lv_aload_n X.1 X.2.1 d_M_take_382 rfl (lv_at hl 0 rfl) ?_
                                                                                refine lv_aload_n X.1 X.2.1 d_M_take_383 rfl (lv_at hl 0 rfl) ?_
                                                                                refine lv_bipush (v := iI 6) X.1 X.2.1 d_M_take_384 (by decide) ?_
                                                                                refine lv_iconst (v := iI 2) X.1 X.2.1 d_M_take_386 (by decide) ?_
                                                                                refine r_ni (m_run (As := [.int (iI 6), .int (iI 2)]) (rest := [.ref h]) (n := 2) X Y hZ hA hml hl.1 (r_M_a l D E h q H.size I243 J243 B243 G243 6 (by decide) (by decide) 2 (by decide) (by decide) S.1) kl_M_a ks_M_a kx_M_a ki_M_a ini_M hd_M_a ⟨Nat.le_of_ble_eq_true rfl, Nat.le_of_ble_eq_true rfl⟩ rfl (Nat.le_of_ble_eq_true rfl) d_M_take_387 ⟨Nat.le_refl _, Nat.le_refl _⟩) X Y hA S (by decide) (by decide) (fun z256 u H locs Y S s256 p256 => ?_)
                                                                                obtain ⟨I256, J256, B256, G256⟩ := u
                                                                                dsimp only at Y S s256 p256
                                                                                have i256 : I243 = I256 := (funext (fun j => s256.2.1 j (by simp))).symm
                                                                                subst i256
                                                                                have b256 : B243 = B256 := (funext (fun j => s256.2.2 j (by simp))).symm
                                                                                subst b256
                                                                                obtain ⟨l256, u256, x256⟩ := p256
                                                                                refine lv_aload_n X.1 X.2.1 d_M_take_390 rfl (lv_at hl 0 rfl) ?_
                                                                                refine lv_bipush (v := iI 6) X.1 X.2.1 d_M_take_391 (by decide) ?_
                                                                                refine lv_iconst (v := iI 2) X.1 X.2.1 d_M_take_393 (by decide) ?_
                                                                                refine r_ni (m_run (As := [.int (iI 6), .int (iI 2)]) (rest := [.int (iI z256), .ref h]) (n := 2) X Y hZ hA hml hl.1 (r_M_b l D E h q H.size I243 J256 B243 G256 6 (by decide) (by decide) 2 (by decide) (by decide) S.1) kl_M_b ks_M_b kx_M_b ki_M_b ini_M hd_M_b ⟨Nat.le_of_ble_eq_true rfl, Nat.le_of_ble_eq_true rfl⟩ rfl (Nat.le_of_ble_eq_true rfl) d_M_take_394 ⟨Nat.le_refl _, Nat.le_refl _⟩) X Y hA S (by decide) (by decide) (fun z257 u H locs Y S s257 p257 => ?_)
                                                                                obtain ⟨I257, J257, B257, G257⟩ := u
                                                                                dsimp only at Y S s257 p257
                                                                                have i257 : I243 = I257 := (funext (fun j => s257.2.1 j (by simp))).symm
                                                                                subst i257
                                                                                have b257 : B243 = B257 := (funext (fun j => s257.2.2 j (by simp))).symm
                                                                                subst b257
                                                                                obtain ⟨l257, u257, x257⟩ := p257
                                                                                have p258 : pr z256 z257 := by rw [x256, x257]; exact (pG2_cg rfl rfl (pG2_cg rfl rfl f249)) (16 * 6 + 2 : Int).toNat (by omega)
                                                                                unfold pr at p258
                                                                                refine lv_iconst (v := iI 4) X.1 X.2.1 d_M_take_397 (by decide) ?_
                                                                                refine r_ni (m_run (As := [.int (iI z256), .int (iI z257), .int (iI 4)]) (rest := []) (n := 3) X Y hZ hA hml hl.1 (r_M_element l D E h q H.size I243 J257 B243 G257 z256 (by omega) (by omega) z257 (by omega) (by omega) 4 (by decide) (by decide) S.1 (B243 0) rfl (pG1_cg rfl rfl (pG1_cg rfl rfl f248)) (by omega) (by omega)) kl_M_element ks_M_element kx_M_element ki_M_element ini_M hd_M_element ⟨Nat.le_of_ble_eq_true rfl, Nat.le_of_ble_eq_true rfl⟩ rfl (Nat.le_of_ble_eq_true rfl) d_M_take_398 ⟨Nat.le_refl _, Nat.le_refl _⟩) X Y hA S (by decide) (by decide) (fun z259 u H locs Y S s259 p259 => ?_)
                                                                                obtain ⟨I259, J259, B259, G259⟩ := u
                                                                                dsimp only at Y S s259 p259
                                                                                have b259 : B243 = B259 := (funext (fun j => s259.2.2 j (by simp))).symm
                                                                                subst b259
                                                                                obtain ⟨l259, u259, x259, st259⟩ := p259
                                                                                obtain ⟨x260, y260, ex260, ey260, lx260, ly260, uy260, dy260, iy260, ky260⟩ := st259
                                                                                refine lv_pop X.1 X.2.1 d_M_take_401 rfl ?_
                                                                                refine lv_aload_n X.1 X.2.1 d_M_take_402 rfl (lv_at hl 0 rfl) ?_
                                                                                refine lv_aload_n X.1 X.2.1 d_M_take_403 rfl (lv_at hl 0 rfl) ?_
                                                                                refine m_get X Y 58 (by decide) lk_key (gf_key _ _ _) rfl d_M_take_404 ?_
                                                                                refine lv_lload X.1 X.2.1 d_M_take_407 (lv_at hl 3 rfl) ?_
                                                                                refine z_l2i X.1 X.2.1 d_M_take_409 (fun z261 l261 u261 x261 => ?_)
                                                                                refine lv_iload_n X.1 X.2.1 d_M_take_410 rfl (lv_at hl 2 rfl) ?_
                                                                                refine lv_iconst (v := iI 2) X.1 X.2.1 d_M_take_411 (by decide) ?_
                                                                                refine z_icmp_ge (tgt := 419) X.1 X.2.1 d_M_take_412 (by decide) ⟨by omega, by omega⟩ ⟨by decide, by decide⟩ (fun h262 => ?_) (fun h262 => False.elim (by omega))
                                                                                · as_aux_lemma =>
                                                                                    refine lv_bipush (v := iI 9) X.1 X.2.1 d_M_take_419 (by decide) ?_
                                                                                    refine lv_aload_n X.1 X.2.1 d_M_take_421 rfl (lv_at hl 0 rfl) ?_
                                                                                    refine r_get0 X Y (by decide) lk_inside (gf_inside _ _ _) rfl ex260 d_M_take_422 ?_
                                                                                    refine lv_aload_n X.1 X.2.1 d_M_take_425 rfl (lv_at hl 0 rfl) ?_
                                                                                    refine r_get0 X Y (by decide) lk_behind (gf_behind _ _ _) rfl ey260 d_M_take_426 ?_
                                                                                    refine lv_sipush (v := iI 4200) X.1 X.2.1 d_M_take_429 (by decide) ?_
                                                                                    refine r_ni (m_run (As := [.ref ((q 58)), .int (iI z261), .int (iI 9), .int (iI x260), .int (iI y260), .int (iI 4200)]) (rest := []) (n := 6) X Y hZ hA hml hl.1 (r_M_open_key l D E h q H.size I259 J259 B243 G259 z261 (by omega) (by omega) 9 (by decide) (by decide) x260 (by omega) (by omega) y260 (by omega) (by omega) 4200 (by decide) (by decide) S.1 (by omega) (by omega)) kl_M_open ks_M_open kx_M_open ki_M_open ini_M hd_M_open ⟨Nat.le_of_ble_eq_true rfl, Nat.le_of_ble_eq_true rfl⟩ rfl (Nat.le_of_ble_eq_true rfl) d_M_take_432 ⟨Nat.le_refl _, Nat.le_refl _⟩) X Y hA S (by decide) (by decide) (fun z263 u H locs Y S s263 p263 => ?_)
                                                                                    obtain ⟨I263, J263, B263, G263⟩ := u
                                                                                    dsimp only at Y S s263 p263
                                                                                    have f264 : stT (B263 97) (B263 98) (B263 100) (B263 107) (B263 108) (B263 109) := (stT_cg (s263.2.2 97 (by decide)) (s263.2.2 98 (by decide)) (s263.2.2 100 (by decide)) (s263.2.2 107 (by decide)) (s263.2.2 108 (by decide)) (s263.2.2 109 (by decide)) (stT_cg rfl rfl rfl rfl rfl rfl (stT_cg rfl rfl rfl rfl rfl rfl (stT_cg rfl rfl rfl rfl rfl rfl f247))))
                                                                                    obtain ⟨l263, u263, x263, g263_MF⟩ := p263
                                                                                    have f265 : rpA (B263 37) (B263 38) (B263 0) := (rpA_cg rfl (s263.2.2 37 (by decide)) (s263.2.2 38 (by decide)) (rpA_M g263_MF (by decide) (rpA_cg rfl rfl rfl (rpA_cg rfl rfl rfl (rpA_cg rfl rfl rfl f250)))))
                                                                                    refine lv_istore (lv' := [(10, .int (iI z263)), (0, .ref h), (1, .int (iI a1)), (3, .int (iI z107)), (6, .long v134)]) X.1 X.2.1 d_M_take_435 hl (by decide) rfl (fun ls hl => ?_)
                                                                                    refine lv_iload X.1 X.2.1 d_M_take_437 (lv_at hl 0 rfl) ?_
                                                                                    refine z_if_ge (tgt := 445) X.1 X.2.1 d_M_take_439 (by decide) ⟨by omega, by omega⟩ (fun h266 => ?_) (fun h266 => ?_)
                                                                                    · as_aux_lemma =>
                                                                                        refine lv_iload_n X.1 X.2.1 d_M_take_445 rfl (lv_at hl 3 rfl) ?_
                                                                                        refine lv_iconst (v := iI 2) X.1 X.2.1 d_M_take_446 (by decide) ?_
                                                                                        refine z_icmp_ge (tgt := 472) X.1 X.2.1 d_M_take_447 (by decide) ⟨by omega, by omega⟩ ⟨by decide, by decide⟩ (fun h267 => ?_) (fun h267 => False.elim (by omega))
                                                                                        · as_aux_lemma =>
                                                                                            refine lv_aload_n X.1 X.2.1 d_M_take_472 rfl (lv_at hl 1 rfl) ?_
                                                                                            refine lv_bipush (v := iI 26) X.1 X.2.1 d_M_take_473 (by decide) ?_
                                                                                            refine m_ldcSW (i := 19) X (by decide) (by decide) d_M_take_475 ?_
                                                                                            refine lv_sipush (v := iI 4200) X.1 X.2.1 d_M_take_478 (by decide) ?_
                                                                                            refine lv_sipush (v := iI 4200) X.1 X.2.1 d_M_take_481 (by decide) ?_
                                                                                            refine lv_iload X.1 X.2.1 d_M_take_484 (lv_at hl 0 rfl) ?_
                                                                                            refine z_iadd X.1 X.2.1 d_M_take_486 ?_
                                                                                            refine lv_iconst (v := iI 4) X.1 X.2.1 d_M_take_487 (by decide) ?_
                                                                                            refine r_ni (m_run (As := [.int (iI 26), .ref ((D.2.1 19)), .int (iI 4200), .int (iI (4200 + z263)), .int (iI 4)]) (rest := []) (n := 5) X Y hZ hA hml hl.1 (r_M_applied_t l D E h q H.size I263 J263 B263 G263 26 (by decide) (by decide) 19 (show 19 < nZ by decide) 4200 (by decide) (by decide) (4200 + z263) (by omega) (by omega) 4 (by decide) (by decide) S.1 5 (B263 0) rfl (isF (B263 0) 5) (by decide) (hisU (show rki 19 ≤ 5 by decide)) (pG1_cg (s263.2.1 39 (by decide)) (s263.2.1 40 (by decide)) (show pG1 I259 from ⟨x260, y260, ex260, ey260, by omega, by omega, by omega, by omega⟩)) (pG2_cg (s263.2.2 37 (by decide)) (s263.2.2 38 (by decide)) (pG2_cg rfl rfl (pG2_cg rfl rfl (pG2_cg rfl rfl f249)))) (by omega) (by omega)) kl_M_applied ks_M_applied kx_M_applied ki_M_applied ini_M hd_M_applied ⟨Nat.le_of_ble_eq_true rfl, Nat.le_of_ble_eq_true rfl⟩ rfl (Nat.le_of_ble_eq_true rfl) d_M_take_488 ⟨Nat.le_refl _, Nat.le_refl _⟩) X Y hA S (by decide) (by decide) (fun z268 u H locs Y S s268 p268 => ?_)
                                                                                            obtain ⟨I268, J268, B268, G268⟩ := u
                                                                                            dsimp only at Y S s268 p268
                                                                                            have f269 : stA (B268 110) (B268 118) (B268 119) (B268 120) := (stA_cg (s268.2.2 110 (by decide)) (s268.2.2 118 (by decide)) (s268.2.2 119 (by decide)) (s268.2.2 120 (by decide)) (stA_cg (s263.2.2 110 (by decide)) (s263.2.2 118 (by decide)) (s263.2.2 119 (by decide)) (s263.2.2 120 (by decide)) (stA_cg rfl rfl rfl rfl (stA_cg rfl rfl rfl rfl (stA_cg rfl rfl rfl rfl f246)))))
                                                                                            obtain ⟨l268, u268, x268, st268, g268_P1, g268_P2⟩ := p268
                                                                                            have g268_TF : thF [4] (B263 37) (B263 38) (B268 37) (B268 38) := thF_of st268.1
                                                                                            have f270 : rpA (B268 37) (B268 38) (B268 0) := (rpA_cg (s268.2.2 0 (by decide)) rfl rfl (rpA_T g268_TF (by decide) (by decide) f265))
                                                                                            refine z_if_eq (tgt := 498) X.1 X.2.1 d_M_take_491 (by decide) ⟨by omega, by omega⟩ (fun h271 => ?_) (fun h271 => ?_)
                                                                                            · refine lv_iconst (v := iI 0) X.1 X.2.1 d_M_take_498 (by decide) ?_
                                                                                              refine lv_istore (lv' := [(11, .int (iI 0)), (10, .int (iI z263)), (0, .ref h), (1, .int (iI a1)), (3, .int (iI z107)), (6, .long v134)]) X.1 X.2.1 d_M_take_499 hl (by decide) rfl (fun ls hl => ?_)
                                                                                              refine lv_iload X.1 X.2.1 d_M_take_501 (lv_at hl 0 rfl) ?_
                                                                                              refine z_if_ne (tgt := 509) X.1 X.2.1 d_M_take_503 (by decide) ⟨by decide, by decide⟩ (fun h272 => False.elim (by omega)) (fun h272 => ?_)
                                                                                              · refine lv_bipush (v := iI (-60)) X.1 X.2.1 d_M_take_506 (by decide) ?_
                                                                                                exact m_reti hQQ X Y hr hlk ⟨S, (-60), rfl, ⟨by omega, by omega, g268_P1, g268_P2, (stT_cg (s268.2.2 97 (by decide)) (s268.2.2 98 (by decide)) (s268.2.2 100 (by decide)) (s268.2.2 107 (by decide)) (s268.2.2 108 (by decide)) (s268.2.2 109 (by decide)) f264), f269⟩⟩ d_M_take_508
                                                                                            · as_aux_lemma =>
                                                                                                refine lv_iconst (v := iI 1) X.1 X.2.1 d_M_take_494 (by decide) ?_
                                                                                                refine lv_goto (tgt := 499) X.1 X.2.1 d_M_take_495 (by decide) ?_
                                                                                                refine lv_istore (lv' := [(11, .int (iI 1)), (10, .int (iI z263)), (0, .ref h), (1, .int (iI a1)), (3, .int (iI z107)), (6, .long v134)]) X.1 X.2.1 d_M_take_499 hl (by decide) rfl (fun ls hl => ?_)
                                                                                                refine lv_iload X.1 X.2.1 d_M_take_501 (lv_at hl 0 rfl) ?_
                                                                                                refine z_if_ne (tgt := 509) X.1 X.2.1 d_M_take_503 (by decide) ⟨by decide, by decide⟩ (fun h273 => ?_) (fun h273 => False.elim (by omega))
                                                                                                · as_aux_lemma =>
                                                                                                    refine lv_aload_n X.1 X.2.1 d_M_take_509 rfl (lv_at hl 2 rfl) ?_
                                                                                                    refine lv_iconst (v := iI 4) X.1 X.2.1 d_M_take_510 (by decide) ?_
                                                                                                    refine lv_iconst (v := iI 2) X.1 X.2.1 d_M_take_511 (by decide) ?_
                                                                                                    refine r_nl (m_run (As := [.int (iI 4), .int (iI 2)]) (rest := []) (n := 2) X Y hZ hA hml hl.1 (r_M_numberAt l D E h q H.size I268 J268 B268 G268 4 (by decide) (by decide) 2 (by decide) (by decide) S.1 g268_P1 g268_P2) kl_M_numberAt ks_M_numberAt kx_M_numberAt ki_M_numberAt ini_M hd_M_numberAt ⟨Nat.le_of_ble_eq_true rfl, Nat.le_of_ble_eq_true rfl⟩ rfl (Nat.le_of_ble_eq_true rfl) d_M_take_512 ⟨Nat.le_refl _, Nat.le_refl _⟩) X Y hA S (by decide) (by decide) (fun v274 u H locs Y S s274 p274 => ?_)
                                                                                                    obtain ⟨I274, J274, B274, G274⟩ := u
                                                                                                    dsimp only at Y S s274 p274
                                                                                                    have b274 : B268 = B274 := (funext (fun j => s274.2.2 j (by simp))).symm
                                                                                                    subst b274
                                                                                                    have f275 : akA a1 z107 (B268 118) (B268 119) (B268 120) := (akA_cg rfl rfl rfl (akA_cg (s268.2.2 118 (by decide)) (s268.2.2 119 (by decide)) (s268.2.2 120 (by decide)) (akA_cg (s263.2.2 118 (by decide)) (s263.2.2 119 (by decide)) (s263.2.2 120 (by decide)) (akA_cg rfl rfl rfl (akA_cg rfl rfl rfl (akA_cg rfl rfl rfl f245))))))
                                                                                                    have g274_P1 := p274
                                                                                                    refine lv_aload_n X.1 X.2.1 d_M_take_515 rfl (lv_at hl 2 rfl) ?_
                                                                                                    refine m_get X Y 114 (by decide) lk_askedNonce (gf_askedNonce _ _ _) rfl d_M_take_516 ?_
                                                                                                    refine lv_iload_n X.1 X.2.1 d_M_take_519 rfl (lv_at hl 3 rfl) ?_
                                                                                                    refine r_lald X Y (aw_askedNonce _ _ _ _ _ _ _) (by omega) (show a1 < ((4 : Nat) : Int) by omega) (by omega) d_M_take_520 (fun v276 => ?_)
                                                                                                    refine z_lcmp X.1 X.2.1 d_M_take_521 (fun z277 l277 u277 x277 y277 => ?_)
                                                                                                    refine z_if_eq (tgt := 528) X.1 X.2.1 d_M_take_522 (by decide) ⟨by omega, by omega⟩ (fun h278 => ?_) (fun h278 => ?_)
                                                                                                    · refine lv_aload_n X.1 X.2.1 d_M_take_528 rfl (lv_at hl 2 rfl) ?_
                                                                                                      refine lv_iload_n X.1 X.2.1 d_M_take_529 rfl (lv_at hl 3 rfl) ?_
                                                                                                      refine lv_iload_n X.1 X.2.1 d_M_take_530 rfl (lv_at hl 4 rfl) ?_
                                                                                                      refine r_ni (m_run (As := [.int (iI a1), .int (iI z107)]) (rest := []) (n := 2) X Y hZ hA hml hl.1 (r_M_taken l D E h q H.size I274 J274 B268 G274 a1 (by omega) (by omega) z107 (by omega) (by omega) S.1 g274_P1 (pG2_cg rfl rfl g268_P2) (stT_cg rfl rfl rfl rfl rfl rfl (stT_cg (s268.2.2 97 (by decide)) (s268.2.2 98 (by decide)) (s268.2.2 100 (by decide)) (s268.2.2 107 (by decide)) (s268.2.2 108 (by decide)) (s268.2.2 109 (by decide)) f264)) (stA_cg rfl rfl rfl rfl f269) (rpA_cg rfl rfl rfl f270) f275) kl_M_taken ks_M_taken kx_M_taken ki_M_taken ini_M hd_M_taken ⟨Nat.le_of_ble_eq_true rfl, Nat.le_of_ble_eq_true rfl⟩ rfl (Nat.le_of_ble_eq_true rfl) d_M_take_531 ⟨Nat.le_refl _, Nat.le_refl _⟩) X Y hA S (by decide) (by decide) (fun z279 u H locs Y S s279 p279 => ?_)
                                                                                                      obtain ⟨I279, J279, B279, G279⟩ := u
                                                                                                      dsimp only at Y S s279 p279
                                                                                                      obtain ⟨l279, u279, g279_P1, g279_P2, g279_FT, g279_FA⟩ := p279
                                                                                                      exact m_reti hQQ X Y hr hlk ⟨S, z279, rfl, ⟨by omega, by omega, g279_P1, g279_P2, g279_FT, g279_FA⟩⟩ d_M_take_534
                                                                                                    · refine lv_bipush (v := iI (-41)) X.1 X.2.1 d_M_take_525 (by decide) ?_
                                                                                                      exact m_reti hQQ X Y hr hlk ⟨S, (-41), rfl, ⟨by omega, by omega, g274_P1, (pG2_cg rfl rfl g268_P2), (stT_cg rfl rfl rfl rfl rfl rfl (stT_cg (s268.2.2 97 (by decide)) (s268.2.2 98 (by decide)) (s268.2.2 100 (by decide)) (s268.2.2 107 (by decide)) (s268.2.2 108 (by decide)) (s268.2.2 109 (by decide)) f264)), (stA_cg rfl rfl rfl rfl f269)⟩⟩ d_M_take_527
                                                                                    · refine lv_bipush (v := iI (-31)) X.1 X.2.1 d_M_take_442 (by decide) ?_
                                                                                      exact m_reti hQQ X Y hr hlk ⟨S, (-31), rfl, ⟨by omega, by omega, (pG1_cg (s263.2.1 39 (by decide)) (s263.2.1 40 (by decide)) (show pG1 I259 from ⟨x260, y260, ex260, ey260, by omega, by omega, by omega, by omega⟩)), (pG2_cg (s263.2.2 37 (by decide)) (s263.2.2 38 (by decide)) (pG2_cg rfl rfl (pG2_cg rfl rfl (pG2_cg rfl rfl f249)))), f264, (stA_cg (s263.2.2 110 (by decide)) (s263.2.2 118 (by decide)) (s263.2.2 119 (by decide)) (s263.2.2 120 (by decide)) (stA_cg rfl rfl rfl rfl (stA_cg rfl rfl rfl rfl (stA_cg rfl rfl rfl rfl f246))))⟩⟩ d_M_take_444
                                                                            · refine lv_aload_n X.1 X.2.1 d_M_take_327 rfl (lv_at hl 0 rfl) ?_
                                                                              refine m_get X Y 58 (by decide) lk_key (gf_key _ _ _) rfl d_M_take_328 ?_
                                                                              refine lv_iload X.1 X.2.1 d_M_take_331 (lv_at hl 4 rfl) ?_
                                                                              refine lv_iload_n X.1 X.2.1 d_M_take_333 rfl (lv_at hl 2 rfl) ?_
                                                                              refine lv_iconst (v := iI 2) X.1 X.2.1 d_M_take_334 (by decide) ?_
                                                                              refine z_icmp_ge (tgt := 363) X.1 X.2.1 d_M_take_335 (by decide) ⟨by omega, by omega⟩ ⟨by decide, by decide⟩ (fun h280 => ?_) (fun h280 => False.elim (by omega))
                                                                              · refine lv_aload_n X.1 X.2.1 d_M_take_363 rfl (lv_at hl 0 rfl) ?_
                                                                                refine m_get X Y 116 (by decide) lk_askedKeys (gf_askedKeys _ _ _) rfl d_M_take_364 ?_
                                                                                refine lv_bipush (v := iI 32) X.1 X.2.1 d_M_take_367 (by decide) ?_
                                                                                refine lv_iload_n X.1 X.2.1 d_M_take_369 rfl (lv_at hl 1 rfl) ?_
                                                                                refine z_imul X.1 X.2.1 d_M_take_370 ?_
                                                                                refine lv_iload X.1 X.2.1 d_M_take_371 (lv_at hl 4 rfl) ?_
                                                                                refine z_iadd X.1 X.2.1 d_M_take_373 ?_
                                                                                refine r_bald X Y S (aw_askedKeys _ _ _ _ _ _ _) rfl (by omega) (show (32 * a1) + z244 < ((128 : Nat) : Int) by omega) (by omega) d_M_take_374 (fun z281 q281 l281 u281 => ?_)
                                                                                refine r_bast X Y S (aw_key _ _ _ _ _ _ _) (sw_key _ _ _ _ _ _ _) rfl (by omega) (show z244 < ((32 : Nat) : Int) by omega) (by omega) (by decide) d_M_take_375 (fun B282 H locs Y S w282 => ?_)
                                                                                refine lv_iinc (v := iI (z244 + 1)) (lv' := [(10, .int (iI (z244 + 1))), (0, .ref h), (1, .int (iI a1)), (3, .int (iI z107)), (6, .long v134)]) X.1 X.2.1 d_M_take_376 hl (k := 4) rfl ((iI_add _ _).trans (congrArg iI (by omega))) (by decide) rfl (fun ls hl => ?_)
                                                                                refine lv_goto (tgt := 320) X.1 X.2.1 d_M_take_379 (by decide) ?_
                                                                                exact ih252 ((32 - (z244 + 1)).toNat) (by omega) (z244 + 1) I243 J243 B282 G243 _ _ _ rfl (by omega) (by omega) (akA_cg (w282.2 118 (by decide)) (w282.2 119 (by decide)) (w282.2 120 (by decide)) f245) (stA_cg (w282.2 110 (by decide)) (w282.2 118 (by decide)) (w282.2 119 (by decide)) (w282.2 120 (by decide)) f246) (stT_cg (w282.2 97 (by decide)) (w282.2 98 (by decide)) (w282.2 100 (by decide)) (w282.2 107 (by decide)) (w282.2 108 (by decide)) (w282.2 109 (by decide)) f247) (pG1_cg rfl rfl f248) (pG2_cg (w282.2 37 (by decide)) (w282.2 38 (by decide)) f249) (rpA_cg (w282.2 0 (by decide)) (w282.2 37 (by decide)) (w282.2 38 (by decide)) f250) Y S (lv_sub hl [1, 2, 3, 4, 0] rfl)
                                                                      refine lv_istore (lv' := [(10, .int (iI 0)), (9, .int (iI 1)), (8, .int (iI z136)), (6, .long v134), (5, .int (iI 0)), (4, .int (iI z114)), (3, .int (iI z107)), (2, .int (iI z101)), (0, .ref h), (1, .int (iI a1))]) X.1 X.2.1 d_M_take_318 hl (by decide) rfl (fun ls hl => ?_)
                                                                      exact J251 _ 0 I134 J134 B130 G134 _ _ _ rfl (by omega) (by omega) (akA_cg rfl rfl rfl f131) (stA_cg rfl rfl rfl rfl f132) f135 g134_P1 (pG2_cg rfl rfl g130_P2) (rpA_cg rfl rfl rfl f133) Y S (lv_sub hl [8, 9, 6, 3, 0] rfl)
                                              · as_aux_lemma =>
                                                  refine lv_iload X.1 X.2.1 d_M_take_248 (lv_at hl 0 rfl) ?_
                                                  refine lv_iconst (v := iI 2) X.1 X.2.1 d_M_take_250 (by decide) ?_
                                                  refine z_icmp_eq (tgt := 258) X.1 X.2.1 d_M_take_251 (by decide) ⟨by omega, by omega⟩ ⟨by decide, by decide⟩ (fun h283 => ?_) (fun h283 => ?_)
                                                  · as_aux_lemma =>
                                                      refine lv_iconst (v := iI 0) X.1 X.2.1 d_M_take_258 (by decide) ?_
                                                      refine lv_goto (tgt := 282) X.1 X.2.1 d_M_take_259 (by decide) ?_
                                                      refine lv_istore (lv' := [(9, .int (iI 0)), (8, .int (iI z136)), (6, .long v134), (5, .int (iI 0)), (4, .int (iI z114)), (3, .int (iI z107)), (2, .int (iI z101)), (0, .ref h), (1, .int (iI a1))]) X.1 X.2.1 d_M_take_282 hl (by decide) rfl (fun ls hl => ?_)
                                                      refine lv_iload_n X.1 X.2.1 d_M_take_284 rfl (lv_at hl 5 rfl) ?_
                                                      refine lv_iconst (v := iI 2) X.1 X.2.1 d_M_take_285 (by decide) ?_
                                                      refine z_icmp_ne (tgt := 309) X.1 X.2.1 d_M_take_286 (by decide) ⟨by omega, by omega⟩ ⟨by decide, by decide⟩ (fun h284 => False.elim (by omega)) (fun h284 => ?_)
                                                      · as_aux_lemma =>
                                                          refine lv_lload X.1 X.2.1 d_M_take_289 (lv_at hl 2 rfl) ?_
                                                          refine lv_aload_n X.1 X.2.1 d_M_take_291 rfl (lv_at hl 7 rfl) ?_
                                                          refine m_get X Y 112 (by decide) lk_askedSub (gf_askedSub _ _ _) rfl d_M_take_292 ?_
                                                          refine lv_iload_n X.1 X.2.1 d_M_take_295 rfl (lv_at hl 8 rfl) ?_
                                                          refine r_iald X Y S (aw_askedSub _ _ _ _ _ _ _) rfl (by omega) (show a1 < ((4 : Nat) : Int) by omega) (by omega) d_M_take_296 (fun z285 q285 l285 u285 => ?_)
                                                          refine z_i2lx X.1 X.2.1 ⟨by omega, by omega⟩ d_M_take_297 (fun v286 tv286 => ?_)
                                                          refine z_lcmp X.1 X.2.1 d_M_take_298 (fun z287 l287 u287 x287 y287 => ?_)
                                                          refine z_if_ne (tgt := 306) X.1 X.2.1 d_M_take_299 (by decide) ⟨by omega, by omega⟩ (fun h288 => ?_) (fun h288 => ?_)
                                                          · refine lv_iconst (v := iI 0) X.1 X.2.1 d_M_take_306 (by decide) ?_
                                                            refine lv_istore (lv' := [(9, .int (iI 0)), (8, .int (iI z136)), (6, .long v134), (5, .int (iI 0)), (4, .int (iI z114)), (3, .int (iI z107)), (2, .int (iI z101)), (0, .ref h), (1, .int (iI a1))]) X.1 X.2.1 d_M_take_307 hl (by decide) rfl (fun ls hl => ?_)
                                                            refine lv_iload X.1 X.2.1 d_M_take_309 (lv_at hl 0 rfl) ?_
                                                            refine z_if_ne (tgt := 317) X.1 X.2.1 d_M_take_311 (by decide) ⟨by decide, by decide⟩ (fun h289 => False.elim (by omega)) (fun h289 => ?_)
                                                            · refine lv_bipush (v := iI (-14)) X.1 X.2.1 d_M_take_314 (by decide) ?_
                                                              exact m_reti hQQ X Y hr hlk ⟨S, (-14), rfl, ⟨by omega, by omega, g134_P1, (pG2_cg rfl rfl g130_P2), f135, (stA_cg rfl rfl rfl rfl f132)⟩⟩ d_M_take_316
                                                          · as_aux_lemma =>
                                                              refine lv_iconst (v := iI 1) X.1 X.2.1 d_M_take_302 (by decide) ?_
                                                              refine lv_goto (tgt := 307) X.1 X.2.1 d_M_take_303 (by decide) ?_
                                                              refine lv_istore (lv' := [(9, .int (iI 1)), (8, .int (iI z136)), (6, .long v134), (5, .int (iI 0)), (4, .int (iI z114)), (3, .int (iI z107)), (2, .int (iI z101)), (0, .ref h), (1, .int (iI a1))]) X.1 X.2.1 d_M_take_307 hl (by decide) rfl (fun ls hl => ?_)
                                                              refine lv_iload X.1 X.2.1 d_M_take_309 (lv_at hl 0 rfl) ?_
                                                              refine z_if_ne (tgt := 317) X.1 X.2.1 d_M_take_311 (by decide) ⟨by decide, by decide⟩ (fun h290 => ?_) (fun h290 => False.elim (by omega))
                                                              · as_aux_lemma =>
                                                                  refine lv_iconst (v := iI 0) X.1 X.2.1 d_M_take_317 (by decide) ?_
                                                                  have J299 : ∀ (n301 : Nat) (z292 : Int) (I291 : Nat → Int32) (J291 : Nat → Int64) (B291 : Nat → Nat → Int32) (G291 : Nat → Nat → Int64) (H : Heap) (locs : List Loc) (ls : Array Slot), (32 - z292).toNat = n301 → (0 ≤ z292) → (z292 ≤ 32) → (akA a1 z107 (B291 118) (B291 119) (B291 120)) → (stA (B291 110) (B291 118) (B291 119) (B291 120)) → (stT (B291 97) (B291 98) (B291 100) (B291 107) (B291 108) (B291 109)) → (pG1 I291) → (pG2 (B291 37) (B291 38)) → (rpA (B291 37) (B291 38) (B291 0)) → mH D E (mA E h q sz) s.heap h q I291 J291 B291 G291 H locs → rS [2, 8, 14, 18, 39, 40, 42] [0, 5, 6, 7, 9, 10, 11, 12, 13, 15, 16, 17, 19, 20, 21, 22, 23, 34, 37, 38, 58, 59, 97, 98, 99, 100, 101, 102, 107, 108, 109, 110] I B I291 B291 → lv_has ls 12 [(0, .ref h), (1, .int (iI a1)), (3, .int (iI z107)), (6, .long v134), (10, .int (iI z292))] → W p l e (mR 46 2068) s m AV below meth c H locs 0 0 QQ (F0 m 320 ls []) := by
                                                                    as_aux_lemma =>
                                                                      intro n301
                                                                      induction n301 using Nat.strongRecOn with
                                                                      | ind n301 ih300 =>
                                                                        intro z292 I291 J291 B291 G291 H locs ls hm302 l292 u292 f293 f294 f295 f296 f297 f298 Y S hl
                                                                        refine lv_iload X.1 X.2.1 d_M_take_320 (lv_at hl 4 rfl) ?_
                                                                        refine lv_bipush (v := iI 32) X.1 X.2.1 d_M_take_322 (by decide) ?_
                                                                        refine z_icmp_ge (tgt := 382) X.1 X.2.1 d_M_take_324 (by decide) ⟨by omega, by omega⟩ ⟨by decide, by decide⟩ (fun h303 => ?_) (fun h303 => ?_)
                                                                        · as_aux_lemma =>
                                                                            refine lv_aload_n X.1 X.2.1 d_M_take_382 rfl (lv_at hl 0 rfl) ?_
                                                                            refine lv_aload_n X.1 X.2.1 d_M_take_383 rfl (lv_at hl 0 rfl) ?_
                                                                            refine lv_bipush (v := iI 6) X.1 X.2.1 d_M_take_384 (by decide) ?_
                                                                            refine lv_iconst (v := iI 2) X.1 X.2.1 d_M_take_386 (by decide) ?_
                                                                            refine r_ni (m_run (As := [.int (iI 6), .int (iI 2)]) (rest := [.ref h]) (n := 2) X Y hZ hA hml hl.1 (r_M_a l D E h q H.size I291 J291 B291 G291 6 (by decide) (by decide) 2 (by decide) (by decide) S.1) kl_M_a ks_M_a kx_M_a ki_M_a ini_M hd_M_a ⟨Nat.le_of_ble_eq_true rfl, Nat.le_of_ble_eq_true rfl⟩ rfl (Nat.le_of_ble_eq_true rfl) d_M_take_387 ⟨Nat.le_refl _, Nat.le_refl _⟩) X Y hA S (by decide) (by decide) (fun z304 u H locs Y S s304 p304 => ?_)
                                                                            obtain ⟨I304, J304, B304, G304⟩ := u
                                                                            dsimp only at Y S s304 p304
                                                                            have i304 : I291 = I304 := (funext (fun j => s304.2.1 j (by simp))).symm
                                                                            subst i304
                                                                            have b304 : B291 = B304 := (funext (fun j => s304.2.2 j (by simp))).symm
                                                                            subst b304
                                                                            obtain ⟨l304, u304, x304⟩ := p304
                                                                            refine lv_aload_n X.1 X.2.1 d_M_take_390 rfl (lv_at hl 0 rfl) ?_
                                                                            refine lv_bipush (v := iI 6) X.1 X.2.1 d_M_take_391 (by decide) ?_
                                                                            refine lv_iconst (v := iI 2) X.1 X.2.1 d_M_take_393 (by decide) ?_
                                                                            refine r_ni (m_run (As := [.int (iI 6), .int (iI 2)]) (rest := [.int (iI z304), .ref h]) (n := 2) X Y hZ hA hml hl.1 (r_M_b l D E h q H.size I291 J304 B291 G304 6 (by decide) (by decide) 2 (by decide) (by decide) S.1) kl_M_b ks_M_b kx_M_b ki_M_b ini_M hd_M_b ⟨Nat.le_of_ble_eq_true rfl, Nat.le_of_ble_eq_true rfl⟩ rfl (Nat.le_of_ble_eq_true rfl) d_M_take_394 ⟨Nat.le_refl _, Nat.le_refl _⟩) X Y hA S (by decide) (by decide) (fun z305 u H locs Y S s305 p305 => ?_)
                                                                            obtain ⟨I305, J305, B305, G305⟩ := u
                                                                            dsimp only at Y S s305 p305
                                                                            have i305 : I291 = I305 := (funext (fun j => s305.2.1 j (by simp))).symm
                                                                            subst i305
                                                                            have b305 : B291 = B305 := (funext (fun j => s305.2.2 j (by simp))).symm
                                                                            subst b305
                                                                            obtain ⟨l305, u305, x305⟩ := p305
                                                                            have p306 : pr z304 z305 := by rw [x304, x305]; exact (pG2_cg rfl rfl (pG2_cg rfl rfl f297)) (16 * 6 + 2 : Int).toNat (by omega)
                                                                            unfold pr at p306
                                                                            refine lv_iconst (v := iI 4) X.1 X.2.1 d_M_take_397 (by decide) ?_
                                                                            refine r_ni (m_run (As := [.int (iI z304), .int (iI z305), .int (iI 4)]) (rest := []) (n := 3) X Y hZ hA hml hl.1 (r_M_element l D E h q H.size I291 J305 B291 G305 z304 (by omega) (by omega) z305 (by omega) (by omega) 4 (by decide) (by decide) S.1 (B291 0) rfl (pG1_cg rfl rfl (pG1_cg rfl rfl f296)) (by omega) (by omega)) kl_M_element ks_M_element kx_M_element ki_M_element ini_M hd_M_element ⟨Nat.le_of_ble_eq_true rfl, Nat.le_of_ble_eq_true rfl⟩ rfl (Nat.le_of_ble_eq_true rfl) d_M_take_398 ⟨Nat.le_refl _, Nat.le_refl _⟩) X Y hA S (by decide) (by decide) (fun z307 u H locs Y S s307 p307 => ?_)
                                                                            obtain ⟨I307, J307, B307, G307⟩ := u
                                                                            dsimp only at Y S s307 p307
                                                                            have b307 : B291 = B307 := (funext (fun j => s307.2.2 j (by simp))).symm
                                                                            subst b307
                                                                            obtain ⟨l307, u307, x307, st307⟩ := p307
                                                                            obtain ⟨x308, y308, ex308, ey308, lx308, ly308, uy308, dy308, iy308, ky308⟩ := st307
                                                                            refine lv_pop X.1 X.2.1 d_M_take_401 rfl ?_
                                                                            refine lv_aload_n X.1 X.2.1 d_M_take_402 rfl (lv_at hl 0 rfl) ?_
                                                                            refine lv_aload_n X.1 X.2.1 d_M_take_403 rfl (lv_at hl 0 rfl) ?_
                                                                            refine m_get X Y 58 (by decide) lk_key (gf_key _ _ _) rfl d_M_take_404 ?_
                                                                            refine lv_lload X.1 X.2.1 d_M_take_407 (lv_at hl 3 rfl) ?_
                                                                            refine z_l2i X.1 X.2.1 d_M_take_409 (fun z309 l309 u309 x309 => ?_)
                                                                            refine lv_iload_n X.1 X.2.1 d_M_take_410 rfl (lv_at hl 2 rfl) ?_
                                                                            refine lv_iconst (v := iI 2) X.1 X.2.1 d_M_take_411 (by decide) ?_
                                                                            refine z_icmp_ge (tgt := 419) X.1 X.2.1 d_M_take_412 (by decide) ⟨by omega, by omega⟩ ⟨by decide, by decide⟩ (fun h310 => ?_) (fun h310 => False.elim (by omega))
                                                                            · as_aux_lemma =>
                                                                                refine lv_bipush (v := iI 9) X.1 X.2.1 d_M_take_419 (by decide) ?_
                                                                                refine lv_aload_n X.1 X.2.1 d_M_take_421 rfl (lv_at hl 0 rfl) ?_
                                                                                refine r_get0 X Y (by decide) lk_inside (gf_inside _ _ _) rfl ex308 d_M_take_422 ?_
                                                                                refine lv_aload_n X.1 X.2.1 d_M_take_425 rfl (lv_at hl 0 rfl) ?_
                                                                                refine r_get0 X Y (by decide) lk_behind (gf_behind _ _ _) rfl ey308 d_M_take_426 ?_
                                                                                refine lv_sipush (v := iI 4200) X.1 X.2.1 d_M_take_429 (by decide) ?_
                                                                                refine r_ni (m_run (As := [.ref ((q 58)), .int (iI z309), .int (iI 9), .int (iI x308), .int (iI y308), .int (iI 4200)]) (rest := []) (n := 6) X Y hZ hA hml hl.1 (r_M_open_key l D E h q H.size I307 J307 B291 G307 z309 (by omega) (by omega) 9 (by decide) (by decide) x308 (by omega) (by omega) y308 (by omega) (by omega) 4200 (by decide) (by decide) S.1 (by omega) (by omega)) kl_M_open ks_M_open kx_M_open ki_M_open ini_M hd_M_open ⟨Nat.le_of_ble_eq_true rfl, Nat.le_of_ble_eq_true rfl⟩ rfl (Nat.le_of_ble_eq_true rfl) d_M_take_432 ⟨Nat.le_refl _, Nat.le_refl _⟩) X Y hA S (by decide) (by decide) (fun z311 u H locs Y S s311 p311 => ?_)
                                                                                obtain ⟨I311, J311, B311, G311⟩ := u
                                                                                dsimp only at Y S s311 p311
                                                                                have f312 : stT (B311 97) (B311 98) (B311 100) (B311 107) (B311 108) (B311 109) := (stT_cg (s311.2.2 97 (by decide)) (s311.2.2 98 (by decide)) (s311.2.2 100 (by decide)) (s311.2.2 107 (by decide)) (s311.2.2 108 (by decide)) (s311.2.2 109 (by decide)) (stT_cg rfl rfl rfl rfl rfl rfl (stT_cg rfl rfl rfl rfl rfl rfl (stT_cg rfl rfl rfl rfl rfl rfl f295))))
                                                                                obtain ⟨l311, u311, x311, g311_MF⟩ := p311
                                                                                have f313 : rpA (B311 37) (B311 38) (B311 0) := (rpA_cg rfl (s311.2.2 37 (by decide)) (s311.2.2 38 (by decide)) (rpA_M g311_MF (by decide) (rpA_cg rfl rfl rfl (rpA_cg rfl rfl rfl (rpA_cg rfl rfl rfl f298)))))
                                                                                refine lv_istore (lv' := [(10, .int (iI z311)), (0, .ref h), (1, .int (iI a1)), (3, .int (iI z107)), (6, .long v134)]) X.1 X.2.1 d_M_take_435 hl (by decide) rfl (fun ls hl => ?_)
                                                                                refine lv_iload X.1 X.2.1 d_M_take_437 (lv_at hl 0 rfl) ?_
                                                                                refine z_if_ge (tgt := 445) X.1 X.2.1 d_M_take_439 (by decide) ⟨by omega, by omega⟩ (fun h314 => ?_) (fun h314 => ?_)
                                                                                · as_aux_lemma =>
                                                                                    refine lv_iload_n X.1 X.2.1 d_M_take_445 rfl (lv_at hl 3 rfl) ?_
                                                                                    refine lv_iconst (v := iI 2) X.1 X.2.1 d_M_take_446 (by decide) ?_
                                                                                    refine z_icmp_ge (tgt := 472) X.1 X.2.1 d_M_take_447 (by decide) ⟨by omega, by omega⟩ ⟨by decide, by decide⟩ (fun h315 => ?_) (fun h315 => False.elim (by omega))
                                                                                    · as_aux_lemma =>
                                                                                        refine lv_aload_n X.1 X.2.1 d_M_take_472 rfl (lv_at hl 1 rfl) ?_
                                                                                        refine lv_bipush (v := iI 26) X.1 X.2.1 d_M_take_473 (by decide) ?_
                                                                                        refine m_ldcSW (i := 19) X (by decide) (by decide) d_M_take_475 ?_
                                                                                        refine lv_sipush (v := iI 4200) X.1 X.2.1 d_M_take_478 (by decide) ?_
                                                                                        refine lv_sipush (v := iI 4200) X.1 X.2.1 d_M_take_481 (by decide) ?_
                                                                                        refine lv_iload X.1 X.2.1 d_M_take_484 (lv_at hl 0 rfl) ?_
                                                                                        refine z_iadd X.1 X.2.1 d_M_take_486 ?_
                                                                                        refine lv_iconst (v := iI 4) X.1 X.2.1 d_M_take_487 (by decide) ?_
                                                                                        refine r_ni (m_run (As := [.int (iI 26), .ref ((D.2.1 19)), .int (iI 4200), .int (iI (4200 + z311)), .int (iI 4)]) (rest := []) (n := 5) X Y hZ hA hml hl.1 (r_M_applied_t l D E h q H.size I311 J311 B311 G311 26 (by decide) (by decide) 19 (show 19 < nZ by decide) 4200 (by decide) (by decide) (4200 + z311) (by omega) (by omega) 4 (by decide) (by decide) S.1 5 (B311 0) rfl (isF (B311 0) 5) (by decide) (hisU (show rki 19 ≤ 5 by decide)) (pG1_cg (s311.2.1 39 (by decide)) (s311.2.1 40 (by decide)) (show pG1 I307 from ⟨x308, y308, ex308, ey308, by omega, by omega, by omega, by omega⟩)) (pG2_cg (s311.2.2 37 (by decide)) (s311.2.2 38 (by decide)) (pG2_cg rfl rfl (pG2_cg rfl rfl (pG2_cg rfl rfl f297)))) (by omega) (by omega)) kl_M_applied ks_M_applied kx_M_applied ki_M_applied ini_M hd_M_applied ⟨Nat.le_of_ble_eq_true rfl, Nat.le_of_ble_eq_true rfl⟩ rfl (Nat.le_of_ble_eq_true rfl) d_M_take_488 ⟨Nat.le_refl _, Nat.le_refl _⟩) X Y hA S (by decide) (by decide) (fun z316 u H locs Y S s316 p316 => ?_)
                                                                                        obtain ⟨I316, J316, B316, G316⟩ := u
                                                                                        dsimp only at Y S s316 p316
                                                                                        have f317 : stA (B316 110) (B316 118) (B316 119) (B316 120) := (stA_cg (s316.2.2 110 (by decide)) (s316.2.2 118 (by decide)) (s316.2.2 119 (by decide)) (s316.2.2 120 (by decide)) (stA_cg (s311.2.2 110 (by decide)) (s311.2.2 118 (by decide)) (s311.2.2 119 (by decide)) (s311.2.2 120 (by decide)) (stA_cg rfl rfl rfl rfl (stA_cg rfl rfl rfl rfl (stA_cg rfl rfl rfl rfl f294)))))
                                                                                        obtain ⟨l316, u316, x316, st316, g316_P1, g316_P2⟩ := p316
                                                                                        have g316_TF : thF [4] (B311 37) (B311 38) (B316 37) (B316 38) := thF_of st316.1
                                                                                        have f318 : rpA (B316 37) (B316 38) (B316 0) := (rpA_cg (s316.2.2 0 (by decide)) rfl rfl (rpA_T g316_TF (by decide) (by decide) f313))
                                                                                        refine z_if_eq (tgt := 498) X.1 X.2.1 d_M_take_491 (by decide) ⟨by omega, by omega⟩ (fun h319 => ?_) (fun h319 => ?_)
                                                                                        · refine lv_iconst (v := iI 0) X.1 X.2.1 d_M_take_498 (by decide) ?_
                                                                                          refine lv_istore (lv' := [(11, .int (iI 0)), (10, .int (iI z311)), (0, .ref h), (1, .int (iI a1)), (3, .int (iI z107)), (6, .long v134)]) X.1 X.2.1 d_M_take_499 hl (by decide) rfl (fun ls hl => ?_)
                                                                                          refine lv_iload X.1 X.2.1 d_M_take_501 (lv_at hl 0 rfl) ?_
                                                                                          refine z_if_ne (tgt := 509) X.1 X.2.1 d_M_take_503 (by decide) ⟨by decide, by decide⟩ (fun h320 => False.elim (by omega)) (fun h320 => ?_)
                                                                                          · refine lv_bipush (v := iI (-60)) X.1 X.2.1 d_M_take_506 (by decide) ?_
                                                                                            exact m_reti hQQ X Y hr hlk ⟨S, (-60), rfl, ⟨by omega, by omega, g316_P1, g316_P2, (stT_cg (s316.2.2 97 (by decide)) (s316.2.2 98 (by decide)) (s316.2.2 100 (by decide)) (s316.2.2 107 (by decide)) (s316.2.2 108 (by decide)) (s316.2.2 109 (by decide)) f312), f317⟩⟩ d_M_take_508
                                                                                        · as_aux_lemma =>
                                                                                            refine lv_iconst (v := iI 1) X.1 X.2.1 d_M_take_494 (by decide) ?_
                                                                                            refine lv_goto (tgt := 499) X.1 X.2.1 d_M_take_495 (by decide) ?_
                                                                                            refine lv_istore (lv' := [(11, .int (iI 1)), (10, .int (iI z311)), (0, .ref h), (1, .int (iI a1)), (3, .int (iI z107)), (6, .long v134)]) X.1 X.2.1 d_M_take_499 hl (by decide) rfl (fun ls hl => ?_)
                                                                                            refine lv_iload X.1 X.2.1 d_M_take_501 (lv_at hl 0 rfl) ?_
                                                                                            refine z_if_ne (tgt := 509) X.1 X.2.1 d_M_take_503 (by decide) ⟨by decide, by decide⟩ (fun h321 => ?_) (fun h321 => False.elim (by omega))
                                                                                            · as_aux_lemma =>
                                                                                                refine lv_aload_n X.1 X.2.1 d_M_take_509 rfl (lv_at hl 2 rfl) ?_
                                                                                                refine lv_iconst (v := iI 4) X.1 X.2.1 d_M_take_510 (by decide) ?_
                                                                                                refine lv_iconst (v := iI 2) X.1 X.2.1 d_M_take_511 (by decide) ?_
                                                                                                refine r_nl (m_run (As := [.int (iI 4), .int (iI 2)]) (rest := []) (n := 2) X Y hZ hA hml hl.1 (r_M_numberAt l D E h q H.size I316 J316 B316 G316 4 (by decide) (by decide) 2 (by decide) (by decide) S.1 g316_P1 g316_P2) kl_M_numberAt ks_M_numberAt kx_M_numberAt ki_M_numberAt ini_M hd_M_numberAt ⟨Nat.le_of_ble_eq_true rfl, Nat.le_of_ble_eq_true rfl⟩ rfl (Nat.le_of_ble_eq_true rfl) d_M_take_512 ⟨Nat.le_refl _, Nat.le_refl _⟩) X Y hA S (by decide) (by decide) (fun v322 u H locs Y S s322 p322 => ?_)
                                                                                                obtain ⟨I322, J322, B322, G322⟩ := u
                                                                                                dsimp only at Y S s322 p322
                                                                                                have b322 : B316 = B322 := (funext (fun j => s322.2.2 j (by simp))).symm
                                                                                                subst b322
                                                                                                have f323 : akA a1 z107 (B316 118) (B316 119) (B316 120) := (akA_cg rfl rfl rfl (akA_cg (s316.2.2 118 (by decide)) (s316.2.2 119 (by decide)) (s316.2.2 120 (by decide)) (akA_cg (s311.2.2 118 (by decide)) (s311.2.2 119 (by decide)) (s311.2.2 120 (by decide)) (akA_cg rfl rfl rfl (akA_cg rfl rfl rfl (akA_cg rfl rfl rfl f293))))))
                                                                                                have g322_P1 := p322
                                                                                                refine lv_aload_n X.1 X.2.1 d_M_take_515 rfl (lv_at hl 2 rfl) ?_
                                                                                                refine m_get X Y 114 (by decide) lk_askedNonce (gf_askedNonce _ _ _) rfl d_M_take_516 ?_
                                                                                                refine lv_iload_n X.1 X.2.1 d_M_take_519 rfl (lv_at hl 3 rfl) ?_
                                                                                                refine r_lald X Y (aw_askedNonce _ _ _ _ _ _ _) (by omega) (show a1 < ((4 : Nat) : Int) by omega) (by omega) d_M_take_520 (fun v324 => ?_)
                                                                                                refine z_lcmp X.1 X.2.1 d_M_take_521 (fun z325 l325 u325 x325 y325 => ?_)
                                                                                                refine z_if_eq (tgt := 528) X.1 X.2.1 d_M_take_522 (by decide) ⟨by omega, by omega⟩ (fun h326 => ?_) (fun h326 => ?_)
                                                                                                · refine lv_aload_n X.1 X.2.1 d_M_take_528 rfl (lv_at hl 2 rfl) ?_
                                                                                                  refine lv_iload_n X.1 X.2.1 d_M_take_529 rfl (lv_at hl 3 rfl) ?_
                                                                                                  refine lv_iload_n X.1 X.2.1 d_M_take_530 rfl (lv_at hl 4 rfl) ?_
                                                                                                  refine r_ni (m_run (As := [.int (iI a1), .int (iI z107)]) (rest := []) (n := 2) X Y hZ hA hml hl.1 (r_M_taken l D E h q H.size I322 J322 B316 G322 a1 (by omega) (by omega) z107 (by omega) (by omega) S.1 g322_P1 (pG2_cg rfl rfl g316_P2) (stT_cg rfl rfl rfl rfl rfl rfl (stT_cg (s316.2.2 97 (by decide)) (s316.2.2 98 (by decide)) (s316.2.2 100 (by decide)) (s316.2.2 107 (by decide)) (s316.2.2 108 (by decide)) (s316.2.2 109 (by decide)) f312)) (stA_cg rfl rfl rfl rfl f317) (rpA_cg rfl rfl rfl f318) f323) kl_M_taken ks_M_taken kx_M_taken ki_M_taken ini_M hd_M_taken ⟨Nat.le_of_ble_eq_true rfl, Nat.le_of_ble_eq_true rfl⟩ rfl (Nat.le_of_ble_eq_true rfl) d_M_take_531 ⟨Nat.le_refl _, Nat.le_refl _⟩) X Y hA S (by decide) (by decide) (fun z327 u H locs Y S s327 p327 => ?_)
                                                                                                  obtain ⟨I327, J327, B327, G327⟩ := u
                                                                                                  dsimp only at Y S s327 p327
                                                                                                  obtain ⟨l327, u327, g327_P1, g327_P2, g327_FT, g327_FA⟩ := p327
                                                                                                  exact m_reti hQQ X Y hr hlk ⟨S, z327, rfl, ⟨by omega, by omega, g327_P1, g327_P2, g327_FT, g327_FA⟩⟩ d_M_take_534
                                                                                                · refine lv_bipush (v := iI (-41)) X.1 X.2.1 d_M_take_525 (by decide) ?_
                                                                                                  exact m_reti hQQ X Y hr hlk ⟨S, (-41), rfl, ⟨by omega, by omega, g322_P1, (pG2_cg rfl rfl g316_P2), (stT_cg rfl rfl rfl rfl rfl rfl (stT_cg (s316.2.2 97 (by decide)) (s316.2.2 98 (by decide)) (s316.2.2 100 (by decide)) (s316.2.2 107 (by decide)) (s316.2.2 108 (by decide)) (s316.2.2 109 (by decide)) f312)), (stA_cg rfl rfl rfl rfl f317)⟩⟩ d_M_take_527
                                                                                · refine lv_bipush (v := iI (-31)) X.1 X.2.1 d_M_take_442 (by decide) ?_
                                                                                  exact m_reti hQQ X Y hr hlk ⟨S, (-31), rfl, ⟨by omega, by omega, (pG1_cg (s311.2.1 39 (by decide)) (s311.2.1 40 (by decide)) (show pG1 I307 from ⟨x308, y308, ex308, ey308, by omega, by omega, by omega, by omega⟩)), (pG2_cg (s311.2.2 37 (by decide)) (s311.2.2 38 (by decide)) (pG2_cg rfl rfl (pG2_cg rfl rfl (pG2_cg rfl rfl f297)))), f312, (stA_cg (s311.2.2 110 (by decide)) (s311.2.2 118 (by decide)) (s311.2.2 119 (by decide)) (s311.2.2 120 (by decide)) (stA_cg rfl rfl rfl rfl (stA_cg rfl rfl rfl rfl (stA_cg rfl rfl rfl rfl f294))))⟩⟩ d_M_take_444
                                                                        · refine lv_aload_n X.1 X.2.1 d_M_take_327 rfl (lv_at hl 0 rfl) ?_
                                                                          refine m_get X Y 58 (by decide) lk_key (gf_key _ _ _) rfl d_M_take_328 ?_
                                                                          refine lv_iload X.1 X.2.1 d_M_take_331 (lv_at hl 4 rfl) ?_
                                                                          refine lv_iload_n X.1 X.2.1 d_M_take_333 rfl (lv_at hl 2 rfl) ?_
                                                                          refine lv_iconst (v := iI 2) X.1 X.2.1 d_M_take_334 (by decide) ?_
                                                                          refine z_icmp_ge (tgt := 363) X.1 X.2.1 d_M_take_335 (by decide) ⟨by omega, by omega⟩ ⟨by decide, by decide⟩ (fun h328 => ?_) (fun h328 => False.elim (by omega))
                                                                          · refine lv_aload_n X.1 X.2.1 d_M_take_363 rfl (lv_at hl 0 rfl) ?_
                                                                            refine m_get X Y 116 (by decide) lk_askedKeys (gf_askedKeys _ _ _) rfl d_M_take_364 ?_
                                                                            refine lv_bipush (v := iI 32) X.1 X.2.1 d_M_take_367 (by decide) ?_
                                                                            refine lv_iload_n X.1 X.2.1 d_M_take_369 rfl (lv_at hl 1 rfl) ?_
                                                                            refine z_imul X.1 X.2.1 d_M_take_370 ?_
                                                                            refine lv_iload X.1 X.2.1 d_M_take_371 (lv_at hl 4 rfl) ?_
                                                                            refine z_iadd X.1 X.2.1 d_M_take_373 ?_
                                                                            refine r_bald X Y S (aw_askedKeys _ _ _ _ _ _ _) rfl (by omega) (show (32 * a1) + z292 < ((128 : Nat) : Int) by omega) (by omega) d_M_take_374 (fun z329 q329 l329 u329 => ?_)
                                                                            refine r_bast X Y S (aw_key _ _ _ _ _ _ _) (sw_key _ _ _ _ _ _ _) rfl (by omega) (show z292 < ((32 : Nat) : Int) by omega) (by omega) (by decide) d_M_take_375 (fun B330 H locs Y S w330 => ?_)
                                                                            refine lv_iinc (v := iI (z292 + 1)) (lv' := [(10, .int (iI (z292 + 1))), (0, .ref h), (1, .int (iI a1)), (3, .int (iI z107)), (6, .long v134)]) X.1 X.2.1 d_M_take_376 hl (k := 4) rfl ((iI_add _ _).trans (congrArg iI (by omega))) (by decide) rfl (fun ls hl => ?_)
                                                                            refine lv_goto (tgt := 320) X.1 X.2.1 d_M_take_379 (by decide) ?_
                                                                            exact ih300 ((32 - (z292 + 1)).toNat) (by omega) (z292 + 1) I291 J291 B330 G291 _ _ _ rfl (by omega) (by omega) (akA_cg (w330.2 118 (by decide)) (w330.2 119 (by decide)) (w330.2 120 (by decide)) f293) (stA_cg (w330.2 110 (by decide)) (w330.2 118 (by decide)) (w330.2 119 (by decide)) (w330.2 120 (by decide)) f294) (stT_cg (w330.2 97 (by decide)) (w330.2 98 (by decide)) (w330.2 100 (by decide)) (w330.2 107 (by decide)) (w330.2 108 (by decide)) (w330.2 109 (by decide)) f295) (pG1_cg rfl rfl f296) (pG2_cg (w330.2 37 (by decide)) (w330.2 38 (by decide)) f297) (rpA_cg (w330.2 0 (by decide)) (w330.2 37 (by decide)) (w330.2 38 (by decide)) f298) Y S (lv_sub hl [1, 2, 3, 4, 0] rfl)
                                                                  refine lv_istore (lv' := [(10, .int (iI 0)), (9, .int (iI 1)), (8, .int (iI z136)), (6, .long v134), (5, .int (iI 0)), (4, .int (iI z114)), (3, .int (iI z107)), (2, .int (iI z101)), (0, .ref h), (1, .int (iI a1))]) X.1 X.2.1 d_M_take_318 hl (by decide) rfl (fun ls hl => ?_)
                                                                  exact J299 _ 0 I134 J134 B130 G134 _ _ _ rfl (by omega) (by omega) (akA_cg rfl rfl rfl f131) (stA_cg rfl rfl rfl rfl f132) f135 g134_P1 (pG2_cg rfl rfl g130_P2) (rpA_cg rfl rfl rfl f133) Y S (lv_sub hl [8, 9, 6, 3, 0] rfl)
                                                  · as_aux_lemma =>
                                                      refine lv_iconst (v := iI 1) X.1 X.2.1 d_M_take_254 (by decide) ?_
                                                      refine lv_goto (tgt := 282) X.1 X.2.1 d_M_take_255 (by decide) ?_
                                                      refine lv_istore (lv' := [(9, .int (iI 1)), (8, .int (iI z136)), (6, .long v134), (5, .int (iI 0)), (4, .int (iI z114)), (3, .int (iI z107)), (2, .int (iI z101)), (0, .ref h), (1, .int (iI a1))]) X.1 X.2.1 d_M_take_282 hl (by decide) rfl (fun ls hl => ?_)
                                                      refine lv_iload_n X.1 X.2.1 d_M_take_284 rfl (lv_at hl 5 rfl) ?_
                                                      refine lv_iconst (v := iI 2) X.1 X.2.1 d_M_take_285 (by decide) ?_
                                                      refine z_icmp_ne (tgt := 309) X.1 X.2.1 d_M_take_286 (by decide) ⟨by omega, by omega⟩ ⟨by decide, by decide⟩ (fun h331 => False.elim (by omega)) (fun h331 => ?_)
                                                      · as_aux_lemma =>
                                                          refine lv_lload X.1 X.2.1 d_M_take_289 (lv_at hl 2 rfl) ?_
                                                          refine lv_aload_n X.1 X.2.1 d_M_take_291 rfl (lv_at hl 7 rfl) ?_
                                                          refine m_get X Y 112 (by decide) lk_askedSub (gf_askedSub _ _ _) rfl d_M_take_292 ?_
                                                          refine lv_iload_n X.1 X.2.1 d_M_take_295 rfl (lv_at hl 8 rfl) ?_
                                                          refine r_iald X Y S (aw_askedSub _ _ _ _ _ _ _) rfl (by omega) (show a1 < ((4 : Nat) : Int) by omega) (by omega) d_M_take_296 (fun z332 q332 l332 u332 => ?_)
                                                          refine z_i2lx X.1 X.2.1 ⟨by omega, by omega⟩ d_M_take_297 (fun v333 tv333 => ?_)
                                                          refine z_lcmp X.1 X.2.1 d_M_take_298 (fun z334 l334 u334 x334 y334 => ?_)
                                                          refine z_if_ne (tgt := 306) X.1 X.2.1 d_M_take_299 (by decide) ⟨by omega, by omega⟩ (fun h335 => ?_) (fun h335 => ?_)
                                                          · refine lv_iconst (v := iI 0) X.1 X.2.1 d_M_take_306 (by decide) ?_
                                                            refine lv_istore (lv' := [(9, .int (iI 0)), (8, .int (iI z136)), (6, .long v134), (5, .int (iI 0)), (4, .int (iI z114)), (3, .int (iI z107)), (2, .int (iI z101)), (0, .ref h), (1, .int (iI a1))]) X.1 X.2.1 d_M_take_307 hl (by decide) rfl (fun ls hl => ?_)
                                                            refine lv_iload X.1 X.2.1 d_M_take_309 (lv_at hl 0 rfl) ?_
                                                            refine z_if_ne (tgt := 317) X.1 X.2.1 d_M_take_311 (by decide) ⟨by decide, by decide⟩ (fun h336 => False.elim (by omega)) (fun h336 => ?_)
                                                            · refine lv_bipush (v := iI (-14)) X.1 X.2.1 d_M_take_314 (by decide) ?_
                                                              exact m_reti hQQ X Y hr hlk ⟨S, (-14), rfl, ⟨by omega, by omega, g134_P1, (pG2_cg rfl rfl g130_P2), f135, (stA_cg rfl rfl rfl rfl f132)⟩⟩ d_M_take_316
                                                          · as_aux_lemma =>
                                                              refine lv_iconst (v := iI 1) X.1 X.2.1 d_M_take_302 (by decide) ?_
                                                              refine lv_goto (tgt := 307) X.1 X.2.1 d_M_take_303 (by decide) ?_
                                                              refine lv_istore (lv' := [(9, .int (iI 1)), (8, .int (iI z136)), (6, .long v134), (5, .int (iI 0)), (4, .int (iI z114)), (3, .int (iI z107)), (2, .int (iI z101)), (0, .ref h), (1, .int (iI a1))]) X.1 X.2.1 d_M_take_307 hl (by decide) rfl (fun ls hl => ?_)
                                                              refine lv_iload X.1 X.2.1 d_M_take_309 (lv_at hl 0 rfl) ?_
                                                              refine z_if_ne (tgt := 317) X.1 X.2.1 d_M_take_311 (by decide) ⟨by decide, by decide⟩ (fun h337 => ?_) (fun h337 => False.elim (by omega))
                                                              · as_aux_lemma =>
                                                                  refine lv_iconst (v := iI 0) X.1 X.2.1 d_M_take_317 (by decide) ?_
                                                                  have J346 : ∀ (n348 : Nat) (z339 : Int) (I338 : Nat → Int32) (J338 : Nat → Int64) (B338 : Nat → Nat → Int32) (G338 : Nat → Nat → Int64) (H : Heap) (locs : List Loc) (ls : Array Slot), (32 - z339).toNat = n348 → (0 ≤ z339) → (z339 ≤ 32) → (akA a1 z107 (B338 118) (B338 119) (B338 120)) → (stA (B338 110) (B338 118) (B338 119) (B338 120)) → (stT (B338 97) (B338 98) (B338 100) (B338 107) (B338 108) (B338 109)) → (pG1 I338) → (pG2 (B338 37) (B338 38)) → (rpA (B338 37) (B338 38) (B338 0)) → mH D E (mA E h q sz) s.heap h q I338 J338 B338 G338 H locs → rS [2, 8, 14, 18, 39, 40, 42] [0, 5, 6, 7, 9, 10, 11, 12, 13, 15, 16, 17, 19, 20, 21, 22, 23, 34, 37, 38, 58, 59, 97, 98, 99, 100, 101, 102, 107, 108, 109, 110] I B I338 B338 → lv_has ls 12 [(0, .ref h), (1, .int (iI a1)), (3, .int (iI z107)), (6, .long v134), (10, .int (iI z339))] → W p l e (mR 46 2068) s m AV below meth c H locs 0 0 QQ (F0 m 320 ls []) := by
                                                                    as_aux_lemma =>
                                                                      intro n348
                                                                      induction n348 using Nat.strongRecOn with
                                                                      | ind n348 ih347 =>
                                                                        intro z339 I338 J338 B338 G338 H locs ls hm349 l339 u339 f340 f341 f342 f343 f344 f345 Y S hl
                                                                        refine lv_iload X.1 X.2.1 d_M_take_320 (lv_at hl 4 rfl) ?_
                                                                        refine lv_bipush (v := iI 32) X.1 X.2.1 d_M_take_322 (by decide) ?_
                                                                        refine z_icmp_ge (tgt := 382) X.1 X.2.1 d_M_take_324 (by decide) ⟨by omega, by omega⟩ ⟨by decide, by decide⟩ (fun h350 => ?_) (fun h350 => ?_)
                                                                        · as_aux_lemma =>
                                                                            refine lv_aload_n X.1 X.2.1 d_M_take_382 rfl (lv_at hl 0 rfl) ?_
                                                                            refine lv_aload_n X.1 X.2.1 d_M_take_383 rfl (lv_at hl 0 rfl) ?_
                                                                            refine lv_bipush (v := iI 6) X.1 X.2.1 d_M_take_384 (by decide) ?_
                                                                            refine lv_iconst (v := iI 2) X.1 X.2.1 d_M_take_386 (by decide) ?_
                                                                            refine r_ni (m_run (As := [.int (iI 6), .int (iI 2)]) (rest := [.ref h]) (n := 2) X Y hZ hA hml hl.1 (r_M_a l D E h q H.size I338 J338 B338 G338 6 (by decide) (by decide) 2 (by decide) (by decide) S.1) kl_M_a ks_M_a kx_M_a ki_M_a ini_M hd_M_a ⟨Nat.le_of_ble_eq_true rfl, Nat.le_of_ble_eq_true rfl⟩ rfl (Nat.le_of_ble_eq_true rfl) d_M_take_387 ⟨Nat.le_refl _, Nat.le_refl _⟩) X Y hA S (by decide) (by decide) (fun z351 u H locs Y S s351 p351 => ?_)
                                                                            obtain ⟨I351, J351, B351, G351⟩ := u
                                                                            dsimp only at Y S s351 p351
                                                                            have i351 : I338 = I351 := (funext (fun j => s351.2.1 j (by simp))).symm
                                                                            subst i351
                                                                            have b351 : B338 = B351 := (funext (fun j => s351.2.2 j (by simp))).symm
                                                                            subst b351
                                                                            obtain ⟨l351, u351, x351⟩ := p351
                                                                            refine lv_aload_n X.1 X.2.1 d_M_take_390 rfl (lv_at hl 0 rfl) ?_
                                                                            refine lv_bipush (v := iI 6) X.1 X.2.1 d_M_take_391 (by decide) ?_
                                                                            refine lv_iconst (v := iI 2) X.1 X.2.1 d_M_take_393 (by decide) ?_
                                                                            refine r_ni (m_run (As := [.int (iI 6), .int (iI 2)]) (rest := [.int (iI z351), .ref h]) (n := 2) X Y hZ hA hml hl.1 (r_M_b l D E h q H.size I338 J351 B338 G351 6 (by decide) (by decide) 2 (by decide) (by decide) S.1) kl_M_b ks_M_b kx_M_b ki_M_b ini_M hd_M_b ⟨Nat.le_of_ble_eq_true rfl, Nat.le_of_ble_eq_true rfl⟩ rfl (Nat.le_of_ble_eq_true rfl) d_M_take_394 ⟨Nat.le_refl _, Nat.le_refl _⟩) X Y hA S (by decide) (by decide) (fun z352 u H locs Y S s352 p352 => ?_)
                                                                            obtain ⟨I352, J352, B352, G352⟩ := u
                                                                            dsimp only at Y S s352 p352
                                                                            have i352 : I338 = I352 := (funext (fun j => s352.2.1 j (by simp))).symm
                                                                            subst i352
                                                                            have b352 : B338 = B352 := (funext (fun j => s352.2.2 j (by simp))).symm
                                                                            subst b352
                                                                            obtain ⟨l352, u352, x352⟩ := p352
                                                                            have p353 : pr z351 z352 := by rw [x351, x352]; exact (pG2_cg rfl rfl (pG2_cg rfl rfl f344)) (16 * 6 + 2 : Int).toNat (by omega)
                                                                            unfold pr at p353
                                                                            refine lv_iconst (v := iI 4) X.1 X.2.1 d_M_take_397 (by decide) ?_
                                                                            refine r_ni (m_run (As := [.int (iI z351), .int (iI z352), .int (iI 4)]) (rest := []) (n := 3) X Y hZ hA hml hl.1 (r_M_element l D E h q H.size I338 J352 B338 G352 z351 (by omega) (by omega) z352 (by omega) (by omega) 4 (by decide) (by decide) S.1 (B338 0) rfl (pG1_cg rfl rfl (pG1_cg rfl rfl f343)) (by omega) (by omega)) kl_M_element ks_M_element kx_M_element ki_M_element ini_M hd_M_element ⟨Nat.le_of_ble_eq_true rfl, Nat.le_of_ble_eq_true rfl⟩ rfl (Nat.le_of_ble_eq_true rfl) d_M_take_398 ⟨Nat.le_refl _, Nat.le_refl _⟩) X Y hA S (by decide) (by decide) (fun z354 u H locs Y S s354 p354 => ?_)
                                                                            obtain ⟨I354, J354, B354, G354⟩ := u
                                                                            dsimp only at Y S s354 p354
                                                                            have b354 : B338 = B354 := (funext (fun j => s354.2.2 j (by simp))).symm
                                                                            subst b354
                                                                            obtain ⟨l354, u354, x354, st354⟩ := p354
                                                                            obtain ⟨x355, y355, ex355, ey355, lx355, ly355, uy355, dy355, iy355, ky355⟩ := st354
                                                                            refine lv_pop X.1 X.2.1 d_M_take_401 rfl ?_
                                                                            refine lv_aload_n X.1 X.2.1 d_M_take_402 rfl (lv_at hl 0 rfl) ?_
                                                                            refine lv_aload_n X.1 X.2.1 d_M_take_403 rfl (lv_at hl 0 rfl) ?_
                                                                            refine m_get X Y 58 (by decide) lk_key (gf_key _ _ _) rfl d_M_take_404 ?_
                                                                            refine lv_lload X.1 X.2.1 d_M_take_407 (lv_at hl 3 rfl) ?_
                                                                            refine z_l2i X.1 X.2.1 d_M_take_409 (fun z356 l356 u356 x356 => ?_)
                                                                            refine lv_iload_n X.1 X.2.1 d_M_take_410 rfl (lv_at hl 2 rfl) ?_
                                                                            refine lv_iconst (v := iI 2) X.1 X.2.1 d_M_take_411 (by decide) ?_
                                                                            refine z_icmp_ge (tgt := 419) X.1 X.2.1 d_M_take_412 (by decide) ⟨by omega, by omega⟩ ⟨by decide, by decide⟩ (fun h357 => ?_) (fun h357 => False.elim (by omega))
                                                                            · as_aux_lemma =>
                                                                                refine lv_bipush (v := iI 9) X.1 X.2.1 d_M_take_419 (by decide) ?_
                                                                                refine lv_aload_n X.1 X.2.1 d_M_take_421 rfl (lv_at hl 0 rfl) ?_
                                                                                refine r_get0 X Y (by decide) lk_inside (gf_inside _ _ _) rfl ex355 d_M_take_422 ?_
                                                                                refine lv_aload_n X.1 X.2.1 d_M_take_425 rfl (lv_at hl 0 rfl) ?_
                                                                                refine r_get0 X Y (by decide) lk_behind (gf_behind _ _ _) rfl ey355 d_M_take_426 ?_
                                                                                refine lv_sipush (v := iI 4200) X.1 X.2.1 d_M_take_429 (by decide) ?_
                                                                                refine r_ni (m_run (As := [.ref ((q 58)), .int (iI z356), .int (iI 9), .int (iI x355), .int (iI y355), .int (iI 4200)]) (rest := []) (n := 6) X Y hZ hA hml hl.1 (r_M_open_key l D E h q H.size I354 J354 B338 G354 z356 (by omega) (by omega) 9 (by decide) (by decide) x355 (by omega) (by omega) y355 (by omega) (by omega) 4200 (by decide) (by decide) S.1 (by omega) (by omega)) kl_M_open ks_M_open kx_M_open ki_M_open ini_M hd_M_open ⟨Nat.le_of_ble_eq_true rfl, Nat.le_of_ble_eq_true rfl⟩ rfl (Nat.le_of_ble_eq_true rfl) d_M_take_432 ⟨Nat.le_refl _, Nat.le_refl _⟩) X Y hA S (by decide) (by decide) (fun z358 u H locs Y S s358 p358 => ?_)
                                                                                obtain ⟨I358, J358, B358, G358⟩ := u
                                                                                dsimp only at Y S s358 p358
                                                                                have f359 : stT (B358 97) (B358 98) (B358 100) (B358 107) (B358 108) (B358 109) := (stT_cg (s358.2.2 97 (by decide)) (s358.2.2 98 (by decide)) (s358.2.2 100 (by decide)) (s358.2.2 107 (by decide)) (s358.2.2 108 (by decide)) (s358.2.2 109 (by decide)) (stT_cg rfl rfl rfl rfl rfl rfl (stT_cg rfl rfl rfl rfl rfl rfl (stT_cg rfl rfl rfl rfl rfl rfl f342))))
                                                                                obtain ⟨l358, u358, x358, g358_MF⟩ := p358
                                                                                have f360 : rpA (B358 37) (B358 38) (B358 0) := (rpA_cg rfl (s358.2.2 37 (by decide)) (s358.2.2 38 (by decide)) (rpA_M g358_MF (by decide) (rpA_cg rfl rfl rfl (rpA_cg rfl rfl rfl (rpA_cg rfl rfl rfl f345)))))
                                                                                refine lv_istore (lv' := [(10, .int (iI z358)), (0, .ref h), (1, .int (iI a1)), (3, .int (iI z107)), (6, .long v134)]) X.1 X.2.1 d_M_take_435 hl (by decide) rfl (fun ls hl => ?_)
                                                                                refine lv_iload X.1 X.2.1 d_M_take_437 (lv_at hl 0 rfl) ?_
                                                                                refine z_if_ge (tgt := 445) X.1 X.2.1 d_M_take_439 (by decide) ⟨by omega, by omega⟩ (fun h361 => ?_) (fun h361 => ?_)
                                                                                · as_aux_lemma =>
                                                                                    refine lv_iload_n X.1 X.2.1 d_M_take_445 rfl (lv_at hl 3 rfl) ?_
                                                                                    refine lv_iconst (v := iI 2) X.1 X.2.1 d_M_take_446 (by decide) ?_
                                                                                    refine z_icmp_ge (tgt := 472) X.1 X.2.1 d_M_take_447 (by decide) ⟨by omega, by omega⟩ ⟨by decide, by decide⟩ (fun h362 => ?_) (fun h362 => False.elim (by omega))
                                                                                    · as_aux_lemma =>
                                                                                        refine lv_aload_n X.1 X.2.1 d_M_take_472 rfl (lv_at hl 1 rfl) ?_
                                                                                        refine lv_bipush (v := iI 26) X.1 X.2.1 d_M_take_473 (by decide) ?_
                                                                                        refine m_ldcSW (i := 19) X (by decide) (by decide) d_M_take_475 ?_
                                                                                        refine lv_sipush (v := iI 4200) X.1 X.2.1 d_M_take_478 (by decide) ?_
                                                                                        refine lv_sipush (v := iI 4200) X.1 X.2.1 d_M_take_481 (by decide) ?_
                                                                                        refine lv_iload X.1 X.2.1 d_M_take_484 (lv_at hl 0 rfl) ?_
                                                                                        refine z_iadd X.1 X.2.1 d_M_take_486 ?_
                                                                                        refine lv_iconst (v := iI 4) X.1 X.2.1 d_M_take_487 (by decide) ?_
                                                                                        refine r_ni (m_run (As := [.int (iI 26), .ref ((D.2.1 19)), .int (iI 4200), .int (iI (4200 + z358)), .int (iI 4)]) (rest := []) (n := 5) X Y hZ hA hml hl.1 (r_M_applied_t l D E h q H.size I358 J358 B358 G358 26 (by decide) (by decide) 19 (show 19 < nZ by decide) 4200 (by decide) (by decide) (4200 + z358) (by omega) (by omega) 4 (by decide) (by decide) S.1 5 (B358 0) rfl (isF (B358 0) 5) (by decide) (hisU (show rki 19 ≤ 5 by decide)) (pG1_cg (s358.2.1 39 (by decide)) (s358.2.1 40 (by decide)) (show pG1 I354 from ⟨x355, y355, ex355, ey355, by omega, by omega, by omega, by omega⟩)) (pG2_cg (s358.2.2 37 (by decide)) (s358.2.2 38 (by decide)) (pG2_cg rfl rfl (pG2_cg rfl rfl (pG2_cg rfl rfl f344)))) (by omega) (by omega)) kl_M_applied ks_M_applied kx_M_applied ki_M_applied ini_M hd_M_applied ⟨Nat.le_of_ble_eq_true rfl, Nat.le_of_ble_eq_true rfl⟩ rfl (Nat.le_of_ble_eq_true rfl) d_M_take_488 ⟨Nat.le_refl _, Nat.le_refl _⟩) X Y hA S (by decide) (by decide) (fun z363 u H locs Y S s363 p363 => ?_)
                                                                                        obtain ⟨I363, J363, B363, G363⟩ := u
                                                                                        dsimp only at Y S s363 p363
                                                                                        have f364 : stA (B363 110) (B363 118) (B363 119) (B363 120) := (stA_cg (s363.2.2 110 (by decide)) (s363.2.2 118 (by decide)) (s363.2.2 119 (by decide)) (s363.2.2 120 (by decide)) (stA_cg (s358.2.2 110 (by decide)) (s358.2.2 118 (by decide)) (s358.2.2 119 (by decide)) (s358.2.2 120 (by decide)) (stA_cg rfl rfl rfl rfl (stA_cg rfl rfl rfl rfl (stA_cg rfl rfl rfl rfl f341)))))
                                                                                        obtain ⟨l363, u363, x363, st363, g363_P1, g363_P2⟩ := p363
                                                                                        have g363_TF : thF [4] (B358 37) (B358 38) (B363 37) (B363 38) := thF_of st363.1
                                                                                        have f365 : rpA (B363 37) (B363 38) (B363 0) := (rpA_cg (s363.2.2 0 (by decide)) rfl rfl (rpA_T g363_TF (by decide) (by decide) f360))
                                                                                        refine z_if_eq (tgt := 498) X.1 X.2.1 d_M_take_491 (by decide) ⟨by omega, by omega⟩ (fun h366 => ?_) (fun h366 => ?_)
                                                                                        · refine lv_iconst (v := iI 0) X.1 X.2.1 d_M_take_498 (by decide) ?_
                                                                                          refine lv_istore (lv' := [(11, .int (iI 0)), (10, .int (iI z358)), (0, .ref h), (1, .int (iI a1)), (3, .int (iI z107)), (6, .long v134)]) X.1 X.2.1 d_M_take_499 hl (by decide) rfl (fun ls hl => ?_)
                                                                                          refine lv_iload X.1 X.2.1 d_M_take_501 (lv_at hl 0 rfl) ?_
                                                                                          refine z_if_ne (tgt := 509) X.1 X.2.1 d_M_take_503 (by decide) ⟨by decide, by decide⟩ (fun h367 => False.elim (by omega)) (fun h367 => ?_)
                                                                                          · refine lv_bipush (v := iI (-60)) X.1 X.2.1 d_M_take_506 (by decide) ?_
                                                                                            exact m_reti hQQ X Y hr hlk ⟨S, (-60), rfl, ⟨by omega, by omega, g363_P1, g363_P2, (stT_cg (s363.2.2 97 (by decide)) (s363.2.2 98 (by decide)) (s363.2.2 100 (by decide)) (s363.2.2 107 (by decide)) (s363.2.2 108 (by decide)) (s363.2.2 109 (by decide)) f359), f364⟩⟩ d_M_take_508
                                                                                        · as_aux_lemma =>
                                                                                            refine lv_iconst (v := iI 1) X.1 X.2.1 d_M_take_494 (by decide) ?_
                                                                                            refine lv_goto (tgt := 499) X.1 X.2.1 d_M_take_495 (by decide) ?_
                                                                                            refine lv_istore (lv' := [(11, .int (iI 1)), (10, .int (iI z358)), (0, .ref h), (1, .int (iI a1)), (3, .int (iI z107)), (6, .long v134)]) X.1 X.2.1 d_M_take_499 hl (by decide) rfl (fun ls hl => ?_)
                                                                                            refine lv_iload X.1 X.2.1 d_M_take_501 (lv_at hl 0 rfl) ?_
                                                                                            refine z_if_ne (tgt := 509) X.1 X.2.1 d_M_take_503 (by decide) ⟨by decide, by decide⟩ (fun h368 => ?_) (fun h368 => False.elim (by omega))
                                                                                            · as_aux_lemma =>
                                                                                                refine lv_aload_n X.1 X.2.1 d_M_take_509 rfl (lv_at hl 2 rfl) ?_
                                                                                                refine lv_iconst (v := iI 4) X.1 X.2.1 d_M_take_510 (by decide) ?_
                                                                                                refine lv_iconst (v := iI 2) X.1 X.2.1 d_M_take_511 (by decide) ?_
                                                                                                refine r_nl (m_run (As := [.int (iI 4), .int (iI 2)]) (rest := []) (n := 2) X Y hZ hA hml hl.1 (r_M_numberAt l D E h q H.size I363 J363 B363 G363 4 (by decide) (by decide) 2 (by decide) (by decide) S.1 g363_P1 g363_P2) kl_M_numberAt ks_M_numberAt kx_M_numberAt ki_M_numberAt ini_M hd_M_numberAt ⟨Nat.le_of_ble_eq_true rfl, Nat.le_of_ble_eq_true rfl⟩ rfl (Nat.le_of_ble_eq_true rfl) d_M_take_512 ⟨Nat.le_refl _, Nat.le_refl _⟩) X Y hA S (by decide) (by decide) (fun v369 u H locs Y S s369 p369 => ?_)
                                                                                                obtain ⟨I369, J369, B369, G369⟩ := u
                                                                                                dsimp only at Y S s369 p369
                                                                                                have b369 : B363 = B369 := (funext (fun j => s369.2.2 j (by simp))).symm
                                                                                                subst b369
                                                                                                have f370 : akA a1 z107 (B363 118) (B363 119) (B363 120) := (akA_cg rfl rfl rfl (akA_cg (s363.2.2 118 (by decide)) (s363.2.2 119 (by decide)) (s363.2.2 120 (by decide)) (akA_cg (s358.2.2 118 (by decide)) (s358.2.2 119 (by decide)) (s358.2.2 120 (by decide)) (akA_cg rfl rfl rfl (akA_cg rfl rfl rfl (akA_cg rfl rfl rfl f340))))))
                                                                                                have g369_P1 := p369
                                                                                                refine lv_aload_n X.1 X.2.1 d_M_take_515 rfl (lv_at hl 2 rfl) ?_
                                                                                                refine m_get X Y 114 (by decide) lk_askedNonce (gf_askedNonce _ _ _) rfl d_M_take_516 ?_
                                                                                                refine lv_iload_n X.1 X.2.1 d_M_take_519 rfl (lv_at hl 3 rfl) ?_
                                                                                                refine r_lald X Y (aw_askedNonce _ _ _ _ _ _ _) (by omega) (show a1 < ((4 : Nat) : Int) by omega) (by omega) d_M_take_520 (fun v371 => ?_)
                                                                                                refine z_lcmp X.1 X.2.1 d_M_take_521 (fun z372 l372 u372 x372 y372 => ?_)
                                                                                                refine z_if_eq (tgt := 528) X.1 X.2.1 d_M_take_522 (by decide) ⟨by omega, by omega⟩ (fun h373 => ?_) (fun h373 => ?_)
                                                                                                · refine lv_aload_n X.1 X.2.1 d_M_take_528 rfl (lv_at hl 2 rfl) ?_
                                                                                                  refine lv_iload_n X.1 X.2.1 d_M_take_529 rfl (lv_at hl 3 rfl) ?_
                                                                                                  refine lv_iload_n X.1 X.2.1 d_M_take_530 rfl (lv_at hl 4 rfl) ?_
                                                                                                  refine r_ni (m_run (As := [.int (iI a1), .int (iI z107)]) (rest := []) (n := 2) X Y hZ hA hml hl.1 (r_M_taken l D E h q H.size I369 J369 B363 G369 a1 (by omega) (by omega) z107 (by omega) (by omega) S.1 g369_P1 (pG2_cg rfl rfl g363_P2) (stT_cg rfl rfl rfl rfl rfl rfl (stT_cg (s363.2.2 97 (by decide)) (s363.2.2 98 (by decide)) (s363.2.2 100 (by decide)) (s363.2.2 107 (by decide)) (s363.2.2 108 (by decide)) (s363.2.2 109 (by decide)) f359)) (stA_cg rfl rfl rfl rfl f364) (rpA_cg rfl rfl rfl f365) f370) kl_M_taken ks_M_taken kx_M_taken ki_M_taken ini_M hd_M_taken ⟨Nat.le_of_ble_eq_true rfl, Nat.le_of_ble_eq_true rfl⟩ rfl (Nat.le_of_ble_eq_true rfl) d_M_take_531 ⟨Nat.le_refl _, Nat.le_refl _⟩) X Y hA S (by decide) (by decide) (fun z374 u H locs Y S s374 p374 => ?_)
                                                                                                  obtain ⟨I374, J374, B374, G374⟩ := u
                                                                                                  dsimp only at Y S s374 p374
                                                                                                  obtain ⟨l374, u374, g374_P1, g374_P2, g374_FT, g374_FA⟩ := p374
                                                                                                  exact m_reti hQQ X Y hr hlk ⟨S, z374, rfl, ⟨by omega, by omega, g374_P1, g374_P2, g374_FT, g374_FA⟩⟩ d_M_take_534
                                                                                                · refine lv_bipush (v := iI (-41)) X.1 X.2.1 d_M_take_525 (by decide) ?_
                                                                                                  exact m_reti hQQ X Y hr hlk ⟨S, (-41), rfl, ⟨by omega, by omega, g369_P1, (pG2_cg rfl rfl g363_P2), (stT_cg rfl rfl rfl rfl rfl rfl (stT_cg (s363.2.2 97 (by decide)) (s363.2.2 98 (by decide)) (s363.2.2 100 (by decide)) (s363.2.2 107 (by decide)) (s363.2.2 108 (by decide)) (s363.2.2 109 (by decide)) f359)), (stA_cg rfl rfl rfl rfl f364)⟩⟩ d_M_take_527
                                                                                · refine lv_bipush (v := iI (-31)) X.1 X.2.1 d_M_take_442 (by decide) ?_
                                                                                  exact m_reti hQQ X Y hr hlk ⟨S, (-31), rfl, ⟨by omega, by omega, (pG1_cg (s358.2.1 39 (by decide)) (s358.2.1 40 (by decide)) (show pG1 I354 from ⟨x355, y355, ex355, ey355, by omega, by omega, by omega, by omega⟩)), (pG2_cg (s358.2.2 37 (by decide)) (s358.2.2 38 (by decide)) (pG2_cg rfl rfl (pG2_cg rfl rfl (pG2_cg rfl rfl f344)))), f359, (stA_cg (s358.2.2 110 (by decide)) (s358.2.2 118 (by decide)) (s358.2.2 119 (by decide)) (s358.2.2 120 (by decide)) (stA_cg rfl rfl rfl rfl (stA_cg rfl rfl rfl rfl (stA_cg rfl rfl rfl rfl f341))))⟩⟩ d_M_take_444
                                                                        · refine lv_aload_n X.1 X.2.1 d_M_take_327 rfl (lv_at hl 0 rfl) ?_
                                                                          refine m_get X Y 58 (by decide) lk_key (gf_key _ _ _) rfl d_M_take_328 ?_
                                                                          refine lv_iload X.1 X.2.1 d_M_take_331 (lv_at hl 4 rfl) ?_
                                                                          refine lv_iload_n X.1 X.2.1 d_M_take_333 rfl (lv_at hl 2 rfl) ?_
                                                                          refine lv_iconst (v := iI 2) X.1 X.2.1 d_M_take_334 (by decide) ?_
                                                                          refine z_icmp_ge (tgt := 363) X.1 X.2.1 d_M_take_335 (by decide) ⟨by omega, by omega⟩ ⟨by decide, by decide⟩ (fun h375 => ?_) (fun h375 => False.elim (by omega))
                                                                          · refine lv_aload_n X.1 X.2.1 d_M_take_363 rfl (lv_at hl 0 rfl) ?_
                                                                            refine m_get X Y 116 (by decide) lk_askedKeys (gf_askedKeys _ _ _) rfl d_M_take_364 ?_
                                                                            refine lv_bipush (v := iI 32) X.1 X.2.1 d_M_take_367 (by decide) ?_
                                                                            refine lv_iload_n X.1 X.2.1 d_M_take_369 rfl (lv_at hl 1 rfl) ?_
                                                                            refine z_imul X.1 X.2.1 d_M_take_370 ?_
                                                                            refine lv_iload X.1 X.2.1 d_M_take_371 (lv_at hl 4 rfl) ?_
                                                                            refine z_iadd X.1 X.2.1 d_M_take_373 ?_
                                                                            refine r_bald X Y S (aw_askedKeys _ _ _ _ _ _ _) rfl (by omega) (show (32 * a1) + z339 < ((128 : Nat) : Int) by omega) (by omega) d_M_take_374 (fun z376 q376 l376 u376 => ?_)
                                                                            refine r_bast X Y S (aw_key _ _ _ _ _ _ _) (sw_key _ _ _ _ _ _ _) rfl (by omega) (show z339 < ((32 : Nat) : Int) by omega) (by omega) (by decide) d_M_take_375 (fun B377 H locs Y S w377 => ?_)
                                                                            refine lv_iinc (v := iI (z339 + 1)) (lv' := [(10, .int (iI (z339 + 1))), (0, .ref h), (1, .int (iI a1)), (3, .int (iI z107)), (6, .long v134)]) X.1 X.2.1 d_M_take_376 hl (k := 4) rfl ((iI_add _ _).trans (congrArg iI (by omega))) (by decide) rfl (fun ls hl => ?_)
                                                                            refine lv_goto (tgt := 320) X.1 X.2.1 d_M_take_379 (by decide) ?_
                                                                            exact ih347 ((32 - (z339 + 1)).toNat) (by omega) (z339 + 1) I338 J338 B377 G338 _ _ _ rfl (by omega) (by omega) (akA_cg (w377.2 118 (by decide)) (w377.2 119 (by decide)) (w377.2 120 (by decide)) f340) (stA_cg (w377.2 110 (by decide)) (w377.2 118 (by decide)) (w377.2 119 (by decide)) (w377.2 120 (by decide)) f341) (stT_cg (w377.2 97 (by decide)) (w377.2 98 (by decide)) (w377.2 100 (by decide)) (w377.2 107 (by decide)) (w377.2 108 (by decide)) (w377.2 109 (by decide)) f342) (pG1_cg rfl rfl f343) (pG2_cg (w377.2 37 (by decide)) (w377.2 38 (by decide)) f344) (rpA_cg (w377.2 0 (by decide)) (w377.2 37 (by decide)) (w377.2 38 (by decide)) f345) Y S (lv_sub hl [1, 2, 3, 4, 0] rfl)
                                                                  refine lv_istore (lv' := [(10, .int (iI 0)), (9, .int (iI 1)), (8, .int (iI z136)), (6, .long v134), (5, .int (iI 0)), (4, .int (iI z114)), (3, .int (iI z107)), (2, .int (iI z101)), (0, .ref h), (1, .int (iI a1))]) X.1 X.2.1 d_M_take_318 hl (by decide) rfl (fun ls hl => ?_)
                                                                  exact J346 _ 0 I134 J134 B130 G134 _ _ _ rfl (by omega) (by omega) (akA_cg rfl rfl rfl f131) (stA_cg rfl rfl rfl rfl f132) f135 g134_P1 (pG2_cg rfl rfl g130_P2) (rpA_cg rfl rfl rfl f133) Y S (lv_sub hl [8, 9, 6, 3, 0] rfl)
                                      · refine lv_iconst (v := iI 1) X.1 X.2.1 d_M_take_187 (by decide) ?_
                                        refine lv_goto (tgt := 192) X.1 X.2.1 d_M_take_188 (by decide) ?_
                                        refine z_icmp_eq (tgt := 198) X.1 X.2.1 d_M_take_192 (by decide) ⟨by decide, by decide⟩ ⟨by decide, by decide⟩ (fun h378 => False.elim (by omega)) (fun h378 => ?_)
                                        · refine lv_bipush (v := iI (-40)) X.1 X.2.1 d_M_take_195 (by decide) ?_
                                          exact m_reti hQQ X Y hr hlk ⟨S, (-40), rfl, ⟨by omega, by omega, g120_P1, g120_P2, f121, (stA_cg (s120.2.2 110 (by decide)) (s120.2.2 118 (by decide)) (s120.2.2 119 (by decide)) (s120.2.2 120 (by decide)) f111)⟩⟩ d_M_take_197
                                  · refine lv_bipush (v := iI (-60)) X.1 X.2.1 d_M_take_177 (by decide) ?_
                                    exact m_reti hQQ X Y hr hlk ⟨S, (-60), rfl, ⟨by omega, by omega, g120_P1, g120_P2, f121, (stA_cg (s120.2.2 110 (by decide)) (s120.2.2 118 (by decide)) (s120.2.2 119 (by decide)) (s120.2.2 120 (by decide)) f111)⟩⟩ d_M_take_179
                  · as_aux_lemma =>
                      refine lv_iconst (v := iI 1) X.1 X.2.1 d_M_take_133 (by decide) ?_
                      refine lv_goto (tgt := 138) X.1 X.2.1 d_M_take_134 (by decide) ?_
                      refine lv_istore (lv' := [(5, .int (iI 1)), (4, .int (iI z114)), (3, .int (iI z107)), (2, .int (iI z101)), (0, .ref h), (1, .int (iI a1))]) X.1 X.2.1 d_M_take_138 hl (by decide) rfl (fun ls hl => ?_)
                      refine lv_iload X.1 X.2.1 d_M_take_140 (lv_at hl 0 rfl) ?_
                      refine z_if_ne (tgt := 152) X.1 X.2.1 d_M_take_142 (by decide) ⟨by decide, by decide⟩ (fun h379 => ?_) (fun h379 => False.elim (by omega))
                      · as_aux_lemma =>
                          refine lv_aload_n X.1 X.2.1 d_M_take_152 rfl (lv_at hl 4 rfl) ?_
                          refine lv_iload X.1 X.2.1 d_M_take_153 (lv_at hl 0 rfl) ?_
                          refine z_if_eq (tgt := 163) X.1 X.2.1 d_M_take_155 (by decide) ⟨by decide, by decide⟩ (fun h380 => False.elim (by omega)) (fun h380 => ?_)
                          · as_aux_lemma =>
                              refine lv_bipush (v := iI 11) X.1 X.2.1 d_M_take_158 (by decide) ?_
                              refine lv_goto (tgt := 165) X.1 X.2.1 d_M_take_160 (by decide) ?_
                              refine m_ldcSW (i := 18) X (by decide) (by decide) d_M_take_165 ?_
                              refine lv_iconst (v := iI 0) X.1 X.2.1 d_M_take_168 (by decide) ?_
                              refine lv_iload_n X.1 X.2.1 d_M_take_169 rfl (lv_at hl 3 rfl) ?_
                              refine lv_iconst (v := iI 0) X.1 X.2.1 d_M_take_170 (by decide) ?_
                              refine r_ni (m_run (As := [.int (iI 11), .ref ((D.2.1 18)), .int (iI 0), .int (iI z101), .int (iI 0)]) (rest := []) (n := 5) X Y hZ hA hml hl.1 (r_M_applied_t l D E h q H.size I102 J103 B110 G103 11 (by decide) (by decide) 18 (show 18 < nZ by decide) 0 (by decide) (by decide) z101 (by omega) (by omega) 0 (by decide) (by decide) S.1 5 (B110 0) rfl (isF (B110 0) 5) (by decide) (hisU (show rki 18 ≤ 5 by decide)) (pG1_cg rfl rfl (pG1_cg rfl rfl (pG1_cg (w102.2 39 (by decide)) (w102.2 40 (by decide)) f_P1))) (pG2_cg (w110.2 37 (by decide)) (w110.2 38 (by decide)) (pG2_cg rfl rfl (pG2_cg rfl rfl f_P2))) (by omega) (by omega)) kl_M_applied ks_M_applied kx_M_applied ki_M_applied ini_M hd_M_applied ⟨Nat.le_of_ble_eq_true rfl, Nat.le_of_ble_eq_true rfl⟩ rfl (Nat.le_of_ble_eq_true rfl) d_M_take_171 ⟨Nat.le_refl _, Nat.le_refl _⟩) X Y hA S (by decide) (by decide) (fun z381 u H locs Y S s381 p381 => ?_)
                              obtain ⟨I381, J381, B381, G381⟩ := u
                              dsimp only at Y S s381 p381
                              have f382 : stT (B381 97) (B381 98) (B381 100) (B381 107) (B381 108) (B381 109) := (stT_cg (s381.2.2 97 (by decide)) (s381.2.2 98 (by decide)) (s381.2.2 100 (by decide)) (s381.2.2 107 (by decide)) (s381.2.2 108 (by decide)) (s381.2.2 109 (by decide)) (stT_cg (w110.2 97 (by decide)) (w110.2 98 (by decide)) (w110.2 100 (by decide)) (w110.2 107 (by decide)) (w110.2 108 (by decide)) (w110.2 109 (by decide)) (stT_cg rfl rfl rfl rfl rfl rfl (stT_cg rfl rfl rfl rfl rfl rfl f_FT))))
                              obtain ⟨l381, u381, x381, st381, g381_P1, g381_P2⟩ := p381
                              have g381_TF : thF [0] (B110 37) (B110 38) (B381 37) (B381 38) := thF_of st381.1
                              refine z_if_ne (tgt := 180) X.1 X.2.1 d_M_take_174 (by decide) ⟨by omega, by omega⟩ (fun h383 => ?_) (fun h383 => ?_)
                              · as_aux_lemma =>
                                  have wa384 := (x381.mp (by omega)).1
                                  unfold whP at wa384
                                  have ra384 := el_rng (B110 0) (a := 0) (b := z101) (.inl (by omega))
                                  have a384 := reply_R (m := (B110 0)) (x381.mp (by omega)).2 (by omega) (by omega) (st381.2 (by omega))
                                  rw [← s381.2.2 0 (by decide)] at a384
                                  have wa385 := (x381.mp (by omega)).1
                                  unfold whP at wa385
                                  have ra385 := el_rng (B110 0) (a := 0) (b := z101) (.inl (by omega))
                                  have a385 := reply_R (m := (B110 0)) (x381.mp (by omega)).2 (by omega) (by omega) (st381.2 (by omega))
                                  rw [← s381.2.2 0 (by decide)] at a385
                                  refine lv_iload X.1 X.2.1 d_M_take_180 (lv_at hl 0 rfl) ?_
                                  refine lv_iload_n X.1 X.2.1 d_M_take_182 rfl (lv_at hl 2 rfl) ?_
                                  refine lv_iconst (v := iI 2) X.1 X.2.1 d_M_take_183 (by decide) ?_
                                  refine z_icmp_ge (tgt := 191) X.1 X.2.1 d_M_take_184 (by decide) ⟨by omega, by omega⟩ ⟨by decide, by decide⟩ (fun h386 => ?_) (fun h386 => ?_)
                                  · refine lv_iconst (v := iI 0) X.1 X.2.1 d_M_take_191 (by decide) ?_
                                    refine z_icmp_eq (tgt := 198) X.1 X.2.1 d_M_take_192 (by decide) ⟨by decide, by decide⟩ ⟨by decide, by decide⟩ (fun h387 => False.elim (by omega)) (fun h387 => ?_)
                                    · refine lv_bipush (v := iI (-40)) X.1 X.2.1 d_M_take_195 (by decide) ?_
                                      exact m_reti hQQ X Y hr hlk ⟨S, (-40), rfl, ⟨by omega, by omega, g381_P1, g381_P2, f382, (stA_cg (s381.2.2 110 (by decide)) (s381.2.2 118 (by decide)) (s381.2.2 119 (by decide)) (s381.2.2 120 (by decide)) f111)⟩⟩ d_M_take_197
                                  · as_aux_lemma =>
                                      refine lv_iconst (v := iI 1) X.1 X.2.1 d_M_take_187 (by decide) ?_
                                      refine lv_goto (tgt := 192) X.1 X.2.1 d_M_take_188 (by decide) ?_
                                      refine z_icmp_eq (tgt := 198) X.1 X.2.1 d_M_take_192 (by decide) ⟨by decide, by decide⟩ ⟨by decide, by decide⟩ (fun h388 => ?_) (fun h388 => False.elim (by omega))
                                      · as_aux_lemma =>
                                          refine lv_aload_n X.1 X.2.1 d_M_take_198 rfl (lv_at hl 4 rfl) ?_
                                          refine m_ldcSW (i := 5) X (by decide) (by decide) d_M_take_199 ?_
                                          refine lv_aload_n X.1 X.2.1 d_M_take_202 rfl (lv_at hl 4 rfl) ?_
                                          refine lv_iconst (v := iI 0) X.1 X.2.1 d_M_take_203 (by decide) ?_
                                          refine lv_bipush (v := iI 6) X.1 X.2.1 d_M_take_204 (by decide) ?_
                                          refine r_ni (m_run (As := [.int (iI 0), .int (iI 6)]) (rest := [.ref ((D.2.1 5)), .ref h]) (n := 2) X Y hZ hA hml hl.1 (r_M_a l D E h q H.size I381 J381 B381 G381 0 (by decide) (by decide) 6 (by decide) (by decide) S.1) kl_M_a ks_M_a kx_M_a ki_M_a ini_M hd_M_a ⟨Nat.le_of_ble_eq_true rfl, Nat.le_of_ble_eq_true rfl⟩ rfl (Nat.le_of_ble_eq_true rfl) d_M_take_206 ⟨Nat.le_refl _, Nat.le_refl _⟩) X Y hA S (by decide) (by decide) (fun z389 u H locs Y S s389 p389 => ?_)
                                          obtain ⟨I389, J389, B389, G389⟩ := u
                                          dsimp only at Y S s389 p389
                                          have i389 : I381 = I389 := (funext (fun j => s389.2.1 j (by simp))).symm
                                          subst i389
                                          have b389 : B381 = B389 := (funext (fun j => s389.2.2 j (by simp))).symm
                                          subst b389
                                          obtain ⟨l389, u389, x389⟩ := p389
                                          refine lv_aload_n X.1 X.2.1 d_M_take_209 rfl (lv_at hl 4 rfl) ?_
                                          refine lv_iconst (v := iI 0) X.1 X.2.1 d_M_take_210 (by decide) ?_
                                          refine lv_bipush (v := iI 6) X.1 X.2.1 d_M_take_211 (by decide) ?_
                                          refine r_ni (m_run (As := [.int (iI 0), .int (iI 6)]) (rest := [.int (iI z389), .ref ((D.2.1 5)), .ref h]) (n := 2) X Y hZ hA hml hl.1 (r_M_b l D E h q H.size I381 J389 B381 G389 0 (by decide) (by decide) 6 (by decide) (by decide) S.1) kl_M_b ks_M_b kx_M_b ki_M_b ini_M hd_M_b ⟨Nat.le_of_ble_eq_true rfl, Nat.le_of_ble_eq_true rfl⟩ rfl (Nat.le_of_ble_eq_true rfl) d_M_take_213 ⟨Nat.le_refl _, Nat.le_refl _⟩) X Y hA S (by decide) (by decide) (fun z390 u H locs Y S s390 p390 => ?_)
                                          obtain ⟨I390, J390, B390, G390⟩ := u
                                          dsimp only at Y S s390 p390
                                          have i390 : I381 = I390 := (funext (fun j => s390.2.1 j (by simp))).symm
                                          subst i390
                                          have b390 : B381 = B390 := (funext (fun j => s390.2.2 j (by simp))).symm
                                          subst b390
                                          obtain ⟨l390, u390, x390⟩ := p390
                                          have p391 : pr z389 z390 := by rw [x389, x390]; exact (pG2_cg rfl rfl (pG2_cg rfl rfl g381_P2)) (16 * 0 + 6 : Int).toNat (by omega)
                                          unfold pr at p391
                                          refine lv_bipush (v := iI 6) X.1 X.2.1 d_M_take_216 (by decide) ?_
                                          refine r_ni (m_run (As := [.ref ((D.2.1 5)), .int (iI z389), .int (iI z390), .int (iI 6)]) (rest := []) (n := 4) X Y hZ hA hml hl.1 (r_M_sequence_t l D E h q H.size I381 J390 B381 G390 5 (show 5 < nZ by decide) z389 (by omega) (by omega) z390 (by omega) (by omega) 6 (by decide) (by decide) S.1 5 (B381 0) rfl (isF (B381 0) 5) (by decide) (hisU (show rki 5 ≤ 5 by decide)) (pG1_cg rfl rfl (pG1_cg rfl rfl g381_P1)) (pG2_cg rfl rfl (pG2_cg rfl rfl g381_P2)) (by omega) (by omega)) kl_M_sequence ks_M_sequence kx_M_sequence ki_M_sequence ini_M hd_M_sequence ⟨Nat.le_of_ble_eq_true rfl, Nat.le_of_ble_eq_true rfl⟩ rfl (Nat.le_of_ble_eq_true rfl) d_M_take_218 ⟨Nat.le_refl _, Nat.le_refl _⟩) X Y hA S (by decide) (by decide) (fun z392 u H locs Y S s392 p392 => ?_)
                                          obtain ⟨I392, J392, B392, G392⟩ := u
                                          dsimp only at Y S s392 p392
                                          have f393 : akA a1 z107 (B392 118) (B392 119) (B392 120) := (akA_cg (s392.2.2 118 (by decide)) (s392.2.2 119 (by decide)) (s392.2.2 120 (by decide)) (akA_cg rfl rfl rfl (akA_cg rfl rfl rfl (akA_cg (s381.2.2 118 (by decide)) (s381.2.2 119 (by decide)) (s381.2.2 120 (by decide)) (akA_cg (w110.2 118 (by decide)) (w110.2 119 (by decide)) (w110.2 120 (by decide)) f109)))))
                                          have f394 : stA (B392 110) (B392 118) (B392 119) (B392 120) := (stA_cg (s392.2.2 110 (by decide)) (s392.2.2 118 (by decide)) (s392.2.2 119 (by decide)) (s392.2.2 120 (by decide)) (stA_cg rfl rfl rfl rfl (stA_cg rfl rfl rfl rfl (stA_cg (s381.2.2 110 (by decide)) (s381.2.2 118 (by decide)) (s381.2.2 119 (by decide)) (s381.2.2 120 (by decide)) f111))))
                                          obtain ⟨l392, u392, x392, st392, g392_P1, g392_P2⟩ := p392
                                          have g392_TF : thF [6] (B381 37) (B381 38) (B392 37) (B392 38) := thF_of st392.1
                                          have f395 : rpA (B392 37) (B392 38) (B392 0) := (rpA_cg (s392.2.2 0 (by decide)) rfl rfl (rpA_T g392_TF (by decide) (by decide) (rpA_cg rfl rfl rfl (rpA_cg rfl rfl rfl a385))))
                                          refine lv_pop X.1 X.2.1 d_M_take_221 rfl ?_
                                          refine lv_aload_n X.1 X.2.1 d_M_take_222 rfl (lv_at hl 4 rfl) ?_
                                          refine lv_bipush (v := iI 6) X.1 X.2.1 d_M_take_223 (by decide) ?_
                                          refine lv_iconst (v := iI 0) X.1 X.2.1 d_M_take_225 (by decide) ?_
                                          refine r_nl (m_run (As := [.int (iI 6), .int (iI 0)]) (rest := []) (n := 2) X Y hZ hA hml hl.1 (r_M_numberAt l D E h q H.size I392 J392 B392 G392 6 (by decide) (by decide) 0 (by decide) (by decide) S.1 g392_P1 g392_P2) kl_M_numberAt ks_M_numberAt kx_M_numberAt ki_M_numberAt ini_M hd_M_numberAt ⟨Nat.le_of_ble_eq_true rfl, Nat.le_of_ble_eq_true rfl⟩ rfl (Nat.le_of_ble_eq_true rfl) d_M_take_226 ⟨Nat.le_refl _, Nat.le_refl _⟩) X Y hA S (by decide) (by decide) (fun v396 u H locs Y S s396 p396 => ?_)
                                          obtain ⟨I396, J396, B396, G396⟩ := u
                                          dsimp only at Y S s396 p396
                                          have b396 : B392 = B396 := (funext (fun j => s396.2.2 j (by simp))).symm
                                          subst b396
                                          have f397 : stT (B392 97) (B392 98) (B392 100) (B392 107) (B392 108) (B392 109) := (stT_cg rfl rfl rfl rfl rfl rfl (stT_cg (s392.2.2 97 (by decide)) (s392.2.2 98 (by decide)) (s392.2.2 100 (by decide)) (s392.2.2 107 (by decide)) (s392.2.2 108 (by decide)) (s392.2.2 109 (by decide)) (stT_cg rfl rfl rfl rfl rfl rfl (stT_cg rfl rfl rfl rfl rfl rfl f382))))
                                          have g396_P1 := p396
                                          refine lv_lstore (lv' := [(6, .long v396), (5, .int (iI 1)), (4, .int (iI z114)), (3, .int (iI z107)), (2, .int (iI z101)), (0, .ref h), (1, .int (iI a1))]) X.1 X.2.1 d_M_take_229 hl (by decide) rfl (fun ls hl => ?_)
                                          refine lv_aload_n X.1 X.2.1 d_M_take_231 rfl (lv_at hl 5 rfl) ?_
                                          refine m_get X Y 111 (by decide) lk_askedTypes (gf_askedTypes _ _ _) rfl d_M_take_232 ?_
                                          refine lv_iload_n X.1 X.2.1 d_M_take_235 rfl (lv_at hl 6 rfl) ?_
                                          refine r_iald X Y S (aw_askedTypes _ _ _ _ _ _ _) rfl (by omega) (show a1 < ((4 : Nat) : Int) by omega) (by omega) d_M_take_236 (fun z398 q398 l398 u398 => ?_)
                                          refine lv_istore (lv' := [(8, .int (iI z398)), (6, .long v396), (5, .int (iI 1)), (4, .int (iI z114)), (3, .int (iI z107)), (2, .int (iI z101)), (0, .ref h), (1, .int (iI a1))]) X.1 X.2.1 d_M_take_237 hl (by decide) rfl (fun ls hl => ?_)
                                          refine lv_lload X.1 X.2.1 d_M_take_239 (lv_at hl 1 rfl) ?_
                                          refine lv_ldc2 (v := (17)) X.1 X.2.1 X.2.2.2.1 (X.2.2.1 _ cl_M_697) d_M_take_241 ?_
                                          refine z_lcmp X.1 X.2.1 d_M_take_244 (fun z399 l399 u399 x399 y399 => ?_)
                                          have c399 : ((17) : Int64).toInt = (17) := by decide
                                          refine z_if_ne (tgt := 262) X.1 X.2.1 d_M_take_245 (by decide) ⟨by omega, by omega⟩ (fun h400 => ?_) (fun h400 => ?_)
                                          · as_aux_lemma =>
                                              refine lv_lload X.1 X.2.1 d_M_take_262 (lv_at hl 1 rfl) ?_
                                              refine lv_ldc2 (v := (18)) X.1 X.2.1 X.2.2.2.1 (X.2.2.1 _ cl_M_699) d_M_take_264 ?_
                                              refine z_lcmp X.1 X.2.1 d_M_take_267 (fun z401 l401 u401 x401 y401 => ?_)
                                              have c401 : ((18) : Int64).toInt = (18) := by decide
                                              refine z_if_ne (tgt := 281) X.1 X.2.1 d_M_take_268 (by decide) ⟨by omega, by omega⟩ (fun h402 => ?_) (fun h402 => ?_)
                                              · refine lv_iconst (v := iI 0) X.1 X.2.1 d_M_take_281 (by decide) ?_
                                                refine lv_istore (lv' := [(9, .int (iI 0)), (8, .int (iI z398)), (6, .long v396), (5, .int (iI 1)), (4, .int (iI z114)), (3, .int (iI z107)), (2, .int (iI z101)), (0, .ref h), (1, .int (iI a1))]) X.1 X.2.1 d_M_take_282 hl (by decide) rfl (fun ls hl => ?_)
                                                refine lv_iload_n X.1 X.2.1 d_M_take_284 rfl (lv_at hl 5 rfl) ?_
                                                refine lv_iconst (v := iI 2) X.1 X.2.1 d_M_take_285 (by decide) ?_
                                                refine z_icmp_ne (tgt := 309) X.1 X.2.1 d_M_take_286 (by decide) ⟨by omega, by omega⟩ ⟨by decide, by decide⟩ (fun h403 => ?_) (fun h403 => False.elim (by omega))
                                                · refine lv_iload X.1 X.2.1 d_M_take_309 (lv_at hl 0 rfl) ?_
                                                  refine z_if_ne (tgt := 317) X.1 X.2.1 d_M_take_311 (by decide) ⟨by decide, by decide⟩ (fun h404 => False.elim (by omega)) (fun h404 => ?_)
                                                  · refine lv_bipush (v := iI (-14)) X.1 X.2.1 d_M_take_314 (by decide) ?_
                                                    exact m_reti hQQ X Y hr hlk ⟨S, (-14), rfl, ⟨by omega, by omega, g396_P1, (pG2_cg rfl rfl g392_P2), f397, (stA_cg rfl rfl rfl rfl f394)⟩⟩ d_M_take_316
                                              · as_aux_lemma =>
                                                  refine lv_iload X.1 X.2.1 d_M_take_271 (lv_at hl 0 rfl) ?_
                                                  refine lv_iconst (v := iI 1) X.1 X.2.1 d_M_take_273 (by decide) ?_
                                                  refine z_icmp_eq (tgt := 281) X.1 X.2.1 d_M_take_274 (by decide) ⟨by omega, by omega⟩ ⟨by decide, by decide⟩ (fun h405 => ?_) (fun h405 => ?_)
                                                  · refine lv_iconst (v := iI 0) X.1 X.2.1 d_M_take_281 (by decide) ?_
                                                    refine lv_istore (lv' := [(9, .int (iI 0)), (8, .int (iI z398)), (6, .long v396), (5, .int (iI 1)), (4, .int (iI z114)), (3, .int (iI z107)), (2, .int (iI z101)), (0, .ref h), (1, .int (iI a1))]) X.1 X.2.1 d_M_take_282 hl (by decide) rfl (fun ls hl => ?_)
                                                    refine lv_iload_n X.1 X.2.1 d_M_take_284 rfl (lv_at hl 5 rfl) ?_
                                                    refine lv_iconst (v := iI 2) X.1 X.2.1 d_M_take_285 (by decide) ?_
                                                    refine z_icmp_ne (tgt := 309) X.1 X.2.1 d_M_take_286 (by decide) ⟨by omega, by omega⟩ ⟨by decide, by decide⟩ (fun h406 => ?_) (fun h406 => False.elim (by omega))
                                                    · refine lv_iload X.1 X.2.1 d_M_take_309 (lv_at hl 0 rfl) ?_
                                                      refine z_if_ne (tgt := 317) X.1 X.2.1 d_M_take_311 (by decide) ⟨by decide, by decide⟩ (fun h407 => False.elim (by omega)) (fun h407 => ?_)
                                                      · refine lv_bipush (v := iI (-14)) X.1 X.2.1 d_M_take_314 (by decide) ?_
                                                        exact m_reti hQQ X Y hr hlk ⟨S, (-14), rfl, ⟨by omega, by omega, g396_P1, (pG2_cg rfl rfl g392_P2), f397, (stA_cg rfl rfl rfl rfl f394)⟩⟩ d_M_take_316
                                                  · as_aux_lemma =>
                                                      refine lv_iconst (v := iI 1) X.1 X.2.1 d_M_take_277 (by decide) ?_
                                                      refine lv_goto (tgt := 282) X.1 X.2.1 d_M_take_278 (by decide) ?_
                                                      refine lv_istore (lv' := [(9, .int (iI 1)), (8, .int (iI z398)), (6, .long v396), (5, .int (iI 1)), (4, .int (iI z114)), (3, .int (iI z107)), (2, .int (iI z101)), (0, .ref h), (1, .int (iI a1))]) X.1 X.2.1 d_M_take_282 hl (by decide) rfl (fun ls hl => ?_)
                                                      refine lv_iload_n X.1 X.2.1 d_M_take_284 rfl (lv_at hl 5 rfl) ?_
                                                      refine lv_iconst (v := iI 2) X.1 X.2.1 d_M_take_285 (by decide) ?_
                                                      refine z_icmp_ne (tgt := 309) X.1 X.2.1 d_M_take_286 (by decide) ⟨by omega, by omega⟩ ⟨by decide, by decide⟩ (fun h408 => ?_) (fun h408 => False.elim (by omega))
                                                      · as_aux_lemma =>
                                                          refine lv_iload X.1 X.2.1 d_M_take_309 (lv_at hl 0 rfl) ?_
                                                          refine z_if_ne (tgt := 317) X.1 X.2.1 d_M_take_311 (by decide) ⟨by decide, by decide⟩ (fun h409 => ?_) (fun h409 => False.elim (by omega))
                                                          · as_aux_lemma =>
                                                              refine lv_iconst (v := iI 0) X.1 X.2.1 d_M_take_317 (by decide) ?_
                                                              have J418 : ∀ (n420 : Nat) (z411 : Int) (I410 : Nat → Int32) (J410 : Nat → Int64) (B410 : Nat → Nat → Int32) (G410 : Nat → Nat → Int64) (H : Heap) (locs : List Loc) (ls : Array Slot), (32 - z411).toNat = n420 → (0 ≤ z411) → (z411 ≤ 32) → (akA a1 z107 (B410 118) (B410 119) (B410 120)) → (stA (B410 110) (B410 118) (B410 119) (B410 120)) → (stT (B410 97) (B410 98) (B410 100) (B410 107) (B410 108) (B410 109)) → (pG1 I410) → (pG2 (B410 37) (B410 38)) → (rpA (B410 37) (B410 38) (B410 0)) → mH D E (mA E h q sz) s.heap h q I410 J410 B410 G410 H locs → rS [2, 8, 14, 18, 39, 40, 42] [0, 5, 6, 7, 9, 10, 11, 12, 13, 15, 16, 17, 19, 20, 21, 22, 23, 34, 37, 38, 58, 59, 97, 98, 99, 100, 101, 102, 107, 108, 109, 110] I B I410 B410 → lv_has ls 12 [(0, .ref h), (1, .int (iI a1)), (3, .int (iI z107)), (6, .long v396), (10, .int (iI z411))] → W p l e (mR 46 2068) s m AV below meth c H locs 0 0 QQ (F0 m 320 ls []) := by
                                                                as_aux_lemma =>
                                                                  intro n420
                                                                  induction n420 using Nat.strongRecOn with
                                                                  | ind n420 ih419 =>
                                                                    intro z411 I410 J410 B410 G410 H locs ls hm421 l411 u411 f412 f413 f414 f415 f416 f417 Y S hl
                                                                    refine lv_iload X.1 X.2.1 d_M_take_320 (lv_at hl 4 rfl) ?_
                                                                    refine lv_bipush (v := iI 32) X.1 X.2.1 d_M_take_322 (by decide) ?_
                                                                    refine z_icmp_ge (tgt := 382) X.1 X.2.1 d_M_take_324 (by decide) ⟨by omega, by omega⟩ ⟨by decide, by decide⟩ (fun h422 => ?_) (fun h422 => ?_)
                                                                    · as_aux_lemma =>
                                                                        refine lv_aload_n X.1 X.2.1 d_M_take_382 rfl (lv_at hl 0 rfl) ?_
                                                                        refine lv_aload_n X.1 X.2.1 d_M_take_383 rfl (lv_at hl 0 rfl) ?_
                                                                        refine lv_bipush (v := iI 6) X.1 X.2.1 d_M_take_384 (by decide) ?_
                                                                        refine lv_iconst (v := iI 2) X.1 X.2.1 d_M_take_386 (by decide) ?_
                                                                        refine r_ni (m_run (As := [.int (iI 6), .int (iI 2)]) (rest := [.ref h]) (n := 2) X Y hZ hA hml hl.1 (r_M_a l D E h q H.size I410 J410 B410 G410 6 (by decide) (by decide) 2 (by decide) (by decide) S.1) kl_M_a ks_M_a kx_M_a ki_M_a ini_M hd_M_a ⟨Nat.le_of_ble_eq_true rfl, Nat.le_of_ble_eq_true rfl⟩ rfl (Nat.le_of_ble_eq_true rfl) d_M_take_387 ⟨Nat.le_refl _, Nat.le_refl _⟩) X Y hA S (by decide) (by decide) (fun z423 u H locs Y S s423 p423 => ?_)
                                                                        obtain ⟨I423, J423, B423, G423⟩ := u
                                                                        dsimp only at Y S s423 p423
                                                                        have i423 : I410 = I423 := (funext (fun j => s423.2.1 j (by simp))).symm
                                                                        subst i423
                                                                        have b423 : B410 = B423 := (funext (fun j => s423.2.2 j (by simp))).symm
                                                                        subst b423
                                                                        obtain ⟨l423, u423, x423⟩ := p423
                                                                        refine lv_aload_n X.1 X.2.1 d_M_take_390 rfl (lv_at hl 0 rfl) ?_
                                                                        refine lv_bipush (v := iI 6) X.1 X.2.1 d_M_take_391 (by decide) ?_
                                                                        refine lv_iconst (v := iI 2) X.1 X.2.1 d_M_take_393 (by decide) ?_
                                                                        refine r_ni (m_run (As := [.int (iI 6), .int (iI 2)]) (rest := [.int (iI z423), .ref h]) (n := 2) X Y hZ hA hml hl.1 (r_M_b l D E h q H.size I410 J423 B410 G423 6 (by decide) (by decide) 2 (by decide) (by decide) S.1) kl_M_b ks_M_b kx_M_b ki_M_b ini_M hd_M_b ⟨Nat.le_of_ble_eq_true rfl, Nat.le_of_ble_eq_true rfl⟩ rfl (Nat.le_of_ble_eq_true rfl) d_M_take_394 ⟨Nat.le_refl _, Nat.le_refl _⟩) X Y hA S (by decide) (by decide) (fun z424 u H locs Y S s424 p424 => ?_)
                                                                        obtain ⟨I424, J424, B424, G424⟩ := u
                                                                        dsimp only at Y S s424 p424
                                                                        have i424 : I410 = I424 := (funext (fun j => s424.2.1 j (by simp))).symm
                                                                        subst i424
                                                                        have b424 : B410 = B424 := (funext (fun j => s424.2.2 j (by simp))).symm
                                                                        subst b424
                                                                        obtain ⟨l424, u424, x424⟩ := p424
                                                                        have p425 : pr z423 z424 := by rw [x423, x424]; exact (pG2_cg rfl rfl (pG2_cg rfl rfl f416)) (16 * 6 + 2 : Int).toNat (by omega)
                                                                        unfold pr at p425
                                                                        refine lv_iconst (v := iI 4) X.1 X.2.1 d_M_take_397 (by decide) ?_
                                                                        refine r_ni (m_run (As := [.int (iI z423), .int (iI z424), .int (iI 4)]) (rest := []) (n := 3) X Y hZ hA hml hl.1 (r_M_element l D E h q H.size I410 J424 B410 G424 z423 (by omega) (by omega) z424 (by omega) (by omega) 4 (by decide) (by decide) S.1 (B410 0) rfl (pG1_cg rfl rfl (pG1_cg rfl rfl f415)) (by omega) (by omega)) kl_M_element ks_M_element kx_M_element ki_M_element ini_M hd_M_element ⟨Nat.le_of_ble_eq_true rfl, Nat.le_of_ble_eq_true rfl⟩ rfl (Nat.le_of_ble_eq_true rfl) d_M_take_398 ⟨Nat.le_refl _, Nat.le_refl _⟩) X Y hA S (by decide) (by decide) (fun z426 u H locs Y S s426 p426 => ?_)
                                                                        obtain ⟨I426, J426, B426, G426⟩ := u
                                                                        dsimp only at Y S s426 p426
                                                                        have b426 : B410 = B426 := (funext (fun j => s426.2.2 j (by simp))).symm
                                                                        subst b426
                                                                        obtain ⟨l426, u426, x426, st426⟩ := p426
                                                                        obtain ⟨x427, y427, ex427, ey427, lx427, ly427, uy427, dy427, iy427, ky427⟩ := st426
                                                                        refine lv_pop X.1 X.2.1 d_M_take_401 rfl ?_
                                                                        refine lv_aload_n X.1 X.2.1 d_M_take_402 rfl (lv_at hl 0 rfl) ?_
                                                                        refine lv_aload_n X.1 X.2.1 d_M_take_403 rfl (lv_at hl 0 rfl) ?_
                                                                        refine m_get X Y 58 (by decide) lk_key (gf_key _ _ _) rfl d_M_take_404 ?_
                                                                        refine lv_lload X.1 X.2.1 d_M_take_407 (lv_at hl 3 rfl) ?_
                                                                        refine z_l2i X.1 X.2.1 d_M_take_409 (fun z428 l428 u428 x428 => ?_)
                                                                        refine lv_iload_n X.1 X.2.1 d_M_take_410 rfl (lv_at hl 2 rfl) ?_
                                                                        refine lv_iconst (v := iI 2) X.1 X.2.1 d_M_take_411 (by decide) ?_
                                                                        refine z_icmp_ge (tgt := 419) X.1 X.2.1 d_M_take_412 (by decide) ⟨by omega, by omega⟩ ⟨by decide, by decide⟩ (fun h429 => False.elim (by omega)) (fun h429 => ?_)
                                                                        · as_aux_lemma =>
                                                                            refine lv_iconst (v := iI 3) X.1 X.2.1 d_M_take_415 (by decide) ?_
                                                                            refine lv_goto (tgt := 421) X.1 X.2.1 d_M_take_416 (by decide) ?_
                                                                            refine lv_aload_n X.1 X.2.1 d_M_take_421 rfl (lv_at hl 0 rfl) ?_
                                                                            refine r_get0 X Y (by decide) lk_inside (gf_inside _ _ _) rfl ex427 d_M_take_422 ?_
                                                                            refine lv_aload_n X.1 X.2.1 d_M_take_425 rfl (lv_at hl 0 rfl) ?_
                                                                            refine r_get0 X Y (by decide) lk_behind (gf_behind _ _ _) rfl ey427 d_M_take_426 ?_
                                                                            refine lv_sipush (v := iI 4200) X.1 X.2.1 d_M_take_429 (by decide) ?_
                                                                            refine r_ni (m_run (As := [.ref ((q 58)), .int (iI z428), .int (iI 3), .int (iI x427), .int (iI y427), .int (iI 4200)]) (rest := []) (n := 6) X Y hZ hA hml hl.1 (r_M_open_key l D E h q H.size I426 J426 B410 G426 z428 (by omega) (by omega) 3 (by decide) (by decide) x427 (by omega) (by omega) y427 (by omega) (by omega) 4200 (by decide) (by decide) S.1 (by omega) (by omega)) kl_M_open ks_M_open kx_M_open ki_M_open ini_M hd_M_open ⟨Nat.le_of_ble_eq_true rfl, Nat.le_of_ble_eq_true rfl⟩ rfl (Nat.le_of_ble_eq_true rfl) d_M_take_432 ⟨Nat.le_refl _, Nat.le_refl _⟩) X Y hA S (by decide) (by decide) (fun z430 u H locs Y S s430 p430 => ?_)
                                                                            obtain ⟨I430, J430, B430, G430⟩ := u
                                                                            dsimp only at Y S s430 p430
                                                                            have f431 : stT (B430 97) (B430 98) (B430 100) (B430 107) (B430 108) (B430 109) := (stT_cg (s430.2.2 97 (by decide)) (s430.2.2 98 (by decide)) (s430.2.2 100 (by decide)) (s430.2.2 107 (by decide)) (s430.2.2 108 (by decide)) (s430.2.2 109 (by decide)) (stT_cg rfl rfl rfl rfl rfl rfl (stT_cg rfl rfl rfl rfl rfl rfl (stT_cg rfl rfl rfl rfl rfl rfl f414))))
                                                                            obtain ⟨l430, u430, x430, g430_MF⟩ := p430
                                                                            have f432 : rpA (B430 37) (B430 38) (B430 0) := (rpA_cg rfl (s430.2.2 37 (by decide)) (s430.2.2 38 (by decide)) (rpA_M g430_MF (by decide) (rpA_cg rfl rfl rfl (rpA_cg rfl rfl rfl (rpA_cg rfl rfl rfl f417)))))
                                                                            refine lv_istore (lv' := [(10, .int (iI z430)), (0, .ref h), (1, .int (iI a1)), (3, .int (iI z107)), (6, .long v396)]) X.1 X.2.1 d_M_take_435 hl (by decide) rfl (fun ls hl => ?_)
                                                                            refine lv_iload X.1 X.2.1 d_M_take_437 (lv_at hl 0 rfl) ?_
                                                                            refine z_if_ge (tgt := 445) X.1 X.2.1 d_M_take_439 (by decide) ⟨by omega, by omega⟩ (fun h433 => ?_) (fun h433 => ?_)
                                                                            · as_aux_lemma =>
                                                                                refine lv_iload_n X.1 X.2.1 d_M_take_445 rfl (lv_at hl 3 rfl) ?_
                                                                                refine lv_iconst (v := iI 2) X.1 X.2.1 d_M_take_446 (by decide) ?_
                                                                                refine z_icmp_ge (tgt := 472) X.1 X.2.1 d_M_take_447 (by decide) ⟨by omega, by omega⟩ ⟨by decide, by decide⟩ (fun h434 => False.elim (by omega)) (fun h434 => ?_)
                                                                                · as_aux_lemma =>
                                                                                    refine lv_aload_n X.1 X.2.1 d_M_take_450 rfl (lv_at hl 1 rfl) ?_
                                                                                    refine lv_bipush (v := iI 25) X.1 X.2.1 d_M_take_451 (by decide) ?_
                                                                                    refine m_ldcSW (i := 19) X (by decide) (by decide) d_M_take_453 ?_
                                                                                    refine lv_sipush (v := iI 4200) X.1 X.2.1 d_M_take_456 (by decide) ?_
                                                                                    refine lv_sipush (v := iI 4200) X.1 X.2.1 d_M_take_459 (by decide) ?_
                                                                                    refine lv_iload X.1 X.2.1 d_M_take_462 (lv_at hl 0 rfl) ?_
                                                                                    refine z_iadd X.1 X.2.1 d_M_take_464 ?_
                                                                                    refine lv_iconst (v := iI 4) X.1 X.2.1 d_M_take_465 (by decide) ?_
                                                                                    refine r_ni (m_run (As := [.int (iI 25), .ref ((D.2.1 19)), .int (iI 4200), .int (iI (4200 + z430)), .int (iI 4)]) (rest := []) (n := 5) X Y hZ hA hml hl.1 (r_M_applied_t l D E h q H.size I430 J430 B430 G430 25 (by decide) (by decide) 19 (show 19 < nZ by decide) 4200 (by decide) (by decide) (4200 + z430) (by omega) (by omega) 4 (by decide) (by decide) S.1 5 (B430 0) rfl (isF (B430 0) 5) (by decide) (hisU (show rki 19 ≤ 5 by decide)) (pG1_cg (s430.2.1 39 (by decide)) (s430.2.1 40 (by decide)) (show pG1 I426 from ⟨x427, y427, ex427, ey427, by omega, by omega, by omega, by omega⟩)) (pG2_cg (s430.2.2 37 (by decide)) (s430.2.2 38 (by decide)) (pG2_cg rfl rfl (pG2_cg rfl rfl (pG2_cg rfl rfl f416)))) (by omega) (by omega)) kl_M_applied ks_M_applied kx_M_applied ki_M_applied ini_M hd_M_applied ⟨Nat.le_of_ble_eq_true rfl, Nat.le_of_ble_eq_true rfl⟩ rfl (Nat.le_of_ble_eq_true rfl) d_M_take_466 ⟨Nat.le_refl _, Nat.le_refl _⟩) X Y hA S (by decide) (by decide) (fun z435 u H locs Y S s435 p435 => ?_)
                                                                                    obtain ⟨I435, J435, B435, G435⟩ := u
                                                                                    dsimp only at Y S s435 p435
                                                                                    have f436 : stA (B435 110) (B435 118) (B435 119) (B435 120) := (stA_cg (s435.2.2 110 (by decide)) (s435.2.2 118 (by decide)) (s435.2.2 119 (by decide)) (s435.2.2 120 (by decide)) (stA_cg (s430.2.2 110 (by decide)) (s430.2.2 118 (by decide)) (s430.2.2 119 (by decide)) (s430.2.2 120 (by decide)) (stA_cg rfl rfl rfl rfl (stA_cg rfl rfl rfl rfl (stA_cg rfl rfl rfl rfl f413)))))
                                                                                    obtain ⟨l435, u435, x435, st435, g435_P1, g435_P2⟩ := p435
                                                                                    have g435_TF : thF [4] (B430 37) (B430 38) (B435 37) (B435 38) := thF_of st435.1
                                                                                    have f437 : rpA (B435 37) (B435 38) (B435 0) := (rpA_cg (s435.2.2 0 (by decide)) rfl rfl (rpA_T g435_TF (by decide) (by decide) f432))
                                                                                    refine z_if_ne (tgt := 494) X.1 X.2.1 d_M_take_469 (by decide) ⟨by omega, by omega⟩ (fun h438 => ?_) (fun h438 => ?_)
                                                                                    · as_aux_lemma =>
                                                                                        refine lv_iconst (v := iI 1) X.1 X.2.1 d_M_take_494 (by decide) ?_
                                                                                        refine lv_goto (tgt := 499) X.1 X.2.1 d_M_take_495 (by decide) ?_
                                                                                        refine lv_istore (lv' := [(11, .int (iI 1)), (10, .int (iI z430)), (0, .ref h), (1, .int (iI a1)), (3, .int (iI z107)), (6, .long v396)]) X.1 X.2.1 d_M_take_499 hl (by decide) rfl (fun ls hl => ?_)
                                                                                        refine lv_iload X.1 X.2.1 d_M_take_501 (lv_at hl 0 rfl) ?_
                                                                                        refine z_if_ne (tgt := 509) X.1 X.2.1 d_M_take_503 (by decide) ⟨by decide, by decide⟩ (fun h439 => ?_) (fun h439 => False.elim (by omega))
                                                                                        · as_aux_lemma =>
                                                                                            refine lv_aload_n X.1 X.2.1 d_M_take_509 rfl (lv_at hl 2 rfl) ?_
                                                                                            refine lv_iconst (v := iI 4) X.1 X.2.1 d_M_take_510 (by decide) ?_
                                                                                            refine lv_iconst (v := iI 2) X.1 X.2.1 d_M_take_511 (by decide) ?_
                                                                                            refine r_nl (m_run (As := [.int (iI 4), .int (iI 2)]) (rest := []) (n := 2) X Y hZ hA hml hl.1 (r_M_numberAt l D E h q H.size I435 J435 B435 G435 4 (by decide) (by decide) 2 (by decide) (by decide) S.1 g435_P1 g435_P2) kl_M_numberAt ks_M_numberAt kx_M_numberAt ki_M_numberAt ini_M hd_M_numberAt ⟨Nat.le_of_ble_eq_true rfl, Nat.le_of_ble_eq_true rfl⟩ rfl (Nat.le_of_ble_eq_true rfl) d_M_take_512 ⟨Nat.le_refl _, Nat.le_refl _⟩) X Y hA S (by decide) (by decide) (fun v440 u H locs Y S s440 p440 => ?_)
                                                                                            obtain ⟨I440, J440, B440, G440⟩ := u
                                                                                            dsimp only at Y S s440 p440
                                                                                            have b440 : B435 = B440 := (funext (fun j => s440.2.2 j (by simp))).symm
                                                                                            subst b440
                                                                                            have f441 : akA a1 z107 (B435 118) (B435 119) (B435 120) := (akA_cg rfl rfl rfl (akA_cg (s435.2.2 118 (by decide)) (s435.2.2 119 (by decide)) (s435.2.2 120 (by decide)) (akA_cg (s430.2.2 118 (by decide)) (s430.2.2 119 (by decide)) (s430.2.2 120 (by decide)) (akA_cg rfl rfl rfl (akA_cg rfl rfl rfl (akA_cg rfl rfl rfl f412))))))
                                                                                            have g440_P1 := p440
                                                                                            refine lv_aload_n X.1 X.2.1 d_M_take_515 rfl (lv_at hl 2 rfl) ?_
                                                                                            refine m_get X Y 114 (by decide) lk_askedNonce (gf_askedNonce _ _ _) rfl d_M_take_516 ?_
                                                                                            refine lv_iload_n X.1 X.2.1 d_M_take_519 rfl (lv_at hl 3 rfl) ?_
                                                                                            refine r_lald X Y (aw_askedNonce _ _ _ _ _ _ _) (by omega) (show a1 < ((4 : Nat) : Int) by omega) (by omega) d_M_take_520 (fun v442 => ?_)
                                                                                            refine z_lcmp X.1 X.2.1 d_M_take_521 (fun z443 l443 u443 x443 y443 => ?_)
                                                                                            refine z_if_eq (tgt := 528) X.1 X.2.1 d_M_take_522 (by decide) ⟨by omega, by omega⟩ (fun h444 => ?_) (fun h444 => ?_)
                                                                                            · refine lv_aload_n X.1 X.2.1 d_M_take_528 rfl (lv_at hl 2 rfl) ?_
                                                                                              refine lv_iload_n X.1 X.2.1 d_M_take_529 rfl (lv_at hl 3 rfl) ?_
                                                                                              refine lv_iload_n X.1 X.2.1 d_M_take_530 rfl (lv_at hl 4 rfl) ?_
                                                                                              refine r_ni (m_run (As := [.int (iI a1), .int (iI z107)]) (rest := []) (n := 2) X Y hZ hA hml hl.1 (r_M_taken l D E h q H.size I440 J440 B435 G440 a1 (by omega) (by omega) z107 (by omega) (by omega) S.1 g440_P1 (pG2_cg rfl rfl g435_P2) (stT_cg rfl rfl rfl rfl rfl rfl (stT_cg (s435.2.2 97 (by decide)) (s435.2.2 98 (by decide)) (s435.2.2 100 (by decide)) (s435.2.2 107 (by decide)) (s435.2.2 108 (by decide)) (s435.2.2 109 (by decide)) f431)) (stA_cg rfl rfl rfl rfl f436) (rpA_cg rfl rfl rfl f437) f441) kl_M_taken ks_M_taken kx_M_taken ki_M_taken ini_M hd_M_taken ⟨Nat.le_of_ble_eq_true rfl, Nat.le_of_ble_eq_true rfl⟩ rfl (Nat.le_of_ble_eq_true rfl) d_M_take_531 ⟨Nat.le_refl _, Nat.le_refl _⟩) X Y hA S (by decide) (by decide) (fun z445 u H locs Y S s445 p445 => ?_)
                                                                                              obtain ⟨I445, J445, B445, G445⟩ := u
                                                                                              dsimp only at Y S s445 p445
                                                                                              obtain ⟨l445, u445, g445_P1, g445_P2, g445_FT, g445_FA⟩ := p445
                                                                                              exact m_reti hQQ X Y hr hlk ⟨S, z445, rfl, ⟨by omega, by omega, g445_P1, g445_P2, g445_FT, g445_FA⟩⟩ d_M_take_534
                                                                                            · refine lv_bipush (v := iI (-41)) X.1 X.2.1 d_M_take_525 (by decide) ?_
                                                                                              exact m_reti hQQ X Y hr hlk ⟨S, (-41), rfl, ⟨by omega, by omega, g440_P1, (pG2_cg rfl rfl g435_P2), (stT_cg rfl rfl rfl rfl rfl rfl (stT_cg (s435.2.2 97 (by decide)) (s435.2.2 98 (by decide)) (s435.2.2 100 (by decide)) (s435.2.2 107 (by decide)) (s435.2.2 108 (by decide)) (s435.2.2 109 (by decide)) f431)), (stA_cg rfl rfl rfl rfl f436)⟩⟩ d_M_take_527
                                                                                    · as_aux_lemma =>
                                                                                        refine lv_aload_n X.1 X.2.1 d_M_take_472 rfl (lv_at hl 1 rfl) ?_
                                                                                        refine lv_bipush (v := iI 26) X.1 X.2.1 d_M_take_473 (by decide) ?_
                                                                                        refine m_ldcSW (i := 19) X (by decide) (by decide) d_M_take_475 ?_
                                                                                        refine lv_sipush (v := iI 4200) X.1 X.2.1 d_M_take_478 (by decide) ?_
                                                                                        refine lv_sipush (v := iI 4200) X.1 X.2.1 d_M_take_481 (by decide) ?_
                                                                                        refine lv_iload X.1 X.2.1 d_M_take_484 (lv_at hl 0 rfl) ?_
                                                                                        refine z_iadd X.1 X.2.1 d_M_take_486 ?_
                                                                                        refine lv_iconst (v := iI 4) X.1 X.2.1 d_M_take_487 (by decide) ?_
                                                                                        refine r_ni (m_run (As := [.int (iI 26), .ref ((D.2.1 19)), .int (iI 4200), .int (iI (4200 + z430)), .int (iI 4)]) (rest := []) (n := 5) X Y hZ hA hml hl.1 (r_M_applied_t l D E h q H.size I435 J435 B435 G435 26 (by decide) (by decide) 19 (show 19 < nZ by decide) 4200 (by decide) (by decide) (4200 + z430) (by omega) (by omega) 4 (by decide) (by decide) S.1 5 (B435 0) rfl (isF (B435 0) 5) (by decide) (hisU (show rki 19 ≤ 5 by decide)) g435_P1 g435_P2 (by omega) (by omega)) kl_M_applied ks_M_applied kx_M_applied ki_M_applied ini_M hd_M_applied ⟨Nat.le_of_ble_eq_true rfl, Nat.le_of_ble_eq_true rfl⟩ rfl (Nat.le_of_ble_eq_true rfl) d_M_take_488 ⟨Nat.le_refl _, Nat.le_refl _⟩) X Y hA S (by decide) (by decide) (fun z446 u H locs Y S s446 p446 => ?_)
                                                                                        obtain ⟨I446, J446, B446, G446⟩ := u
                                                                                        dsimp only at Y S s446 p446
                                                                                        have f447 : stT (B446 97) (B446 98) (B446 100) (B446 107) (B446 108) (B446 109) := (stT_cg (s446.2.2 97 (by decide)) (s446.2.2 98 (by decide)) (s446.2.2 100 (by decide)) (s446.2.2 107 (by decide)) (s446.2.2 108 (by decide)) (s446.2.2 109 (by decide)) (stT_cg (s435.2.2 97 (by decide)) (s435.2.2 98 (by decide)) (s435.2.2 100 (by decide)) (s435.2.2 107 (by decide)) (s435.2.2 108 (by decide)) (s435.2.2 109 (by decide)) f431))
                                                                                        have f448 : akA a1 z107 (B446 118) (B446 119) (B446 120) := (akA_cg (s446.2.2 118 (by decide)) (s446.2.2 119 (by decide)) (s446.2.2 120 (by decide)) (akA_cg (s435.2.2 118 (by decide)) (s435.2.2 119 (by decide)) (s435.2.2 120 (by decide)) (akA_cg (s430.2.2 118 (by decide)) (s430.2.2 119 (by decide)) (s430.2.2 120 (by decide)) (akA_cg rfl rfl rfl (akA_cg rfl rfl rfl (akA_cg rfl rfl rfl f412))))))
                                                                                        obtain ⟨l446, u446, x446, st446, g446_P1, g446_P2⟩ := p446
                                                                                        have g446_TF : thF [4] (B435 37) (B435 38) (B446 37) (B446 38) := thF_of st446.1
                                                                                        have f449 : rpA (B446 37) (B446 38) (B446 0) := (rpA_cg (s446.2.2 0 (by decide)) rfl rfl (rpA_T g446_TF (by decide) (by decide) f437))
                                                                                        refine z_if_eq (tgt := 498) X.1 X.2.1 d_M_take_491 (by decide) ⟨by omega, by omega⟩ (fun h450 => ?_) (fun h450 => ?_)
                                                                                        · refine lv_iconst (v := iI 0) X.1 X.2.1 d_M_take_498 (by decide) ?_
                                                                                          refine lv_istore (lv' := [(11, .int (iI 0)), (10, .int (iI z430)), (0, .ref h), (1, .int (iI a1)), (3, .int (iI z107)), (6, .long v396)]) X.1 X.2.1 d_M_take_499 hl (by decide) rfl (fun ls hl => ?_)
                                                                                          refine lv_iload X.1 X.2.1 d_M_take_501 (lv_at hl 0 rfl) ?_
                                                                                          refine z_if_ne (tgt := 509) X.1 X.2.1 d_M_take_503 (by decide) ⟨by decide, by decide⟩ (fun h451 => False.elim (by omega)) (fun h451 => ?_)
                                                                                          · refine lv_bipush (v := iI (-60)) X.1 X.2.1 d_M_take_506 (by decide) ?_
                                                                                            exact m_reti hQQ X Y hr hlk ⟨S, (-60), rfl, ⟨by omega, by omega, g446_P1, g446_P2, f447, (stA_cg (s446.2.2 110 (by decide)) (s446.2.2 118 (by decide)) (s446.2.2 119 (by decide)) (s446.2.2 120 (by decide)) f436)⟩⟩ d_M_take_508
                                                                                        · as_aux_lemma =>
                                                                                            refine lv_iconst (v := iI 1) X.1 X.2.1 d_M_take_494 (by decide) ?_
                                                                                            refine lv_goto (tgt := 499) X.1 X.2.1 d_M_take_495 (by decide) ?_
                                                                                            refine lv_istore (lv' := [(11, .int (iI 1)), (10, .int (iI z430)), (0, .ref h), (1, .int (iI a1)), (3, .int (iI z107)), (6, .long v396)]) X.1 X.2.1 d_M_take_499 hl (by decide) rfl (fun ls hl => ?_)
                                                                                            refine lv_iload X.1 X.2.1 d_M_take_501 (lv_at hl 0 rfl) ?_
                                                                                            refine z_if_ne (tgt := 509) X.1 X.2.1 d_M_take_503 (by decide) ⟨by decide, by decide⟩ (fun h452 => ?_) (fun h452 => False.elim (by omega))
                                                                                            · as_aux_lemma =>
                                                                                                refine lv_aload_n X.1 X.2.1 d_M_take_509 rfl (lv_at hl 2 rfl) ?_
                                                                                                refine lv_iconst (v := iI 4) X.1 X.2.1 d_M_take_510 (by decide) ?_
                                                                                                refine lv_iconst (v := iI 2) X.1 X.2.1 d_M_take_511 (by decide) ?_
                                                                                                refine r_nl (m_run (As := [.int (iI 4), .int (iI 2)]) (rest := []) (n := 2) X Y hZ hA hml hl.1 (r_M_numberAt l D E h q H.size I446 J446 B446 G446 4 (by decide) (by decide) 2 (by decide) (by decide) S.1 g446_P1 g446_P2) kl_M_numberAt ks_M_numberAt kx_M_numberAt ki_M_numberAt ini_M hd_M_numberAt ⟨Nat.le_of_ble_eq_true rfl, Nat.le_of_ble_eq_true rfl⟩ rfl (Nat.le_of_ble_eq_true rfl) d_M_take_512 ⟨Nat.le_refl _, Nat.le_refl _⟩) X Y hA S (by decide) (by decide) (fun v453 u H locs Y S s453 p453 => ?_)
                                                                                                obtain ⟨I453, J453, B453, G453⟩ := u
                                                                                                dsimp only at Y S s453 p453
                                                                                                have b453 : B446 = B453 := (funext (fun j => s453.2.2 j (by simp))).symm
                                                                                                subst b453
                                                                                                have g453_P1 := p453
                                                                                                refine lv_aload_n X.1 X.2.1 d_M_take_515 rfl (lv_at hl 2 rfl) ?_
                                                                                                refine m_get X Y 114 (by decide) lk_askedNonce (gf_askedNonce _ _ _) rfl d_M_take_516 ?_
                                                                                                refine lv_iload_n X.1 X.2.1 d_M_take_519 rfl (lv_at hl 3 rfl) ?_
                                                                                                refine r_lald X Y (aw_askedNonce _ _ _ _ _ _ _) (by omega) (show a1 < ((4 : Nat) : Int) by omega) (by omega) d_M_take_520 (fun v454 => ?_)
                                                                                                refine z_lcmp X.1 X.2.1 d_M_take_521 (fun z455 l455 u455 x455 y455 => ?_)
                                                                                                refine z_if_eq (tgt := 528) X.1 X.2.1 d_M_take_522 (by decide) ⟨by omega, by omega⟩ (fun h456 => ?_) (fun h456 => ?_)
                                                                                                · refine lv_aload_n X.1 X.2.1 d_M_take_528 rfl (lv_at hl 2 rfl) ?_
                                                                                                  refine lv_iload_n X.1 X.2.1 d_M_take_529 rfl (lv_at hl 3 rfl) ?_
                                                                                                  refine lv_iload_n X.1 X.2.1 d_M_take_530 rfl (lv_at hl 4 rfl) ?_
                                                                                                  refine r_ni (m_run (As := [.int (iI a1), .int (iI z107)]) (rest := []) (n := 2) X Y hZ hA hml hl.1 (r_M_taken l D E h q H.size I453 J453 B446 G453 a1 (by omega) (by omega) z107 (by omega) (by omega) S.1 g453_P1 (pG2_cg rfl rfl g446_P2) (stT_cg rfl rfl rfl rfl rfl rfl f447) (stA_cg rfl rfl rfl rfl (stA_cg (s446.2.2 110 (by decide)) (s446.2.2 118 (by decide)) (s446.2.2 119 (by decide)) (s446.2.2 120 (by decide)) f436)) (rpA_cg rfl rfl rfl f449) (akA_cg rfl rfl rfl f448)) kl_M_taken ks_M_taken kx_M_taken ki_M_taken ini_M hd_M_taken ⟨Nat.le_of_ble_eq_true rfl, Nat.le_of_ble_eq_true rfl⟩ rfl (Nat.le_of_ble_eq_true rfl) d_M_take_531 ⟨Nat.le_refl _, Nat.le_refl _⟩) X Y hA S (by decide) (by decide) (fun z457 u H locs Y S s457 p457 => ?_)
                                                                                                  obtain ⟨I457, J457, B457, G457⟩ := u
                                                                                                  dsimp only at Y S s457 p457
                                                                                                  have f458 : stA (B457 110) (B457 118) (B457 119) (B457 120) := (stA_cg (s457.2.2 110 (by decide)) (s457.2.2 118 (by decide)) (s457.2.2 119 (by decide)) (s457.2.2 120 (by decide)) (stA_cg rfl rfl rfl rfl (stA_cg (s446.2.2 110 (by decide)) (s446.2.2 118 (by decide)) (s446.2.2 119 (by decide)) (s446.2.2 120 (by decide)) f436)))
                                                                                                  obtain ⟨l457, u457, g457_P1, g457_P2, g457_FT, g457_FA⟩ := p457
                                                                                                  exact m_reti hQQ X Y hr hlk ⟨S, z457, rfl, ⟨by omega, by omega, g457_P1, g457_P2, g457_FT, g457_FA⟩⟩ d_M_take_534
                                                                                                · refine lv_bipush (v := iI (-41)) X.1 X.2.1 d_M_take_525 (by decide) ?_
                                                                                                  exact m_reti hQQ X Y hr hlk ⟨S, (-41), rfl, ⟨by omega, by omega, g453_P1, (pG2_cg rfl rfl g446_P2), (stT_cg rfl rfl rfl rfl rfl rfl f447), (stA_cg rfl rfl rfl rfl (stA_cg (s446.2.2 110 (by decide)) (s446.2.2 118 (by decide)) (s446.2.2 119 (by decide)) (s446.2.2 120 (by decide)) f436))⟩⟩ d_M_take_527
                                                                            · refine lv_bipush (v := iI (-31)) X.1 X.2.1 d_M_take_442 (by decide) ?_
                                                                              exact m_reti hQQ X Y hr hlk ⟨S, (-31), rfl, ⟨by omega, by omega, (pG1_cg (s430.2.1 39 (by decide)) (s430.2.1 40 (by decide)) (show pG1 I426 from ⟨x427, y427, ex427, ey427, by omega, by omega, by omega, by omega⟩)), (pG2_cg (s430.2.2 37 (by decide)) (s430.2.2 38 (by decide)) (pG2_cg rfl rfl (pG2_cg rfl rfl (pG2_cg rfl rfl f416)))), f431, (stA_cg (s430.2.2 110 (by decide)) (s430.2.2 118 (by decide)) (s430.2.2 119 (by decide)) (s430.2.2 120 (by decide)) (stA_cg rfl rfl rfl rfl (stA_cg rfl rfl rfl rfl (stA_cg rfl rfl rfl rfl f413))))⟩⟩ d_M_take_444
                                                                    · as_aux_lemma =>
                                                                        refine lv_aload_n X.1 X.2.1 d_M_take_327 rfl (lv_at hl 0 rfl) ?_
                                                                        refine m_get X Y 58 (by decide) lk_key (gf_key _ _ _) rfl d_M_take_328 ?_
                                                                        refine lv_iload X.1 X.2.1 d_M_take_331 (lv_at hl 4 rfl) ?_
                                                                        refine lv_iload_n X.1 X.2.1 d_M_take_333 rfl (lv_at hl 2 rfl) ?_
                                                                        refine lv_iconst (v := iI 2) X.1 X.2.1 d_M_take_334 (by decide) ?_
                                                                        refine z_icmp_ge (tgt := 363) X.1 X.2.1 d_M_take_335 (by decide) ⟨by omega, by omega⟩ ⟨by decide, by decide⟩ (fun h459 => False.elim (by omega)) (fun h459 => ?_)
                                                                        · refine lv_aload_n X.1 X.2.1 d_M_take_338 rfl (lv_at hl 0 rfl) ?_
                                                                          refine m_get X Y 96 (by decide) lk_agentKeys (gf_agentKeys _ _ _) rfl d_M_take_339 ?_
                                                                          refine lv_bipush (v := iI 64) X.1 X.2.1 d_M_take_342 (by decide) ?_
                                                                          refine lv_iload_n X.1 X.2.1 d_M_take_344 rfl (lv_at hl 1 rfl) ?_
                                                                          refine z_imul X.1 X.2.1 d_M_take_345 ?_
                                                                          refine lv_bipush (v := iI 32) X.1 X.2.1 d_M_take_346 (by decide) ?_
                                                                          refine lv_lload X.1 X.2.1 d_M_take_348 (lv_at hl 3 rfl) ?_
                                                                          refine z_l2i X.1 X.2.1 d_M_take_350 (fun z460 l460 u460 x460 => ?_)
                                                                          have lz461 : 17 ≤ z460 ∧ z460 ≤ 18 := by omega
                                                                          have lz462 : 17 ≤ z460 ∧ z460 ≤ 18 := by omega
                                                                          refine lv_bipush (v := iI 17) X.1 X.2.1 d_M_take_351 (by decide) ?_
                                                                          refine z_isub X.1 X.2.1 d_M_take_353 ?_
                                                                          refine z_imul X.1 X.2.1 d_M_take_354 ?_
                                                                          refine z_iadd X.1 X.2.1 d_M_take_355 ?_
                                                                          refine lv_iload X.1 X.2.1 d_M_take_356 (lv_at hl 4 rfl) ?_
                                                                          refine z_iadd X.1 X.2.1 d_M_take_358 ?_
                                                                          refine r_bald X Y S (aw_agentKeys _ _ _ _ _ _ _) rfl (by omega) (show ((64 * a1) + (32 * (z460 - 17))) + z411 < ((256 : Nat) : Int) by omega) (by omega) d_M_take_359 (fun z463 q463 l463 u463 => ?_)
                                                                          refine lv_goto (tgt := 375) X.1 X.2.1 d_M_take_360 (by decide) ?_
                                                                          refine r_bast X Y S (aw_key _ _ _ _ _ _ _) (sw_key _ _ _ _ _ _ _) rfl (by omega) (show z411 < ((32 : Nat) : Int) by omega) (by omega) (by decide) d_M_take_375 (fun B464 H locs Y S w464 => ?_)
                                                                          refine lv_iinc (v := iI (z411 + 1)) (lv' := [(10, .int (iI (z411 + 1))), (0, .ref h), (1, .int (iI a1)), (3, .int (iI z107)), (6, .long v396)]) X.1 X.2.1 d_M_take_376 hl (k := 4) rfl ((iI_add _ _).trans (congrArg iI (by omega))) (by decide) rfl (fun ls hl => ?_)
                                                                          refine lv_goto (tgt := 320) X.1 X.2.1 d_M_take_379 (by decide) ?_
                                                                          exact ih419 ((32 - (z411 + 1)).toNat) (by omega) (z411 + 1) I410 J410 B464 G410 _ _ _ rfl (by omega) (by omega) (akA_cg (w464.2 118 (by decide)) (w464.2 119 (by decide)) (w464.2 120 (by decide)) f412) (stA_cg (w464.2 110 (by decide)) (w464.2 118 (by decide)) (w464.2 119 (by decide)) (w464.2 120 (by decide)) f413) (stT_cg (w464.2 97 (by decide)) (w464.2 98 (by decide)) (w464.2 100 (by decide)) (w464.2 107 (by decide)) (w464.2 108 (by decide)) (w464.2 109 (by decide)) f414) (pG1_cg rfl rfl f415) (pG2_cg (w464.2 37 (by decide)) (w464.2 38 (by decide)) f416) (rpA_cg (w464.2 0 (by decide)) (w464.2 37 (by decide)) (w464.2 38 (by decide)) f417) Y S (lv_sub hl [1, 2, 3, 4, 0] rfl)
                                                              refine lv_istore (lv' := [(10, .int (iI 0)), (9, .int (iI 1)), (8, .int (iI z398)), (6, .long v396), (5, .int (iI 1)), (4, .int (iI z114)), (3, .int (iI z107)), (2, .int (iI z101)), (0, .ref h), (1, .int (iI a1))]) X.1 X.2.1 d_M_take_318 hl (by decide) rfl (fun ls hl => ?_)
                                                              exact J418 _ 0 I396 J396 B392 G396 _ _ _ rfl (by omega) (by omega) (akA_cg rfl rfl rfl f393) (stA_cg rfl rfl rfl rfl f394) f397 g396_P1 (pG2_cg rfl rfl g392_P2) (rpA_cg rfl rfl rfl f395) Y S (lv_sub hl [8, 9, 6, 3, 0] rfl)
                                          · as_aux_lemma =>
                                              refine lv_iload X.1 X.2.1 d_M_take_248 (lv_at hl 0 rfl) ?_
                                              refine lv_iconst (v := iI 2) X.1 X.2.1 d_M_take_250 (by decide) ?_
                                              refine z_icmp_eq (tgt := 258) X.1 X.2.1 d_M_take_251 (by decide) ⟨by omega, by omega⟩ ⟨by decide, by decide⟩ (fun h465 => ?_) (fun h465 => ?_)
                                              · refine lv_iconst (v := iI 0) X.1 X.2.1 d_M_take_258 (by decide) ?_
                                                refine lv_goto (tgt := 282) X.1 X.2.1 d_M_take_259 (by decide) ?_
                                                refine lv_istore (lv' := [(9, .int (iI 0)), (8, .int (iI z398)), (6, .long v396), (5, .int (iI 1)), (4, .int (iI z114)), (3, .int (iI z107)), (2, .int (iI z101)), (0, .ref h), (1, .int (iI a1))]) X.1 X.2.1 d_M_take_282 hl (by decide) rfl (fun ls hl => ?_)
                                                refine lv_iload_n X.1 X.2.1 d_M_take_284 rfl (lv_at hl 5 rfl) ?_
                                                refine lv_iconst (v := iI 2) X.1 X.2.1 d_M_take_285 (by decide) ?_
                                                refine z_icmp_ne (tgt := 309) X.1 X.2.1 d_M_take_286 (by decide) ⟨by omega, by omega⟩ ⟨by decide, by decide⟩ (fun h466 => ?_) (fun h466 => False.elim (by omega))
                                                · refine lv_iload X.1 X.2.1 d_M_take_309 (lv_at hl 0 rfl) ?_
                                                  refine z_if_ne (tgt := 317) X.1 X.2.1 d_M_take_311 (by decide) ⟨by decide, by decide⟩ (fun h467 => False.elim (by omega)) (fun h467 => ?_)
                                                  · refine lv_bipush (v := iI (-14)) X.1 X.2.1 d_M_take_314 (by decide) ?_
                                                    exact m_reti hQQ X Y hr hlk ⟨S, (-14), rfl, ⟨by omega, by omega, g396_P1, (pG2_cg rfl rfl g392_P2), f397, (stA_cg rfl rfl rfl rfl f394)⟩⟩ d_M_take_316
                                              · as_aux_lemma =>
                                                  refine lv_iconst (v := iI 1) X.1 X.2.1 d_M_take_254 (by decide) ?_
                                                  refine lv_goto (tgt := 282) X.1 X.2.1 d_M_take_255 (by decide) ?_
                                                  refine lv_istore (lv' := [(9, .int (iI 1)), (8, .int (iI z398)), (6, .long v396), (5, .int (iI 1)), (4, .int (iI z114)), (3, .int (iI z107)), (2, .int (iI z101)), (0, .ref h), (1, .int (iI a1))]) X.1 X.2.1 d_M_take_282 hl (by decide) rfl (fun ls hl => ?_)
                                                  refine lv_iload_n X.1 X.2.1 d_M_take_284 rfl (lv_at hl 5 rfl) ?_
                                                  refine lv_iconst (v := iI 2) X.1 X.2.1 d_M_take_285 (by decide) ?_
                                                  refine z_icmp_ne (tgt := 309) X.1 X.2.1 d_M_take_286 (by decide) ⟨by omega, by omega⟩ ⟨by decide, by decide⟩ (fun h468 => ?_) (fun h468 => False.elim (by omega))
                                                  · as_aux_lemma =>
                                                      refine lv_iload X.1 X.2.1 d_M_take_309 (lv_at hl 0 rfl) ?_
                                                      refine z_if_ne (tgt := 317) X.1 X.2.1 d_M_take_311 (by decide) ⟨by decide, by decide⟩ (fun h469 => ?_) (fun h469 => False.elim (by omega))
                                                      · as_aux_lemma =>
                                                          refine lv_iconst (v := iI 0) X.1 X.2.1 d_M_take_317 (by decide) ?_
                                                          have J478 : ∀ (n480 : Nat) (z471 : Int) (I470 : Nat → Int32) (J470 : Nat → Int64) (B470 : Nat → Nat → Int32) (G470 : Nat → Nat → Int64) (H : Heap) (locs : List Loc) (ls : Array Slot), (32 - z471).toNat = n480 → (0 ≤ z471) → (z471 ≤ 32) → (akA a1 z107 (B470 118) (B470 119) (B470 120)) → (stA (B470 110) (B470 118) (B470 119) (B470 120)) → (stT (B470 97) (B470 98) (B470 100) (B470 107) (B470 108) (B470 109)) → (pG1 I470) → (pG2 (B470 37) (B470 38)) → (rpA (B470 37) (B470 38) (B470 0)) → mH D E (mA E h q sz) s.heap h q I470 J470 B470 G470 H locs → rS [2, 8, 14, 18, 39, 40, 42] [0, 5, 6, 7, 9, 10, 11, 12, 13, 15, 16, 17, 19, 20, 21, 22, 23, 34, 37, 38, 58, 59, 97, 98, 99, 100, 101, 102, 107, 108, 109, 110] I B I470 B470 → lv_has ls 12 [(0, .ref h), (1, .int (iI a1)), (3, .int (iI z107)), (6, .long v396), (10, .int (iI z471))] → W p l e (mR 46 2068) s m AV below meth c H locs 0 0 QQ (F0 m 320 ls []) := by
                                                            as_aux_lemma =>
                                                              intro n480
                                                              induction n480 using Nat.strongRecOn with
                                                              | ind n480 ih479 =>
                                                                intro z471 I470 J470 B470 G470 H locs ls hm481 l471 u471 f472 f473 f474 f475 f476 f477 Y S hl
                                                                refine lv_iload X.1 X.2.1 d_M_take_320 (lv_at hl 4 rfl) ?_
                                                                refine lv_bipush (v := iI 32) X.1 X.2.1 d_M_take_322 (by decide) ?_
                                                                refine z_icmp_ge (tgt := 382) X.1 X.2.1 d_M_take_324 (by decide) ⟨by omega, by omega⟩ ⟨by decide, by decide⟩ (fun h482 => ?_) (fun h482 => ?_)
                                                                · as_aux_lemma =>
                                                                    refine lv_aload_n X.1 X.2.1 d_M_take_382 rfl (lv_at hl 0 rfl) ?_
                                                                    refine lv_aload_n X.1 X.2.1 d_M_take_383 rfl (lv_at hl 0 rfl) ?_
                                                                    refine lv_bipush (v := iI 6) X.1 X.2.1 d_M_take_384 (by decide) ?_
                                                                    refine lv_iconst (v := iI 2) X.1 X.2.1 d_M_take_386 (by decide) ?_
                                                                    refine r_ni (m_run (As := [.int (iI 6), .int (iI 2)]) (rest := [.ref h]) (n := 2) X Y hZ hA hml hl.1 (r_M_a l D E h q H.size I470 J470 B470 G470 6 (by decide) (by decide) 2 (by decide) (by decide) S.1) kl_M_a ks_M_a kx_M_a ki_M_a ini_M hd_M_a ⟨Nat.le_of_ble_eq_true rfl, Nat.le_of_ble_eq_true rfl⟩ rfl (Nat.le_of_ble_eq_true rfl) d_M_take_387 ⟨Nat.le_refl _, Nat.le_refl _⟩) X Y hA S (by decide) (by decide) (fun z483 u H locs Y S s483 p483 => ?_)
                                                                    obtain ⟨I483, J483, B483, G483⟩ := u
                                                                    dsimp only at Y S s483 p483
                                                                    have i483 : I470 = I483 := (funext (fun j => s483.2.1 j (by simp))).symm
                                                                    subst i483
                                                                    have b483 : B470 = B483 := (funext (fun j => s483.2.2 j (by simp))).symm
                                                                    subst b483
                                                                    obtain ⟨l483, u483, x483⟩ := p483
                                                                    refine lv_aload_n X.1 X.2.1 d_M_take_390 rfl (lv_at hl 0 rfl) ?_
                                                                    refine lv_bipush (v := iI 6) X.1 X.2.1 d_M_take_391 (by decide) ?_
                                                                    refine lv_iconst (v := iI 2) X.1 X.2.1 d_M_take_393 (by decide) ?_
                                                                    refine r_ni (m_run (As := [.int (iI 6), .int (iI 2)]) (rest := [.int (iI z483), .ref h]) (n := 2) X Y hZ hA hml hl.1 (r_M_b l D E h q H.size I470 J483 B470 G483 6 (by decide) (by decide) 2 (by decide) (by decide) S.1) kl_M_b ks_M_b kx_M_b ki_M_b ini_M hd_M_b ⟨Nat.le_of_ble_eq_true rfl, Nat.le_of_ble_eq_true rfl⟩ rfl (Nat.le_of_ble_eq_true rfl) d_M_take_394 ⟨Nat.le_refl _, Nat.le_refl _⟩) X Y hA S (by decide) (by decide) (fun z484 u H locs Y S s484 p484 => ?_)
                                                                    obtain ⟨I484, J484, B484, G484⟩ := u
                                                                    dsimp only at Y S s484 p484
                                                                    have i484 : I470 = I484 := (funext (fun j => s484.2.1 j (by simp))).symm
                                                                    subst i484
                                                                    have b484 : B470 = B484 := (funext (fun j => s484.2.2 j (by simp))).symm
                                                                    subst b484
                                                                    obtain ⟨l484, u484, x484⟩ := p484
                                                                    have p485 : pr z483 z484 := by rw [x483, x484]; exact (pG2_cg rfl rfl (pG2_cg rfl rfl f476)) (16 * 6 + 2 : Int).toNat (by omega)
                                                                    unfold pr at p485
                                                                    refine lv_iconst (v := iI 4) X.1 X.2.1 d_M_take_397 (by decide) ?_
                                                                    refine r_ni (m_run (As := [.int (iI z483), .int (iI z484), .int (iI 4)]) (rest := []) (n := 3) X Y hZ hA hml hl.1 (r_M_element l D E h q H.size I470 J484 B470 G484 z483 (by omega) (by omega) z484 (by omega) (by omega) 4 (by decide) (by decide) S.1 (B470 0) rfl (pG1_cg rfl rfl (pG1_cg rfl rfl f475)) (by omega) (by omega)) kl_M_element ks_M_element kx_M_element ki_M_element ini_M hd_M_element ⟨Nat.le_of_ble_eq_true rfl, Nat.le_of_ble_eq_true rfl⟩ rfl (Nat.le_of_ble_eq_true rfl) d_M_take_398 ⟨Nat.le_refl _, Nat.le_refl _⟩) X Y hA S (by decide) (by decide) (fun z486 u H locs Y S s486 p486 => ?_)
                                                                    obtain ⟨I486, J486, B486, G486⟩ := u
                                                                    dsimp only at Y S s486 p486
                                                                    have b486 : B470 = B486 := (funext (fun j => s486.2.2 j (by simp))).symm
                                                                    subst b486
                                                                    obtain ⟨l486, u486, x486, st486⟩ := p486
                                                                    obtain ⟨x487, y487, ex487, ey487, lx487, ly487, uy487, dy487, iy487, ky487⟩ := st486
                                                                    refine lv_pop X.1 X.2.1 d_M_take_401 rfl ?_
                                                                    refine lv_aload_n X.1 X.2.1 d_M_take_402 rfl (lv_at hl 0 rfl) ?_
                                                                    refine lv_aload_n X.1 X.2.1 d_M_take_403 rfl (lv_at hl 0 rfl) ?_
                                                                    refine m_get X Y 58 (by decide) lk_key (gf_key _ _ _) rfl d_M_take_404 ?_
                                                                    refine lv_lload X.1 X.2.1 d_M_take_407 (lv_at hl 3 rfl) ?_
                                                                    refine z_l2i X.1 X.2.1 d_M_take_409 (fun z488 l488 u488 x488 => ?_)
                                                                    refine lv_iload_n X.1 X.2.1 d_M_take_410 rfl (lv_at hl 2 rfl) ?_
                                                                    refine lv_iconst (v := iI 2) X.1 X.2.1 d_M_take_411 (by decide) ?_
                                                                    refine z_icmp_ge (tgt := 419) X.1 X.2.1 d_M_take_412 (by decide) ⟨by omega, by omega⟩ ⟨by decide, by decide⟩ (fun h489 => False.elim (by omega)) (fun h489 => ?_)
                                                                    · as_aux_lemma =>
                                                                        refine lv_iconst (v := iI 3) X.1 X.2.1 d_M_take_415 (by decide) ?_
                                                                        refine lv_goto (tgt := 421) X.1 X.2.1 d_M_take_416 (by decide) ?_
                                                                        refine lv_aload_n X.1 X.2.1 d_M_take_421 rfl (lv_at hl 0 rfl) ?_
                                                                        refine r_get0 X Y (by decide) lk_inside (gf_inside _ _ _) rfl ex487 d_M_take_422 ?_
                                                                        refine lv_aload_n X.1 X.2.1 d_M_take_425 rfl (lv_at hl 0 rfl) ?_
                                                                        refine r_get0 X Y (by decide) lk_behind (gf_behind _ _ _) rfl ey487 d_M_take_426 ?_
                                                                        refine lv_sipush (v := iI 4200) X.1 X.2.1 d_M_take_429 (by decide) ?_
                                                                        refine r_ni (m_run (As := [.ref ((q 58)), .int (iI z488), .int (iI 3), .int (iI x487), .int (iI y487), .int (iI 4200)]) (rest := []) (n := 6) X Y hZ hA hml hl.1 (r_M_open_key l D E h q H.size I486 J486 B470 G486 z488 (by omega) (by omega) 3 (by decide) (by decide) x487 (by omega) (by omega) y487 (by omega) (by omega) 4200 (by decide) (by decide) S.1 (by omega) (by omega)) kl_M_open ks_M_open kx_M_open ki_M_open ini_M hd_M_open ⟨Nat.le_of_ble_eq_true rfl, Nat.le_of_ble_eq_true rfl⟩ rfl (Nat.le_of_ble_eq_true rfl) d_M_take_432 ⟨Nat.le_refl _, Nat.le_refl _⟩) X Y hA S (by decide) (by decide) (fun z490 u H locs Y S s490 p490 => ?_)
                                                                        obtain ⟨I490, J490, B490, G490⟩ := u
                                                                        dsimp only at Y S s490 p490
                                                                        have f491 : stT (B490 97) (B490 98) (B490 100) (B490 107) (B490 108) (B490 109) := (stT_cg (s490.2.2 97 (by decide)) (s490.2.2 98 (by decide)) (s490.2.2 100 (by decide)) (s490.2.2 107 (by decide)) (s490.2.2 108 (by decide)) (s490.2.2 109 (by decide)) (stT_cg rfl rfl rfl rfl rfl rfl (stT_cg rfl rfl rfl rfl rfl rfl (stT_cg rfl rfl rfl rfl rfl rfl f474))))
                                                                        obtain ⟨l490, u490, x490, g490_MF⟩ := p490
                                                                        have f492 : rpA (B490 37) (B490 38) (B490 0) := (rpA_cg rfl (s490.2.2 37 (by decide)) (s490.2.2 38 (by decide)) (rpA_M g490_MF (by decide) (rpA_cg rfl rfl rfl (rpA_cg rfl rfl rfl (rpA_cg rfl rfl rfl f477)))))
                                                                        refine lv_istore (lv' := [(10, .int (iI z490)), (0, .ref h), (1, .int (iI a1)), (3, .int (iI z107)), (6, .long v396)]) X.1 X.2.1 d_M_take_435 hl (by decide) rfl (fun ls hl => ?_)
                                                                        refine lv_iload X.1 X.2.1 d_M_take_437 (lv_at hl 0 rfl) ?_
                                                                        refine z_if_ge (tgt := 445) X.1 X.2.1 d_M_take_439 (by decide) ⟨by omega, by omega⟩ (fun h493 => ?_) (fun h493 => ?_)
                                                                        · as_aux_lemma =>
                                                                            refine lv_iload_n X.1 X.2.1 d_M_take_445 rfl (lv_at hl 3 rfl) ?_
                                                                            refine lv_iconst (v := iI 2) X.1 X.2.1 d_M_take_446 (by decide) ?_
                                                                            refine z_icmp_ge (tgt := 472) X.1 X.2.1 d_M_take_447 (by decide) ⟨by omega, by omega⟩ ⟨by decide, by decide⟩ (fun h494 => False.elim (by omega)) (fun h494 => ?_)
                                                                            · as_aux_lemma =>
                                                                                refine lv_aload_n X.1 X.2.1 d_M_take_450 rfl (lv_at hl 1 rfl) ?_
                                                                                refine lv_bipush (v := iI 25) X.1 X.2.1 d_M_take_451 (by decide) ?_
                                                                                refine m_ldcSW (i := 19) X (by decide) (by decide) d_M_take_453 ?_
                                                                                refine lv_sipush (v := iI 4200) X.1 X.2.1 d_M_take_456 (by decide) ?_
                                                                                refine lv_sipush (v := iI 4200) X.1 X.2.1 d_M_take_459 (by decide) ?_
                                                                                refine lv_iload X.1 X.2.1 d_M_take_462 (lv_at hl 0 rfl) ?_
                                                                                refine z_iadd X.1 X.2.1 d_M_take_464 ?_
                                                                                refine lv_iconst (v := iI 4) X.1 X.2.1 d_M_take_465 (by decide) ?_
                                                                                refine r_ni (m_run (As := [.int (iI 25), .ref ((D.2.1 19)), .int (iI 4200), .int (iI (4200 + z490)), .int (iI 4)]) (rest := []) (n := 5) X Y hZ hA hml hl.1 (r_M_applied_t l D E h q H.size I490 J490 B490 G490 25 (by decide) (by decide) 19 (show 19 < nZ by decide) 4200 (by decide) (by decide) (4200 + z490) (by omega) (by omega) 4 (by decide) (by decide) S.1 5 (B490 0) rfl (isF (B490 0) 5) (by decide) (hisU (show rki 19 ≤ 5 by decide)) (pG1_cg (s490.2.1 39 (by decide)) (s490.2.1 40 (by decide)) (show pG1 I486 from ⟨x487, y487, ex487, ey487, by omega, by omega, by omega, by omega⟩)) (pG2_cg (s490.2.2 37 (by decide)) (s490.2.2 38 (by decide)) (pG2_cg rfl rfl (pG2_cg rfl rfl (pG2_cg rfl rfl f476)))) (by omega) (by omega)) kl_M_applied ks_M_applied kx_M_applied ki_M_applied ini_M hd_M_applied ⟨Nat.le_of_ble_eq_true rfl, Nat.le_of_ble_eq_true rfl⟩ rfl (Nat.le_of_ble_eq_true rfl) d_M_take_466 ⟨Nat.le_refl _, Nat.le_refl _⟩) X Y hA S (by decide) (by decide) (fun z495 u H locs Y S s495 p495 => ?_)
                                                                                obtain ⟨I495, J495, B495, G495⟩ := u
                                                                                dsimp only at Y S s495 p495
                                                                                have f496 : stA (B495 110) (B495 118) (B495 119) (B495 120) := (stA_cg (s495.2.2 110 (by decide)) (s495.2.2 118 (by decide)) (s495.2.2 119 (by decide)) (s495.2.2 120 (by decide)) (stA_cg (s490.2.2 110 (by decide)) (s490.2.2 118 (by decide)) (s490.2.2 119 (by decide)) (s490.2.2 120 (by decide)) (stA_cg rfl rfl rfl rfl (stA_cg rfl rfl rfl rfl (stA_cg rfl rfl rfl rfl f473)))))
                                                                                obtain ⟨l495, u495, x495, st495, g495_P1, g495_P2⟩ := p495
                                                                                have g495_TF : thF [4] (B490 37) (B490 38) (B495 37) (B495 38) := thF_of st495.1
                                                                                have f497 : rpA (B495 37) (B495 38) (B495 0) := (rpA_cg (s495.2.2 0 (by decide)) rfl rfl (rpA_T g495_TF (by decide) (by decide) f492))
                                                                                refine z_if_ne (tgt := 494) X.1 X.2.1 d_M_take_469 (by decide) ⟨by omega, by omega⟩ (fun h498 => ?_) (fun h498 => ?_)
                                                                                · as_aux_lemma =>
                                                                                    refine lv_iconst (v := iI 1) X.1 X.2.1 d_M_take_494 (by decide) ?_
                                                                                    refine lv_goto (tgt := 499) X.1 X.2.1 d_M_take_495 (by decide) ?_
                                                                                    refine lv_istore (lv' := [(11, .int (iI 1)), (10, .int (iI z490)), (0, .ref h), (1, .int (iI a1)), (3, .int (iI z107)), (6, .long v396)]) X.1 X.2.1 d_M_take_499 hl (by decide) rfl (fun ls hl => ?_)
                                                                                    refine lv_iload X.1 X.2.1 d_M_take_501 (lv_at hl 0 rfl) ?_
                                                                                    refine z_if_ne (tgt := 509) X.1 X.2.1 d_M_take_503 (by decide) ⟨by decide, by decide⟩ (fun h499 => ?_) (fun h499 => False.elim (by omega))
                                                                                    · as_aux_lemma =>
                                                                                        refine lv_aload_n X.1 X.2.1 d_M_take_509 rfl (lv_at hl 2 rfl) ?_
                                                                                        refine lv_iconst (v := iI 4) X.1 X.2.1 d_M_take_510 (by decide) ?_
                                                                                        refine lv_iconst (v := iI 2) X.1 X.2.1 d_M_take_511 (by decide) ?_
                                                                                        refine r_nl (m_run (As := [.int (iI 4), .int (iI 2)]) (rest := []) (n := 2) X Y hZ hA hml hl.1 (r_M_numberAt l D E h q H.size I495 J495 B495 G495 4 (by decide) (by decide) 2 (by decide) (by decide) S.1 g495_P1 g495_P2) kl_M_numberAt ks_M_numberAt kx_M_numberAt ki_M_numberAt ini_M hd_M_numberAt ⟨Nat.le_of_ble_eq_true rfl, Nat.le_of_ble_eq_true rfl⟩ rfl (Nat.le_of_ble_eq_true rfl) d_M_take_512 ⟨Nat.le_refl _, Nat.le_refl _⟩) X Y hA S (by decide) (by decide) (fun v500 u H locs Y S s500 p500 => ?_)
                                                                                        obtain ⟨I500, J500, B500, G500⟩ := u
                                                                                        dsimp only at Y S s500 p500
                                                                                        have b500 : B495 = B500 := (funext (fun j => s500.2.2 j (by simp))).symm
                                                                                        subst b500
                                                                                        have f501 : akA a1 z107 (B495 118) (B495 119) (B495 120) := (akA_cg rfl rfl rfl (akA_cg (s495.2.2 118 (by decide)) (s495.2.2 119 (by decide)) (s495.2.2 120 (by decide)) (akA_cg (s490.2.2 118 (by decide)) (s490.2.2 119 (by decide)) (s490.2.2 120 (by decide)) (akA_cg rfl rfl rfl (akA_cg rfl rfl rfl (akA_cg rfl rfl rfl f472))))))
                                                                                        have g500_P1 := p500
                                                                                        refine lv_aload_n X.1 X.2.1 d_M_take_515 rfl (lv_at hl 2 rfl) ?_
                                                                                        refine m_get X Y 114 (by decide) lk_askedNonce (gf_askedNonce _ _ _) rfl d_M_take_516 ?_
                                                                                        refine lv_iload_n X.1 X.2.1 d_M_take_519 rfl (lv_at hl 3 rfl) ?_
                                                                                        refine r_lald X Y (aw_askedNonce _ _ _ _ _ _ _) (by omega) (show a1 < ((4 : Nat) : Int) by omega) (by omega) d_M_take_520 (fun v502 => ?_)
                                                                                        refine z_lcmp X.1 X.2.1 d_M_take_521 (fun z503 l503 u503 x503 y503 => ?_)
                                                                                        refine z_if_eq (tgt := 528) X.1 X.2.1 d_M_take_522 (by decide) ⟨by omega, by omega⟩ (fun h504 => ?_) (fun h504 => ?_)
                                                                                        · refine lv_aload_n X.1 X.2.1 d_M_take_528 rfl (lv_at hl 2 rfl) ?_
                                                                                          refine lv_iload_n X.1 X.2.1 d_M_take_529 rfl (lv_at hl 3 rfl) ?_
                                                                                          refine lv_iload_n X.1 X.2.1 d_M_take_530 rfl (lv_at hl 4 rfl) ?_
                                                                                          refine r_ni (m_run (As := [.int (iI a1), .int (iI z107)]) (rest := []) (n := 2) X Y hZ hA hml hl.1 (r_M_taken l D E h q H.size I500 J500 B495 G500 a1 (by omega) (by omega) z107 (by omega) (by omega) S.1 g500_P1 (pG2_cg rfl rfl g495_P2) (stT_cg rfl rfl rfl rfl rfl rfl (stT_cg (s495.2.2 97 (by decide)) (s495.2.2 98 (by decide)) (s495.2.2 100 (by decide)) (s495.2.2 107 (by decide)) (s495.2.2 108 (by decide)) (s495.2.2 109 (by decide)) f491)) (stA_cg rfl rfl rfl rfl f496) (rpA_cg rfl rfl rfl f497) f501) kl_M_taken ks_M_taken kx_M_taken ki_M_taken ini_M hd_M_taken ⟨Nat.le_of_ble_eq_true rfl, Nat.le_of_ble_eq_true rfl⟩ rfl (Nat.le_of_ble_eq_true rfl) d_M_take_531 ⟨Nat.le_refl _, Nat.le_refl _⟩) X Y hA S (by decide) (by decide) (fun z505 u H locs Y S s505 p505 => ?_)
                                                                                          obtain ⟨I505, J505, B505, G505⟩ := u
                                                                                          dsimp only at Y S s505 p505
                                                                                          obtain ⟨l505, u505, g505_P1, g505_P2, g505_FT, g505_FA⟩ := p505
                                                                                          exact m_reti hQQ X Y hr hlk ⟨S, z505, rfl, ⟨by omega, by omega, g505_P1, g505_P2, g505_FT, g505_FA⟩⟩ d_M_take_534
                                                                                        · refine lv_bipush (v := iI (-41)) X.1 X.2.1 d_M_take_525 (by decide) ?_
                                                                                          exact m_reti hQQ X Y hr hlk ⟨S, (-41), rfl, ⟨by omega, by omega, g500_P1, (pG2_cg rfl rfl g495_P2), (stT_cg rfl rfl rfl rfl rfl rfl (stT_cg (s495.2.2 97 (by decide)) (s495.2.2 98 (by decide)) (s495.2.2 100 (by decide)) (s495.2.2 107 (by decide)) (s495.2.2 108 (by decide)) (s495.2.2 109 (by decide)) f491)), (stA_cg rfl rfl rfl rfl f496)⟩⟩ d_M_take_527
                                                                                · as_aux_lemma =>
                                                                                    refine lv_aload_n X.1 X.2.1 d_M_take_472 rfl (lv_at hl 1 rfl) ?_
                                                                                    refine lv_bipush (v := iI 26) X.1 X.2.1 d_M_take_473 (by decide) ?_
                                                                                    refine m_ldcSW (i := 19) X (by decide) (by decide) d_M_take_475 ?_
                                                                                    refine lv_sipush (v := iI 4200) X.1 X.2.1 d_M_take_478 (by decide) ?_
                                                                                    refine lv_sipush (v := iI 4200) X.1 X.2.1 d_M_take_481 (by decide) ?_
                                                                                    refine lv_iload X.1 X.2.1 d_M_take_484 (lv_at hl 0 rfl) ?_
                                                                                    refine z_iadd X.1 X.2.1 d_M_take_486 ?_
                                                                                    refine lv_iconst (v := iI 4) X.1 X.2.1 d_M_take_487 (by decide) ?_
                                                                                    refine r_ni (m_run (As := [.int (iI 26), .ref ((D.2.1 19)), .int (iI 4200), .int (iI (4200 + z490)), .int (iI 4)]) (rest := []) (n := 5) X Y hZ hA hml hl.1 (r_M_applied_t l D E h q H.size I495 J495 B495 G495 26 (by decide) (by decide) 19 (show 19 < nZ by decide) 4200 (by decide) (by decide) (4200 + z490) (by omega) (by omega) 4 (by decide) (by decide) S.1 5 (B495 0) rfl (isF (B495 0) 5) (by decide) (hisU (show rki 19 ≤ 5 by decide)) g495_P1 g495_P2 (by omega) (by omega)) kl_M_applied ks_M_applied kx_M_applied ki_M_applied ini_M hd_M_applied ⟨Nat.le_of_ble_eq_true rfl, Nat.le_of_ble_eq_true rfl⟩ rfl (Nat.le_of_ble_eq_true rfl) d_M_take_488 ⟨Nat.le_refl _, Nat.le_refl _⟩) X Y hA S (by decide) (by decide) (fun z506 u H locs Y S s506 p506 => ?_)
                                                                                    obtain ⟨I506, J506, B506, G506⟩ := u
                                                                                    dsimp only at Y S s506 p506
                                                                                    have f507 : stT (B506 97) (B506 98) (B506 100) (B506 107) (B506 108) (B506 109) := (stT_cg (s506.2.2 97 (by decide)) (s506.2.2 98 (by decide)) (s506.2.2 100 (by decide)) (s506.2.2 107 (by decide)) (s506.2.2 108 (by decide)) (s506.2.2 109 (by decide)) (stT_cg (s495.2.2 97 (by decide)) (s495.2.2 98 (by decide)) (s495.2.2 100 (by decide)) (s495.2.2 107 (by decide)) (s495.2.2 108 (by decide)) (s495.2.2 109 (by decide)) f491))
                                                                                    have f508 : akA a1 z107 (B506 118) (B506 119) (B506 120) := (akA_cg (s506.2.2 118 (by decide)) (s506.2.2 119 (by decide)) (s506.2.2 120 (by decide)) (akA_cg (s495.2.2 118 (by decide)) (s495.2.2 119 (by decide)) (s495.2.2 120 (by decide)) (akA_cg (s490.2.2 118 (by decide)) (s490.2.2 119 (by decide)) (s490.2.2 120 (by decide)) (akA_cg rfl rfl rfl (akA_cg rfl rfl rfl (akA_cg rfl rfl rfl f472))))))
                                                                                    obtain ⟨l506, u506, x506, st506, g506_P1, g506_P2⟩ := p506
                                                                                    have g506_TF : thF [4] (B495 37) (B495 38) (B506 37) (B506 38) := thF_of st506.1
                                                                                    have f509 : rpA (B506 37) (B506 38) (B506 0) := (rpA_cg (s506.2.2 0 (by decide)) rfl rfl (rpA_T g506_TF (by decide) (by decide) f497))
                                                                                    refine z_if_eq (tgt := 498) X.1 X.2.1 d_M_take_491 (by decide) ⟨by omega, by omega⟩ (fun h510 => ?_) (fun h510 => ?_)
                                                                                    · refine lv_iconst (v := iI 0) X.1 X.2.1 d_M_take_498 (by decide) ?_
                                                                                      refine lv_istore (lv' := [(11, .int (iI 0)), (10, .int (iI z490)), (0, .ref h), (1, .int (iI a1)), (3, .int (iI z107)), (6, .long v396)]) X.1 X.2.1 d_M_take_499 hl (by decide) rfl (fun ls hl => ?_)
                                                                                      refine lv_iload X.1 X.2.1 d_M_take_501 (lv_at hl 0 rfl) ?_
                                                                                      refine z_if_ne (tgt := 509) X.1 X.2.1 d_M_take_503 (by decide) ⟨by decide, by decide⟩ (fun h511 => False.elim (by omega)) (fun h511 => ?_)
                                                                                      · refine lv_bipush (v := iI (-60)) X.1 X.2.1 d_M_take_506 (by decide) ?_
                                                                                        exact m_reti hQQ X Y hr hlk ⟨S, (-60), rfl, ⟨by omega, by omega, g506_P1, g506_P2, f507, (stA_cg (s506.2.2 110 (by decide)) (s506.2.2 118 (by decide)) (s506.2.2 119 (by decide)) (s506.2.2 120 (by decide)) f496)⟩⟩ d_M_take_508
                                                                                    · as_aux_lemma =>
                                                                                        refine lv_iconst (v := iI 1) X.1 X.2.1 d_M_take_494 (by decide) ?_
                                                                                        refine lv_goto (tgt := 499) X.1 X.2.1 d_M_take_495 (by decide) ?_
                                                                                        refine lv_istore (lv' := [(11, .int (iI 1)), (10, .int (iI z490)), (0, .ref h), (1, .int (iI a1)), (3, .int (iI z107)), (6, .long v396)]) X.1 X.2.1 d_M_take_499 hl (by decide) rfl (fun ls hl => ?_)
                                                                                        refine lv_iload X.1 X.2.1 d_M_take_501 (lv_at hl 0 rfl) ?_
                                                                                        refine z_if_ne (tgt := 509) X.1 X.2.1 d_M_take_503 (by decide) ⟨by decide, by decide⟩ (fun h512 => ?_) (fun h512 => False.elim (by omega))
                                                                                        · as_aux_lemma =>
                                                                                            refine lv_aload_n X.1 X.2.1 d_M_take_509 rfl (lv_at hl 2 rfl) ?_
                                                                                            refine lv_iconst (v := iI 4) X.1 X.2.1 d_M_take_510 (by decide) ?_
                                                                                            refine lv_iconst (v := iI 2) X.1 X.2.1 d_M_take_511 (by decide) ?_
                                                                                            refine r_nl (m_run (As := [.int (iI 4), .int (iI 2)]) (rest := []) (n := 2) X Y hZ hA hml hl.1 (r_M_numberAt l D E h q H.size I506 J506 B506 G506 4 (by decide) (by decide) 2 (by decide) (by decide) S.1 g506_P1 g506_P2) kl_M_numberAt ks_M_numberAt kx_M_numberAt ki_M_numberAt ini_M hd_M_numberAt ⟨Nat.le_of_ble_eq_true rfl, Nat.le_of_ble_eq_true rfl⟩ rfl (Nat.le_of_ble_eq_true rfl) d_M_take_512 ⟨Nat.le_refl _, Nat.le_refl _⟩) X Y hA S (by decide) (by decide) (fun v513 u H locs Y S s513 p513 => ?_)
                                                                                            obtain ⟨I513, J513, B513, G513⟩ := u
                                                                                            dsimp only at Y S s513 p513
                                                                                            have b513 : B506 = B513 := (funext (fun j => s513.2.2 j (by simp))).symm
                                                                                            subst b513
                                                                                            have g513_P1 := p513
                                                                                            refine lv_aload_n X.1 X.2.1 d_M_take_515 rfl (lv_at hl 2 rfl) ?_
                                                                                            refine m_get X Y 114 (by decide) lk_askedNonce (gf_askedNonce _ _ _) rfl d_M_take_516 ?_
                                                                                            refine lv_iload_n X.1 X.2.1 d_M_take_519 rfl (lv_at hl 3 rfl) ?_
                                                                                            refine r_lald X Y (aw_askedNonce _ _ _ _ _ _ _) (by omega) (show a1 < ((4 : Nat) : Int) by omega) (by omega) d_M_take_520 (fun v514 => ?_)
                                                                                            refine z_lcmp X.1 X.2.1 d_M_take_521 (fun z515 l515 u515 x515 y515 => ?_)
                                                                                            refine z_if_eq (tgt := 528) X.1 X.2.1 d_M_take_522 (by decide) ⟨by omega, by omega⟩ (fun h516 => ?_) (fun h516 => ?_)
                                                                                            · refine lv_aload_n X.1 X.2.1 d_M_take_528 rfl (lv_at hl 2 rfl) ?_
                                                                                              refine lv_iload_n X.1 X.2.1 d_M_take_529 rfl (lv_at hl 3 rfl) ?_
                                                                                              refine lv_iload_n X.1 X.2.1 d_M_take_530 rfl (lv_at hl 4 rfl) ?_
                                                                                              refine r_ni (m_run (As := [.int (iI a1), .int (iI z107)]) (rest := []) (n := 2) X Y hZ hA hml hl.1 (r_M_taken l D E h q H.size I513 J513 B506 G513 a1 (by omega) (by omega) z107 (by omega) (by omega) S.1 g513_P1 (pG2_cg rfl rfl g506_P2) (stT_cg rfl rfl rfl rfl rfl rfl f507) (stA_cg rfl rfl rfl rfl (stA_cg (s506.2.2 110 (by decide)) (s506.2.2 118 (by decide)) (s506.2.2 119 (by decide)) (s506.2.2 120 (by decide)) f496)) (rpA_cg rfl rfl rfl f509) (akA_cg rfl rfl rfl f508)) kl_M_taken ks_M_taken kx_M_taken ki_M_taken ini_M hd_M_taken ⟨Nat.le_of_ble_eq_true rfl, Nat.le_of_ble_eq_true rfl⟩ rfl (Nat.le_of_ble_eq_true rfl) d_M_take_531 ⟨Nat.le_refl _, Nat.le_refl _⟩) X Y hA S (by decide) (by decide) (fun z517 u H locs Y S s517 p517 => ?_)
                                                                                              obtain ⟨I517, J517, B517, G517⟩ := u
                                                                                              dsimp only at Y S s517 p517
                                                                                              have f518 : stA (B517 110) (B517 118) (B517 119) (B517 120) := (stA_cg (s517.2.2 110 (by decide)) (s517.2.2 118 (by decide)) (s517.2.2 119 (by decide)) (s517.2.2 120 (by decide)) (stA_cg rfl rfl rfl rfl (stA_cg (s506.2.2 110 (by decide)) (s506.2.2 118 (by decide)) (s506.2.2 119 (by decide)) (s506.2.2 120 (by decide)) f496)))
                                                                                              obtain ⟨l517, u517, g517_P1, g517_P2, g517_FT, g517_FA⟩ := p517
                                                                                              exact m_reti hQQ X Y hr hlk ⟨S, z517, rfl, ⟨by omega, by omega, g517_P1, g517_P2, g517_FT, g517_FA⟩⟩ d_M_take_534
                                                                                            · refine lv_bipush (v := iI (-41)) X.1 X.2.1 d_M_take_525 (by decide) ?_
                                                                                              exact m_reti hQQ X Y hr hlk ⟨S, (-41), rfl, ⟨by omega, by omega, g513_P1, (pG2_cg rfl rfl g506_P2), (stT_cg rfl rfl rfl rfl rfl rfl f507), (stA_cg rfl rfl rfl rfl (stA_cg (s506.2.2 110 (by decide)) (s506.2.2 118 (by decide)) (s506.2.2 119 (by decide)) (s506.2.2 120 (by decide)) f496))⟩⟩ d_M_take_527
                                                                        · refine lv_bipush (v := iI (-31)) X.1 X.2.1 d_M_take_442 (by decide) ?_
                                                                          exact m_reti hQQ X Y hr hlk ⟨S, (-31), rfl, ⟨by omega, by omega, (pG1_cg (s490.2.1 39 (by decide)) (s490.2.1 40 (by decide)) (show pG1 I486 from ⟨x487, y487, ex487, ey487, by omega, by omega, by omega, by omega⟩)), (pG2_cg (s490.2.2 37 (by decide)) (s490.2.2 38 (by decide)) (pG2_cg rfl rfl (pG2_cg rfl rfl (pG2_cg rfl rfl f476)))), f491, (stA_cg (s490.2.2 110 (by decide)) (s490.2.2 118 (by decide)) (s490.2.2 119 (by decide)) (s490.2.2 120 (by decide)) (stA_cg rfl rfl rfl rfl (stA_cg rfl rfl rfl rfl (stA_cg rfl rfl rfl rfl f473))))⟩⟩ d_M_take_444
                                                                · as_aux_lemma =>
                                                                    refine lv_aload_n X.1 X.2.1 d_M_take_327 rfl (lv_at hl 0 rfl) ?_
                                                                    refine m_get X Y 58 (by decide) lk_key (gf_key _ _ _) rfl d_M_take_328 ?_
                                                                    refine lv_iload X.1 X.2.1 d_M_take_331 (lv_at hl 4 rfl) ?_
                                                                    refine lv_iload_n X.1 X.2.1 d_M_take_333 rfl (lv_at hl 2 rfl) ?_
                                                                    refine lv_iconst (v := iI 2) X.1 X.2.1 d_M_take_334 (by decide) ?_
                                                                    refine z_icmp_ge (tgt := 363) X.1 X.2.1 d_M_take_335 (by decide) ⟨by omega, by omega⟩ ⟨by decide, by decide⟩ (fun h519 => False.elim (by omega)) (fun h519 => ?_)
                                                                    · refine lv_aload_n X.1 X.2.1 d_M_take_338 rfl (lv_at hl 0 rfl) ?_
                                                                      refine m_get X Y 96 (by decide) lk_agentKeys (gf_agentKeys _ _ _) rfl d_M_take_339 ?_
                                                                      refine lv_bipush (v := iI 64) X.1 X.2.1 d_M_take_342 (by decide) ?_
                                                                      refine lv_iload_n X.1 X.2.1 d_M_take_344 rfl (lv_at hl 1 rfl) ?_
                                                                      refine z_imul X.1 X.2.1 d_M_take_345 ?_
                                                                      refine lv_bipush (v := iI 32) X.1 X.2.1 d_M_take_346 (by decide) ?_
                                                                      refine lv_lload X.1 X.2.1 d_M_take_348 (lv_at hl 3 rfl) ?_
                                                                      refine z_l2i X.1 X.2.1 d_M_take_350 (fun z520 l520 u520 x520 => ?_)
                                                                      have lz521 : 17 ≤ z520 ∧ z520 ≤ 18 := by omega
                                                                      have lz522 : 17 ≤ z520 ∧ z520 ≤ 18 := by omega
                                                                      refine lv_bipush (v := iI 17) X.1 X.2.1 d_M_take_351 (by decide) ?_
                                                                      refine z_isub X.1 X.2.1 d_M_take_353 ?_
                                                                      refine z_imul X.1 X.2.1 d_M_take_354 ?_
                                                                      refine z_iadd X.1 X.2.1 d_M_take_355 ?_
                                                                      refine lv_iload X.1 X.2.1 d_M_take_356 (lv_at hl 4 rfl) ?_
                                                                      refine z_iadd X.1 X.2.1 d_M_take_358 ?_
                                                                      refine r_bald X Y S (aw_agentKeys _ _ _ _ _ _ _) rfl (by omega) (show ((64 * a1) + (32 * (z520 - 17))) + z471 < ((256 : Nat) : Int) by omega) (by omega) d_M_take_359 (fun z523 q523 l523 u523 => ?_)
                                                                      refine lv_goto (tgt := 375) X.1 X.2.1 d_M_take_360 (by decide) ?_
                                                                      refine r_bast X Y S (aw_key _ _ _ _ _ _ _) (sw_key _ _ _ _ _ _ _) rfl (by omega) (show z471 < ((32 : Nat) : Int) by omega) (by omega) (by decide) d_M_take_375 (fun B524 H locs Y S w524 => ?_)
                                                                      refine lv_iinc (v := iI (z471 + 1)) (lv' := [(10, .int (iI (z471 + 1))), (0, .ref h), (1, .int (iI a1)), (3, .int (iI z107)), (6, .long v396)]) X.1 X.2.1 d_M_take_376 hl (k := 4) rfl ((iI_add _ _).trans (congrArg iI (by omega))) (by decide) rfl (fun ls hl => ?_)
                                                                      refine lv_goto (tgt := 320) X.1 X.2.1 d_M_take_379 (by decide) ?_
                                                                      exact ih479 ((32 - (z471 + 1)).toNat) (by omega) (z471 + 1) I470 J470 B524 G470 _ _ _ rfl (by omega) (by omega) (akA_cg (w524.2 118 (by decide)) (w524.2 119 (by decide)) (w524.2 120 (by decide)) f472) (stA_cg (w524.2 110 (by decide)) (w524.2 118 (by decide)) (w524.2 119 (by decide)) (w524.2 120 (by decide)) f473) (stT_cg (w524.2 97 (by decide)) (w524.2 98 (by decide)) (w524.2 100 (by decide)) (w524.2 107 (by decide)) (w524.2 108 (by decide)) (w524.2 109 (by decide)) f474) (pG1_cg rfl rfl f475) (pG2_cg (w524.2 37 (by decide)) (w524.2 38 (by decide)) f476) (rpA_cg (w524.2 0 (by decide)) (w524.2 37 (by decide)) (w524.2 38 (by decide)) f477) Y S (lv_sub hl [1, 2, 3, 4, 0] rfl)
                                                          refine lv_istore (lv' := [(10, .int (iI 0)), (9, .int (iI 1)), (8, .int (iI z398)), (6, .long v396), (5, .int (iI 1)), (4, .int (iI z114)), (3, .int (iI z107)), (2, .int (iI z101)), (0, .ref h), (1, .int (iI a1))]) X.1 X.2.1 d_M_take_318 hl (by decide) rfl (fun ls hl => ?_)
                                                          exact J478 _ 0 I396 J396 B392 G396 _ _ _ rfl (by omega) (by omega) (akA_cg rfl rfl rfl f393) (stA_cg rfl rfl rfl rfl f394) f397 g396_P1 (pG2_cg rfl rfl g392_P2) (rpA_cg rfl rfl rfl f395) Y S (lv_sub hl [8, 9, 6, 3, 0] rfl)
                              · refine lv_bipush (v := iI (-60)) X.1 X.2.1 d_M_take_177 (by decide) ?_
                                exact m_reti hQQ X Y hr hlk ⟨S, (-60), rfl, ⟨by omega, by omega, g381_P1, g381_P2, f382, (stA_cg (s381.2.2 110 (by decide)) (s381.2.2 118 (by decide)) (s381.2.2 119 (by decide)) (s381.2.2 120 (by decide)) f111)⟩⟩ d_M_take_179
              · as_aux_lemma =>
                  refine lv_aload_n X.1 X.2.1 d_M_take_73 rfl (lv_at hl 3 rfl) ?_
                  refine lv_bipush (v := iI 30) X.1 X.2.1 d_M_take_74 (by decide) ?_
                  refine m_ldcSW (i := 17) X (by decide) (by decide) d_M_take_76 ?_
                  refine lv_iconst (v := iI 0) X.1 X.2.1 d_M_take_79 (by decide) ?_
                  refine lv_iload_n X.1 X.2.1 d_M_take_80 rfl (lv_at hl 2 rfl) ?_
                  refine lv_iconst (v := iI 0) X.1 X.2.1 d_M_take_81 (by decide) ?_
                  refine r_ni (m_run (As := [.int (iI 30), .ref ((D.2.1 17)), .int (iI 0), .int (iI z101), .int (iI 0)]) (rest := []) (n := 5) X Y hZ hA hml hl.1 (r_M_applied_t l D E h q H.size I102 J103 B110 G103 30 (by decide) (by decide) 17 (show 17 < nZ by decide) 0 (by decide) (by decide) z101 (by omega) (by omega) 0 (by decide) (by decide) S.1 5 (B110 0) rfl (isF (B110 0) 5) (by decide) (hisU (show rki 17 ≤ 5 by decide)) (pG1_cg rfl rfl (pG1_cg rfl rfl (pG1_cg (w102.2 39 (by decide)) (w102.2 40 (by decide)) f_P1))) (pG2_cg (w110.2 37 (by decide)) (w110.2 38 (by decide)) (pG2_cg rfl rfl (pG2_cg rfl rfl f_P2))) (by omega) (by omega)) kl_M_applied ks_M_applied kx_M_applied ki_M_applied ini_M hd_M_applied ⟨Nat.le_of_ble_eq_true rfl, Nat.le_of_ble_eq_true rfl⟩ rfl (Nat.le_of_ble_eq_true rfl) d_M_take_82 ⟨Nat.le_refl _, Nat.le_refl _⟩) X Y hA S (by decide) (by decide) (fun z525 u H locs Y S s525 p525 => ?_)
                  obtain ⟨I525, J525, B525, G525⟩ := u
                  dsimp only at Y S s525 p525
                  have f526 : stT (B525 97) (B525 98) (B525 100) (B525 107) (B525 108) (B525 109) := (stT_cg (s525.2.2 97 (by decide)) (s525.2.2 98 (by decide)) (s525.2.2 100 (by decide)) (s525.2.2 107 (by decide)) (s525.2.2 108 (by decide)) (s525.2.2 109 (by decide)) (stT_cg (w110.2 97 (by decide)) (w110.2 98 (by decide)) (w110.2 100 (by decide)) (w110.2 107 (by decide)) (w110.2 108 (by decide)) (w110.2 109 (by decide)) (stT_cg rfl rfl rfl rfl rfl rfl (stT_cg rfl rfl rfl rfl rfl rfl f_FT))))
                  obtain ⟨l525, u525, x525, st525, g525_P1, g525_P2⟩ := p525
                  have g525_TF : thF [0] (B110 37) (B110 38) (B525 37) (B525 38) := thF_of st525.1
                  refine z_if_ne (tgt := 91) X.1 X.2.1 d_M_take_85 (by decide) ⟨by omega, by omega⟩ (fun h527 => ?_) (fun h527 => ?_)
                  · as_aux_lemma =>
                      refine lv_aload_n X.1 X.2.1 d_M_take_91 rfl (lv_at hl 3 rfl) ?_
                      refine lv_iconst (v := iI 0) X.1 X.2.1 d_M_take_92 (by decide) ?_
                      refine lv_bipush (v := iI 6) X.1 X.2.1 d_M_take_93 (by decide) ?_
                      refine r_nl (m_run (As := [.int (iI 0), .int (iI 6)]) (rest := []) (n := 2) X Y hZ hA hml hl.1 (r_M_numberAt l D E h q H.size I525 J525 B525 G525 0 (by decide) (by decide) 6 (by decide) (by decide) S.1 g525_P1 g525_P2) kl_M_numberAt ks_M_numberAt kx_M_numberAt ki_M_numberAt ini_M hd_M_numberAt ⟨Nat.le_of_ble_eq_true rfl, Nat.le_of_ble_eq_true rfl⟩ rfl (Nat.le_of_ble_eq_true rfl) d_M_take_95 ⟨Nat.le_refl _, Nat.le_refl _⟩) X Y hA S (by decide) (by decide) (fun v528 u H locs Y S s528 p528 => ?_)
                      obtain ⟨I528, J528, B528, G528⟩ := u
                      dsimp only at Y S s528 p528
                      have b528 : B525 = B528 := (funext (fun j => s528.2.2 j (by simp))).symm
                      subst b528
                      have g528_P1 := p528
                      refine lv_lstore (lv' := [(5, .long v528), (4, .int (iI z114)), (3, .int (iI z107)), (2, .int (iI z101)), (0, .ref h), (1, .int (iI a1))]) X.1 X.2.1 d_M_take_98 hl (by decide) rfl (fun ls hl => ?_)
                      refine lv_lload X.1 X.2.1 d_M_take_100 (lv_at hl 0 rfl) ?_
                      refine lv_lconst (v := 1) X.1 X.2.1 d_M_take_102 rfl ?_
                      refine z_lcmp X.1 X.2.1 d_M_take_103 (fun z529 l529 u529 x529 y529 => ?_)
                      have c529 : (1 : Int64).toInt = 1 := by decide
                      refine z_if_lt (tgt := 116) X.1 X.2.1 d_M_take_104 (by decide) ⟨by omega, by omega⟩ (fun h530 => ?_) (fun h530 => ?_)
                      · refine lv_bipush (v := iI (-60)) X.1 X.2.1 d_M_take_116 (by decide) ?_
                        refine lv_goto (tgt := 125) X.1 X.2.1 d_M_take_118 (by decide) ?_
                        exact m_reti hQQ X Y hr hlk ⟨S, (-60), rfl, ⟨by omega, by omega, g528_P1, (pG2_cg rfl rfl g525_P2), (stT_cg rfl rfl rfl rfl rfl rfl f526), (stA_cg rfl rfl rfl rfl (stA_cg (s525.2.2 110 (by decide)) (s525.2.2 118 (by decide)) (s525.2.2 119 (by decide)) (s525.2.2 120 (by decide)) f111))⟩⟩ d_M_take_125
                      · refine lv_lload X.1 X.2.1 d_M_take_107 (lv_at hl 0 rfl) ?_
                        refine lv_ldc2 (v := (1000)) X.1 X.2.1 X.2.2.2.1 (X.2.2.1 _ cl_M_958) d_M_take_109 ?_
                        refine z_lcmp X.1 X.2.1 d_M_take_112 (fun z531 l531 u531 x531 y531 => ?_)
                        have c531 : ((1000) : Int64).toInt = (1000) := by decide
                        refine z_if_le (tgt := 121) X.1 X.2.1 d_M_take_113 (by decide) ⟨by omega, by omega⟩ (fun h532 => ?_) (fun h532 => ?_)
                        · refine lv_lload X.1 X.2.1 d_M_take_121 (lv_at hl 0 rfl) ?_
                          refine lv_lneg X.1 X.2.1 d_M_take_123 ?_
                          refine t_anyl (fun v533 => ?_)
                          refine z_l2i X.1 X.2.1 d_M_take_124 (fun z534 l534 u534 x534 => ?_)
                          exact m_reti hQQ X Y hr hlk ⟨S, z534, rfl, ⟨by omega, by omega, g528_P1, (pG2_cg rfl rfl g525_P2), (stT_cg rfl rfl rfl rfl rfl rfl f526), (stA_cg rfl rfl rfl rfl (stA_cg (s525.2.2 110 (by decide)) (s525.2.2 118 (by decide)) (s525.2.2 119 (by decide)) (s525.2.2 120 (by decide)) f111))⟩⟩ d_M_take_125
                        · refine lv_bipush (v := iI (-60)) X.1 X.2.1 d_M_take_116 (by decide) ?_
                          refine lv_goto (tgt := 125) X.1 X.2.1 d_M_take_118 (by decide) ?_
                          exact m_reti hQQ X Y hr hlk ⟨S, (-60), rfl, ⟨by omega, by omega, g528_P1, (pG2_cg rfl rfl g525_P2), (stT_cg rfl rfl rfl rfl rfl rfl f526), (stA_cg rfl rfl rfl rfl (stA_cg (s525.2.2 110 (by decide)) (s525.2.2 118 (by decide)) (s525.2.2 119 (by decide)) (s525.2.2 120 (by decide)) f111))⟩⟩ d_M_take_125
                  · refine lv_bipush (v := iI (-60)) X.1 X.2.1 d_M_take_88 (by decide) ?_
                    exact m_reti hQQ X Y hr hlk ⟨S, (-60), rfl, ⟨by omega, by omega, g525_P1, g525_P2, f526, (stA_cg (s525.2.2 110 (by decide)) (s525.2.2 118 (by decide)) (s525.2.2 119 (by decide)) (s525.2.2 120 (by decide)) f111)⟩⟩ d_M_take_90
          · refine lv_iconst (v := iI 0) X.1 X.2.1 d_M_take_50 (by decide) ?_
            refine lv_goto (tgt := 64) X.1 X.2.1 d_M_take_51 (by decide) ?_
            refine lv_istore (lv' := [(4, .int (iI 0)), (3, .int (iI z107)), (2, .int (iI z101)), (0, .ref h), (1, .int (iI a1))]) X.1 X.2.1 d_M_take_64 hl (by decide) rfl (fun ls hl => ?_)
            refine lv_iload X.1 X.2.1 d_M_take_66 (lv_at hl 0 rfl) ?_
            refine lv_bipush (v := iI 126) X.1 X.2.1 d_M_take_68 (by decide) ?_
            refine z_icmp_ne (tgt := 126) X.1 X.2.1 d_M_take_70 (by decide) ⟨by decide, by decide⟩ ⟨by decide, by decide⟩ (fun h535 => ?_) (fun h535 => False.elim (by omega))
            · refine lv_iload X.1 X.2.1 d_M_take_126 (lv_at hl 0 rfl) ?_
              refine lv_bipush (v := iI 107) X.1 X.2.1 d_M_take_128 (by decide) ?_
              refine z_icmp_ne (tgt := 137) X.1 X.2.1 d_M_take_130 (by decide) ⟨by decide, by decide⟩ ⟨by decide, by decide⟩ (fun h536 => ?_) (fun h536 => False.elim (by omega))
              · refine lv_iconst (v := iI 0) X.1 X.2.1 d_M_take_137 (by decide) ?_
                refine lv_istore (lv' := [(5, .int (iI 0)), (4, .int (iI 0)), (3, .int (iI z107)), (2, .int (iI z101)), (0, .ref h), (1, .int (iI a1))]) X.1 X.2.1 d_M_take_138 hl (by decide) rfl (fun ls hl => ?_)
                refine lv_iload X.1 X.2.1 d_M_take_140 (lv_at hl 0 rfl) ?_
                refine z_if_ne (tgt := 152) X.1 X.2.1 d_M_take_142 (by decide) ⟨by decide, by decide⟩ (fun h537 => False.elim (by omega)) (fun h537 => ?_)
                · refine lv_iload X.1 X.2.1 d_M_take_145 (lv_at hl 1 rfl) ?_
                  refine lv_bipush (v := iI 109) X.1 X.2.1 d_M_take_147 (by decide) ?_
                  refine z_icmp_ne (tgt := 177) X.1 X.2.1 d_M_take_149 (by decide) ⟨by decide, by decide⟩ ⟨by decide, by decide⟩ (fun h538 => ?_) (fun h538 => False.elim (by omega))
                  · refine lv_bipush (v := iI (-60)) X.1 X.2.1 d_M_take_177 (by decide) ?_
                    exact m_reti hQQ X Y hr hlk ⟨S, (-60), rfl, ⟨by omega, by omega, (pG1_cg rfl rfl (pG1_cg rfl rfl (pG1_cg (w102.2 39 (by decide)) (w102.2 40 (by decide)) f_P1))), (pG2_cg (w110.2 37 (by decide)) (w110.2 38 (by decide)) (pG2_cg rfl rfl (pG2_cg rfl rfl f_P2))), (stT_cg (w110.2 97 (by decide)) (w110.2 98 (by decide)) (w110.2 100 (by decide)) (w110.2 107 (by decide)) (w110.2 108 (by decide)) (w110.2 109 (by decide)) (stT_cg rfl rfl rfl rfl rfl rfl (stT_cg rfl rfl rfl rfl rfl rfl f_FT))), f111⟩⟩ d_M_take_179
      · refine lv_bipush (v := iI (-3)) X.1 X.2.1 d_M_take_29 (by decide) ?_
        exact m_reti hQQ X Y hr hlk ⟨S, (-3), rfl, ⟨by omega, by omega, (pG1_cg rfl rfl (pG1_cg (w102.2 39 (by decide)) (w102.2 40 (by decide)) f_P1)), (pG2_cg rfl rfl (pG2_cg rfl rfl f_P2)), (stT_cg rfl rfl rfl rfl rfl rfl (stT_cg rfl rfl rfl rfl rfl rfl f_FT)), (stA_cg rfl rfl rfl rfl (stA_cg rfl rfl rfl rfl f_FA))⟩⟩ d_M_take_31
  · refine lv_iconst (v := iI (-1)) X.1 X.2.1 d_M_take_18 (by decide) ?_
    exact m_reti hQQ X Y hr hlk ⟨S, (-1), rfl, ⟨by omega, by omega, (pG1_cg rfl rfl (pG1_cg (w102.2 39 (by decide)) (w102.2 40 (by decide)) f_P1)), (pG2_cg rfl rfl (pG2_cg rfl rfl f_P2)), (stT_cg rfl rfl rfl rfl rfl rfl (stT_cg rfl rfl rfl rfl rfl rfl f_FT)), (stA_cg rfl rfl rfl rfl (stA_cg rfl rfl rfl rfl f_FA))⟩⟩ d_M_take_19
