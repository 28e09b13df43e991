set_option maxHeartbeats 40000000 in
set_option maxRecDepth 100000 in
theorem r_M_taken (l : Launch) (D : mD) (E : mE) (h : Nat) (q : Nat → Nat) (sz : Nat) (I : Nat → Int32) (J : Nat → Int64) (B : Nat → Nat → Int32) (G : Nat → Nat → Int64) (a1 : Int) (l_a1 : 0 ≤ a1) (u_a1 : a1 ≤ 3) (a2 : Int) (l_a2 : 0 ≤ a2) (u_a2 : a2 ≤ 2) (hT : rT I B) (f_P1 : pG1 I) (f_P2 : pG2 (B 37) (B 38)) (f_FT : stT (B 97) (B 98) (B 100) (B 107) (B 108) (B 109)) (f_FA : stA (B 110) (B 118) (B 119) (B 120)) (f_RP : rpA (B 37) (B 38) (B 0)) (f_AK : akA a1 a2 (B 118) (B 119) (B 120)) : Met l y_M_taken (k_M_taken :: lw_tg) (mR 45 2041) (va_Pc [.ref h, .int (iI a1), .int (iI a2)] (mPre D E h q (I, J, B, G) sz)) (va_Qi (rPi [39, 40, 42] [0, 37, 38, 59, 97, 98, 99, 100, 101, 102, 107, 108, 109] I B (fun (z : Int) (u : mS) => (-41) ≤ z ∧ z ≤ 8 ∧ pG1 u.1 ∧ pG2 (u.2.2.1 37) (u.2.2.1 38) ∧ stT (u.2.2.1 97) (u.2.2.1 98) (u.2.2.1 100) (u.2.2.1 107) (u.2.2.1 108) (u.2.2.1 109) ∧ stA (u.2.2.1 110) (u.2.2.1 118) (u.2.2.1 119) (u.2.2.1 120))) (mPost D E h q (mA E h q sz)) (mA E h q sz)) 0 0 (mA E h q sz) := by
  refine m_enter (by decide) rfl (Nat.le_of_ble_eq_true rfl) (fun p e s m below meth c ls AV QQ H locs hQQ X Y hZ hA hr hlk hml hl => ?_)
  have Y : mH D E (mA E h q sz) s.heap h q I J B G H locs := Y
  have S : rS [39, 40, 42] [0, 37, 38, 59, 97, 98, 99, 100, 101, 102, 107, 108, 109] I B I B := rS_rf hT
  have hl : lv_has ls 8 [(0, .ref h), (1, .int (iI a1)), (2, .int (iI a2))] := hl
  refine lv_aload_n X.1 X.2.1 d_M_taken_0 rfl (lv_at hl 0 rfl) ?_
  refine lv_aload_n X.1 X.2.1 d_M_taken_1 rfl (lv_at hl 0 rfl) ?_
  refine lv_iconst (v := iI 0) X.1 X.2.1 d_M_taken_2 (by decide) ?_
  refine lv_iconst (v := iI 5) X.1 X.2.1 d_M_taken_3 (by decide) ?_
  refine r_ni (m_run (As := [.int (iI 0), .int (iI 5)]) (rest := [.ref h]) (n := 2) X Y hZ hA hml hl.1 (r_M_a l D E h q H.size I J B G 0 (by decide) (by decide) 5 (by decide) (by decide) S.1) kl_M_a ks_M_a kx_M_a ki_M_a ini_M hd_M_a ⟨Nat.le_of_ble_eq_true rfl, Nat.le_of_ble_eq_true rfl⟩ rfl (Nat.le_of_ble_eq_true rfl) d_M_taken_4 ⟨Nat.le_refl _, Nat.le_refl _⟩) X Y hA S (by decide) (by decide) (fun z101 u H locs Y S s101 p101 => ?_)
  obtain ⟨I101, J101, B101, G101⟩ := u
  dsimp only at Y S s101 p101
  have i101 : I = I101 := (funext (fun j => s101.2.1 j (by simp))).symm
  subst i101
  have b101 : B = B101 := (funext (fun j => s101.2.2 j (by simp))).symm
  subst b101
  obtain ⟨l101, u101, x101⟩ := p101
  refine lv_aload_n X.1 X.2.1 d_M_taken_7 rfl (lv_at hl 0 rfl) ?_
  refine lv_iconst (v := iI 0) X.1 X.2.1 d_M_taken_8 (by decide) ?_
  refine lv_iconst (v := iI 5) X.1 X.2.1 d_M_taken_9 (by decide) ?_
  refine r_ni (m_run (As := [.int (iI 0), .int (iI 5)]) (rest := [.int (iI z101), .ref h]) (n := 2) X Y hZ hA hml hl.1 (r_M_b l D E h q H.size I J101 B G101 0 (by decide) (by decide) 5 (by decide) (by decide) S.1) kl_M_b ks_M_b kx_M_b ki_M_b ini_M hd_M_b ⟨Nat.le_of_ble_eq_true rfl, Nat.le_of_ble_eq_true rfl⟩ rfl (Nat.le_of_ble_eq_true rfl) d_M_taken_10 ⟨Nat.le_refl _, Nat.le_refl _⟩) X Y hA S (by decide) (by decide) (fun z102 u H locs Y S s102 p102 => ?_)
  obtain ⟨I102, J102, B102, G102⟩ := u
  dsimp only at Y S s102 p102
  have i102 : I = I102 := (funext (fun j => s102.2.1 j (by simp))).symm
  subst i102
  have b102 : B = B102 := (funext (fun j => s102.2.2 j (by simp))).symm
  subst b102
  obtain ⟨l102, u102, x102⟩ := p102
  have p103 : pr z101 z102 := by rw [x101, x102]; exact (pG2_cg rfl rfl (pG2_cg rfl rfl f_P2)) (16 * 0 + 5 : Int).toNat (by omega)
  unfold pr at p103
  refine lv_bipush (v := iI 97) X.1 X.2.1 d_M_taken_13 (by decide) ?_
  refine r_ni (m_run (As := [.int (iI z101), .int (iI z102), .int (iI 97)]) (rest := []) (n := 3) X Y hZ hA hml hl.1 (r_M_whole l D E h q H.size I J102 B G102 z101 (by omega) (by omega) z102 (by omega) (by omega) 97 (by decide) (by decide) S.1 (B 0) rfl (pG1_cg rfl rfl (pG1_cg rfl rfl f_P1)) (by omega) (by omega)) kl_M_whole ks_M_whole kx_M_whole ki_M_whole ini_M hd_M_whole ⟨Nat.le_of_ble_eq_true rfl, Nat.le_of_ble_eq_true rfl⟩ rfl (Nat.le_of_ble_eq_true rfl) d_M_taken_15 ⟨Nat.le_refl _, Nat.le_refl _⟩) X Y hA S (by decide) (by decide) (fun z104 u H locs Y S s104 p104 => ?_)
  obtain ⟨I104, J104, B104, G104⟩ := u
  dsimp only at Y S s104 p104
  have b104 : B = B104 := (funext (fun j => s104.2.2 j (by simp))).symm
  subst b104
  obtain ⟨l104, u104, x104, st104⟩ := p104
  obtain ⟨x105, y105, ex105, ey105, lx105, ly105, uy105, dy105, iy105⟩ := st104
  have zw104 : z104 = 1 := x104.mpr (by rw [x101, x102]; exact ((rpA_cg rfl rfl rfl (rpA_cg rfl rfl rfl (rpA_cg rfl rfl rfl f_RP)))).2.2.1)
  refine lv_pop X.1 X.2.1 d_M_taken_18 rfl ?_
  refine lv_aload_n X.1 X.2.1 d_M_taken_19 rfl (lv_at hl 0 rfl) ?_
  refine m_ldcSW (i := 7) X (by decide) (by decide) d_M_taken_20 ?_
  refine lv_aload_n X.1 X.2.1 d_M_taken_23 rfl (lv_at hl 0 rfl) ?_
  refine r_get0 X Y (by decide) lk_inside (gf_inside _ _ _) rfl ex105 d_M_taken_24 ?_
  refine lv_aload_n X.1 X.2.1 d_M_taken_27 rfl (lv_at hl 0 rfl) ?_
  refine lv_iconst (v := iI 0) X.1 X.2.1 d_M_taken_28 (by decide) ?_
  refine lv_iconst (v := iI 5) X.1 X.2.1 d_M_taken_29 (by decide) ?_
  refine r_ni (m_run (As := [.int (iI 0), .int (iI 5)]) (rest := [.int (iI x105), .ref ((D.2.1 7)), .ref h]) (n := 2) X Y hZ hA hml hl.1 (r_M_b l D E h q H.size I104 J104 B G104 0 (by decide) (by decide) 5 (by decide) (by decide) S.1) kl_M_b ks_M_b kx_M_b ki_M_b ini_M hd_M_b ⟨Nat.le_of_ble_eq_true rfl, Nat.le_of_ble_eq_true rfl⟩ rfl (Nat.le_of_ble_eq_true rfl) d_M_taken_30 ⟨Nat.le_refl _, Nat.le_refl _⟩) X Y hA S (by decide) (by decide) (fun z106 u H locs Y S s106 p106 => ?_)
  obtain ⟨I106, J106, B106, G106⟩ := u
  dsimp only at Y S s106 p106
  have i106 : I104 = I106 := (funext (fun j => s106.2.1 j (by simp))).symm
  subst i106
  have b106 : B = B106 := (funext (fun j => s106.2.2 j (by simp))).symm
  subst b106
  obtain ⟨l106, u106, x106⟩ := p106
  have p107 : pr z101 z106 := by rw [x101, x106]; exact (pG2_cg rfl rfl (pG2_cg rfl rfl (pG2_cg rfl rfl (pG2_cg rfl rfl f_P2)))) (16 * 0 + 5 : Int).toNat (by omega)
  unfold pr at p107
  refine lv_iconst (v := iI 3) X.1 X.2.1 d_M_taken_33 (by decide) ?_
  refine r_ni (m_run (As := [.ref ((D.2.1 7)), .int (iI x105), .int (iI z106), .int (iI 3)]) (rest := []) (n := 4) X Y hZ hA hml hl.1 (r_M_sequence_t l D E h q H.size I104 J106 B G106 7 (show 7 < nZ by decide) x105 (by omega) (by omega) z106 (by omega) (by omega) 3 (by decide) (by decide) S.1 5 (B 0) rfl (isF (B 0) 5) (by decide) (hisU (show rki 7 ≤ 5 by decide)) (pG1_cg rfl rfl (show pG1 I104 from ⟨x105, y105, ex105, ey105, by omega, by omega, by omega, by omega⟩)) (pG2_cg rfl rfl (pG2_cg rfl rfl (pG2_cg rfl rfl (pG2_cg rfl rfl f_P2)))) (by omega) (by omega)) kl_M_sequence ks_M_sequence kx_M_sequence ki_M_sequence ini_M hd_M_sequence ⟨Nat.le_of_ble_eq_true rfl, Nat.le_of_ble_eq_true rfl⟩ rfl (Nat.le_of_ble_eq_true rfl) d_M_taken_34 ⟨Nat.le_refl _, Nat.le_refl _⟩) X Y hA S (by decide) (by decide) (fun z108 u H locs Y S s108 p108 => ?_)
  obtain ⟨I108, J108, B108, G108⟩ := u
  dsimp only at Y S s108 p108
  have f109 : stT (B108 97) (B108 98) (B108 100) (B108 107) (B108 108) (B108 109) := (stT_cg (s108.2.2 97 (by decide)) (s108.2.2 98 (by decide)) (s108.2.2 100 (by decide)) (s108.2.2 107 (by decide)) (s108.2.2 108 (by decide)) (s108.2.2 109 (by decide)) (stT_cg rfl rfl rfl rfl rfl rfl (stT_cg rfl rfl rfl rfl rfl rfl (stT_cg rfl rfl rfl rfl rfl rfl (stT_cg rfl rfl rfl rfl rfl rfl f_FT)))))
  obtain ⟨l108, u108, x108, st108, g108_P1, g108_P2⟩ := p108
  have g108_TF : thF [3] (B 37) (B 38) (B108 37) (B108 38) := thF_of st108.1
  have f110 : rpA (B108 37) (B108 38) (B108 0) := (rpA_cg (s108.2.2 0 (by decide)) rfl rfl (rpA_T g108_TF (by decide) (by decide) (rpA_cg rfl rfl rfl (rpA_cg rfl rfl rfl (rpA_cg rfl rfl rfl (rpA_cg rfl rfl rfl f_RP))))))
  refine lv_pop X.1 X.2.1 d_M_taken_37 rfl ?_
  refine lv_iload_n X.1 X.2.1 d_M_taken_38 rfl (lv_at hl 2 rfl) ?_
  refine lv_iconst (v := iI 2) X.1 X.2.1 d_M_taken_39 (by decide) ?_
  refine z_icmp_ge (tgt := 107) X.1 X.2.1 d_M_taken_40 (by decide) ⟨by omega, by omega⟩ ⟨by decide, by decide⟩ (fun h111 => ?_) (fun h111 => ?_)
  · as_aux_lemma =>
      refine lv_aload_n X.1 X.2.1 d_M_taken_107 rfl (lv_at hl 0 rfl) ?_
      refine lv_aload_n X.1 X.2.1 d_M_taken_108 rfl (lv_at hl 0 rfl) ?_
      refine lv_iconst (v := iI 0) X.1 X.2.1 d_M_taken_109 (by decide) ?_
      refine lv_iconst (v := iI 3) X.1 X.2.1 d_M_taken_110 (by decide) ?_
      refine r_ni (m_run (As := [.int (iI 0), .int (iI 3)]) (rest := [.ref h]) (n := 2) X Y hZ hA hml hl.1 (r_M_a l D E h q H.size I108 J108 B108 G108 0 (by decide) (by decide) 3 (by decide) (by decide) S.1) kl_M_a ks_M_a kx_M_a ki_M_a ini_M hd_M_a ⟨Nat.le_of_ble_eq_true rfl, Nat.le_of_ble_eq_true rfl⟩ rfl (Nat.le_of_ble_eq_true rfl) d_M_taken_111 ⟨Nat.le_refl _, Nat.le_refl _⟩) X Y hA S (by decide) (by decide) (fun z112 u H locs Y S s112 p112 => ?_)
      obtain ⟨I112, J112, B112, G112⟩ := u
      dsimp only at Y S s112 p112
      have i112 : I108 = I112 := (funext (fun j => s112.2.1 j (by simp))).symm
      subst i112
      have b112 : B108 = B112 := (funext (fun j => s112.2.2 j (by simp))).symm
      subst b112
      obtain ⟨l112, u112, x112⟩ := p112
      refine lv_aload_n X.1 X.2.1 d_M_taken_114 rfl (lv_at hl 0 rfl) ?_
      refine lv_iconst (v := iI 0) X.1 X.2.1 d_M_taken_115 (by decide) ?_
      refine lv_iconst (v := iI 3) X.1 X.2.1 d_M_taken_116 (by decide) ?_
      refine r_ni (m_run (As := [.int (iI 0), .int (iI 3)]) (rest := [.int (iI z112), .ref h]) (n := 2) X Y hZ hA hml hl.1 (r_M_b l D E h q H.size I108 J112 B108 G112 0 (by decide) (by decide) 3 (by decide) (by decide) S.1) kl_M_b ks_M_b kx_M_b ki_M_b ini_M hd_M_b ⟨Nat.le_of_ble_eq_true rfl, Nat.le_of_ble_eq_true rfl⟩ rfl (Nat.le_of_ble_eq_true rfl) d_M_taken_117 ⟨Nat.le_refl _, Nat.le_refl _⟩) X Y hA S (by decide) (by decide) (fun z113 u H locs Y S s113 p113 => ?_)
      obtain ⟨I113, J113, B113, G113⟩ := u
      dsimp only at Y S s113 p113
      have i113 : I108 = I113 := (funext (fun j => s113.2.1 j (by simp))).symm
      subst i113
      have b113 : B108 = B113 := (funext (fun j => s113.2.2 j (by simp))).symm
      subst b113
      have f114 : stA (B108 110) (B108 118) (B108 119) (B108 120) := (stA_cg rfl rfl rfl rfl (stA_cg rfl rfl rfl rfl (stA_cg (s108.2.2 110 (by decide)) (s108.2.2 118 (by decide)) (s108.2.2 119 (by decide)) (s108.2.2 120 (by decide)) (stA_cg rfl rfl rfl rfl (stA_cg rfl rfl rfl rfl (stA_cg rfl rfl rfl rfl (stA_cg rfl rfl rfl rfl f_FA)))))))
      obtain ⟨l113, u113, x113⟩ := p113
      have p115 : pr z112 z113 := by rw [x112, x113]; exact (pG2_cg rfl rfl (pG2_cg rfl rfl g108_P2)) (16 * 0 + 3 : Int).toNat (by omega)
      unfold pr at p115
      refine lv_aload_n X.1 X.2.1 d_M_taken_120 rfl (lv_at hl 0 rfl) ?_
      refine m_get X Y 118 (by decide) lk_askedClients (gf_askedClients _ _ _) rfl d_M_taken_121 ?_
      refine lv_sipush (v := iI 400) X.1 X.2.1 d_M_taken_124 (by decide) ?_
      refine lv_iload_n X.1 X.2.1 d_M_taken_127 rfl (lv_at hl 1 rfl) ?_
      refine z_imul X.1 X.2.1 d_M_taken_128 ?_
      refine lv_aload_n X.1 X.2.1 d_M_taken_129 rfl (lv_at hl 0 rfl) ?_
      refine m_get X Y 119 (by decide) lk_askedRealm (gf_askedRealm _ _ _) rfl d_M_taken_130 ?_
      refine lv_iload_n X.1 X.2.1 d_M_taken_133 rfl (lv_at hl 1 rfl) ?_
      refine r_iald X Y S (aw_askedRealm _ _ _ _ _ _ _) rfl (by omega) (show a1 < ((4 : Nat) : Int) by omega) (by omega) d_M_taken_134 (fun z116 q116 l116 u116 => ?_)
      refine r_ni (m_run (As := [.int (iI z112), .int (iI z113), .ref ((q 118)), .int (iI (400 * a1)), .int (iI z116)]) (rest := []) (n := 5) X Y hZ hA hml hl.1 (r_M_isBytes_askedClients l D E h q H.size I108 J113 B108 G113 z112 (by omega) (by omega) z113 (by omega) (by omega) (400 * a1) (by omega) (by omega) z116 (by omega) (by omega) S.1 (by omega) (by omega)) kl_M_isBytes ks_M_isBytes kx_M_isBytes ki_M_isBytes ini_M hd_M_isBytes ⟨Nat.le_of_ble_eq_true rfl, Nat.le_of_ble_eq_true rfl⟩ rfl (Nat.le_of_ble_eq_true rfl) d_M_taken_135 ⟨Nat.le_refl _, Nat.le_refl _⟩) X Y hA S (by decide) (by decide) (fun z117 u H locs Y S s117 p117 => ?_)
      obtain ⟨I117, J117, B117, G117⟩ := u
      dsimp only at Y S s117 p117
      have i117 : I108 = I117 := (funext (fun j => s117.2.1 j (by simp))).symm
      subst i117
      have b117 : B108 = B117 := (funext (fun j => s117.2.2 j (by simp))).symm
      subst b117
      obtain ⟨l117, u117, x117⟩ := p117
      refine lv_istore_n (lv' := [(3, .int (iI z117)), (0, .ref h), (1, .int (iI a1)), (2, .int (iI a2))]) X.1 X.2.1 d_M_taken_138 rfl hl (by decide) rfl (fun ls hl => ?_)
      refine lv_iconst (v := iI 0) X.1 X.2.1 d_M_taken_139 (by decide) ?_
      have J129 : ∀ (n131 : Nat) (z119 : Int) (I118 : Nat → Int32) (J118 : Nat → Int64) (B118 : Nat → Nat → Int32) (G118 : Nat → Nat → Int64) (H : Heap) (locs : List Loc) (ls : Array Slot), (300 - z119).toNat = n131 → (0 ≤ z119) → (z119 ≤ 300) → (akA a1 a2 (B118 118) (B118 119) (B118 120)) → (stA (B118 110) (B118 118) (B118 119) (B118 120)) → (stT (B118 97) (B118 98) (B118 100) (B118 107) (B118 108) (B118 109)) → (pG1 I118) → (pG2 (B118 37) (B118 38)) → (rpA (B118 37) (B118 38) (B118 0)) → (cpy (B118 0) (B118 118) (13200) (400 * a1 + (B118 119 (a1).toNat).toInt) z119) → (z119 ≤ (B118 120 (a1).toNat).toInt) → (z117 = 0 ∨ (B118 38 (16 * 0 + 3 : Int).toNat).toInt - (B118 37 (16 * 0 + 3 : Int).toNat).toInt ≤ 100) → mH D E (mA E h q sz) s.heap h q I118 J118 B118 G118 H locs → rS [39, 40, 42] [0, 37, 38, 59, 97, 98, 99, 100, 101, 102, 107, 108, 109] I B I118 B118 → lv_has ls 8 [(0, .ref h), (1, .int (iI a1)), (3, .int (iI z117)), (4, .int (iI z119))] → W p l e (mR 45 2041) s m AV below meth c H locs 0 0 QQ (F0 m 142 ls []) := by
        as_aux_lemma =>
          intro n131
          induction n131 using Nat.strongRecOn with
          | ind n131 ih130 =>
            intro z119 I118 J118 B118 G118 H locs ls hm132 l119 u119 f120 f121 f122 f123 f124 f125 i126 i127 i128 Y S hl
            refine lv_iload X.1 X.2.1 d_M_taken_142 (lv_at hl 3 rfl) ?_
            refine lv_aload_n X.1 X.2.1 d_M_taken_144 rfl (lv_at hl 0 rfl) ?_
            refine m_get X Y 120 (by decide) lk_askedClient (gf_askedClient _ _ _) rfl d_M_taken_145 ?_
            refine lv_iload_n X.1 X.2.1 d_M_taken_148 rfl (lv_at hl 1 rfl) ?_
            refine r_iald X Y S (aw_askedClient _ _ _ _ _ _ _) rfl (by omega) (show a1 < ((4 : Nat) : Int) by omega) (by omega) d_M_taken_149 (fun z133 q133 l133 u133 => ?_)
            refine z_icmp_ge (tgt := 190) X.1 X.2.1 d_M_taken_150 (by decide) ⟨by omega, by omega⟩ ⟨by omega, by omega⟩ (fun h134 => ?_) (fun h134 => ?_)
            · as_aux_lemma =>
                have cpx : cpy (B118 0) (B118 118) 13200 (400 * a1 + (B118 119 (a1).toNat).toInt) (B118 120 (a1).toNat).toInt := by rw [show (B118 120 (a1).toNat).toInt = z119 by omega]; exact i126
                have cpx : cpy (B118 0) (B118 118) 13200 (400 * a1 + (B118 119 (a1).toNat).toInt) (B118 120 (a1).toNat).toInt := by rw [show (B118 120 (a1).toNat).toInt = z119 by omega]; exact i126
                refine lv_iload_n X.1 X.2.1 d_M_taken_190 rfl (lv_at hl 2 rfl) ?_
                refine z_if_eq (tgt := 230) X.1 X.2.1 d_M_taken_191 (by decide) ⟨by omega, by omega⟩ (fun h135 => ?_) (fun h135 => ?_)
                · refine lv_iconst (v := iI 0) X.1 X.2.1 d_M_taken_230 (by decide) ?_
                  refine lv_istore_n (lv' := [(3, .int (iI 0)), (0, .ref h), (1, .int (iI a1)), (4, .int (iI z119))]) X.1 X.2.1 d_M_taken_231 rfl hl (by decide) rfl (fun ls hl => ?_)
                  refine lv_iload_n X.1 X.2.1 d_M_taken_232 rfl (lv_at hl 0 rfl) ?_
                  refine z_if_eq (tgt := 295) X.1 X.2.1 d_M_taken_233 (by decide) ⟨by decide, by decide⟩ (fun h136 => ?_) (fun h136 => False.elim (by omega))
                  · refine lv_bipush (v := iI (-41)) X.1 X.2.1 d_M_taken_295 (by decide) ?_
                    exact m_reti hQQ X Y hr hlk ⟨S, (-41), rfl, ⟨by omega, by omega, f123, f124, f122, f121⟩⟩ d_M_taken_297
                · as_aux_lemma =>
                    refine lv_aload_n X.1 X.2.1 d_M_taken_194 rfl (lv_at hl 0 rfl) ?_
                    refine lv_aload_n X.1 X.2.1 d_M_taken_195 rfl (lv_at hl 0 rfl) ?_
                    refine lv_iconst (v := iI 0) X.1 X.2.1 d_M_taken_196 (by decide) ?_
                    refine lv_iconst (v := iI 4) X.1 X.2.1 d_M_taken_197 (by decide) ?_
                    refine r_ni (m_run (As := [.int (iI 0), .int (iI 4)]) (rest := [.ref h]) (n := 2) X Y hZ hA hml hl.1 (r_M_a l D E h q H.size I118 J118 B118 G118 0 (by decide) (by decide) 4 (by decide) (by decide) S.1) kl_M_a ks_M_a kx_M_a ki_M_a ini_M hd_M_a ⟨Nat.le_of_ble_eq_true rfl, Nat.le_of_ble_eq_true rfl⟩ rfl (Nat.le_of_ble_eq_true rfl) d_M_taken_198 ⟨Nat.le_refl _, Nat.le_refl _⟩) X Y hA S (by decide) (by decide) (fun z137 u H locs Y S s137 p137 => ?_)
                    obtain ⟨I137, J137, B137, G137⟩ := u
                    dsimp only at Y S s137 p137
                    have i137 : I118 = I137 := (funext (fun j => s137.2.1 j (by simp))).symm
                    subst i137
                    have b137 : B118 = B137 := (funext (fun j => s137.2.2 j (by simp))).symm
                    subst b137
                    obtain ⟨l137, u137, x137⟩ := p137
                    refine lv_aload_n X.1 X.2.1 d_M_taken_201 rfl (lv_at hl 0 rfl) ?_
                    refine lv_iconst (v := iI 0) X.1 X.2.1 d_M_taken_202 (by decide) ?_
                    refine lv_iconst (v := iI 4) X.1 X.2.1 d_M_taken_203 (by decide) ?_
                    refine r_ni (m_run (As := [.int (iI 0), .int (iI 4)]) (rest := [.int (iI z137), .ref h]) (n := 2) X Y hZ hA hml hl.1 (r_M_b l D E h q H.size I118 J137 B118 G137 0 (by decide) (by decide) 4 (by decide) (by decide) S.1) kl_M_b ks_M_b kx_M_b ki_M_b ini_M hd_M_b ⟨Nat.le_of_ble_eq_true rfl, Nat.le_of_ble_eq_true rfl⟩ rfl (Nat.le_of_ble_eq_true rfl) d_M_taken_204 ⟨Nat.le_refl _, Nat.le_refl _⟩) X Y hA S (by decide) (by decide) (fun z138 u H locs Y S s138 p138 => ?_)
                    obtain ⟨I138, J138, B138, G138⟩ := u
                    dsimp only at Y S s138 p138
                    have i138 : I118 = I138 := (funext (fun j => s138.2.1 j (by simp))).symm
                    subst i138
                    have b138 : B118 = B138 := (funext (fun j => s138.2.2 j (by simp))).symm
                    subst b138
                    obtain ⟨l138, u138, x138⟩ := p138
                    have p139 : pr z137 z138 := by rw [x137, x138]; exact (pG2_cg rfl rfl (pG2_cg rfl rfl f124)) (16 * 0 + 4 : Int).toNat (by omega)
                    unfold pr at p139
                    refine lv_sipush (v := iI 13200) X.1 X.2.1 d_M_taken_207 (by decide) ?_
                    refine lv_sipush (v := iI 13200) X.1 X.2.1 d_M_taken_210 (by decide) ?_
                    refine lv_aload_n X.1 X.2.1 d_M_taken_213 rfl (lv_at hl 0 rfl) ?_
                    refine m_get X Y 120 (by decide) lk_askedClient (gf_askedClient _ _ _) rfl d_M_taken_214 ?_
                    refine lv_iload_n X.1 X.2.1 d_M_taken_217 rfl (lv_at hl 1 rfl) ?_
                    refine r_iald X Y S (aw_askedClient _ _ _ _ _ _ _) rfl (by omega) (show a1 < ((4 : Nat) : Int) by omega) (by omega) d_M_taken_218 (fun z140 q140 l140 u140 => ?_)
                    refine z_iadd X.1 X.2.1 d_M_taken_219 ?_
                    refine r_ni (m_run (As := [.int (iI z137), .int (iI z138), .int (iI 13200), .int (iI (13200 + z140))]) (rest := []) (n := 4) X Y hZ hA hml hl.1 (r_M_sameNames l D E h q H.size I118 J138 B118 G138 z137 (by omega) (by omega) z138 (by omega) (by omega) 13200 (by decide) (by decide) (13200 + z140) (by omega) (by omega) S.1 (pG1_cg rfl rfl (pG1_cg rfl rfl f123)) (pG2_cg rfl rfl (pG2_cg rfl rfl f124)) (by omega) (by omega) (by omega) (by omega)) kl_M_sameNames ks_M_sameNames kx_M_sameNames ki_M_sameNames ini_M hd_M_sameNames ⟨Nat.le_of_ble_eq_true rfl, Nat.le_of_ble_eq_true rfl⟩ rfl (Nat.le_of_ble_eq_true rfl) d_M_taken_220 ⟨Nat.le_refl _, Nat.le_refl _⟩) X Y hA S (by decide) (by decide) (fun z141 u H locs Y S s141 p141 => ?_)
                    obtain ⟨I141, J141, B141, G141⟩ := u
                    dsimp only at Y S s141 p141
                    obtain ⟨l141, u141, x141, g141_P1, g141_P2, g141_TF⟩ := p141
                    have f142 : rpA (B141 37) (B141 38) (B141 0) := (rpA_cg (s141.2.2 0 (by decide)) rfl rfl (rpA_T g141_TF (by decide) (by decide) (rpA_cg rfl rfl rfl (rpA_cg rfl rfl rfl f125))))
                    have a143 : z141 ≠ 0 → rzA (B141 37) (B141 38) (B141 0) := fun h9 => rzA_cg (s141.2.2 0 (by decide)) rfl rfl (rzA_T g141_TF (by decide) (by decide) (rz_2 (ag := a1) (n := (B118 120 (a1).toNat).toInt) (rpA_cg rfl rfl rfl (rpA_cg rfl rfl rfl f125)) x112 x113 x137 x138 (rib.resolve_left (by omega)) (by omega) ((show a2 = 2 by omega) ▸ (akA_cg rfl rfl rfl (akA_cg rfl rfl rfl f120))) (by omega) (show 0 ≤ _ from (S.1.2 119 _).1) rfl (show 0 ≤ _ from (S.1.2 120 _).1) cpx rfl (by omega) (x141.resolve_left h9)))
                    refine z_if_eq (tgt := 230) X.1 X.2.1 d_M_taken_223 (by decide) ⟨by omega, by omega⟩ (fun h144 => ?_) (fun h144 => ?_)
                    · refine lv_iconst (v := iI 0) X.1 X.2.1 d_M_taken_230 (by decide) ?_
                      refine lv_istore_n (lv' := [(3, .int (iI 0)), (0, .ref h), (1, .int (iI a1)), (4, .int (iI z119))]) X.1 X.2.1 d_M_taken_231 rfl hl (by decide) rfl (fun ls hl => ?_)
                      refine lv_iload_n X.1 X.2.1 d_M_taken_232 rfl (lv_at hl 0 rfl) ?_
                      refine z_if_eq (tgt := 295) X.1 X.2.1 d_M_taken_233 (by decide) ⟨by decide, by decide⟩ (fun h145 => ?_) (fun h145 => False.elim (by omega))
                      · refine lv_bipush (v := iI (-41)) X.1 X.2.1 d_M_taken_295 (by decide) ?_
                        exact m_reti hQQ X Y hr hlk ⟨S, (-41), rfl, ⟨by omega, by omega, g141_P1, g141_P2, (stT_cg (s141.2.2 97 (by decide)) (s141.2.2 98 (by decide)) (s141.2.2 100 (by decide)) (s141.2.2 107 (by decide)) (s141.2.2 108 (by decide)) (s141.2.2 109 (by decide)) (stT_cg rfl rfl rfl rfl rfl rfl (stT_cg rfl rfl rfl rfl rfl rfl f122))), (stA_cg (s141.2.2 110 (by decide)) (s141.2.2 118 (by decide)) (s141.2.2 119 (by decide)) (s141.2.2 120 (by decide)) (stA_cg rfl rfl rfl rfl (stA_cg rfl rfl rfl rfl f121)))⟩⟩ d_M_taken_297
                    · as_aux_lemma =>
                        have f146 : rzA (B141 37) (B141 38) (B141 0) := a143 (by omega)
                        have f147 : rzA (B141 37) (B141 38) (B141 0) := a143 (by omega)
                        refine lv_iconst (v := iI 1) X.1 X.2.1 d_M_taken_226 (by decide) ?_
                        refine lv_goto (tgt := 231) X.1 X.2.1 d_M_taken_227 (by decide) ?_
                        refine lv_istore_n (lv' := [(3, .int (iI 1)), (0, .ref h), (1, .int (iI a1)), (4, .int (iI z119))]) X.1 X.2.1 d_M_taken_231 rfl hl (by decide) rfl (fun ls hl => ?_)
                        refine lv_iload_n X.1 X.2.1 d_M_taken_232 rfl (lv_at hl 0 rfl) ?_
                        refine z_if_eq (tgt := 295) X.1 X.2.1 d_M_taken_233 (by decide) ⟨by decide, by decide⟩ (fun h148 => False.elim (by omega)) (fun h148 => ?_)
                        · as_aux_lemma =>
                            refine lv_aload_n X.1 X.2.1 d_M_taken_236 rfl (lv_at hl 1 rfl) ?_
                            refine lv_aload_n X.1 X.2.1 d_M_taken_237 rfl (lv_at hl 1 rfl) ?_
                            refine lv_iconst (v := iI 4) X.1 X.2.1 d_M_taken_238 (by decide) ?_
                            refine lv_bipush (v := iI 9) X.1 X.2.1 d_M_taken_239 (by decide) ?_
                            refine r_ni (m_run (As := [.int (iI 4), .int (iI 9)]) (rest := [.ref h]) (n := 2) X Y hZ hA hml hl.1 (r_M_a l D E h q H.size I141 J141 B141 G141 4 (by decide) (by decide) 9 (by decide) (by decide) S.1) kl_M_a ks_M_a kx_M_a ki_M_a ini_M hd_M_a ⟨Nat.le_of_ble_eq_true rfl, Nat.le_of_ble_eq_true rfl⟩ rfl (Nat.le_of_ble_eq_true rfl) d_M_taken_241 ⟨Nat.le_refl _, Nat.le_refl _⟩) X Y hA S (by decide) (by decide) (fun z149 u H locs Y S s149 p149 => ?_)
                            obtain ⟨I149, J149, B149, G149⟩ := u
                            dsimp only at Y S s149 p149
                            have i149 : I141 = I149 := (funext (fun j => s149.2.1 j (by simp))).symm
                            subst i149
                            have b149 : B141 = B149 := (funext (fun j => s149.2.2 j (by simp))).symm
                            subst b149
                            have f150 : stT (B141 97) (B141 98) (B141 100) (B141 107) (B141 108) (B141 109) := (stT_cg rfl rfl rfl rfl rfl rfl (stT_cg (s141.2.2 97 (by decide)) (s141.2.2 98 (by decide)) (s141.2.2 100 (by decide)) (s141.2.2 107 (by decide)) (s141.2.2 108 (by decide)) (s141.2.2 109 (by decide)) (stT_cg rfl rfl rfl rfl rfl rfl (stT_cg rfl rfl rfl rfl rfl rfl f122))))
                            obtain ⟨l149, u149, x149⟩ := p149
                            refine lv_aload_n X.1 X.2.1 d_M_taken_244 rfl (lv_at hl 1 rfl) ?_
                            refine lv_iconst (v := iI 4) X.1 X.2.1 d_M_taken_245 (by decide) ?_
                            refine lv_bipush (v := iI 9) X.1 X.2.1 d_M_taken_246 (by decide) ?_
                            refine r_ni (m_run (As := [.int (iI 4), .int (iI 9)]) (rest := [.int (iI z149), .ref h]) (n := 2) X Y hZ hA hml hl.1 (r_M_b l D E h q H.size I141 J149 B141 G149 4 (by decide) (by decide) 9 (by decide) (by decide) S.1) kl_M_b ks_M_b kx_M_b ki_M_b ini_M hd_M_b ⟨Nat.le_of_ble_eq_true rfl, Nat.le_of_ble_eq_true rfl⟩ rfl (Nat.le_of_ble_eq_true rfl) d_M_taken_248 ⟨Nat.le_refl _, Nat.le_refl _⟩) X Y hA S (by decide) (by decide) (fun z151 u H locs Y S s151 p151 => ?_)
                            obtain ⟨I151, J151, B151, G151⟩ := u
                            dsimp only at Y S s151 p151
                            have i151 : I141 = I151 := (funext (fun j => s151.2.1 j (by simp))).symm
                            subst i151
                            have b151 : B141 = B151 := (funext (fun j => s151.2.2 j (by simp))).symm
                            subst b151
                            obtain ⟨l151, u151, x151⟩ := p151
                            have p152 : pr z149 z151 := by rw [x149, x151]; exact (pG2_cg rfl rfl (pG2_cg rfl rfl g141_P2)) (16 * 4 + 9 : Int).toNat (by omega)
                            unfold pr at p152
                            refine m_ldcSW (i := 2) X (by decide) (by decide) d_M_taken_251 ?_
                            refine r_ni (m_run (As := [.int (iI z149), .int (iI z151), .ref ((D.2.1 2))]) (rest := []) (n := 3) X Y hZ hA hml hl.1 (r_M_isWord l D E h q H.size I141 J151 B141 G151 z149 (by omega) (by omega) z151 (by omega) (by omega) 2 (show 2 < nZ by decide) S.1 (pG1_cg rfl rfl (pG1_cg rfl rfl g141_P1)) (by omega) (by omega)) kl_M_isWord ks_M_isWord kx_M_isWord ki_M_isWord ini_M hd_M_isWord ⟨Nat.le_of_ble_eq_true rfl, Nat.le_of_ble_eq_true rfl⟩ rfl (Nat.le_of_ble_eq_true rfl) d_M_taken_254 ⟨Nat.le_refl _, Nat.le_refl _⟩) X Y hA S (by decide) (by decide) (fun z153 u H locs Y S s153 p153 => ?_)
                            obtain ⟨I153, J153, B153, G153⟩ := u
                            dsimp only at Y S s153 p153
                            have b153 : B141 = B153 := (funext (fun j => s153.2.2 j (by simp))).symm
                            subst b153
                            obtain ⟨l153, u153, x153, g153_P1⟩ := p153
                            refine z_if_eq (tgt := 295) X.1 X.2.1 d_M_taken_257 (by decide) ⟨by omega, by omega⟩ (fun h154 => ?_) (fun h154 => ?_)
                            · refine lv_bipush (v := iI (-41)) X.1 X.2.1 d_M_taken_295 (by decide) ?_
                              exact m_reti hQQ X Y hr hlk ⟨S, (-41), rfl, ⟨by omega, by omega, g153_P1, (pG2_cg rfl rfl (pG2_cg rfl rfl (pG2_cg rfl rfl g141_P2))), (stT_cg rfl rfl rfl rfl rfl rfl (stT_cg rfl rfl rfl rfl rfl rfl f150)), (stA_cg rfl rfl rfl rfl (stA_cg rfl rfl rfl rfl (stA_cg rfl rfl rfl rfl (stA_cg (s141.2.2 110 (by decide)) (s141.2.2 118 (by decide)) (s141.2.2 119 (by decide)) (s141.2.2 120 (by decide)) (stA_cg rfl rfl rfl rfl (stA_cg rfl rfl rfl rfl f121))))))⟩⟩ d_M_taken_297
                            · as_aux_lemma =>
                                refine lv_aload_n X.1 X.2.1 d_M_taken_260 rfl (lv_at hl 1 rfl) ?_
                                refine lv_aload_n X.1 X.2.1 d_M_taken_261 rfl (lv_at hl 1 rfl) ?_
                                refine lv_iconst (v := iI 4) X.1 X.2.1 d_M_taken_262 (by decide) ?_
                                refine lv_bipush (v := iI 10) X.1 X.2.1 d_M_taken_263 (by decide) ?_
                                refine r_ni (m_run (As := [.int (iI 4), .int (iI 10)]) (rest := [.ref h]) (n := 2) X Y hZ hA hml hl.1 (r_M_a l D E h q H.size I153 J153 B141 G153 4 (by decide) (by decide) 10 (by decide) (by decide) S.1) kl_M_a ks_M_a kx_M_a ki_M_a ini_M hd_M_a ⟨Nat.le_of_ble_eq_true rfl, Nat.le_of_ble_eq_true rfl⟩ rfl (Nat.le_of_ble_eq_true rfl) d_M_taken_265 ⟨Nat.le_refl _, Nat.le_refl _⟩) X Y hA S (by decide) (by decide) (fun z155 u H locs Y S s155 p155 => ?_)
                                obtain ⟨I155, J155, B155, G155⟩ := u
                                dsimp only at Y S s155 p155
                                have i155 : I153 = I155 := (funext (fun j => s155.2.1 j (by simp))).symm
                                subst i155
                                have b155 : B141 = B155 := (funext (fun j => s155.2.2 j (by simp))).symm
                                subst b155
                                have f156 : stA (B141 110) (B141 118) (B141 119) (B141 120) := (stA_cg rfl rfl rfl rfl (stA_cg rfl rfl rfl rfl (stA_cg rfl rfl rfl rfl (stA_cg rfl rfl rfl rfl (stA_cg (s141.2.2 110 (by decide)) (s141.2.2 118 (by decide)) (s141.2.2 119 (by decide)) (s141.2.2 120 (by decide)) (stA_cg rfl rfl rfl rfl (stA_cg rfl rfl rfl rfl f121)))))))
                                obtain ⟨l155, u155, x155⟩ := p155
                                refine lv_aload_n X.1 X.2.1 d_M_taken_268 rfl (lv_at hl 1 rfl) ?_
                                refine lv_iconst (v := iI 4) X.1 X.2.1 d_M_taken_269 (by decide) ?_
                                refine lv_bipush (v := iI 10) X.1 X.2.1 d_M_taken_270 (by decide) ?_
                                refine r_ni (m_run (As := [.int (iI 4), .int (iI 10)]) (rest := [.int (iI z155), .ref h]) (n := 2) X Y hZ hA hml hl.1 (r_M_b l D E h q H.size I153 J155 B141 G155 4 (by decide) (by decide) 10 (by decide) (by decide) S.1) kl_M_b ks_M_b kx_M_b ki_M_b ini_M hd_M_b ⟨Nat.le_of_ble_eq_true rfl, Nat.le_of_ble_eq_true rfl⟩ rfl (Nat.le_of_ble_eq_true rfl) d_M_taken_272 ⟨Nat.le_refl _, Nat.le_refl _⟩) X Y hA S (by decide) (by decide) (fun z157 u H locs Y S s157 p157 => ?_)
                                obtain ⟨I157, J157, B157, G157⟩ := u
                                dsimp only at Y S s157 p157
                                have i157 : I153 = I157 := (funext (fun j => s157.2.1 j (by simp))).symm
                                subst i157
                                have b157 : B141 = B157 := (funext (fun j => s157.2.2 j (by simp))).symm
                                subst b157
                                obtain ⟨l157, u157, x157⟩ := p157
                                have p158 : pr z155 z157 := by rw [x155, x157]; exact (pG2_cg rfl rfl (pG2_cg rfl rfl (pG2_cg rfl rfl (pG2_cg rfl rfl (pG2_cg rfl rfl g141_P2))))) (16 * 4 + 10 : Int).toNat (by omega)
                                unfold pr at p158
                                refine lv_aload_n X.1 X.2.1 d_M_taken_275 rfl (lv_at hl 1 rfl) ?_
                                refine m_get X Y 117 (by decide) lk_askedNames (gf_askedNames _ _ _) rfl d_M_taken_276 ?_
                                refine lv_bipush (v := iI 40) X.1 X.2.1 d_M_taken_279 (by decide) ?_
                                refine lv_iload_n X.1 X.2.1 d_M_taken_281 rfl (lv_at hl 2 rfl) ?_
                                refine z_imul X.1 X.2.1 d_M_taken_282 ?_
                                refine lv_aload_n X.1 X.2.1 d_M_taken_283 rfl (lv_at hl 1 rfl) ?_
                                refine m_get X Y 113 (by decide) lk_askedSize (gf_askedSize _ _ _) rfl d_M_taken_284 ?_
                                refine lv_iload_n X.1 X.2.1 d_M_taken_287 rfl (lv_at hl 2 rfl) ?_
                                refine r_iald X Y S (aw_askedSize _ _ _ _ _ _ _) rfl (by omega) (show a1 < ((4 : Nat) : Int) by omega) (by omega) d_M_taken_288 (fun z159 q159 l159 u159 => ?_)
                                refine r_ni (m_run (As := [.int (iI z155), .int (iI z157), .ref ((q 117)), .int (iI (40 * a1)), .int (iI z159)]) (rest := []) (n := 5) X Y hZ hA hml hl.1 (r_M_isParts_askedNames l D E h q H.size I153 J157 B141 G157 z155 (by omega) (by omega) z157 (by omega) (by omega) (40 * a1) (by omega) (by omega) z159 (by omega) (by omega) S.1 (pG1_cg rfl rfl (pG1_cg rfl rfl g153_P1)) (pG2_cg rfl rfl (pG2_cg rfl rfl (pG2_cg rfl rfl (pG2_cg rfl rfl (pG2_cg rfl rfl g141_P2))))) (by omega) (by omega)) kl_M_isParts ks_M_isParts kx_M_isParts ki_M_isParts ini_M hd_M_isParts ⟨Nat.le_of_ble_eq_true rfl, Nat.le_of_ble_eq_true rfl⟩ rfl (Nat.le_of_ble_eq_true rfl) d_M_taken_289 ⟨Nat.le_refl _, Nat.le_refl _⟩) X Y hA S (by decide) (by decide) (fun z160 u H locs Y S s160 p160 => ?_)
                                obtain ⟨I160, J160, B160, G160⟩ := u
                                dsimp only at Y S s160 p160
                                have f161 : stT (B160 97) (B160 98) (B160 100) (B160 107) (B160 108) (B160 109) := (stT_cg (s160.2.2 97 (by decide)) (s160.2.2 98 (by decide)) (s160.2.2 100 (by decide)) (s160.2.2 107 (by decide)) (s160.2.2 108 (by decide)) (s160.2.2 109 (by decide)) (stT_cg rfl rfl rfl rfl rfl rfl (stT_cg rfl rfl rfl rfl rfl rfl (stT_cg rfl rfl rfl rfl rfl rfl (stT_cg rfl rfl rfl rfl rfl rfl f150)))))
                                have f162 : akA a1 a2 (B160 118) (B160 119) (B160 120) := (akA_cg (s160.2.2 118 (by decide)) (s160.2.2 119 (by decide)) (s160.2.2 120 (by decide)) (akA_cg rfl rfl rfl (akA_cg rfl rfl rfl (akA_cg rfl rfl rfl (akA_cg rfl rfl rfl (akA_cg rfl rfl rfl (akA_cg (s141.2.2 118 (by decide)) (s141.2.2 119 (by decide)) (s141.2.2 120 (by decide)) (akA_cg rfl rfl rfl (akA_cg rfl rfl rfl f120)))))))))
                                obtain ⟨l160, u160, x160, g160_P1, g160_P2, g160_TF, g160_MF⟩ := p160
                                have f163 : rpA (B160 37) (B160 38) (B160 0) := (rpA_M g160_MF (by decide) (rpA_T g160_TF (by decide) (by decide) (rpA_cg rfl rfl rfl (rpA_cg rfl rfl rfl (rpA_cg rfl rfl rfl (rpA_cg rfl rfl rfl (rpA_cg rfl rfl rfl f142)))))))
                                have f164 : rzA (B160 37) (B160 38) (B160 0) := (rzA_M g160_MF (by decide) (rzA_T g160_TF (by decide) (by decide) (rzA_cg rfl rfl rfl (rzA_cg rfl rfl rfl (rzA_cg rfl rfl rfl (rzA_cg rfl rfl rfl (rzA_cg rfl rfl rfl f147)))))))
                                refine z_if_ne (tgt := 298) X.1 X.2.1 d_M_taken_292 (by decide) ⟨by omega, by omega⟩ (fun h165 => ?_) (fun h165 => ?_)
                                · as_aux_lemma =>
                                    refine lv_aload_n X.1 X.2.1 d_M_taken_298 rfl (lv_at hl 1 rfl) ?_
                                    refine lv_aload_n X.1 X.2.1 d_M_taken_299 rfl (lv_at hl 1 rfl) ?_
                                    refine lv_iconst (v := iI 4) X.1 X.2.1 d_M_taken_300 (by decide) ?_
                                    refine lv_bipush (v := iI 9) X.1 X.2.1 d_M_taken_301 (by decide) ?_
                                    refine r_ni (m_run (As := [.int (iI 4), .int (iI 9)]) (rest := [.ref h]) (n := 2) X Y hZ hA hml hl.1 (r_M_a l D E h q H.size I160 J160 B160 G160 4 (by decide) (by decide) 9 (by decide) (by decide) S.1) kl_M_a ks_M_a kx_M_a ki_M_a ini_M hd_M_a ⟨Nat.le_of_ble_eq_true rfl, Nat.le_of_ble_eq_true rfl⟩ rfl (Nat.le_of_ble_eq_true rfl) d_M_taken_303 ⟨Nat.le_refl _, Nat.le_refl _⟩) X Y hA S (by decide) (by decide) (fun z166 u H locs Y S s166 p166 => ?_)
                                    obtain ⟨I166, J166, B166, G166⟩ := u
                                    dsimp only at Y S s166 p166
                                    have i166 : I160 = I166 := (funext (fun j => s166.2.1 j (by simp))).symm
                                    subst i166
                                    have b166 : B160 = B166 := (funext (fun j => s166.2.2 j (by simp))).symm
                                    subst b166
                                    obtain ⟨l166, u166, x166⟩ := p166
                                    refine lv_aload_n X.1 X.2.1 d_M_taken_306 rfl (lv_at hl 1 rfl) ?_
                                    refine lv_iconst (v := iI 4) X.1 X.2.1 d_M_taken_307 (by decide) ?_
                                    refine lv_bipush (v := iI 9) X.1 X.2.1 d_M_taken_308 (by decide) ?_
                                    refine r_ni (m_run (As := [.int (iI 4), .int (iI 9)]) (rest := [.int (iI z166), .ref h]) (n := 2) X Y hZ hA hml hl.1 (r_M_b l D E h q H.size I160 J166 B160 G166 4 (by decide) (by decide) 9 (by decide) (by decide) S.1) kl_M_b ks_M_b kx_M_b ki_M_b ini_M hd_M_b ⟨Nat.le_of_ble_eq_true rfl, Nat.le_of_ble_eq_true rfl⟩ rfl (Nat.le_of_ble_eq_true rfl) d_M_taken_310 ⟨Nat.le_refl _, Nat.le_refl _⟩) X Y hA S (by decide) (by decide) (fun z167 u H locs Y S s167 p167 => ?_)
                                    obtain ⟨I167, J167, B167, G167⟩ := u
                                    dsimp only at Y S s167 p167
                                    have i167 : I160 = I167 := (funext (fun j => s167.2.1 j (by simp))).symm
                                    subst i167
                                    have b167 : B160 = B167 := (funext (fun j => s167.2.2 j (by simp))).symm
                                    subst b167
                                    obtain ⟨l167, u167, x167⟩ := p167
                                    have p168 : pr z166 z167 := by rw [x166, x167]; exact (pG2_cg rfl rfl (pG2_cg rfl rfl g160_P2)) (16 * 4 + 9 : Int).toNat (by omega)
                                    unfold pr at p168
                                    refine lv_aload_n X.1 X.2.1 d_M_taken_313 rfl (lv_at hl 1 rfl) ?_
                                    refine lv_iconst (v := iI 3) X.1 X.2.1 d_M_taken_314 (by decide) ?_
                                    refine lv_iconst (v := iI 1) X.1 X.2.1 d_M_taken_315 (by decide) ?_
                                    refine r_ni (m_run (As := [.int (iI 3), .int (iI 1)]) (rest := [.int (iI z167), .int (iI z166), .ref h]) (n := 2) X Y hZ hA hml hl.1 (r_M_a l D E h q H.size I160 J167 B160 G167 3 (by decide) (by decide) 1 (by decide) (by decide) S.1) kl_M_a ks_M_a kx_M_a ki_M_a ini_M hd_M_a ⟨Nat.le_of_ble_eq_true rfl, Nat.le_of_ble_eq_true rfl⟩ rfl (Nat.le_of_ble_eq_true rfl) d_M_taken_316 ⟨Nat.le_refl _, Nat.le_refl _⟩) X Y hA S (by decide) (by decide) (fun z169 u H locs Y S s169 p169 => ?_)
                                    obtain ⟨I169, J169, B169, G169⟩ := u
                                    dsimp only at Y S s169 p169
                                    have i169 : I160 = I169 := (funext (fun j => s169.2.1 j (by simp))).symm
                                    subst i169
                                    have b169 : B160 = B169 := (funext (fun j => s169.2.2 j (by simp))).symm
                                    subst b169
                                    obtain ⟨l169, u169, x169⟩ := p169
                                    refine lv_aload_n X.1 X.2.1 d_M_taken_319 rfl (lv_at hl 1 rfl) ?_
                                    refine lv_iconst (v := iI 3) X.1 X.2.1 d_M_taken_320 (by decide) ?_
                                    refine lv_iconst (v := iI 1) X.1 X.2.1 d_M_taken_321 (by decide) ?_
                                    refine r_ni (m_run (As := [.int (iI 3), .int (iI 1)]) (rest := [.int (iI z169), .int (iI z167), .int (iI z166), .ref h]) (n := 2) X Y hZ hA hml hl.1 (r_M_b l D E h q H.size I160 J169 B160 G169 3 (by decide) (by decide) 1 (by decide) (by decide) S.1) kl_M_b ks_M_b kx_M_b ki_M_b ini_M hd_M_b ⟨Nat.le_of_ble_eq_true rfl, Nat.le_of_ble_eq_true rfl⟩ rfl (Nat.le_of_ble_eq_true rfl) d_M_taken_322 ⟨Nat.le_refl _, Nat.le_refl _⟩) X Y hA S (by decide) (by decide) (fun z170 u H locs Y S s170 p170 => ?_)
                                    obtain ⟨I170, J170, B170, G170⟩ := u
                                    dsimp only at Y S s170 p170
                                    have i170 : I160 = I170 := (funext (fun j => s170.2.1 j (by simp))).symm
                                    subst i170
                                    have b170 : B160 = B170 := (funext (fun j => s170.2.2 j (by simp))).symm
                                    subst b170
                                    obtain ⟨l170, u170, x170⟩ := p170
                                    have p171 : pr z169 z170 := by rw [x169, x170]; exact (pG2_cg rfl rfl (pG2_cg rfl rfl (pG2_cg rfl rfl (pG2_cg rfl rfl g160_P2)))) (16 * 3 + 1 : Int).toNat (by omega)
                                    unfold pr at p171
                                    refine r_ni (m_run (As := [.int (iI z166), .int (iI z167), .int (iI z169), .int (iI z170)]) (rest := []) (n := 4) X Y hZ hA hml hl.1 (r_M_isSame l D E h q H.size I160 J170 B160 G170 z166 (by omega) (by omega) z167 (by omega) (by omega) z169 (by omega) (by omega) z170 (by omega) (by omega) S.1 (by omega) (by omega)) kl_M_isSame ks_M_isSame kx_M_isSame ki_M_isSame ini_M hd_M_isSame ⟨Nat.le_of_ble_eq_true rfl, Nat.le_of_ble_eq_true rfl⟩ rfl (Nat.le_of_ble_eq_true rfl) d_M_taken_325 ⟨Nat.le_refl _, Nat.le_refl _⟩) X Y hA S (by decide) (by decide) (fun z172 u H locs Y S s172 p172 => ?_)
                                    obtain ⟨I172, J172, B172, G172⟩ := u
                                    dsimp only at Y S s172 p172
                                    have i172 : I160 = I172 := (funext (fun j => s172.2.1 j (by simp))).symm
                                    subst i172
                                    have b172 : B160 = B172 := (funext (fun j => s172.2.2 j (by simp))).symm
                                    subst b172
                                    have f173 : stA (B160 110) (B160 118) (B160 119) (B160 120) := (stA_cg rfl rfl rfl rfl (stA_cg rfl rfl rfl rfl (stA_cg rfl rfl rfl rfl (stA_cg rfl rfl rfl rfl (stA_cg rfl rfl rfl rfl (stA_cg (s160.2.2 110 (by decide)) (s160.2.2 118 (by decide)) (s160.2.2 119 (by decide)) (s160.2.2 120 (by decide)) (stA_cg rfl rfl rfl rfl f156)))))))
                                    obtain ⟨l172, u172, x172⟩ := p172
                                    refine z_if_eq (tgt := 364) X.1 X.2.1 d_M_taken_328 (by decide) ⟨by omega, by omega⟩ (fun h174 => ?_) (fun h174 => ?_)
                                    · refine lv_bipush (v := iI (-41)) X.1 X.2.1 d_M_taken_364 (by decide) ?_
                                      exact m_reti hQQ X Y hr hlk ⟨S, (-41), rfl, ⟨by omega, by omega, (pG1_cg rfl rfl (pG1_cg rfl rfl (pG1_cg rfl rfl (pG1_cg rfl rfl (pG1_cg rfl rfl g160_P1))))), (pG2_cg rfl rfl (pG2_cg rfl rfl (pG2_cg rfl rfl (pG2_cg rfl rfl (pG2_cg rfl rfl g160_P2))))), (stT_cg rfl rfl rfl rfl rfl rfl (stT_cg rfl rfl rfl rfl rfl rfl (stT_cg rfl rfl rfl rfl rfl rfl (stT_cg rfl rfl rfl rfl rfl rfl (stT_cg rfl rfl rfl rfl rfl rfl f161))))), f173⟩⟩ d_M_taken_366
                                    · as_aux_lemma =>
                                        refine lv_aload_n X.1 X.2.1 d_M_taken_331 rfl (lv_at hl 1 rfl) ?_
                                        refine lv_aload_n X.1 X.2.1 d_M_taken_332 rfl (lv_at hl 1 rfl) ?_
                                        refine lv_iconst (v := iI 4) X.1 X.2.1 d_M_taken_333 (by decide) ?_
                                        refine lv_bipush (v := iI 10) X.1 X.2.1 d_M_taken_334 (by decide) ?_
                                        refine r_ni (m_run (As := [.int (iI 4), .int (iI 10)]) (rest := [.ref h]) (n := 2) X Y hZ hA hml hl.1 (r_M_a l D E h q H.size I160 J172 B160 G172 4 (by decide) (by decide) 10 (by decide) (by decide) S.1) kl_M_a ks_M_a kx_M_a ki_M_a ini_M hd_M_a ⟨Nat.le_of_ble_eq_true rfl, Nat.le_of_ble_eq_true rfl⟩ rfl (Nat.le_of_ble_eq_true rfl) d_M_taken_336 ⟨Nat.le_refl _, Nat.le_refl _⟩) X Y hA S (by decide) (by decide) (fun z175 u H locs Y S s175 p175 => ?_)
                                        obtain ⟨I175, J175, B175, G175⟩ := u
                                        dsimp only at Y S s175 p175
                                        have i175 : I160 = I175 := (funext (fun j => s175.2.1 j (by simp))).symm
                                        subst i175
                                        have b175 : B160 = B175 := (funext (fun j => s175.2.2 j (by simp))).symm
                                        subst b175
                                        obtain ⟨l175, u175, x175⟩ := p175
                                        refine lv_aload_n X.1 X.2.1 d_M_taken_339 rfl (lv_at hl 1 rfl) ?_
                                        refine lv_iconst (v := iI 4) X.1 X.2.1 d_M_taken_340 (by decide) ?_
                                        refine lv_bipush (v := iI 10) X.1 X.2.1 d_M_taken_341 (by decide) ?_
                                        refine r_ni (m_run (As := [.int (iI 4), .int (iI 10)]) (rest := [.int (iI z175), .ref h]) (n := 2) X Y hZ hA hml hl.1 (r_M_b l D E h q H.size I160 J175 B160 G175 4 (by decide) (by decide) 10 (by decide) (by decide) S.1) kl_M_b ks_M_b kx_M_b ki_M_b ini_M hd_M_b ⟨Nat.le_of_ble_eq_true rfl, Nat.le_of_ble_eq_true rfl⟩ rfl (Nat.le_of_ble_eq_true rfl) d_M_taken_343 ⟨Nat.le_refl _, Nat.le_refl _⟩) X Y hA S (by decide) (by decide) (fun z176 u H locs Y S s176 p176 => ?_)
                                        obtain ⟨I176, J176, B176, G176⟩ := u
                                        dsimp only at Y S s176 p176
                                        have i176 : I160 = I176 := (funext (fun j => s176.2.1 j (by simp))).symm
                                        subst i176
                                        have b176 : B160 = B176 := (funext (fun j => s176.2.2 j (by simp))).symm
                                        subst b176
                                        obtain ⟨l176, u176, x176⟩ := p176
                                        have p177 : pr z175 z176 := by rw [x175, x176]; exact (pG2_cg rfl rfl (pG2_cg rfl rfl (pG2_cg rfl rfl (pG2_cg rfl rfl (pG2_cg rfl rfl (pG2_cg rfl rfl (pG2_cg rfl rfl g160_P2))))))) (16 * 4 + 10 : Int).toNat (by omega)
                                        unfold pr at p177
                                        refine lv_aload_n X.1 X.2.1 d_M_taken_346 rfl (lv_at hl 1 rfl) ?_
                                        refine lv_iconst (v := iI 3) X.1 X.2.1 d_M_taken_347 (by decide) ?_
                                        refine lv_iconst (v := iI 2) X.1 X.2.1 d_M_taken_348 (by decide) ?_
                                        refine r_ni (m_run (As := [.int (iI 3), .int (iI 2)]) (rest := [.int (iI z176), .int (iI z175), .ref h]) (n := 2) X Y hZ hA hml hl.1 (r_M_a l D E h q H.size I160 J176 B160 G176 3 (by decide) (by decide) 2 (by decide) (by decide) S.1) kl_M_a ks_M_a kx_M_a ki_M_a ini_M hd_M_a ⟨Nat.le_of_ble_eq_true rfl, Nat.le_of_ble_eq_true rfl⟩ rfl (Nat.le_of_ble_eq_true rfl) d_M_taken_349 ⟨Nat.le_refl _, Nat.le_refl _⟩) X Y hA S (by decide) (by decide) (fun z178 u H locs Y S s178 p178 => ?_)
                                        obtain ⟨I178, J178, B178, G178⟩ := u
                                        dsimp only at Y S s178 p178
                                        have i178 : I160 = I178 := (funext (fun j => s178.2.1 j (by simp))).symm
                                        subst i178
                                        have b178 : B160 = B178 := (funext (fun j => s178.2.2 j (by simp))).symm
                                        subst b178
                                        have f179 : stT (B160 97) (B160 98) (B160 100) (B160 107) (B160 108) (B160 109) := (stT_cg rfl rfl rfl rfl rfl rfl (stT_cg rfl rfl rfl rfl rfl rfl (stT_cg rfl rfl rfl rfl rfl rfl (stT_cg rfl rfl rfl rfl rfl rfl (stT_cg rfl rfl rfl rfl rfl rfl (stT_cg rfl rfl rfl rfl rfl rfl (stT_cg rfl rfl rfl rfl rfl rfl (stT_cg rfl rfl rfl rfl rfl rfl f161))))))))
                                        obtain ⟨l178, u178, x178⟩ := p178
                                        refine lv_aload_n X.1 X.2.1 d_M_taken_352 rfl (lv_at hl 1 rfl) ?_
                                        refine lv_iconst (v := iI 3) X.1 X.2.1 d_M_taken_353 (by decide) ?_
                                        refine lv_iconst (v := iI 2) X.1 X.2.1 d_M_taken_354 (by decide) ?_
                                        refine r_ni (m_run (As := [.int (iI 3), .int (iI 2)]) (rest := [.int (iI z178), .int (iI z176), .int (iI z175), .ref h]) (n := 2) X Y hZ hA hml hl.1 (r_M_b l D E h q H.size I160 J178 B160 G178 3 (by decide) (by decide) 2 (by decide) (by decide) S.1) kl_M_b ks_M_b kx_M_b ki_M_b ini_M hd_M_b ⟨Nat.le_of_ble_eq_true rfl, Nat.le_of_ble_eq_true rfl⟩ rfl (Nat.le_of_ble_eq_true rfl) d_M_taken_355 ⟨Nat.le_refl _, Nat.le_refl _⟩) X Y hA S (by decide) (by decide) (fun z180 u H locs Y S s180 p180 => ?_)
                                        obtain ⟨I180, J180, B180, G180⟩ := u
                                        dsimp only at Y S s180 p180
                                        have i180 : I160 = I180 := (funext (fun j => s180.2.1 j (by simp))).symm
                                        subst i180
                                        have b180 : B160 = B180 := (funext (fun j => s180.2.2 j (by simp))).symm
                                        subst b180
                                        obtain ⟨l180, u180, x180⟩ := p180
                                        have p181 : pr z178 z180 := by rw [x178, x180]; exact (pG2_cg rfl rfl (pG2_cg rfl rfl (pG2_cg rfl rfl (pG2_cg rfl rfl (pG2_cg rfl rfl (pG2_cg rfl rfl (pG2_cg rfl rfl (pG2_cg rfl rfl (pG2_cg rfl rfl g160_P2))))))))) (16 * 3 + 2 : Int).toNat (by omega)
                                        unfold pr at p181
                                        refine r_ni (m_run (As := [.int (iI z175), .int (iI z176), .int (iI z178), .int (iI z180)]) (rest := []) (n := 4) X Y hZ hA hml hl.1 (r_M_sameNames l D E h q H.size I160 J180 B160 G180 z175 (by omega) (by omega) z176 (by omega) (by omega) z178 (by omega) (by omega) z180 (by omega) (by omega) S.1 (pG1_cg rfl rfl (pG1_cg rfl rfl (pG1_cg rfl rfl (pG1_cg rfl rfl (pG1_cg rfl rfl (pG1_cg rfl rfl (pG1_cg rfl rfl (pG1_cg rfl rfl (pG1_cg rfl rfl g160_P1))))))))) (pG2_cg rfl rfl (pG2_cg rfl rfl (pG2_cg rfl rfl (pG2_cg rfl rfl (pG2_cg rfl rfl (pG2_cg rfl rfl (pG2_cg rfl rfl (pG2_cg rfl rfl (pG2_cg rfl rfl g160_P2))))))))) (by omega) (by omega) (by omega) (by omega)) kl_M_sameNames ks_M_sameNames kx_M_sameNames ki_M_sameNames ini_M hd_M_sameNames ⟨Nat.le_of_ble_eq_true rfl, Nat.le_of_ble_eq_true rfl⟩ rfl (Nat.le_of_ble_eq_true rfl) d_M_taken_358 ⟨Nat.le_refl _, Nat.le_refl _⟩) X Y hA S (by decide) (by decide) (fun z182 u H locs Y S s182 p182 => ?_)
                                        obtain ⟨I182, J182, B182, G182⟩ := u
                                        dsimp only at Y S s182 p182
                                        have f183 : akA a1 a2 (B182 118) (B182 119) (B182 120) := (akA_cg (s182.2.2 118 (by decide)) (s182.2.2 119 (by decide)) (s182.2.2 120 (by decide)) (akA_cg rfl rfl rfl (akA_cg rfl rfl rfl (akA_cg rfl rfl rfl (akA_cg rfl rfl rfl (akA_cg rfl rfl rfl (akA_cg rfl rfl rfl (akA_cg rfl rfl rfl (akA_cg rfl rfl rfl (akA_cg rfl rfl rfl f162))))))))))
                                        obtain ⟨l182, u182, x182, g182_P1, g182_P2, g182_TF⟩ := p182
                                        have f184 : rpA (B182 37) (B182 38) (B182 0) := (rpA_cg (s182.2.2 0 (by decide)) rfl rfl (rpA_T g182_TF (by decide) (by decide) (rpA_cg rfl rfl rfl (rpA_cg rfl rfl rfl (rpA_cg rfl rfl rfl (rpA_cg rfl rfl rfl (rpA_cg rfl rfl rfl (rpA_cg rfl rfl rfl (rpA_cg rfl rfl rfl (rpA_cg rfl rfl rfl (rpA_cg rfl rfl rfl f163)))))))))))
                                        have f185 : rzA (B182 37) (B182 38) (B182 0) := (rzA_cg (s182.2.2 0 (by decide)) rfl rfl (rzA_T g182_TF (by decide) (by decide) (rzA_cg rfl rfl rfl (rzA_cg rfl rfl rfl (rzA_cg rfl rfl rfl (rzA_cg rfl rfl rfl (rzA_cg rfl rfl rfl (rzA_cg rfl rfl rfl (rzA_cg rfl rfl rfl (rzA_cg rfl rfl rfl (rzA_cg rfl rfl rfl f164)))))))))))
                                        refine z_if_ne (tgt := 367) X.1 X.2.1 d_M_taken_361 (by decide) ⟨by omega, by omega⟩ (fun h186 => ?_) (fun h186 => ?_)
                                        · as_aux_lemma =>
                                            refine lv_aload_n X.1 X.2.1 d_M_taken_367 rfl (lv_at hl 1 rfl) ?_
                                            refine lv_iconst (v := iI 4) X.1 X.2.1 d_M_taken_368 (by decide) ?_
                                            refine lv_iconst (v := iI 0) X.1 X.2.1 d_M_taken_369 (by decide) ?_
                                            refine lv_aload_n X.1 X.2.1 d_M_taken_370 rfl (lv_at hl 1 rfl) ?_
                                            refine m_get X Y 59 (by decide) lk_sub (gf_sub _ _ _) rfl d_M_taken_371 ?_
                                            refine r_ni (m_run (As := [.int (iI 4), .int (iI 0), .ref ((q 59))]) (rest := []) (n := 3) X Y hZ hA hml hl.1 (r_M_keyIn_sub l D E h q H.size I182 J182 B182 G182 4 (by decide) (by decide) 0 (by decide) (by decide) S.1 g182_P1 g182_P2) kl_M_keyIn ks_M_keyIn kx_M_keyIn ki_M_keyIn ini_M hd_M_keyIn ⟨Nat.le_of_ble_eq_true rfl, Nat.le_of_ble_eq_true rfl⟩ rfl (Nat.le_of_ble_eq_true rfl) d_M_taken_374 ⟨Nat.le_refl _, Nat.le_refl _⟩) X Y hA S (by decide) (by decide) (fun z187 u H locs Y S s187 p187 => ?_)
                                            obtain ⟨I187, J187, B187, G187⟩ := u
                                            dsimp only at Y S s187 p187
                                            have f188 : stT (B187 97) (B187 98) (B187 100) (B187 107) (B187 108) (B187 109) := (stT_cg (s187.2.2 97 (by decide)) (s187.2.2 98 (by decide)) (s187.2.2 100 (by decide)) (s187.2.2 107 (by decide)) (s187.2.2 108 (by decide)) (s187.2.2 109 (by decide)) (stT_cg (s182.2.2 97 (by decide)) (s182.2.2 98 (by decide)) (s182.2.2 100 (by decide)) (s182.2.2 107 (by decide)) (s182.2.2 108 (by decide)) (s182.2.2 109 (by decide)) (stT_cg rfl rfl rfl rfl rfl rfl f179)))
                                            have f189 : stA (B187 110) (B187 118) (B187 119) (B187 120) := (stA_cg (s187.2.2 110 (by decide)) (s187.2.2 118 (by decide)) (s187.2.2 119 (by decide)) (s187.2.2 120 (by decide)) (stA_cg (s182.2.2 110 (by decide)) (s182.2.2 118 (by decide)) (s182.2.2 119 (by decide)) (s182.2.2 120 (by decide)) (stA_cg rfl rfl rfl rfl (stA_cg rfl rfl rfl rfl (stA_cg rfl rfl rfl rfl (stA_cg rfl rfl rfl rfl f173))))))
                                            obtain ⟨l187, u187, x187, g187_P1, g187_P2, g187_TF⟩ := p187
                                            have f190 : rpA (B187 37) (B187 38) (B187 0) := (rpA_cg (s187.2.2 0 (by decide)) rfl rfl (rpA_T g187_TF (by decide) (by decide) f184))
                                            have f191 : rzA (B187 37) (B187 38) (B187 0) := (rzA_cg (s187.2.2 0 (by decide)) rfl rfl (rzA_T g187_TF (by decide) (by decide) f185))
                                            refine lv_istore (lv' := [(4, .int (iI z187)), (3, .int (iI 1)), (0, .ref h), (1, .int (iI a1))]) X.1 X.2.1 d_M_taken_377 hl (by decide) rfl (fun ls hl => ?_)
                                            refine lv_iload X.1 X.2.1 d_M_taken_379 (lv_at hl 0 rfl) ?_
                                            refine z_if_ne (tgt := 387) X.1 X.2.1 d_M_taken_381 (by decide) ⟨by omega, by omega⟩ (fun h192 => ?_) (fun h192 => ?_)
                                            · as_aux_lemma =>
                                                refine lv_aload_n X.1 X.2.1 d_M_taken_387 rfl (lv_at hl 2 rfl) ?_
                                                refine m_get X Y 115 (by decide) lk_askedRenew (gf_askedRenew _ _ _) rfl d_M_taken_388 ?_
                                                refine lv_iload_n X.1 X.2.1 d_M_taken_391 rfl (lv_at hl 3 rfl) ?_
                                                refine r_zald X Y S (aw_askedRenew _ _ _ _ _ _ _) rfl (by omega) (show a1 < ((4 : Nat) : Int) by omega) (by omega) d_M_taken_392 (fun z193 q193 l193 u193 => ?_)
                                                have J202 : ∀ (I194 : Nat → Int32) (J194 : Nat → Int64) (B194 : Nat → Nat → Int32) (G194 : Nat → Nat → Int64) (H : Heap) (locs : List Loc) (ls : Array Slot), (akA a1 a2 (B194 118) (B194 119) (B194 120)) → (stA (B194 110) (B194 118) (B194 119) (B194 120)) → (stT (B194 97) (B194 98) (B194 100) (B194 107) (B194 108) (B194 109)) → (pG1 I194) → (pG2 (B194 37) (B194 38)) → (rpA (B194 37) (B194 38) (B194 0)) → (rzA (B194 37) (B194 38) (B194 0)) → mH D E (mA E h q sz) s.heap h q I194 J194 B194 G194 H locs → rS [39, 40, 42] [0, 37, 38, 59, 97, 98, 99, 100, 101, 102, 107, 108, 109] I B I194 B194 → lv_has ls 8 [(0, .ref h), (1, .int (iI a1)), (4, .int (iI z187))] → W p l e (mR 45 2041) s m AV below meth c H locs 0 0 QQ (F0 m 419 ls []) := by
                                                  as_aux_lemma =>
                                                    intro I194 J194 B194 G194 H locs ls f195 f196 f197 f198 f199 f200 f201 Y S hl
                                                    refine lv_iconst (v := iI 0) X.1 X.2.1 d_M_taken_419 (by decide) ?_
                                                    have J207 : ∀ (n209 : Nat) (z206 : Int) (H : Heap) (locs : List Loc) (ls : Array Slot), (8 - z206).toNat = n209 → (0 ≤ z206) → (z206 ≤ 8) → mH D E (mA E h q sz) s.heap h q I194 J194 B194 G194 H locs → rS [39, 40, 42] [0, 37, 38, 59, 97, 98, 99, 100, 101, 102, 107, 108, 109] I B I194 B194 → lv_has ls 8 [(0, .ref h), (1, .int (iI a1)), (4, .int (iI z187)), (5, .int (iI z206))] → W p l e (mR 45 2041) s m AV below meth c H locs 0 0 QQ (F0 m 422 ls []) := by
                                                      as_aux_lemma =>
                                                        intro n209
                                                        induction n209 using Nat.strongRecOn with
                                                        | ind n209 ih208 =>
                                                          intro z206 H locs ls hm210 l206 u206 Y S hl
                                                          refine lv_iload X.1 X.2.1 d_M_taken_422 (lv_at hl 3 rfl) ?_
                                                          refine lv_bipush (v := iI 8) X.1 X.2.1 d_M_taken_424 (by decide) ?_
                                                          have J211 : ∀  (H : Heap) (locs : List Loc) (ls : Array Slot), mH D E (mA E h q sz) s.heap h q I194 J194 B194 G194 H locs → rS [39, 40, 42] [0, 37, 38, 59, 97, 98, 99, 100, 101, 102, 107, 108, 109] I B I194 B194 → lv_has ls 8 [(0, .ref h), (1, .int (iI a1)), (4, .int (iI z187)), (5, .int (iI z206))] → W p l e (mR 45 2041) s m AV below meth c H locs 0 0 QQ (F0 m 450 ls []) := by
                                                            as_aux_lemma =>
                                                              intro  H locs ls  Y S hl
                                                              refine lv_iload X.1 X.2.1 d_M_taken_450 (lv_at hl 3 rfl) ?_
                                                              refine lv_bipush (v := iI 8) X.1 X.2.1 d_M_taken_452 (by decide) ?_
                                                              refine z_icmp_ne (tgt := 460) X.1 X.2.1 d_M_taken_454 (by decide) ⟨by omega, by omega⟩ ⟨by decide, by decide⟩ (fun h215 => ?_) (fun h215 => ?_)
                                                              · as_aux_lemma =>
                                                                  refine lv_bipush (v := iI 8) X.1 X.2.1 d_M_taken_460 (by decide) ?_
                                                                  refine lv_iload_n X.1 X.2.1 d_M_taken_462 rfl (lv_at hl 1 rfl) ?_
                                                                  refine z_imul X.1 X.2.1 d_M_taken_463 ?_
                                                                  refine lv_iload X.1 X.2.1 d_M_taken_464 (lv_at hl 3 rfl) ?_
                                                                  refine z_iadd X.1 X.2.1 d_M_taken_466 ?_
                                                                  refine lv_istore (lv' := [(6, .int (iI ((8 * a1) + z206))), (0, .ref h), (1, .int (iI a1)), (4, .int (iI z187)), (5, .int (iI z206))]) X.1 X.2.1 d_M_taken_467 hl (by decide) rfl (fun ls hl => ?_)
                                                                  refine lv_aload_n X.1 X.2.1 d_M_taken_469 rfl (lv_at hl 1 rfl) ?_
                                                                  refine m_get X Y 97 (by decide) lk_isTicket (gf_isTicket _ _ _) rfl d_M_taken_470 ?_
                                                                  refine lv_iload X.1 X.2.1 d_M_taken_473 (lv_at hl 0 rfl) ?_
                                                                  refine lv_iconst (v := iI 1) X.1 X.2.1 d_M_taken_475 (by decide) ?_
                                                                  refine r_zast X Y S (aw_isTicket _ _ _ _ _ _ _) (sw_isTicket _ _ _ _ _ _ _) rfl ⟨by omega, by omega⟩ (by omega) (show (8 * a1) + z206 < ((32 : Nat) : Int) by omega) (by omega) (by decide) d_M_taken_476 (fun B216 H locs Y S w216 => ?_)
                                                                  have f217 : stX ((8 * a1) + z206) (B216 97) (B216 98) (B216 100) (B216 107) (B216 108) (B216 109) := by rw [w216.1, w216.2 98 (by decide), w216.2 100 (by decide), w216.2 107 (by decide), w216.2 108 (by decide), w216.2 109 (by decide)]; exact stX_97 (show (((8 * a1) + z206).toNat : Int) = (8 * a1) + z206 by omega) (stX_of f197)
                                                                  refine lv_aload_n X.1 X.2.1 d_M_taken_477 rfl (lv_at hl 1 rfl) ?_
                                                                  refine m_get X Y 102 (by decide) lk_ticketTypes (gf_ticketTypes _ _ _) rfl d_M_taken_478 ?_
                                                                  refine lv_iload X.1 X.2.1 d_M_taken_481 (lv_at hl 0 rfl) ?_
                                                                  refine lv_iload X.1 X.2.1 d_M_taken_483 (lv_at hl 3 rfl) ?_
                                                                  refine r_iast X Y S (aw_ticketTypes _ _ _ _ _ _ _) (sw_ticketTypes _ _ _ _ _ _ _) rfl ⟨(show (0 : Int) ≤ z187 by omega), (show z187 ≤ (18 : Int) by omega)⟩ ⟨by omega, by omega⟩ (by omega) (show (8 * a1) + z206 < ((32 : Nat) : Int) by omega) (by omega) (by decide) d_M_taken_485 (fun B218 H locs Y S w218 => ?_)
                                                                  refine lv_iconst (v := iI 0) X.1 X.2.1 d_M_taken_486 (by decide) ?_
                                                                  have J228 : ∀ (n230 : Nat) (z220 : Int) (I219 : Nat → Int32) (J219 : Nat → Int64) (B219 : Nat → Nat → Int32) (G219 : Nat → Nat → Int64) (H : Heap) (locs : List Loc) (ls : Array Slot), (32 - z220).toNat = n230 → (0 ≤ z220) → (z220 ≤ 32) → (akA a1 a2 (B219 118) (B219 119) (B219 120)) → (stA (B219 110) (B219 118) (B219 119) (B219 120)) → (stX ((8 * a1) + z206) (B219 97) (B219 98) (B219 100) (B219 107) (B219 108) (B219 109)) → (pG1 I219) → (pG2 (B219 37) (B219 38)) → (rpA (B219 37) (B219 38) (B219 0)) → (rzA (B219 37) (B219 38) (B219 0)) → mH D E (mA E h q sz) s.heap h q I219 J219 B219 G219 H locs → rS [39, 40, 42] [0, 37, 38, 59, 97, 98, 99, 100, 101, 102, 107, 108, 109] I B I219 B219 → lv_has ls 8 [(0, .ref h), (5, .int (iI z206)), (6, .int (iI ((8 * a1) + z206))), (7, .int (iI z220))] → W p l e (mR 45 2041) s m AV below meth c H locs 0 0 QQ (F0 m 489 ls []) := by
                                                                    as_aux_lemma =>
                                                                      intro n230
                                                                      induction n230 using Nat.strongRecOn with
                                                                      | ind n230 ih229 =>
                                                                        intro z220 I219 J219 B219 G219 H locs ls hm231 l220 u220 f221 f222 f223 f224 f225 f226 f227 Y S hl
                                                                        refine lv_iload X.1 X.2.1 d_M_taken_489 (lv_at hl 3 rfl) ?_
                                                                        refine lv_bipush (v := iI 32) X.1 X.2.1 d_M_taken_491 (by decide) ?_
                                                                        refine z_icmp_ge (tgt := 522) X.1 X.2.1 d_M_taken_493 (by decide) ⟨by omega, by omega⟩ ⟨by decide, by decide⟩ (fun h232 => ?_) (fun h232 => ?_)
                                                                        · as_aux_lemma =>
                                                                            refine lv_aload_n X.1 X.2.1 d_M_taken_522 rfl (lv_at hl 0 rfl) ?_
                                                                            refine m_get X Y 101 (by decide) lk_ticketFlags (gf_ticketFlags _ _ _) rfl d_M_taken_523 ?_
                                                                            refine lv_iload X.1 X.2.1 d_M_taken_526 (lv_at hl 2 rfl) ?_
                                                                            refine lv_aload_n X.1 X.2.1 d_M_taken_528 rfl (lv_at hl 0 rfl) ?_
                                                                            refine lv_iconst (v := iI 4) X.1 X.2.1 d_M_taken_529 (by decide) ?_
                                                                            refine lv_iconst (v := iI 4) X.1 X.2.1 d_M_taken_530 (by decide) ?_
                                                                            refine r_ni (m_run (As := [.int (iI 4), .int (iI 4)]) (rest := [.int (iI ((8 * a1) + z206)), .ref ((q 101))]) (n := 2) X Y hZ hA hml hl.1 (r_M_flagsAt l D E h q H.size I219 J219 B219 G219 4 (by decide) (by decide) 4 (by decide) (by decide) S.1 f224 f225) kl_M_flagsAt ks_M_flagsAt kx_M_flagsAt ki_M_flagsAt ini_M hd_M_flagsAt ⟨Nat.le_of_ble_eq_true rfl, Nat.le_of_ble_eq_true rfl⟩ rfl (Nat.le_of_ble_eq_true rfl) d_M_taken_531 ⟨Nat.le_refl _, Nat.le_refl _⟩) X Y hA S (by decide) (by decide) (fun z233 u H locs Y S s233 p233 => ?_)
                                                                            obtain ⟨I233, J233, B233, G233⟩ := u
                                                                            dsimp only at Y S s233 p233
                                                                            have b233 : B219 = B233 := (funext (fun j => s233.2.2 j (by simp))).symm
                                                                            subst b233
                                                                            obtain ⟨l233, u233, g233_P1⟩ := p233
                                                                            refine r_iast X Y S (aw_ticketFlags _ _ _ _ _ _ _) (sw_ticketFlags _ _ _ _ _ _ _) rfl ⟨(show ((-2147483648) : Int) ≤ z233 by omega), (show z233 ≤ (2147483647 : Int) by omega)⟩ ⟨by omega, by omega⟩ (by omega) (show (8 * a1) + z206 < ((32 : Nat) : Int) by omega) (by omega) (by decide) d_M_taken_534 (fun B234 H locs Y S w234 => ?_)
                                                                            refine lv_aload_n X.1 X.2.1 d_M_taken_535 rfl (lv_at hl 0 rfl) ?_
                                                                            refine m_get X Y 103 (by decide) lk_authTimes (gf_authTimes _ _ _) rfl d_M_taken_536 ?_
                                                                            refine lv_iload X.1 X.2.1 d_M_taken_539 (lv_at hl 2 rfl) ?_
                                                                            refine lv_aload_n X.1 X.2.1 d_M_taken_541 rfl (lv_at hl 0 rfl) ?_
                                                                            refine lv_iconst (v := iI 4) X.1 X.2.1 d_M_taken_542 (by decide) ?_
                                                                            refine lv_iconst (v := iI 5) X.1 X.2.1 d_M_taken_543 (by decide) ?_
                                                                            refine r_nl (m_run (As := [.int (iI 4), .int (iI 5)]) (rest := [.int (iI ((8 * a1) + z206)), .ref ((q 103))]) (n := 2) X Y hZ hA hml hl.1 (r_M_timeOf l D E h q H.size I233 J233 B234 G233 4 (by decide) (by decide) 5 (by decide) (by decide) S.1 (pG1_cg rfl rfl g233_P1) (pG2_cg (w234.2 37 (by decide)) (w234.2 38 (by decide)) (pG2_cg rfl rfl f225))) kl_M_timeOf ks_M_timeOf kx_M_timeOf ki_M_timeOf ini_M hd_M_timeOf ⟨Nat.le_of_ble_eq_true rfl, Nat.le_of_ble_eq_true rfl⟩ rfl (Nat.le_of_ble_eq_true rfl) d_M_taken_544 ⟨Nat.le_refl _, Nat.le_refl _⟩) X Y hA S (by decide) (by decide) (fun v235 u H locs Y S s235 p235 => ?_)
                                                                            obtain ⟨I235, J235, B235, G235⟩ := u
                                                                            dsimp only at Y S s235 p235
                                                                            have b235 : B234 = B235 := (funext (fun j => s235.2.2 j (by simp))).symm
                                                                            subst b235
                                                                            have g235_P1 := p235
                                                                            refine r_last X Y (aw_authTimes _ _ _ _ _ _ _) (sw_authTimes _ _ _ _ _ _ _) (by omega) (show (8 * a1) + z206 < ((32 : Nat) : Int) by omega) (by omega) d_M_taken_547 (fun G236 H locs Y => ?_)
                                                                            refine lv_aload_n X.1 X.2.1 d_M_taken_548 rfl (lv_at hl 0 rfl) ?_
                                                                            refine m_get X Y 104 (by decide) lk_startTimes (gf_startTimes _ _ _) rfl d_M_taken_549 ?_
                                                                            refine lv_iload X.1 X.2.1 d_M_taken_552 (lv_at hl 2 rfl) ?_
                                                                            refine lv_aload_n X.1 X.2.1 d_M_taken_554 rfl (lv_at hl 0 rfl) ?_
                                                                            refine lv_iconst (v := iI 4) X.1 X.2.1 d_M_taken_555 (by decide) ?_
                                                                            refine lv_bipush (v := iI 6) X.1 X.2.1 d_M_taken_556 (by decide) ?_
                                                                            refine r_ni (m_run (As := [.int (iI 4), .int (iI 6)]) (rest := [.int (iI ((8 * a1) + z206)), .ref ((q 104))]) (n := 2) X Y hZ hA hml hl.1 (r_M_has l D E h q H.size I235 J235 B234 G236 4 (by decide) (by decide) 6 (by decide) (by decide) S.1) kl_M_has ks_M_has kx_M_has ki_M_has ini_M hd_M_has ⟨Nat.le_of_ble_eq_true rfl, Nat.le_of_ble_eq_true rfl⟩ rfl (Nat.le_of_ble_eq_true rfl) d_M_taken_558 ⟨Nat.le_refl _, Nat.le_refl _⟩) X Y hA S (by decide) (by decide) (fun z237 u H locs Y S s237 p237 => ?_)
                                                                            obtain ⟨I237, J237, B237, G237⟩ := u
                                                                            dsimp only at Y S s237 p237
                                                                            have i237 : I235 = I237 := (funext (fun j => s237.2.1 j (by simp))).symm
                                                                            subst i237
                                                                            have b237 : B234 = B237 := (funext (fun j => s237.2.2 j (by simp))).symm
                                                                            subst b237
                                                                            have f238 : stX ((8 * a1) + z206) (B234 97) (B234 98) (B234 100) (B234 107) (B234 108) (B234 109) := (stX_cg rfl rfl rfl rfl rfl rfl (stX_cg rfl rfl rfl rfl rfl rfl (stX_cg (w234.2 97 (by decide)) (w234.2 98 (by decide)) (w234.2 100 (by decide)) (w234.2 107 (by decide)) (w234.2 108 (by decide)) (w234.2 109 (by decide)) (stX_cg rfl rfl rfl rfl rfl rfl f223))))
                                                                            obtain ⟨l237, u237, x237⟩ := p237
                                                                            have J248 : ∀ (v240 : Int64) (I239 : Nat → Int32) (J239 : Nat → Int64) (B239 : Nat → Nat → Int32) (G239 : Nat → Nat → Int64) (H : Heap) (locs : List Loc) (ls : Array Slot), (akA a1 a2 (B239 118) (B239 119) (B239 120)) → (stA (B239 110) (B239 118) (B239 119) (B239 120)) → (stX ((8 * a1) + z206) (B239 97) (B239 98) (B239 100) (B239 107) (B239 108) (B239 109)) → (pG1 I239) → (pG2 (B239 37) (B239 38)) → (rpA (B239 37) (B239 38) (B239 0)) → (rzA (B239 37) (B239 38) (B239 0)) → mH D E (mA E h q sz) s.heap h q I239 J239 B239 G239 H locs → rS [39, 40, 42] [0, 37, 38, 59, 97, 98, 99, 100, 101, 102, 107, 108, 109] I B I239 B239 → lv_has ls 8 [(0, .ref h), (5, .int (iI z206)), (6, .int (iI ((8 * a1) + z206)))] → W p l e (mR 45 2041) s m AV below meth c H locs 0 0 QQ (F0 m 577 ls [.long v240, .int (iI ((8 * a1) + z206)), .ref ((q 104))]) := by
                                                                              as_aux_lemma =>
                                                                                intro v240 I239 J239 B239 G239 H locs ls f241 f242 f243 f244 f245 f246 f247 Y S hl
                                                                                refine r_last X Y (aw_startTimes _ _ _ _ _ _ _) (sw_startTimes _ _ _ _ _ _ _) (by omega) (show (8 * a1) + z206 < ((32 : Nat) : Int) by omega) (by omega) d_M_taken_577 (fun G252 H locs Y => ?_)
                                                                                refine lv_aload_n X.1 X.2.1 d_M_taken_578 rfl (lv_at hl 0 rfl) ?_
                                                                                refine m_get X Y 105 (by decide) lk_endTimes (gf_endTimes _ _ _) rfl d_M_taken_579 ?_
                                                                                refine lv_iload X.1 X.2.1 d_M_taken_582 (lv_at hl 2 rfl) ?_
                                                                                refine lv_aload_n X.1 X.2.1 d_M_taken_584 rfl (lv_at hl 0 rfl) ?_
                                                                                refine lv_iconst (v := iI 4) X.1 X.2.1 d_M_taken_585 (by decide) ?_
                                                                                refine lv_bipush (v := iI 7) X.1 X.2.1 d_M_taken_586 (by decide) ?_
                                                                                refine r_nl (m_run (As := [.int (iI 4), .int (iI 7)]) (rest := [.int (iI ((8 * a1) + z206)), .ref ((q 105))]) (n := 2) X Y hZ hA hml hl.1 (r_M_timeOf l D E h q H.size I239 J239 B239 G252 4 (by decide) (by decide) 7 (by decide) (by decide) S.1 f244 f245) kl_M_timeOf ks_M_timeOf kx_M_timeOf ki_M_timeOf ini_M hd_M_timeOf ⟨Nat.le_of_ble_eq_true rfl, Nat.le_of_ble_eq_true rfl⟩ rfl (Nat.le_of_ble_eq_true rfl) d_M_taken_588 ⟨Nat.le_refl _, Nat.le_refl _⟩) X Y hA S (by decide) (by decide) (fun v253 u H locs Y S s253 p253 => ?_)
                                                                                obtain ⟨I253, J253, B253, G253⟩ := u
                                                                                dsimp only at Y S s253 p253
                                                                                have b253 : B239 = B253 := (funext (fun j => s253.2.2 j (by simp))).symm
                                                                                subst b253
                                                                                have g253_P1 := p253
                                                                                refine r_last X Y (aw_endTimes _ _ _ _ _ _ _) (sw_endTimes _ _ _ _ _ _ _) (by omega) (show (8 * a1) + z206 < ((32 : Nat) : Int) by omega) (by omega) d_M_taken_591 (fun G254 H locs Y => ?_)
                                                                                refine lv_aload_n X.1 X.2.1 d_M_taken_592 rfl (lv_at hl 0 rfl) ?_
                                                                                refine m_get X Y 106 (by decide) lk_renewTimes (gf_renewTimes _ _ _) rfl d_M_taken_593 ?_
                                                                                refine lv_iload X.1 X.2.1 d_M_taken_596 (lv_at hl 2 rfl) ?_
                                                                                refine lv_aload_n X.1 X.2.1 d_M_taken_598 rfl (lv_at hl 0 rfl) ?_
                                                                                refine lv_iconst (v := iI 4) X.1 X.2.1 d_M_taken_599 (by decide) ?_
                                                                                refine lv_bipush (v := iI 8) X.1 X.2.1 d_M_taken_600 (by decide) ?_
                                                                                refine r_ni (m_run (As := [.int (iI 4), .int (iI 8)]) (rest := [.int (iI ((8 * a1) + z206)), .ref ((q 106))]) (n := 2) X Y hZ hA hml hl.1 (r_M_has l D E h q H.size I253 J253 B239 G254 4 (by decide) (by decide) 8 (by decide) (by decide) S.1) kl_M_has ks_M_has kx_M_has ki_M_has ini_M hd_M_has ⟨Nat.le_of_ble_eq_true rfl, Nat.le_of_ble_eq_true rfl⟩ rfl (Nat.le_of_ble_eq_true rfl) d_M_taken_602 ⟨Nat.le_refl _, Nat.le_refl _⟩) X Y hA S (by decide) (by decide) (fun z255 u H locs Y S s255 p255 => ?_)
                                                                                obtain ⟨I255, J255, B255, G255⟩ := u
                                                                                dsimp only at Y S s255 p255
                                                                                have i255 : I253 = I255 := (funext (fun j => s255.2.1 j (by simp))).symm
                                                                                subst i255
                                                                                have b255 : B239 = B255 := (funext (fun j => s255.2.2 j (by simp))).symm
                                                                                subst b255
                                                                                obtain ⟨l255, u255, x255⟩ := p255
                                                                                have J265 : ∀ (v257 : Int64) (I256 : Nat → Int32) (J256 : Nat → Int64) (B256 : Nat → Nat → Int32) (G256 : Nat → Nat → Int64) (H : Heap) (locs : List Loc) (ls : Array Slot), (akA a1 a2 (B256 118) (B256 119) (B256 120)) → (stA (B256 110) (B256 118) (B256 119) (B256 120)) → (stX ((8 * a1) + z206) (B256 97) (B256 98) (B256 100) (B256 107) (B256 108) (B256 109)) → (pG1 I256) → (pG2 (B256 37) (B256 38)) → (rpA (B256 37) (B256 38) (B256 0)) → (rzA (B256 37) (B256 38) (B256 0)) → mH D E (mA E h q sz) s.heap h q I256 J256 B256 G256 H locs → rS [39, 40, 42] [0, 37, 38, 59, 97, 98, 99, 100, 101, 102, 107, 108, 109] I B I256 B256 → lv_has ls 8 [(0, .ref h), (5, .int (iI z206)), (6, .int (iI ((8 * a1) + z206)))] → W p l e (mR 45 2041) s m AV below meth c H locs 0 0 QQ (F0 m 621 ls [.long v257, .int (iI ((8 * a1) + z206)), .ref ((q 106))]) := by
                                                                                  as_aux_lemma =>
                                                                                    intro v257 I256 J256 B256 G256 H locs ls f258 f259 f260 f261 f262 f263 f264 Y S hl
                                                                                    refine r_last X Y (aw_renewTimes _ _ _ _ _ _ _) (sw_renewTimes _ _ _ _ _ _ _) (by omega) (show (8 * a1) + z206 < ((32 : Nat) : Int) by omega) (by omega) d_M_taken_621 (fun G269 H locs Y => ?_)
                                                                                    refine lv_aload_n X.1 X.2.1 d_M_taken_622 rfl (lv_at hl 0 rfl) ?_
                                                                                    refine m_get X Y 100 (by decide) lk_ticketSizes (gf_ticketSizes _ _ _) rfl d_M_taken_623 ?_
                                                                                    refine lv_iload X.1 X.2.1 d_M_taken_626 (lv_at hl 2 rfl) ?_
                                                                                    refine lv_aload_n X.1 X.2.1 d_M_taken_628 rfl (lv_at hl 0 rfl) ?_
                                                                                    refine lv_iconst (v := iI 0) X.1 X.2.1 d_M_taken_629 (by decide) ?_
                                                                                    refine lv_iconst (v := iI 5) X.1 X.2.1 d_M_taken_630 (by decide) ?_
                                                                                    refine r_ni (m_run (As := [.int (iI 0), .int (iI 5)]) (rest := [.int (iI ((8 * a1) + z206)), .ref ((q 100))]) (n := 2) X Y hZ hA hml hl.1 (r_M_b l D E h q H.size I256 J256 B256 G269 0 (by decide) (by decide) 5 (by decide) (by decide) S.1) kl_M_b ks_M_b kx_M_b ki_M_b ini_M hd_M_b ⟨Nat.le_of_ble_eq_true rfl, Nat.le_of_ble_eq_true rfl⟩ rfl (Nat.le_of_ble_eq_true rfl) d_M_taken_631 ⟨Nat.le_refl _, Nat.le_refl _⟩) X Y hA S (by decide) (by decide) (fun z270 u H locs Y S s270 p270 => ?_)
                                                                                    obtain ⟨I270, J270, B270, G270⟩ := u
                                                                                    dsimp only at Y S s270 p270
                                                                                    have i270 : I256 = I270 := (funext (fun j => s270.2.1 j (by simp))).symm
                                                                                    subst i270
                                                                                    have b270 : B256 = B270 := (funext (fun j => s270.2.2 j (by simp))).symm
                                                                                    subst b270
                                                                                    obtain ⟨l270, u270, x270⟩ := p270
                                                                                    refine lv_aload_n X.1 X.2.1 d_M_taken_634 rfl (lv_at hl 0 rfl) ?_
                                                                                    refine lv_iconst (v := iI 0) X.1 X.2.1 d_M_taken_635 (by decide) ?_
                                                                                    refine lv_iconst (v := iI 5) X.1 X.2.1 d_M_taken_636 (by decide) ?_
                                                                                    refine r_ni (m_run (As := [.int (iI 0), .int (iI 5)]) (rest := [.int (iI z270), .int (iI ((8 * a1) + z206)), .ref ((q 100))]) (n := 2) X Y hZ hA hml hl.1 (r_M_a l D E h q H.size I256 J270 B256 G270 0 (by decide) (by decide) 5 (by decide) (by decide) S.1) kl_M_a ks_M_a kx_M_a ki_M_a ini_M hd_M_a ⟨Nat.le_of_ble_eq_true rfl, Nat.le_of_ble_eq_true rfl⟩ rfl (Nat.le_of_ble_eq_true rfl) d_M_taken_637 ⟨Nat.le_refl _, Nat.le_refl _⟩) X Y hA S (by decide) (by decide) (fun z271 u H locs Y S s271 p271 => ?_)
                                                                                    obtain ⟨I271, J271, B271, G271⟩ := u
                                                                                    dsimp only at Y S s271 p271
                                                                                    have i271 : I256 = I271 := (funext (fun j => s271.2.1 j (by simp))).symm
                                                                                    subst i271
                                                                                    have b271 : B256 = B271 := (funext (fun j => s271.2.2 j (by simp))).symm
                                                                                    subst b271
                                                                                    obtain ⟨l271, u271, x271⟩ := p271
                                                                                    have p272 : pr z271 z270 := by rw [x271, x270]; exact (pG2_cg rfl rfl (pG2_cg rfl rfl f262)) (16 * 0 + 5 : Int).toNat (by omega)
                                                                                    unfold pr at p272
                                                                                    refine z_isub X.1 X.2.1 d_M_taken_640 ?_
                                                                                    refine r_iast X Y S (aw_ticketSizes _ _ _ _ _ _ _) (sw_ticketSizes _ _ _ _ _ _ _) rfl ⟨(show (0 : Int) ≤ z270 - z271 by omega), (show z270 - z271 ≤ (4200 : Int) by omega)⟩ ⟨by omega, by omega⟩ (by omega) (show (8 * a1) + z206 < ((32 : Nat) : Int) by omega) (by omega) (by decide) d_M_taken_641 (fun B273 H locs Y S w273 => ?_)
                                                                                    have f274 : stX ((8 * a1) + z206) (B273 97) (B273 98) (B273 100) (B273 107) (B273 108) (B273 109) := by rw [w273.1, w273.2 97 (by decide), w273.2 98 (by decide), w273.2 107 (by decide), w273.2 108 (by decide), w273.2 109 (by decide)]; exact stX_100 (show (((8 * a1) + z206).toNat : Int) = (8 * a1) + z206 by omega) (stX_cg rfl rfl rfl rfl rfl rfl (stX_cg rfl rfl rfl rfl rfl rfl f260))
                                                                                    have f275 : z100 ((8 * a1) + z206) (B273 100) (B273 37) (B273 38) := by unfold z100; rw [w273.1, pk_us, w273.2 37 (by decide), w273.2 38 (by decide), iI_toInt ⟨by omega, by omega⟩]; omega
                                                                                    refine lv_iconst (v := iI 0) X.1 X.2.1 d_M_taken_642 (by decide) ?_
                                                                                    have J288 : ∀ (n290 : Nat) (z277 : Int) (I276 : Nat → Int32) (J276 : Nat → Int64) (B276 : Nat → Nat → Int32) (G276 : Nat → Nat → Int64) (H : Heap) (locs : List Loc) (ls : Array Slot), (4200 - z277).toNat = n290 → (0 ≤ z277) → (z277 ≤ 4200) → (akA a1 a2 (B276 118) (B276 119) (B276 120)) → (stA (B276 110) (B276 118) (B276 119) (B276 120)) → (stX ((8 * a1) + z206) (B276 97) (B276 98) (B276 100) (B276 107) (B276 108) (B276 109)) → (pG1 I276) → (pG2 (B276 37) (B276 38)) → (rpA (B276 37) (B276 38) (B276 0)) → (rzA (B276 37) (B276 38) (B276 0)) → (z100 ((8 * a1) + z206) (B276 100) (B276 37) (B276 38)) → (cpy (B276 98) (B276 0) (4200 * ((8 * a1) + z206)) ((B276 37 (16 * 0 + 5 : Int).toNat).toInt) z277) → (z277 ≤ (B276 100 ((8 * a1) + z206).toNat).toInt) → mH D E (mA E h q sz) s.heap h q I276 J276 B276 G276 H locs → rS [39, 40, 42] [0, 37, 38, 59, 97, 98, 99, 100, 101, 102, 107, 108, 109] I B I276 B276 → lv_has ls 8 [(0, .ref h), (5, .int (iI z206)), (6, .int (iI ((8 * a1) + z206))), (7, .int (iI z277))] → W p l e (mR 45 2041) s m AV below meth c H locs 0 0 QQ (F0 m 645 ls []) := by
                                                                                      as_aux_lemma =>
                                                                                        intro n290
                                                                                        induction n290 using Nat.strongRecOn with
                                                                                        | ind n290 ih289 =>
                                                                                          intro z277 I276 J276 B276 G276 H locs ls hm291 l277 u277 f278 f279 f280 f281 f282 f283 f284 f285 i286 i287 Y S hl
                                                                                          refine lv_iload X.1 X.2.1 d_M_taken_645 (lv_at hl 3 rfl) ?_
                                                                                          refine lv_aload_n X.1 X.2.1 d_M_taken_647 rfl (lv_at hl 0 rfl) ?_
                                                                                          refine m_get X Y 100 (by decide) lk_ticketSizes (gf_ticketSizes _ _ _) rfl d_M_taken_648 ?_
                                                                                          refine lv_iload X.1 X.2.1 d_M_taken_651 (lv_at hl 2 rfl) ?_
                                                                                          refine r_iald X Y S (aw_ticketSizes _ _ _ _ _ _ _) rfl (by omega) (show (8 * a1) + z206 < ((32 : Nat) : Int) by omega) (by omega) d_M_taken_653 (fun z292 q292 l292 u292 => ?_)
                                                                                          refine z_icmp_ge (tgt := 691) X.1 X.2.1 d_M_taken_654 (by decide) ⟨by omega, by omega⟩ ⟨by omega, by omega⟩ (fun h293 => ?_) (fun h293 => ?_)
                                                                                          · as_aux_lemma =>
                                                                                              have f294 : c98 ((8 * a1) + z206) (B276 98) (B276 0) (B276 37) (B276 100) := by unfold c98; rw [show (B276 100 ((8 * a1) + z206).toNat).toInt = z277 by omega]; exact i286
                                                                                              have f295 : c98 ((8 * a1) + z206) (B276 98) (B276 0) (B276 37) (B276 100) := by unfold c98; rw [show (B276 100 ((8 * a1) + z206).toNat).toInt = z277 by omega]; exact i286
                                                                                              refine lv_aload_n X.1 X.2.1 d_M_taken_691 rfl (lv_at hl 0 rfl) ?_
                                                                                              refine m_get X Y 108 (by decide) lk_realmSizes (gf_realmSizes _ _ _) rfl d_M_taken_692 ?_
                                                                                              refine lv_iload X.1 X.2.1 d_M_taken_695 (lv_at hl 2 rfl) ?_
                                                                                              refine lv_aload_n X.1 X.2.1 d_M_taken_697 rfl (lv_at hl 0 rfl) ?_
                                                                                              refine lv_iconst (v := iI 0) X.1 X.2.1 d_M_taken_698 (by decide) ?_
                                                                                              refine lv_iconst (v := iI 3) X.1 X.2.1 d_M_taken_699 (by decide) ?_
                                                                                              refine r_ni (m_run (As := [.int (iI 0), .int (iI 3)]) (rest := [.int (iI ((8 * a1) + z206)), .ref ((q 108))]) (n := 2) X Y hZ hA hml hl.1 (r_M_b l D E h q H.size I276 J276 B276 G276 0 (by decide) (by decide) 3 (by decide) (by decide) S.1) kl_M_b ks_M_b kx_M_b ki_M_b ini_M hd_M_b ⟨Nat.le_of_ble_eq_true rfl, Nat.le_of_ble_eq_true rfl⟩ rfl (Nat.le_of_ble_eq_true rfl) d_M_taken_700 ⟨Nat.le_refl _, Nat.le_refl _⟩) X Y hA S (by decide) (by decide) (fun z296 u H locs Y S s296 p296 => ?_)
                                                                                              obtain ⟨I296, J296, B296, G296⟩ := u
                                                                                              dsimp only at Y S s296 p296
                                                                                              have i296 : I276 = I296 := (funext (fun j => s296.2.1 j (by simp))).symm
                                                                                              subst i296
                                                                                              have b296 : B276 = B296 := (funext (fun j => s296.2.2 j (by simp))).symm
                                                                                              subst b296
                                                                                              obtain ⟨l296, u296, x296⟩ := p296
                                                                                              refine lv_aload_n X.1 X.2.1 d_M_taken_703 rfl (lv_at hl 0 rfl) ?_
                                                                                              refine lv_iconst (v := iI 0) X.1 X.2.1 d_M_taken_704 (by decide) ?_
                                                                                              refine lv_iconst (v := iI 3) X.1 X.2.1 d_M_taken_705 (by decide) ?_
                                                                                              refine r_ni (m_run (As := [.int (iI 0), .int (iI 3)]) (rest := [.int (iI z296), .int (iI ((8 * a1) + z206)), .ref ((q 108))]) (n := 2) X Y hZ hA hml hl.1 (r_M_a l D E h q H.size I276 J296 B276 G296 0 (by decide) (by decide) 3 (by decide) (by decide) S.1) kl_M_a ks_M_a kx_M_a ki_M_a ini_M hd_M_a ⟨Nat.le_of_ble_eq_true rfl, Nat.le_of_ble_eq_true rfl⟩ rfl (Nat.le_of_ble_eq_true rfl) d_M_taken_706 ⟨Nat.le_refl _, Nat.le_refl _⟩) X Y hA S (by decide) (by decide) (fun z297 u H locs Y S s297 p297 => ?_)
                                                                                              obtain ⟨I297, J297, B297, G297⟩ := u
                                                                                              dsimp only at Y S s297 p297
                                                                                              have i297 : I276 = I297 := (funext (fun j => s297.2.1 j (by simp))).symm
                                                                                              subst i297
                                                                                              have b297 : B276 = B297 := (funext (fun j => s297.2.2 j (by simp))).symm
                                                                                              subst b297
                                                                                              obtain ⟨l297, u297, x297⟩ := p297
                                                                                              have p298 : pr z297 z296 := by rw [x297, x296]; exact (pG2_cg rfl rfl (pG2_cg rfl rfl f282)) (16 * 0 + 3 : Int).toNat (by omega)
                                                                                              unfold pr at p298
                                                                                              refine z_isub X.1 X.2.1 d_M_taken_709 ?_
                                                                                              have zc := rz_cl (rzA_cg rfl rfl rfl (rzA_cg rfl rfl rfl f284))
                                                                                              refine r_iast X Y S (aw_realmSizes _ _ _ _ _ _ _) (sw_realmSizes _ _ _ _ _ _ _) rfl ⟨(show (0 : Int) ≤ z296 - z297 by omega), (show z296 - z297 ≤ (100 : Int) by omega)⟩ ⟨by omega, by omega⟩ (by omega) (show (8 * a1) + z206 < ((32 : Nat) : Int) by omega) (by omega) (by decide) d_M_taken_710 (fun B299 H locs Y S w299 => ?_)
                                                                                              have f300 : stX ((8 * a1) + z206) (B299 97) (B299 98) (B299 100) (B299 107) (B299 108) (B299 109) := by rw [w299.1, w299.2 97 (by decide), w299.2 98 (by decide), w299.2 100 (by decide), w299.2 107 (by decide), w299.2 109 (by decide)]; exact stX_108 (show (((8 * a1) + z206).toNat : Int) = (8 * a1) + z206 by omega) (stX_cg rfl rfl rfl rfl rfl rfl (stX_cg rfl rfl rfl rfl rfl rfl f280))
                                                                                              refine lv_aload_n X.1 X.2.1 d_M_taken_711 rfl (lv_at hl 0 rfl) ?_
                                                                                              refine m_get X Y 109 (by decide) lk_clientSizes (gf_clientSizes _ _ _) rfl d_M_taken_712 ?_
                                                                                              refine lv_iload X.1 X.2.1 d_M_taken_715 (lv_at hl 2 rfl) ?_
                                                                                              refine lv_aload_n X.1 X.2.1 d_M_taken_717 rfl (lv_at hl 0 rfl) ?_
                                                                                              refine lv_iconst (v := iI 0) X.1 X.2.1 d_M_taken_718 (by decide) ?_
                                                                                              refine lv_iconst (v := iI 4) X.1 X.2.1 d_M_taken_719 (by decide) ?_
                                                                                              refine r_ni (m_run (As := [.int (iI 0), .int (iI 4)]) (rest := [.int (iI ((8 * a1) + z206)), .ref ((q 109))]) (n := 2) X Y hZ hA hml hl.1 (r_M_b l D E h q H.size I276 J297 B299 G297 0 (by decide) (by decide) 4 (by decide) (by decide) S.1) kl_M_b ks_M_b kx_M_b ki_M_b ini_M hd_M_b ⟨Nat.le_of_ble_eq_true rfl, Nat.le_of_ble_eq_true rfl⟩ rfl (Nat.le_of_ble_eq_true rfl) d_M_taken_720 ⟨Nat.le_refl _, Nat.le_refl _⟩) X Y hA S (by decide) (by decide) (fun z301 u H locs Y S s301 p301 => ?_)
                                                                                              obtain ⟨I301, J301, B301, G301⟩ := u
                                                                                              dsimp only at Y S s301 p301
                                                                                              have i301 : I276 = I301 := (funext (fun j => s301.2.1 j (by simp))).symm
                                                                                              subst i301
                                                                                              have b301 : B299 = B301 := (funext (fun j => s301.2.2 j (by simp))).symm
                                                                                              subst b301
                                                                                              obtain ⟨l301, u301, x301⟩ := p301
                                                                                              refine lv_aload_n X.1 X.2.1 d_M_taken_723 rfl (lv_at hl 0 rfl) ?_
                                                                                              refine lv_iconst (v := iI 0) X.1 X.2.1 d_M_taken_724 (by decide) ?_
                                                                                              refine lv_iconst (v := iI 4) X.1 X.2.1 d_M_taken_725 (by decide) ?_
                                                                                              refine r_ni (m_run (As := [.int (iI 0), .int (iI 4)]) (rest := [.int (iI z301), .int (iI ((8 * a1) + z206)), .ref ((q 109))]) (n := 2) X Y hZ hA hml hl.1 (r_M_a l D E h q H.size I276 J301 B299 G301 0 (by decide) (by decide) 4 (by decide) (by decide) S.1) kl_M_a ks_M_a kx_M_a ki_M_a ini_M hd_M_a ⟨Nat.le_of_ble_eq_true rfl, Nat.le_of_ble_eq_true rfl⟩ rfl (Nat.le_of_ble_eq_true rfl) d_M_taken_726 ⟨Nat.le_refl _, Nat.le_refl _⟩) X Y hA S (by decide) (by decide) (fun z302 u H locs Y S s302 p302 => ?_)
                                                                                              obtain ⟨I302, J302, B302, G302⟩ := u
                                                                                              dsimp only at Y S s302 p302
                                                                                              have i302 : I276 = I302 := (funext (fun j => s302.2.1 j (by simp))).symm
                                                                                              subst i302
                                                                                              have b302 : B299 = B302 := (funext (fun j => s302.2.2 j (by simp))).symm
                                                                                              subst b302
                                                                                              obtain ⟨l302, u302, x302⟩ := p302
                                                                                              have p303 : pr z302 z301 := by rw [x302, x301]; exact (pG2_cg rfl rfl (pG2_cg rfl rfl (pG2_cg (w299.2 37 (by decide)) (w299.2 38 (by decide)) (pG2_cg rfl rfl (pG2_cg rfl rfl f282))))) (16 * 0 + 4 : Int).toNat (by omega)
                                                                                              unfold pr at p303
                                                                                              refine z_isub X.1 X.2.1 d_M_taken_729 ?_
                                                                                              have zc := rz_cl (rzA_cg rfl rfl rfl (rzA_cg rfl rfl rfl (rzA_cg (w299.2 0 (by decide)) (w299.2 37 (by decide)) (w299.2 38 (by decide)) (rzA_cg rfl rfl rfl (rzA_cg rfl rfl rfl f284)))))
                                                                                              refine r_iast X Y S (aw_clientSizes _ _ _ _ _ _ _) (sw_clientSizes _ _ _ _ _ _ _) rfl ⟨(show (0 : Int) ≤ z301 - z302 by omega), (show z301 - z302 ≤ (300 : Int) by omega)⟩ ⟨by omega, by omega⟩ (by omega) (show (8 * a1) + z206 < ((32 : Nat) : Int) by omega) (by omega) (by decide) d_M_taken_730 (fun B304 H locs Y S w304 => ?_)
                                                                                              have f305 : stA (B304 110) (B304 118) (B304 119) (B304 120) := (stA_cg (w304.2 110 (by decide)) (w304.2 118 (by decide)) (w304.2 119 (by decide)) (w304.2 120 (by decide)) (stA_cg rfl rfl rfl rfl (stA_cg rfl rfl rfl rfl (stA_cg (w299.2 110 (by decide)) (w299.2 118 (by decide)) (w299.2 119 (by decide)) (w299.2 120 (by decide)) (stA_cg rfl rfl rfl rfl (stA_cg rfl rfl rfl rfl f279))))))
                                                                                              have f306 : akA a1 a2 (B304 118) (B304 119) (B304 120) := (akA_cg (w304.2 118 (by decide)) (w304.2 119 (by decide)) (w304.2 120 (by decide)) (akA_cg rfl rfl rfl (akA_cg rfl rfl rfl (akA_cg (w299.2 118 (by decide)) (w299.2 119 (by decide)) (w299.2 120 (by decide)) (akA_cg rfl rfl rfl (akA_cg rfl rfl rfl f278))))))
                                                                                              have f307 : z100 ((8 * a1) + z206) (B304 100) (B304 37) (B304 38) := (z100_cg (w304.2 37 (by decide)) (w304.2 38 (by decide)) (w304.2 100 (by decide)) (z100_cg rfl rfl rfl (z100_cg rfl rfl rfl (z100_cg (w299.2 37 (by decide)) (w299.2 38 (by decide)) (w299.2 100 (by decide)) (z100_cg rfl rfl rfl (z100_cg rfl rfl rfl f285))))))
                                                                                              have f308 : c98 ((8 * a1) + z206) (B304 98) (B304 0) (B304 37) (B304 100) := (c98_cg (w304.2 0 (by decide)) (w304.2 37 (by decide)) (w304.2 98 (by decide)) (w304.2 100 (by decide)) (c98_cg rfl rfl rfl rfl (c98_cg rfl rfl rfl rfl (c98_cg (w299.2 0 (by decide)) (w299.2 37 (by decide)) (w299.2 98 (by decide)) (w299.2 100 (by decide)) (c98_cg rfl rfl rfl rfl (c98_cg rfl rfl rfl rfl f295))))))
                                                                                              have f309 : stX ((8 * a1) + z206) (B304 97) (B304 98) (B304 100) (B304 107) (B304 108) (B304 109) := by rw [w304.1, w304.2 97 (by decide), w304.2 98 (by decide), w304.2 100 (by decide), w304.2 107 (by decide), w304.2 108 (by decide)]; exact stX_109 (show (((8 * a1) + z206).toNat : Int) = (8 * a1) + z206 by omega) (stX_cg rfl rfl rfl rfl rfl rfl (stX_cg rfl rfl rfl rfl rfl rfl f300))
                                                                                              have f310 : z109 ((8 * a1) + z206) (B304 109) (B304 37) (B304 38) := by unfold z109; rw [w304.1, pk_us, w304.2 37 (by decide), w304.2 38 (by decide), iI_toInt ⟨by omega, by omega⟩]; omega
                                                                                              refine lv_iconst (v := iI 0) X.1 X.2.1 d_M_taken_731 (by decide) ?_
                                                                                              have J323 : ∀ (n325 : Nat) (z312 : Int) (I311 : Nat → Int32) (J311 : Nat → Int64) (B311 : Nat → Nat → Int32) (G311 : Nat → Nat → Int64) (H : Heap) (locs : List Loc) (ls : Array Slot), (100 - z312).toNat = n325 → (0 ≤ z312) → (z312 ≤ 100) → (akA a1 a2 (B311 118) (B311 119) (B311 120)) → (c98 ((8 * a1) + z206) (B311 98) (B311 0) (B311 37) (B311 100)) → (stA (B311 110) (B311 118) (B311 119) (B311 120)) → (stX ((8 * a1) + z206) (B311 97) (B311 98) (B311 100) (B311 107) (B311 108) (B311 109)) → (pG1 I311) → (pG2 (B311 37) (B311 38)) → (rpA (B311 37) (B311 38) (B311 0)) → (rzA (B311 37) (B311 38) (B311 0)) → (z100 ((8 * a1) + z206) (B311 100) (B311 37) (B311 38)) → (z109 ((8 * a1) + z206) (B311 109) (B311 37) (B311 38)) → mH D E (mA E h q sz) s.heap h q I311 J311 B311 G311 H locs → rS [39, 40, 42] [0, 37, 38, 59, 97, 98, 99, 100, 101, 102, 107, 108, 109] I B I311 B311 → lv_has ls 8 [(0, .ref h), (5, .int (iI z206)), (6, .int (iI ((8 * a1) + z206))), (7, .int (iI z312))] → W p l e (mR 45 2041) s m AV below meth c H locs 0 0 QQ (F0 m 734 ls []) := by
                                                                                                as_aux_lemma =>
                                                                                                  intro n325
                                                                                                  induction n325 using Nat.strongRecOn with
                                                                                                  | ind n325 ih324 =>
                                                                                                    intro z312 I311 J311 B311 G311 H locs ls hm326 l312 u312 f313 f314 f315 f316 f317 f318 f319 f320 f321 f322 Y S hl
                                                                                                    refine lv_iload X.1 X.2.1 d_M_taken_734 (lv_at hl 3 rfl) ?_
                                                                                                    refine lv_aload_n X.1 X.2.1 d_M_taken_736 rfl (lv_at hl 0 rfl) ?_
                                                                                                    refine m_get X Y 108 (by decide) lk_realmSizes (gf_realmSizes _ _ _) rfl d_M_taken_737 ?_
                                                                                                    refine lv_iload X.1 X.2.1 d_M_taken_740 (lv_at hl 2 rfl) ?_
                                                                                                    refine r_iald X Y S (aw_realmSizes _ _ _ _ _ _ _) rfl (by omega) (show (8 * a1) + z206 < ((32 : Nat) : Int) by omega) (by omega) d_M_taken_742 (fun z327 q327 l327 u327 => ?_)
                                                                                                    refine z_icmp_ge (tgt := 780) X.1 X.2.1 d_M_taken_743 (by decide) ⟨by omega, by omega⟩ ⟨by omega, by omega⟩ (fun h328 => ?_) (fun h328 => ?_)
                                                                                                    · as_aux_lemma =>
                                                                                                        refine lv_iconst (v := iI 0) X.1 X.2.1 d_M_taken_780 (by decide) ?_
                                                                                                        have J343 : ∀ (n345 : Nat) (z330 : Int) (I329 : Nat → Int32) (J329 : Nat → Int64) (B329 : Nat → Nat → Int32) (G329 : Nat → Nat → Int64) (H : Heap) (locs : List Loc) (ls : Array Slot), (300 - z330).toNat = n345 → (0 ≤ z330) → (z330 ≤ 300) → (akA a1 a2 (B329 118) (B329 119) (B329 120)) → (c98 ((8 * a1) + z206) (B329 98) (B329 0) (B329 37) (B329 100)) → (stA (B329 110) (B329 118) (B329 119) (B329 120)) → (stX ((8 * a1) + z206) (B329 97) (B329 98) (B329 100) (B329 107) (B329 108) (B329 109)) → (pG1 I329) → (pG2 (B329 37) (B329 38)) → (rpA (B329 37) (B329 38) (B329 0)) → (rzA (B329 37) (B329 38) (B329 0)) → (z100 ((8 * a1) + z206) (B329 100) (B329 37) (B329 38)) → (z109 ((8 * a1) + z206) (B329 109) (B329 37) (B329 38)) → (cpy (B329 107) (B329 0) (400 * ((8 * a1) + z206) + (B329 108 ((8 * a1) + z206).toNat).toInt) ((B329 37 (16 * 0 + 4 : Int).toNat).toInt) z330) → (z330 ≤ (B329 109 ((8 * a1) + z206).toNat).toInt) → mH D E (mA E h q sz) s.heap h q I329 J329 B329 G329 H locs → rS [39, 40, 42] [0, 37, 38, 59, 97, 98, 99, 100, 101, 102, 107, 108, 109] I B I329 B329 → lv_has ls 8 [(0, .ref h), (5, .int (iI z206)), (6, .int (iI ((8 * a1) + z206))), (7, .int (iI z330))] → W p l e (mR 45 2041) s m AV below meth c H locs 0 0 QQ (F0 m 783 ls []) := by
                                                                                                          as_aux_lemma =>
                                                                                                            intro n345
                                                                                                            induction n345 using Nat.strongRecOn with
                                                                                                            | ind n345 ih344 =>
                                                                                                              intro z330 I329 J329 B329 G329 H locs ls hm346 l330 u330 f331 f332 f333 f334 f335 f336 f337 f338 f339 f340 i341 i342 Y S hl
                                                                                                              refine lv_iload X.1 X.2.1 d_M_taken_783 (lv_at hl 3 rfl) ?_
                                                                                                              refine lv_aload_n X.1 X.2.1 d_M_taken_785 rfl (lv_at hl 0 rfl) ?_
                                                                                                              refine m_get X Y 109 (by decide) lk_clientSizes (gf_clientSizes _ _ _) rfl d_M_taken_786 ?_
                                                                                                              refine lv_iload X.1 X.2.1 d_M_taken_789 (lv_at hl 2 rfl) ?_
                                                                                                              refine r_iald X Y S (aw_clientSizes _ _ _ _ _ _ _) rfl (by omega) (show (8 * a1) + z206 < ((32 : Nat) : Int) by omega) (by omega) d_M_taken_791 (fun z347 q347 l347 u347 => ?_)
                                                                                                              refine z_icmp_ge (tgt := 837) X.1 X.2.1 d_M_taken_792 (by decide) ⟨by omega, by omega⟩ ⟨by omega, by omega⟩ (fun h348 => ?_) (fun h348 => ?_)
                                                                                                              · refine lv_iload X.1 X.2.1 d_M_taken_837 (lv_at hl 1 rfl) ?_
                                                                                                                exact m_reti hQQ X Y hr hlk ⟨S, z206, rfl, ⟨by omega, by omega, f335, f336, (st_fin f334 (by omega) f338 f339 f340 f332 (by unfold c107; rw [show (B329 109 ((8 * a1) + z206).toNat).toInt = z330 by omega]; exact i341) (show 0 ≤ _ from (S.1.2 108 _).1)), f333⟩⟩ d_M_taken_839
                                                                                                              · as_aux_lemma =>
                                                                                                                  refine lv_aload_n X.1 X.2.1 d_M_taken_795 rfl (lv_at hl 0 rfl) ?_
                                                                                                                  refine m_get X Y 107 (by decide) lk_clientBytes (gf_clientBytes _ _ _) rfl d_M_taken_796 ?_
                                                                                                                  refine lv_sipush (v := iI 400) X.1 X.2.1 d_M_taken_799 (by decide) ?_
                                                                                                                  refine lv_iload X.1 X.2.1 d_M_taken_802 (lv_at hl 2 rfl) ?_
                                                                                                                  refine z_imul X.1 X.2.1 d_M_taken_804 ?_
                                                                                                                  refine lv_aload_n X.1 X.2.1 d_M_taken_805 rfl (lv_at hl 0 rfl) ?_
                                                                                                                  refine m_get X Y 108 (by decide) lk_realmSizes (gf_realmSizes _ _ _) rfl d_M_taken_806 ?_
                                                                                                                  refine lv_iload X.1 X.2.1 d_M_taken_809 (lv_at hl 2 rfl) ?_
                                                                                                                  refine r_iald X Y S (aw_realmSizes _ _ _ _ _ _ _) rfl (by omega) (show (8 * a1) + z206 < ((32 : Nat) : Int) by omega) (by omega) d_M_taken_811 (fun z349 q349 l349 u349 => ?_)
                                                                                                                  refine z_iadd X.1 X.2.1 d_M_taken_812 ?_
                                                                                                                  refine lv_iload X.1 X.2.1 d_M_taken_813 (lv_at hl 3 rfl) ?_
                                                                                                                  refine z_iadd X.1 X.2.1 d_M_taken_815 ?_
                                                                                                                  refine lv_aload_n X.1 X.2.1 d_M_taken_816 rfl (lv_at hl 0 rfl) ?_
                                                                                                                  refine m_get X Y 0 (by decide) lk_mem (gf_mem _ _ _) rfl d_M_taken_817 ?_
                                                                                                                  refine lv_aload_n X.1 X.2.1 d_M_taken_820 rfl (lv_at hl 0 rfl) ?_
                                                                                                                  refine lv_iconst (v := iI 0) X.1 X.2.1 d_M_taken_821 (by decide) ?_
                                                                                                                  refine lv_iconst (v := iI 4) X.1 X.2.1 d_M_taken_822 (by decide) ?_
                                                                                                                  refine r_ni (m_run (As := [.int (iI 0), .int (iI 4)]) (rest := [.ref ((q 0)), .int (iI (((400 * ((8 * a1) + z206)) + z349) + z330)), .ref ((q 107))]) (n := 2) X Y hZ hA hml hl.1 (r_M_a l D E h q H.size I329 J329 B329 G329 0 (by decide) (by decide) 4 (by decide) (by decide) S.1) kl_M_a ks_M_a kx_M_a ki_M_a ini_M hd_M_a ⟨Nat.le_of_ble_eq_true rfl, Nat.le_of_ble_eq_true rfl⟩ rfl (Nat.le_of_ble_eq_true rfl) d_M_taken_823 ⟨Nat.le_refl _, Nat.le_refl _⟩) X Y hA S (by decide) (by decide) (fun z350 u H locs Y S s350 p350 => ?_)
                                                                                                                  obtain ⟨I350, J350, B350, G350⟩ := u
                                                                                                                  dsimp only at Y S s350 p350
                                                                                                                  have i350 : I329 = I350 := (funext (fun j => s350.2.1 j (by simp))).symm
                                                                                                                  subst i350
                                                                                                                  have b350 : B329 = B350 := (funext (fun j => s350.2.2 j (by simp))).symm
                                                                                                                  subst b350
                                                                                                                  obtain ⟨l350, u350, x350⟩ := p350
                                                                                                                  refine lv_iload X.1 X.2.1 d_M_taken_826 (lv_at hl 3 rfl) ?_
                                                                                                                  refine z_iadd X.1 X.2.1 d_M_taken_828 ?_
                                                                                                                  refine r_bald X Y S (aw_mem _ _ _ _ _ _ _) rfl (by omega) (show z350 + z330 < ((60000 : Nat) : Int) by omega) (by omega) d_M_taken_829 (fun z351 q351 l351 u351 => ?_)
                                                                                                                  refine r_bast X Y S (aw_clientBytes _ _ _ _ _ _ _) (sw_clientBytes _ _ _ _ _ _ _) rfl (by omega) (show ((400 * ((8 * a1) + z206)) + z349) + z330 < ((12800 : Nat) : Int) by omega) (by omega) (by decide) d_M_taken_830 (fun B352 H locs Y S w352 => ?_)
                                                                                                                  have f353 : stX ((8 * a1) + z206) (B352 97) (B352 98) (B352 100) (B352 107) (B352 108) (B352 109) := by rw [w352.1, w352.2 97 (by decide), w352.2 98 (by decide), w352.2 100 (by decide), w352.2 108 (by decide), w352.2 109 (by decide)]; exact stX_107 (fun t9 => ⟨(S.1.2 108 t9).1, (S.1.2 108 t9).2, (S.1.2 109 t9).2⟩) (by omega) (by omega) (stX_cg rfl rfl rfl rfl rfl rfl f334)
                                                                                                                  refine lv_iinc (v := iI (z330 + 1)) (lv' := [(7, .int (iI (z330 + 1))), (0, .ref h), (5, .int (iI z206)), (6, .int (iI ((8 * a1) + z206)))]) X.1 X.2.1 d_M_taken_831 hl (k := 3) rfl ((iI_add _ _).trans (congrArg iI (by omega))) (by decide) rfl (fun ls hl => ?_)
                                                                                                                  refine lv_goto (tgt := 783) X.1 X.2.1 d_M_taken_834 (by decide) ?_
                                                                                                                  exact ih344 ((300 - (z330 + 1)).toNat) (by omega) (z330 + 1) I329 J350 B352 G350 _ _ _ rfl (by omega) (by omega) (akA_cg (w352.2 118 (by decide)) (w352.2 119 (by decide)) (w352.2 120 (by decide)) (akA_cg rfl rfl rfl f331)) (c98_cg (w352.2 0 (by decide)) (w352.2 37 (by decide)) (w352.2 98 (by decide)) (w352.2 100 (by decide)) (c98_cg rfl rfl rfl rfl f332)) (stA_cg (w352.2 110 (by decide)) (w352.2 118 (by decide)) (w352.2 119 (by decide)) (w352.2 120 (by decide)) (stA_cg rfl rfl rfl rfl f333)) f353 (pG1_cg rfl rfl (pG1_cg rfl rfl f335)) (pG2_cg (w352.2 37 (by decide)) (w352.2 38 (by decide)) (pG2_cg rfl rfl f336)) (rpA_cg (w352.2 0 (by decide)) (w352.2 37 (by decide)) (w352.2 38 (by decide)) (rpA_cg rfl rfl rfl f337)) (rzA_cg (w352.2 0 (by decide)) (w352.2 37 (by decide)) (w352.2 38 (by decide)) (rzA_cg rfl rfl rfl f338)) (z100_cg (w352.2 37 (by decide)) (w352.2 38 (by decide)) (w352.2 100 (by decide)) (z100_cg rfl rfl rfl f339)) (z109_cg (w352.2 37 (by decide)) (w352.2 38 (by decide)) (w352.2 109 (by decide)) (z109_cg rfl rfl rfl f340)) (by rw [w352.2 37 (by decide), w352.2 108 (by decide)]; exact cpy_go (by omega) (by omega) (by decide) w352 (show ((400 * ((8 * a1) + z206)) + z349) + z330 = _ by omega) q351 (show z350 + z330 = _ by omega) (by omega) (by omega) i341) (by rw [w352.2 109 (by decide)]; omega) Y S (lv_sub hl [1, 2, 3, 0] rfl)
                                                                                                        refine lv_istore (lv' := [(7, .int (iI 0)), (0, .ref h), (5, .int (iI z206)), (6, .int (iI ((8 * a1) + z206)))]) X.1 X.2.1 d_M_taken_781 hl (by decide) rfl (fun ls hl => ?_)
                                                                                                        exact J343 _ 0 I311 J311 B311 G311 _ _ _ rfl (by omega) (by omega) f313 f314 f315 f316 f317 f318 f319 f320 f321 f322 (cpy_0 rfl) (by omega) Y S (lv_sub hl [1, 2, 3, 0] rfl)
                                                                                                    · as_aux_lemma =>
                                                                                                        refine lv_aload_n X.1 X.2.1 d_M_taken_746 rfl (lv_at hl 0 rfl) ?_
                                                                                                        refine m_get X Y 107 (by decide) lk_clientBytes (gf_clientBytes _ _ _) rfl d_M_taken_747 ?_
                                                                                                        refine lv_sipush (v := iI 400) X.1 X.2.1 d_M_taken_750 (by decide) ?_
                                                                                                        refine lv_iload X.1 X.2.1 d_M_taken_753 (lv_at hl 2 rfl) ?_
                                                                                                        refine z_imul X.1 X.2.1 d_M_taken_755 ?_
                                                                                                        refine lv_iload X.1 X.2.1 d_M_taken_756 (lv_at hl 3 rfl) ?_
                                                                                                        refine z_iadd X.1 X.2.1 d_M_taken_758 ?_
                                                                                                        refine lv_aload_n X.1 X.2.1 d_M_taken_759 rfl (lv_at hl 0 rfl) ?_
                                                                                                        refine m_get X Y 0 (by decide) lk_mem (gf_mem _ _ _) rfl d_M_taken_760 ?_
                                                                                                        refine lv_aload_n X.1 X.2.1 d_M_taken_763 rfl (lv_at hl 0 rfl) ?_
                                                                                                        refine lv_iconst (v := iI 0) X.1 X.2.1 d_M_taken_764 (by decide) ?_
                                                                                                        refine lv_iconst (v := iI 3) X.1 X.2.1 d_M_taken_765 (by decide) ?_
                                                                                                        refine r_ni (m_run (As := [.int (iI 0), .int (iI 3)]) (rest := [.ref ((q 0)), .int (iI ((400 * ((8 * a1) + z206)) + z312)), .ref ((q 107))]) (n := 2) X Y hZ hA hml hl.1 (r_M_a l D E h q H.size I311 J311 B311 G311 0 (by decide) (by decide) 3 (by decide) (by decide) S.1) kl_M_a ks_M_a kx_M_a ki_M_a ini_M hd_M_a ⟨Nat.le_of_ble_eq_true rfl, Nat.le_of_ble_eq_true rfl⟩ rfl (Nat.le_of_ble_eq_true rfl) d_M_taken_766 ⟨Nat.le_refl _, Nat.le_refl _⟩) X Y hA S (by decide) (by decide) (fun z354 u H locs Y S s354 p354 => ?_)
                                                                                                        obtain ⟨I354, J354, B354, G354⟩ := u
                                                                                                        dsimp only at Y S s354 p354
                                                                                                        have i354 : I311 = I354 := (funext (fun j => s354.2.1 j (by simp))).symm
                                                                                                        subst i354
                                                                                                        have b354 : B311 = B354 := (funext (fun j => s354.2.2 j (by simp))).symm
                                                                                                        subst b354
                                                                                                        obtain ⟨l354, u354, x354⟩ := p354
                                                                                                        refine lv_iload X.1 X.2.1 d_M_taken_769 (lv_at hl 3 rfl) ?_
                                                                                                        refine z_iadd X.1 X.2.1 d_M_taken_771 ?_
                                                                                                        refine r_bald X Y S (aw_mem _ _ _ _ _ _ _) rfl (by omega) (show z354 + z312 < ((60000 : Nat) : Int) by omega) (by omega) d_M_taken_772 (fun z355 q355 l355 u355 => ?_)
                                                                                                        refine r_bast X Y S (aw_clientBytes _ _ _ _ _ _ _) (sw_clientBytes _ _ _ _ _ _ _) rfl (by omega) (show (400 * ((8 * a1) + z206)) + z312 < ((12800 : Nat) : Int) by omega) (by omega) (by decide) d_M_taken_773 (fun B356 H locs Y S w356 => ?_)
                                                                                                        have f357 : stX ((8 * a1) + z206) (B356 97) (B356 98) (B356 100) (B356 107) (B356 108) (B356 109) := by rw [w356.1, w356.2 97 (by decide), w356.2 98 (by decide), w356.2 100 (by decide), w356.2 108 (by decide), w356.2 109 (by decide)]; exact stX_107 (fun t9 => ⟨(S.1.2 108 t9).1, (S.1.2 108 t9).2, (S.1.2 109 t9).2⟩) (by omega) (by omega) (stX_cg rfl rfl rfl rfl rfl rfl f316)
                                                                                                        refine lv_iinc (v := iI (z312 + 1)) (lv' := [(7, .int (iI (z312 + 1))), (0, .ref h), (5, .int (iI z206)), (6, .int (iI ((8 * a1) + z206)))]) X.1 X.2.1 d_M_taken_774 hl (k := 3) rfl ((iI_add _ _).trans (congrArg iI (by omega))) (by decide) rfl (fun ls hl => ?_)
                                                                                                        refine lv_goto (tgt := 734) X.1 X.2.1 d_M_taken_777 (by decide) ?_
                                                                                                        exact ih324 ((100 - (z312 + 1)).toNat) (by omega) (z312 + 1) I311 J354 B356 G354 _ _ _ rfl (by omega) (by omega) (akA_cg (w356.2 118 (by decide)) (w356.2 119 (by decide)) (w356.2 120 (by decide)) (akA_cg rfl rfl rfl f313)) (c98_cg (w356.2 0 (by decide)) (w356.2 37 (by decide)) (w356.2 98 (by decide)) (w356.2 100 (by decide)) (c98_cg rfl rfl rfl rfl f314)) (stA_cg (w356.2 110 (by decide)) (w356.2 118 (by decide)) (w356.2 119 (by decide)) (w356.2 120 (by decide)) (stA_cg rfl rfl rfl rfl f315)) f357 (pG1_cg rfl rfl (pG1_cg rfl rfl f317)) (pG2_cg (w356.2 37 (by decide)) (w356.2 38 (by decide)) (pG2_cg rfl rfl f318)) (rpA_cg (w356.2 0 (by decide)) (w356.2 37 (by decide)) (w356.2 38 (by decide)) (rpA_cg rfl rfl rfl f319)) (rzA_cg (w356.2 0 (by decide)) (w356.2 37 (by decide)) (w356.2 38 (by decide)) (rzA_cg rfl rfl rfl f320)) (z100_cg (w356.2 37 (by decide)) (w356.2 38 (by decide)) (w356.2 100 (by decide)) (z100_cg rfl rfl rfl f321)) (z109_cg (w356.2 37 (by decide)) (w356.2 38 (by decide)) (w356.2 109 (by decide)) (z109_cg rfl rfl rfl f322)) Y S (lv_sub hl [1, 2, 3, 0] rfl)
                                                                                              refine lv_istore (lv' := [(7, .int (iI 0)), (0, .ref h), (5, .int (iI z206)), (6, .int (iI ((8 * a1) + z206)))]) X.1 X.2.1 d_M_taken_732 hl (by decide) rfl (fun ls hl => ?_)
                                                                                              exact J323 _ 0 I276 J302 B304 G302 _ _ _ rfl (by omega) (by omega) f306 f308 f305 f309 (pG1_cg rfl rfl (pG1_cg rfl rfl (pG1_cg rfl rfl (pG1_cg rfl rfl (pG1_cg rfl rfl (pG1_cg rfl rfl f281)))))) (pG2_cg (w304.2 37 (by decide)) (w304.2 38 (by decide)) (pG2_cg rfl rfl (pG2_cg rfl rfl (pG2_cg (w299.2 37 (by decide)) (w299.2 38 (by decide)) (pG2_cg rfl rfl (pG2_cg rfl rfl f282)))))) (rpA_cg (w304.2 0 (by decide)) (w304.2 37 (by decide)) (w304.2 38 (by decide)) (rpA_cg rfl rfl rfl (rpA_cg rfl rfl rfl (rpA_cg (w299.2 0 (by decide)) (w299.2 37 (by decide)) (w299.2 38 (by decide)) (rpA_cg rfl rfl rfl (rpA_cg rfl rfl rfl f283)))))) (rzA_cg (w304.2 0 (by decide)) (w304.2 37 (by decide)) (w304.2 38 (by decide)) (rzA_cg rfl rfl rfl (rzA_cg rfl rfl rfl (rzA_cg (w299.2 0 (by decide)) (w299.2 37 (by decide)) (w299.2 38 (by decide)) (rzA_cg rfl rfl rfl (rzA_cg rfl rfl rfl f284)))))) f307 f310 Y S (lv_sub hl [1, 2, 3, 0] rfl)
                                                                                          · as_aux_lemma =>
                                                                                              refine lv_aload_n X.1 X.2.1 d_M_taken_657 rfl (lv_at hl 0 rfl) ?_
                                                                                              refine m_get X Y 98 (by decide) lk_ticketBytes (gf_ticketBytes _ _ _) rfl d_M_taken_658 ?_
                                                                                              refine lv_sipush (v := iI 4200) X.1 X.2.1 d_M_taken_661 (by decide) ?_
                                                                                              refine lv_iload X.1 X.2.1 d_M_taken_664 (lv_at hl 2 rfl) ?_
                                                                                              refine z_imul X.1 X.2.1 d_M_taken_666 ?_
                                                                                              refine lv_iload X.1 X.2.1 d_M_taken_667 (lv_at hl 3 rfl) ?_
                                                                                              refine z_iadd X.1 X.2.1 d_M_taken_669 ?_
                                                                                              refine lv_aload_n X.1 X.2.1 d_M_taken_670 rfl (lv_at hl 0 rfl) ?_
                                                                                              refine m_get X Y 0 (by decide) lk_mem (gf_mem _ _ _) rfl d_M_taken_671 ?_
                                                                                              refine lv_aload_n X.1 X.2.1 d_M_taken_674 rfl (lv_at hl 0 rfl) ?_
                                                                                              refine lv_iconst (v := iI 0) X.1 X.2.1 d_M_taken_675 (by decide) ?_
                                                                                              refine lv_iconst (v := iI 5) X.1 X.2.1 d_M_taken_676 (by decide) ?_
                                                                                              refine r_ni (m_run (As := [.int (iI 0), .int (iI 5)]) (rest := [.ref ((q 0)), .int (iI ((4200 * ((8 * a1) + z206)) + z277)), .ref ((q 98))]) (n := 2) X Y hZ hA hml hl.1 (r_M_a l D E h q H.size I276 J276 B276 G276 0 (by decide) (by decide) 5 (by decide) (by decide) S.1) kl_M_a ks_M_a kx_M_a ki_M_a ini_M hd_M_a ⟨Nat.le_of_ble_eq_true rfl, Nat.le_of_ble_eq_true rfl⟩ rfl (Nat.le_of_ble_eq_true rfl) d_M_taken_677 ⟨Nat.le_refl _, Nat.le_refl _⟩) X Y hA S (by decide) (by decide) (fun z358 u H locs Y S s358 p358 => ?_)
                                                                                              obtain ⟨I358, J358, B358, G358⟩ := u
                                                                                              dsimp only at Y S s358 p358
                                                                                              have i358 : I276 = I358 := (funext (fun j => s358.2.1 j (by simp))).symm
                                                                                              subst i358
                                                                                              have b358 : B276 = B358 := (funext (fun j => s358.2.2 j (by simp))).symm
                                                                                              subst b358
                                                                                              obtain ⟨l358, u358, x358⟩ := p358
                                                                                              refine lv_iload X.1 X.2.1 d_M_taken_680 (lv_at hl 3 rfl) ?_
                                                                                              refine z_iadd X.1 X.2.1 d_M_taken_682 ?_
                                                                                              refine r_bald X Y S (aw_mem _ _ _ _ _ _ _) rfl (by omega) (show z358 + z277 < ((60000 : Nat) : Int) by omega) (by omega) d_M_taken_683 (fun z359 q359 l359 u359 => ?_)
                                                                                              refine r_bast X Y S (aw_ticketBytes _ _ _ _ _ _ _) (sw_ticketBytes _ _ _ _ _ _ _) rfl (by omega) (show (4200 * ((8 * a1) + z206)) + z277 < ((134400 : Nat) : Int) by omega) (by omega) (by decide) d_M_taken_684 (fun B360 H locs Y S w360 => ?_)
                                                                                              have f361 : stX ((8 * a1) + z206) (B360 97) (B360 98) (B360 100) (B360 107) (B360 108) (B360 109) := by rw [w360.1, w360.2 97 (by decide), w360.2 100 (by decide), w360.2 107 (by decide), w360.2 108 (by decide), w360.2 109 (by decide)]; exact stX_98 (fun t9 => (show _ ≤ (4200 : Int) from (S.1.2 100 t9).2)) (by omega) (by omega) (stX_cg rfl rfl rfl rfl rfl rfl f280)
                                                                                              refine lv_iinc (v := iI (z277 + 1)) (lv' := [(7, .int (iI (z277 + 1))), (0, .ref h), (5, .int (iI z206)), (6, .int (iI ((8 * a1) + z206)))]) X.1 X.2.1 d_M_taken_685 hl (k := 3) rfl ((iI_add _ _).trans (congrArg iI (by omega))) (by decide) rfl (fun ls hl => ?_)
                                                                                              refine lv_goto (tgt := 645) X.1 X.2.1 d_M_taken_688 (by decide) ?_
                                                                                              exact ih289 ((4200 - (z277 + 1)).toNat) (by omega) (z277 + 1) I276 J358 B360 G358 _ _ _ rfl (by omega) (by omega) (akA_cg (w360.2 118 (by decide)) (w360.2 119 (by decide)) (w360.2 120 (by decide)) (akA_cg rfl rfl rfl f278)) (stA_cg (w360.2 110 (by decide)) (w360.2 118 (by decide)) (w360.2 119 (by decide)) (w360.2 120 (by decide)) (stA_cg rfl rfl rfl rfl f279)) f361 (pG1_cg rfl rfl (pG1_cg rfl rfl f281)) (pG2_cg (w360.2 37 (by decide)) (w360.2 38 (by decide)) (pG2_cg rfl rfl f282)) (rpA_cg (w360.2 0 (by decide)) (w360.2 37 (by decide)) (w360.2 38 (by decide)) (rpA_cg rfl rfl rfl f283)) (rzA_cg (w360.2 0 (by decide)) (w360.2 37 (by decide)) (w360.2 38 (by decide)) (rzA_cg rfl rfl rfl f284)) (z100_cg (w360.2 37 (by decide)) (w360.2 38 (by decide)) (w360.2 100 (by decide)) (z100_cg rfl rfl rfl f285)) (by rw [w360.2 37 (by decide)]; exact cpy_go (by omega) (by omega) (by decide) w360 (show (4200 * ((8 * a1) + z206)) + z277 = _ by omega) q359 (show z358 + z277 = _ by omega) (by omega) (by omega) i286) (by rw [w360.2 100 (by decide)]; omega) Y S (lv_sub hl [1, 2, 3, 0] rfl)
                                                                                    refine lv_istore (lv' := [(7, .int (iI 0)), (0, .ref h), (5, .int (iI z206)), (6, .int (iI ((8 * a1) + z206)))]) X.1 X.2.1 d_M_taken_643 hl (by decide) rfl (fun ls hl => ?_)
                                                                                    exact J288 _ 0 I256 J271 B273 G271 _ _ _ rfl (by omega) (by omega) (akA_cg (w273.2 118 (by decide)) (w273.2 119 (by decide)) (w273.2 120 (by decide)) (akA_cg rfl rfl rfl (akA_cg rfl rfl rfl f258))) (stA_cg (w273.2 110 (by decide)) (w273.2 118 (by decide)) (w273.2 119 (by decide)) (w273.2 120 (by decide)) (stA_cg rfl rfl rfl rfl (stA_cg rfl rfl rfl rfl f259))) f274 (pG1_cg rfl rfl (pG1_cg rfl rfl (pG1_cg rfl rfl f261))) (pG2_cg (w273.2 37 (by decide)) (w273.2 38 (by decide)) (pG2_cg rfl rfl (pG2_cg rfl rfl f262))) (rpA_cg (w273.2 0 (by decide)) (w273.2 37 (by decide)) (w273.2 38 (by decide)) (rpA_cg rfl rfl rfl (rpA_cg rfl rfl rfl f263))) (rzA_cg (w273.2 0 (by decide)) (w273.2 37 (by decide)) (w273.2 38 (by decide)) (rzA_cg rfl rfl rfl (rzA_cg rfl rfl rfl f264))) f275 (cpy_0 rfl) (by omega) Y S (lv_sub hl [1, 2, 3, 0] rfl)
                                                                                refine z_if_eq (tgt := 618) X.1 X.2.1 d_M_taken_605 (by decide) ⟨by omega, by omega⟩ (fun h362 => ?_) (fun h362 => ?_)
                                                                                · refine lv_ldc2 (v := (-1)) X.1 X.2.1 X.2.2.2.1 (X.2.2.1 _ cl_M_459) d_M_taken_618 ?_
                                                                                  exact J265 ((-1)) I253 J255 B239 G255 _ _ _ (akA_cg rfl rfl rfl (akA_cg rfl rfl rfl f241)) (stA_cg rfl rfl rfl rfl (stA_cg rfl rfl rfl rfl f242)) (stX_cg rfl rfl rfl rfl rfl rfl (stX_cg rfl rfl rfl rfl rfl rfl f243)) (pG1_cg rfl rfl g253_P1) (pG2_cg rfl rfl (pG2_cg rfl rfl f245)) (rpA_cg rfl rfl rfl (rpA_cg rfl rfl rfl f246)) (rzA_cg rfl rfl rfl (rzA_cg rfl rfl rfl f247)) Y S (lv_sub hl [0, 1, 2] rfl)
                                                                                · refine lv_aload_n X.1 X.2.1 d_M_taken_608 rfl (lv_at hl 0 rfl) ?_
                                                                                  refine lv_iconst (v := iI 4) X.1 X.2.1 d_M_taken_609 (by decide) ?_
                                                                                  refine lv_bipush (v := iI 8) X.1 X.2.1 d_M_taken_610 (by decide) ?_
                                                                                  refine r_nl (m_run (As := [.int (iI 4), .int (iI 8)]) (rest := [.int (iI ((8 * a1) + z206)), .ref ((q 106))]) (n := 2) X Y hZ hA hml hl.1 (r_M_timeOf l D E h q H.size I253 J255 B239 G255 4 (by decide) (by decide) 8 (by decide) (by decide) S.1 (pG1_cg rfl rfl g253_P1) (pG2_cg rfl rfl (pG2_cg rfl rfl f245))) kl_M_timeOf ks_M_timeOf kx_M_timeOf ki_M_timeOf ini_M hd_M_timeOf ⟨Nat.le_of_ble_eq_true rfl, Nat.le_of_ble_eq_true rfl⟩ rfl (Nat.le_of_ble_eq_true rfl) d_M_taken_612 ⟨Nat.le_refl _, Nat.le_refl _⟩) X Y hA S (by decide) (by decide) (fun v363 u H locs Y S s363 p363 => ?_)
                                                                                  obtain ⟨I363, J363, B363, G363⟩ := u
                                                                                  dsimp only at Y S s363 p363
                                                                                  have b363 : B239 = B363 := (funext (fun j => s363.2.2 j (by simp))).symm
                                                                                  subst b363
                                                                                  have g363_P1 := p363
                                                                                  refine lv_goto (tgt := 621) X.1 X.2.1 d_M_taken_615 (by decide) ?_
                                                                                  exact J265 v363 I363 J363 B239 G363 _ _ _ (akA_cg rfl rfl rfl (akA_cg rfl rfl rfl (akA_cg rfl rfl rfl f241))) (stA_cg rfl rfl rfl rfl (stA_cg rfl rfl rfl rfl (stA_cg rfl rfl rfl rfl f242))) (stX_cg rfl rfl rfl rfl rfl rfl (stX_cg rfl rfl rfl rfl rfl rfl (stX_cg rfl rfl rfl rfl rfl rfl f243))) g363_P1 (pG2_cg rfl rfl (pG2_cg rfl rfl (pG2_cg rfl rfl f245))) (rpA_cg rfl rfl rfl (rpA_cg rfl rfl rfl (rpA_cg rfl rfl rfl f246))) (rzA_cg rfl rfl rfl (rzA_cg rfl rfl rfl (rzA_cg rfl rfl rfl f247))) Y S (lv_sub hl [0, 1, 2] rfl)
                                                                            refine z_if_eq (tgt := 574) X.1 X.2.1 d_M_taken_561 (by decide) ⟨by omega, by omega⟩ (fun h364 => ?_) (fun h364 => ?_)
                                                                            · refine lv_ldc2 (v := (-1)) X.1 X.2.1 X.2.2.2.1 (X.2.2.1 _ cl_M_459) d_M_taken_574 ?_
                                                                              exact J248 ((-1)) I235 J237 B234 G237 _ _ _ (akA_cg rfl rfl rfl (akA_cg rfl rfl rfl (akA_cg (w234.2 118 (by decide)) (w234.2 119 (by decide)) (w234.2 120 (by decide)) (akA_cg rfl rfl rfl f221)))) (stA_cg rfl rfl rfl rfl (stA_cg rfl rfl rfl rfl (stA_cg (w234.2 110 (by decide)) (w234.2 118 (by decide)) (w234.2 119 (by decide)) (w234.2 120 (by decide)) (stA_cg rfl rfl rfl rfl f222)))) f238 (pG1_cg rfl rfl g235_P1) (pG2_cg rfl rfl (pG2_cg rfl rfl (pG2_cg (w234.2 37 (by decide)) (w234.2 38 (by decide)) (pG2_cg rfl rfl f225)))) (rpA_cg rfl rfl rfl (rpA_cg rfl rfl rfl (rpA_cg (w234.2 0 (by decide)) (w234.2 37 (by decide)) (w234.2 38 (by decide)) (rpA_cg rfl rfl rfl f226)))) (rzA_cg rfl rfl rfl (rzA_cg rfl rfl rfl (rzA_cg (w234.2 0 (by decide)) (w234.2 37 (by decide)) (w234.2 38 (by decide)) (rzA_cg rfl rfl rfl f227)))) Y S (lv_sub hl [0, 1, 2] rfl)
                                                                            · refine lv_aload_n X.1 X.2.1 d_M_taken_564 rfl (lv_at hl 0 rfl) ?_
                                                                              refine lv_iconst (v := iI 4) X.1 X.2.1 d_M_taken_565 (by decide) ?_
                                                                              refine lv_bipush (v := iI 6) X.1 X.2.1 d_M_taken_566 (by decide) ?_
                                                                              refine r_nl (m_run (As := [.int (iI 4), .int (iI 6)]) (rest := [.int (iI ((8 * a1) + z206)), .ref ((q 104))]) (n := 2) X Y hZ hA hml hl.1 (r_M_timeOf l D E h q H.size I235 J237 B234 G237 4 (by decide) (by decide) 6 (by decide) (by decide) S.1 (pG1_cg rfl rfl g235_P1) (pG2_cg rfl rfl (pG2_cg rfl rfl (pG2_cg (w234.2 37 (by decide)) (w234.2 38 (by decide)) (pG2_cg rfl rfl f225))))) kl_M_timeOf ks_M_timeOf kx_M_timeOf ki_M_timeOf ini_M hd_M_timeOf ⟨Nat.le_of_ble_eq_true rfl, Nat.le_of_ble_eq_true rfl⟩ rfl (Nat.le_of_ble_eq_true rfl) d_M_taken_568 ⟨Nat.le_refl _, Nat.le_refl _⟩) X Y hA S (by decide) (by decide) (fun v365 u H locs Y S s365 p365 => ?_)
                                                                              obtain ⟨I365, J365, B365, G365⟩ := u
                                                                              dsimp only at Y S s365 p365
                                                                              have b365 : B234 = B365 := (funext (fun j => s365.2.2 j (by simp))).symm
                                                                              subst b365
                                                                              have g365_P1 := p365
                                                                              refine lv_goto (tgt := 577) X.1 X.2.1 d_M_taken_571 (by decide) ?_
                                                                              exact J248 v365 I365 J365 B234 G365 _ _ _ (akA_cg rfl rfl rfl (akA_cg rfl rfl rfl (akA_cg rfl rfl rfl (akA_cg (w234.2 118 (by decide)) (w234.2 119 (by decide)) (w234.2 120 (by decide)) (akA_cg rfl rfl rfl f221))))) (stA_cg rfl rfl rfl rfl (stA_cg rfl rfl rfl rfl (stA_cg rfl rfl rfl rfl (stA_cg (w234.2 110 (by decide)) (w234.2 118 (by decide)) (w234.2 119 (by decide)) (w234.2 120 (by decide)) (stA_cg rfl rfl rfl rfl f222))))) (stX_cg rfl rfl rfl rfl rfl rfl f238) g365_P1 (pG2_cg rfl rfl (pG2_cg rfl rfl (pG2_cg rfl rfl (pG2_cg (w234.2 37 (by decide)) (w234.2 38 (by decide)) (pG2_cg rfl rfl f225))))) (rpA_cg rfl rfl rfl (rpA_cg rfl rfl rfl (rpA_cg rfl rfl rfl (rpA_cg (w234.2 0 (by decide)) (w234.2 37 (by decide)) (w234.2 38 (by decide)) (rpA_cg rfl rfl rfl f226))))) (rzA_cg rfl rfl rfl (rzA_cg rfl rfl rfl (rzA_cg rfl rfl rfl (rzA_cg (w234.2 0 (by decide)) (w234.2 37 (by decide)) (w234.2 38 (by decide)) (rzA_cg rfl rfl rfl f227))))) Y S (lv_sub hl [0, 1, 2] rfl)
                                                                        · refine lv_aload_n X.1 X.2.1 d_M_taken_496 rfl (lv_at hl 0 rfl) ?_
                                                                          refine m_get X Y 99 (by decide) lk_ticketKeys (gf_ticketKeys _ _ _) rfl d_M_taken_497 ?_
                                                                          refine lv_bipush (v := iI 32) X.1 X.2.1 d_M_taken_500 (by decide) ?_
                                                                          refine lv_iload X.1 X.2.1 d_M_taken_502 (lv_at hl 2 rfl) ?_
                                                                          refine z_imul X.1 X.2.1 d_M_taken_504 ?_
                                                                          refine lv_iload X.1 X.2.1 d_M_taken_505 (lv_at hl 3 rfl) ?_
                                                                          refine z_iadd X.1 X.2.1 d_M_taken_507 ?_
                                                                          refine lv_aload_n X.1 X.2.1 d_M_taken_508 rfl (lv_at hl 0 rfl) ?_
                                                                          refine m_get X Y 59 (by decide) lk_sub (gf_sub _ _ _) rfl d_M_taken_509 ?_
                                                                          refine lv_iload X.1 X.2.1 d_M_taken_512 (lv_at hl 3 rfl) ?_
                                                                          refine r_bald X Y S (aw_sub _ _ _ _ _ _ _) rfl (by omega) (show z220 < ((32 : Nat) : Int) by omega) (by omega) d_M_taken_514 (fun z366 q366 l366 u366 => ?_)
                                                                          refine r_bast X Y S (aw_ticketKeys _ _ _ _ _ _ _) (sw_ticketKeys _ _ _ _ _ _ _) rfl (by omega) (show (32 * ((8 * a1) + z206)) + z220 < ((1024 : Nat) : Int) by omega) (by omega) (by decide) d_M_taken_515 (fun B367 H locs Y S w367 => ?_)
                                                                          refine lv_iinc (v := iI (z220 + 1)) (lv' := [(7, .int (iI (z220 + 1))), (0, .ref h), (5, .int (iI z206)), (6, .int (iI ((8 * a1) + z206)))]) X.1 X.2.1 d_M_taken_516 hl (k := 3) rfl ((iI_add _ _).trans (congrArg iI (by omega))) (by decide) rfl (fun ls hl => ?_)
                                                                          refine lv_goto (tgt := 489) X.1 X.2.1 d_M_taken_519 (by decide) ?_
                                                                          exact ih229 ((32 - (z220 + 1)).toNat) (by omega) (z220 + 1) I219 J219 B367 G219 _ _ _ rfl (by omega) (by omega) (akA_cg (w367.2 118 (by decide)) (w367.2 119 (by decide)) (w367.2 120 (by decide)) f221) (stA_cg (w367.2 110 (by decide)) (w367.2 118 (by decide)) (w367.2 119 (by decide)) (w367.2 120 (by decide)) f222) (stX_cg (w367.2 97 (by decide)) (w367.2 98 (by decide)) (w367.2 100 (by decide)) (w367.2 107 (by decide)) (w367.2 108 (by decide)) (w367.2 109 (by decide)) f223) (pG1_cg rfl rfl f224) (pG2_cg (w367.2 37 (by decide)) (w367.2 38 (by decide)) f225) (rpA_cg (w367.2 0 (by decide)) (w367.2 37 (by decide)) (w367.2 38 (by decide)) f226) (rzA_cg (w367.2 0 (by decide)) (w367.2 37 (by decide)) (w367.2 38 (by decide)) f227) Y S (lv_sub hl [1, 2, 3, 0] rfl)
                                                                  refine lv_istore (lv' := [(7, .int (iI 0)), (6, .int (iI ((8 * a1) + z206))), (0, .ref h), (1, .int (iI a1)), (4, .int (iI z187)), (5, .int (iI z206))]) X.1 X.2.1 d_M_taken_487 hl (by decide) rfl (fun ls hl => ?_)
                                                                  exact J228 _ 0 I194 J194 B218 G194 _ _ _ rfl (by omega) (by omega) (akA_cg (w218.2 118 (by decide)) (w218.2 119 (by decide)) (w218.2 120 (by decide)) (akA_cg (w216.2 118 (by decide)) (w216.2 119 (by decide)) (w216.2 120 (by decide)) f195)) (stA_cg (w218.2 110 (by decide)) (w218.2 118 (by decide)) (w218.2 119 (by decide)) (w218.2 120 (by decide)) (stA_cg (w216.2 110 (by decide)) (w216.2 118 (by decide)) (w216.2 119 (by decide)) (w216.2 120 (by decide)) f196)) (stX_cg (w218.2 97 (by decide)) (w218.2 98 (by decide)) (w218.2 100 (by decide)) (w218.2 107 (by decide)) (w218.2 108 (by decide)) (w218.2 109 (by decide)) f217) (pG1_cg rfl rfl (pG1_cg rfl rfl f198)) (pG2_cg (w218.2 37 (by decide)) (w218.2 38 (by decide)) (pG2_cg (w216.2 37 (by decide)) (w216.2 38 (by decide)) f199)) (rpA_cg (w218.2 0 (by decide)) (w218.2 37 (by decide)) (w218.2 38 (by decide)) (rpA_cg (w216.2 0 (by decide)) (w216.2 37 (by decide)) (w216.2 38 (by decide)) f200)) (rzA_cg (w218.2 0 (by decide)) (w218.2 37 (by decide)) (w218.2 38 (by decide)) (rzA_cg (w216.2 0 (by decide)) (w216.2 37 (by decide)) (w216.2 38 (by decide)) f201)) Y S (lv_sub hl [2, 5, 1, 0] rfl)
                                                              · refine lv_bipush (v := iI (-2)) X.1 X.2.1 d_M_taken_457 (by decide) ?_
                                                                exact m_reti hQQ X Y hr hlk ⟨S, (-2), rfl, ⟨by omega, by omega, f198, f199, f197, f196⟩⟩ d_M_taken_459
                                                          refine z_icmp_ge (tgt := 450) X.1 X.2.1 d_M_taken_426 (by decide) ⟨by omega, by omega⟩ ⟨by decide, by decide⟩ (fun h368 => ?_) (fun h368 => ?_)
                                                          · exact J211  _ _ _  Y S (lv_sub hl [0, 1, 2, 3] rfl)
                                                          · refine lv_aload_n X.1 X.2.1 d_M_taken_429 rfl (lv_at hl 0 rfl) ?_
                                                            refine m_get X Y 97 (by decide) lk_isTicket (gf_isTicket _ _ _) rfl d_M_taken_430 ?_
                                                            refine lv_bipush (v := iI 8) X.1 X.2.1 d_M_taken_433 (by decide) ?_
                                                            refine lv_iload_n X.1 X.2.1 d_M_taken_435 rfl (lv_at hl 1 rfl) ?_
                                                            refine z_imul X.1 X.2.1 d_M_taken_436 ?_
                                                            refine lv_iload X.1 X.2.1 d_M_taken_437 (lv_at hl 3 rfl) ?_
                                                            refine z_iadd X.1 X.2.1 d_M_taken_439 ?_
                                                            refine r_zald X Y S (aw_isTicket _ _ _ _ _ _ _) rfl (by omega) (show (8 * a1) + z206 < ((32 : Nat) : Int) by omega) (by omega) d_M_taken_440 (fun z369 q369 l369 u369 => ?_)
                                                            refine z_if_eq (tgt := 450) X.1 X.2.1 d_M_taken_441 (by decide) ⟨by omega, by omega⟩ (fun h370 => ?_) (fun h370 => ?_)
                                                            · exact J211  _ _ _  Y S (lv_sub hl [0, 1, 2, 3] rfl)
                                                            · refine lv_iinc (v := iI (z206 + 1)) (lv' := [(5, .int (iI (z206 + 1))), (0, .ref h), (1, .int (iI a1)), (4, .int (iI z187))]) X.1 X.2.1 d_M_taken_444 hl (k := 3) rfl ((iI_add _ _).trans (congrArg iI (by omega))) (by decide) rfl (fun ls hl => ?_)
                                                              refine lv_goto (tgt := 422) X.1 X.2.1 d_M_taken_447 (by decide) ?_
                                                              exact ih208 ((8 - (z206 + 1)).toNat) (by omega) (z206 + 1) _ _ _ rfl (by omega) (by omega) Y S (lv_sub hl [1, 2, 3, 0] rfl)
                                                    refine lv_istore (lv' := [(5, .int (iI 0)), (0, .ref h), (1, .int (iI a1)), (4, .int (iI z187))]) X.1 X.2.1 d_M_taken_420 hl (by decide) rfl (fun ls hl => ?_)
                                                    exact J207 _ 0 _ _ _ rfl (by omega) (by omega) Y S (lv_sub hl [1, 2, 3, 0] rfl)
                                                refine z_if_ne (tgt := 419) X.1 X.2.1 d_M_taken_393 (by decide) ⟨by omega, by omega⟩ (fun h371 => ?_) (fun h371 => ?_)
                                                · exact J202 I187 J187 B187 G187 _ _ _ (akA_cg (s187.2.2 118 (by decide)) (s187.2.2 119 (by decide)) (s187.2.2 120 (by decide)) f183) f189 f188 g187_P1 g187_P2 f190 f191 Y S (lv_sub hl [2, 3, 0] rfl)
                                                · as_aux_lemma =>
                                                    refine lv_aload_n X.1 X.2.1 d_M_taken_396 rfl (lv_at hl 2 rfl) ?_
                                                    refine lv_aload_n X.1 X.2.1 d_M_taken_397 rfl (lv_at hl 2 rfl) ?_
                                                    refine lv_iconst (v := iI 4) X.1 X.2.1 d_M_taken_398 (by decide) ?_
                                                    refine lv_bipush (v := iI 6) X.1 X.2.1 d_M_taken_399 (by decide) ?_
                                                    refine lv_iconst (v := iI 5) X.1 X.2.1 d_M_taken_401 (by decide) ?_
                                                    refine r_nl (m_run (As := [.int (iI 4), .int (iI 6), .int (iI 5)]) (rest := [.ref h]) (n := 3) X Y hZ hA hml hl.1 (r_M_startOf l D E h q H.size I187 J187 B187 G187 4 (by decide) (by decide) 6 (by decide) (by decide) 5 (by decide) (by decide) S.1 g187_P1 g187_P2) kl_M_startOf ks_M_startOf kx_M_startOf ki_M_startOf ini_M hd_M_startOf ⟨Nat.le_of_ble_eq_true rfl, Nat.le_of_ble_eq_true rfl⟩ rfl (Nat.le_of_ble_eq_true rfl) d_M_taken_402 ⟨Nat.le_refl _, Nat.le_refl _⟩) X Y hA S (by decide) (by decide) (fun v372 u H locs Y S s372 p372 => ?_)
                                                    obtain ⟨I372, J372, B372, G372⟩ := u
                                                    dsimp only at Y S s372 p372
                                                    have b372 : B187 = B372 := (funext (fun j => s372.2.2 j (by simp))).symm
                                                    subst b372
                                                    have g372_P1 := p372
                                                    refine lv_aload_n X.1 X.2.1 d_M_taken_405 rfl (lv_at hl 2 rfl) ?_
                                                    refine lv_iload_n X.1 X.2.1 d_M_taken_406 rfl (lv_at hl 3 rfl) ?_
                                                    refine r_nl (m_run (As := [.int (iI a1)]) (rest := [.long v372, .ref h]) (n := 1) X Y hZ hA hml hl.1 (r_M_clockOf l D E h q H.size I372 J372 B187 G372 a1 (by omega) (by omega) S.1) kl_M_clockOf ks_M_clockOf kx_M_clockOf ki_M_clockOf ini_M hd_M_clockOf ⟨Nat.le_of_ble_eq_true rfl, Nat.le_of_ble_eq_true rfl⟩ rfl (Nat.le_of_ble_eq_true rfl) d_M_taken_407 ⟨Nat.le_refl _, Nat.le_refl _⟩) X Y hA S (by decide) (by decide) (fun v373 u H locs Y S s373 p373 => ?_)
                                                    obtain ⟨I373, J373, B373, G373⟩ := u
                                                    dsimp only at Y S s373 p373
                                                    have i373 : I372 = I373 := (funext (fun j => s373.2.1 j (by simp))).symm
                                                    subst i373
                                                    have b373 : B187 = B373 := (funext (fun j => s373.2.2 j (by simp))).symm
                                                    subst b373
                                                    refine r_ni (m_run (As := [.long v372, .long v373]) (rest := []) (n := 2) X Y hZ hA hml hl.1 (r_M_isFar l D E h q H.size I372 J373 B187 G373 v372 v373 S.1) kl_M_isFar ks_M_isFar kx_M_isFar ki_M_isFar ini_M hd_M_isFar ⟨Nat.le_of_ble_eq_true rfl, Nat.le_of_ble_eq_true rfl⟩ rfl (Nat.le_of_ble_eq_true rfl) d_M_taken_410 ⟨Nat.le_refl _, Nat.le_refl _⟩) X Y hA S (by decide) (by decide) (fun z374 u H locs Y S s374 p374 => ?_)
                                                    obtain ⟨I374, J374, B374, G374⟩ := u
                                                    dsimp only at Y S s374 p374
                                                    have i374 : I372 = I374 := (funext (fun j => s374.2.1 j (by simp))).symm
                                                    subst i374
                                                    have b374 : B187 = B374 := (funext (fun j => s374.2.2 j (by simp))).symm
                                                    subst b374
                                                    obtain ⟨l374, u374⟩ := p374
                                                    refine z_if_eq (tgt := 419) X.1 X.2.1 d_M_taken_413 (by decide) ⟨by omega, by omega⟩ (fun h375 => ?_) (fun h375 => ?_)
                                                    · exact J202 I372 J374 B187 G374 _ _ _ (akA_cg rfl rfl rfl (akA_cg rfl rfl rfl (akA_cg rfl rfl rfl (akA_cg (s187.2.2 118 (by decide)) (s187.2.2 119 (by decide)) (s187.2.2 120 (by decide)) f183)))) (stA_cg rfl rfl rfl rfl (stA_cg rfl rfl rfl rfl (stA_cg rfl rfl rfl rfl f189))) (stT_cg rfl rfl rfl rfl rfl rfl (stT_cg rfl rfl rfl rfl rfl rfl (stT_cg rfl rfl rfl rfl rfl rfl f188))) (pG1_cg rfl rfl (pG1_cg rfl rfl g372_P1)) (pG2_cg rfl rfl (pG2_cg rfl rfl (pG2_cg rfl rfl g187_P2))) (rpA_cg rfl rfl rfl (rpA_cg rfl rfl rfl (rpA_cg rfl rfl rfl f190))) (rzA_cg rfl rfl rfl (rzA_cg rfl rfl rfl (rzA_cg rfl rfl rfl f191))) Y S (lv_sub hl [2, 3, 0] rfl)
                                                    · refine lv_bipush (v := iI (-37)) X.1 X.2.1 d_M_taken_416 (by decide) ?_
                                                      exact m_reti hQQ X Y hr hlk ⟨S, (-37), rfl, ⟨by omega, by omega, (pG1_cg rfl rfl (pG1_cg rfl rfl g372_P1)), (pG2_cg rfl rfl (pG2_cg rfl rfl (pG2_cg rfl rfl g187_P2))), (stT_cg rfl rfl rfl rfl rfl rfl (stT_cg rfl rfl rfl rfl rfl rfl (stT_cg rfl rfl rfl rfl rfl rfl f188))), (stA_cg rfl rfl rfl rfl (stA_cg rfl rfl rfl rfl (stA_cg rfl rfl rfl rfl f189)))⟩⟩ d_M_taken_418
                                            · refine lv_bipush (v := iI (-14)) X.1 X.2.1 d_M_taken_384 (by decide) ?_
                                              exact m_reti hQQ X Y hr hlk ⟨S, (-14), rfl, ⟨by omega, by omega, g187_P1, g187_P2, f188, f189⟩⟩ d_M_taken_386
                                        · refine lv_bipush (v := iI (-41)) X.1 X.2.1 d_M_taken_364 (by decide) ?_
                                          exact m_reti hQQ X Y hr hlk ⟨S, (-41), rfl, ⟨by omega, by omega, g182_P1, g182_P2, (stT_cg (s182.2.2 97 (by decide)) (s182.2.2 98 (by decide)) (s182.2.2 100 (by decide)) (s182.2.2 107 (by decide)) (s182.2.2 108 (by decide)) (s182.2.2 109 (by decide)) (stT_cg rfl rfl rfl rfl rfl rfl f179)), (stA_cg (s182.2.2 110 (by decide)) (s182.2.2 118 (by decide)) (s182.2.2 119 (by decide)) (s182.2.2 120 (by decide)) (stA_cg rfl rfl rfl rfl (stA_cg rfl rfl rfl rfl (stA_cg rfl rfl rfl rfl (stA_cg rfl rfl rfl rfl f173)))))⟩⟩ d_M_taken_366
                                · refine lv_bipush (v := iI (-41)) X.1 X.2.1 d_M_taken_295 (by decide) ?_
                                  exact m_reti hQQ X Y hr hlk ⟨S, (-41), rfl, ⟨by omega, by omega, g160_P1, g160_P2, f161, (stA_cg (s160.2.2 110 (by decide)) (s160.2.2 118 (by decide)) (s160.2.2 119 (by decide)) (s160.2.2 120 (by decide)) (stA_cg rfl rfl rfl rfl f156))⟩⟩ d_M_taken_297
            · refine lv_aload_n X.1 X.2.1 d_M_taken_153 rfl (lv_at hl 0 rfl) ?_
              refine m_get X Y 0 (by decide) lk_mem (gf_mem _ _ _) rfl d_M_taken_154 ?_
              refine lv_sipush (v := iI 13200) X.1 X.2.1 d_M_taken_157 (by decide) ?_
              refine lv_iload X.1 X.2.1 d_M_taken_160 (lv_at hl 3 rfl) ?_
              refine z_iadd X.1 X.2.1 d_M_taken_162 ?_
              refine lv_aload_n X.1 X.2.1 d_M_taken_163 rfl (lv_at hl 0 rfl) ?_
              refine m_get X Y 118 (by decide) lk_askedClients (gf_askedClients _ _ _) rfl d_M_taken_164 ?_
              refine lv_sipush (v := iI 400) X.1 X.2.1 d_M_taken_167 (by decide) ?_
              refine lv_iload_n X.1 X.2.1 d_M_taken_170 rfl (lv_at hl 1 rfl) ?_
              refine z_imul X.1 X.2.1 d_M_taken_171 ?_
              refine lv_aload_n X.1 X.2.1 d_M_taken_172 rfl (lv_at hl 0 rfl) ?_
              refine m_get X Y 119 (by decide) lk_askedRealm (gf_askedRealm _ _ _) rfl d_M_taken_173 ?_
              refine lv_iload_n X.1 X.2.1 d_M_taken_176 rfl (lv_at hl 1 rfl) ?_
              refine r_iald X Y S (aw_askedRealm _ _ _ _ _ _ _) rfl (by omega) (show a1 < ((4 : Nat) : Int) by omega) (by omega) d_M_taken_177 (fun z376 q376 l376 u376 => ?_)
              refine z_iadd X.1 X.2.1 d_M_taken_178 ?_
              refine lv_iload X.1 X.2.1 d_M_taken_179 (lv_at hl 3 rfl) ?_
              refine z_iadd X.1 X.2.1 d_M_taken_181 ?_
              refine r_bald X Y S (aw_askedClients _ _ _ _ _ _ _) rfl (by omega) (show ((400 * a1) + z376) + z119 < ((1600 : Nat) : Int) by omega) (by omega) d_M_taken_182 (fun z377 q377 l377 u377 => ?_)
              refine r_bast X Y S (aw_mem _ _ _ _ _ _ _) (sw_mem _ _ _ _ _ _ _) rfl (by omega) (show 13200 + z119 < ((60000 : Nat) : Int) by omega) (by omega) (by decide) d_M_taken_183 (fun B378 H locs Y S w378 => ?_)
              have f379 : rpA (B378 37) (B378 38) (B378 0) := rpA_cg rfl (w378.2 37 (by decide)) (w378.2 38 (by decide)) (rpA_M (mmF_w (lo := 13200) (hi := 60000) mmF_rf w378 (by omega) (by omega)) (by decide) f125)
              refine lv_iinc (v := iI (z119 + 1)) (lv' := [(4, .int (iI (z119 + 1))), (0, .ref h), (1, .int (iI a1)), (3, .int (iI z117))]) X.1 X.2.1 d_M_taken_184 hl (k := 3) rfl ((iI_add _ _).trans (congrArg iI (by omega))) (by decide) rfl (fun ls hl => ?_)
              refine lv_goto (tgt := 142) X.1 X.2.1 d_M_taken_187 (by decide) ?_
              exact ih130 ((300 - (z119 + 1)).toNat) (by omega) (z119 + 1) I118 J118 B378 G118 _ _ _ rfl (by omega) (by omega) (akA_cg (w378.2 118 (by decide)) (w378.2 119 (by decide)) (w378.2 120 (by decide)) f120) (stA_cg (w378.2 110 (by decide)) (w378.2 118 (by decide)) (w378.2 119 (by decide)) (w378.2 120 (by decide)) f121) (stT_cg (w378.2 97 (by decide)) (w378.2 98 (by decide)) (w378.2 100 (by decide)) (w378.2 107 (by decide)) (w378.2 108 (by decide)) (w378.2 109 (by decide)) f122) (pG1_cg rfl rfl f123) (pG2_cg (w378.2 37 (by decide)) (w378.2 38 (by decide)) f124) f379 (by rw [w378.2 119 (by decide)]; exact cpy_go (by omega) (by omega) (by decide) w378 (show 13200 + z119 = _ by omega) q377 (show ((400 * a1) + z376) + z119 = _ by omega) (by omega) (by omega) i126) (by rw [w378.2 120 (by decide)]; omega) (by rw [w378.2 37 (by decide), w378.2 38 (by decide)]; omega) Y S (lv_sub hl [1, 2, 3, 0] rfl)
      refine lv_istore (lv' := [(4, .int (iI 0)), (3, .int (iI z117)), (0, .ref h), (1, .int (iI a1)), (2, .int (iI a2))]) X.1 X.2.1 d_M_taken_140 hl (by decide) rfl (fun ls hl => ?_)
      exact J129 _ 0 I108 J117 B108 G117 _ _ _ rfl (by omega) (by omega) (akA_cg rfl rfl rfl (akA_cg rfl rfl rfl (akA_cg rfl rfl rfl (akA_cg (s108.2.2 118 (by decide)) (s108.2.2 119 (by decide)) (s108.2.2 120 (by decide)) (akA_cg rfl rfl rfl (akA_cg rfl rfl rfl (akA_cg rfl rfl rfl (akA_cg rfl rfl rfl f_AK)))))))) (stA_cg rfl rfl rfl rfl f114) (stT_cg rfl rfl rfl rfl rfl rfl (stT_cg rfl rfl rfl rfl rfl rfl (stT_cg rfl rfl rfl rfl rfl rfl f109))) (pG1_cg rfl rfl (pG1_cg rfl rfl (pG1_cg rfl rfl g108_P1))) (pG2_cg rfl rfl (pG2_cg rfl rfl (pG2_cg rfl rfl g108_P2))) (rpA_cg rfl rfl rfl (rpA_cg rfl rfl rfl (rpA_cg rfl rfl rfl f110))) (cpy_0 rfl) (by omega) (by omega) Y S (lv_sub hl [2, 3, 1, 0] rfl)
  · as_aux_lemma =>
      refine lv_aload_n X.1 X.2.1 d_M_taken_43 rfl (lv_at hl 0 rfl) ?_
      refine lv_aload_n X.1 X.2.1 d_M_taken_44 rfl (lv_at hl 0 rfl) ?_
      refine lv_iconst (v := iI 0) X.1 X.2.1 d_M_taken_45 (by decide) ?_
      refine lv_iconst (v := iI 3) X.1 X.2.1 d_M_taken_46 (by decide) ?_
      refine r_ni (m_run (As := [.int (iI 0), .int (iI 3)]) (rest := [.ref h]) (n := 2) X Y hZ hA hml hl.1 (r_M_a l D E h q H.size I108 J108 B108 G108 0 (by decide) (by decide) 3 (by decide) (by decide) S.1) kl_M_a ks_M_a kx_M_a ki_M_a ini_M hd_M_a ⟨Nat.le_of_ble_eq_true rfl, Nat.le_of_ble_eq_true rfl⟩ rfl (Nat.le_of_ble_eq_true rfl) d_M_taken_47 ⟨Nat.le_refl _, Nat.le_refl _⟩) X Y hA S (by decide) (by decide) (fun z380 u H locs Y S s380 p380 => ?_)
      obtain ⟨I380, J380, B380, G380⟩ := u
      dsimp only at Y S s380 p380
      have i380 : I108 = I380 := (funext (fun j => s380.2.1 j (by simp))).symm
      subst i380
      have b380 : B108 = B380 := (funext (fun j => s380.2.2 j (by simp))).symm
      subst b380
      obtain ⟨l380, u380, x380⟩ := p380
      refine lv_aload_n X.1 X.2.1 d_M_taken_50 rfl (lv_at hl 0 rfl) ?_
      refine lv_iconst (v := iI 0) X.1 X.2.1 d_M_taken_51 (by decide) ?_
      refine lv_iconst (v := iI 3) X.1 X.2.1 d_M_taken_52 (by decide) ?_
      refine r_ni (m_run (As := [.int (iI 0), .int (iI 3)]) (rest := [.int (iI z380), .ref h]) (n := 2) X Y hZ hA hml hl.1 (r_M_b l D E h q H.size I108 J380 B108 G380 0 (by decide) (by decide) 3 (by decide) (by decide) S.1) kl_M_b ks_M_b kx_M_b ki_M_b ini_M hd_M_b ⟨Nat.le_of_ble_eq_true rfl, Nat.le_of_ble_eq_true rfl⟩ rfl (Nat.le_of_ble_eq_true rfl) d_M_taken_53 ⟨Nat.le_refl _, Nat.le_refl _⟩) X Y hA S (by decide) (by decide) (fun z381 u H locs Y S s381 p381 => ?_)
      obtain ⟨I381, J381, B381, G381⟩ := u
      dsimp only at Y S s381 p381
      have i381 : I108 = I381 := (funext (fun j => s381.2.1 j (by simp))).symm
      subst i381
      have b381 : B108 = B381 := (funext (fun j => s381.2.2 j (by simp))).symm
      subst b381
      have f382 : stA (B108 110) (B108 118) (B108 119) (B108 120) := (stA_cg rfl rfl rfl rfl (stA_cg rfl rfl rfl rfl (stA_cg (s108.2.2 110 (by decide)) (s108.2.2 118 (by decide)) (s108.2.2 119 (by decide)) (s108.2.2 120 (by decide)) (stA_cg rfl rfl rfl rfl (stA_cg rfl rfl rfl rfl (stA_cg rfl rfl rfl rfl (stA_cg rfl rfl rfl rfl f_FA)))))))
      obtain ⟨l381, u381, x381⟩ := p381
      have p383 : pr z380 z381 := by rw [x380, x381]; exact (pG2_cg rfl rfl (pG2_cg rfl rfl g108_P2)) (16 * 0 + 3 : Int).toNat (by omega)
      unfold pr at p383
      refine m_ldcSW (i := 2) X (by decide) (by decide) d_M_taken_56 ?_
      refine r_ni (m_run (As := [.int (iI z380), .int (iI z381), .ref ((D.2.1 2))]) (rest := []) (n := 3) X Y hZ hA hml hl.1 (r_M_isWord l D E h q H.size I108 J381 B108 G381 z380 (by omega) (by omega) z381 (by omega) (by omega) 2 (show 2 < nZ by decide) S.1 (pG1_cg rfl rfl (pG1_cg rfl rfl g108_P1)) (by omega) (by omega)) kl_M_isWord ks_M_isWord kx_M_isWord ki_M_isWord ini_M hd_M_isWord ⟨Nat.le_of_ble_eq_true rfl, Nat.le_of_ble_eq_true rfl⟩ rfl (Nat.le_of_ble_eq_true rfl) d_M_taken_59 ⟨Nat.le_refl _, Nat.le_refl _⟩) X Y hA S (by decide) (by decide) (fun z384 u H locs Y S s384 p384 => ?_)
      obtain ⟨I384, J384, B384, G384⟩ := u
      dsimp only at Y S s384 p384
      have b384 : B108 = B384 := (funext (fun j => s384.2.2 j (by simp))).symm
      subst b384
      obtain ⟨l384, u384, x384, g384_P1⟩ := p384
      refine z_if_eq (tgt := 102) X.1 X.2.1 d_M_taken_62 (by decide) ⟨by omega, by omega⟩ (fun h385 => ?_) (fun h385 => ?_)
      · refine lv_iconst (v := iI 0) X.1 X.2.1 d_M_taken_102 (by decide) ?_
        refine lv_istore_n (lv' := [(3, .int (iI 0)), (0, .ref h), (1, .int (iI a1)), (2, .int (iI a2))]) X.1 X.2.1 d_M_taken_103 rfl hl (by decide) rfl (fun ls hl => ?_)
        refine lv_goto (tgt := 232) X.1 X.2.1 d_M_taken_104 (by decide) ?_
        refine lv_iload_n X.1 X.2.1 d_M_taken_232 rfl (lv_at hl 0 rfl) ?_
        refine z_if_eq (tgt := 295) X.1 X.2.1 d_M_taken_233 (by decide) ⟨by decide, by decide⟩ (fun h386 => ?_) (fun h386 => False.elim (by omega))
        · refine lv_bipush (v := iI (-41)) X.1 X.2.1 d_M_taken_295 (by decide) ?_
          exact m_reti hQQ X Y hr hlk ⟨S, (-41), rfl, ⟨by omega, by omega, g384_P1, (pG2_cg rfl rfl (pG2_cg rfl rfl (pG2_cg rfl rfl g108_P2))), (stT_cg rfl rfl rfl rfl rfl rfl (stT_cg rfl rfl rfl rfl rfl rfl (stT_cg rfl rfl rfl rfl rfl rfl f109))), (stA_cg rfl rfl rfl rfl f382)⟩⟩ d_M_taken_297
      · as_aux_lemma =>
          refine lv_aload_n X.1 X.2.1 d_M_taken_65 rfl (lv_at hl 0 rfl) ?_
          refine lv_aload_n X.1 X.2.1 d_M_taken_66 rfl (lv_at hl 0 rfl) ?_
          refine lv_iconst (v := iI 0) X.1 X.2.1 d_M_taken_67 (by decide) ?_
          refine lv_iconst (v := iI 4) X.1 X.2.1 d_M_taken_68 (by decide) ?_
          refine r_ni (m_run (As := [.int (iI 0), .int (iI 4)]) (rest := [.ref h]) (n := 2) X Y hZ hA hml hl.1 (r_M_a l D E h q H.size I384 J384 B108 G384 0 (by decide) (by decide) 4 (by decide) (by decide) S.1) kl_M_a ks_M_a kx_M_a ki_M_a ini_M hd_M_a ⟨Nat.le_of_ble_eq_true rfl, Nat.le_of_ble_eq_true rfl⟩ rfl (Nat.le_of_ble_eq_true rfl) d_M_taken_69 ⟨Nat.le_refl _, Nat.le_refl _⟩) X Y hA S (by decide) (by decide) (fun z387 u H locs Y S s387 p387 => ?_)
          obtain ⟨I387, J387, B387, G387⟩ := u
          dsimp only at Y S s387 p387
          have i387 : I384 = I387 := (funext (fun j => s387.2.1 j (by simp))).symm
          subst i387
          have b387 : B108 = B387 := (funext (fun j => s387.2.2 j (by simp))).symm
          subst b387
          have f388 : akA a1 a2 (B108 118) (B108 119) (B108 120) := (akA_cg rfl rfl rfl (akA_cg rfl rfl rfl (akA_cg rfl rfl rfl (akA_cg rfl rfl rfl (akA_cg (s108.2.2 118 (by decide)) (s108.2.2 119 (by decide)) (s108.2.2 120 (by decide)) (akA_cg rfl rfl rfl (akA_cg rfl rfl rfl (akA_cg rfl rfl rfl (akA_cg rfl rfl rfl f_AK)))))))))
          obtain ⟨l387, u387, x387⟩ := p387
          refine lv_aload_n X.1 X.2.1 d_M_taken_72 rfl (lv_at hl 0 rfl) ?_
          refine lv_iconst (v := iI 0) X.1 X.2.1 d_M_taken_73 (by decide) ?_
          refine lv_iconst (v := iI 4) X.1 X.2.1 d_M_taken_74 (by decide) ?_
          refine r_ni (m_run (As := [.int (iI 0), .int (iI 4)]) (rest := [.int (iI z387), .ref h]) (n := 2) X Y hZ hA hml hl.1 (r_M_b l D E h q H.size I384 J387 B108 G387 0 (by decide) (by decide) 4 (by decide) (by decide) S.1) kl_M_b ks_M_b kx_M_b ki_M_b ini_M hd_M_b ⟨Nat.le_of_ble_eq_true rfl, Nat.le_of_ble_eq_true rfl⟩ rfl (Nat.le_of_ble_eq_true rfl) d_M_taken_75 ⟨Nat.le_refl _, Nat.le_refl _⟩) X Y hA S (by decide) (by decide) (fun z389 u H locs Y S s389 p389 => ?_)
          obtain ⟨I389, J389, B389, G389⟩ := u
          dsimp only at Y S s389 p389
          have i389 : I384 = I389 := (funext (fun j => s389.2.1 j (by simp))).symm
          subst i389
          have b389 : B108 = B389 := (funext (fun j => s389.2.2 j (by simp))).symm
          subst b389
          obtain ⟨l389, u389, x389⟩ := p389
          have p390 : pr z387 z389 := by rw [x387, x389]; exact (pG2_cg rfl rfl (pG2_cg rfl rfl (pG2_cg rfl rfl (pG2_cg rfl rfl (pG2_cg rfl rfl g108_P2))))) (16 * 0 + 4 : Int).toNat (by omega)
          unfold pr at p390
          refine lv_aload_n X.1 X.2.1 d_M_taken_78 rfl (lv_at hl 0 rfl) ?_
          refine m_get X Y 92 (by decide) lk_agentNames (gf_agentNames _ _ _) rfl d_M_taken_79 ?_
          refine lv_bipush (v := iI 40) X.1 X.2.1 d_M_taken_82 (by decide) ?_
          refine lv_iload_n X.1 X.2.1 d_M_taken_84 rfl (lv_at hl 1 rfl) ?_
          refine z_imul X.1 X.2.1 d_M_taken_85 ?_
          refine lv_aload_n X.1 X.2.1 d_M_taken_86 rfl (lv_at hl 0 rfl) ?_
          refine m_get X Y 93 (by decide) lk_agentSizes (gf_agentSizes _ _ _) rfl d_M_taken_87 ?_
          refine lv_iload_n X.1 X.2.1 d_M_taken_90 rfl (lv_at hl 1 rfl) ?_
          refine r_iald X Y S (aw_agentSizes _ _ _ _ _ _ _) rfl (by omega) (show a1 < ((4 : Nat) : Int) by omega) (by omega) d_M_taken_91 (fun z391 q391 l391 u391 => ?_)
          refine r_ni (m_run (As := [.int (iI z387), .int (iI z389), .ref ((q 92)), .int (iI (40 * a1)), .int (iI z391)]) (rest := []) (n := 5) X Y hZ hA hml hl.1 (r_M_isParts_agentNames l D E h q H.size I384 J389 B108 G389 z387 (by omega) (by omega) z389 (by omega) (by omega) (40 * a1) (by omega) (by omega) z391 (by omega) (by omega) S.1 (pG1_cg rfl rfl (pG1_cg rfl rfl g384_P1)) (pG2_cg rfl rfl (pG2_cg rfl rfl (pG2_cg rfl rfl (pG2_cg rfl rfl (pG2_cg rfl rfl g108_P2))))) (by omega) (by omega)) kl_M_isParts ks_M_isParts kx_M_isParts ki_M_isParts ini_M hd_M_isParts ⟨Nat.le_of_ble_eq_true rfl, Nat.le_of_ble_eq_true rfl⟩ rfl (Nat.le_of_ble_eq_true rfl) d_M_taken_92 ⟨Nat.le_refl _, Nat.le_refl _⟩) X Y hA S (by decide) (by decide) (fun z392 u H locs Y S s392 p392 => ?_)
          obtain ⟨I392, J392, B392, G392⟩ := u
          dsimp only at Y S s392 p392
          have f393 : stT (B392 97) (B392 98) (B392 100) (B392 107) (B392 108) (B392 109) := (stT_cg (s392.2.2 97 (by decide)) (s392.2.2 98 (by decide)) (s392.2.2 100 (by decide)) (s392.2.2 107 (by decide)) (s392.2.2 108 (by decide)) (s392.2.2 109 (by decide)) (stT_cg rfl rfl rfl rfl rfl rfl (stT_cg rfl rfl rfl rfl rfl rfl (stT_cg rfl rfl rfl rfl rfl rfl (stT_cg rfl rfl rfl rfl rfl rfl (stT_cg rfl rfl rfl rfl rfl rfl f109))))))
          obtain ⟨l392, u392, x392, g392_P1, g392_P2, g392_TF, g392_MF⟩ := p392
          have f394 : rpA (B392 37) (B392 38) (B392 0) := (rpA_M g392_MF (by decide) (rpA_T g392_TF (by decide) (by decide) (rpA_cg rfl rfl rfl (rpA_cg rfl rfl rfl (rpA_cg rfl rfl rfl (rpA_cg rfl rfl rfl (rpA_cg rfl rfl rfl f110)))))))
          have a395 : z392 ≠ 0 → rzA (B392 37) (B392 38) (B392 0) := fun h9 => rzA_M g392_MF (by decide) (rzA_T g392_TF (by decide) (by decide) (rz_1 (rpA_cg rfl rfl rfl (rpA_cg rfl rfl rfl (rpA_cg rfl rfl rfl (rpA_cg rfl rfl rfl (rpA_cg rfl rfl rfl f110))))) x380 x381 x387 x389 (x384.resolve_left (by omega)) (by decide) (x392.resolve_left h9)))
          refine z_if_eq (tgt := 102) X.1 X.2.1 d_M_taken_95 (by decide) ⟨by omega, by omega⟩ (fun h396 => ?_) (fun h396 => ?_)
          · refine lv_iconst (v := iI 0) X.1 X.2.1 d_M_taken_102 (by decide) ?_
            refine lv_istore_n (lv' := [(3, .int (iI 0)), (0, .ref h), (1, .int (iI a1)), (2, .int (iI a2))]) X.1 X.2.1 d_M_taken_103 rfl hl (by decide) rfl (fun ls hl => ?_)
            refine lv_goto (tgt := 232) X.1 X.2.1 d_M_taken_104 (by decide) ?_
            refine lv_iload_n X.1 X.2.1 d_M_taken_232 rfl (lv_at hl 0 rfl) ?_
            refine z_if_eq (tgt := 295) X.1 X.2.1 d_M_taken_233 (by decide) ⟨by decide, by decide⟩ (fun h397 => ?_) (fun h397 => False.elim (by omega))
            · refine lv_bipush (v := iI (-41)) X.1 X.2.1 d_M_taken_295 (by decide) ?_
              exact m_reti hQQ X Y hr hlk ⟨S, (-41), rfl, ⟨by omega, by omega, g392_P1, g392_P2, f393, (stA_cg (s392.2.2 110 (by decide)) (s392.2.2 118 (by decide)) (s392.2.2 119 (by decide)) (s392.2.2 120 (by decide)) (stA_cg rfl rfl rfl rfl (stA_cg rfl rfl rfl rfl (stA_cg rfl rfl rfl rfl f382))))⟩⟩ d_M_taken_297
          · as_aux_lemma =>
              have f398 : rzA (B392 37) (B392 38) (B392 0) := a395 (by omega)
              have f399 : rzA (B392 37) (B392 38) (B392 0) := a395 (by omega)
              refine lv_iconst (v := iI 1) X.1 X.2.1 d_M_taken_98 (by decide) ?_
              refine lv_goto (tgt := 103) X.1 X.2.1 d_M_taken_99 (by decide) ?_
              refine lv_istore_n (lv' := [(3, .int (iI 1)), (0, .ref h), (1, .int (iI a1)), (2, .int (iI a2))]) X.1 X.2.1 d_M_taken_103 rfl hl (by decide) rfl (fun ls hl => ?_)
              refine lv_goto (tgt := 232) X.1 X.2.1 d_M_taken_104 (by decide) ?_
              refine lv_iload_n X.1 X.2.1 d_M_taken_232 rfl (lv_at hl 0 rfl) ?_
              refine z_if_eq (tgt := 295) X.1 X.2.1 d_M_taken_233 (by decide) ⟨by decide, by decide⟩ (fun h400 => False.elim (by omega)) (fun h400 => ?_)
              · as_aux_lemma =>
                  refine lv_aload_n X.1 X.2.1 d_M_taken_236 rfl (lv_at hl 1 rfl) ?_
                  refine lv_aload_n X.1 X.2.1 d_M_taken_237 rfl (lv_at hl 1 rfl) ?_
                  refine lv_iconst (v := iI 4) X.1 X.2.1 d_M_taken_238 (by decide) ?_
                  refine lv_bipush (v := iI 9) X.1 X.2.1 d_M_taken_239 (by decide) ?_
                  refine r_ni (m_run (As := [.int (iI 4), .int (iI 9)]) (rest := [.ref h]) (n := 2) X Y hZ hA hml hl.1 (r_M_a l D E h q H.size I392 J392 B392 G392 4 (by decide) (by decide) 9 (by decide) (by decide) S.1) kl_M_a ks_M_a kx_M_a ki_M_a ini_M hd_M_a ⟨Nat.le_of_ble_eq_true rfl, Nat.le_of_ble_eq_true rfl⟩ rfl (Nat.le_of_ble_eq_true rfl) d_M_taken_241 ⟨Nat.le_refl _, Nat.le_refl _⟩) X Y hA S (by decide) (by decide) (fun z401 u H locs Y S s401 p401 => ?_)
                  obtain ⟨I401, J401, B401, G401⟩ := u
                  dsimp only at Y S s401 p401
                  have i401 : I392 = I401 := (funext (fun j => s401.2.1 j (by simp))).symm
                  subst i401
                  have b401 : B392 = B401 := (funext (fun j => s401.2.2 j (by simp))).symm
                  subst b401
                  obtain ⟨l401, u401, x401⟩ := p401
                  refine lv_aload_n X.1 X.2.1 d_M_taken_244 rfl (lv_at hl 1 rfl) ?_
                  refine lv_iconst (v := iI 4) X.1 X.2.1 d_M_taken_245 (by decide) ?_
                  refine lv_bipush (v := iI 9) X.1 X.2.1 d_M_taken_246 (by decide) ?_
                  refine r_ni (m_run (As := [.int (iI 4), .int (iI 9)]) (rest := [.int (iI z401), .ref h]) (n := 2) X Y hZ hA hml hl.1 (r_M_b l D E h q H.size I392 J401 B392 G401 4 (by decide) (by decide) 9 (by decide) (by decide) S.1) kl_M_b ks_M_b kx_M_b ki_M_b ini_M hd_M_b ⟨Nat.le_of_ble_eq_true rfl, Nat.le_of_ble_eq_true rfl⟩ rfl (Nat.le_of_ble_eq_true rfl) d_M_taken_248 ⟨Nat.le_refl _, Nat.le_refl _⟩) X Y hA S (by decide) (by decide) (fun z402 u H locs Y S s402 p402 => ?_)
                  obtain ⟨I402, J402, B402, G402⟩ := u
                  dsimp only at Y S s402 p402
                  have i402 : I392 = I402 := (funext (fun j => s402.2.1 j (by simp))).symm
                  subst i402
                  have b402 : B392 = B402 := (funext (fun j => s402.2.2 j (by simp))).symm
                  subst b402
                  obtain ⟨l402, u402, x402⟩ := p402
                  have p403 : pr z401 z402 := by rw [x401, x402]; exact (pG2_cg rfl rfl (pG2_cg rfl rfl g392_P2)) (16 * 4 + 9 : Int).toNat (by omega)
                  unfold pr at p403
                  refine m_ldcSW (i := 2) X (by decide) (by decide) d_M_taken_251 ?_
                  refine r_ni (m_run (As := [.int (iI z401), .int (iI z402), .ref ((D.2.1 2))]) (rest := []) (n := 3) X Y hZ hA hml hl.1 (r_M_isWord l D E h q H.size I392 J402 B392 G402 z401 (by omega) (by omega) z402 (by omega) (by omega) 2 (show 2 < nZ by decide) S.1 (pG1_cg rfl rfl (pG1_cg rfl rfl g392_P1)) (by omega) (by omega)) kl_M_isWord ks_M_isWord kx_M_isWord ki_M_isWord ini_M hd_M_isWord ⟨Nat.le_of_ble_eq_true rfl, Nat.le_of_ble_eq_true rfl⟩ rfl (Nat.le_of_ble_eq_true rfl) d_M_taken_254 ⟨Nat.le_refl _, Nat.le_refl _⟩) X Y hA S (by decide) (by decide) (fun z404 u H locs Y S s404 p404 => ?_)
                  obtain ⟨I404, J404, B404, G404⟩ := u
                  dsimp only at Y S s404 p404
                  have b404 : B392 = B404 := (funext (fun j => s404.2.2 j (by simp))).symm
                  subst b404
                  have f405 : stA (B392 110) (B392 118) (B392 119) (B392 120) := (stA_cg rfl rfl rfl rfl (stA_cg rfl rfl rfl rfl (stA_cg rfl rfl rfl rfl (stA_cg (s392.2.2 110 (by decide)) (s392.2.2 118 (by decide)) (s392.2.2 119 (by decide)) (s392.2.2 120 (by decide)) (stA_cg rfl rfl rfl rfl (stA_cg rfl rfl rfl rfl (stA_cg rfl rfl rfl rfl f382)))))))
                  obtain ⟨l404, u404, x404, g404_P1⟩ := p404
                  refine z_if_eq (tgt := 295) X.1 X.2.1 d_M_taken_257 (by decide) ⟨by omega, by omega⟩ (fun h406 => ?_) (fun h406 => ?_)
                  · refine lv_bipush (v := iI (-41)) X.1 X.2.1 d_M_taken_295 (by decide) ?_
                    exact m_reti hQQ X Y hr hlk ⟨S, (-41), rfl, ⟨by omega, by omega, g404_P1, (pG2_cg rfl rfl (pG2_cg rfl rfl (pG2_cg rfl rfl g392_P2))), (stT_cg rfl rfl rfl rfl rfl rfl (stT_cg rfl rfl rfl rfl rfl rfl (stT_cg rfl rfl rfl rfl rfl rfl f393))), f405⟩⟩ d_M_taken_297
                  · as_aux_lemma =>
                      refine lv_aload_n X.1 X.2.1 d_M_taken_260 rfl (lv_at hl 1 rfl) ?_
                      refine lv_aload_n X.1 X.2.1 d_M_taken_261 rfl (lv_at hl 1 rfl) ?_
                      refine lv_iconst (v := iI 4) X.1 X.2.1 d_M_taken_262 (by decide) ?_
                      refine lv_bipush (v := iI 10) X.1 X.2.1 d_M_taken_263 (by decide) ?_
                      refine r_ni (m_run (As := [.int (iI 4), .int (iI 10)]) (rest := [.ref h]) (n := 2) X Y hZ hA hml hl.1 (r_M_a l D E h q H.size I404 J404 B392 G404 4 (by decide) (by decide) 10 (by decide) (by decide) S.1) kl_M_a ks_M_a kx_M_a ki_M_a ini_M hd_M_a ⟨Nat.le_of_ble_eq_true rfl, Nat.le_of_ble_eq_true rfl⟩ rfl (Nat.le_of_ble_eq_true rfl) d_M_taken_265 ⟨Nat.le_refl _, Nat.le_refl _⟩) X Y hA S (by decide) (by decide) (fun z407 u H locs Y S s407 p407 => ?_)
                      obtain ⟨I407, J407, B407, G407⟩ := u
                      dsimp only at Y S s407 p407
                      have i407 : I404 = I407 := (funext (fun j => s407.2.1 j (by simp))).symm
                      subst i407
                      have b407 : B392 = B407 := (funext (fun j => s407.2.2 j (by simp))).symm
                      subst b407
                      obtain ⟨l407, u407, x407⟩ := p407
                      refine lv_aload_n X.1 X.2.1 d_M_taken_268 rfl (lv_at hl 1 rfl) ?_
                      refine lv_iconst (v := iI 4) X.1 X.2.1 d_M_taken_269 (by decide) ?_
                      refine lv_bipush (v := iI 10) X.1 X.2.1 d_M_taken_270 (by decide) ?_
                      refine r_ni (m_run (As := [.int (iI 4), .int (iI 10)]) (rest := [.int (iI z407), .ref h]) (n := 2) X Y hZ hA hml hl.1 (r_M_b l D E h q H.size I404 J407 B392 G407 4 (by decide) (by decide) 10 (by decide) (by decide) S.1) kl_M_b ks_M_b kx_M_b ki_M_b ini_M hd_M_b ⟨Nat.le_of_ble_eq_true rfl, Nat.le_of_ble_eq_true rfl⟩ rfl (Nat.le_of_ble_eq_true rfl) d_M_taken_272 ⟨Nat.le_refl _, Nat.le_refl _⟩) X Y hA S (by decide) (by decide) (fun z408 u H locs Y S s408 p408 => ?_)
                      obtain ⟨I408, J408, B408, G408⟩ := u
                      dsimp only at Y S s408 p408
                      have i408 : I404 = I408 := (funext (fun j => s408.2.1 j (by simp))).symm
                      subst i408
                      have b408 : B392 = B408 := (funext (fun j => s408.2.2 j (by simp))).symm
                      subst b408
                      obtain ⟨l408, u408, x408⟩ := p408
                      have p409 : pr z407 z408 := by rw [x407, x408]; exact (pG2_cg rfl rfl (pG2_cg rfl rfl (pG2_cg rfl rfl (pG2_cg rfl rfl (pG2_cg rfl rfl g392_P2))))) (16 * 4 + 10 : Int).toNat (by omega)
                      unfold pr at p409
                      refine lv_aload_n X.1 X.2.1 d_M_taken_275 rfl (lv_at hl 1 rfl) ?_
                      refine m_get X Y 117 (by decide) lk_askedNames (gf_askedNames _ _ _) rfl d_M_taken_276 ?_
                      refine lv_bipush (v := iI 40) X.1 X.2.1 d_M_taken_279 (by decide) ?_
                      refine lv_iload_n X.1 X.2.1 d_M_taken_281 rfl (lv_at hl 2 rfl) ?_
                      refine z_imul X.1 X.2.1 d_M_taken_282 ?_
                      refine lv_aload_n X.1 X.2.1 d_M_taken_283 rfl (lv_at hl 1 rfl) ?_
                      refine m_get X Y 113 (by decide) lk_askedSize (gf_askedSize _ _ _) rfl d_M_taken_284 ?_
                      refine lv_iload_n X.1 X.2.1 d_M_taken_287 rfl (lv_at hl 2 rfl) ?_
                      refine r_iald X Y S (aw_askedSize _ _ _ _ _ _ _) rfl (by omega) (show a1 < ((4 : Nat) : Int) by omega) (by omega) d_M_taken_288 (fun z410 q410 l410 u410 => ?_)
                      refine r_ni (m_run (As := [.int (iI z407), .int (iI z408), .ref ((q 117)), .int (iI (40 * a1)), .int (iI z410)]) (rest := []) (n := 5) X Y hZ hA hml hl.1 (r_M_isParts_askedNames l D E h q H.size I404 J408 B392 G408 z407 (by omega) (by omega) z408 (by omega) (by omega) (40 * a1) (by omega) (by omega) z410 (by omega) (by omega) S.1 (pG1_cg rfl rfl (pG1_cg rfl rfl g404_P1)) (pG2_cg rfl rfl (pG2_cg rfl rfl (pG2_cg rfl rfl (pG2_cg rfl rfl (pG2_cg rfl rfl g392_P2))))) (by omega) (by omega)) kl_M_isParts ks_M_isParts kx_M_isParts ki_M_isParts ini_M hd_M_isParts ⟨Nat.le_of_ble_eq_true rfl, Nat.le_of_ble_eq_true rfl⟩ rfl (Nat.le_of_ble_eq_true rfl) d_M_taken_289 ⟨Nat.le_refl _, Nat.le_refl _⟩) X Y hA S (by decide) (by decide) (fun z411 u H locs Y S s411 p411 => ?_)
                      obtain ⟨I411, J411, B411, G411⟩ := u
                      dsimp only at Y S s411 p411
                      have f412 : stT (B411 97) (B411 98) (B411 100) (B411 107) (B411 108) (B411 109) := (stT_cg (s411.2.2 97 (by decide)) (s411.2.2 98 (by decide)) (s411.2.2 100 (by decide)) (s411.2.2 107 (by decide)) (s411.2.2 108 (by decide)) (s411.2.2 109 (by decide)) (stT_cg rfl rfl rfl rfl rfl rfl (stT_cg rfl rfl rfl rfl rfl rfl (stT_cg rfl rfl rfl rfl rfl rfl (stT_cg rfl rfl rfl rfl rfl rfl (stT_cg rfl rfl rfl rfl rfl rfl f393))))))
                      have f413 : akA a1 a2 (B411 118) (B411 119) (B411 120) := (akA_cg (s411.2.2 118 (by decide)) (s411.2.2 119 (by decide)) (s411.2.2 120 (by decide)) (akA_cg rfl rfl rfl (akA_cg rfl rfl rfl (akA_cg rfl rfl rfl (akA_cg rfl rfl rfl (akA_cg rfl rfl rfl (akA_cg (s392.2.2 118 (by decide)) (s392.2.2 119 (by decide)) (s392.2.2 120 (by decide)) (akA_cg rfl rfl rfl f388))))))))
                      obtain ⟨l411, u411, x411, g411_P1, g411_P2, g411_TF, g411_MF⟩ := p411
                      have f414 : rpA (B411 37) (B411 38) (B411 0) := (rpA_M g411_MF (by decide) (rpA_T g411_TF (by decide) (by decide) (rpA_cg rfl rfl rfl (rpA_cg rfl rfl rfl (rpA_cg rfl rfl rfl (rpA_cg rfl rfl rfl (rpA_cg rfl rfl rfl f394)))))))
                      have f415 : rzA (B411 37) (B411 38) (B411 0) := (rzA_M g411_MF (by decide) (rzA_T g411_TF (by decide) (by decide) (rzA_cg rfl rfl rfl (rzA_cg rfl rfl rfl (rzA_cg rfl rfl rfl (rzA_cg rfl rfl rfl (rzA_cg rfl rfl rfl f399)))))))
                      refine z_if_ne (tgt := 298) X.1 X.2.1 d_M_taken_292 (by decide) ⟨by omega, by omega⟩ (fun h416 => ?_) (fun h416 => ?_)
                      · as_aux_lemma =>
                          refine lv_aload_n X.1 X.2.1 d_M_taken_298 rfl (lv_at hl 1 rfl) ?_
                          refine lv_aload_n X.1 X.2.1 d_M_taken_299 rfl (lv_at hl 1 rfl) ?_
                          refine lv_iconst (v := iI 4) X.1 X.2.1 d_M_taken_300 (by decide) ?_
                          refine lv_bipush (v := iI 9) X.1 X.2.1 d_M_taken_301 (by decide) ?_
                          refine r_ni (m_run (As := [.int (iI 4), .int (iI 9)]) (rest := [.ref h]) (n := 2) X Y hZ hA hml hl.1 (r_M_a l D E h q H.size I411 J411 B411 G411 4 (by decide) (by decide) 9 (by decide) (by decide) S.1) kl_M_a ks_M_a kx_M_a ki_M_a ini_M hd_M_a ⟨Nat.le_of_ble_eq_true rfl, Nat.le_of_ble_eq_true rfl⟩ rfl (Nat.le_of_ble_eq_true rfl) d_M_taken_303 ⟨Nat.le_refl _, Nat.le_refl _⟩) X Y hA S (by decide) (by decide) (fun z417 u H locs Y S s417 p417 => ?_)
                          obtain ⟨I417, J417, B417, G417⟩ := u
                          dsimp only at Y S s417 p417
                          have i417 : I411 = I417 := (funext (fun j => s417.2.1 j (by simp))).symm
                          subst i417
                          have b417 : B411 = B417 := (funext (fun j => s417.2.2 j (by simp))).symm
                          subst b417
                          obtain ⟨l417, u417, x417⟩ := p417
                          refine lv_aload_n X.1 X.2.1 d_M_taken_306 rfl (lv_at hl 1 rfl) ?_
                          refine lv_iconst (v := iI 4) X.1 X.2.1 d_M_taken_307 (by decide) ?_
                          refine lv_bipush (v := iI 9) X.1 X.2.1 d_M_taken_308 (by decide) ?_
                          refine r_ni (m_run (As := [.int (iI 4), .int (iI 9)]) (rest := [.int (iI z417), .ref h]) (n := 2) X Y hZ hA hml hl.1 (r_M_b l D E h q H.size I411 J417 B411 G417 4 (by decide) (by decide) 9 (by decide) (by decide) S.1) kl_M_b ks_M_b kx_M_b ki_M_b ini_M hd_M_b ⟨Nat.le_of_ble_eq_true rfl, Nat.le_of_ble_eq_true rfl⟩ rfl (Nat.le_of_ble_eq_true rfl) d_M_taken_310 ⟨Nat.le_refl _, Nat.le_refl _⟩) X Y hA S (by decide) (by decide) (fun z418 u H locs Y S s418 p418 => ?_)
                          obtain ⟨I418, J418, B418, G418⟩ := u
                          dsimp only at Y S s418 p418
                          have i418 : I411 = I418 := (funext (fun j => s418.2.1 j (by simp))).symm
                          subst i418
                          have b418 : B411 = B418 := (funext (fun j => s418.2.2 j (by simp))).symm
                          subst b418
                          obtain ⟨l418, u418, x418⟩ := p418
                          have p419 : pr z417 z418 := by rw [x417, x418]; exact (pG2_cg rfl rfl (pG2_cg rfl rfl g411_P2)) (16 * 4 + 9 : Int).toNat (by omega)
                          unfold pr at p419
                          refine lv_aload_n X.1 X.2.1 d_M_taken_313 rfl (lv_at hl 1 rfl) ?_
                          refine lv_iconst (v := iI 3) X.1 X.2.1 d_M_taken_314 (by decide) ?_
                          refine lv_iconst (v := iI 1) X.1 X.2.1 d_M_taken_315 (by decide) ?_
                          refine r_ni (m_run (As := [.int (iI 3), .int (iI 1)]) (rest := [.int (iI z418), .int (iI z417), .ref h]) (n := 2) X Y hZ hA hml hl.1 (r_M_a l D E h q H.size I411 J418 B411 G418 3 (by decide) (by decide) 1 (by decide) (by decide) S.1) kl_M_a ks_M_a kx_M_a ki_M_a ini_M hd_M_a ⟨Nat.le_of_ble_eq_true rfl, Nat.le_of_ble_eq_true rfl⟩ rfl (Nat.le_of_ble_eq_true rfl) d_M_taken_316 ⟨Nat.le_refl _, Nat.le_refl _⟩) X Y hA S (by decide) (by decide) (fun z420 u H locs Y S s420 p420 => ?_)
                          obtain ⟨I420, J420, B420, G420⟩ := u
                          dsimp only at Y S s420 p420
                          have i420 : I411 = I420 := (funext (fun j => s420.2.1 j (by simp))).symm
                          subst i420
                          have b420 : B411 = B420 := (funext (fun j => s420.2.2 j (by simp))).symm
                          subst b420
                          obtain ⟨l420, u420, x420⟩ := p420
                          refine lv_aload_n X.1 X.2.1 d_M_taken_319 rfl (lv_at hl 1 rfl) ?_
                          refine lv_iconst (v := iI 3) X.1 X.2.1 d_M_taken_320 (by decide) ?_
                          refine lv_iconst (v := iI 1) X.1 X.2.1 d_M_taken_321 (by decide) ?_
                          refine r_ni (m_run (As := [.int (iI 3), .int (iI 1)]) (rest := [.int (iI z420), .int (iI z418), .int (iI z417), .ref h]) (n := 2) X Y hZ hA hml hl.1 (r_M_b l D E h q H.size I411 J420 B411 G420 3 (by decide) (by decide) 1 (by decide) (by decide) S.1) kl_M_b ks_M_b kx_M_b ki_M_b ini_M hd_M_b ⟨Nat.le_of_ble_eq_true rfl, Nat.le_of_ble_eq_true rfl⟩ rfl (Nat.le_of_ble_eq_true rfl) d_M_taken_322 ⟨Nat.le_refl _, Nat.le_refl _⟩) X Y hA S (by decide) (by decide) (fun z421 u H locs Y S s421 p421 => ?_)
                          obtain ⟨I421, J421, B421, G421⟩ := u
                          dsimp only at Y S s421 p421
                          have i421 : I411 = I421 := (funext (fun j => s421.2.1 j (by simp))).symm
                          subst i421
                          have b421 : B411 = B421 := (funext (fun j => s421.2.2 j (by simp))).symm
                          subst b421
                          have f422 : stA (B411 110) (B411 118) (B411 119) (B411 120) := (stA_cg rfl rfl rfl rfl (stA_cg rfl rfl rfl rfl (stA_cg rfl rfl rfl rfl (stA_cg rfl rfl rfl rfl (stA_cg (s411.2.2 110 (by decide)) (s411.2.2 118 (by decide)) (s411.2.2 119 (by decide)) (s411.2.2 120 (by decide)) (stA_cg rfl rfl rfl rfl (stA_cg rfl rfl rfl rfl f405)))))))
                          obtain ⟨l421, u421, x421⟩ := p421
                          have p423 : pr z420 z421 := by rw [x420, x421]; exact (pG2_cg rfl rfl (pG2_cg rfl rfl (pG2_cg rfl rfl (pG2_cg rfl rfl g411_P2)))) (16 * 3 + 1 : Int).toNat (by omega)
                          unfold pr at p423
                          refine r_ni (m_run (As := [.int (iI z417), .int (iI z418), .int (iI z420), .int (iI z421)]) (rest := []) (n := 4) X Y hZ hA hml hl.1 (r_M_isSame l D E h q H.size I411 J421 B411 G421 z417 (by omega) (by omega) z418 (by omega) (by omega) z420 (by omega) (by omega) z421 (by omega) (by omega) S.1 (by omega) (by omega)) kl_M_isSame ks_M_isSame kx_M_isSame ki_M_isSame ini_M hd_M_isSame ⟨Nat.le_of_ble_eq_true rfl, Nat.le_of_ble_eq_true rfl⟩ rfl (Nat.le_of_ble_eq_true rfl) d_M_taken_325 ⟨Nat.le_refl _, Nat.le_refl _⟩) X Y hA S (by decide) (by decide) (fun z424 u H locs Y S s424 p424 => ?_)
                          obtain ⟨I424, J424, B424, G424⟩ := u
                          dsimp only at Y S s424 p424
                          have i424 : I411 = I424 := (funext (fun j => s424.2.1 j (by simp))).symm
                          subst i424
                          have b424 : B411 = B424 := (funext (fun j => s424.2.2 j (by simp))).symm
                          subst b424
                          obtain ⟨l424, u424, x424⟩ := p424
                          refine z_if_eq (tgt := 364) X.1 X.2.1 d_M_taken_328 (by decide) ⟨by omega, by omega⟩ (fun h425 => ?_) (fun h425 => ?_)
                          · refine lv_bipush (v := iI (-41)) X.1 X.2.1 d_M_taken_364 (by decide) ?_
                            exact m_reti hQQ X Y hr hlk ⟨S, (-41), rfl, ⟨by omega, by omega, (pG1_cg rfl rfl (pG1_cg rfl rfl (pG1_cg rfl rfl (pG1_cg rfl rfl (pG1_cg rfl rfl g411_P1))))), (pG2_cg rfl rfl (pG2_cg rfl rfl (pG2_cg rfl rfl (pG2_cg rfl rfl (pG2_cg rfl rfl g411_P2))))), (stT_cg rfl rfl rfl rfl rfl rfl (stT_cg rfl rfl rfl rfl rfl rfl (stT_cg rfl rfl rfl rfl rfl rfl (stT_cg rfl rfl rfl rfl rfl rfl (stT_cg rfl rfl rfl rfl rfl rfl f412))))), (stA_cg rfl rfl rfl rfl f422)⟩⟩ d_M_taken_366
                          · as_aux_lemma =>
                              refine lv_aload_n X.1 X.2.1 d_M_taken_331 rfl (lv_at hl 1 rfl) ?_
                              refine lv_aload_n X.1 X.2.1 d_M_taken_332 rfl (lv_at hl 1 rfl) ?_
                              refine lv_iconst (v := iI 4) X.1 X.2.1 d_M_taken_333 (by decide) ?_
                              refine lv_bipush (v := iI 10) X.1 X.2.1 d_M_taken_334 (by decide) ?_
                              refine r_ni (m_run (As := [.int (iI 4), .int (iI 10)]) (rest := [.ref h]) (n := 2) X Y hZ hA hml hl.1 (r_M_a l D E h q H.size I411 J424 B411 G424 4 (by decide) (by decide) 10 (by decide) (by decide) S.1) kl_M_a ks_M_a kx_M_a ki_M_a ini_M hd_M_a ⟨Nat.le_of_ble_eq_true rfl, Nat.le_of_ble_eq_true rfl⟩ rfl (Nat.le_of_ble_eq_true rfl) d_M_taken_336 ⟨Nat.le_refl _, Nat.le_refl _⟩) X Y hA S (by decide) (by decide) (fun z426 u H locs Y S s426 p426 => ?_)
                              obtain ⟨I426, J426, B426, G426⟩ := u
                              dsimp only at Y S s426 p426
                              have i426 : I411 = I426 := (funext (fun j => s426.2.1 j (by simp))).symm
                              subst i426
                              have b426 : B411 = B426 := (funext (fun j => s426.2.2 j (by simp))).symm
                              subst b426
                              obtain ⟨l426, u426, x426⟩ := p426
                              refine lv_aload_n X.1 X.2.1 d_M_taken_339 rfl (lv_at hl 1 rfl) ?_
                              refine lv_iconst (v := iI 4) X.1 X.2.1 d_M_taken_340 (by decide) ?_
                              refine lv_bipush (v := iI 10) X.1 X.2.1 d_M_taken_341 (by decide) ?_
                              refine r_ni (m_run (As := [.int (iI 4), .int (iI 10)]) (rest := [.int (iI z426), .ref h]) (n := 2) X Y hZ hA hml hl.1 (r_M_b l D E h q H.size I411 J426 B411 G426 4 (by decide) (by decide) 10 (by decide) (by decide) S.1) kl_M_b ks_M_b kx_M_b ki_M_b ini_M hd_M_b ⟨Nat.le_of_ble_eq_true rfl, Nat.le_of_ble_eq_true rfl⟩ rfl (Nat.le_of_ble_eq_true rfl) d_M_taken_343 ⟨Nat.le_refl _, Nat.le_refl _⟩) X Y hA S (by decide) (by decide) (fun z427 u H locs Y S s427 p427 => ?_)
                              obtain ⟨I427, J427, B427, G427⟩ := u
                              dsimp only at Y S s427 p427
                              have i427 : I411 = I427 := (funext (fun j => s427.2.1 j (by simp))).symm
                              subst i427
                              have b427 : B411 = B427 := (funext (fun j => s427.2.2 j (by simp))).symm
                              subst b427
                              obtain ⟨l427, u427, x427⟩ := p427
                              have p428 : pr z426 z427 := by rw [x426, x427]; exact (pG2_cg rfl rfl (pG2_cg rfl rfl (pG2_cg rfl rfl (pG2_cg rfl rfl (pG2_cg rfl rfl (pG2_cg rfl rfl (pG2_cg rfl rfl g411_P2))))))) (16 * 4 + 10 : Int).toNat (by omega)
                              unfold pr at p428
                              refine lv_aload_n X.1 X.2.1 d_M_taken_346 rfl (lv_at hl 1 rfl) ?_
                              refine lv_iconst (v := iI 3) X.1 X.2.1 d_M_taken_347 (by decide) ?_
                              refine lv_iconst (v := iI 2) X.1 X.2.1 d_M_taken_348 (by decide) ?_
                              refine r_ni (m_run (As := [.int (iI 3), .int (iI 2)]) (rest := [.int (iI z427), .int (iI z426), .ref h]) (n := 2) X Y hZ hA hml hl.1 (r_M_a l D E h q H.size I411 J427 B411 G427 3 (by decide) (by decide) 2 (by decide) (by decide) S.1) kl_M_a ks_M_a kx_M_a ki_M_a ini_M hd_M_a ⟨Nat.le_of_ble_eq_true rfl, Nat.le_of_ble_eq_true rfl⟩ rfl (Nat.le_of_ble_eq_true rfl) d_M_taken_349 ⟨Nat.le_refl _, Nat.le_refl _⟩) X Y hA S (by decide) (by decide) (fun z429 u H locs Y S s429 p429 => ?_)
                              obtain ⟨I429, J429, B429, G429⟩ := u
                              dsimp only at Y S s429 p429
                              have i429 : I411 = I429 := (funext (fun j => s429.2.1 j (by simp))).symm
                              subst i429
                              have b429 : B411 = B429 := (funext (fun j => s429.2.2 j (by simp))).symm
                              subst b429
                              have f430 : stT (B411 97) (B411 98) (B411 100) (B411 107) (B411 108) (B411 109) := (stT_cg rfl rfl rfl rfl rfl rfl (stT_cg rfl rfl rfl rfl rfl rfl (stT_cg rfl rfl rfl rfl rfl rfl (stT_cg rfl rfl rfl rfl rfl rfl (stT_cg rfl rfl rfl rfl rfl rfl (stT_cg rfl rfl rfl rfl rfl rfl (stT_cg rfl rfl rfl rfl rfl rfl (stT_cg rfl rfl rfl rfl rfl rfl f412))))))))
                              obtain ⟨l429, u429, x429⟩ := p429
                              refine lv_aload_n X.1 X.2.1 d_M_taken_352 rfl (lv_at hl 1 rfl) ?_
                              refine lv_iconst (v := iI 3) X.1 X.2.1 d_M_taken_353 (by decide) ?_
                              refine lv_iconst (v := iI 2) X.1 X.2.1 d_M_taken_354 (by decide) ?_
                              refine r_ni (m_run (As := [.int (iI 3), .int (iI 2)]) (rest := [.int (iI z429), .int (iI z427), .int (iI z426), .ref h]) (n := 2) X Y hZ hA hml hl.1 (r_M_b l D E h q H.size I411 J429 B411 G429 3 (by decide) (by decide) 2 (by decide) (by decide) S.1) kl_M_b ks_M_b kx_M_b ki_M_b ini_M hd_M_b ⟨Nat.le_of_ble_eq_true rfl, Nat.le_of_ble_eq_true rfl⟩ rfl (Nat.le_of_ble_eq_true rfl) d_M_taken_355 ⟨Nat.le_refl _, Nat.le_refl _⟩) X Y hA S (by decide) (by decide) (fun z431 u H locs Y S s431 p431 => ?_)
                              obtain ⟨I431, J431, B431, G431⟩ := u
                              dsimp only at Y S s431 p431
                              have i431 : I411 = I431 := (funext (fun j => s431.2.1 j (by simp))).symm
                              subst i431
                              have b431 : B411 = B431 := (funext (fun j => s431.2.2 j (by simp))).symm
                              subst b431
                              obtain ⟨l431, u431, x431⟩ := p431
                              have p432 : pr z429 z431 := by rw [x429, x431]; exact (pG2_cg rfl rfl (pG2_cg rfl rfl (pG2_cg rfl rfl (pG2_cg rfl rfl (pG2_cg rfl rfl (pG2_cg rfl rfl (pG2_cg rfl rfl (pG2_cg rfl rfl (pG2_cg rfl rfl g411_P2))))))))) (16 * 3 + 2 : Int).toNat (by omega)
                              unfold pr at p432
                              refine r_ni (m_run (As := [.int (iI z426), .int (iI z427), .int (iI z429), .int (iI z431)]) (rest := []) (n := 4) X Y hZ hA hml hl.1 (r_M_sameNames l D E h q H.size I411 J431 B411 G431 z426 (by omega) (by omega) z427 (by omega) (by omega) z429 (by omega) (by omega) z431 (by omega) (by omega) S.1 (pG1_cg rfl rfl (pG1_cg rfl rfl (pG1_cg rfl rfl (pG1_cg rfl rfl (pG1_cg rfl rfl (pG1_cg rfl rfl (pG1_cg rfl rfl (pG1_cg rfl rfl (pG1_cg rfl rfl g411_P1))))))))) (pG2_cg rfl rfl (pG2_cg rfl rfl (pG2_cg rfl rfl (pG2_cg rfl rfl (pG2_cg rfl rfl (pG2_cg rfl rfl (pG2_cg rfl rfl (pG2_cg rfl rfl (pG2_cg rfl rfl g411_P2))))))))) (by omega) (by omega) (by omega) (by omega)) kl_M_sameNames ks_M_sameNames kx_M_sameNames ki_M_sameNames ini_M hd_M_sameNames ⟨Nat.le_of_ble_eq_true rfl, Nat.le_of_ble_eq_true rfl⟩ rfl (Nat.le_of_ble_eq_true rfl) d_M_taken_358 ⟨Nat.le_refl _, Nat.le_refl _⟩) X Y hA S (by decide) (by decide) (fun z433 u H locs Y S s433 p433 => ?_)
                              obtain ⟨I433, J433, B433, G433⟩ := u
                              dsimp only at Y S s433 p433
                              have f434 : akA a1 a2 (B433 118) (B433 119) (B433 120) := (akA_cg (s433.2.2 118 (by decide)) (s433.2.2 119 (by decide)) (s433.2.2 120 (by decide)) (akA_cg rfl rfl rfl (akA_cg rfl rfl rfl (akA_cg rfl rfl rfl (akA_cg rfl rfl rfl (akA_cg rfl rfl rfl (akA_cg rfl rfl rfl (akA_cg rfl rfl rfl (akA_cg rfl rfl rfl (akA_cg rfl rfl rfl f413))))))))))
                              obtain ⟨l433, u433, x433, g433_P1, g433_P2, g433_TF⟩ := p433
                              have f435 : rpA (B433 37) (B433 38) (B433 0) := (rpA_cg (s433.2.2 0 (by decide)) rfl rfl (rpA_T g433_TF (by decide) (by decide) (rpA_cg rfl rfl rfl (rpA_cg rfl rfl rfl (rpA_cg rfl rfl rfl (rpA_cg rfl rfl rfl (rpA_cg rfl rfl rfl (rpA_cg rfl rfl rfl (rpA_cg rfl rfl rfl (rpA_cg rfl rfl rfl (rpA_cg rfl rfl rfl f414)))))))))))
                              have f436 : rzA (B433 37) (B433 38) (B433 0) := (rzA_cg (s433.2.2 0 (by decide)) rfl rfl (rzA_T g433_TF (by decide) (by decide) (rzA_cg rfl rfl rfl (rzA_cg rfl rfl rfl (rzA_cg rfl rfl rfl (rzA_cg rfl rfl rfl (rzA_cg rfl rfl rfl (rzA_cg rfl rfl rfl (rzA_cg rfl rfl rfl (rzA_cg rfl rfl rfl (rzA_cg rfl rfl rfl f415)))))))))))
                              refine z_if_ne (tgt := 367) X.1 X.2.1 d_M_taken_361 (by decide) ⟨by omega, by omega⟩ (fun h437 => ?_) (fun h437 => ?_)
                              · as_aux_lemma =>
                                  refine lv_aload_n X.1 X.2.1 d_M_taken_367 rfl (lv_at hl 1 rfl) ?_
                                  refine lv_iconst (v := iI 4) X.1 X.2.1 d_M_taken_368 (by decide) ?_
                                  refine lv_iconst (v := iI 0) X.1 X.2.1 d_M_taken_369 (by decide) ?_
                                  refine lv_aload_n X.1 X.2.1 d_M_taken_370 rfl (lv_at hl 1 rfl) ?_
                                  refine m_get X Y 59 (by decide) lk_sub (gf_sub _ _ _) rfl d_M_taken_371 ?_
                                  refine r_ni (m_run (As := [.int (iI 4), .int (iI 0), .ref ((q 59))]) (rest := []) (n := 3) X Y hZ hA hml hl.1 (r_M_keyIn_sub l D E h q H.size I433 J433 B433 G433 4 (by decide) (by decide) 0 (by decide) (by decide) S.1 g433_P1 g433_P2) kl_M_keyIn ks_M_keyIn kx_M_keyIn ki_M_keyIn ini_M hd_M_keyIn ⟨Nat.le_of_ble_eq_true rfl, Nat.le_of_ble_eq_true rfl⟩ rfl (Nat.le_of_ble_eq_true rfl) d_M_taken_374 ⟨Nat.le_refl _, Nat.le_refl _⟩) X Y hA S (by decide) (by decide) (fun z438 u H locs Y S s438 p438 => ?_)
                                  obtain ⟨I438, J438, B438, G438⟩ := u
                                  dsimp only at Y S s438 p438
                                  have f439 : stT (B438 97) (B438 98) (B438 100) (B438 107) (B438 108) (B438 109) := (stT_cg (s438.2.2 97 (by decide)) (s438.2.2 98 (by decide)) (s438.2.2 100 (by decide)) (s438.2.2 107 (by decide)) (s438.2.2 108 (by decide)) (s438.2.2 109 (by decide)) (stT_cg (s433.2.2 97 (by decide)) (s433.2.2 98 (by decide)) (s433.2.2 100 (by decide)) (s433.2.2 107 (by decide)) (s433.2.2 108 (by decide)) (s433.2.2 109 (by decide)) (stT_cg rfl rfl rfl rfl rfl rfl f430)))
                                  have f440 : stA (B438 110) (B438 118) (B438 119) (B438 120) := (stA_cg (s438.2.2 110 (by decide)) (s438.2.2 118 (by decide)) (s438.2.2 119 (by decide)) (s438.2.2 120 (by decide)) (stA_cg (s433.2.2 110 (by decide)) (s433.2.2 118 (by decide)) (s433.2.2 119 (by decide)) (s433.2.2 120 (by decide)) (stA_cg rfl rfl rfl rfl (stA_cg rfl rfl rfl rfl (stA_cg rfl rfl rfl rfl (stA_cg rfl rfl rfl rfl (stA_cg rfl rfl rfl rfl f422)))))))
                                  obtain ⟨l438, u438, x438, g438_P1, g438_P2, g438_TF⟩ := p438
                                  have f441 : rpA (B438 37) (B438 38) (B438 0) := (rpA_cg (s438.2.2 0 (by decide)) rfl rfl (rpA_T g438_TF (by decide) (by decide) f435))
                                  have f442 : rzA (B438 37) (B438 38) (B438 0) := (rzA_cg (s438.2.2 0 (by decide)) rfl rfl (rzA_T g438_TF (by decide) (by decide) f436))
                                  refine lv_istore (lv' := [(4, .int (iI z438)), (3, .int (iI 1)), (0, .ref h), (1, .int (iI a1)), (2, .int (iI a2))]) X.1 X.2.1 d_M_taken_377 hl (by decide) rfl (fun ls hl => ?_)
                                  refine lv_iload X.1 X.2.1 d_M_taken_379 (lv_at hl 0 rfl) ?_
                                  refine z_if_ne (tgt := 387) X.1 X.2.1 d_M_taken_381 (by decide) ⟨by omega, by omega⟩ (fun h443 => ?_) (fun h443 => ?_)
                                  · as_aux_lemma =>
                                      refine lv_aload_n X.1 X.2.1 d_M_taken_387 rfl (lv_at hl 2 rfl) ?_
                                      refine m_get X Y 115 (by decide) lk_askedRenew (gf_askedRenew _ _ _) rfl d_M_taken_388 ?_
                                      refine lv_iload_n X.1 X.2.1 d_M_taken_391 rfl (lv_at hl 3 rfl) ?_
                                      refine r_zald X Y S (aw_askedRenew _ _ _ _ _ _ _) rfl (by omega) (show a1 < ((4 : Nat) : Int) by omega) (by omega) d_M_taken_392 (fun z444 q444 l444 u444 => ?_)
                                      have J453 : ∀ (I445 : Nat → Int32) (J445 : Nat → Int64) (B445 : Nat → Nat → Int32) (G445 : Nat → Nat → Int64) (H : Heap) (locs : List Loc) (ls : Array Slot), (akA a1 a2 (B445 118) (B445 119) (B445 120)) → (stA (B445 110) (B445 118) (B445 119) (B445 120)) → (stT (B445 97) (B445 98) (B445 100) (B445 107) (B445 108) (B445 109)) → (pG1 I445) → (pG2 (B445 37) (B445 38)) → (rpA (B445 37) (B445 38) (B445 0)) → (rzA (B445 37) (B445 38) (B445 0)) → mH D E (mA E h q sz) s.heap h q I445 J445 B445 G445 H locs → rS [39, 40, 42] [0, 37, 38, 59, 97, 98, 99, 100, 101, 102, 107, 108, 109] I B I445 B445 → lv_has ls 8 [(0, .ref h), (1, .int (iI a1)), (4, .int (iI z438))] → W p l e (mR 45 2041) s m AV below meth c H locs 0 0 QQ (F0 m 419 ls []) := by
                                        as_aux_lemma =>
                                          intro I445 J445 B445 G445 H locs ls f446 f447 f448 f449 f450 f451 f452 Y S hl
                                          refine lv_iconst (v := iI 0) X.1 X.2.1 d_M_taken_419 (by decide) ?_
                                          have J458 : ∀ (n460 : Nat) (z457 : Int) (H : Heap) (locs : List Loc) (ls : Array Slot), (8 - z457).toNat = n460 → (0 ≤ z457) → (z457 ≤ 8) → mH D E (mA E h q sz) s.heap h q I445 J445 B445 G445 H locs → rS [39, 40, 42] [0, 37, 38, 59, 97, 98, 99, 100, 101, 102, 107, 108, 109] I B I445 B445 → lv_has ls 8 [(0, .ref h), (1, .int (iI a1)), (4, .int (iI z438)), (5, .int (iI z457))] → W p l e (mR 45 2041) s m AV below meth c H locs 0 0 QQ (F0 m 422 ls []) := by
                                            as_aux_lemma =>
                                              intro n460
                                              induction n460 using Nat.strongRecOn with
                                              | ind n460 ih459 =>
                                                intro z457 H locs ls hm461 l457 u457 Y S hl
                                                refine lv_iload X.1 X.2.1 d_M_taken_422 (lv_at hl 3 rfl) ?_
                                                refine lv_bipush (v := iI 8) X.1 X.2.1 d_M_taken_424 (by decide) ?_
                                                have J462 : ∀  (H : Heap) (locs : List Loc) (ls : Array Slot), mH D E (mA E h q sz) s.heap h q I445 J445 B445 G445 H locs → rS [39, 40, 42] [0, 37, 38, 59, 97, 98, 99, 100, 101, 102, 107, 108, 109] I B I445 B445 → lv_has ls 8 [(0, .ref h), (1, .int (iI a1)), (4, .int (iI z438)), (5, .int (iI z457))] → W p l e (mR 45 2041) s m AV below meth c H locs 0 0 QQ (F0 m 450 ls []) := by
                                                  as_aux_lemma =>
                                                    intro  H locs ls  Y S hl
                                                    refine lv_iload X.1 X.2.1 d_M_taken_450 (lv_at hl 3 rfl) ?_
                                                    refine lv_bipush (v := iI 8) X.1 X.2.1 d_M_taken_452 (by decide) ?_
                                                    refine z_icmp_ne (tgt := 460) X.1 X.2.1 d_M_taken_454 (by decide) ⟨by omega, by omega⟩ ⟨by decide, by decide⟩ (fun h466 => ?_) (fun h466 => ?_)
                                                    · as_aux_lemma =>
                                                        refine lv_bipush (v := iI 8) X.1 X.2.1 d_M_taken_460 (by decide) ?_
                                                        refine lv_iload_n X.1 X.2.1 d_M_taken_462 rfl (lv_at hl 1 rfl) ?_
                                                        refine z_imul X.1 X.2.1 d_M_taken_463 ?_
                                                        refine lv_iload X.1 X.2.1 d_M_taken_464 (lv_at hl 3 rfl) ?_
                                                        refine z_iadd X.1 X.2.1 d_M_taken_466 ?_
                                                        refine lv_istore (lv' := [(6, .int (iI ((8 * a1) + z457))), (0, .ref h), (1, .int (iI a1)), (4, .int (iI z438)), (5, .int (iI z457))]) X.1 X.2.1 d_M_taken_467 hl (by decide) rfl (fun ls hl => ?_)
                                                        refine lv_aload_n X.1 X.2.1 d_M_taken_469 rfl (lv_at hl 1 rfl) ?_
                                                        refine m_get X Y 97 (by decide) lk_isTicket (gf_isTicket _ _ _) rfl d_M_taken_470 ?_
                                                        refine lv_iload X.1 X.2.1 d_M_taken_473 (lv_at hl 0 rfl) ?_
                                                        refine lv_iconst (v := iI 1) X.1 X.2.1 d_M_taken_475 (by decide) ?_
                                                        refine r_zast X Y S (aw_isTicket _ _ _ _ _ _ _) (sw_isTicket _ _ _ _ _ _ _) rfl ⟨by omega, by omega⟩ (by omega) (show (8 * a1) + z457 < ((32 : Nat) : Int) by omega) (by omega) (by decide) d_M_taken_476 (fun B467 H locs Y S w467 => ?_)
                                                        have f468 : stX ((8 * a1) + z457) (B467 97) (B467 98) (B467 100) (B467 107) (B467 108) (B467 109) := by rw [w467.1, w467.2 98 (by decide), w467.2 100 (by decide), w467.2 107 (by decide), w467.2 108 (by decide), w467.2 109 (by decide)]; exact stX_97 (show (((8 * a1) + z457).toNat : Int) = (8 * a1) + z457 by omega) (stX_of f448)
                                                        refine lv_aload_n X.1 X.2.1 d_M_taken_477 rfl (lv_at hl 1 rfl) ?_
                                                        refine m_get X Y 102 (by decide) lk_ticketTypes (gf_ticketTypes _ _ _) rfl d_M_taken_478 ?_
                                                        refine lv_iload X.1 X.2.1 d_M_taken_481 (lv_at hl 0 rfl) ?_
                                                        refine lv_iload X.1 X.2.1 d_M_taken_483 (lv_at hl 3 rfl) ?_
                                                        refine r_iast X Y S (aw_ticketTypes _ _ _ _ _ _ _) (sw_ticketTypes _ _ _ _ _ _ _) rfl ⟨(show (0 : Int) ≤ z438 by omega), (show z438 ≤ (18 : Int) by omega)⟩ ⟨by omega, by omega⟩ (by omega) (show (8 * a1) + z457 < ((32 : Nat) : Int) by omega) (by omega) (by decide) d_M_taken_485 (fun B469 H locs Y S w469 => ?_)
                                                        refine lv_iconst (v := iI 0) X.1 X.2.1 d_M_taken_486 (by decide) ?_
                                                        have J479 : ∀ (n481 : Nat) (z471 : Int) (I470 : Nat → Int32) (J470 : Nat → Int64) (B470 : Nat → Nat → Int32) (G470 : Nat → Nat → Int64) (H : Heap) (locs : List Loc) (ls : Array Slot), (32 - z471).toNat = n481 → (0 ≤ z471) → (z471 ≤ 32) → (akA a1 a2 (B470 118) (B470 119) (B470 120)) → (stA (B470 110) (B470 118) (B470 119) (B470 120)) → (stX ((8 * a1) + z457) (B470 97) (B470 98) (B470 100) (B470 107) (B470 108) (B470 109)) → (pG1 I470) → (pG2 (B470 37) (B470 38)) → (rpA (B470 37) (B470 38) (B470 0)) → (rzA (B470 37) (B470 38) (B470 0)) → mH D E (mA E h q sz) s.heap h q I470 J470 B470 G470 H locs → rS [39, 40, 42] [0, 37, 38, 59, 97, 98, 99, 100, 101, 102, 107, 108, 109] I B I470 B470 → lv_has ls 8 [(0, .ref h), (5, .int (iI z457)), (6, .int (iI ((8 * a1) + z457))), (7, .int (iI z471))] → W p l e (mR 45 2041) s m AV below meth c H locs 0 0 QQ (F0 m 489 ls []) := by
                                                          as_aux_lemma =>
                                                            intro n481
                                                            induction n481 using Nat.strongRecOn with
                                                            | ind n481 ih480 =>
                                                              intro z471 I470 J470 B470 G470 H locs ls hm482 l471 u471 f472 f473 f474 f475 f476 f477 f478 Y S hl
                                                              refine lv_iload X.1 X.2.1 d_M_taken_489 (lv_at hl 3 rfl) ?_
                                                              refine lv_bipush (v := iI 32) X.1 X.2.1 d_M_taken_491 (by decide) ?_
                                                              refine z_icmp_ge (tgt := 522) X.1 X.2.1 d_M_taken_493 (by decide) ⟨by omega, by omega⟩ ⟨by decide, by decide⟩ (fun h483 => ?_) (fun h483 => ?_)
                                                              · as_aux_lemma =>
                                                                  refine lv_aload_n X.1 X.2.1 d_M_taken_522 rfl (lv_at hl 0 rfl) ?_
                                                                  refine m_get X Y 101 (by decide) lk_ticketFlags (gf_ticketFlags _ _ _) rfl d_M_taken_523 ?_
                                                                  refine lv_iload X.1 X.2.1 d_M_taken_526 (lv_at hl 2 rfl) ?_
                                                                  refine lv_aload_n X.1 X.2.1 d_M_taken_528 rfl (lv_at hl 0 rfl) ?_
                                                                  refine lv_iconst (v := iI 4) X.1 X.2.1 d_M_taken_529 (by decide) ?_
                                                                  refine lv_iconst (v := iI 4) X.1 X.2.1 d_M_taken_530 (by decide) ?_
                                                                  refine r_ni (m_run (As := [.int (iI 4), .int (iI 4)]) (rest := [.int (iI ((8 * a1) + z457)), .ref ((q 101))]) (n := 2) X Y hZ hA hml hl.1 (r_M_flagsAt l D E h q H.size I470 J470 B470 G470 4 (by decide) (by decide) 4 (by decide) (by decide) S.1 f475 f476) kl_M_flagsAt ks_M_flagsAt kx_M_flagsAt ki_M_flagsAt ini_M hd_M_flagsAt ⟨Nat.le_of_ble_eq_true rfl, Nat.le_of_ble_eq_true rfl⟩ rfl (Nat.le_of_ble_eq_true rfl) d_M_taken_531 ⟨Nat.le_refl _, Nat.le_refl _⟩) X Y hA S (by decide) (by decide) (fun z484 u H locs Y S s484 p484 => ?_)
                                                                  obtain ⟨I484, J484, B484, G484⟩ := u
                                                                  dsimp only at Y S s484 p484
                                                                  have b484 : B470 = B484 := (funext (fun j => s484.2.2 j (by simp))).symm
                                                                  subst b484
                                                                  obtain ⟨l484, u484, g484_P1⟩ := p484
                                                                  refine r_iast X Y S (aw_ticketFlags _ _ _ _ _ _ _) (sw_ticketFlags _ _ _ _ _ _ _) rfl ⟨(show ((-2147483648) : Int) ≤ z484 by omega), (show z484 ≤ (2147483647 : Int) by omega)⟩ ⟨by omega, by omega⟩ (by omega) (show (8 * a1) + z457 < ((32 : Nat) : Int) by omega) (by omega) (by decide) d_M_taken_534 (fun B485 H locs Y S w485 => ?_)
                                                                  refine lv_aload_n X.1 X.2.1 d_M_taken_535 rfl (lv_at hl 0 rfl) ?_
                                                                  refine m_get X Y 103 (by decide) lk_authTimes (gf_authTimes _ _ _) rfl d_M_taken_536 ?_
                                                                  refine lv_iload X.1 X.2.1 d_M_taken_539 (lv_at hl 2 rfl) ?_
                                                                  refine lv_aload_n X.1 X.2.1 d_M_taken_541 rfl (lv_at hl 0 rfl) ?_
                                                                  refine lv_iconst (v := iI 4) X.1 X.2.1 d_M_taken_542 (by decide) ?_
                                                                  refine lv_iconst (v := iI 5) X.1 X.2.1 d_M_taken_543 (by decide) ?_
                                                                  refine r_nl (m_run (As := [.int (iI 4), .int (iI 5)]) (rest := [.int (iI ((8 * a1) + z457)), .ref ((q 103))]) (n := 2) X Y hZ hA hml hl.1 (r_M_timeOf l D E h q H.size I484 J484 B485 G484 4 (by decide) (by decide) 5 (by decide) (by decide) S.1 (pG1_cg rfl rfl g484_P1) (pG2_cg (w485.2 37 (by decide)) (w485.2 38 (by decide)) (pG2_cg rfl rfl f476))) kl_M_timeOf ks_M_timeOf kx_M_timeOf ki_M_timeOf ini_M hd_M_timeOf ⟨Nat.le_of_ble_eq_true rfl, Nat.le_of_ble_eq_true rfl⟩ rfl (Nat.le_of_ble_eq_true rfl) d_M_taken_544 ⟨Nat.le_refl _, Nat.le_refl _⟩) X Y hA S (by decide) (by decide) (fun v486 u H locs Y S s486 p486 => ?_)
                                                                  obtain ⟨I486, J486, B486, G486⟩ := u
                                                                  dsimp only at Y S s486 p486
                                                                  have b486 : B485 = B486 := (funext (fun j => s486.2.2 j (by simp))).symm
                                                                  subst b486
                                                                  have g486_P1 := p486
                                                                  refine r_last X Y (aw_authTimes _ _ _ _ _ _ _) (sw_authTimes _ _ _ _ _ _ _) (by omega) (show (8 * a1) + z457 < ((32 : Nat) : Int) by omega) (by omega) d_M_taken_547 (fun G487 H locs Y => ?_)
                                                                  refine lv_aload_n X.1 X.2.1 d_M_taken_548 rfl (lv_at hl 0 rfl) ?_
                                                                  refine m_get X Y 104 (by decide) lk_startTimes (gf_startTimes _ _ _) rfl d_M_taken_549 ?_
                                                                  refine lv_iload X.1 X.2.1 d_M_taken_552 (lv_at hl 2 rfl) ?_
                                                                  refine lv_aload_n X.1 X.2.1 d_M_taken_554 rfl (lv_at hl 0 rfl) ?_
                                                                  refine lv_iconst (v := iI 4) X.1 X.2.1 d_M_taken_555 (by decide) ?_
                                                                  refine lv_bipush (v := iI 6) X.1 X.2.1 d_M_taken_556 (by decide) ?_
                                                                  refine r_ni (m_run (As := [.int (iI 4), .int (iI 6)]) (rest := [.int (iI ((8 * a1) + z457)), .ref ((q 104))]) (n := 2) X Y hZ hA hml hl.1 (r_M_has l D E h q H.size I486 J486 B485 G487 4 (by decide) (by decide) 6 (by decide) (by decide) S.1) kl_M_has ks_M_has kx_M_has ki_M_has ini_M hd_M_has ⟨Nat.le_of_ble_eq_true rfl, Nat.le_of_ble_eq_true rfl⟩ rfl (Nat.le_of_ble_eq_true rfl) d_M_taken_558 ⟨Nat.le_refl _, Nat.le_refl _⟩) X Y hA S (by decide) (by decide) (fun z488 u H locs Y S s488 p488 => ?_)
                                                                  obtain ⟨I488, J488, B488, G488⟩ := u
                                                                  dsimp only at Y S s488 p488
                                                                  have i488 : I486 = I488 := (funext (fun j => s488.2.1 j (by simp))).symm
                                                                  subst i488
                                                                  have b488 : B485 = B488 := (funext (fun j => s488.2.2 j (by simp))).symm
                                                                  subst b488
                                                                  have f489 : stX ((8 * a1) + z457) (B485 97) (B485 98) (B485 100) (B485 107) (B485 108) (B485 109) := (stX_cg rfl rfl rfl rfl rfl rfl (stX_cg rfl rfl rfl rfl rfl rfl (stX_cg (w485.2 97 (by decide)) (w485.2 98 (by decide)) (w485.2 100 (by decide)) (w485.2 107 (by decide)) (w485.2 108 (by decide)) (w485.2 109 (by decide)) (stX_cg rfl rfl rfl rfl rfl rfl f474))))
                                                                  obtain ⟨l488, u488, x488⟩ := p488
                                                                  have J499 : ∀ (v491 : Int64) (I490 : Nat → Int32) (J490 : Nat → Int64) (B490 : Nat → Nat → Int32) (G490 : Nat → Nat → Int64) (H : Heap) (locs : List Loc) (ls : Array Slot), (akA a1 a2 (B490 118) (B490 119) (B490 120)) → (stA (B490 110) (B490 118) (B490 119) (B490 120)) → (stX ((8 * a1) + z457) (B490 97) (B490 98) (B490 100) (B490 107) (B490 108) (B490 109)) → (pG1 I490) → (pG2 (B490 37) (B490 38)) → (rpA (B490 37) (B490 38) (B490 0)) → (rzA (B490 37) (B490 38) (B490 0)) → mH D E (mA E h q sz) s.heap h q I490 J490 B490 G490 H locs → rS [39, 40, 42] [0, 37, 38, 59, 97, 98, 99, 100, 101, 102, 107, 108, 109] I B I490 B490 → lv_has ls 8 [(0, .ref h), (5, .int (iI z457)), (6, .int (iI ((8 * a1) + z457)))] → W p l e (mR 45 2041) s m AV below meth c H locs 0 0 QQ (F0 m 577 ls [.long v491, .int (iI ((8 * a1) + z457)), .ref ((q 104))]) := by
                                                                    as_aux_lemma =>
                                                                      intro v491 I490 J490 B490 G490 H locs ls f492 f493 f494 f495 f496 f497 f498 Y S hl
                                                                      refine r_last X Y (aw_startTimes _ _ _ _ _ _ _) (sw_startTimes _ _ _ _ _ _ _) (by omega) (show (8 * a1) + z457 < ((32 : Nat) : Int) by omega) (by omega) d_M_taken_577 (fun G503 H locs Y => ?_)
                                                                      refine lv_aload_n X.1 X.2.1 d_M_taken_578 rfl (lv_at hl 0 rfl) ?_
                                                                      refine m_get X Y 105 (by decide) lk_endTimes (gf_endTimes _ _ _) rfl d_M_taken_579 ?_
                                                                      refine lv_iload X.1 X.2.1 d_M_taken_582 (lv_at hl 2 rfl) ?_
                                                                      refine lv_aload_n X.1 X.2.1 d_M_taken_584 rfl (lv_at hl 0 rfl) ?_
                                                                      refine lv_iconst (v := iI 4) X.1 X.2.1 d_M_taken_585 (by decide) ?_
                                                                      refine lv_bipush (v := iI 7) X.1 X.2.1 d_M_taken_586 (by decide) ?_
                                                                      refine r_nl (m_run (As := [.int (iI 4), .int (iI 7)]) (rest := [.int (iI ((8 * a1) + z457)), .ref ((q 105))]) (n := 2) X Y hZ hA hml hl.1 (r_M_timeOf l D E h q H.size I490 J490 B490 G503 4 (by decide) (by decide) 7 (by decide) (by decide) S.1 f495 f496) kl_M_timeOf ks_M_timeOf kx_M_timeOf ki_M_timeOf ini_M hd_M_timeOf ⟨Nat.le_of_ble_eq_true rfl, Nat.le_of_ble_eq_true rfl⟩ rfl (Nat.le_of_ble_eq_true rfl) d_M_taken_588 ⟨Nat.le_refl _, Nat.le_refl _⟩) X Y hA S (by decide) (by decide) (fun v504 u H locs Y S s504 p504 => ?_)
                                                                      obtain ⟨I504, J504, B504, G504⟩ := u
                                                                      dsimp only at Y S s504 p504
                                                                      have b504 : B490 = B504 := (funext (fun j => s504.2.2 j (by simp))).symm
                                                                      subst b504
                                                                      have g504_P1 := p504
                                                                      refine r_last X Y (aw_endTimes _ _ _ _ _ _ _) (sw_endTimes _ _ _ _ _ _ _) (by omega) (show (8 * a1) + z457 < ((32 : Nat) : Int) by omega) (by omega) d_M_taken_591 (fun G505 H locs Y => ?_)
                                                                      refine lv_aload_n X.1 X.2.1 d_M_taken_592 rfl (lv_at hl 0 rfl) ?_
                                                                      refine m_get X Y 106 (by decide) lk_renewTimes (gf_renewTimes _ _ _) rfl d_M_taken_593 ?_
                                                                      refine lv_iload X.1 X.2.1 d_M_taken_596 (lv_at hl 2 rfl) ?_
                                                                      refine lv_aload_n X.1 X.2.1 d_M_taken_598 rfl (lv_at hl 0 rfl) ?_
                                                                      refine lv_iconst (v := iI 4) X.1 X.2.1 d_M_taken_599 (by decide) ?_
                                                                      refine lv_bipush (v := iI 8) X.1 X.2.1 d_M_taken_600 (by decide) ?_
                                                                      refine r_ni (m_run (As := [.int (iI 4), .int (iI 8)]) (rest := [.int (iI ((8 * a1) + z457)), .ref ((q 106))]) (n := 2) X Y hZ hA hml hl.1 (r_M_has l D E h q H.size I504 J504 B490 G505 4 (by decide) (by decide) 8 (by decide) (by decide) S.1) kl_M_has ks_M_has kx_M_has ki_M_has ini_M hd_M_has ⟨Nat.le_of_ble_eq_true rfl, Nat.le_of_ble_eq_true rfl⟩ rfl (Nat.le_of_ble_eq_true rfl) d_M_taken_602 ⟨Nat.le_refl _, Nat.le_refl _⟩) X Y hA S (by decide) (by decide) (fun z506 u H locs Y S s506 p506 => ?_)
                                                                      obtain ⟨I506, J506, B506, G506⟩ := u
                                                                      dsimp only at Y S s506 p506
                                                                      have i506 : I504 = I506 := (funext (fun j => s506.2.1 j (by simp))).symm
                                                                      subst i506
                                                                      have b506 : B490 = B506 := (funext (fun j => s506.2.2 j (by simp))).symm
                                                                      subst b506
                                                                      obtain ⟨l506, u506, x506⟩ := p506
                                                                      have J516 : ∀ (v508 : Int64) (I507 : Nat → Int32) (J507 : Nat → Int64) (B507 : Nat → Nat → Int32) (G507 : Nat → Nat → Int64) (H : Heap) (locs : List Loc) (ls : Array Slot), (akA a1 a2 (B507 118) (B507 119) (B507 120)) → (stA (B507 110) (B507 118) (B507 119) (B507 120)) → (stX ((8 * a1) + z457) (B507 97) (B507 98) (B507 100) (B507 107) (B507 108) (B507 109)) → (pG1 I507) → (pG2 (B507 37) (B507 38)) → (rpA (B507 37) (B507 38) (B507 0)) → (rzA (B507 37) (B507 38) (B507 0)) → mH D E (mA E h q sz) s.heap h q I507 J507 B507 G507 H locs → rS [39, 40, 42] [0, 37, 38, 59, 97, 98, 99, 100, 101, 102, 107, 108, 109] I B I507 B507 → lv_has ls 8 [(0, .ref h), (5, .int (iI z457)), (6, .int (iI ((8 * a1) + z457)))] → W p l e (mR 45 2041) s m AV below meth c H locs 0 0 QQ (F0 m 621 ls [.long v508, .int (iI ((8 * a1) + z457)), .ref ((q 106))]) := by
                                                                        as_aux_lemma =>
                                                                          intro v508 I507 J507 B507 G507 H locs ls f509 f510 f511 f512 f513 f514 f515 Y S hl
                                                                          refine r_last X Y (aw_renewTimes _ _ _ _ _ _ _) (sw_renewTimes _ _ _ _ _ _ _) (by omega) (show (8 * a1) + z457 < ((32 : Nat) : Int) by omega) (by omega) d_M_taken_621 (fun G520 H locs Y => ?_)
                                                                          refine lv_aload_n X.1 X.2.1 d_M_taken_622 rfl (lv_at hl 0 rfl) ?_
                                                                          refine m_get X Y 100 (by decide) lk_ticketSizes (gf_ticketSizes _ _ _) rfl d_M_taken_623 ?_
                                                                          refine lv_iload X.1 X.2.1 d_M_taken_626 (lv_at hl 2 rfl) ?_
                                                                          refine lv_aload_n X.1 X.2.1 d_M_taken_628 rfl (lv_at hl 0 rfl) ?_
                                                                          refine lv_iconst (v := iI 0) X.1 X.2.1 d_M_taken_629 (by decide) ?_
                                                                          refine lv_iconst (v := iI 5) X.1 X.2.1 d_M_taken_630 (by decide) ?_
                                                                          refine r_ni (m_run (As := [.int (iI 0), .int (iI 5)]) (rest := [.int (iI ((8 * a1) + z457)), .ref ((q 100))]) (n := 2) X Y hZ hA hml hl.1 (r_M_b l D E h q H.size I507 J507 B507 G520 0 (by decide) (by decide) 5 (by decide) (by decide) S.1) kl_M_b ks_M_b kx_M_b ki_M_b ini_M hd_M_b ⟨Nat.le_of_ble_eq_true rfl, Nat.le_of_ble_eq_true rfl⟩ rfl (Nat.le_of_ble_eq_true rfl) d_M_taken_631 ⟨Nat.le_refl _, Nat.le_refl _⟩) X Y hA S (by decide) (by decide) (fun z521 u H locs Y S s521 p521 => ?_)
                                                                          obtain ⟨I521, J521, B521, G521⟩ := u
                                                                          dsimp only at Y S s521 p521
                                                                          have i521 : I507 = I521 := (funext (fun j => s521.2.1 j (by simp))).symm
                                                                          subst i521
                                                                          have b521 : B507 = B521 := (funext (fun j => s521.2.2 j (by simp))).symm
                                                                          subst b521
                                                                          obtain ⟨l521, u521, x521⟩ := p521
                                                                          refine lv_aload_n X.1 X.2.1 d_M_taken_634 rfl (lv_at hl 0 rfl) ?_
                                                                          refine lv_iconst (v := iI 0) X.1 X.2.1 d_M_taken_635 (by decide) ?_
                                                                          refine lv_iconst (v := iI 5) X.1 X.2.1 d_M_taken_636 (by decide) ?_
                                                                          refine r_ni (m_run (As := [.int (iI 0), .int (iI 5)]) (rest := [.int (iI z521), .int (iI ((8 * a1) + z457)), .ref ((q 100))]) (n := 2) X Y hZ hA hml hl.1 (r_M_a l D E h q H.size I507 J521 B507 G521 0 (by decide) (by decide) 5 (by decide) (by decide) S.1) kl_M_a ks_M_a kx_M_a ki_M_a ini_M hd_M_a ⟨Nat.le_of_ble_eq_true rfl, Nat.le_of_ble_eq_true rfl⟩ rfl (Nat.le_of_ble_eq_true rfl) d_M_taken_637 ⟨Nat.le_refl _, Nat.le_refl _⟩) X Y hA S (by decide) (by decide) (fun z522 u H locs Y S s522 p522 => ?_)
                                                                          obtain ⟨I522, J522, B522, G522⟩ := u
                                                                          dsimp only at Y S s522 p522
                                                                          have i522 : I507 = I522 := (funext (fun j => s522.2.1 j (by simp))).symm
                                                                          subst i522
                                                                          have b522 : B507 = B522 := (funext (fun j => s522.2.2 j (by simp))).symm
                                                                          subst b522
                                                                          obtain ⟨l522, u522, x522⟩ := p522
                                                                          have p523 : pr z522 z521 := by rw [x522, x521]; exact (pG2_cg rfl rfl (pG2_cg rfl rfl f513)) (16 * 0 + 5 : Int).toNat (by omega)
                                                                          unfold pr at p523
                                                                          refine z_isub X.1 X.2.1 d_M_taken_640 ?_
                                                                          refine r_iast X Y S (aw_ticketSizes _ _ _ _ _ _ _) (sw_ticketSizes _ _ _ _ _ _ _) rfl ⟨(show (0 : Int) ≤ z521 - z522 by omega), (show z521 - z522 ≤ (4200 : Int) by omega)⟩ ⟨by omega, by omega⟩ (by omega) (show (8 * a1) + z457 < ((32 : Nat) : Int) by omega) (by omega) (by decide) d_M_taken_641 (fun B524 H locs Y S w524 => ?_)
                                                                          have f525 : stX ((8 * a1) + z457) (B524 97) (B524 98) (B524 100) (B524 107) (B524 108) (B524 109) := by rw [w524.1, w524.2 97 (by decide), w524.2 98 (by decide), w524.2 107 (by decide), w524.2 108 (by decide), w524.2 109 (by decide)]; exact stX_100 (show (((8 * a1) + z457).toNat : Int) = (8 * a1) + z457 by omega) (stX_cg rfl rfl rfl rfl rfl rfl (stX_cg rfl rfl rfl rfl rfl rfl f511))
                                                                          have f526 : z100 ((8 * a1) + z457) (B524 100) (B524 37) (B524 38) := by unfold z100; rw [w524.1, pk_us, w524.2 37 (by decide), w524.2 38 (by decide), iI_toInt ⟨by omega, by omega⟩]; omega
                                                                          refine lv_iconst (v := iI 0) X.1 X.2.1 d_M_taken_642 (by decide) ?_
                                                                          have J539 : ∀ (n541 : Nat) (z528 : Int) (I527 : Nat → Int32) (J527 : Nat → Int64) (B527 : Nat → Nat → Int32) (G527 : Nat → Nat → Int64) (H : Heap) (locs : List Loc) (ls : Array Slot), (4200 - z528).toNat = n541 → (0 ≤ z528) → (z528 ≤ 4200) → (akA a1 a2 (B527 118) (B527 119) (B527 120)) → (stA (B527 110) (B527 118) (B527 119) (B527 120)) → (stX ((8 * a1) + z457) (B527 97) (B527 98) (B527 100) (B527 107) (B527 108) (B527 109)) → (pG1 I527) → (pG2 (B527 37) (B527 38)) → (rpA (B527 37) (B527 38) (B527 0)) → (rzA (B527 37) (B527 38) (B527 0)) → (z100 ((8 * a1) + z457) (B527 100) (B527 37) (B527 38)) → (cpy (B527 98) (B527 0) (4200 * ((8 * a1) + z457)) ((B527 37 (16 * 0 + 5 : Int).toNat).toInt) z528) → (z528 ≤ (B527 100 ((8 * a1) + z457).toNat).toInt) → mH D E (mA E h q sz) s.heap h q I527 J527 B527 G527 H locs → rS [39, 40, 42] [0, 37, 38, 59, 97, 98, 99, 100, 101, 102, 107, 108, 109] I B I527 B527 → lv_has ls 8 [(0, .ref h), (5, .int (iI z457)), (6, .int (iI ((8 * a1) + z457))), (7, .int (iI z528))] → W p l e (mR 45 2041) s m AV below meth c H locs 0 0 QQ (F0 m 645 ls []) := by
                                                                            as_aux_lemma =>
                                                                              intro n541
                                                                              induction n541 using Nat.strongRecOn with
                                                                              | ind n541 ih540 =>
                                                                                intro z528 I527 J527 B527 G527 H locs ls hm542 l528 u528 f529 f530 f531 f532 f533 f534 f535 f536 i537 i538 Y S hl
                                                                                refine lv_iload X.1 X.2.1 d_M_taken_645 (lv_at hl 3 rfl) ?_
                                                                                refine lv_aload_n X.1 X.2.1 d_M_taken_647 rfl (lv_at hl 0 rfl) ?_
                                                                                refine m_get X Y 100 (by decide) lk_ticketSizes (gf_ticketSizes _ _ _) rfl d_M_taken_648 ?_
                                                                                refine lv_iload X.1 X.2.1 d_M_taken_651 (lv_at hl 2 rfl) ?_
                                                                                refine r_iald X Y S (aw_ticketSizes _ _ _ _ _ _ _) rfl (by omega) (show (8 * a1) + z457 < ((32 : Nat) : Int) by omega) (by omega) d_M_taken_653 (fun z543 q543 l543 u543 => ?_)
                                                                                refine z_icmp_ge (tgt := 691) X.1 X.2.1 d_M_taken_654 (by decide) ⟨by omega, by omega⟩ ⟨by omega, by omega⟩ (fun h544 => ?_) (fun h544 => ?_)
                                                                                · as_aux_lemma =>
                                                                                    have f545 : c98 ((8 * a1) + z457) (B527 98) (B527 0) (B527 37) (B527 100) := by unfold c98; rw [show (B527 100 ((8 * a1) + z457).toNat).toInt = z528 by omega]; exact i537
                                                                                    have f546 : c98 ((8 * a1) + z457) (B527 98) (B527 0) (B527 37) (B527 100) := by unfold c98; rw [show (B527 100 ((8 * a1) + z457).toNat).toInt = z528 by omega]; exact i537
                                                                                    refine lv_aload_n X.1 X.2.1 d_M_taken_691 rfl (lv_at hl 0 rfl) ?_
                                                                                    refine m_get X Y 108 (by decide) lk_realmSizes (gf_realmSizes _ _ _) rfl d_M_taken_692 ?_
                                                                                    refine lv_iload X.1 X.2.1 d_M_taken_695 (lv_at hl 2 rfl) ?_
                                                                                    refine lv_aload_n X.1 X.2.1 d_M_taken_697 rfl (lv_at hl 0 rfl) ?_
                                                                                    refine lv_iconst (v := iI 0) X.1 X.2.1 d_M_taken_698 (by decide) ?_
                                                                                    refine lv_iconst (v := iI 3) X.1 X.2.1 d_M_taken_699 (by decide) ?_
                                                                                    refine r_ni (m_run (As := [.int (iI 0), .int (iI 3)]) (rest := [.int (iI ((8 * a1) + z457)), .ref ((q 108))]) (n := 2) X Y hZ hA hml hl.1 (r_M_b l D E h q H.size I527 J527 B527 G527 0 (by decide) (by decide) 3 (by decide) (by decide) S.1) kl_M_b ks_M_b kx_M_b ki_M_b ini_M hd_M_b ⟨Nat.le_of_ble_eq_true rfl, Nat.le_of_ble_eq_true rfl⟩ rfl (Nat.le_of_ble_eq_true rfl) d_M_taken_700 ⟨Nat.le_refl _, Nat.le_refl _⟩) X Y hA S (by decide) (by decide) (fun z547 u H locs Y S s547 p547 => ?_)
                                                                                    obtain ⟨I547, J547, B547, G547⟩ := u
                                                                                    dsimp only at Y S s547 p547
                                                                                    have i547 : I527 = I547 := (funext (fun j => s547.2.1 j (by simp))).symm
                                                                                    subst i547
                                                                                    have b547 : B527 = B547 := (funext (fun j => s547.2.2 j (by simp))).symm
                                                                                    subst b547
                                                                                    obtain ⟨l547, u547, x547⟩ := p547
                                                                                    refine lv_aload_n X.1 X.2.1 d_M_taken_703 rfl (lv_at hl 0 rfl) ?_
                                                                                    refine lv_iconst (v := iI 0) X.1 X.2.1 d_M_taken_704 (by decide) ?_
                                                                                    refine lv_iconst (v := iI 3) X.1 X.2.1 d_M_taken_705 (by decide) ?_
                                                                                    refine r_ni (m_run (As := [.int (iI 0), .int (iI 3)]) (rest := [.int (iI z547), .int (iI ((8 * a1) + z457)), .ref ((q 108))]) (n := 2) X Y hZ hA hml hl.1 (r_M_a l D E h q H.size I527 J547 B527 G547 0 (by decide) (by decide) 3 (by decide) (by decide) S.1) kl_M_a ks_M_a kx_M_a ki_M_a ini_M hd_M_a ⟨Nat.le_of_ble_eq_true rfl, Nat.le_of_ble_eq_true rfl⟩ rfl (Nat.le_of_ble_eq_true rfl) d_M_taken_706 ⟨Nat.le_refl _, Nat.le_refl _⟩) X Y hA S (by decide) (by decide) (fun z548 u H locs Y S s548 p548 => ?_)
                                                                                    obtain ⟨I548, J548, B548, G548⟩ := u
                                                                                    dsimp only at Y S s548 p548
                                                                                    have i548 : I527 = I548 := (funext (fun j => s548.2.1 j (by simp))).symm
                                                                                    subst i548
                                                                                    have b548 : B527 = B548 := (funext (fun j => s548.2.2 j (by simp))).symm
                                                                                    subst b548
                                                                                    obtain ⟨l548, u548, x548⟩ := p548
                                                                                    have p549 : pr z548 z547 := by rw [x548, x547]; exact (pG2_cg rfl rfl (pG2_cg rfl rfl f533)) (16 * 0 + 3 : Int).toNat (by omega)
                                                                                    unfold pr at p549
                                                                                    refine z_isub X.1 X.2.1 d_M_taken_709 ?_
                                                                                    have zc := rz_cl (rzA_cg rfl rfl rfl (rzA_cg rfl rfl rfl f535))
                                                                                    refine r_iast X Y S (aw_realmSizes _ _ _ _ _ _ _) (sw_realmSizes _ _ _ _ _ _ _) rfl ⟨(show (0 : Int) ≤ z547 - z548 by omega), (show z547 - z548 ≤ (100 : Int) by omega)⟩ ⟨by omega, by omega⟩ (by omega) (show (8 * a1) + z457 < ((32 : Nat) : Int) by omega) (by omega) (by decide) d_M_taken_710 (fun B550 H locs Y S w550 => ?_)
                                                                                    have f551 : stX ((8 * a1) + z457) (B550 97) (B550 98) (B550 100) (B550 107) (B550 108) (B550 109) := by rw [w550.1, w550.2 97 (by decide), w550.2 98 (by decide), w550.2 100 (by decide), w550.2 107 (by decide), w550.2 109 (by decide)]; exact stX_108 (show (((8 * a1) + z457).toNat : Int) = (8 * a1) + z457 by omega) (stX_cg rfl rfl rfl rfl rfl rfl (stX_cg rfl rfl rfl rfl rfl rfl f531))
                                                                                    refine lv_aload_n X.1 X.2.1 d_M_taken_711 rfl (lv_at hl 0 rfl) ?_
                                                                                    refine m_get X Y 109 (by decide) lk_clientSizes (gf_clientSizes _ _ _) rfl d_M_taken_712 ?_
                                                                                    refine lv_iload X.1 X.2.1 d_M_taken_715 (lv_at hl 2 rfl) ?_
                                                                                    refine lv_aload_n X.1 X.2.1 d_M_taken_717 rfl (lv_at hl 0 rfl) ?_
                                                                                    refine lv_iconst (v := iI 0) X.1 X.2.1 d_M_taken_718 (by decide) ?_
                                                                                    refine lv_iconst (v := iI 4) X.1 X.2.1 d_M_taken_719 (by decide) ?_
                                                                                    refine r_ni (m_run (As := [.int (iI 0), .int (iI 4)]) (rest := [.int (iI ((8 * a1) + z457)), .ref ((q 109))]) (n := 2) X Y hZ hA hml hl.1 (r_M_b l D E h q H.size I527 J548 B550 G548 0 (by decide) (by decide) 4 (by decide) (by decide) S.1) kl_M_b ks_M_b kx_M_b ki_M_b ini_M hd_M_b ⟨Nat.le_of_ble_eq_true rfl, Nat.le_of_ble_eq_true rfl⟩ rfl (Nat.le_of_ble_eq_true rfl) d_M_taken_720 ⟨Nat.le_refl _, Nat.le_refl _⟩) X Y hA S (by decide) (by decide) (fun z552 u H locs Y S s552 p552 => ?_)
                                                                                    obtain ⟨I552, J552, B552, G552⟩ := u
                                                                                    dsimp only at Y S s552 p552
                                                                                    have i552 : I527 = I552 := (funext (fun j => s552.2.1 j (by simp))).symm
                                                                                    subst i552
                                                                                    have b552 : B550 = B552 := (funext (fun j => s552.2.2 j (by simp))).symm
                                                                                    subst b552
                                                                                    obtain ⟨l552, u552, x552⟩ := p552
                                                                                    refine lv_aload_n X.1 X.2.1 d_M_taken_723 rfl (lv_at hl 0 rfl) ?_
                                                                                    refine lv_iconst (v := iI 0) X.1 X.2.1 d_M_taken_724 (by decide) ?_
                                                                                    refine lv_iconst (v := iI 4) X.1 X.2.1 d_M_taken_725 (by decide) ?_
                                                                                    refine r_ni (m_run (As := [.int (iI 0), .int (iI 4)]) (rest := [.int (iI z552), .int (iI ((8 * a1) + z457)), .ref ((q 109))]) (n := 2) X Y hZ hA hml hl.1 (r_M_a l D E h q H.size I527 J552 B550 G552 0 (by decide) (by decide) 4 (by decide) (by decide) S.1) kl_M_a ks_M_a kx_M_a ki_M_a ini_M hd_M_a ⟨Nat.le_of_ble_eq_true rfl, Nat.le_of_ble_eq_true rfl⟩ rfl (Nat.le_of_ble_eq_true rfl) d_M_taken_726 ⟨Nat.le_refl _, Nat.le_refl _⟩) X Y hA S (by decide) (by decide) (fun z553 u H locs Y S s553 p553 => ?_)
                                                                                    obtain ⟨I553, J553, B553, G553⟩ := u
                                                                                    dsimp only at Y S s553 p553
                                                                                    have i553 : I527 = I553 := (funext (fun j => s553.2.1 j (by simp))).symm
                                                                                    subst i553
                                                                                    have b553 : B550 = B553 := (funext (fun j => s553.2.2 j (by simp))).symm
                                                                                    subst b553
                                                                                    obtain ⟨l553, u553, x553⟩ := p553
                                                                                    have p554 : pr z553 z552 := by rw [x553, x552]; exact (pG2_cg rfl rfl (pG2_cg rfl rfl (pG2_cg (w550.2 37 (by decide)) (w550.2 38 (by decide)) (pG2_cg rfl rfl (pG2_cg rfl rfl f533))))) (16 * 0 + 4 : Int).toNat (by omega)
                                                                                    unfold pr at p554
                                                                                    refine z_isub X.1 X.2.1 d_M_taken_729 ?_
                                                                                    have zc := rz_cl (rzA_cg rfl rfl rfl (rzA_cg rfl rfl rfl (rzA_cg (w550.2 0 (by decide)) (w550.2 37 (by decide)) (w550.2 38 (by decide)) (rzA_cg rfl rfl rfl (rzA_cg rfl rfl rfl f535)))))
                                                                                    refine r_iast X Y S (aw_clientSizes _ _ _ _ _ _ _) (sw_clientSizes _ _ _ _ _ _ _) rfl ⟨(show (0 : Int) ≤ z552 - z553 by omega), (show z552 - z553 ≤ (300 : Int) by omega)⟩ ⟨by omega, by omega⟩ (by omega) (show (8 * a1) + z457 < ((32 : Nat) : Int) by omega) (by omega) (by decide) d_M_taken_730 (fun B555 H locs Y S w555 => ?_)
                                                                                    have f556 : stA (B555 110) (B555 118) (B555 119) (B555 120) := (stA_cg (w555.2 110 (by decide)) (w555.2 118 (by decide)) (w555.2 119 (by decide)) (w555.2 120 (by decide)) (stA_cg rfl rfl rfl rfl (stA_cg rfl rfl rfl rfl (stA_cg (w550.2 110 (by decide)) (w550.2 118 (by decide)) (w550.2 119 (by decide)) (w550.2 120 (by decide)) (stA_cg rfl rfl rfl rfl (stA_cg rfl rfl rfl rfl f530))))))
                                                                                    have f557 : akA a1 a2 (B555 118) (B555 119) (B555 120) := (akA_cg (w555.2 118 (by decide)) (w555.2 119 (by decide)) (w555.2 120 (by decide)) (akA_cg rfl rfl rfl (akA_cg rfl rfl rfl (akA_cg (w550.2 118 (by decide)) (w550.2 119 (by decide)) (w550.2 120 (by decide)) (akA_cg rfl rfl rfl (akA_cg rfl rfl rfl f529))))))
                                                                                    have f558 : z100 ((8 * a1) + z457) (B555 100) (B555 37) (B555 38) := (z100_cg (w555.2 37 (by decide)) (w555.2 38 (by decide)) (w555.2 100 (by decide)) (z100_cg rfl rfl rfl (z100_cg rfl rfl rfl (z100_cg (w550.2 37 (by decide)) (w550.2 38 (by decide)) (w550.2 100 (by decide)) (z100_cg rfl rfl rfl (z100_cg rfl rfl rfl f536))))))
                                                                                    have f559 : c98 ((8 * a1) + z457) (B555 98) (B555 0) (B555 37) (B555 100) := (c98_cg (w555.2 0 (by decide)) (w555.2 37 (by decide)) (w555.2 98 (by decide)) (w555.2 100 (by decide)) (c98_cg rfl rfl rfl rfl (c98_cg rfl rfl rfl rfl (c98_cg (w550.2 0 (by decide)) (w550.2 37 (by decide)) (w550.2 98 (by decide)) (w550.2 100 (by decide)) (c98_cg rfl rfl rfl rfl (c98_cg rfl rfl rfl rfl f546))))))
                                                                                    have f560 : stX ((8 * a1) + z457) (B555 97) (B555 98) (B555 100) (B555 107) (B555 108) (B555 109) := by rw [w555.1, w555.2 97 (by decide), w555.2 98 (by decide), w555.2 100 (by decide), w555.2 107 (by decide), w555.2 108 (by decide)]; exact stX_109 (show (((8 * a1) + z457).toNat : Int) = (8 * a1) + z457 by omega) (stX_cg rfl rfl rfl rfl rfl rfl (stX_cg rfl rfl rfl rfl rfl rfl f551))
                                                                                    have f561 : z109 ((8 * a1) + z457) (B555 109) (B555 37) (B555 38) := by unfold z109; rw [w555.1, pk_us, w555.2 37 (by decide), w555.2 38 (by decide), iI_toInt ⟨by omega, by omega⟩]; omega
                                                                                    refine lv_iconst (v := iI 0) X.1 X.2.1 d_M_taken_731 (by decide) ?_
                                                                                    have J574 : ∀ (n576 : Nat) (z563 : Int) (I562 : Nat → Int32) (J562 : Nat → Int64) (B562 : Nat → Nat → Int32) (G562 : Nat → Nat → Int64) (H : Heap) (locs : List Loc) (ls : Array Slot), (100 - z563).toNat = n576 → (0 ≤ z563) → (z563 ≤ 100) → (akA a1 a2 (B562 118) (B562 119) (B562 120)) → (c98 ((8 * a1) + z457) (B562 98) (B562 0) (B562 37) (B562 100)) → (stA (B562 110) (B562 118) (B562 119) (B562 120)) → (stX ((8 * a1) + z457) (B562 97) (B562 98) (B562 100) (B562 107) (B562 108) (B562 109)) → (pG1 I562) → (pG2 (B562 37) (B562 38)) → (rpA (B562 37) (B562 38) (B562 0)) → (rzA (B562 37) (B562 38) (B562 0)) → (z100 ((8 * a1) + z457) (B562 100) (B562 37) (B562 38)) → (z109 ((8 * a1) + z457) (B562 109) (B562 37) (B562 38)) → mH D E (mA E h q sz) s.heap h q I562 J562 B562 G562 H locs → rS [39, 40, 42] [0, 37, 38, 59, 97, 98, 99, 100, 101, 102, 107, 108, 109] I B I562 B562 → lv_has ls 8 [(0, .ref h), (5, .int (iI z457)), (6, .int (iI ((8 * a1) + z457))), (7, .int (iI z563))] → W p l e (mR 45 2041) s m AV below meth c H locs 0 0 QQ (F0 m 734 ls []) := by
                                                                                      as_aux_lemma =>
                                                                                        intro n576
                                                                                        induction n576 using Nat.strongRecOn with
                                                                                        | ind n576 ih575 =>
                                                                                          intro z563 I562 J562 B562 G562 H locs ls hm577 l563 u563 f564 f565 f566 f567 f568 f569 f570 f571 f572 f573 Y S hl
                                                                                          refine lv_iload X.1 X.2.1 d_M_taken_734 (lv_at hl 3 rfl) ?_
                                                                                          refine lv_aload_n X.1 X.2.1 d_M_taken_736 rfl (lv_at hl 0 rfl) ?_
                                                                                          refine m_get X Y 108 (by decide) lk_realmSizes (gf_realmSizes _ _ _) rfl d_M_taken_737 ?_
                                                                                          refine lv_iload X.1 X.2.1 d_M_taken_740 (lv_at hl 2 rfl) ?_
                                                                                          refine r_iald X Y S (aw_realmSizes _ _ _ _ _ _ _) rfl (by omega) (show (8 * a1) + z457 < ((32 : Nat) : Int) by omega) (by omega) d_M_taken_742 (fun z578 q578 l578 u578 => ?_)
                                                                                          refine z_icmp_ge (tgt := 780) X.1 X.2.1 d_M_taken_743 (by decide) ⟨by omega, by omega⟩ ⟨by omega, by omega⟩ (fun h579 => ?_) (fun h579 => ?_)
                                                                                          · as_aux_lemma =>
                                                                                              refine lv_iconst (v := iI 0) X.1 X.2.1 d_M_taken_780 (by decide) ?_
                                                                                              have J594 : ∀ (n596 : Nat) (z581 : Int) (I580 : Nat → Int32) (J580 : Nat → Int64) (B580 : Nat → Nat → Int32) (G580 : Nat → Nat → Int64) (H : Heap) (locs : List Loc) (ls : Array Slot), (300 - z581).toNat = n596 → (0 ≤ z581) → (z581 ≤ 300) → (akA a1 a2 (B580 118) (B580 119) (B580 120)) → (c98 ((8 * a1) + z457) (B580 98) (B580 0) (B580 37) (B580 100)) → (stA (B580 110) (B580 118) (B580 119) (B580 120)) → (stX ((8 * a1) + z457) (B580 97) (B580 98) (B580 100) (B580 107) (B580 108) (B580 109)) → (pG1 I580) → (pG2 (B580 37) (B580 38)) → (rpA (B580 37) (B580 38) (B580 0)) → (rzA (B580 37) (B580 38) (B580 0)) → (z100 ((8 * a1) + z457) (B580 100) (B580 37) (B580 38)) → (z109 ((8 * a1) + z457) (B580 109) (B580 37) (B580 38)) → (cpy (B580 107) (B580 0) (400 * ((8 * a1) + z457) + (B580 108 ((8 * a1) + z457).toNat).toInt) ((B580 37 (16 * 0 + 4 : Int).toNat).toInt) z581) → (z581 ≤ (B580 109 ((8 * a1) + z457).toNat).toInt) → mH D E (mA E h q sz) s.heap h q I580 J580 B580 G580 H locs → rS [39, 40, 42] [0, 37, 38, 59, 97, 98, 99, 100, 101, 102, 107, 108, 109] I B I580 B580 → lv_has ls 8 [(0, .ref h), (5, .int (iI z457)), (6, .int (iI ((8 * a1) + z457))), (7, .int (iI z581))] → W p l e (mR 45 2041) s m AV below meth c H locs 0 0 QQ (F0 m 783 ls []) := by
                                                                                                as_aux_lemma =>
                                                                                                  intro n596
                                                                                                  induction n596 using Nat.strongRecOn with
                                                                                                  | ind n596 ih595 =>
                                                                                                    intro z581 I580 J580 B580 G580 H locs ls hm597 l581 u581 f582 f583 f584 f585 f586 f587 f588 f589 f590 f591 i592 i593 Y S hl
                                                                                                    refine lv_iload X.1 X.2.1 d_M_taken_783 (lv_at hl 3 rfl) ?_
                                                                                                    refine lv_aload_n X.1 X.2.1 d_M_taken_785 rfl (lv_at hl 0 rfl) ?_
                                                                                                    refine m_get X Y 109 (by decide) lk_clientSizes (gf_clientSizes _ _ _) rfl d_M_taken_786 ?_
                                                                                                    refine lv_iload X.1 X.2.1 d_M_taken_789 (lv_at hl 2 rfl) ?_
                                                                                                    refine r_iald X Y S (aw_clientSizes _ _ _ _ _ _ _) rfl (by omega) (show (8 * a1) + z457 < ((32 : Nat) : Int) by omega) (by omega) d_M_taken_791 (fun z598 q598 l598 u598 => ?_)
                                                                                                    refine z_icmp_ge (tgt := 837) X.1 X.2.1 d_M_taken_792 (by decide) ⟨by omega, by omega⟩ ⟨by omega, by omega⟩ (fun h599 => ?_) (fun h599 => ?_)
                                                                                                    · refine lv_iload X.1 X.2.1 d_M_taken_837 (lv_at hl 1 rfl) ?_
                                                                                                      exact m_reti hQQ X Y hr hlk ⟨S, z457, rfl, ⟨by omega, by omega, f586, f587, (st_fin f585 (by omega) f589 f590 f591 f583 (by unfold c107; rw [show (B580 109 ((8 * a1) + z457).toNat).toInt = z581 by omega]; exact i592) (show 0 ≤ _ from (S.1.2 108 _).1)), f584⟩⟩ d_M_taken_839
                                                                                                    · as_aux_lemma =>
                                                                                                        refine lv_aload_n X.1 X.2.1 d_M_taken_795 rfl (lv_at hl 0 rfl) ?_
                                                                                                        refine m_get X Y 107 (by decide) lk_clientBytes (gf_clientBytes _ _ _) rfl d_M_taken_796 ?_
                                                                                                        refine lv_sipush (v := iI 400) X.1 X.2.1 d_M_taken_799 (by decide) ?_
                                                                                                        refine lv_iload X.1 X.2.1 d_M_taken_802 (lv_at hl 2 rfl) ?_
                                                                                                        refine z_imul X.1 X.2.1 d_M_taken_804 ?_
                                                                                                        refine lv_aload_n X.1 X.2.1 d_M_taken_805 rfl (lv_at hl 0 rfl) ?_
                                                                                                        refine m_get X Y 108 (by decide) lk_realmSizes (gf_realmSizes _ _ _) rfl d_M_taken_806 ?_
                                                                                                        refine lv_iload X.1 X.2.1 d_M_taken_809 (lv_at hl 2 rfl) ?_
                                                                                                        refine r_iald X Y S (aw_realmSizes _ _ _ _ _ _ _) rfl (by omega) (show (8 * a1) + z457 < ((32 : Nat) : Int) by omega) (by omega) d_M_taken_811 (fun z600 q600 l600 u600 => ?_)
                                                                                                        refine z_iadd X.1 X.2.1 d_M_taken_812 ?_
                                                                                                        refine lv_iload X.1 X.2.1 d_M_taken_813 (lv_at hl 3 rfl) ?_
                                                                                                        refine z_iadd X.1 X.2.1 d_M_taken_815 ?_
                                                                                                        refine lv_aload_n X.1 X.2.1 d_M_taken_816 rfl (lv_at hl 0 rfl) ?_
                                                                                                        refine m_get X Y 0 (by decide) lk_mem (gf_mem _ _ _) rfl d_M_taken_817 ?_
                                                                                                        refine lv_aload_n X.1 X.2.1 d_M_taken_820 rfl (lv_at hl 0 rfl) ?_
                                                                                                        refine lv_iconst (v := iI 0) X.1 X.2.1 d_M_taken_821 (by decide) ?_
                                                                                                        refine lv_iconst (v := iI 4) X.1 X.2.1 d_M_taken_822 (by decide) ?_
                                                                                                        refine r_ni (m_run (As := [.int (iI 0), .int (iI 4)]) (rest := [.ref ((q 0)), .int (iI (((400 * ((8 * a1) + z457)) + z600) + z581)), .ref ((q 107))]) (n := 2) X Y hZ hA hml hl.1 (r_M_a l D E h q H.size I580 J580 B580 G580 0 (by decide) (by decide) 4 (by decide) (by decide) S.1) kl_M_a ks_M_a kx_M_a ki_M_a ini_M hd_M_a ⟨Nat.le_of_ble_eq_true rfl, Nat.le_of_ble_eq_true rfl⟩ rfl (Nat.le_of_ble_eq_true rfl) d_M_taken_823 ⟨Nat.le_refl _, Nat.le_refl _⟩) X Y hA S (by decide) (by decide) (fun z601 u H locs Y S s601 p601 => ?_)
                                                                                                        obtain ⟨I601, J601, B601, G601⟩ := u
                                                                                                        dsimp only at Y S s601 p601
                                                                                                        have i601 : I580 = I601 := (funext (fun j => s601.2.1 j (by simp))).symm
                                                                                                        subst i601
                                                                                                        have b601 : B580 = B601 := (funext (fun j => s601.2.2 j (by simp))).symm
                                                                                                        subst b601
                                                                                                        obtain ⟨l601, u601, x601⟩ := p601
                                                                                                        refine lv_iload X.1 X.2.1 d_M_taken_826 (lv_at hl 3 rfl) ?_
                                                                                                        refine z_iadd X.1 X.2.1 d_M_taken_828 ?_
                                                                                                        refine r_bald X Y S (aw_mem _ _ _ _ _ _ _) rfl (by omega) (show z601 + z581 < ((60000 : Nat) : Int) by omega) (by omega) d_M_taken_829 (fun z602 q602 l602 u602 => ?_)
                                                                                                        refine r_bast X Y S (aw_clientBytes _ _ _ _ _ _ _) (sw_clientBytes _ _ _ _ _ _ _) rfl (by omega) (show ((400 * ((8 * a1) + z457)) + z600) + z581 < ((12800 : Nat) : Int) by omega) (by omega) (by decide) d_M_taken_830 (fun B603 H locs Y S w603 => ?_)
                                                                                                        have f604 : stX ((8 * a1) + z457) (B603 97) (B603 98) (B603 100) (B603 107) (B603 108) (B603 109) := by rw [w603.1, w603.2 97 (by decide), w603.2 98 (by decide), w603.2 100 (by decide), w603.2 108 (by decide), w603.2 109 (by decide)]; exact stX_107 (fun t9 => ⟨(S.1.2 108 t9).1, (S.1.2 108 t9).2, (S.1.2 109 t9).2⟩) (by omega) (by omega) (stX_cg rfl rfl rfl rfl rfl rfl f585)
                                                                                                        refine lv_iinc (v := iI (z581 + 1)) (lv' := [(7, .int (iI (z581 + 1))), (0, .ref h), (5, .int (iI z457)), (6, .int (iI ((8 * a1) + z457)))]) X.1 X.2.1 d_M_taken_831 hl (k := 3) rfl ((iI_add _ _).trans (congrArg iI (by omega))) (by decide) rfl (fun ls hl => ?_)
                                                                                                        refine lv_goto (tgt := 783) X.1 X.2.1 d_M_taken_834 (by decide) ?_
                                                                                                        exact ih595 ((300 - (z581 + 1)).toNat) (by omega) (z581 + 1) I580 J601 B603 G601 _ _ _ rfl (by omega) (by omega) (akA_cg (w603.2 118 (by decide)) (w603.2 119 (by decide)) (w603.2 120 (by decide)) (akA_cg rfl rfl rfl f582)) (c98_cg (w603.2 0 (by decide)) (w603.2 37 (by decide)) (w603.2 98 (by decide)) (w603.2 100 (by decide)) (c98_cg rfl rfl rfl rfl f583)) (stA_cg (w603.2 110 (by decide)) (w603.2 118 (by decide)) (w603.2 119 (by decide)) (w603.2 120 (by decide)) (stA_cg rfl rfl rfl rfl f584)) f604 (pG1_cg rfl rfl (pG1_cg rfl rfl f586)) (pG2_cg (w603.2 37 (by decide)) (w603.2 38 (by decide)) (pG2_cg rfl rfl f587)) (rpA_cg (w603.2 0 (by decide)) (w603.2 37 (by decide)) (w603.2 38 (by decide)) (rpA_cg rfl rfl rfl f588)) (rzA_cg (w603.2 0 (by decide)) (w603.2 37 (by decide)) (w603.2 38 (by decide)) (rzA_cg rfl rfl rfl f589)) (z100_cg (w603.2 37 (by decide)) (w603.2 38 (by decide)) (w603.2 100 (by decide)) (z100_cg rfl rfl rfl f590)) (z109_cg (w603.2 37 (by decide)) (w603.2 38 (by decide)) (w603.2 109 (by decide)) (z109_cg rfl rfl rfl f591)) (by rw [w603.2 37 (by decide), w603.2 108 (by decide)]; exact cpy_go (by omega) (by omega) (by decide) w603 (show ((400 * ((8 * a1) + z457)) + z600) + z581 = _ by omega) q602 (show z601 + z581 = _ by omega) (by omega) (by omega) i592) (by rw [w603.2 109 (by decide)]; omega) Y S (lv_sub hl [1, 2, 3, 0] rfl)
                                                                                              refine lv_istore (lv' := [(7, .int (iI 0)), (0, .ref h), (5, .int (iI z457)), (6, .int (iI ((8 * a1) + z457)))]) X.1 X.2.1 d_M_taken_781 hl (by decide) rfl (fun ls hl => ?_)
                                                                                              exact J594 _ 0 I562 J562 B562 G562 _ _ _ rfl (by omega) (by omega) f564 f565 f566 f567 f568 f569 f570 f571 f572 f573 (cpy_0 rfl) (by omega) Y S (lv_sub hl [1, 2, 3, 0] rfl)
                                                                                          · as_aux_lemma =>
                                                                                              refine lv_aload_n X.1 X.2.1 d_M_taken_746 rfl (lv_at hl 0 rfl) ?_
                                                                                              refine m_get X Y 107 (by decide) lk_clientBytes (gf_clientBytes _ _ _) rfl d_M_taken_747 ?_
                                                                                              refine lv_sipush (v := iI 400) X.1 X.2.1 d_M_taken_750 (by decide) ?_
                                                                                              refine lv_iload X.1 X.2.1 d_M_taken_753 (lv_at hl 2 rfl) ?_
                                                                                              refine z_imul X.1 X.2.1 d_M_taken_755 ?_
                                                                                              refine lv_iload X.1 X.2.1 d_M_taken_756 (lv_at hl 3 rfl) ?_
                                                                                              refine z_iadd X.1 X.2.1 d_M_taken_758 ?_
                                                                                              refine lv_aload_n X.1 X.2.1 d_M_taken_759 rfl (lv_at hl 0 rfl) ?_
                                                                                              refine m_get X Y 0 (by decide) lk_mem (gf_mem _ _ _) rfl d_M_taken_760 ?_
                                                                                              refine lv_aload_n X.1 X.2.1 d_M_taken_763 rfl (lv_at hl 0 rfl) ?_
                                                                                              refine lv_iconst (v := iI 0) X.1 X.2.1 d_M_taken_764 (by decide) ?_
                                                                                              refine lv_iconst (v := iI 3) X.1 X.2.1 d_M_taken_765 (by decide) ?_
                                                                                              refine r_ni (m_run (As := [.int (iI 0), .int (iI 3)]) (rest := [.ref ((q 0)), .int (iI ((400 * ((8 * a1) + z457)) + z563)), .ref ((q 107))]) (n := 2) X Y hZ hA hml hl.1 (r_M_a l D E h q H.size I562 J562 B562 G562 0 (by decide) (by decide) 3 (by decide) (by decide) S.1) kl_M_a ks_M_a kx_M_a ki_M_a ini_M hd_M_a ⟨Nat.le_of_ble_eq_true rfl, Nat.le_of_ble_eq_true rfl⟩ rfl (Nat.le_of_ble_eq_true rfl) d_M_taken_766 ⟨Nat.le_refl _, Nat.le_refl _⟩) X Y hA S (by decide) (by decide) (fun z605 u H locs Y S s605 p605 => ?_)
                                                                                              obtain ⟨I605, J605, B605, G605⟩ := u
                                                                                              dsimp only at Y S s605 p605
                                                                                              have i605 : I562 = I605 := (funext (fun j => s605.2.1 j (by simp))).symm
                                                                                              subst i605
                                                                                              have b605 : B562 = B605 := (funext (fun j => s605.2.2 j (by simp))).symm
                                                                                              subst b605
                                                                                              obtain ⟨l605, u605, x605⟩ := p605
                                                                                              refine lv_iload X.1 X.2.1 d_M_taken_769 (lv_at hl 3 rfl) ?_
                                                                                              refine z_iadd X.1 X.2.1 d_M_taken_771 ?_
                                                                                              refine r_bald X Y S (aw_mem _ _ _ _ _ _ _) rfl (by omega) (show z605 + z563 < ((60000 : Nat) : Int) by omega) (by omega) d_M_taken_772 (fun z606 q606 l606 u606 => ?_)
                                                                                              refine r_bast X Y S (aw_clientBytes _ _ _ _ _ _ _) (sw_clientBytes _ _ _ _ _ _ _) rfl (by omega) (show (400 * ((8 * a1) + z457)) + z563 < ((12800 : Nat) : Int) by omega) (by omega) (by decide) d_M_taken_773 (fun B607 H locs Y S w607 => ?_)
                                                                                              have f608 : stX ((8 * a1) + z457) (B607 97) (B607 98) (B607 100) (B607 107) (B607 108) (B607 109) := by rw [w607.1, w607.2 97 (by decide), w607.2 98 (by decide), w607.2 100 (by decide), w607.2 108 (by decide), w607.2 109 (by decide)]; exact stX_107 (fun t9 => ⟨(S.1.2 108 t9).1, (S.1.2 108 t9).2, (S.1.2 109 t9).2⟩) (by omega) (by omega) (stX_cg rfl rfl rfl rfl rfl rfl f567)
                                                                                              refine lv_iinc (v := iI (z563 + 1)) (lv' := [(7, .int (iI (z563 + 1))), (0, .ref h), (5, .int (iI z457)), (6, .int (iI ((8 * a1) + z457)))]) X.1 X.2.1 d_M_taken_774 hl (k := 3) rfl ((iI_add _ _).trans (congrArg iI (by omega))) (by decide) rfl (fun ls hl => ?_)
                                                                                              refine lv_goto (tgt := 734) X.1 X.2.1 d_M_taken_777 (by decide) ?_
                                                                                              exact ih575 ((100 - (z563 + 1)).toNat) (by omega) (z563 + 1) I562 J605 B607 G605 _ _ _ rfl (by omega) (by omega) (akA_cg (w607.2 118 (by decide)) (w607.2 119 (by decide)) (w607.2 120 (by decide)) (akA_cg rfl rfl rfl f564)) (c98_cg (w607.2 0 (by decide)) (w607.2 37 (by decide)) (w607.2 98 (by decide)) (w607.2 100 (by decide)) (c98_cg rfl rfl rfl rfl f565)) (stA_cg (w607.2 110 (by decide)) (w607.2 118 (by decide)) (w607.2 119 (by decide)) (w607.2 120 (by decide)) (stA_cg rfl rfl rfl rfl f566)) f608 (pG1_cg rfl rfl (pG1_cg rfl rfl f568)) (pG2_cg (w607.2 37 (by decide)) (w607.2 38 (by decide)) (pG2_cg rfl rfl f569)) (rpA_cg (w607.2 0 (by decide)) (w607.2 37 (by decide)) (w607.2 38 (by decide)) (rpA_cg rfl rfl rfl f570)) (rzA_cg (w607.2 0 (by decide)) (w607.2 37 (by decide)) (w607.2 38 (by decide)) (rzA_cg rfl rfl rfl f571)) (z100_cg (w607.2 37 (by decide)) (w607.2 38 (by decide)) (w607.2 100 (by decide)) (z100_cg rfl rfl rfl f572)) (z109_cg (w607.2 37 (by decide)) (w607.2 38 (by decide)) (w607.2 109 (by decide)) (z109_cg rfl rfl rfl f573)) Y S (lv_sub hl [1, 2, 3, 0] rfl)
                                                                                    refine lv_istore (lv' := [(7, .int (iI 0)), (0, .ref h), (5, .int (iI z457)), (6, .int (iI ((8 * a1) + z457)))]) X.1 X.2.1 d_M_taken_732 hl (by decide) rfl (fun ls hl => ?_)
                                                                                    exact J574 _ 0 I527 J553 B555 G553 _ _ _ rfl (by omega) (by omega) f557 f559 f556 f560 (pG1_cg rfl rfl (pG1_cg rfl rfl (pG1_cg rfl rfl (pG1_cg rfl rfl (pG1_cg rfl rfl (pG1_cg rfl rfl f532)))))) (pG2_cg (w555.2 37 (by decide)) (w555.2 38 (by decide)) (pG2_cg rfl rfl (pG2_cg rfl rfl (pG2_cg (w550.2 37 (by decide)) (w550.2 38 (by decide)) (pG2_cg rfl rfl (pG2_cg rfl rfl f533)))))) (rpA_cg (w555.2 0 (by decide)) (w555.2 37 (by decide)) (w555.2 38 (by decide)) (rpA_cg rfl rfl rfl (rpA_cg rfl rfl rfl (rpA_cg (w550.2 0 (by decide)) (w550.2 37 (by decide)) (w550.2 38 (by decide)) (rpA_cg rfl rfl rfl (rpA_cg rfl rfl rfl f534)))))) (rzA_cg (w555.2 0 (by decide)) (w555.2 37 (by decide)) (w555.2 38 (by decide)) (rzA_cg rfl rfl rfl (rzA_cg rfl rfl rfl (rzA_cg (w550.2 0 (by decide)) (w550.2 37 (by decide)) (w550.2 38 (by decide)) (rzA_cg rfl rfl rfl (rzA_cg rfl rfl rfl f535)))))) f558 f561 Y S (lv_sub hl [1, 2, 3, 0] rfl)
                                                                                · as_aux_lemma =>
                                                                                    refine lv_aload_n X.1 X.2.1 d_M_taken_657 rfl (lv_at hl 0 rfl) ?_
                                                                                    refine m_get X Y 98 (by decide) lk_ticketBytes (gf_ticketBytes _ _ _) rfl d_M_taken_658 ?_
                                                                                    refine lv_sipush (v := iI 4200) X.1 X.2.1 d_M_taken_661 (by decide) ?_
                                                                                    refine lv_iload X.1 X.2.1 d_M_taken_664 (lv_at hl 2 rfl) ?_
                                                                                    refine z_imul X.1 X.2.1 d_M_taken_666 ?_
                                                                                    refine lv_iload X.1 X.2.1 d_M_taken_667 (lv_at hl 3 rfl) ?_
                                                                                    refine z_iadd X.1 X.2.1 d_M_taken_669 ?_
                                                                                    refine lv_aload_n X.1 X.2.1 d_M_taken_670 rfl (lv_at hl 0 rfl) ?_
                                                                                    refine m_get X Y 0 (by decide) lk_mem (gf_mem _ _ _) rfl d_M_taken_671 ?_
                                                                                    refine lv_aload_n X.1 X.2.1 d_M_taken_674 rfl (lv_at hl 0 rfl) ?_
                                                                                    refine lv_iconst (v := iI 0) X.1 X.2.1 d_M_taken_675 (by decide) ?_
                                                                                    refine lv_iconst (v := iI 5) X.1 X.2.1 d_M_taken_676 (by decide) ?_
                                                                                    refine r_ni (m_run (As := [.int (iI 0), .int (iI 5)]) (rest := [.ref ((q 0)), .int (iI ((4200 * ((8 * a1) + z457)) + z528)), .ref ((q 98))]) (n := 2) X Y hZ hA hml hl.1 (r_M_a l D E h q H.size I527 J527 B527 G527 0 (by decide) (by decide) 5 (by decide) (by decide) S.1) kl_M_a ks_M_a kx_M_a ki_M_a ini_M hd_M_a ⟨Nat.le_of_ble_eq_true rfl, Nat.le_of_ble_eq_true rfl⟩ rfl (Nat.le_of_ble_eq_true rfl) d_M_taken_677 ⟨Nat.le_refl _, Nat.le_refl _⟩) X Y hA S (by decide) (by decide) (fun z609 u H locs Y S s609 p609 => ?_)
                                                                                    obtain ⟨I609, J609, B609, G609⟩ := u
                                                                                    dsimp only at Y S s609 p609
                                                                                    have i609 : I527 = I609 := (funext (fun j => s609.2.1 j (by simp))).symm
                                                                                    subst i609
                                                                                    have b609 : B527 = B609 := (funext (fun j => s609.2.2 j (by simp))).symm
                                                                                    subst b609
                                                                                    obtain ⟨l609, u609, x609⟩ := p609
                                                                                    refine lv_iload X.1 X.2.1 d_M_taken_680 (lv_at hl 3 rfl) ?_
                                                                                    refine z_iadd X.1 X.2.1 d_M_taken_682 ?_
                                                                                    refine r_bald X Y S (aw_mem _ _ _ _ _ _ _) rfl (by omega) (show z609 + z528 < ((60000 : Nat) : Int) by omega) (by omega) d_M_taken_683 (fun z610 q610 l610 u610 => ?_)
                                                                                    refine r_bast X Y S (aw_ticketBytes _ _ _ _ _ _ _) (sw_ticketBytes _ _ _ _ _ _ _) rfl (by omega) (show (4200 * ((8 * a1) + z457)) + z528 < ((134400 : Nat) : Int) by omega) (by omega) (by decide) d_M_taken_684 (fun B611 H locs Y S w611 => ?_)
                                                                                    have f612 : stX ((8 * a1) + z457) (B611 97) (B611 98) (B611 100) (B611 107) (B611 108) (B611 109) := by rw [w611.1, w611.2 97 (by decide), w611.2 100 (by decide), w611.2 107 (by decide), w611.2 108 (by decide), w611.2 109 (by decide)]; exact stX_98 (fun t9 => (show _ ≤ (4200 : Int) from (S.1.2 100 t9).2)) (by omega) (by omega) (stX_cg rfl rfl rfl rfl rfl rfl f531)
                                                                                    refine lv_iinc (v := iI (z528 + 1)) (lv' := [(7, .int (iI (z528 + 1))), (0, .ref h), (5, .int (iI z457)), (6, .int (iI ((8 * a1) + z457)))]) X.1 X.2.1 d_M_taken_685 hl (k := 3) rfl ((iI_add _ _).trans (congrArg iI (by omega))) (by decide) rfl (fun ls hl => ?_)
                                                                                    refine lv_goto (tgt := 645) X.1 X.2.1 d_M_taken_688 (by decide) ?_
                                                                                    exact ih540 ((4200 - (z528 + 1)).toNat) (by omega) (z528 + 1) I527 J609 B611 G609 _ _ _ rfl (by omega) (by omega) (akA_cg (w611.2 118 (by decide)) (w611.2 119 (by decide)) (w611.2 120 (by decide)) (akA_cg rfl rfl rfl f529)) (stA_cg (w611.2 110 (by decide)) (w611.2 118 (by decide)) (w611.2 119 (by decide)) (w611.2 120 (by decide)) (stA_cg rfl rfl rfl rfl f530)) f612 (pG1_cg rfl rfl (pG1_cg rfl rfl f532)) (pG2_cg (w611.2 37 (by decide)) (w611.2 38 (by decide)) (pG2_cg rfl rfl f533)) (rpA_cg (w611.2 0 (by decide)) (w611.2 37 (by decide)) (w611.2 38 (by decide)) (rpA_cg rfl rfl rfl f534)) (rzA_cg (w611.2 0 (by decide)) (w611.2 37 (by decide)) (w611.2 38 (by decide)) (rzA_cg rfl rfl rfl f535)) (z100_cg (w611.2 37 (by decide)) (w611.2 38 (by decide)) (w611.2 100 (by decide)) (z100_cg rfl rfl rfl f536)) (by rw [w611.2 37 (by decide)]; exact cpy_go (by omega) (by omega) (by decide) w611 (show (4200 * ((8 * a1) + z457)) + z528 = _ by omega) q610 (show z609 + z528 = _ by omega) (by omega) (by omega) i537) (by rw [w611.2 100 (by decide)]; omega) Y S (lv_sub hl [1, 2, 3, 0] rfl)
                                                                          refine lv_istore (lv' := [(7, .int (iI 0)), (0, .ref h), (5, .int (iI z457)), (6, .int (iI ((8 * a1) + z457)))]) X.1 X.2.1 d_M_taken_643 hl (by decide) rfl (fun ls hl => ?_)
                                                                          exact J539 _ 0 I507 J522 B524 G522 _ _ _ rfl (by omega) (by omega) (akA_cg (w524.2 118 (by decide)) (w524.2 119 (by decide)) (w524.2 120 (by decide)) (akA_cg rfl rfl rfl (akA_cg rfl rfl rfl f509))) (stA_cg (w524.2 110 (by decide)) (w524.2 118 (by decide)) (w524.2 119 (by decide)) (w524.2 120 (by decide)) (stA_cg rfl rfl rfl rfl (stA_cg rfl rfl rfl rfl f510))) f525 (pG1_cg rfl rfl (pG1_cg rfl rfl (pG1_cg rfl rfl f512))) (pG2_cg (w524.2 37 (by decide)) (w524.2 38 (by decide)) (pG2_cg rfl rfl (pG2_cg rfl rfl f513))) (rpA_cg (w524.2 0 (by decide)) (w524.2 37 (by decide)) (w524.2 38 (by decide)) (rpA_cg rfl rfl rfl (rpA_cg rfl rfl rfl f514))) (rzA_cg (w524.2 0 (by decide)) (w524.2 37 (by decide)) (w524.2 38 (by decide)) (rzA_cg rfl rfl rfl (rzA_cg rfl rfl rfl f515))) f526 (cpy_0 rfl) (by omega) Y S (lv_sub hl [1, 2, 3, 0] rfl)
                                                                      refine z_if_eq (tgt := 618) X.1 X.2.1 d_M_taken_605 (by decide) ⟨by omega, by omega⟩ (fun h613 => ?_) (fun h613 => ?_)
                                                                      · refine lv_ldc2 (v := (-1)) X.1 X.2.1 X.2.2.2.1 (X.2.2.1 _ cl_M_459) d_M_taken_618 ?_
                                                                        exact J516 ((-1)) I504 J506 B490 G506 _ _ _ (akA_cg rfl rfl rfl (akA_cg rfl rfl rfl f492)) (stA_cg rfl rfl rfl rfl (stA_cg rfl rfl rfl rfl f493)) (stX_cg rfl rfl rfl rfl rfl rfl (stX_cg rfl rfl rfl rfl rfl rfl f494)) (pG1_cg rfl rfl g504_P1) (pG2_cg rfl rfl (pG2_cg rfl rfl f496)) (rpA_cg rfl rfl rfl (rpA_cg rfl rfl rfl f497)) (rzA_cg rfl rfl rfl (rzA_cg rfl rfl rfl f498)) Y S (lv_sub hl [0, 1, 2] rfl)
                                                                      · refine lv_aload_n X.1 X.2.1 d_M_taken_608 rfl (lv_at hl 0 rfl) ?_
                                                                        refine lv_iconst (v := iI 4) X.1 X.2.1 d_M_taken_609 (by decide) ?_
                                                                        refine lv_bipush (v := iI 8) X.1 X.2.1 d_M_taken_610 (by decide) ?_
                                                                        refine r_nl (m_run (As := [.int (iI 4), .int (iI 8)]) (rest := [.int (iI ((8 * a1) + z457)), .ref ((q 106))]) (n := 2) X Y hZ hA hml hl.1 (r_M_timeOf l D E h q H.size I504 J506 B490 G506 4 (by decide) (by decide) 8 (by decide) (by decide) S.1 (pG1_cg rfl rfl g504_P1) (pG2_cg rfl rfl (pG2_cg rfl rfl f496))) kl_M_timeOf ks_M_timeOf kx_M_timeOf ki_M_timeOf ini_M hd_M_timeOf ⟨Nat.le_of_ble_eq_true rfl, Nat.le_of_ble_eq_true rfl⟩ rfl (Nat.le_of_ble_eq_true rfl) d_M_taken_612 ⟨Nat.le_refl _, Nat.le_refl _⟩) X Y hA S (by decide) (by decide) (fun v614 u H locs Y S s614 p614 => ?_)
                                                                        obtain ⟨I614, J614, B614, G614⟩ := u
                                                                        dsimp only at Y S s614 p614
                                                                        have b614 : B490 = B614 := (funext (fun j => s614.2.2 j (by simp))).symm
                                                                        subst b614
                                                                        have g614_P1 := p614
                                                                        refine lv_goto (tgt := 621) X.1 X.2.1 d_M_taken_615 (by decide) ?_
                                                                        exact J516 v614 I614 J614 B490 G614 _ _ _ (akA_cg rfl rfl rfl (akA_cg rfl rfl rfl (akA_cg rfl rfl rfl f492))) (stA_cg rfl rfl rfl rfl (stA_cg rfl rfl rfl rfl (stA_cg rfl rfl rfl rfl f493))) (stX_cg rfl rfl rfl rfl rfl rfl (stX_cg rfl rfl rfl rfl rfl rfl (stX_cg rfl rfl rfl rfl rfl rfl f494))) g614_P1 (pG2_cg rfl rfl (pG2_cg rfl rfl (pG2_cg rfl rfl f496))) (rpA_cg rfl rfl rfl (rpA_cg rfl rfl rfl (rpA_cg rfl rfl rfl f497))) (rzA_cg rfl rfl rfl (rzA_cg rfl rfl rfl (rzA_cg rfl rfl rfl f498))) Y S (lv_sub hl [0, 1, 2] rfl)
                                                                  refine z_if_eq (tgt := 574) X.1 X.2.1 d_M_taken_561 (by decide) ⟨by omega, by omega⟩ (fun h615 => ?_) (fun h615 => ?_)
                                                                  · refine lv_ldc2 (v := (-1)) X.1 X.2.1 X.2.2.2.1 (X.2.2.1 _ cl_M_459) d_M_taken_574 ?_
                                                                    exact J499 ((-1)) I486 J488 B485 G488 _ _ _ (akA_cg rfl rfl rfl (akA_cg rfl rfl rfl (akA_cg (w485.2 118 (by decide)) (w485.2 119 (by decide)) (w485.2 120 (by decide)) (akA_cg rfl rfl rfl f472)))) (stA_cg rfl rfl rfl rfl (stA_cg rfl rfl rfl rfl (stA_cg (w485.2 110 (by decide)) (w485.2 118 (by decide)) (w485.2 119 (by decide)) (w485.2 120 (by decide)) (stA_cg rfl rfl rfl rfl f473)))) f489 (pG1_cg rfl rfl g486_P1) (pG2_cg rfl rfl (pG2_cg rfl rfl (pG2_cg (w485.2 37 (by decide)) (w485.2 38 (by decide)) (pG2_cg rfl rfl f476)))) (rpA_cg rfl rfl rfl (rpA_cg rfl rfl rfl (rpA_cg (w485.2 0 (by decide)) (w485.2 37 (by decide)) (w485.2 38 (by decide)) (rpA_cg rfl rfl rfl f477)))) (rzA_cg rfl rfl rfl (rzA_cg rfl rfl rfl (rzA_cg (w485.2 0 (by decide)) (w485.2 37 (by decide)) (w485.2 38 (by decide)) (rzA_cg rfl rfl rfl f478)))) Y S (lv_sub hl [0, 1, 2] rfl)
                                                                  · refine lv_aload_n X.1 X.2.1 d_M_taken_564 rfl (lv_at hl 0 rfl) ?_
                                                                    refine lv_iconst (v := iI 4) X.1 X.2.1 d_M_taken_565 (by decide) ?_
                                                                    refine lv_bipush (v := iI 6) X.1 X.2.1 d_M_taken_566 (by decide) ?_
                                                                    refine r_nl (m_run (As := [.int (iI 4), .int (iI 6)]) (rest := [.int (iI ((8 * a1) + z457)), .ref ((q 104))]) (n := 2) X Y hZ hA hml hl.1 (r_M_timeOf l D E h q H.size I486 J488 B485 G488 4 (by decide) (by decide) 6 (by decide) (by decide) S.1 (pG1_cg rfl rfl g486_P1) (pG2_cg rfl rfl (pG2_cg rfl rfl (pG2_cg (w485.2 37 (by decide)) (w485.2 38 (by decide)) (pG2_cg rfl rfl f476))))) kl_M_timeOf ks_M_timeOf kx_M_timeOf ki_M_timeOf ini_M hd_M_timeOf ⟨Nat.le_of_ble_eq_true rfl, Nat.le_of_ble_eq_true rfl⟩ rfl (Nat.le_of_ble_eq_true rfl) d_M_taken_568 ⟨Nat.le_refl _, Nat.le_refl _⟩) X Y hA S (by decide) (by decide) (fun v616 u H locs Y S s616 p616 => ?_)
                                                                    obtain ⟨I616, J616, B616, G616⟩ := u
                                                                    dsimp only at Y S s616 p616
                                                                    have b616 : B485 = B616 := (funext (fun j => s616.2.2 j (by simp))).symm
                                                                    subst b616
                                                                    have g616_P1 := p616
                                                                    refine lv_goto (tgt := 577) X.1 X.2.1 d_M_taken_571 (by decide) ?_
                                                                    exact J499 v616 I616 J616 B485 G616 _ _ _ (akA_cg rfl rfl rfl (akA_cg rfl rfl rfl (akA_cg rfl rfl rfl (akA_cg (w485.2 118 (by decide)) (w485.2 119 (by decide)) (w485.2 120 (by decide)) (akA_cg rfl rfl rfl f472))))) (stA_cg rfl rfl rfl rfl (stA_cg rfl rfl rfl rfl (stA_cg rfl rfl rfl rfl (stA_cg (w485.2 110 (by decide)) (w485.2 118 (by decide)) (w485.2 119 (by decide)) (w485.2 120 (by decide)) (stA_cg rfl rfl rfl rfl f473))))) (stX_cg rfl rfl rfl rfl rfl rfl f489) g616_P1 (pG2_cg rfl rfl (pG2_cg rfl rfl (pG2_cg rfl rfl (pG2_cg (w485.2 37 (by decide)) (w485.2 38 (by decide)) (pG2_cg rfl rfl f476))))) (rpA_cg rfl rfl rfl (rpA_cg rfl rfl rfl (rpA_cg rfl rfl rfl (rpA_cg (w485.2 0 (by decide)) (w485.2 37 (by decide)) (w485.2 38 (by decide)) (rpA_cg rfl rfl rfl f477))))) (rzA_cg rfl rfl rfl (rzA_cg rfl rfl rfl (rzA_cg rfl rfl rfl (rzA_cg (w485.2 0 (by decide)) (w485.2 37 (by decide)) (w485.2 38 (by decide)) (rzA_cg rfl rfl rfl f478))))) Y S (lv_sub hl [0, 1, 2] rfl)
                                                              · refine lv_aload_n X.1 X.2.1 d_M_taken_496 rfl (lv_at hl 0 rfl) ?_
                                                                refine m_get X Y 99 (by decide) lk_ticketKeys (gf_ticketKeys _ _ _) rfl d_M_taken_497 ?_
                                                                refine lv_bipush (v := iI 32) X.1 X.2.1 d_M_taken_500 (by decide) ?_
                                                                refine lv_iload X.1 X.2.1 d_M_taken_502 (lv_at hl 2 rfl) ?_
                                                                refine z_imul X.1 X.2.1 d_M_taken_504 ?_
                                                                refine lv_iload X.1 X.2.1 d_M_taken_505 (lv_at hl 3 rfl) ?_
                                                                refine z_iadd X.1 X.2.1 d_M_taken_507 ?_
                                                                refine lv_aload_n X.1 X.2.1 d_M_taken_508 rfl (lv_at hl 0 rfl) ?_
                                                                refine m_get X Y 59 (by decide) lk_sub (gf_sub _ _ _) rfl d_M_taken_509 ?_
                                                                refine lv_iload X.1 X.2.1 d_M_taken_512 (lv_at hl 3 rfl) ?_
                                                                refine r_bald X Y S (aw_sub _ _ _ _ _ _ _) rfl (by omega) (show z471 < ((32 : Nat) : Int) by omega) (by omega) d_M_taken_514 (fun z617 q617 l617 u617 => ?_)
                                                                refine r_bast X Y S (aw_ticketKeys _ _ _ _ _ _ _) (sw_ticketKeys _ _ _ _ _ _ _) rfl (by omega) (show (32 * ((8 * a1) + z457)) + z471 < ((1024 : Nat) : Int) by omega) (by omega) (by decide) d_M_taken_515 (fun B618 H locs Y S w618 => ?_)
                                                                refine lv_iinc (v := iI (z471 + 1)) (lv' := [(7, .int (iI (z471 + 1))), (0, .ref h), (5, .int (iI z457)), (6, .int (iI ((8 * a1) + z457)))]) X.1 X.2.1 d_M_taken_516 hl (k := 3) rfl ((iI_add _ _).trans (congrArg iI (by omega))) (by decide) rfl (fun ls hl => ?_)
                                                                refine lv_goto (tgt := 489) X.1 X.2.1 d_M_taken_519 (by decide) ?_
                                                                exact ih480 ((32 - (z471 + 1)).toNat) (by omega) (z471 + 1) I470 J470 B618 G470 _ _ _ rfl (by omega) (by omega) (akA_cg (w618.2 118 (by decide)) (w618.2 119 (by decide)) (w618.2 120 (by decide)) f472) (stA_cg (w618.2 110 (by decide)) (w618.2 118 (by decide)) (w618.2 119 (by decide)) (w618.2 120 (by decide)) f473) (stX_cg (w618.2 97 (by decide)) (w618.2 98 (by decide)) (w618.2 100 (by decide)) (w618.2 107 (by decide)) (w618.2 108 (by decide)) (w618.2 109 (by decide)) f474) (pG1_cg rfl rfl f475) (pG2_cg (w618.2 37 (by decide)) (w618.2 38 (by decide)) f476) (rpA_cg (w618.2 0 (by decide)) (w618.2 37 (by decide)) (w618.2 38 (by decide)) f477) (rzA_cg (w618.2 0 (by decide)) (w618.2 37 (by decide)) (w618.2 38 (by decide)) f478) Y S (lv_sub hl [1, 2, 3, 0] rfl)
                                                        refine lv_istore (lv' := [(7, .int (iI 0)), (6, .int (iI ((8 * a1) + z457))), (0, .ref h), (1, .int (iI a1)), (4, .int (iI z438)), (5, .int (iI z457))]) X.1 X.2.1 d_M_taken_487 hl (by decide) rfl (fun ls hl => ?_)
                                                        exact J479 _ 0 I445 J445 B469 G445 _ _ _ rfl (by omega) (by omega) (akA_cg (w469.2 118 (by decide)) (w469.2 119 (by decide)) (w469.2 120 (by decide)) (akA_cg (w467.2 118 (by decide)) (w467.2 119 (by decide)) (w467.2 120 (by decide)) f446)) (stA_cg (w469.2 110 (by decide)) (w469.2 118 (by decide)) (w469.2 119 (by decide)) (w469.2 120 (by decide)) (stA_cg (w467.2 110 (by decide)) (w467.2 118 (by decide)) (w467.2 119 (by decide)) (w467.2 120 (by decide)) f447)) (stX_cg (w469.2 97 (by decide)) (w469.2 98 (by decide)) (w469.2 100 (by decide)) (w469.2 107 (by decide)) (w469.2 108 (by decide)) (w469.2 109 (by decide)) f468) (pG1_cg rfl rfl (pG1_cg rfl rfl f449)) (pG2_cg (w469.2 37 (by decide)) (w469.2 38 (by decide)) (pG2_cg (w467.2 37 (by decide)) (w467.2 38 (by decide)) f450)) (rpA_cg (w469.2 0 (by decide)) (w469.2 37 (by decide)) (w469.2 38 (by decide)) (rpA_cg (w467.2 0 (by decide)) (w467.2 37 (by decide)) (w467.2 38 (by decide)) f451)) (rzA_cg (w469.2 0 (by decide)) (w469.2 37 (by decide)) (w469.2 38 (by decide)) (rzA_cg (w467.2 0 (by decide)) (w467.2 37 (by decide)) (w467.2 38 (by decide)) f452)) Y S (lv_sub hl [2, 5, 1, 0] rfl)
                                                    · refine lv_bipush (v := iI (-2)) X.1 X.2.1 d_M_taken_457 (by decide) ?_
                                                      exact m_reti hQQ X Y hr hlk ⟨S, (-2), rfl, ⟨by omega, by omega, f449, f450, f448, f447⟩⟩ d_M_taken_459
                                                refine z_icmp_ge (tgt := 450) X.1 X.2.1 d_M_taken_426 (by decide) ⟨by omega, by omega⟩ ⟨by decide, by decide⟩ (fun h619 => ?_) (fun h619 => ?_)
                                                · exact J462  _ _ _  Y S (lv_sub hl [0, 1, 2, 3] rfl)
                                                · refine lv_aload_n X.1 X.2.1 d_M_taken_429 rfl (lv_at hl 0 rfl) ?_
                                                  refine m_get X Y 97 (by decide) lk_isTicket (gf_isTicket _ _ _) rfl d_M_taken_430 ?_
                                                  refine lv_bipush (v := iI 8) X.1 X.2.1 d_M_taken_433 (by decide) ?_
                                                  refine lv_iload_n X.1 X.2.1 d_M_taken_435 rfl (lv_at hl 1 rfl) ?_
                                                  refine z_imul X.1 X.2.1 d_M_taken_436 ?_
                                                  refine lv_iload X.1 X.2.1 d_M_taken_437 (lv_at hl 3 rfl) ?_
                                                  refine z_iadd X.1 X.2.1 d_M_taken_439 ?_
                                                  refine r_zald X Y S (aw_isTicket _ _ _ _ _ _ _) rfl (by omega) (show (8 * a1) + z457 < ((32 : Nat) : Int) by omega) (by omega) d_M_taken_440 (fun z620 q620 l620 u620 => ?_)
                                                  refine z_if_eq (tgt := 450) X.1 X.2.1 d_M_taken_441 (by decide) ⟨by omega, by omega⟩ (fun h621 => ?_) (fun h621 => ?_)
                                                  · exact J462  _ _ _  Y S (lv_sub hl [0, 1, 2, 3] rfl)
                                                  · refine lv_iinc (v := iI (z457 + 1)) (lv' := [(5, .int (iI (z457 + 1))), (0, .ref h), (1, .int (iI a1)), (4, .int (iI z438))]) X.1 X.2.1 d_M_taken_444 hl (k := 3) rfl ((iI_add _ _).trans (congrArg iI (by omega))) (by decide) rfl (fun ls hl => ?_)
                                                    refine lv_goto (tgt := 422) X.1 X.2.1 d_M_taken_447 (by decide) ?_
                                                    exact ih459 ((8 - (z457 + 1)).toNat) (by omega) (z457 + 1) _ _ _ rfl (by omega) (by omega) Y S (lv_sub hl [1, 2, 3, 0] rfl)
                                          refine lv_istore (lv' := [(5, .int (iI 0)), (0, .ref h), (1, .int (iI a1)), (4, .int (iI z438))]) X.1 X.2.1 d_M_taken_420 hl (by decide) rfl (fun ls hl => ?_)
                                          exact J458 _ 0 _ _ _ rfl (by omega) (by omega) Y S (lv_sub hl [1, 2, 3, 0] rfl)
                                      refine z_if_ne (tgt := 419) X.1 X.2.1 d_M_taken_393 (by decide) ⟨by omega, by omega⟩ (fun h622 => ?_) (fun h622 => ?_)
                                      · exact J453 I438 J438 B438 G438 _ _ _ (akA_cg (s438.2.2 118 (by decide)) (s438.2.2 119 (by decide)) (s438.2.2 120 (by decide)) f434) f440 f439 g438_P1 g438_P2 f441 f442 Y S (lv_sub hl [2, 3, 0] rfl)
                                      · as_aux_lemma =>
                                          refine lv_aload_n X.1 X.2.1 d_M_taken_396 rfl (lv_at hl 2 rfl) ?_
                                          refine lv_aload_n X.1 X.2.1 d_M_taken_397 rfl (lv_at hl 2 rfl) ?_
                                          refine lv_iconst (v := iI 4) X.1 X.2.1 d_M_taken_398 (by decide) ?_
                                          refine lv_bipush (v := iI 6) X.1 X.2.1 d_M_taken_399 (by decide) ?_
                                          refine lv_iconst (v := iI 5) X.1 X.2.1 d_M_taken_401 (by decide) ?_
                                          refine r_nl (m_run (As := [.int (iI 4), .int (iI 6), .int (iI 5)]) (rest := [.ref h]) (n := 3) X Y hZ hA hml hl.1 (r_M_startOf l D E h q H.size I438 J438 B438 G438 4 (by decide) (by decide) 6 (by decide) (by decide) 5 (by decide) (by decide) S.1 g438_P1 g438_P2) kl_M_startOf ks_M_startOf kx_M_startOf ki_M_startOf ini_M hd_M_startOf ⟨Nat.le_of_ble_eq_true rfl, Nat.le_of_ble_eq_true rfl⟩ rfl (Nat.le_of_ble_eq_true rfl) d_M_taken_402 ⟨Nat.le_refl _, Nat.le_refl _⟩) X Y hA S (by decide) (by decide) (fun v623 u H locs Y S s623 p623 => ?_)
                                          obtain ⟨I623, J623, B623, G623⟩ := u
                                          dsimp only at Y S s623 p623
                                          have b623 : B438 = B623 := (funext (fun j => s623.2.2 j (by simp))).symm
                                          subst b623
                                          have g623_P1 := p623
                                          refine lv_aload_n X.1 X.2.1 d_M_taken_405 rfl (lv_at hl 2 rfl) ?_
                                          refine lv_iload_n X.1 X.2.1 d_M_taken_406 rfl (lv_at hl 3 rfl) ?_
                                          refine r_nl (m_run (As := [.int (iI a1)]) (rest := [.long v623, .ref h]) (n := 1) X Y hZ hA hml hl.1 (r_M_clockOf l D E h q H.size I623 J623 B438 G623 a1 (by omega) (by omega) S.1) kl_M_clockOf ks_M_clockOf kx_M_clockOf ki_M_clockOf ini_M hd_M_clockOf ⟨Nat.le_of_ble_eq_true rfl, Nat.le_of_ble_eq_true rfl⟩ rfl (Nat.le_of_ble_eq_true rfl) d_M_taken_407 ⟨Nat.le_refl _, Nat.le_refl _⟩) X Y hA S (by decide) (by decide) (fun v624 u H locs Y S s624 p624 => ?_)
                                          obtain ⟨I624, J624, B624, G624⟩ := u
                                          dsimp only at Y S s624 p624
                                          have i624 : I623 = I624 := (funext (fun j => s624.2.1 j (by simp))).symm
                                          subst i624
                                          have b624 : B438 = B624 := (funext (fun j => s624.2.2 j (by simp))).symm
                                          subst b624
                                          refine r_ni (m_run (As := [.long v623, .long v624]) (rest := []) (n := 2) X Y hZ hA hml hl.1 (r_M_isFar l D E h q H.size I623 J624 B438 G624 v623 v624 S.1) kl_M_isFar ks_M_isFar kx_M_isFar ki_M_isFar ini_M hd_M_isFar ⟨Nat.le_of_ble_eq_true rfl, Nat.le_of_ble_eq_true rfl⟩ rfl (Nat.le_of_ble_eq_true rfl) d_M_taken_410 ⟨Nat.le_refl _, Nat.le_refl _⟩) X Y hA S (by decide) (by decide) (fun z625 u H locs Y S s625 p625 => ?_)
                                          obtain ⟨I625, J625, B625, G625⟩ := u
                                          dsimp only at Y S s625 p625
                                          have i625 : I623 = I625 := (funext (fun j => s625.2.1 j (by simp))).symm
                                          subst i625
                                          have b625 : B438 = B625 := (funext (fun j => s625.2.2 j (by simp))).symm
                                          subst b625
                                          obtain ⟨l625, u625⟩ := p625
                                          refine z_if_eq (tgt := 419) X.1 X.2.1 d_M_taken_413 (by decide) ⟨by omega, by omega⟩ (fun h626 => ?_) (fun h626 => ?_)
                                          · exact J453 I623 J625 B438 G625 _ _ _ (akA_cg rfl rfl rfl (akA_cg rfl rfl rfl (akA_cg rfl rfl rfl (akA_cg (s438.2.2 118 (by decide)) (s438.2.2 119 (by decide)) (s438.2.2 120 (by decide)) f434)))) (stA_cg rfl rfl rfl rfl (stA_cg rfl rfl rfl rfl (stA_cg rfl rfl rfl rfl f440))) (stT_cg rfl rfl rfl rfl rfl rfl (stT_cg rfl rfl rfl rfl rfl rfl (stT_cg rfl rfl rfl rfl rfl rfl f439))) (pG1_cg rfl rfl (pG1_cg rfl rfl g623_P1)) (pG2_cg rfl rfl (pG2_cg rfl rfl (pG2_cg rfl rfl g438_P2))) (rpA_cg rfl rfl rfl (rpA_cg rfl rfl rfl (rpA_cg rfl rfl rfl f441))) (rzA_cg rfl rfl rfl (rzA_cg rfl rfl rfl (rzA_cg rfl rfl rfl f442))) Y S (lv_sub hl [2, 3, 0] rfl)
                                          · refine lv_bipush (v := iI (-37)) X.1 X.2.1 d_M_taken_416 (by decide) ?_
                                            exact m_reti hQQ X Y hr hlk ⟨S, (-37), rfl, ⟨by omega, by omega, (pG1_cg rfl rfl (pG1_cg rfl rfl g623_P1)), (pG2_cg rfl rfl (pG2_cg rfl rfl (pG2_cg rfl rfl g438_P2))), (stT_cg rfl rfl rfl rfl rfl rfl (stT_cg rfl rfl rfl rfl rfl rfl (stT_cg rfl rfl rfl rfl rfl rfl f439))), (stA_cg rfl rfl rfl rfl (stA_cg rfl rfl rfl rfl (stA_cg rfl rfl rfl rfl f440)))⟩⟩ d_M_taken_418
                                  · refine lv_bipush (v := iI (-14)) X.1 X.2.1 d_M_taken_384 (by decide) ?_
                                    exact m_reti hQQ X Y hr hlk ⟨S, (-14), rfl, ⟨by omega, by omega, g438_P1, g438_P2, f439, f440⟩⟩ d_M_taken_386
                              · refine lv_bipush (v := iI (-41)) X.1 X.2.1 d_M_taken_364 (by decide) ?_
                                exact m_reti hQQ X Y hr hlk ⟨S, (-41), rfl, ⟨by omega, by omega, g433_P1, g433_P2, (stT_cg (s433.2.2 97 (by decide)) (s433.2.2 98 (by decide)) (s433.2.2 100 (by decide)) (s433.2.2 107 (by decide)) (s433.2.2 108 (by decide)) (s433.2.2 109 (by decide)) (stT_cg rfl rfl rfl rfl rfl rfl f430)), (stA_cg (s433.2.2 110 (by decide)) (s433.2.2 118 (by decide)) (s433.2.2 119 (by decide)) (s433.2.2 120 (by decide)) (stA_cg rfl rfl rfl rfl (stA_cg rfl rfl rfl rfl (stA_cg rfl rfl rfl rfl (stA_cg rfl rfl rfl rfl (stA_cg rfl rfl rfl rfl f422))))))⟩⟩ d_M_taken_366
                      · refine lv_bipush (v := iI (-41)) X.1 X.2.1 d_M_taken_295 (by decide) ?_
                        exact m_reti hQQ X Y hr hlk ⟨S, (-41), rfl, ⟨by omega, by omega, g411_P1, g411_P2, f412, (stA_cg (s411.2.2 110 (by decide)) (s411.2.2 118 (by decide)) (s411.2.2 119 (by decide)) (s411.2.2 120 (by decide)) (stA_cg rfl rfl rfl rfl (stA_cg rfl rfl rfl rfl f405)))⟩⟩ d_M_taken_297
