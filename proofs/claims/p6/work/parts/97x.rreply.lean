set_option maxHeartbeats 40000000 in
set_option maxRecDepth 100000 in
theorem r_M_reply (l : Launch) (D : mD) (E : mE) (h : Nat) (q : Nat → Nat) (sz : Nat) (I : Nat → Int32) (J : Nat → Int64) (B : Nat → Nat → Int32) (G : Nat → Nat → Int64) (a1 : Int) (l_a1 : 0 ≤ a1) (u_a1 : a1 ≤ 20000) (hT : rT I B) (cl : Int) (gcl : I 75 = iI cl) (lcl : 0 ≤ cl) (ucl : cl ≤ 11) (ty : Int) (gty : I 77 = iI ty) (lty : 17 ≤ ty) (uty : ty ≤ 18) (cn : Int) (gcn : I 33 = iI cn) (lcn : 0 ≤ cn) (ucn : cn ≤ 1900000) (aa : Int) (gaa : I 86 = iI aa) (laa : (-1) ≤ aa) (uaa : aa ≤ 30000) (ae : Int) (gae : I 87 = iI ae) (lae : (-1) ≤ ae) (uae : ae ≤ 30000) (ca : Int) (gca : I 88 = iI ca) (lca : (-1) ≤ ca) (uca : ca ≤ 30000) (ce : Int) (gce : I 89 = iI ce) (lce : (-1) ≤ ce) (uce : ce ≤ 30000) (ia : Int) (gia : I 69 = iI ia) (lia : 0 ≤ ia) (uia : ia ≤ 1) (rr ss : Int) (f_P1 : pG1 I) (f_P2 : pG2 (B 37) (B 38)) (f_RR : rrP rr (I 69) (B 37) (B 38)) (f_SS : ssP ss (B 37) (B 38)) (q0 : aa ≤ ae) (q1 : 0 ≤ aa ∨ aa = ae) (q2 : ae - aa ≤ 4200) (q3 : ca ≤ ce) (q4 : 0 ≤ ca ∨ ca = ce) (q5 : ce - ca ≤ 4200) (q6 : a1 ≤ (ae - aa) + (ce - ca) + rr + ss + 720) (q7 : (ae - aa) + (ce - ca) + rr + ss ≤ 8400) (q8 : 0 ≤ ss) : Met l y_M_reply (k_M_reply :: lw_tg) (mR 44 2018) (va_Pc [.ref h, .int (iI a1)] (mPre D E h q (I, J, B, G) sz)) (va_Qv (rPv [3, 8, 14, 18, 29, 33, 36, 39, 40, 42, 80] [0, 1, 5, 6, 7, 9, 10, 11, 12, 13, 15, 16, 17, 19, 20, 21, 22, 23, 24, 34, 35, 37, 38, 56, 59, 90] I B (fun (u : mS) => (∃ V2 : Int, u.1 33 = iI V2 ∧ cn ≤ V2 ∧ V2 ≤ cn + 100) ∧ pG1 u.1 ∧ pG2 (u.2.2.1 37) (u.2.2.1 38) ∧ thF [7] (B 37) (B 38) (u.2.2.1 37) (u.2.2.1 38))) (mPost D E h q (mA E h q sz)) (mA E h q sz)) 0 0 (mA E h q sz) := by
  refine m_enter (by decide) rfl (Nat.le_of_ble_eq_true rfl) (fun p e s m below meth c ls AV QQ H locs hQQ X Y hZ hA hr hlk hml hl => ?_)
  have Y : mH D E (mA E h q sz) s.heap h q I J B G H locs := Y
  have S : rS [3, 8, 14, 18, 29, 33, 36, 39, 40, 42, 80] [0, 1, 5, 6, 7, 9, 10, 11, 12, 13, 15, 16, 17, 19, 20, 21, 22, 23, 24, 34, 35, 37, 38, 56, 59, 90] I B I B := rS_rf hT
  have hl : lv_has ls 9 [(0, .ref h), (1, .int (iI a1))] := hl
  have rr9 := f_RR.2
  refine lv_aload_n X.1 X.2.1 d_M_reply_0 rfl (lv_at hl 0 rfl) ?_
  refine r_nv (m_run (As := []) (rest := []) (n := 0) X Y hZ hA hml hl.1 (r_M_start l D E h q H.size I J B G S.1) kl_M_start ks_M_start kx_M_start ki_M_start ini_M hd_M_start ⟨Nat.le_of_ble_eq_true rfl, Nat.le_of_ble_eq_true rfl⟩ rfl (Nat.le_of_ble_eq_true rfl) d_M_reply_1 ⟨Nat.le_refl _, Nat.le_refl _⟩) X Y hA S (by decide) (by decide) (fun u H locs Y S s101 p101 => ?_)
  obtain ⟨I101, J101, B101, G101⟩ := u
  dsimp only at Y S s101 p101
  have b101 : B = B101 := (funext (fun j => s101.2.2 j (by simp))).symm
  subst b101
  have x101 := p101
  refine lv_aload_n X.1 X.2.1 d_M_reply_4 rfl (lv_at hl 0 rfl) ?_
  refine r_geti (k := 85) X Y S (by decide) lk_hasAddress (gf_hasAddress _ _ _) rfl rfl d_M_reply_5 (fun z102 e102 l102 u102 => ?_)
  have J120 : ∀ (z117 : Int) (I103 : Nat → Int32) (J103 : Nat → Int64) (B103 : Nat → Nat → Int32) (G103 : Nat → Nat → Int64) (H : Heap) (locs : List Loc) (ls : Array Slot), (pG1 I103) → (pG2 (B103 37) (B103 38)) → (rrP rr (I103 69) (B103 37) (B103 38)) → (ssP ss (B103 37) (B103 38)) → (thF [7] (B 37) (B 38) (B103 37) (B103 38)) → (I103 69 = iI ia) → (I103 86 = iI aa) → (I103 87 = iI ae) → (I103 88 = iI ca) → (I103 89 = iI ce) → (I103 77 = iI ty) → (I103 75 = iI cl) → (I103 33 = iI cn) → (I103 42 = iI z117) → (0 ≤ z117) → (z117 ≤ 60000) → (60000 - ((ae - aa) + 4) ≤ z117) → (z117 ≤ 60000) → mH D E (mA E h q sz) s.heap h q I103 J103 B103 G103 H locs → rS [3, 8, 14, 18, 29, 33, 36, 39, 40, 42, 80] [0, 1, 5, 6, 7, 9, 10, 11, 12, 13, 15, 16, 17, 19, 20, 21, 22, 23, 24, 34, 35, 37, 38, 56, 59, 90] I B I103 B103 → lv_has ls 9 [(0, .ref h), (1, .int (iI a1))] → W p l e (mR 44 2018) s m AV below meth c H locs 0 0 QQ (F0 m 25 ls []) := by
    as_aux_lemma =>
      intro z117 I103 J103 B103 G103 H locs ls f104 f105 f106 f107 f108 e109 e110 e111 e112 e113 e114 e115 e116 e117 l117 u117 i118 i119 Y S hl
      refine lv_aload_n X.1 X.2.1 d_M_reply_25 rfl (lv_at hl 0 rfl) ?_
      refine lv_bipush (v := iI 10) X.1 X.2.1 d_M_reply_26 (by decide) ?_
      refine lv_aload_n X.1 X.2.1 d_M_reply_28 rfl (lv_at hl 0 rfl) ?_
      refine lv_iconst (v := iI 1) X.1 X.2.1 d_M_reply_29 (by decide) ?_
      refine lv_iconst (v := iI 3) X.1 X.2.1 d_M_reply_30 (by decide) ?_
      refine r_ni (m_run (As := [.int (iI 1), .int (iI 3)]) (rest := [.int (iI 10), .ref h]) (n := 2) X Y hZ hA hml hl.1 (r_M_a l D E h q H.size I103 J103 B103 G103 1 (by decide) (by decide) 3 (by decide) (by decide) S.1) kl_M_a ks_M_a kx_M_a ki_M_a ini_M hd_M_a ⟨Nat.le_of_ble_eq_true rfl, Nat.le_of_ble_eq_true rfl⟩ rfl (Nat.le_of_ble_eq_true rfl) d_M_reply_31 ⟨Nat.le_refl _, Nat.le_refl _⟩) X Y hA S (by decide) (by decide) (fun z124 u H locs Y S s124 p124 => ?_)
      obtain ⟨I124, J124, B124, G124⟩ := u
      dsimp only at Y S s124 p124
      have i124 : I103 = I124 := (funext (fun j => s124.2.1 j (by simp))).symm
      subst i124
      have b124 : B103 = B124 := (funext (fun j => s124.2.2 j (by simp))).symm
      subst b124
      obtain ⟨l124, u124, x124⟩ := p124
      refine lv_aload_n X.1 X.2.1 d_M_reply_34 rfl (lv_at hl 0 rfl) ?_
      refine lv_iconst (v := iI 1) X.1 X.2.1 d_M_reply_35 (by decide) ?_
      refine lv_iconst (v := iI 3) X.1 X.2.1 d_M_reply_36 (by decide) ?_
      refine r_ni (m_run (As := [.int (iI 1), .int (iI 3)]) (rest := [.int (iI z124), .int (iI 10), .ref h]) (n := 2) X Y hZ hA hml hl.1 (r_M_b l D E h q H.size I103 J124 B103 G124 1 (by decide) (by decide) 3 (by decide) (by decide) S.1) kl_M_b ks_M_b kx_M_b ki_M_b ini_M hd_M_b ⟨Nat.le_of_ble_eq_true rfl, Nat.le_of_ble_eq_true rfl⟩ rfl (Nat.le_of_ble_eq_true rfl) d_M_reply_37 ⟨Nat.le_refl _, Nat.le_refl _⟩) X Y hA S (by decide) (by decide) (fun z125 u H locs Y S s125 p125 => ?_)
      obtain ⟨I125, J125, B125, G125⟩ := u
      dsimp only at Y S s125 p125
      have i125 : I103 = I125 := (funext (fun j => s125.2.1 j (by simp))).symm
      subst i125
      have b125 : B103 = B125 := (funext (fun j => s125.2.2 j (by simp))).symm
      subst b125
      obtain ⟨l125, u125, x125⟩ := p125
      have p126 : pr z124 z125 := by rw [x124, x125]; exact (pG2_cg rfl rfl (pG2_cg rfl rfl f105)) (16 * 1 + 3 : Int).toNat (by omega)
      unfold pr at p126
      have s9 : ss = _ := (ssP_cg rfl rfl (ssP_cg rfl rfl f107))
      refine r_nv (m_run (As := [.int (iI 10), .int (iI z124), .int (iI z125)]) (rest := []) (n := 3) X Y hZ hA hml hl.1 (r_M_copyField l D E h q H.size I103 J125 B103 G125 10 (by decide) (by decide) z124 (by omega) (by omega) z125 (by omega) (by omega) S.1 z117 e117 (by omega) (by omega) (by omega) (by omega) (by omega) (by omega)) kl_M_copyField ks_M_copyField kx_M_copyField ki_M_copyField ini_M hd_M_copyField ⟨Nat.le_of_ble_eq_true rfl, Nat.le_of_ble_eq_true rfl⟩ rfl (Nat.le_of_ble_eq_true rfl) d_M_reply_40 ⟨Nat.le_refl _, Nat.le_refl _⟩) X Y hA S (by decide) (by decide) (fun u H locs Y S s127 p127 => ?_)
      obtain ⟨I127, J127, B127, G127⟩ := u
      dsimp only at Y S s127 p127
      obtain ⟨x127, g127_MF⟩ := p127
      obtain ⟨z128, e128, l128, u128⟩ := x127
      refine lv_aload_n X.1 X.2.1 d_M_reply_43 rfl (lv_at hl 0 rfl) ?_
      refine lv_bipush (v := iI 9) X.1 X.2.1 d_M_reply_44 (by decide) ?_
      refine m_ldcSW (i := 2) X (by decide) (by decide) d_M_reply_46 ?_
      refine r_nv (m_run (As := [.int (iI 9), .ref ((D.2.1 2))]) (rest := []) (n := 2) X Y hZ hA hml hl.1 (r_M_wordField l D E h q H.size I127 J127 B127 G127 9 (by decide) (by decide) 2 (show 2 < nZ by decide) S.1 z128 e128 (by omega) (by omega)) kl_M_wordField ks_M_wordField kx_M_wordField ki_M_wordField ini_M hd_M_wordField ⟨Nat.le_of_ble_eq_true rfl, Nat.le_of_ble_eq_true rfl⟩ rfl (Nat.le_of_ble_eq_true rfl) d_M_reply_49 ⟨Nat.le_refl _, Nat.le_refl _⟩) X Y hA S (by decide) (by decide) (fun u H locs Y S s129 p129 => ?_)
      obtain ⟨I129, J129, B129, G129⟩ := u
      dsimp only at Y S s129 p129
      obtain ⟨x129, g129_MF⟩ := p129
      obtain ⟨z130, e130, l130, u130⟩ := x129
      refine lv_aload_n X.1 X.2.1 d_M_reply_52 rfl (lv_at hl 0 rfl) ?_
      refine r_geti (k := 84) X Y S (by decide) lk_hasRenew (gf_hasRenew _ _ _) rfl rfl d_M_reply_53 (fun z131 e131 l131 u131 => ?_)
      have J149 : ∀ (z146 : Int) (I132 : Nat → Int32) (J132 : Nat → Int64) (B132 : Nat → Nat → Int32) (G132 : Nat → Nat → Int64) (H : Heap) (locs : List Loc) (ls : Array Slot), (pG1 I132) → (pG2 (B132 37) (B132 38)) → (rrP rr (I132 69) (B132 37) (B132 38)) → (ssP ss (B132 37) (B132 38)) → (thF [7] (B 37) (B 38) (B132 37) (B132 38)) → (I132 69 = iI ia) → (I132 86 = iI aa) → (I132 87 = iI ae) → (I132 88 = iI ca) → (I132 89 = iI ce) → (I132 77 = iI ty) → (I132 75 = iI cl) → (I132 33 = iI cn) → (I132 42 = iI z146) → (0 ≤ z146) → (z146 ≤ 60000) → (60000 - ((ae - aa) + ss + 112) ≤ z146) → (z146 ≤ 60000) → mH D E (mA E h q sz) s.heap h q I132 J132 B132 G132 H locs → rS [3, 8, 14, 18, 29, 33, 36, 39, 40, 42, 80] [0, 1, 5, 6, 7, 9, 10, 11, 12, 13, 15, 16, 17, 19, 20, 21, 22, 23, 24, 34, 35, 37, 38, 56, 59, 90] I B I132 B132 → lv_has ls 9 [(0, .ref h), (1, .int (iI a1))] → W p l e (mR 44 2018) s m AV below meth c H locs 0 0 QQ (F0 m 69 ls []) := by
        as_aux_lemma =>
          intro z146 I132 J132 B132 G132 H locs ls f133 f134 f135 f136 f137 e138 e139 e140 e141 e142 e143 e144 e145 e146 l146 u146 i147 i148 Y S hl
          refine lv_aload_n X.1 X.2.1 d_M_reply_69 rfl (lv_at hl 0 rfl) ?_
          refine lv_bipush (v := iI 7) X.1 X.2.1 d_M_reply_70 (by decide) ?_
          refine lv_aload_n X.1 X.2.1 d_M_reply_72 rfl (lv_at hl 0 rfl) ?_
          refine m_get X Y 82 (by decide) lk_newEnd (gf_newEnd _ _ _) rfl d_M_reply_73 ?_
          refine r_nv (m_run (As := [.int (iI 7), .long ((J132 82))]) (rest := []) (n := 2) X Y hZ hA hml hl.1 (r_M_timeField l D E h q H.size I132 J132 B132 G132 7 (by decide) (by decide) ((J132 82)) S.1 z146 e146 (by omega) (by omega)) kl_M_timeField ks_M_timeField kx_M_timeField ki_M_timeField ini_M hd_M_timeField ⟨Nat.le_of_ble_eq_true rfl, Nat.le_of_ble_eq_true rfl⟩ rfl (Nat.le_of_ble_eq_true rfl) d_M_reply_76 ⟨Nat.le_refl _, Nat.le_refl _⟩) X Y hA S (by decide) (by decide) (fun u H locs Y S s153 p153 => ?_)
          obtain ⟨I153, J153, B153, G153⟩ := u
          dsimp only at Y S s153 p153
          obtain ⟨x153, g153_MF⟩ := p153
          obtain ⟨z154, e154, l154, u154⟩ := x153
          refine lv_aload_n X.1 X.2.1 d_M_reply_79 rfl (lv_at hl 0 rfl) ?_
          refine lv_bipush (v := iI 6) X.1 X.2.1 d_M_reply_80 (by decide) ?_
          refine lv_aload_n X.1 X.2.1 d_M_reply_82 rfl (lv_at hl 0 rfl) ?_
          refine r_geti (k := 4) X Y S (by decide) lk_now (gf_now _ _ _) rfl rfl d_M_reply_83 (fun z155 e155 l155 u155 => ?_)
          refine lv_i2l X.1 X.2.1 d_M_reply_86 rfl ?_
          refine t_anyl (fun v156 => ?_)
          refine r_nv (m_run (As := [.int (iI 6), .long v156]) (rest := []) (n := 2) X Y hZ hA hml hl.1 (r_M_timeField l D E h q H.size I153 J153 B153 G153 6 (by decide) (by decide) v156 S.1 z154 e154 (by omega) (by omega)) kl_M_timeField ks_M_timeField kx_M_timeField ki_M_timeField ini_M hd_M_timeField ⟨Nat.le_of_ble_eq_true rfl, Nat.le_of_ble_eq_true rfl⟩ rfl (Nat.le_of_ble_eq_true rfl) d_M_reply_87 ⟨Nat.le_refl _, Nat.le_refl _⟩) X Y hA S (by decide) (by decide) (fun u H locs Y S s157 p157 => ?_)
          obtain ⟨I157, J157, B157, G157⟩ := u
          dsimp only at Y S s157 p157
          obtain ⟨x157, g157_MF⟩ := p157
          obtain ⟨z158, e158, l158, u158⟩ := x157
          refine lv_aload_n X.1 X.2.1 d_M_reply_90 rfl (lv_at hl 0 rfl) ?_
          refine lv_iconst (v := iI 5) X.1 X.2.1 d_M_reply_91 (by decide) ?_
          refine lv_aload_n X.1 X.2.1 d_M_reply_92 rfl (lv_at hl 0 rfl) ?_
          refine r_get0 X Y (by decide) lk_isAs (gf_isAs _ _ _) rfl ((s157.2.1 69 (by decide)).trans ((s153.2.1 69 (by decide)).trans e138)) d_M_reply_93 ?_
          have J178 : ∀ (v160 : Int64) (z175 : Int) (I159 : Nat → Int32) (J159 : Nat → Int64) (B159 : Nat → Nat → Int32) (G159 : Nat → Nat → Int64) (H : Heap) (locs : List Loc) (ls : Array Slot), (pG1 I159) → (pG2 (B159 37) (B159 38)) → (rrP rr (I159 69) (B159 37) (B159 38)) → (ssP ss (B159 37) (B159 38)) → (thF [7] (B 37) (B 38) (B159 37) (B159 38)) → (I159 69 = iI ia) → (I159 86 = iI aa) → (I159 87 = iI ae) → (I159 88 = iI ca) → (I159 89 = iI ce) → (I159 77 = iI ty) → (I159 75 = iI cl) → (I159 42 = iI z158) → (I159 33 = iI cn) → (I159 42 = iI z175) → (0 ≤ z175) → (z175 ≤ 60000) → (60000 - ((ae - aa) + ss + 160) ≤ z175) → (z175 ≤ 60000) → mH D E (mA E h q sz) s.heap h q I159 J159 B159 G159 H locs → rS [3, 8, 14, 18, 29, 33, 36, 39, 40, 42, 80] [0, 1, 5, 6, 7, 9, 10, 11, 12, 13, 15, 16, 17, 19, 20, 21, 22, 23, 24, 34, 35, 37, 38, 56, 59, 90] I B I159 B159 → lv_has ls 9 [(0, .ref h), (1, .int (iI a1))] → W p l e (mR 44 2018) s m AV below meth c H locs 0 0 QQ (F0 m 113 ls [.long v160, .int (iI 5), .ref h]) := by
            as_aux_lemma =>
              intro v160 z175 I159 J159 B159 G159 H locs ls f161 f162 f163 f164 f165 e166 e167 e168 e169 e170 e171 e172 e173 e174 e175 l175 u175 i176 i177 Y S hl
              refine r_nv (m_run (As := [.int (iI 5), .long v160]) (rest := []) (n := 2) X Y hZ hA hml hl.1 (r_M_timeField l D E h q H.size I159 J159 B159 G159 5 (by decide) (by decide) v160 S.1 z175 e175 (by omega) (by omega)) kl_M_timeField ks_M_timeField kx_M_timeField ki_M_timeField ini_M hd_M_timeField ⟨Nat.le_of_ble_eq_true rfl, Nat.le_of_ble_eq_true rfl⟩ rfl (Nat.le_of_ble_eq_true rfl) d_M_reply_113 ⟨Nat.le_refl _, Nat.le_refl _⟩) X Y hA S (by decide) (by decide) (fun u H locs Y S s182 p182 => ?_)
              obtain ⟨I182, J182, B182, G182⟩ := u
              dsimp only at Y S s182 p182
              obtain ⟨x182, g182_MF⟩ := p182
              obtain ⟨z183, e183, l183, u183⟩ := x182
              refine lv_aload_n X.1 X.2.1 d_M_reply_116 rfl (lv_at hl 0 rfl) ?_
              refine lv_iconst (v := iI 4) X.1 X.2.1 d_M_reply_117 (by decide) ?_
              refine lv_aload_n X.1 X.2.1 d_M_reply_118 rfl (lv_at hl 0 rfl) ?_
              refine r_geti (k := 81) X Y S (by decide) lk_newFlags (gf_newFlags _ _ _) rfl rfl d_M_reply_119 (fun z184 e184 l184 u184 => ?_)
              refine r_nv (m_run (As := [.int (iI 4), .int (iI z184)]) (rest := []) (n := 2) X Y hZ hA hml hl.1 (r_M_flagsField l D E h q H.size I182 J182 B182 G182 4 (by decide) (by decide) z184 (by omega) (by omega) S.1 z183 e183 (by omega) (by omega)) kl_M_flagsField ks_M_flagsField kx_M_flagsField ki_M_flagsField ini_M hd_M_flagsField ⟨Nat.le_of_ble_eq_true rfl, Nat.le_of_ble_eq_true rfl⟩ rfl (Nat.le_of_ble_eq_true rfl) d_M_reply_122 ⟨Nat.le_refl _, Nat.le_refl _⟩) X Y hA S (by decide) (by decide) (fun u H locs Y S s185 p185 => ?_)
              obtain ⟨I185, J185, B185, G185⟩ := u
              dsimp only at Y S s185 p185
              obtain ⟨x185, g185_MF⟩ := p185
              obtain ⟨z186, e186, l186, u186⟩ := x185
              refine lv_aload_n X.1 X.2.1 d_M_reply_125 rfl (lv_at hl 0 rfl) ?_
              refine lv_iconst (v := iI 2) X.1 X.2.1 d_M_reply_126 (by decide) ?_
              refine lv_aload_n X.1 X.2.1 d_M_reply_127 rfl (lv_at hl 0 rfl) ?_
              refine lv_iconst (v := iI 1) X.1 X.2.1 d_M_reply_128 (by decide) ?_
              refine lv_bipush (v := iI 7) X.1 X.2.1 d_M_reply_129 (by decide) ?_
              refine r_nl (m_run (As := [.int (iI 1), .int (iI 7)]) (rest := [.int (iI 2), .ref h]) (n := 2) X Y hZ hA hml hl.1 (r_M_numberAt l D E h q H.size I185 J185 B185 G185 1 (by decide) (by decide) 7 (by decide) (by decide) S.1 (pG1_cg (s185.2.1 39 (by decide)) (s185.2.1 40 (by decide)) (pG1_cg (s182.2.1 39 (by decide)) (s182.2.1 40 (by decide)) f161)) (pG2_cg (s185.2.2 37 (by decide)) (s185.2.2 38 (by decide)) (pG2_cg (s182.2.2 37 (by decide)) (s182.2.2 38 (by decide)) f162))) kl_M_numberAt ks_M_numberAt kx_M_numberAt ki_M_numberAt ini_M hd_M_numberAt ⟨Nat.le_of_ble_eq_true rfl, Nat.le_of_ble_eq_true rfl⟩ rfl (Nat.le_of_ble_eq_true rfl) d_M_reply_131 ⟨Nat.le_refl _, Nat.le_refl _⟩) X Y hA S (by decide) (by decide) (fun v187 u H locs Y S s187 p187 => ?_)
              obtain ⟨I187, J187, B187, G187⟩ := u
              dsimp only at Y S s187 p187
              have b187 : B185 = B187 := (funext (fun j => s187.2.2 j (by simp))).symm
              subst b187
              have g187_P1 := p187
              refine r_nv (m_run (As := [.int (iI 2), .long v187]) (rest := []) (n := 2) X Y hZ hA hml hl.1 (r_M_numberField l D E h q H.size I187 J187 B185 G187 2 (by decide) (by decide) v187 S.1 z186 ((s187.2.1 42 (by decide)).trans e186) (by omega) (by omega)) kl_M_numberField ks_M_numberField kx_M_numberField ki_M_numberField ini_M hd_M_numberField ⟨Nat.le_of_ble_eq_true rfl, Nat.le_of_ble_eq_true rfl⟩ rfl (Nat.le_of_ble_eq_true rfl) d_M_reply_134 ⟨Nat.le_refl _, Nat.le_refl _⟩) X Y hA S (by decide) (by decide) (fun u H locs Y S s188 p188 => ?_)
              obtain ⟨I188, J188, B188, G188⟩ := u
              dsimp only at Y S s188 p188
              have f189 : rrP rr (I188 69) (B188 37) (B188 38) := (rrP_cg (s188.2.1 69 (by decide)) (s188.2.2 37 (by decide)) (s188.2.2 38 (by decide)) (rrP_cg (s187.2.1 69 (by decide)) rfl rfl (rrP_cg (s185.2.1 69 (by decide)) (s185.2.2 37 (by decide)) (s185.2.2 38 (by decide)) (rrP_cg (s182.2.1 69 (by decide)) (s182.2.2 37 (by decide)) (s182.2.2 38 (by decide)) f163))))
              obtain ⟨x188, g188_MF⟩ := p188
              obtain ⟨z190, e190, l190, u190⟩ := x188
              refine lv_aload_n X.1 X.2.1 d_M_reply_137 rfl (lv_at hl 0 rfl) ?_
              refine r_get0 X Y (by decide) lk_w0 (gf_w0 _ _ _) rfl e190 d_M_reply_138 ?_
              refine lv_istore_n (lv' := [(2, .int (iI z190)), (0, .ref h), (1, .int (iI a1))]) X.1 X.2.1 d_M_reply_141 rfl hl (by decide) rfl (fun ls hl => ?_)
              refine lv_aload_n X.1 X.2.1 d_M_reply_142 rfl (lv_at hl 1 rfl) ?_
              refine lv_iconst (v := iI 1) X.1 X.2.1 d_M_reply_143 (by decide) ?_
              refine lv_aload_n X.1 X.2.1 d_M_reply_144 rfl (lv_at hl 1 rfl) ?_
              refine r_geti (k := 4) X Y S (by decide) lk_now (gf_now _ _ _) rfl rfl d_M_reply_145 (fun z191 e191 l191 u191 => ?_)
              refine lv_i2l X.1 X.2.1 d_M_reply_148 rfl ?_
              refine t_anyl (fun v192 => ?_)
              refine r_nv (m_run (As := [.int (iI 1), .long v192]) (rest := []) (n := 2) X Y hZ hA hml hl.1 (r_M_timeField l D E h q H.size I188 J188 B188 G188 1 (by decide) (by decide) v192 S.1 z190 e190 (by omega) (by omega)) kl_M_timeField ks_M_timeField kx_M_timeField ki_M_timeField ini_M hd_M_timeField ⟨Nat.le_of_ble_eq_true rfl, Nat.le_of_ble_eq_true rfl⟩ rfl (Nat.le_of_ble_eq_true rfl) d_M_reply_149 ⟨Nat.le_refl _, Nat.le_refl _⟩) X Y hA S (by decide) (by decide) (fun u H locs Y S s193 p193 => ?_)
              obtain ⟨I193, J193, B193, G193⟩ := u
              dsimp only at Y S s193 p193
              have f194 : pG2 (B193 37) (B193 38) := (pG2_cg (s193.2.2 37 (by decide)) (s193.2.2 38 (by decide)) (pG2_cg (s188.2.2 37 (by decide)) (s188.2.2 38 (by decide)) (pG2_cg rfl rfl (pG2_cg (s185.2.2 37 (by decide)) (s185.2.2 38 (by decide)) (pG2_cg (s182.2.2 37 (by decide)) (s182.2.2 38 (by decide)) f162)))))
              have f195 : ssP ss (B193 37) (B193 38) := (ssP_cg (s193.2.2 37 (by decide)) (s193.2.2 38 (by decide)) (ssP_cg (s188.2.2 37 (by decide)) (s188.2.2 38 (by decide)) (ssP_cg rfl rfl (ssP_cg (s185.2.2 37 (by decide)) (s185.2.2 38 (by decide)) (ssP_cg (s182.2.2 37 (by decide)) (s182.2.2 38 (by decide)) f164)))))
              have f196 : thF [7] (B 37) (B 38) (B193 37) (B193 38) := (thF_cg (s193.2.2 37 (by decide)) (s193.2.2 38 (by decide)) (thF_cg (s188.2.2 37 (by decide)) (s188.2.2 38 (by decide)) (thF_cg rfl rfl (thF_cg (s185.2.2 37 (by decide)) (s185.2.2 38 (by decide)) (thF_cg (s182.2.2 37 (by decide)) (s182.2.2 38 (by decide)) f165)))))
              obtain ⟨x193, g193_MF⟩ := p193
              obtain ⟨z197, e197, l197, u197⟩ := x193
              refine lv_aload_n X.1 X.2.1 d_M_reply_152 rfl (lv_at hl 1 rfl) ?_
              refine lv_iconst (v := iI 0) X.1 X.2.1 d_M_reply_153 (by decide) ?_
              refine lv_lconst (v := 0) X.1 X.2.1 d_M_reply_154 rfl ?_
              refine r_nv (m_run (As := [.int (iI 0), .long 0]) (rest := []) (n := 2) X Y hZ hA hml hl.1 (r_M_numberField l D E h q H.size I193 J193 B193 G193 0 (by decide) (by decide) 0 S.1 z197 e197 (by omega) (by omega)) kl_M_numberField ks_M_numberField kx_M_numberField ki_M_numberField ini_M hd_M_numberField ⟨Nat.le_of_ble_eq_true rfl, Nat.le_of_ble_eq_true rfl⟩ rfl (Nat.le_of_ble_eq_true rfl) d_M_reply_155 ⟨Nat.le_refl _, Nat.le_refl _⟩) X Y hA S (by decide) (by decide) (fun u H locs Y S s198 p198 => ?_)
              obtain ⟨I198, J198, B198, G198⟩ := u
              dsimp only at Y S s198 p198
              obtain ⟨x198, g198_MF⟩ := p198
              obtain ⟨z199, e199, l199, u199⟩ := x198
              refine lv_aload_n X.1 X.2.1 d_M_reply_158 rfl (lv_at hl 1 rfl) ?_
              refine lv_bipush (v := iI 48) X.1 X.2.1 d_M_reply_159 (by decide) ?_
              refine lv_iload_n X.1 X.2.1 d_M_reply_161 rfl (lv_at hl 0 rfl) ?_
              refine r_nv (m_run (As := [.int (iI 48), .int (iI z190)]) (rest := []) (n := 2) X Y hZ hA hml hl.1 (r_M_head l D E h q H.size I198 J198 B198 G198 48 (by decide) (by decide) z190 (by omega) (by omega) S.1 z199 e199 (by omega) (by omega)) kl_M_head ks_M_head kx_M_head ki_M_head ini_M hd_M_head ⟨Nat.le_of_ble_eq_true rfl, Nat.le_of_ble_eq_true rfl⟩ rfl (Nat.le_of_ble_eq_true rfl) d_M_reply_162 ⟨Nat.le_refl _, Nat.le_refl _⟩) X Y hA S (by decide) (by decide) (fun u H locs Y S s200 p200 => ?_)
              obtain ⟨I200, J200, B200, G200⟩ := u
              dsimp only at Y S s200 p200
              have f201 : rrP rr (I200 69) (B200 37) (B200 38) := (rrP_cg (s200.2.1 69 (by decide)) (s200.2.2 37 (by decide)) (s200.2.2 38 (by decide)) (rrP_cg (s198.2.1 69 (by decide)) (s198.2.2 37 (by decide)) (s198.2.2 38 (by decide)) (rrP_cg (s193.2.1 69 (by decide)) (s193.2.2 37 (by decide)) (s193.2.2 38 (by decide)) f189)))
              have f202 : pG1 I200 := (pG1_cg (s200.2.1 39 (by decide)) (s200.2.1 40 (by decide)) (pG1_cg (s198.2.1 39 (by decide)) (s198.2.1 40 (by decide)) (pG1_cg (s193.2.1 39 (by decide)) (s193.2.1 40 (by decide)) (pG1_cg (s188.2.1 39 (by decide)) (s188.2.1 40 (by decide)) g187_P1))))
              obtain ⟨x200, g200_MF⟩ := p200
              obtain ⟨z203, e203, l203, u203⟩ := x200
              refine lv_aload_n X.1 X.2.1 d_M_reply_165 rfl (lv_at hl 1 rfl) ?_
              refine lv_bipush (v := iI 48) X.1 X.2.1 d_M_reply_166 (by decide) ?_
              refine lv_iload_n X.1 X.2.1 d_M_reply_168 rfl (lv_at hl 0 rfl) ?_
              refine r_nv (m_run (As := [.int (iI 48), .int (iI z190)]) (rest := []) (n := 2) X Y hZ hA hml hl.1 (r_M_head l D E h q H.size I200 J200 B200 G200 48 (by decide) (by decide) z190 (by omega) (by omega) S.1 z203 e203 (by omega) (by omega)) kl_M_head ks_M_head kx_M_head ki_M_head ini_M hd_M_head ⟨Nat.le_of_ble_eq_true rfl, Nat.le_of_ble_eq_true rfl⟩ rfl (Nat.le_of_ble_eq_true rfl) d_M_reply_169 ⟨Nat.le_refl _, Nat.le_refl _⟩) X Y hA S (by decide) (by decide) (fun u H locs Y S s204 p204 => ?_)
              obtain ⟨I204, J204, B204, G204⟩ := u
              dsimp only at Y S s204 p204
              obtain ⟨x204, g204_MF⟩ := p204
              obtain ⟨z205, e205, l205, u205⟩ := x204
              refine lv_aload_n X.1 X.2.1 d_M_reply_172 rfl (lv_at hl 1 rfl) ?_
              refine lv_iconst (v := iI 1) X.1 X.2.1 d_M_reply_173 (by decide) ?_
              refine lv_iload_n X.1 X.2.1 d_M_reply_174 rfl (lv_at hl 0 rfl) ?_
              refine r_nv (m_run (As := [.int (iI 1), .int (iI z190)]) (rest := []) (n := 2) X Y hZ hA hml hl.1 (r_M_field l D E h q H.size I204 J204 B204 G204 1 (by decide) (by decide) z190 (by omega) (by omega) S.1 z205 e205 (by omega) (by omega)) kl_M_field ks_M_field kx_M_field ki_M_field ini_M hd_M_field ⟨Nat.le_of_ble_eq_true rfl, Nat.le_of_ble_eq_true rfl⟩ rfl (Nat.le_of_ble_eq_true rfl) d_M_reply_175 ⟨Nat.le_refl _, Nat.le_refl _⟩) X Y hA S (by decide) (by decide) (fun u H locs Y S s206 p206 => ?_)
              obtain ⟨I206, J206, B206, G206⟩ := u
              dsimp only at Y S s206 p206
              obtain ⟨x206, g206_MF⟩ := p206
              obtain ⟨z207, e207, l207, u207⟩ := x206
              refine lv_aload_n X.1 X.2.1 d_M_reply_178 rfl (lv_at hl 1 rfl) ?_
              refine lv_iconst (v := iI 0) X.1 X.2.1 d_M_reply_179 (by decide) ?_
              refine lv_aload_n X.1 X.2.1 d_M_reply_180 rfl (lv_at hl 1 rfl) ?_
              refine r_get0 X Y (by decide) lk_type (gf_type _ _ _) rfl ((s206.2.1 77 (by decide)).trans ((s204.2.1 77 (by decide)).trans ((s200.2.1 77 (by decide)).trans ((s198.2.1 77 (by decide)).trans ((s193.2.1 77 (by decide)).trans ((s188.2.1 77 (by decide)).trans ((s187.2.1 77 (by decide)).trans ((s185.2.1 77 (by decide)).trans ((s182.2.1 77 (by decide)).trans e171))))))))) d_M_reply_181 ?_
              refine lv_aload_n X.1 X.2.1 d_M_reply_184 rfl (lv_at hl 1 rfl) ?_
              refine m_get X Y 60 (by decide) lk_fresh (gf_fresh _ _ _) rfl d_M_reply_185 ?_
              refine r_nv (m_run (As := [.int (iI 0), .int (iI ty), .ref ((q 60))]) (rest := []) (n := 3) X Y hZ hA hml hl.1 (r_M_keyField_fresh l D E h q H.size I206 J206 B206 G206 0 (by decide) (by decide) ty (by omega) (by omega) S.1 z207 e207 (by omega) (by omega)) kl_M_keyField ks_M_keyField kx_M_keyField ki_M_keyField ini_M hd_M_keyField ⟨Nat.le_of_ble_eq_true rfl, Nat.le_of_ble_eq_true rfl⟩ rfl (Nat.le_of_ble_eq_true rfl) d_M_reply_188 ⟨Nat.le_refl _, Nat.le_refl _⟩) X Y hA S (by decide) (by decide) (fun u H locs Y S s208 p208 => ?_)
              obtain ⟨I208, J208, B208, G208⟩ := u
              dsimp only at Y S s208 p208
              have f209 : pG2 (B208 37) (B208 38) := (pG2_cg (s208.2.2 37 (by decide)) (s208.2.2 38 (by decide)) (pG2_cg (s206.2.2 37 (by decide)) (s206.2.2 38 (by decide)) (pG2_cg (s204.2.2 37 (by decide)) (s204.2.2 38 (by decide)) (pG2_cg (s200.2.2 37 (by decide)) (s200.2.2 38 (by decide)) (pG2_cg (s198.2.2 37 (by decide)) (s198.2.2 38 (by decide)) f194)))))
              have f210 : rrP rr (I208 69) (B208 37) (B208 38) := (rrP_cg (s208.2.1 69 (by decide)) (s208.2.2 37 (by decide)) (s208.2.2 38 (by decide)) (rrP_cg (s206.2.1 69 (by decide)) (s206.2.2 37 (by decide)) (s206.2.2 38 (by decide)) (rrP_cg (s204.2.1 69 (by decide)) (s204.2.2 37 (by decide)) (s204.2.2 38 (by decide)) f201)))
              have f211 : ssP ss (B208 37) (B208 38) := (ssP_cg (s208.2.2 37 (by decide)) (s208.2.2 38 (by decide)) (ssP_cg (s206.2.2 37 (by decide)) (s206.2.2 38 (by decide)) (ssP_cg (s204.2.2 37 (by decide)) (s204.2.2 38 (by decide)) (ssP_cg (s200.2.2 37 (by decide)) (s200.2.2 38 (by decide)) (ssP_cg (s198.2.2 37 (by decide)) (s198.2.2 38 (by decide)) f195)))))
              have f212 : thF [7] (B 37) (B 38) (B208 37) (B208 38) := (thF_cg (s208.2.2 37 (by decide)) (s208.2.2 38 (by decide)) (thF_cg (s206.2.2 37 (by decide)) (s206.2.2 38 (by decide)) (thF_cg (s204.2.2 37 (by decide)) (s204.2.2 38 (by decide)) (thF_cg (s200.2.2 37 (by decide)) (s200.2.2 38 (by decide)) (thF_cg (s198.2.2 37 (by decide)) (s198.2.2 38 (by decide)) f196)))))
              obtain ⟨x208, g208_MF⟩ := p208
              obtain ⟨z213, e213, l213, u213⟩ := x208
              refine lv_aload_n X.1 X.2.1 d_M_reply_191 rfl (lv_at hl 1 rfl) ?_
              refine lv_bipush (v := iI 48) X.1 X.2.1 d_M_reply_192 (by decide) ?_
              refine lv_ldc (v := (60000)) X.1 X.2.1 X.2.2.2.1 (X.2.2.1 _ cn_M_9) d_M_reply_194 ?_
              refine t_eq (y := iI 60000) (by decide) ?_
              refine r_nv (m_run (As := [.int (iI 48), .int (iI 60000)]) (rest := []) (n := 2) X Y hZ hA hml hl.1 (r_M_head l D E h q H.size I208 J208 B208 G208 48 (by decide) (by decide) 60000 (by decide) (by decide) S.1 z213 e213 (by omega) (by omega)) kl_M_head ks_M_head kx_M_head ki_M_head ini_M hd_M_head ⟨Nat.le_of_ble_eq_true rfl, Nat.le_of_ble_eq_true rfl⟩ rfl (Nat.le_of_ble_eq_true rfl) d_M_reply_196 ⟨Nat.le_refl _, Nat.le_refl _⟩) X Y hA S (by decide) (by decide) (fun u H locs Y S s214 p214 => ?_)
              obtain ⟨I214, J214, B214, G214⟩ := u
              dsimp only at Y S s214 p214
              obtain ⟨x214, g214_MF⟩ := p214
              obtain ⟨z215, e215, l215, u215⟩ := x214
              refine lv_aload_n X.1 X.2.1 d_M_reply_199 rfl (lv_at hl 1 rfl) ?_
              refine lv_aload_n X.1 X.2.1 d_M_reply_200 rfl (lv_at hl 1 rfl) ?_
              refine r_get0 X Y (by decide) lk_isAs (gf_isAs _ _ _) rfl ((s214.2.1 69 (by decide)).trans ((s208.2.1 69 (by decide)).trans ((s206.2.1 69 (by decide)).trans ((s204.2.1 69 (by decide)).trans ((s200.2.1 69 (by decide)).trans ((s198.2.1 69 (by decide)).trans ((s193.2.1 69 (by decide)).trans ((s188.2.1 69 (by decide)).trans ((s187.2.1 69 (by decide)).trans ((s185.2.1 69 (by decide)).trans ((s182.2.1 69 (by decide)).trans e166))))))))))) d_M_reply_201 ?_
              have J219 : ∀ (z216 : Int) (H : Heap) (locs : List Loc) (ls : Array Slot), (121 ≤ z216) → (z216 ≤ 122) → (60000 - ((ae - aa) + ss + 341) ≤ z215) → (z215 ≤ 60000) → mH D E (mA E h q sz) s.heap h q I214 J214 B214 G214 H locs → rS [3, 8, 14, 18, 29, 33, 36, 39, 40, 42, 80] [0, 1, 5, 6, 7, 9, 10, 11, 12, 13, 15, 16, 17, 19, 20, 21, 22, 23, 24, 34, 35, 37, 38, 56, 59, 90] I B I214 B214 → lv_has ls 9 [(0, .ref h), (1, .int (iI a1))] → W p l e (mR 44 2018) s m AV below meth c H locs 0 0 QQ (F0 m 214 ls [.int (iI z216), .ref h]) := by
                as_aux_lemma =>
                  intro z216 H locs ls l216 u216 i217 i218 Y S hl
                  refine lv_ldc (v := (60000)) X.1 X.2.1 X.2.2.2.1 (X.2.2.1 _ cn_M_9) d_M_reply_214 ?_
                  refine t_eq (y := iI 60000) (by decide) ?_
                  refine r_nv (m_run (As := [.int (iI z216), .int (iI 60000)]) (rest := []) (n := 2) X Y hZ hA hml hl.1 (r_M_head l D E h q H.size I214 J214 B214 G214 z216 (by omega) (by omega) 60000 (by decide) (by decide) S.1 z215 e215 (by omega) (by omega)) kl_M_head ks_M_head kx_M_head ki_M_head ini_M hd_M_head ⟨Nat.le_of_ble_eq_true rfl, Nat.le_of_ble_eq_true rfl⟩ rfl (Nat.le_of_ble_eq_true rfl) d_M_reply_216 ⟨Nat.le_refl _, Nat.le_refl _⟩) X Y hA S (by decide) (by decide) (fun u H locs Y S s223 p223 => ?_)
                  obtain ⟨I223, J223, B223, G223⟩ := u
                  dsimp only at Y S s223 p223
                  have f224 : pG1 I223 := (pG1_cg (s223.2.1 39 (by decide)) (s223.2.1 40 (by decide)) (pG1_cg (s214.2.1 39 (by decide)) (s214.2.1 40 (by decide)) (pG1_cg (s208.2.1 39 (by decide)) (s208.2.1 40 (by decide)) (pG1_cg (s206.2.1 39 (by decide)) (s206.2.1 40 (by decide)) (pG1_cg (s204.2.1 39 (by decide)) (s204.2.1 40 (by decide)) f202)))))
                  obtain ⟨x223, g223_MF⟩ := p223
                  obtain ⟨z225, e225, l225, u225⟩ := x223
                  refine lv_lconst (v := 0) X.1 X.2.1 d_M_reply_219 rfl ?_
                  refine lv_lstore (lv' := [(4, .long 0), (0, .ref h), (1, .int (iI a1))]) X.1 X.2.1 d_M_reply_220 hl (by decide) rfl (fun ls hl => ?_)
                  refine lv_aload_n X.1 X.2.1 d_M_reply_222 rfl (lv_at hl 1 rfl) ?_
                  refine r_get0 X Y (by decide) lk_isAs (gf_isAs _ _ _) rfl ((s223.2.1 69 (by decide)).trans ((s214.2.1 69 (by decide)).trans ((s208.2.1 69 (by decide)).trans ((s206.2.1 69 (by decide)).trans ((s204.2.1 69 (by decide)).trans ((s200.2.1 69 (by decide)).trans ((s198.2.1 69 (by decide)).trans ((s193.2.1 69 (by decide)).trans ((s188.2.1 69 (by decide)).trans ((s187.2.1 69 (by decide)).trans ((s185.2.1 69 (by decide)).trans ((s182.2.1 69 (by decide)).trans e166)))))))))))) d_M_reply_223 ?_
                  have J244 : ∀ (z227 : Int) (v228 : Int64) (z229 : Int) (I226 : Nat → Int32) (J226 : Nat → Int64) (B226 : Nat → Nat → Int32) (G226 : Nat → Nat → Int64) (H : Heap) (locs : List Loc) (ls : Array Slot), ((-2147483648) ≤ z227) → (z227 ≤ 2147483647) → (3 ≤ z229) → (z229 ≤ 9) → (pG1 I226) → (pG2 (B226 37) (B226 38)) → (rrP rr (I226 69) (B226 37) (B226 38)) → (ssP ss (B226 37) (B226 38)) → (thF [7] (B 37) (B 38) (B226 37) (B226 38)) → (I226 69 = iI ia) → (I226 86 = iI aa) → (I226 87 = iI ae) → (I226 88 = iI ca) → (I226 89 = iI ce) → (I226 77 = iI ty) → (I226 75 = iI cl) → (I226 42 = iI z225) → (I226 33 = iI cn) → mH D E (mA E h q sz) s.heap h q I226 J226 B226 G226 H locs → rS [3, 8, 14, 18, 29, 33, 36, 39, 40, 42, 80] [0, 1, 5, 6, 7, 9, 10, 11, 12, 13, 15, 16, 17, 19, 20, 21, 22, 23, 24, 34, 35, 37, 38, 56, 59, 90] I B I226 B226 → lv_has ls 9 [(0, .ref h), (1, .int (iI a1)), (3, .int (iI z227)), (4, .long v228), (6, .int (iI z229))] → W p l e (mR 44 2018) s m AV below meth c H locs 0 0 QQ (F0 m 389 ls []) := by
                    as_aux_lemma =>
                      intro z227 v228 z229 I226 J226 B226 G226 H locs ls l227 u227 l229 u229 f230 f231 f232 f233 f234 e235 e236 e237 e238 e239 e240 e241 e242 e243 Y S hl
                      refine lv_aload_n X.1 X.2.1 d_M_reply_389 rfl (lv_at hl 0 rfl) ?_
                      refine lv_aload_n X.1 X.2.1 d_M_reply_390 rfl (lv_at hl 0 rfl) ?_
                      refine m_get X Y 56 (by decide) lk_made (gf_made _ _ _) rfl d_M_reply_391 ?_
                      refine lv_iload_n X.1 X.2.1 d_M_reply_394 rfl (lv_at hl 2 rfl) ?_
                      refine lv_iload X.1 X.2.1 d_M_reply_395 (lv_at hl 4 rfl) ?_
                      refine lv_aload_n X.1 X.2.1 d_M_reply_397 rfl (lv_at hl 0 rfl) ?_
                      refine r_get0 X Y (by decide) lk_w0 (gf_w0 _ _ _) rfl e242 d_M_reply_398 ?_
                      refine lv_ldc (v := (60000)) X.1 X.2.1 X.2.2.2.1 (X.2.2.1 _ cn_M_9) d_M_reply_401 ?_
                      refine t_eq (y := iI 60000) (by decide) ?_
                      refine r_nv (m_run (As := [.ref ((q 56)), .int (iI z227), .int (iI z229), .int (iI z225), .int (iI 60000)]) (rest := []) (n := 5) X Y hZ hA hml hl.1 (r_M_seal_made l D E h q H.size I226 J226 B226 G226 z227 (by omega) (by omega) z229 (by omega) (by omega) z225 (by omega) (by omega) 60000 (by decide) (by decide) S.1 cn e243 (by omega) (by omega) (by omega) (by omega)) kl_M_seal ks_M_seal kx_M_seal ki_M_seal ini_M hd_M_seal ⟨Nat.le_of_ble_eq_true rfl, Nat.le_of_ble_eq_true rfl⟩ rfl (Nat.le_of_ble_eq_true rfl) d_M_reply_403 ⟨Nat.le_refl _, Nat.le_refl _⟩) X Y hA S (by decide) (by decide) (fun u H locs Y S s248 p248 => ?_)
                      obtain ⟨I248, J248, B248, G248⟩ := u
                      dsimp only at Y S s248 p248
                      have x248 := p248
                      obtain ⟨x248_0, x248_1⟩ := x248
                      refine lv_aload_n X.1 X.2.1 d_M_reply_406 rfl (lv_at hl 0 rfl) ?_
                      refine r_nv (m_run (As := []) (rest := []) (n := 0) X Y hZ hA hml hl.1 (r_M_start l D E h q H.size I248 J248 B248 G248 S.1) kl_M_start ks_M_start kx_M_start ki_M_start ini_M hd_M_start ⟨Nat.le_of_ble_eq_true rfl, Nat.le_of_ble_eq_true rfl⟩ rfl (Nat.le_of_ble_eq_true rfl) d_M_reply_407 ⟨Nat.le_refl _, Nat.le_refl _⟩) X Y hA S (by decide) (by decide) (fun u H locs Y S s249 p249 => ?_)
                      obtain ⟨I249, J249, B249, G249⟩ := u
                      dsimp only at Y S s249 p249
                      have b249 : B248 = B249 := (funext (fun j => s249.2.2 j (by simp))).symm
                      subst b249
                      have x249 := p249
                      refine lv_aload_n X.1 X.2.1 d_M_reply_410 rfl (lv_at hl 0 rfl) ?_
                      refine lv_bipush (v := iI 6) X.1 X.2.1 d_M_reply_411 (by decide) ?_
                      refine lv_iload_n X.1 X.2.1 d_M_reply_413 rfl (lv_at hl 2 rfl) ?_
                      refine lv_lload X.1 X.2.1 d_M_reply_414 (lv_at hl 3 rfl) ?_
                      refine r_nv (m_run (As := [.int (iI 6), .int (iI z227), .long v228]) (rest := []) (n := 3) X Y hZ hA hml hl.1 (r_M_sealedField l D E h q H.size I249 J249 B248 G249 6 (by decide) (by decide) z227 (by omega) (by omega) v228 S.1 60000 (x249.trans (congrArg iI (show (60000 : Int) = 60000 by omega))) (by omega) (by omega) (60000 - z225 + 28) ((s249.2.1 36 (by decide)).trans (x248_0.trans (congrArg iI (show (60000 - z225 + 28 : Int) = 60000 - z225 + 28 by omega)))) (by omega) (by omega) (by omega)) kl_M_sealedField ks_M_sealedField kx_M_sealedField ki_M_sealedField ini_M hd_M_sealedField ⟨Nat.le_of_ble_eq_true rfl, Nat.le_of_ble_eq_true rfl⟩ rfl (Nat.le_of_ble_eq_true rfl) d_M_reply_416 ⟨Nat.le_refl _, Nat.le_refl _⟩) X Y hA S (by decide) (by decide) (fun u H locs Y S s250 p250 => ?_)
                      obtain ⟨I250, J250, B250, G250⟩ := u
                      dsimp only at Y S s250 p250
                      obtain ⟨x250, g250_MF⟩ := p250
                      obtain ⟨z251, e251, l251, u251⟩ := x250
                      refine lv_aload_n X.1 X.2.1 d_M_reply_419 rfl (lv_at hl 0 rfl) ?_
                      refine lv_iconst (v := iI 5) X.1 X.2.1 d_M_reply_420 (by decide) ?_
                      refine lv_sipush (v := iI 22200) X.1 X.2.1 d_M_reply_421 (by decide) ?_
                      refine lv_sipush (v := iI 22200) X.1 X.2.1 d_M_reply_424 (by decide) ?_
                      refine lv_iload_n X.1 X.2.1 d_M_reply_427 rfl (lv_at hl 1 rfl) ?_
                      refine z_iadd X.1 X.2.1 d_M_reply_428 ?_
                      refine r_nv (m_run (As := [.int (iI 5), .int (iI 22200), .int (iI (22200 + a1))]) (rest := []) (n := 3) X Y hZ hA hml hl.1 (r_M_copyField l D E h q H.size I250 J250 B250 G250 5 (by decide) (by decide) 22200 (by decide) (by decide) (22200 + a1) (by omega) (by omega) S.1 z251 e251 (by omega) (by omega) (by omega) (by omega) (by omega) (by omega)) kl_M_copyField ks_M_copyField kx_M_copyField ki_M_copyField ini_M hd_M_copyField ⟨Nat.le_of_ble_eq_true rfl, Nat.le_of_ble_eq_true rfl⟩ rfl (Nat.le_of_ble_eq_true rfl) d_M_reply_429 ⟨Nat.le_refl _, Nat.le_refl _⟩) X Y hA S (by decide) (by decide) (fun u H locs Y S s252 p252 => ?_)
                      obtain ⟨I252, J252, B252, G252⟩ := u
                      dsimp only at Y S s252 p252
                      have f253 : rrP rr (I252 69) (B252 37) (B252 38) := (rrP_cg (s252.2.1 69 (by decide)) (s252.2.2 37 (by decide)) (s252.2.2 38 (by decide)) (rrP_cg (s250.2.1 69 (by decide)) (s250.2.2 37 (by decide)) (s250.2.2 38 (by decide)) (rrP_cg (s249.2.1 69 (by decide)) rfl rfl (rrP_cg (s248.2.1 69 (by decide)) (s248.2.2 37 (by decide)) (s248.2.2 38 (by decide)) f232))))
                      obtain ⟨x252, g252_MF⟩ := p252
                      obtain ⟨z254, e254, l254, u254⟩ := x252
                      refine lv_aload_n X.1 X.2.1 d_M_reply_432 rfl (lv_at hl 0 rfl) ?_
                      refine lv_iconst (v := iI 4) X.1 X.2.1 d_M_reply_433 (by decide) ?_
                      refine lv_aload_n X.1 X.2.1 d_M_reply_434 rfl (lv_at hl 0 rfl) ?_
                      refine r_get0 X Y (by decide) lk_clientAt (gf_clientAt _ _ _) rfl ((s252.2.1 88 (by decide)).trans ((s250.2.1 88 (by decide)).trans ((s249.2.1 88 (by decide)).trans ((s248.2.1 88 (by decide)).trans e238)))) d_M_reply_435 ?_
                      refine lv_aload_n X.1 X.2.1 d_M_reply_438 rfl (lv_at hl 0 rfl) ?_
                      refine r_get0 X Y (by decide) lk_clientEnd (gf_clientEnd _ _ _) rfl ((s252.2.1 89 (by decide)).trans ((s250.2.1 89 (by decide)).trans ((s249.2.1 89 (by decide)).trans ((s248.2.1 89 (by decide)).trans e239)))) d_M_reply_439 ?_
                      refine r_nv (m_run (As := [.int (iI 4), .int (iI ca), .int (iI ce)]) (rest := []) (n := 3) X Y hZ hA hml hl.1 (r_M_copyField l D E h q H.size I252 J252 B252 G252 4 (by decide) (by decide) ca (by omega) (by omega) ce (by omega) (by omega) S.1 z254 e254 (by omega) (by omega) (by omega) (by omega) (by omega) (by omega)) kl_M_copyField ks_M_copyField kx_M_copyField ki_M_copyField ini_M hd_M_copyField ⟨Nat.le_of_ble_eq_true rfl, Nat.le_of_ble_eq_true rfl⟩ rfl (Nat.le_of_ble_eq_true rfl) d_M_reply_442 ⟨Nat.le_refl _, Nat.le_refl _⟩) X Y hA S (by decide) (by decide) (fun u H locs Y S s255 p255 => ?_)
                      obtain ⟨I255, J255, B255, G255⟩ := u
                      dsimp only at Y S s255 p255
                      have f256 : pG2 (B255 37) (B255 38) := (pG2_cg (s255.2.2 37 (by decide)) (s255.2.2 38 (by decide)) (pG2_cg (s252.2.2 37 (by decide)) (s252.2.2 38 (by decide)) (pG2_cg (s250.2.2 37 (by decide)) (s250.2.2 38 (by decide)) (pG2_cg rfl rfl (pG2_cg (s248.2.2 37 (by decide)) (s248.2.2 38 (by decide)) f231)))))
                      have f257 : ssP ss (B255 37) (B255 38) := (ssP_cg (s255.2.2 37 (by decide)) (s255.2.2 38 (by decide)) (ssP_cg (s252.2.2 37 (by decide)) (s252.2.2 38 (by decide)) (ssP_cg (s250.2.2 37 (by decide)) (s250.2.2 38 (by decide)) (ssP_cg rfl rfl (ssP_cg (s248.2.2 37 (by decide)) (s248.2.2 38 (by decide)) f233)))))
                      have f258 : thF [7] (B 37) (B 38) (B255 37) (B255 38) := (thF_cg (s255.2.2 37 (by decide)) (s255.2.2 38 (by decide)) (thF_cg (s252.2.2 37 (by decide)) (s252.2.2 38 (by decide)) (thF_cg (s250.2.2 37 (by decide)) (s250.2.2 38 (by decide)) (thF_cg rfl rfl (thF_cg (s248.2.2 37 (by decide)) (s248.2.2 38 (by decide)) f234)))))
                      have f259 : pG1 I255 := (pG1_cg (s255.2.1 39 (by decide)) (s255.2.1 40 (by decide)) (pG1_cg (s252.2.1 39 (by decide)) (s252.2.1 40 (by decide)) (pG1_cg (s250.2.1 39 (by decide)) (s250.2.1 40 (by decide)) (pG1_cg (s249.2.1 39 (by decide)) (s249.2.1 40 (by decide)) (pG1_cg (s248.2.1 39 (by decide)) (s248.2.1 40 (by decide)) f230)))))
                      obtain ⟨x255, g255_MF⟩ := p255
                      obtain ⟨z260, e260, l260, u260⟩ := x255
                      refine lv_aload_n X.1 X.2.1 d_M_reply_445 rfl (lv_at hl 0 rfl) ?_
                      refine r_get0 X Y (by decide) lk_isAs (gf_isAs _ _ _) rfl ((s255.2.1 69 (by decide)).trans ((s252.2.1 69 (by decide)).trans ((s250.2.1 69 (by decide)).trans ((s249.2.1 69 (by decide)).trans ((s248.2.1 69 (by decide)).trans e235))))) d_M_reply_446 ?_
                      have J279 : ∀ (z276 : Int) (I261 : Nat → Int32) (J261 : Nat → Int64) (B261 : Nat → Nat → Int32) (G261 : Nat → Nat → Int64) (H : Heap) (locs : List Loc) (ls : Array Slot), (pG1 I261) → (pG2 (B261 37) (B261 38)) → (rrP rr (I261 69) (B261 37) (B261 38)) → (ssP ss (B261 37) (B261 38)) → (thF [7] (B 37) (B 38) (B261 37) (B261 38)) → (I261 69 = iI ia) → (I261 86 = iI aa) → (I261 87 = iI ae) → (I261 88 = iI ca) → (I261 89 = iI ce) → (I261 77 = iI ty) → (I261 75 = iI cl) → (I261 33 = iI (cn + 16)) → (I261 36 = iI (60000 - z225 + 28)) → (I261 42 = iI z276) → (0 ≤ z276) → (z276 ≤ 60000) → (60000 - ((ae - aa) + ss + 373 + 70 + a1 + 4 + (ce - ca) + 4 + rr + 84) ≤ z276) → (z276 ≤ 60000) → mH D E (mA E h q sz) s.heap h q I261 J261 B261 G261 H locs → rS [3, 8, 14, 18, 29, 33, 36, 39, 40, 42, 80] [0, 1, 5, 6, 7, 9, 10, 11, 12, 13, 15, 16, 17, 19, 20, 21, 22, 23, 24, 34, 35, 37, 38, 56, 59, 90] I B I261 B261 → lv_has ls 9 [(0, .ref h)] → W p l e (mR 44 2018) s m AV below meth c H locs 0 0 QQ (F0 m 480 ls []) := by
                        as_aux_lemma =>
                          intro z276 I261 J261 B261 G261 H locs ls f262 f263 f264 f265 f266 e267 e268 e269 e270 e271 e272 e273 e274 e275 e276 l276 u276 i277 i278 Y S hl
                          refine lv_aload_n X.1 X.2.1 d_M_reply_480 rfl (lv_at hl 0 rfl) ?_
                          refine r_get0 X Y (by decide) lk_isAs (gf_isAs _ _ _) rfl e267 d_M_reply_481 ?_
                          have J301 : ∀ (z298 : Int) (I283 : Nat → Int32) (J283 : Nat → Int64) (B283 : Nat → Nat → Int32) (G283 : Nat → Nat → Int64) (H : Heap) (locs : List Loc) (ls : Array Slot), (pG1 I283) → (pG2 (B283 37) (B283 38)) → (rrP rr (I283 69) (B283 37) (B283 38)) → (ssP ss (B283 37) (B283 38)) → (thF [7] (B 37) (B 38) (B283 37) (B283 38)) → (I283 69 = iI ia) → (I283 86 = iI aa) → (I283 87 = iI ae) → (I283 88 = iI ca) → (I283 89 = iI ce) → (I283 77 = iI ty) → (I283 75 = iI cl) → (I283 33 = iI (cn + 16)) → (I283 36 = iI (60000 - z225 + 28)) → (I283 42 = iI z298) → (0 ≤ z298) → (z298 ≤ 60000) → (60000 - ((ae - aa) + ss + 373 + 70 + a1 + 4 + (ce - ca) + 4 + rr + 84 + 460) ≤ z298) → (z298 ≤ 60000) → mH D E (mA E h q sz) s.heap h q I283 J283 B283 G283 H locs → rS [3, 8, 14, 18, 29, 33, 36, 39, 40, 42, 80] [0, 1, 5, 6, 7, 9, 10, 11, 12, 13, 15, 16, 17, 19, 20, 21, 22, 23, 24, 34, 35, 37, 38, 56, 59, 90] I B I283 B283 → lv_has ls 9 [(0, .ref h)] → W p l e (mR 44 2018) s m AV below meth c H locs 0 0 QQ (F0 m 565 ls []) := by
                            as_aux_lemma =>
                              intro z298 I283 J283 B283 G283 H locs ls f284 f285 f286 f287 f288 e289 e290 e291 e292 e293 e294 e295 e296 e297 e298 l298 u298 i299 i300 Y S hl
                              refine lv_aload_n X.1 X.2.1 d_M_reply_565 rfl (lv_at hl 0 rfl) ?_
                              refine lv_iconst (v := iI 1) X.1 X.2.1 d_M_reply_566 (by decide) ?_
                              refine lv_aload_n X.1 X.2.1 d_M_reply_567 rfl (lv_at hl 0 rfl) ?_
                              refine r_get0 X Y (by decide) lk_isAs (gf_isAs _ _ _) rfl e289 d_M_reply_568 ?_
                              refine z_if_eq (tgt := 580) X.1 X.2.1 d_M_reply_571 (by decide) ⟨by omega, by omega⟩ (fun h305 => ?_) (fun h305 => ?_)
                              · as_aux_lemma =>
                                  refine lv_ldc2 (v := (13)) X.1 X.2.1 X.2.2.2.1 (X.2.2.1 _ cl_M_903) d_M_reply_580 ?_
                                  refine r_nv (m_run (As := [.int (iI 1), .long ((13))]) (rest := []) (n := 2) X Y hZ hA hml hl.1 (r_M_numberField l D E h q H.size I283 J283 B283 G283 1 (by decide) (by decide) ((13)) S.1 z298 e298 (by omega) (by omega)) kl_M_numberField ks_M_numberField kx_M_numberField ki_M_numberField ini_M hd_M_numberField ⟨Nat.le_of_ble_eq_true rfl, Nat.le_of_ble_eq_true rfl⟩ rfl (Nat.le_of_ble_eq_true rfl) d_M_reply_583 ⟨Nat.le_refl _, Nat.le_refl _⟩) X Y hA S (by decide) (by decide) (fun u H locs Y S s306 p306 => ?_)
                                  obtain ⟨I306, J306, B306, G306⟩ := u
                                  dsimp only at Y S s306 p306
                                  obtain ⟨x306, g306_MF⟩ := p306
                                  obtain ⟨z307, e307, l307, u307⟩ := x306
                                  refine lv_aload_n X.1 X.2.1 d_M_reply_586 rfl (lv_at hl 0 rfl) ?_
                                  refine lv_iconst (v := iI 0) X.1 X.2.1 d_M_reply_587 (by decide) ?_
                                  refine lv_ldc2 (v := (5)) X.1 X.2.1 X.2.2.2.1 (X.2.2.1 _ cl_M_669) d_M_reply_588 ?_
                                  refine r_nv (m_run (As := [.int (iI 0), .long ((5))]) (rest := []) (n := 2) X Y hZ hA hml hl.1 (r_M_numberField l D E h q H.size I306 J306 B306 G306 0 (by decide) (by decide) ((5)) S.1 z307 e307 (by omega) (by omega)) kl_M_numberField ks_M_numberField kx_M_numberField ki_M_numberField ini_M hd_M_numberField ⟨Nat.le_of_ble_eq_true rfl, Nat.le_of_ble_eq_true rfl⟩ rfl (Nat.le_of_ble_eq_true rfl) d_M_reply_591 ⟨Nat.le_refl _, Nat.le_refl _⟩) X Y hA S (by decide) (by decide) (fun u H locs Y S s308 p308 => ?_)
                                  obtain ⟨I308, J308, B308, G308⟩ := u
                                  dsimp only at Y S s308 p308
                                  obtain ⟨x308, g308_MF⟩ := p308
                                  obtain ⟨z309, e309, l309, u309⟩ := x308
                                  refine lv_aload_n X.1 X.2.1 d_M_reply_594 rfl (lv_at hl 0 rfl) ?_
                                  refine lv_bipush (v := iI 48) X.1 X.2.1 d_M_reply_595 (by decide) ?_
                                  refine lv_ldc (v := (60000)) X.1 X.2.1 X.2.2.2.1 (X.2.2.1 _ cn_M_9) d_M_reply_597 ?_
                                  refine t_eq (y := iI 60000) (by decide) ?_
                                  refine r_nv (m_run (As := [.int (iI 48), .int (iI 60000)]) (rest := []) (n := 2) X Y hZ hA hml hl.1 (r_M_head l D E h q H.size I308 J308 B308 G308 48 (by decide) (by decide) 60000 (by decide) (by decide) S.1 z309 e309 (by omega) (by omega)) kl_M_head ks_M_head kx_M_head ki_M_head ini_M hd_M_head ⟨Nat.le_of_ble_eq_true rfl, Nat.le_of_ble_eq_true rfl⟩ rfl (Nat.le_of_ble_eq_true rfl) d_M_reply_599 ⟨Nat.le_refl _, Nat.le_refl _⟩) X Y hA S (by decide) (by decide) (fun u H locs Y S s310 p310 => ?_)
                                  obtain ⟨I310, J310, B310, G310⟩ := u
                                  dsimp only at Y S s310 p310
                                  have f311 : rrP rr (I310 69) (B310 37) (B310 38) := (rrP_cg (s310.2.1 69 (by decide)) (s310.2.2 37 (by decide)) (s310.2.2 38 (by decide)) (rrP_cg (s308.2.1 69 (by decide)) (s308.2.2 37 (by decide)) (s308.2.2 38 (by decide)) (rrP_cg (s306.2.1 69 (by decide)) (s306.2.2 37 (by decide)) (s306.2.2 38 (by decide)) f286)))
                                  obtain ⟨x310, g310_MF⟩ := p310
                                  obtain ⟨z312, e312, l312, u312⟩ := x310
                                  refine lv_aload_n X.1 X.2.1 d_M_reply_602 rfl (lv_at hl 0 rfl) ?_
                                  refine lv_aload_n X.1 X.2.1 d_M_reply_603 rfl (lv_at hl 0 rfl) ?_
                                  refine r_get0 X Y (by decide) lk_isAs (gf_isAs _ _ _) rfl ((s310.2.1 69 (by decide)).trans ((s308.2.1 69 (by decide)).trans ((s306.2.1 69 (by decide)).trans e289))) d_M_reply_604 ?_
                                  refine z_if_eq (tgt := 615) X.1 X.2.1 d_M_reply_607 (by decide) ⟨by omega, by omega⟩ (fun h313 => ?_) (fun h313 => False.elim (by omega))
                                  · refine lv_bipush (v := iI 109) X.1 X.2.1 d_M_reply_615 (by decide) ?_
                                    refine lv_ldc (v := (60000)) X.1 X.2.1 X.2.2.2.1 (X.2.2.1 _ cn_M_9) d_M_reply_617 ?_
                                    refine t_eq (y := iI 60000) (by decide) ?_
                                    refine r_nv (m_run (As := [.int (iI 109), .int (iI 60000)]) (rest := []) (n := 2) X Y hZ hA hml hl.1 (r_M_head l D E h q H.size I310 J310 B310 G310 109 (by decide) (by decide) 60000 (by decide) (by decide) S.1 z312 e312 (by omega) (by omega)) kl_M_head ks_M_head kx_M_head ki_M_head ini_M hd_M_head ⟨Nat.le_of_ble_eq_true rfl, Nat.le_of_ble_eq_true rfl⟩ rfl (Nat.le_of_ble_eq_true rfl) d_M_reply_619 ⟨Nat.le_refl _, Nat.le_refl _⟩) X Y hA S (by decide) (by decide) (fun u H locs Y S s314 p314 => ?_)
                                    obtain ⟨I314, J314, B314, G314⟩ := u
                                    dsimp only at Y S s314 p314
                                    obtain ⟨x314, g314_MF⟩ := p314
                                    obtain ⟨z315, e315, l315, u315⟩ := x314
                                    refine lv_aload_n X.1 X.2.1 d_M_reply_622 rfl (lv_at hl 0 rfl) ?_
                                    refine r_nv (m_run (As := []) (rest := []) (n := 0) X Y hZ hA hml hl.1 (r_M_written l D E h q H.size I314 J314 B314 G314 S.1 z315 e315 (by omega) (by omega)) kl_M_written ks_M_written kx_M_written ki_M_written ini_M hd_M_written ⟨Nat.le_of_ble_eq_true rfl, Nat.le_of_ble_eq_true rfl⟩ rfl (Nat.le_of_ble_eq_true rfl) d_M_reply_623 ⟨Nat.le_refl _, Nat.le_refl _⟩) X Y hA S (by decide) (by decide) (fun u H locs Y S s316 p316 => ?_)
                                    obtain ⟨I316, J316, B316, G316⟩ := u
                                    dsimp only at Y S s316 p316
                                    have f317 : pG2 (B316 37) (B316 38) := (pG2_cg (s316.2.2 37 (by decide)) (s316.2.2 38 (by decide)) (pG2_cg (s314.2.2 37 (by decide)) (s314.2.2 38 (by decide)) (pG2_cg (s310.2.2 37 (by decide)) (s310.2.2 38 (by decide)) (pG2_cg (s308.2.2 37 (by decide)) (s308.2.2 38 (by decide)) (pG2_cg (s306.2.2 37 (by decide)) (s306.2.2 38 (by decide)) f285)))))
                                    have f318 : ssP ss (B316 37) (B316 38) := (ssP_cg (s316.2.2 37 (by decide)) (s316.2.2 38 (by decide)) (ssP_cg (s314.2.2 37 (by decide)) (s314.2.2 38 (by decide)) (ssP_cg (s310.2.2 37 (by decide)) (s310.2.2 38 (by decide)) (ssP_cg (s308.2.2 37 (by decide)) (s308.2.2 38 (by decide)) (ssP_cg (s306.2.2 37 (by decide)) (s306.2.2 38 (by decide)) f287)))))
                                    have f319 : thF [7] (B 37) (B 38) (B316 37) (B316 38) := (thF_cg (s316.2.2 37 (by decide)) (s316.2.2 38 (by decide)) (thF_cg (s314.2.2 37 (by decide)) (s314.2.2 38 (by decide)) (thF_cg (s310.2.2 37 (by decide)) (s310.2.2 38 (by decide)) (thF_cg (s308.2.2 37 (by decide)) (s308.2.2 38 (by decide)) (thF_cg (s306.2.2 37 (by decide)) (s306.2.2 38 (by decide)) f288)))))
                                    have f320 : pG1 I316 := (pG1_cg (s316.2.1 39 (by decide)) (s316.2.1 40 (by decide)) (pG1_cg (s314.2.1 39 (by decide)) (s314.2.1 40 (by decide)) (pG1_cg (s310.2.1 39 (by decide)) (s310.2.1 40 (by decide)) (pG1_cg (s308.2.1 39 (by decide)) (s308.2.1 40 (by decide)) (pG1_cg (s306.2.1 39 (by decide)) (s306.2.1 40 (by decide)) f284)))))
                                    have g316_MF := p316
                                    exact m_retv hQQ X Y hr hlk ⟨S, ⟨⟨cn + 16, ((s316.2.1 33 (by decide)).trans ((s314.2.1 33 (by decide)).trans ((s310.2.1 33 (by decide)).trans ((s308.2.1 33 (by decide)).trans ((s306.2.1 33 (by decide)).trans e296))))), by omega, by omega⟩, f320, f317, f319⟩⟩ d_M_reply_626
                              · as_aux_lemma =>
                                  refine lv_ldc2 (v := (11)) X.1 X.2.1 X.2.2.2.1 (X.2.2.1 _ cl_M_901) d_M_reply_574 ?_
                                  refine lv_goto (tgt := 583) X.1 X.2.1 d_M_reply_577 (by decide) ?_
                                  refine r_nv (m_run (As := [.int (iI 1), .long ((11))]) (rest := []) (n := 2) X Y hZ hA hml hl.1 (r_M_numberField l D E h q H.size I283 J283 B283 G283 1 (by decide) (by decide) ((11)) S.1 z298 e298 (by omega) (by omega)) kl_M_numberField ks_M_numberField kx_M_numberField ki_M_numberField ini_M hd_M_numberField ⟨Nat.le_of_ble_eq_true rfl, Nat.le_of_ble_eq_true rfl⟩ rfl (Nat.le_of_ble_eq_true rfl) d_M_reply_583 ⟨Nat.le_refl _, Nat.le_refl _⟩) X Y hA S (by decide) (by decide) (fun u H locs Y S s321 p321 => ?_)
                                  obtain ⟨I321, J321, B321, G321⟩ := u
                                  dsimp only at Y S s321 p321
                                  obtain ⟨x321, g321_MF⟩ := p321
                                  obtain ⟨z322, e322, l322, u322⟩ := x321
                                  refine lv_aload_n X.1 X.2.1 d_M_reply_586 rfl (lv_at hl 0 rfl) ?_
                                  refine lv_iconst (v := iI 0) X.1 X.2.1 d_M_reply_587 (by decide) ?_
                                  refine lv_ldc2 (v := (5)) X.1 X.2.1 X.2.2.2.1 (X.2.2.1 _ cl_M_669) d_M_reply_588 ?_
                                  refine r_nv (m_run (As := [.int (iI 0), .long ((5))]) (rest := []) (n := 2) X Y hZ hA hml hl.1 (r_M_numberField l D E h q H.size I321 J321 B321 G321 0 (by decide) (by decide) ((5)) S.1 z322 e322 (by omega) (by omega)) kl_M_numberField ks_M_numberField kx_M_numberField ki_M_numberField ini_M hd_M_numberField ⟨Nat.le_of_ble_eq_true rfl, Nat.le_of_ble_eq_true rfl⟩ rfl (Nat.le_of_ble_eq_true rfl) d_M_reply_591 ⟨Nat.le_refl _, Nat.le_refl _⟩) X Y hA S (by decide) (by decide) (fun u H locs Y S s323 p323 => ?_)
                                  obtain ⟨I323, J323, B323, G323⟩ := u
                                  dsimp only at Y S s323 p323
                                  obtain ⟨x323, g323_MF⟩ := p323
                                  obtain ⟨z324, e324, l324, u324⟩ := x323
                                  refine lv_aload_n X.1 X.2.1 d_M_reply_594 rfl (lv_at hl 0 rfl) ?_
                                  refine lv_bipush (v := iI 48) X.1 X.2.1 d_M_reply_595 (by decide) ?_
                                  refine lv_ldc (v := (60000)) X.1 X.2.1 X.2.2.2.1 (X.2.2.1 _ cn_M_9) d_M_reply_597 ?_
                                  refine t_eq (y := iI 60000) (by decide) ?_
                                  refine r_nv (m_run (As := [.int (iI 48), .int (iI 60000)]) (rest := []) (n := 2) X Y hZ hA hml hl.1 (r_M_head l D E h q H.size I323 J323 B323 G323 48 (by decide) (by decide) 60000 (by decide) (by decide) S.1 z324 e324 (by omega) (by omega)) kl_M_head ks_M_head kx_M_head ki_M_head ini_M hd_M_head ⟨Nat.le_of_ble_eq_true rfl, Nat.le_of_ble_eq_true rfl⟩ rfl (Nat.le_of_ble_eq_true rfl) d_M_reply_599 ⟨Nat.le_refl _, Nat.le_refl _⟩) X Y hA S (by decide) (by decide) (fun u H locs Y S s325 p325 => ?_)
                                  obtain ⟨I325, J325, B325, G325⟩ := u
                                  dsimp only at Y S s325 p325
                                  have f326 : rrP rr (I325 69) (B325 37) (B325 38) := (rrP_cg (s325.2.1 69 (by decide)) (s325.2.2 37 (by decide)) (s325.2.2 38 (by decide)) (rrP_cg (s323.2.1 69 (by decide)) (s323.2.2 37 (by decide)) (s323.2.2 38 (by decide)) (rrP_cg (s321.2.1 69 (by decide)) (s321.2.2 37 (by decide)) (s321.2.2 38 (by decide)) f286)))
                                  obtain ⟨x325, g325_MF⟩ := p325
                                  obtain ⟨z327, e327, l327, u327⟩ := x325
                                  refine lv_aload_n X.1 X.2.1 d_M_reply_602 rfl (lv_at hl 0 rfl) ?_
                                  refine lv_aload_n X.1 X.2.1 d_M_reply_603 rfl (lv_at hl 0 rfl) ?_
                                  refine r_get0 X Y (by decide) lk_isAs (gf_isAs _ _ _) rfl ((s325.2.1 69 (by decide)).trans ((s323.2.1 69 (by decide)).trans ((s321.2.1 69 (by decide)).trans e289))) d_M_reply_604 ?_
                                  refine z_if_eq (tgt := 615) X.1 X.2.1 d_M_reply_607 (by decide) ⟨by omega, by omega⟩ (fun h328 => False.elim (by omega)) (fun h328 => ?_)
                                  · refine lv_bipush (v := iI 107) X.1 X.2.1 d_M_reply_610 (by decide) ?_
                                    refine lv_goto (tgt := 617) X.1 X.2.1 d_M_reply_612 (by decide) ?_
                                    refine lv_ldc (v := (60000)) X.1 X.2.1 X.2.2.2.1 (X.2.2.1 _ cn_M_9) d_M_reply_617 ?_
                                    refine t_eq (y := iI 60000) (by decide) ?_
                                    refine r_nv (m_run (As := [.int (iI 107), .int (iI 60000)]) (rest := []) (n := 2) X Y hZ hA hml hl.1 (r_M_head l D E h q H.size I325 J325 B325 G325 107 (by decide) (by decide) 60000 (by decide) (by decide) S.1 z327 e327 (by omega) (by omega)) kl_M_head ks_M_head kx_M_head ki_M_head ini_M hd_M_head ⟨Nat.le_of_ble_eq_true rfl, Nat.le_of_ble_eq_true rfl⟩ rfl (Nat.le_of_ble_eq_true rfl) d_M_reply_619 ⟨Nat.le_refl _, Nat.le_refl _⟩) X Y hA S (by decide) (by decide) (fun u H locs Y S s329 p329 => ?_)
                                    obtain ⟨I329, J329, B329, G329⟩ := u
                                    dsimp only at Y S s329 p329
                                    obtain ⟨x329, g329_MF⟩ := p329
                                    obtain ⟨z330, e330, l330, u330⟩ := x329
                                    refine lv_aload_n X.1 X.2.1 d_M_reply_622 rfl (lv_at hl 0 rfl) ?_
                                    refine r_nv (m_run (As := []) (rest := []) (n := 0) X Y hZ hA hml hl.1 (r_M_written l D E h q H.size I329 J329 B329 G329 S.1 z330 e330 (by omega) (by omega)) kl_M_written ks_M_written kx_M_written ki_M_written ini_M hd_M_written ⟨Nat.le_of_ble_eq_true rfl, Nat.le_of_ble_eq_true rfl⟩ rfl (Nat.le_of_ble_eq_true rfl) d_M_reply_623 ⟨Nat.le_refl _, Nat.le_refl _⟩) X Y hA S (by decide) (by decide) (fun u H locs Y S s331 p331 => ?_)
                                    obtain ⟨I331, J331, B331, G331⟩ := u
                                    dsimp only at Y S s331 p331
                                    have f332 : pG2 (B331 37) (B331 38) := (pG2_cg (s331.2.2 37 (by decide)) (s331.2.2 38 (by decide)) (pG2_cg (s329.2.2 37 (by decide)) (s329.2.2 38 (by decide)) (pG2_cg (s325.2.2 37 (by decide)) (s325.2.2 38 (by decide)) (pG2_cg (s323.2.2 37 (by decide)) (s323.2.2 38 (by decide)) (pG2_cg (s321.2.2 37 (by decide)) (s321.2.2 38 (by decide)) f285)))))
                                    have f333 : ssP ss (B331 37) (B331 38) := (ssP_cg (s331.2.2 37 (by decide)) (s331.2.2 38 (by decide)) (ssP_cg (s329.2.2 37 (by decide)) (s329.2.2 38 (by decide)) (ssP_cg (s325.2.2 37 (by decide)) (s325.2.2 38 (by decide)) (ssP_cg (s323.2.2 37 (by decide)) (s323.2.2 38 (by decide)) (ssP_cg (s321.2.2 37 (by decide)) (s321.2.2 38 (by decide)) f287)))))
                                    have f334 : thF [7] (B 37) (B 38) (B331 37) (B331 38) := (thF_cg (s331.2.2 37 (by decide)) (s331.2.2 38 (by decide)) (thF_cg (s329.2.2 37 (by decide)) (s329.2.2 38 (by decide)) (thF_cg (s325.2.2 37 (by decide)) (s325.2.2 38 (by decide)) (thF_cg (s323.2.2 37 (by decide)) (s323.2.2 38 (by decide)) (thF_cg (s321.2.2 37 (by decide)) (s321.2.2 38 (by decide)) f288)))))
                                    have f335 : pG1 I331 := (pG1_cg (s331.2.1 39 (by decide)) (s331.2.1 40 (by decide)) (pG1_cg (s329.2.1 39 (by decide)) (s329.2.1 40 (by decide)) (pG1_cg (s325.2.1 39 (by decide)) (s325.2.1 40 (by decide)) (pG1_cg (s323.2.1 39 (by decide)) (s323.2.1 40 (by decide)) (pG1_cg (s321.2.1 39 (by decide)) (s321.2.1 40 (by decide)) f284)))))
                                    have g331_MF := p331
                                    exact m_retv hQQ X Y hr hlk ⟨S, ⟨⟨cn + 16, ((s331.2.1 33 (by decide)).trans ((s329.2.1 33 (by decide)).trans ((s325.2.1 33 (by decide)).trans ((s323.2.1 33 (by decide)).trans ((s321.2.1 33 (by decide)).trans e296))))), by omega, by omega⟩, f335, f332, f334⟩⟩ d_M_reply_626
                          refine z_if_eq (tgt := 565) X.1 X.2.1 d_M_reply_484 (by decide) ⟨by omega, by omega⟩ (fun h336 => ?_) (fun h336 => ?_)
                          · exact J301 z276 I261 J261 B261 G261 _ _ _ f262 f263 f264 f265 f266 e267 e268 e269 e270 e271 e272 e273 e274 e275 e276 (by omega) (by omega) (by omega) (by omega) Y S (lv_sub hl [0] rfl)
                          · as_aux_lemma =>
                              refine lv_aload_n X.1 X.2.1 d_M_reply_487 rfl (lv_at hl 0 rfl) ?_
                              refine r_get0 X Y (by decide) lk_w0 (gf_w0 _ _ _) rfl e276 d_M_reply_488 ?_
                              refine lv_istore (lv' := [(7, .int (iI z276)), (0, .ref h)]) X.1 X.2.1 d_M_reply_491 hl (by decide) rfl (fun ls hl => ?_)
                              refine lv_aload_n X.1 X.2.1 d_M_reply_493 rfl (lv_at hl 1 rfl) ?_
                              refine r_get0 X Y (by decide) lk_w0 (gf_w0 _ _ _) rfl e276 d_M_reply_494 ?_
                              refine lv_istore (lv' := [(8, .int (iI z276)), (7, .int (iI z276)), (0, .ref h)]) X.1 X.2.1 d_M_reply_497 hl (by decide) rfl (fun ls hl => ?_)
                              refine lv_aload_n X.1 X.2.1 d_M_reply_499 rfl (lv_at hl 2 rfl) ?_
                              refine lv_aload_n X.1 X.2.1 d_M_reply_500 rfl (lv_at hl 2 rfl) ?_
                              refine r_get0 X Y (by decide) lk_client (gf_client _ _ _) rfl e273 d_M_reply_501 ?_
                              refine lv_aload_n X.1 X.2.1 d_M_reply_504 rfl (lv_at hl 2 rfl) ?_
                              refine r_get0 X Y (by decide) lk_type (gf_type _ _ _) rfl e272 d_M_reply_505 ?_
                              refine lv_iconst (v := iI 0) X.1 X.2.1 d_M_reply_508 (by decide) ?_
                              refine r_nv (m_run (As := [.int (iI cl), .int (iI ty), .int (iI 0)]) (rest := []) (n := 3) X Y hZ hA hml hl.1 (r_M_infoOf l D E h q H.size I261 J261 B261 G261 cl (by omega) (by omega) ty (by omega) (by omega) 0 (by decide) (by decide) S.1 z276 e276 (by omega) (by omega)) kl_M_infoOf ks_M_infoOf kx_M_infoOf ki_M_infoOf ini_M hd_M_infoOf ⟨Nat.le_of_ble_eq_true rfl, Nat.le_of_ble_eq_true rfl⟩ rfl (Nat.le_of_ble_eq_true rfl) d_M_reply_509 ⟨Nat.le_refl _, Nat.le_refl _⟩) X Y hA S (by decide) (by decide) (fun u H locs Y S s337 p337 => ?_)
                              obtain ⟨I337, J337, B337, G337⟩ := u
                              dsimp only at Y S s337 p337
                              obtain ⟨x337, g337_MF⟩ := p337
                              obtain ⟨z338, e338, l338, u338⟩ := x337
                              refine lv_aload_n X.1 X.2.1 d_M_reply_512 rfl (lv_at hl 2 rfl) ?_
                              refine lv_bipush (v := iI 48) X.1 X.2.1 d_M_reply_513 (by decide) ?_
                              refine lv_iload X.1 X.2.1 d_M_reply_515 (lv_at hl 0 rfl) ?_
                              refine r_nv (m_run (As := [.int (iI 48), .int (iI z276)]) (rest := []) (n := 2) X Y hZ hA hml hl.1 (r_M_head l D E h q H.size I337 J337 B337 G337 48 (by decide) (by decide) z276 (by omega) (by omega) S.1 z338 e338 (by omega) (by omega)) kl_M_head ks_M_head kx_M_head ki_M_head ini_M hd_M_head ⟨Nat.le_of_ble_eq_true rfl, Nat.le_of_ble_eq_true rfl⟩ rfl (Nat.le_of_ble_eq_true rfl) d_M_reply_517 ⟨Nat.le_refl _, Nat.le_refl _⟩) X Y hA S (by decide) (by decide) (fun u H locs Y S s339 p339 => ?_)
                              obtain ⟨I339, J339, B339, G339⟩ := u
                              dsimp only at Y S s339 p339
                              obtain ⟨x339, g339_MF⟩ := p339
                              obtain ⟨z340, e340, l340, u340⟩ := x339
                              refine lv_aload_n X.1 X.2.1 d_M_reply_520 rfl (lv_at hl 2 rfl) ?_
                              refine lv_iconst (v := iI 4) X.1 X.2.1 d_M_reply_521 (by decide) ?_
                              refine lv_iload X.1 X.2.1 d_M_reply_522 (lv_at hl 0 rfl) ?_
                              refine r_nv (m_run (As := [.int (iI 4), .int (iI z276)]) (rest := []) (n := 2) X Y hZ hA hml hl.1 (r_M_head l D E h q H.size I339 J339 B339 G339 4 (by decide) (by decide) z276 (by omega) (by omega) S.1 z340 e340 (by omega) (by omega)) kl_M_head ks_M_head kx_M_head ki_M_head ini_M hd_M_head ⟨Nat.le_of_ble_eq_true rfl, Nat.le_of_ble_eq_true rfl⟩ rfl (Nat.le_of_ble_eq_true rfl) d_M_reply_524 ⟨Nat.le_refl _, Nat.le_refl _⟩) X Y hA S (by decide) (by decide) (fun u H locs Y S s341 p341 => ?_)
                              obtain ⟨I341, J341, B341, G341⟩ := u
                              dsimp only at Y S s341 p341
                              have f342 : rrP rr (I341 69) (B341 37) (B341 38) := (rrP_cg (s341.2.1 69 (by decide)) (s341.2.2 37 (by decide)) (s341.2.2 38 (by decide)) (rrP_cg (s339.2.1 69 (by decide)) (s339.2.2 37 (by decide)) (s339.2.2 38 (by decide)) (rrP_cg (s337.2.1 69 (by decide)) (s337.2.2 37 (by decide)) (s337.2.2 38 (by decide)) f264)))
                              obtain ⟨x341, g341_MF⟩ := p341
                              obtain ⟨z343, e343, l343, u343⟩ := x341
                              refine lv_aload_n X.1 X.2.1 d_M_reply_527 rfl (lv_at hl 2 rfl) ?_
                              refine lv_iconst (v := iI 2) X.1 X.2.1 d_M_reply_528 (by decide) ?_
                              refine lv_iload X.1 X.2.1 d_M_reply_529 (lv_at hl 0 rfl) ?_
                              refine r_nv (m_run (As := [.int (iI 2), .int (iI z276)]) (rest := []) (n := 2) X Y hZ hA hml hl.1 (r_M_field l D E h q H.size I341 J341 B341 G341 2 (by decide) (by decide) z276 (by omega) (by omega) S.1 z343 e343 (by omega) (by omega)) kl_M_field ks_M_field kx_M_field ki_M_field ini_M hd_M_field ⟨Nat.le_of_ble_eq_true rfl, Nat.le_of_ble_eq_true rfl⟩ rfl (Nat.le_of_ble_eq_true rfl) d_M_reply_531 ⟨Nat.le_refl _, Nat.le_refl _⟩) X Y hA S (by decide) (by decide) (fun u H locs Y S s344 p344 => ?_)
                              obtain ⟨I344, J344, B344, G344⟩ := u
                              dsimp only at Y S s344 p344
                              obtain ⟨x344, g344_MF⟩ := p344
                              obtain ⟨z345, e345, l345, u345⟩ := x344
                              refine lv_aload_n X.1 X.2.1 d_M_reply_534 rfl (lv_at hl 2 rfl) ?_
                              refine lv_iconst (v := iI 1) X.1 X.2.1 d_M_reply_535 (by decide) ?_
                              refine lv_ldc2 (v := (19)) X.1 X.2.1 X.2.2.2.1 (X.2.2.1 _ cl_M_899) d_M_reply_536 ?_
                              refine r_nv (m_run (As := [.int (iI 1), .long ((19))]) (rest := []) (n := 2) X Y hZ hA hml hl.1 (r_M_numberField l D E h q H.size I344 J344 B344 G344 1 (by decide) (by decide) ((19)) S.1 z345 e345 (by omega) (by omega)) kl_M_numberField ks_M_numberField kx_M_numberField ki_M_numberField ini_M hd_M_numberField ⟨Nat.le_of_ble_eq_true rfl, Nat.le_of_ble_eq_true rfl⟩ rfl (Nat.le_of_ble_eq_true rfl) d_M_reply_539 ⟨Nat.le_refl _, Nat.le_refl _⟩) X Y hA S (by decide) (by decide) (fun u H locs Y S s346 p346 => ?_)
                              obtain ⟨I346, J346, B346, G346⟩ := u
                              dsimp only at Y S s346 p346
                              have f347 : pG2 (B346 37) (B346 38) := (pG2_cg (s346.2.2 37 (by decide)) (s346.2.2 38 (by decide)) (pG2_cg (s344.2.2 37 (by decide)) (s344.2.2 38 (by decide)) (pG2_cg (s341.2.2 37 (by decide)) (s341.2.2 38 (by decide)) (pG2_cg (s339.2.2 37 (by decide)) (s339.2.2 38 (by decide)) (pG2_cg (s337.2.2 37 (by decide)) (s337.2.2 38 (by decide)) f263)))))
                              have f348 : ssP ss (B346 37) (B346 38) := (ssP_cg (s346.2.2 37 (by decide)) (s346.2.2 38 (by decide)) (ssP_cg (s344.2.2 37 (by decide)) (s344.2.2 38 (by decide)) (ssP_cg (s341.2.2 37 (by decide)) (s341.2.2 38 (by decide)) (ssP_cg (s339.2.2 37 (by decide)) (s339.2.2 38 (by decide)) (ssP_cg (s337.2.2 37 (by decide)) (s337.2.2 38 (by decide)) f265)))))
                              have f349 : thF [7] (B 37) (B 38) (B346 37) (B346 38) := (thF_cg (s346.2.2 37 (by decide)) (s346.2.2 38 (by decide)) (thF_cg (s344.2.2 37 (by decide)) (s344.2.2 38 (by decide)) (thF_cg (s341.2.2 37 (by decide)) (s341.2.2 38 (by decide)) (thF_cg (s339.2.2 37 (by decide)) (s339.2.2 38 (by decide)) (thF_cg (s337.2.2 37 (by decide)) (s337.2.2 38 (by decide)) f266)))))
                              have f350 : pG1 I346 := (pG1_cg (s346.2.1 39 (by decide)) (s346.2.1 40 (by decide)) (pG1_cg (s344.2.1 39 (by decide)) (s344.2.1 40 (by decide)) (pG1_cg (s341.2.1 39 (by decide)) (s341.2.1 40 (by decide)) (pG1_cg (s339.2.1 39 (by decide)) (s339.2.1 40 (by decide)) (pG1_cg (s337.2.1 39 (by decide)) (s337.2.1 40 (by decide)) f262)))))
                              obtain ⟨x346, g346_MF⟩ := p346
                              obtain ⟨z351, e351, l351, u351⟩ := x346
                              refine lv_aload_n X.1 X.2.1 d_M_reply_542 rfl (lv_at hl 2 rfl) ?_
                              refine lv_bipush (v := iI 48) X.1 X.2.1 d_M_reply_543 (by decide) ?_
                              refine lv_iload X.1 X.2.1 d_M_reply_545 (lv_at hl 1 rfl) ?_
                              refine r_nv (m_run (As := [.int (iI 48), .int (iI z276)]) (rest := []) (n := 2) X Y hZ hA hml hl.1 (r_M_head l D E h q H.size I346 J346 B346 G346 48 (by decide) (by decide) z276 (by omega) (by omega) S.1 z351 e351 (by omega) (by omega)) kl_M_head ks_M_head kx_M_head ki_M_head ini_M hd_M_head ⟨Nat.le_of_ble_eq_true rfl, Nat.le_of_ble_eq_true rfl⟩ rfl (Nat.le_of_ble_eq_true rfl) d_M_reply_547 ⟨Nat.le_refl _, Nat.le_refl _⟩) X Y hA S (by decide) (by decide) (fun u H locs Y S s352 p352 => ?_)
                              obtain ⟨I352, J352, B352, G352⟩ := u
                              dsimp only at Y S s352 p352
                              have f353 : rrP rr (I352 69) (B352 37) (B352 38) := (rrP_cg (s352.2.1 69 (by decide)) (s352.2.2 37 (by decide)) (s352.2.2 38 (by decide)) (rrP_cg (s346.2.1 69 (by decide)) (s346.2.2 37 (by decide)) (s346.2.2 38 (by decide)) (rrP_cg (s344.2.1 69 (by decide)) (s344.2.2 37 (by decide)) (s344.2.2 38 (by decide)) f342)))
                              obtain ⟨x352, g352_MF⟩ := p352
                              obtain ⟨z354, e354, l354, u354⟩ := x352
                              refine lv_aload_n X.1 X.2.1 d_M_reply_550 rfl (lv_at hl 2 rfl) ?_
                              refine lv_bipush (v := iI 48) X.1 X.2.1 d_M_reply_551 (by decide) ?_
                              refine lv_iload X.1 X.2.1 d_M_reply_553 (lv_at hl 1 rfl) ?_
                              refine r_nv (m_run (As := [.int (iI 48), .int (iI z276)]) (rest := []) (n := 2) X Y hZ hA hml hl.1 (r_M_head l D E h q H.size I352 J352 B352 G352 48 (by decide) (by decide) z276 (by omega) (by omega) S.1 z354 e354 (by omega) (by omega)) kl_M_head ks_M_head kx_M_head ki_M_head ini_M hd_M_head ⟨Nat.le_of_ble_eq_true rfl, Nat.le_of_ble_eq_true rfl⟩ rfl (Nat.le_of_ble_eq_true rfl) d_M_reply_555 ⟨Nat.le_refl _, Nat.le_refl _⟩) X Y hA S (by decide) (by decide) (fun u H locs Y S s355 p355 => ?_)
                              obtain ⟨I355, J355, B355, G355⟩ := u
                              dsimp only at Y S s355 p355
                              obtain ⟨x355, g355_MF⟩ := p355
                              obtain ⟨z356, e356, l356, u356⟩ := x355
                              refine lv_aload_n X.1 X.2.1 d_M_reply_558 rfl (lv_at hl 2 rfl) ?_
                              refine lv_iconst (v := iI 2) X.1 X.2.1 d_M_reply_559 (by decide) ?_
                              refine lv_iload X.1 X.2.1 d_M_reply_560 (lv_at hl 1 rfl) ?_
                              refine r_nv (m_run (As := [.int (iI 2), .int (iI z276)]) (rest := []) (n := 2) X Y hZ hA hml hl.1 (r_M_field l D E h q H.size I355 J355 B355 G355 2 (by decide) (by decide) z276 (by omega) (by omega) S.1 z356 e356 (by omega) (by omega)) kl_M_field ks_M_field kx_M_field ki_M_field ini_M hd_M_field ⟨Nat.le_of_ble_eq_true rfl, Nat.le_of_ble_eq_true rfl⟩ rfl (Nat.le_of_ble_eq_true rfl) d_M_reply_562 ⟨Nat.le_refl _, Nat.le_refl _⟩) X Y hA S (by decide) (by decide) (fun u H locs Y S s357 p357 => ?_)
                              obtain ⟨I357, J357, B357, G357⟩ := u
                              dsimp only at Y S s357 p357
                              obtain ⟨x357, g357_MF⟩ := p357
                              obtain ⟨z358, e358, l358, u358⟩ := x357
                              exact J301 z358 I357 J357 B357 G357 _ _ _ (pG1_cg (s357.2.1 39 (by decide)) (s357.2.1 40 (by decide)) (pG1_cg (s355.2.1 39 (by decide)) (s355.2.1 40 (by decide)) (pG1_cg (s352.2.1 39 (by decide)) (s352.2.1 40 (by decide)) f350))) (pG2_cg (s357.2.2 37 (by decide)) (s357.2.2 38 (by decide)) (pG2_cg (s355.2.2 37 (by decide)) (s355.2.2 38 (by decide)) (pG2_cg (s352.2.2 37 (by decide)) (s352.2.2 38 (by decide)) f347))) (rrP_cg (s357.2.1 69 (by decide)) (s357.2.2 37 (by decide)) (s357.2.2 38 (by decide)) (rrP_cg (s355.2.1 69 (by decide)) (s355.2.2 37 (by decide)) (s355.2.2 38 (by decide)) f353)) (ssP_cg (s357.2.2 37 (by decide)) (s357.2.2 38 (by decide)) (ssP_cg (s355.2.2 37 (by decide)) (s355.2.2 38 (by decide)) (ssP_cg (s352.2.2 37 (by decide)) (s352.2.2 38 (by decide)) f348))) (thF_cg (s357.2.2 37 (by decide)) (s357.2.2 38 (by decide)) (thF_cg (s355.2.2 37 (by decide)) (s355.2.2 38 (by decide)) (thF_cg (s352.2.2 37 (by decide)) (s352.2.2 38 (by decide)) f349))) ((s357.2.1 69 (by decide)).trans ((s355.2.1 69 (by decide)).trans ((s352.2.1 69 (by decide)).trans ((s346.2.1 69 (by decide)).trans ((s344.2.1 69 (by decide)).trans ((s341.2.1 69 (by decide)).trans ((s339.2.1 69 (by decide)).trans ((s337.2.1 69 (by decide)).trans e267)))))))) ((s357.2.1 86 (by decide)).trans ((s355.2.1 86 (by decide)).trans ((s352.2.1 86 (by decide)).trans ((s346.2.1 86 (by decide)).trans ((s344.2.1 86 (by decide)).trans ((s341.2.1 86 (by decide)).trans ((s339.2.1 86 (by decide)).trans ((s337.2.1 86 (by decide)).trans e268)))))))) ((s357.2.1 87 (by decide)).trans ((s355.2.1 87 (by decide)).trans ((s352.2.1 87 (by decide)).trans ((s346.2.1 87 (by decide)).trans ((s344.2.1 87 (by decide)).trans ((s341.2.1 87 (by decide)).trans ((s339.2.1 87 (by decide)).trans ((s337.2.1 87 (by decide)).trans e269)))))))) ((s357.2.1 88 (by decide)).trans ((s355.2.1 88 (by decide)).trans ((s352.2.1 88 (by decide)).trans ((s346.2.1 88 (by decide)).trans ((s344.2.1 88 (by decide)).trans ((s341.2.1 88 (by decide)).trans ((s339.2.1 88 (by decide)).trans ((s337.2.1 88 (by decide)).trans e270)))))))) ((s357.2.1 89 (by decide)).trans ((s355.2.1 89 (by decide)).trans ((s352.2.1 89 (by decide)).trans ((s346.2.1 89 (by decide)).trans ((s344.2.1 89 (by decide)).trans ((s341.2.1 89 (by decide)).trans ((s339.2.1 89 (by decide)).trans ((s337.2.1 89 (by decide)).trans e271)))))))) ((s357.2.1 77 (by decide)).trans ((s355.2.1 77 (by decide)).trans ((s352.2.1 77 (by decide)).trans ((s346.2.1 77 (by decide)).trans ((s344.2.1 77 (by decide)).trans ((s341.2.1 77 (by decide)).trans ((s339.2.1 77 (by decide)).trans ((s337.2.1 77 (by decide)).trans e272)))))))) ((s357.2.1 75 (by decide)).trans ((s355.2.1 75 (by decide)).trans ((s352.2.1 75 (by decide)).trans ((s346.2.1 75 (by decide)).trans ((s344.2.1 75 (by decide)).trans ((s341.2.1 75 (by decide)).trans ((s339.2.1 75 (by decide)).trans ((s337.2.1 75 (by decide)).trans e273)))))))) ((s357.2.1 33 (by decide)).trans ((s355.2.1 33 (by decide)).trans ((s352.2.1 33 (by decide)).trans ((s346.2.1 33 (by decide)).trans ((s344.2.1 33 (by decide)).trans ((s341.2.1 33 (by decide)).trans ((s339.2.1 33 (by decide)).trans ((s337.2.1 33 (by decide)).trans e274)))))))) ((s357.2.1 36 (by decide)).trans ((s355.2.1 36 (by decide)).trans ((s352.2.1 36 (by decide)).trans ((s346.2.1 36 (by decide)).trans ((s344.2.1 36 (by decide)).trans ((s341.2.1 36 (by decide)).trans ((s339.2.1 36 (by decide)).trans ((s337.2.1 36 (by decide)).trans e275)))))))) e358 (by omega) (by omega) (by omega) (by omega) Y S (lv_sub hl [2] rfl)
                      refine z_if_eq (tgt := 463) X.1 X.2.1 d_M_reply_449 (by decide) ⟨by omega, by omega⟩ (fun h359 => ?_) (fun h359 => ?_)
                      · as_aux_lemma =>
                          refine lv_aload_n X.1 X.2.1 d_M_reply_463 rfl (lv_at hl 0 rfl) ?_
                          refine lv_iconst (v := iI 3) X.1 X.2.1 d_M_reply_464 (by decide) ?_
                          refine lv_aload_n X.1 X.2.1 d_M_reply_465 rfl (lv_at hl 0 rfl) ?_
                          refine lv_iconst (v := iI 4) X.1 X.2.1 d_M_reply_466 (by decide) ?_
                          refine lv_iconst (v := iI 2) X.1 X.2.1 d_M_reply_467 (by decide) ?_
                          refine r_ni (m_run (As := [.int (iI 4), .int (iI 2)]) (rest := [.int (iI 3), .ref h]) (n := 2) X Y hZ hA hml hl.1 (r_M_a l D E h q H.size I255 J255 B255 G255 4 (by decide) (by decide) 2 (by decide) (by decide) S.1) kl_M_a ks_M_a kx_M_a ki_M_a ini_M hd_M_a ⟨Nat.le_of_ble_eq_true rfl, Nat.le_of_ble_eq_true rfl⟩ rfl (Nat.le_of_ble_eq_true rfl) d_M_reply_468 ⟨Nat.le_refl _, Nat.le_refl _⟩) X Y hA S (by decide) (by decide) (fun z360 u H locs Y S s360 p360 => ?_)
                          obtain ⟨I360, J360, B360, G360⟩ := u
                          dsimp only at Y S s360 p360
                          have i360 : I255 = I360 := (funext (fun j => s360.2.1 j (by simp))).symm
                          subst i360
                          have b360 : B255 = B360 := (funext (fun j => s360.2.2 j (by simp))).symm
                          subst b360
                          obtain ⟨l360, u360, x360⟩ := p360
                          refine lv_aload_n X.1 X.2.1 d_M_reply_471 rfl (lv_at hl 0 rfl) ?_
                          refine lv_iconst (v := iI 4) X.1 X.2.1 d_M_reply_472 (by decide) ?_
                          refine lv_iconst (v := iI 2) X.1 X.2.1 d_M_reply_473 (by decide) ?_
                          refine r_ni (m_run (As := [.int (iI 4), .int (iI 2)]) (rest := [.int (iI z360), .int (iI 3), .ref h]) (n := 2) X Y hZ hA hml hl.1 (r_M_b l D E h q H.size I255 J360 B255 G360 4 (by decide) (by decide) 2 (by decide) (by decide) S.1) kl_M_b ks_M_b kx_M_b ki_M_b ini_M hd_M_b ⟨Nat.le_of_ble_eq_true rfl, Nat.le_of_ble_eq_true rfl⟩ rfl (Nat.le_of_ble_eq_true rfl) d_M_reply_474 ⟨Nat.le_refl _, Nat.le_refl _⟩) X Y hA S (by decide) (by decide) (fun z361 u H locs Y S s361 p361 => ?_)
                          obtain ⟨I361, J361, B361, G361⟩ := u
                          dsimp only at Y S s361 p361
                          have i361 : I255 = I361 := (funext (fun j => s361.2.1 j (by simp))).symm
                          subst i361
                          have b361 : B255 = B361 := (funext (fun j => s361.2.2 j (by simp))).symm
                          subst b361
                          obtain ⟨l361, u361, x361⟩ := p361
                          have p362 : pr z360 z361 := by rw [x360, x361]; exact (pG2_cg rfl rfl (pG2_cg rfl rfl f256)) (16 * 4 + 2 : Int).toNat (by omega)
                          unfold pr at p362
                          have r9 := rr_0 (rrP_cg rfl rfl rfl (rrP_cg rfl rfl rfl (rrP_cg (s255.2.1 69 (by decide)) (s255.2.2 37 (by decide)) (s255.2.2 38 (by decide)) f253))) ((s255.2.1 69 (by decide)).trans ((s252.2.1 69 (by decide)).trans ((s250.2.1 69 (by decide)).trans ((s249.2.1 69 (by decide)).trans ((s248.2.1 69 (by decide)).trans e235))))) (by omega)
                          refine r_nv (m_run (As := [.int (iI 3), .int (iI z360), .int (iI z361)]) (rest := []) (n := 3) X Y hZ hA hml hl.1 (r_M_copyField l D E h q H.size I255 J361 B255 G361 3 (by decide) (by decide) z360 (by omega) (by omega) z361 (by omega) (by omega) S.1 z260 e260 (by omega) (by omega) (by omega) (by omega) (by omega) (by omega)) kl_M_copyField ks_M_copyField kx_M_copyField ki_M_copyField ini_M hd_M_copyField ⟨Nat.le_of_ble_eq_true rfl, Nat.le_of_ble_eq_true rfl⟩ rfl (Nat.le_of_ble_eq_true rfl) d_M_reply_477 ⟨Nat.le_refl _, Nat.le_refl _⟩) X Y hA S (by decide) (by decide) (fun u H locs Y S s363 p363 => ?_)
                          obtain ⟨I363, J363, B363, G363⟩ := u
                          dsimp only at Y S s363 p363
                          obtain ⟨x363, g363_MF⟩ := p363
                          obtain ⟨z364, e364, l364, u364⟩ := x363
                          exact J279 z364 I363 J363 B363 G363 _ _ _ (pG1_cg (s363.2.1 39 (by decide)) (s363.2.1 40 (by decide)) (pG1_cg rfl rfl (pG1_cg rfl rfl f259))) (pG2_cg (s363.2.2 37 (by decide)) (s363.2.2 38 (by decide)) (pG2_cg rfl rfl (pG2_cg rfl rfl f256))) (rrP_cg (s363.2.1 69 (by decide)) (s363.2.2 37 (by decide)) (s363.2.2 38 (by decide)) (rrP_cg rfl rfl rfl (rrP_cg rfl rfl rfl (rrP_cg (s255.2.1 69 (by decide)) (s255.2.2 37 (by decide)) (s255.2.2 38 (by decide)) f253)))) (ssP_cg (s363.2.2 37 (by decide)) (s363.2.2 38 (by decide)) (ssP_cg rfl rfl (ssP_cg rfl rfl f257))) (thF_cg (s363.2.2 37 (by decide)) (s363.2.2 38 (by decide)) (thF_cg rfl rfl (thF_cg rfl rfl f258))) ((s363.2.1 69 (by decide)).trans ((s255.2.1 69 (by decide)).trans ((s252.2.1 69 (by decide)).trans ((s250.2.1 69 (by decide)).trans ((s249.2.1 69 (by decide)).trans ((s248.2.1 69 (by decide)).trans e235)))))) ((s363.2.1 86 (by decide)).trans ((s255.2.1 86 (by decide)).trans ((s252.2.1 86 (by decide)).trans ((s250.2.1 86 (by decide)).trans ((s249.2.1 86 (by decide)).trans ((s248.2.1 86 (by decide)).trans e236)))))) ((s363.2.1 87 (by decide)).trans ((s255.2.1 87 (by decide)).trans ((s252.2.1 87 (by decide)).trans ((s250.2.1 87 (by decide)).trans ((s249.2.1 87 (by decide)).trans ((s248.2.1 87 (by decide)).trans e237)))))) ((s363.2.1 88 (by decide)).trans ((s255.2.1 88 (by decide)).trans ((s252.2.1 88 (by decide)).trans ((s250.2.1 88 (by decide)).trans ((s249.2.1 88 (by decide)).trans ((s248.2.1 88 (by decide)).trans e238)))))) ((s363.2.1 89 (by decide)).trans ((s255.2.1 89 (by decide)).trans ((s252.2.1 89 (by decide)).trans ((s250.2.1 89 (by decide)).trans ((s249.2.1 89 (by decide)).trans ((s248.2.1 89 (by decide)).trans e239)))))) ((s363.2.1 77 (by decide)).trans ((s255.2.1 77 (by decide)).trans ((s252.2.1 77 (by decide)).trans ((s250.2.1 77 (by decide)).trans ((s249.2.1 77 (by decide)).trans ((s248.2.1 77 (by decide)).trans e240)))))) ((s363.2.1 75 (by decide)).trans ((s255.2.1 75 (by decide)).trans ((s252.2.1 75 (by decide)).trans ((s250.2.1 75 (by decide)).trans ((s249.2.1 75 (by decide)).trans ((s248.2.1 75 (by decide)).trans e241)))))) ((s363.2.1 33 (by decide)).trans ((s255.2.1 33 (by decide)).trans ((s252.2.1 33 (by decide)).trans ((s250.2.1 33 (by decide)).trans ((s249.2.1 33 (by decide)).trans (x248_1.trans (congrArg iI (show (cn + 16 : Int) = cn + 16 by omega)))))))) ((s363.2.1 36 (by decide)).trans ((s255.2.1 36 (by decide)).trans ((s252.2.1 36 (by decide)).trans ((s250.2.1 36 (by decide)).trans ((s249.2.1 36 (by decide)).trans (x248_0.trans (congrArg iI (show (60000 - z225 + 28 : Int) = 60000 - z225 + 28 by omega)))))))) e364 (by omega) (by omega) (by omega) (by omega) Y S (lv_sub hl [0] rfl)
                      · refine lv_aload_n X.1 X.2.1 d_M_reply_452 rfl (lv_at hl 0 rfl) ?_
                        refine lv_iconst (v := iI 3) X.1 X.2.1 d_M_reply_453 (by decide) ?_
                        refine m_ldcSW (i := 2) X (by decide) (by decide) d_M_reply_454 ?_
                        refine r_nv (m_run (As := [.int (iI 3), .ref ((D.2.1 2))]) (rest := []) (n := 2) X Y hZ hA hml hl.1 (r_M_wordField l D E h q H.size I255 J255 B255 G255 3 (by decide) (by decide) 2 (show 2 < nZ by decide) S.1 z260 e260 (by omega) (by omega)) kl_M_wordField ks_M_wordField kx_M_wordField ki_M_wordField ini_M hd_M_wordField ⟨Nat.le_of_ble_eq_true rfl, Nat.le_of_ble_eq_true rfl⟩ rfl (Nat.le_of_ble_eq_true rfl) d_M_reply_457 ⟨Nat.le_refl _, Nat.le_refl _⟩) X Y hA S (by decide) (by decide) (fun u H locs Y S s365 p365 => ?_)
                        obtain ⟨I365, J365, B365, G365⟩ := u
                        dsimp only at Y S s365 p365
                        obtain ⟨x365, g365_MF⟩ := p365
                        obtain ⟨z366, e366, l366, u366⟩ := x365
                        refine lv_goto (tgt := 480) X.1 X.2.1 d_M_reply_460 (by decide) ?_
                        exact J279 z366 I365 J365 B365 G365 _ _ _ (pG1_cg (s365.2.1 39 (by decide)) (s365.2.1 40 (by decide)) f259) (pG2_cg (s365.2.2 37 (by decide)) (s365.2.2 38 (by decide)) f256) (rrP_cg (s365.2.1 69 (by decide)) (s365.2.2 37 (by decide)) (s365.2.2 38 (by decide)) (rrP_cg (s255.2.1 69 (by decide)) (s255.2.2 37 (by decide)) (s255.2.2 38 (by decide)) f253)) (ssP_cg (s365.2.2 37 (by decide)) (s365.2.2 38 (by decide)) f257) (thF_cg (s365.2.2 37 (by decide)) (s365.2.2 38 (by decide)) f258) ((s365.2.1 69 (by decide)).trans ((s255.2.1 69 (by decide)).trans ((s252.2.1 69 (by decide)).trans ((s250.2.1 69 (by decide)).trans ((s249.2.1 69 (by decide)).trans ((s248.2.1 69 (by decide)).trans e235)))))) ((s365.2.1 86 (by decide)).trans ((s255.2.1 86 (by decide)).trans ((s252.2.1 86 (by decide)).trans ((s250.2.1 86 (by decide)).trans ((s249.2.1 86 (by decide)).trans ((s248.2.1 86 (by decide)).trans e236)))))) ((s365.2.1 87 (by decide)).trans ((s255.2.1 87 (by decide)).trans ((s252.2.1 87 (by decide)).trans ((s250.2.1 87 (by decide)).trans ((s249.2.1 87 (by decide)).trans ((s248.2.1 87 (by decide)).trans e237)))))) ((s365.2.1 88 (by decide)).trans ((s255.2.1 88 (by decide)).trans ((s252.2.1 88 (by decide)).trans ((s250.2.1 88 (by decide)).trans ((s249.2.1 88 (by decide)).trans ((s248.2.1 88 (by decide)).trans e238)))))) ((s365.2.1 89 (by decide)).trans ((s255.2.1 89 (by decide)).trans ((s252.2.1 89 (by decide)).trans ((s250.2.1 89 (by decide)).trans ((s249.2.1 89 (by decide)).trans ((s248.2.1 89 (by decide)).trans e239)))))) ((s365.2.1 77 (by decide)).trans ((s255.2.1 77 (by decide)).trans ((s252.2.1 77 (by decide)).trans ((s250.2.1 77 (by decide)).trans ((s249.2.1 77 (by decide)).trans ((s248.2.1 77 (by decide)).trans e240)))))) ((s365.2.1 75 (by decide)).trans ((s255.2.1 75 (by decide)).trans ((s252.2.1 75 (by decide)).trans ((s250.2.1 75 (by decide)).trans ((s249.2.1 75 (by decide)).trans ((s248.2.1 75 (by decide)).trans e241)))))) ((s365.2.1 33 (by decide)).trans ((s255.2.1 33 (by decide)).trans ((s252.2.1 33 (by decide)).trans ((s250.2.1 33 (by decide)).trans ((s249.2.1 33 (by decide)).trans (x248_1.trans (congrArg iI (show (cn + 16 : Int) = cn + 16 by omega)))))))) ((s365.2.1 36 (by decide)).trans ((s255.2.1 36 (by decide)).trans ((s252.2.1 36 (by decide)).trans ((s250.2.1 36 (by decide)).trans ((s249.2.1 36 (by decide)).trans (x248_0.trans (congrArg iI (show (60000 - z225 + 28 : Int) = 60000 - z225 + 28 by omega)))))))) e366 (by omega) (by omega) (by omega) (by omega) Y S (lv_sub hl [0] rfl)
                  refine z_if_eq (tgt := 277) X.1 X.2.1 d_M_reply_226 (by decide) ⟨by omega, by omega⟩ (fun h367 => ?_) (fun h367 => ?_)
                  · as_aux_lemma =>
                      refine lv_aload_n X.1 X.2.1 d_M_reply_277 rfl (lv_at hl 1 rfl) ?_
                      refine lv_aload_n X.1 X.2.1 d_M_reply_278 rfl (lv_at hl 1 rfl) ?_
                      refine lv_iconst (v := iI 5) X.1 X.2.1 d_M_reply_279 (by decide) ?_
                      refine lv_bipush (v := iI 6) X.1 X.2.1 d_M_reply_280 (by decide) ?_
                      refine r_ni (m_run (As := [.int (iI 5), .int (iI 6)]) (rest := [.ref h]) (n := 2) X Y hZ hA hml hl.1 (r_M_has l D E h q H.size I223 J223 B223 G223 5 (by decide) (by decide) 6 (by decide) (by decide) S.1) kl_M_has ks_M_has kx_M_has ki_M_has ini_M hd_M_has ⟨Nat.le_of_ble_eq_true rfl, Nat.le_of_ble_eq_true rfl⟩ rfl (Nat.le_of_ble_eq_true rfl) d_M_reply_282 ⟨Nat.le_refl _, Nat.le_refl _⟩) X Y hA S (by decide) (by decide) (fun z368 u H locs Y S s368 p368 => ?_)
                      obtain ⟨I368, J368, B368, G368⟩ := u
                      dsimp only at Y S s368 p368
                      have i368 : I223 = I368 := (funext (fun j => s368.2.1 j (by simp))).symm
                      subst i368
                      have b368 : B223 = B368 := (funext (fun j => s368.2.2 j (by simp))).symm
                      subst b368
                      obtain ⟨l368, u368, x368⟩ := p368
                      refine z_if_eq (tgt := 302) X.1 X.2.1 d_M_reply_285 (by decide) ⟨by omega, by omega⟩ (fun h369 => ?_) (fun h369 => ?_)
                      · as_aux_lemma =>
                          refine lv_iconst (v := iI 0) X.1 X.2.1 d_M_reply_302 (by decide) ?_
                          refine r_puti (k := 80) X Y S (by decide) lk_subType rfl rfl (t_M_ok 80 (by decide)) rfl rfl (sf_subType _ _ _ _) (Nat.le_of_ble_eq_true rfl) rfl (show ((-2147483648) : Int) ≤ 0 by omega) (show 0 ≤ (2147483647 : Int) by omega) ⟨by omega, by omega⟩ (by decide) d_M_reply_303 (fun I370 H locs Y S w370 => ?_)
                          refine lv_aload_n X.1 X.2.1 d_M_reply_306 rfl (lv_at hl 1 rfl) ?_
                          refine r_get0 X Y (by decide) lk_subType (gf_subType _ _ _) rfl w370.1 d_M_reply_307 ?_
                          refine z_if_eq (tgt := 320) X.1 X.2.1 d_M_reply_310 (by decide) ⟨by decide, by decide⟩ (fun h371 => ?_) (fun h371 => False.elim (by omega))
                          · as_aux_lemma =>
                              refine lv_aload_n X.1 X.2.1 d_M_reply_320 rfl (lv_at hl 1 rfl) ?_
                              refine r_geti (k := 79) X Y S (by decide) lk_ticketType (gf_ticketType _ _ _) rfl rfl d_M_reply_321 (fun z372 e372 l372 u372 => ?_)
                              refine lv_istore_n (lv' := [(3, .int (iI z372)), (4, .long 0), (0, .ref h), (1, .int (iI a1))]) X.1 X.2.1 d_M_reply_324 rfl hl (by decide) rfl (fun ls hl => ?_)
                              refine lv_aload_n X.1 X.2.1 d_M_reply_325 rfl (lv_at hl 2 rfl) ?_
                              refine r_get0 X Y (by decide) lk_subType (gf_subType _ _ _) rfl w370.1 d_M_reply_326 ?_
                              have J388 : ∀ (I373 : Nat → Int32) (J373 : Nat → Int64) (B373 : Nat → Nat → Int32) (G373 : Nat → Nat → Int64) (H : Heap) (locs : List Loc) (ls : Array Slot), (pG1 I373) → (pG2 (B373 37) (B373 38)) → (rrP rr (I373 69) (B373 37) (B373 38)) → (ssP ss (B373 37) (B373 38)) → (thF [7] (B 37) (B 38) (B373 37) (B373 38)) → (I373 69 = iI ia) → (I373 86 = iI aa) → (I373 87 = iI ae) → (I373 88 = iI ca) → (I373 89 = iI ce) → (I373 77 = iI ty) → (I373 75 = iI cl) → (I373 42 = iI z225) → (I373 33 = iI cn) → mH D E (mA E h q sz) s.heap h q I373 J373 B373 G373 H locs → rS [3, 8, 14, 18, 29, 33, 36, 39, 40, 42, 80] [0, 1, 5, 6, 7, 9, 10, 11, 12, 13, 15, 16, 17, 19, 20, 21, 22, 23, 24, 34, 35, 37, 38, 56, 59, 90] I B I373 B373 → lv_has ls 9 [(0, .ref h), (1, .int (iI a1)), (3, .int (iI z372)), (4, .long 0)] → W p l e (mR 44 2018) s m AV below meth c H locs 0 0 QQ (F0 m 343 ls []) := by
                                as_aux_lemma =>
                                  intro I373 J373 B373 G373 H locs ls f374 f375 f376 f377 f378 e379 e380 e381 e382 e383 e384 e385 e386 e387 Y S hl
                                  refine lv_iconst (v := iI 0) X.1 X.2.1 d_M_reply_343 (by decide) ?_
                                  have J408 : ∀ (n410 : Nat) (z393 : Int) (I392 : Nat → Int32) (J392 : Nat → Int64) (B392 : Nat → Nat → Int32) (G392 : Nat → Nat → Int64) (H : Heap) (locs : List Loc) (ls : Array Slot), (32 - z393).toNat = n410 → (0 ≤ z393) → (z393 ≤ 32) → (pG1 I392) → (pG2 (B392 37) (B392 38)) → (rrP rr (I392 69) (B392 37) (B392 38)) → (ssP ss (B392 37) (B392 38)) → (thF [7] (B 37) (B 38) (B392 37) (B392 38)) → (I392 69 = iI ia) → (I392 86 = iI aa) → (I392 87 = iI ae) → (I392 88 = iI ca) → (I392 89 = iI ce) → (I392 77 = iI ty) → (I392 75 = iI cl) → (I392 42 = iI z225) → (I392 33 = iI cn) → mH D E (mA E h q sz) s.heap h q I392 J392 B392 G392 H locs → rS [3, 8, 14, 18, 29, 33, 36, 39, 40, 42, 80] [0, 1, 5, 6, 7, 9, 10, 11, 12, 13, 15, 16, 17, 19, 20, 21, 22, 23, 24, 34, 35, 37, 38, 56, 59, 90] I B I392 B392 → lv_has ls 9 [(0, .ref h), (1, .int (iI a1)), (3, .int (iI z372)), (4, .long 0), (7, .int (iI z393))] → W p l e (mR 44 2018) s m AV below meth c H locs 0 0 QQ (F0 m 346 ls []) := by
                                    as_aux_lemma =>
                                      intro n410
                                      induction n410 using Nat.strongRecOn with
                                      | ind n410 ih409 =>
                                        intro z393 I392 J392 B392 G392 H locs ls hm411 l393 u393 f394 f395 f396 f397 f398 e399 e400 e401 e402 e403 e404 e405 e406 e407 Y S hl
                                        refine lv_iload X.1 X.2.1 d_M_reply_346 (lv_at hl 4 rfl) ?_
                                        refine lv_bipush (v := iI 32) X.1 X.2.1 d_M_reply_348 (by decide) ?_
                                        refine z_icmp_ge (tgt := 373) X.1 X.2.1 d_M_reply_350 (by decide) ⟨by omega, by omega⟩ ⟨by decide, by decide⟩ (fun h412 => ?_) (fun h412 => ?_)
                                        · refine lv_aload_n X.1 X.2.1 d_M_reply_373 rfl (lv_at hl 0 rfl) ?_
                                          refine r_geti (k := 80) X Y S (by decide) lk_subType (gf_subType _ _ _) rfl rfl d_M_reply_374 (fun z413 e413 l413 u413 => ?_)
                                          refine z_if_eq (tgt := 385) X.1 X.2.1 d_M_reply_377 (by decide) ⟨by omega, by omega⟩ (fun h414 => ?_) (fun h414 => ?_)
                                          · refine lv_bipush (v := iI 8) X.1 X.2.1 d_M_reply_385 (by decide) ?_
                                            refine lv_istore (lv' := [(6, .int (iI 8)), (0, .ref h), (1, .int (iI a1)), (3, .int (iI z372)), (4, .long 0), (7, .int (iI z393))]) X.1 X.2.1 d_M_reply_387 hl (by decide) rfl (fun ls hl => ?_)
                                            exact J244 z372 0 8 I392 J392 B392 G392 _ _ _ (by omega) (by omega) (by omega) (by omega) f394 f395 f396 f397 f398 e399 e400 e401 e402 e403 e404 e405 e406 e407 Y S (lv_sub hl [1, 2, 3, 4, 0] rfl)
                                          · refine lv_bipush (v := iI 9) X.1 X.2.1 d_M_reply_380 (by decide) ?_
                                            refine lv_goto (tgt := 387) X.1 X.2.1 d_M_reply_382 (by decide) ?_
                                            refine lv_istore (lv' := [(6, .int (iI 9)), (0, .ref h), (1, .int (iI a1)), (3, .int (iI z372)), (4, .long 0), (7, .int (iI z393))]) X.1 X.2.1 d_M_reply_387 hl (by decide) rfl (fun ls hl => ?_)
                                            exact J244 z372 0 9 I392 J392 B392 G392 _ _ _ (by omega) (by omega) (by omega) (by omega) f394 f395 f396 f397 f398 e399 e400 e401 e402 e403 e404 e405 e406 e407 Y S (lv_sub hl [1, 2, 3, 4, 0] rfl)
                                        · refine lv_aload_n X.1 X.2.1 d_M_reply_353 rfl (lv_at hl 0 rfl) ?_
                                          refine m_get X Y 56 (by decide) lk_made (gf_made _ _ _) rfl d_M_reply_354 ?_
                                          refine lv_iload X.1 X.2.1 d_M_reply_357 (lv_at hl 4 rfl) ?_
                                          refine lv_aload_n X.1 X.2.1 d_M_reply_359 rfl (lv_at hl 0 rfl) ?_
                                          refine m_get X Y 59 (by decide) lk_sub (gf_sub _ _ _) rfl d_M_reply_360 ?_
                                          refine lv_iload X.1 X.2.1 d_M_reply_363 (lv_at hl 4 rfl) ?_
                                          refine r_bald X Y S (aw_sub _ _ _ _ _ _ _) rfl (by omega) (show z393 < ((32 : Nat) : Int) by omega) (by omega) d_M_reply_365 (fun z415 q415 l415 u415 => ?_)
                                          refine r_bast X Y S (aw_made _ _ _ _ _ _ _) (sw_made _ _ _ _ _ _ _) rfl (by omega) (show z393 < ((32 : Nat) : Int) by omega) (by omega) (by decide) d_M_reply_366 (fun B416 H locs Y S w416 => ?_)
                                          refine lv_iinc (v := iI (z393 + 1)) (lv' := [(7, .int (iI (z393 + 1))), (0, .ref h), (1, .int (iI a1)), (3, .int (iI z372)), (4, .long 0)]) X.1 X.2.1 d_M_reply_367 hl (k := 4) rfl ((iI_add _ _).trans (congrArg iI (by omega))) (by decide) rfl (fun ls hl => ?_)
                                          refine lv_goto (tgt := 346) X.1 X.2.1 d_M_reply_370 (by decide) ?_
                                          exact ih409 ((32 - (z393 + 1)).toNat) (by omega) (z393 + 1) I392 J392 B416 G392 _ _ _ rfl (by omega) (by omega) (pG1_cg rfl rfl f394) (pG2_cg (w416.2 37 (by decide)) (w416.2 38 (by decide)) f395) (rrP_cg rfl (w416.2 37 (by decide)) (w416.2 38 (by decide)) f396) (ssP_cg (w416.2 37 (by decide)) (w416.2 38 (by decide)) f397) (thF_cg (w416.2 37 (by decide)) (w416.2 38 (by decide)) f398) e399 e400 e401 e402 e403 e404 e405 e406 e407 Y S (lv_sub hl [1, 2, 3, 4, 0] rfl)
                                  refine lv_istore (lv' := [(7, .int (iI 0)), (0, .ref h), (1, .int (iI a1)), (3, .int (iI z372)), (4, .long 0)]) X.1 X.2.1 d_M_reply_344 hl (by decide) rfl (fun ls hl => ?_)
                                  exact J408 _ 0 I373 J373 B373 G373 _ _ _ rfl (by omega) (by omega) f374 f375 f376 f377 f378 e379 e380 e381 e382 e383 e384 e385 e386 e387 Y S (lv_sub hl [1, 2, 3, 4, 0] rfl)
                              refine z_if_ne (tgt := 343) X.1 X.2.1 d_M_reply_329 (by decide) ⟨by decide, by decide⟩ (fun h417 => False.elim (by omega)) (fun h417 => ?_)
                              · refine lv_aload_n X.1 X.2.1 d_M_reply_332 rfl (lv_at hl 2 rfl) ?_
                                refine lv_iconst (v := iI 4) X.1 X.2.1 d_M_reply_333 (by decide) ?_
                                refine lv_iconst (v := iI 1) X.1 X.2.1 d_M_reply_334 (by decide) ?_
                                refine lv_aload_n X.1 X.2.1 d_M_reply_335 rfl (lv_at hl 2 rfl) ?_
                                refine m_get X Y 59 (by decide) lk_sub (gf_sub _ _ _) rfl d_M_reply_336 ?_
                                refine r_ni (m_run (As := [.int (iI 4), .int (iI 1), .ref ((q 59))]) (rest := []) (n := 3) X Y hZ hA hml hl.1 (r_M_keyIn_sub l D E h q H.size I370 J368 B223 G368 4 (by decide) (by decide) 1 (by decide) (by decide) S.1 (pG1_cg (w370.2 39 (by decide)) (w370.2 40 (by decide)) (pG1_cg rfl rfl f224)) (pG2_cg rfl rfl (pG2_cg rfl rfl (pG2_cg (s223.2.2 37 (by decide)) (s223.2.2 38 (by decide)) (pG2_cg (s214.2.2 37 (by decide)) (s214.2.2 38 (by decide)) f209))))) kl_M_keyIn ks_M_keyIn kx_M_keyIn ki_M_keyIn ini_M hd_M_keyIn ⟨Nat.le_of_ble_eq_true rfl, Nat.le_of_ble_eq_true rfl⟩ rfl (Nat.le_of_ble_eq_true rfl) d_M_reply_339 ⟨Nat.le_refl _, Nat.le_refl _⟩) X Y hA S (by decide) (by decide) (fun z418 u H locs Y S s418 p418 => ?_)
                                obtain ⟨I418, J418, B418, G418⟩ := u
                                dsimp only at Y S s418 p418
                                obtain ⟨l418, u418, x418, g418_P1, g418_P2, g418_TF⟩ := p418
                                have f419 : rrP rr (I418 69) (B418 37) (B418 38) := rrP_cg (s418.2.1 69 (by decide)) rfl rfl (rrP_T g418_TF (by decide) (rrP_cg (w370.2 69 (by decide)) rfl rfl (rrP_cg rfl rfl rfl (rrP_cg (s223.2.1 69 (by decide)) (s223.2.2 37 (by decide)) (s223.2.2 38 (by decide)) (rrP_cg (s214.2.1 69 (by decide)) (s214.2.2 37 (by decide)) (s214.2.2 38 (by decide)) f210)))))
                                have f420 : ssP ss (B418 37) (B418 38) := ssP_T g418_TF (by decide) (ssP_cg rfl rfl (ssP_cg rfl rfl (ssP_cg (s223.2.2 37 (by decide)) (s223.2.2 38 (by decide)) (ssP_cg (s214.2.2 37 (by decide)) (s214.2.2 38 (by decide)) f211))))
                                refine lv_pop X.1 X.2.1 d_M_reply_342 rfl ?_
                                exact J388 I418 J418 B418 G418 _ _ _ g418_P1 g418_P2 f419 f420 (thF_tr (thF_cg rfl rfl (thF_cg rfl rfl (thF_cg (s223.2.2 37 (by decide)) (s223.2.2 38 (by decide)) (thF_cg (s214.2.2 37 (by decide)) (s214.2.2 38 (by decide)) f212)))) g418_TF (by decide)) ((s418.2.1 69 (by decide)).trans ((w370.2 69 (by decide)).trans ((s223.2.1 69 (by decide)).trans ((s214.2.1 69 (by decide)).trans ((s208.2.1 69 (by decide)).trans ((s206.2.1 69 (by decide)).trans ((s204.2.1 69 (by decide)).trans ((s200.2.1 69 (by decide)).trans ((s198.2.1 69 (by decide)).trans ((s193.2.1 69 (by decide)).trans ((s188.2.1 69 (by decide)).trans ((s187.2.1 69 (by decide)).trans ((s185.2.1 69 (by decide)).trans ((s182.2.1 69 (by decide)).trans e166)))))))))))))) ((s418.2.1 86 (by decide)).trans ((w370.2 86 (by decide)).trans ((s223.2.1 86 (by decide)).trans ((s214.2.1 86 (by decide)).trans ((s208.2.1 86 (by decide)).trans ((s206.2.1 86 (by decide)).trans ((s204.2.1 86 (by decide)).trans ((s200.2.1 86 (by decide)).trans ((s198.2.1 86 (by decide)).trans ((s193.2.1 86 (by decide)).trans ((s188.2.1 86 (by decide)).trans ((s187.2.1 86 (by decide)).trans ((s185.2.1 86 (by decide)).trans ((s182.2.1 86 (by decide)).trans e167)))))))))))))) ((s418.2.1 87 (by decide)).trans ((w370.2 87 (by decide)).trans ((s223.2.1 87 (by decide)).trans ((s214.2.1 87 (by decide)).trans ((s208.2.1 87 (by decide)).trans ((s206.2.1 87 (by decide)).trans ((s204.2.1 87 (by decide)).trans ((s200.2.1 87 (by decide)).trans ((s198.2.1 87 (by decide)).trans ((s193.2.1 87 (by decide)).trans ((s188.2.1 87 (by decide)).trans ((s187.2.1 87 (by decide)).trans ((s185.2.1 87 (by decide)).trans ((s182.2.1 87 (by decide)).trans e168)))))))))))))) ((s418.2.1 88 (by decide)).trans ((w370.2 88 (by decide)).trans ((s223.2.1 88 (by decide)).trans ((s214.2.1 88 (by decide)).trans ((s208.2.1 88 (by decide)).trans ((s206.2.1 88 (by decide)).trans ((s204.2.1 88 (by decide)).trans ((s200.2.1 88 (by decide)).trans ((s198.2.1 88 (by decide)).trans ((s193.2.1 88 (by decide)).trans ((s188.2.1 88 (by decide)).trans ((s187.2.1 88 (by decide)).trans ((s185.2.1 88 (by decide)).trans ((s182.2.1 88 (by decide)).trans e169)))))))))))))) ((s418.2.1 89 (by decide)).trans ((w370.2 89 (by decide)).trans ((s223.2.1 89 (by decide)).trans ((s214.2.1 89 (by decide)).trans ((s208.2.1 89 (by decide)).trans ((s206.2.1 89 (by decide)).trans ((s204.2.1 89 (by decide)).trans ((s200.2.1 89 (by decide)).trans ((s198.2.1 89 (by decide)).trans ((s193.2.1 89 (by decide)).trans ((s188.2.1 89 (by decide)).trans ((s187.2.1 89 (by decide)).trans ((s185.2.1 89 (by decide)).trans ((s182.2.1 89 (by decide)).trans e170)))))))))))))) ((s418.2.1 77 (by decide)).trans ((w370.2 77 (by decide)).trans ((s223.2.1 77 (by decide)).trans ((s214.2.1 77 (by decide)).trans ((s208.2.1 77 (by decide)).trans ((s206.2.1 77 (by decide)).trans ((s204.2.1 77 (by decide)).trans ((s200.2.1 77 (by decide)).trans ((s198.2.1 77 (by decide)).trans ((s193.2.1 77 (by decide)).trans ((s188.2.1 77 (by decide)).trans ((s187.2.1 77 (by decide)).trans ((s185.2.1 77 (by decide)).trans ((s182.2.1 77 (by decide)).trans e171)))))))))))))) ((s418.2.1 75 (by decide)).trans ((w370.2 75 (by decide)).trans ((s223.2.1 75 (by decide)).trans ((s214.2.1 75 (by decide)).trans ((s208.2.1 75 (by decide)).trans ((s206.2.1 75 (by decide)).trans ((s204.2.1 75 (by decide)).trans ((s200.2.1 75 (by decide)).trans ((s198.2.1 75 (by decide)).trans ((s193.2.1 75 (by decide)).trans ((s188.2.1 75 (by decide)).trans ((s187.2.1 75 (by decide)).trans ((s185.2.1 75 (by decide)).trans ((s182.2.1 75 (by decide)).trans e172)))))))))))))) ((s418.2.1 42 (by decide)).trans ((w370.2 42 (by decide)).trans e225)) ((s418.2.1 33 (by decide)).trans ((w370.2 33 (by decide)).trans ((s223.2.1 33 (by decide)).trans ((s214.2.1 33 (by decide)).trans ((s208.2.1 33 (by decide)).trans ((s206.2.1 33 (by decide)).trans ((s204.2.1 33 (by decide)).trans ((s200.2.1 33 (by decide)).trans ((s198.2.1 33 (by decide)).trans ((s193.2.1 33 (by decide)).trans ((s188.2.1 33 (by decide)).trans ((s187.2.1 33 (by decide)).trans ((s185.2.1 33 (by decide)).trans ((s182.2.1 33 (by decide)).trans e174)))))))))))))) Y S (lv_sub hl [2, 3, 0, 1] rfl)
                      · as_aux_lemma =>
                          refine lv_aload_n X.1 X.2.1 d_M_reply_288 rfl (lv_at hl 1 rfl) ?_
                          refine lv_iconst (v := iI 5) X.1 X.2.1 d_M_reply_289 (by decide) ?_
                          refine lv_bipush (v := iI 6) X.1 X.2.1 d_M_reply_290 (by decide) ?_
                          refine lv_aload_n X.1 X.2.1 d_M_reply_292 rfl (lv_at hl 1 rfl) ?_
                          refine m_get X Y 59 (by decide) lk_sub (gf_sub _ _ _) rfl d_M_reply_293 ?_
                          refine r_ni (m_run (As := [.int (iI 5), .int (iI 6), .ref ((q 59))]) (rest := [.ref h]) (n := 3) X Y hZ hA hml hl.1 (r_M_keyIn_sub l D E h q H.size I223 J368 B223 G368 5 (by decide) (by decide) 6 (by decide) (by decide) S.1 (pG1_cg rfl rfl f224) (pG2_cg rfl rfl (pG2_cg (s223.2.2 37 (by decide)) (s223.2.2 38 (by decide)) (pG2_cg (s214.2.2 37 (by decide)) (s214.2.2 38 (by decide)) f209)))) kl_M_keyIn ks_M_keyIn kx_M_keyIn ki_M_keyIn ini_M hd_M_keyIn ⟨Nat.le_of_ble_eq_true rfl, Nat.le_of_ble_eq_true rfl⟩ rfl (Nat.le_of_ble_eq_true rfl) d_M_reply_296 ⟨Nat.le_refl _, Nat.le_refl _⟩) X Y hA S (by decide) (by decide) (fun z421 u H locs Y S s421 p421 => ?_)
                          obtain ⟨I421, J421, B421, G421⟩ := u
                          dsimp only at Y S s421 p421
                          obtain ⟨l421, u421, x421, g421_P1, g421_P2, g421_TF⟩ := p421
                          have f422 : rrP rr (I421 69) (B421 37) (B421 38) := rrP_cg (s421.2.1 69 (by decide)) rfl rfl (rrP_T g421_TF (by decide) (rrP_cg rfl rfl rfl (rrP_cg (s223.2.1 69 (by decide)) (s223.2.2 37 (by decide)) (s223.2.2 38 (by decide)) (rrP_cg (s214.2.1 69 (by decide)) (s214.2.2 37 (by decide)) (s214.2.2 38 (by decide)) f210))))
                          have f423 : ssP ss (B421 37) (B421 38) := ssP_T g421_TF (by decide) (ssP_cg rfl rfl (ssP_cg (s223.2.2 37 (by decide)) (s223.2.2 38 (by decide)) (ssP_cg (s214.2.2 37 (by decide)) (s214.2.2 38 (by decide)) f211)))
                          refine lv_goto (tgt := 303) X.1 X.2.1 d_M_reply_299 (by decide) ?_
                          refine r_puti (k := 80) X Y S (by decide) lk_subType rfl rfl (t_M_ok 80 (by decide)) rfl rfl (sf_subType _ _ _ _) (Nat.le_of_ble_eq_true rfl) rfl (show ((-2147483648) : Int) ≤ z421 by omega) (show z421 ≤ (2147483647 : Int) by omega) ⟨by omega, by omega⟩ (by decide) d_M_reply_303 (fun I424 H locs Y S w424 => ?_)
                          refine lv_aload_n X.1 X.2.1 d_M_reply_306 rfl (lv_at hl 1 rfl) ?_
                          refine r_get0 X Y (by decide) lk_subType (gf_subType _ _ _) rfl w424.1 d_M_reply_307 ?_
                          refine z_if_eq (tgt := 320) X.1 X.2.1 d_M_reply_310 (by decide) ⟨by omega, by omega⟩ (fun h425 => ?_) (fun h425 => ?_)
                          · as_aux_lemma =>
                              refine lv_aload_n X.1 X.2.1 d_M_reply_320 rfl (lv_at hl 1 rfl) ?_
                              refine r_geti (k := 79) X Y S (by decide) lk_ticketType (gf_ticketType _ _ _) rfl rfl d_M_reply_321 (fun z426 e426 l426 u426 => ?_)
                              refine lv_istore_n (lv' := [(3, .int (iI z426)), (4, .long 0), (0, .ref h), (1, .int (iI a1))]) X.1 X.2.1 d_M_reply_324 rfl hl (by decide) rfl (fun ls hl => ?_)
                              refine lv_aload_n X.1 X.2.1 d_M_reply_325 rfl (lv_at hl 2 rfl) ?_
                              refine r_get0 X Y (by decide) lk_subType (gf_subType _ _ _) rfl w424.1 d_M_reply_326 ?_
                              have J442 : ∀ (I427 : Nat → Int32) (J427 : Nat → Int64) (B427 : Nat → Nat → Int32) (G427 : Nat → Nat → Int64) (H : Heap) (locs : List Loc) (ls : Array Slot), (pG1 I427) → (pG2 (B427 37) (B427 38)) → (rrP rr (I427 69) (B427 37) (B427 38)) → (ssP ss (B427 37) (B427 38)) → (thF [7] (B 37) (B 38) (B427 37) (B427 38)) → (I427 69 = iI ia) → (I427 86 = iI aa) → (I427 87 = iI ae) → (I427 88 = iI ca) → (I427 89 = iI ce) → (I427 77 = iI ty) → (I427 75 = iI cl) → (I427 42 = iI z225) → (I427 33 = iI cn) → mH D E (mA E h q sz) s.heap h q I427 J427 B427 G427 H locs → rS [3, 8, 14, 18, 29, 33, 36, 39, 40, 42, 80] [0, 1, 5, 6, 7, 9, 10, 11, 12, 13, 15, 16, 17, 19, 20, 21, 22, 23, 24, 34, 35, 37, 38, 56, 59, 90] I B I427 B427 → lv_has ls 9 [(0, .ref h), (1, .int (iI a1)), (3, .int (iI z426)), (4, .long 0)] → W p l e (mR 44 2018) s m AV below meth c H locs 0 0 QQ (F0 m 343 ls []) := by
                                as_aux_lemma =>
                                  intro I427 J427 B427 G427 H locs ls f428 f429 f430 f431 f432 e433 e434 e435 e436 e437 e438 e439 e440 e441 Y S hl
                                  refine lv_iconst (v := iI 0) X.1 X.2.1 d_M_reply_343 (by decide) ?_
                                  have J462 : ∀ (n464 : Nat) (z447 : Int) (I446 : Nat → Int32) (J446 : Nat → Int64) (B446 : Nat → Nat → Int32) (G446 : Nat → Nat → Int64) (H : Heap) (locs : List Loc) (ls : Array Slot), (32 - z447).toNat = n464 → (0 ≤ z447) → (z447 ≤ 32) → (pG1 I446) → (pG2 (B446 37) (B446 38)) → (rrP rr (I446 69) (B446 37) (B446 38)) → (ssP ss (B446 37) (B446 38)) → (thF [7] (B 37) (B 38) (B446 37) (B446 38)) → (I446 69 = iI ia) → (I446 86 = iI aa) → (I446 87 = iI ae) → (I446 88 = iI ca) → (I446 89 = iI ce) → (I446 77 = iI ty) → (I446 75 = iI cl) → (I446 42 = iI z225) → (I446 33 = iI cn) → mH D E (mA E h q sz) s.heap h q I446 J446 B446 G446 H locs → rS [3, 8, 14, 18, 29, 33, 36, 39, 40, 42, 80] [0, 1, 5, 6, 7, 9, 10, 11, 12, 13, 15, 16, 17, 19, 20, 21, 22, 23, 24, 34, 35, 37, 38, 56, 59, 90] I B I446 B446 → lv_has ls 9 [(0, .ref h), (1, .int (iI a1)), (3, .int (iI z426)), (4, .long 0), (7, .int (iI z447))] → W p l e (mR 44 2018) s m AV below meth c H locs 0 0 QQ (F0 m 346 ls []) := by
                                    as_aux_lemma =>
                                      intro n464
                                      induction n464 using Nat.strongRecOn with
                                      | ind n464 ih463 =>
                                        intro z447 I446 J446 B446 G446 H locs ls hm465 l447 u447 f448 f449 f450 f451 f452 e453 e454 e455 e456 e457 e458 e459 e460 e461 Y S hl
                                        refine lv_iload X.1 X.2.1 d_M_reply_346 (lv_at hl 4 rfl) ?_
                                        refine lv_bipush (v := iI 32) X.1 X.2.1 d_M_reply_348 (by decide) ?_
                                        refine z_icmp_ge (tgt := 373) X.1 X.2.1 d_M_reply_350 (by decide) ⟨by omega, by omega⟩ ⟨by decide, by decide⟩ (fun h466 => ?_) (fun h466 => ?_)
                                        · refine lv_aload_n X.1 X.2.1 d_M_reply_373 rfl (lv_at hl 0 rfl) ?_
                                          refine r_geti (k := 80) X Y S (by decide) lk_subType (gf_subType _ _ _) rfl rfl d_M_reply_374 (fun z467 e467 l467 u467 => ?_)
                                          refine z_if_eq (tgt := 385) X.1 X.2.1 d_M_reply_377 (by decide) ⟨by omega, by omega⟩ (fun h468 => ?_) (fun h468 => ?_)
                                          · refine lv_bipush (v := iI 8) X.1 X.2.1 d_M_reply_385 (by decide) ?_
                                            refine lv_istore (lv' := [(6, .int (iI 8)), (0, .ref h), (1, .int (iI a1)), (3, .int (iI z426)), (4, .long 0), (7, .int (iI z447))]) X.1 X.2.1 d_M_reply_387 hl (by decide) rfl (fun ls hl => ?_)
                                            exact J244 z426 0 8 I446 J446 B446 G446 _ _ _ (by omega) (by omega) (by omega) (by omega) f448 f449 f450 f451 f452 e453 e454 e455 e456 e457 e458 e459 e460 e461 Y S (lv_sub hl [1, 2, 3, 4, 0] rfl)
                                          · refine lv_bipush (v := iI 9) X.1 X.2.1 d_M_reply_380 (by decide) ?_
                                            refine lv_goto (tgt := 387) X.1 X.2.1 d_M_reply_382 (by decide) ?_
                                            refine lv_istore (lv' := [(6, .int (iI 9)), (0, .ref h), (1, .int (iI a1)), (3, .int (iI z426)), (4, .long 0), (7, .int (iI z447))]) X.1 X.2.1 d_M_reply_387 hl (by decide) rfl (fun ls hl => ?_)
                                            exact J244 z426 0 9 I446 J446 B446 G446 _ _ _ (by omega) (by omega) (by omega) (by omega) f448 f449 f450 f451 f452 e453 e454 e455 e456 e457 e458 e459 e460 e461 Y S (lv_sub hl [1, 2, 3, 4, 0] rfl)
                                        · refine lv_aload_n X.1 X.2.1 d_M_reply_353 rfl (lv_at hl 0 rfl) ?_
                                          refine m_get X Y 56 (by decide) lk_made (gf_made _ _ _) rfl d_M_reply_354 ?_
                                          refine lv_iload X.1 X.2.1 d_M_reply_357 (lv_at hl 4 rfl) ?_
                                          refine lv_aload_n X.1 X.2.1 d_M_reply_359 rfl (lv_at hl 0 rfl) ?_
                                          refine m_get X Y 59 (by decide) lk_sub (gf_sub _ _ _) rfl d_M_reply_360 ?_
                                          refine lv_iload X.1 X.2.1 d_M_reply_363 (lv_at hl 4 rfl) ?_
                                          refine r_bald X Y S (aw_sub _ _ _ _ _ _ _) rfl (by omega) (show z447 < ((32 : Nat) : Int) by omega) (by omega) d_M_reply_365 (fun z469 q469 l469 u469 => ?_)
                                          refine r_bast X Y S (aw_made _ _ _ _ _ _ _) (sw_made _ _ _ _ _ _ _) rfl (by omega) (show z447 < ((32 : Nat) : Int) by omega) (by omega) (by decide) d_M_reply_366 (fun B470 H locs Y S w470 => ?_)
                                          refine lv_iinc (v := iI (z447 + 1)) (lv' := [(7, .int (iI (z447 + 1))), (0, .ref h), (1, .int (iI a1)), (3, .int (iI z426)), (4, .long 0)]) X.1 X.2.1 d_M_reply_367 hl (k := 4) rfl ((iI_add _ _).trans (congrArg iI (by omega))) (by decide) rfl (fun ls hl => ?_)
                                          refine lv_goto (tgt := 346) X.1 X.2.1 d_M_reply_370 (by decide) ?_
                                          exact ih463 ((32 - (z447 + 1)).toNat) (by omega) (z447 + 1) I446 J446 B470 G446 _ _ _ rfl (by omega) (by omega) (pG1_cg rfl rfl f448) (pG2_cg (w470.2 37 (by decide)) (w470.2 38 (by decide)) f449) (rrP_cg rfl (w470.2 37 (by decide)) (w470.2 38 (by decide)) f450) (ssP_cg (w470.2 37 (by decide)) (w470.2 38 (by decide)) f451) (thF_cg (w470.2 37 (by decide)) (w470.2 38 (by decide)) f452) e453 e454 e455 e456 e457 e458 e459 e460 e461 Y S (lv_sub hl [1, 2, 3, 4, 0] rfl)
                                  refine lv_istore (lv' := [(7, .int (iI 0)), (0, .ref h), (1, .int (iI a1)), (3, .int (iI z426)), (4, .long 0)]) X.1 X.2.1 d_M_reply_344 hl (by decide) rfl (fun ls hl => ?_)
                                  exact J462 _ 0 I427 J427 B427 G427 _ _ _ rfl (by omega) (by omega) f428 f429 f430 f431 f432 e433 e434 e435 e436 e437 e438 e439 e440 e441 Y S (lv_sub hl [1, 2, 3, 4, 0] rfl)
                              refine z_if_ne (tgt := 343) X.1 X.2.1 d_M_reply_329 (by decide) ⟨by omega, by omega⟩ (fun h471 => False.elim (by omega)) (fun h471 => ?_)
                              · refine lv_aload_n X.1 X.2.1 d_M_reply_332 rfl (lv_at hl 2 rfl) ?_
                                refine lv_iconst (v := iI 4) X.1 X.2.1 d_M_reply_333 (by decide) ?_
                                refine lv_iconst (v := iI 1) X.1 X.2.1 d_M_reply_334 (by decide) ?_
                                refine lv_aload_n X.1 X.2.1 d_M_reply_335 rfl (lv_at hl 2 rfl) ?_
                                refine m_get X Y 59 (by decide) lk_sub (gf_sub _ _ _) rfl d_M_reply_336 ?_
                                refine r_ni (m_run (As := [.int (iI 4), .int (iI 1), .ref ((q 59))]) (rest := []) (n := 3) X Y hZ hA hml hl.1 (r_M_keyIn_sub l D E h q H.size I424 J421 B421 G421 4 (by decide) (by decide) 1 (by decide) (by decide) S.1 (pG1_cg (w424.2 39 (by decide)) (w424.2 40 (by decide)) g421_P1) (pG2_cg rfl rfl g421_P2)) kl_M_keyIn ks_M_keyIn kx_M_keyIn ki_M_keyIn ini_M hd_M_keyIn ⟨Nat.le_of_ble_eq_true rfl, Nat.le_of_ble_eq_true rfl⟩ rfl (Nat.le_of_ble_eq_true rfl) d_M_reply_339 ⟨Nat.le_refl _, Nat.le_refl _⟩) X Y hA S (by decide) (by decide) (fun z472 u H locs Y S s472 p472 => ?_)
                                obtain ⟨I472, J472, B472, G472⟩ := u
                                dsimp only at Y S s472 p472
                                obtain ⟨l472, u472, x472, g472_P1, g472_P2, g472_TF⟩ := p472
                                have f473 : rrP rr (I472 69) (B472 37) (B472 38) := rrP_cg (s472.2.1 69 (by decide)) rfl rfl (rrP_T g472_TF (by decide) (rrP_cg (w424.2 69 (by decide)) rfl rfl f422))
                                have f474 : ssP ss (B472 37) (B472 38) := ssP_T g472_TF (by decide) (ssP_cg rfl rfl f423)
                                refine lv_pop X.1 X.2.1 d_M_reply_342 rfl ?_
                                exact J442 I472 J472 B472 G472 _ _ _ g472_P1 g472_P2 f473 f474 (thF_tr (thF_cg rfl rfl (thF_tr (thF_cg rfl rfl (thF_cg (s223.2.2 37 (by decide)) (s223.2.2 38 (by decide)) (thF_cg (s214.2.2 37 (by decide)) (s214.2.2 38 (by decide)) f212))) g421_TF (by decide))) g472_TF (by decide)) ((s472.2.1 69 (by decide)).trans ((w424.2 69 (by decide)).trans ((s421.2.1 69 (by decide)).trans ((s223.2.1 69 (by decide)).trans ((s214.2.1 69 (by decide)).trans ((s208.2.1 69 (by decide)).trans ((s206.2.1 69 (by decide)).trans ((s204.2.1 69 (by decide)).trans ((s200.2.1 69 (by decide)).trans ((s198.2.1 69 (by decide)).trans ((s193.2.1 69 (by decide)).trans ((s188.2.1 69 (by decide)).trans ((s187.2.1 69 (by decide)).trans ((s185.2.1 69 (by decide)).trans ((s182.2.1 69 (by decide)).trans e166))))))))))))))) ((s472.2.1 86 (by decide)).trans ((w424.2 86 (by decide)).trans ((s421.2.1 86 (by decide)).trans ((s223.2.1 86 (by decide)).trans ((s214.2.1 86 (by decide)).trans ((s208.2.1 86 (by decide)).trans ((s206.2.1 86 (by decide)).trans ((s204.2.1 86 (by decide)).trans ((s200.2.1 86 (by decide)).trans ((s198.2.1 86 (by decide)).trans ((s193.2.1 86 (by decide)).trans ((s188.2.1 86 (by decide)).trans ((s187.2.1 86 (by decide)).trans ((s185.2.1 86 (by decide)).trans ((s182.2.1 86 (by decide)).trans e167))))))))))))))) ((s472.2.1 87 (by decide)).trans ((w424.2 87 (by decide)).trans ((s421.2.1 87 (by decide)).trans ((s223.2.1 87 (by decide)).trans ((s214.2.1 87 (by decide)).trans ((s208.2.1 87 (by decide)).trans ((s206.2.1 87 (by decide)).trans ((s204.2.1 87 (by decide)).trans ((s200.2.1 87 (by decide)).trans ((s198.2.1 87 (by decide)).trans ((s193.2.1 87 (by decide)).trans ((s188.2.1 87 (by decide)).trans ((s187.2.1 87 (by decide)).trans ((s185.2.1 87 (by decide)).trans ((s182.2.1 87 (by decide)).trans e168))))))))))))))) ((s472.2.1 88 (by decide)).trans ((w424.2 88 (by decide)).trans ((s421.2.1 88 (by decide)).trans ((s223.2.1 88 (by decide)).trans ((s214.2.1 88 (by decide)).trans ((s208.2.1 88 (by decide)).trans ((s206.2.1 88 (by decide)).trans ((s204.2.1 88 (by decide)).trans ((s200.2.1 88 (by decide)).trans ((s198.2.1 88 (by decide)).trans ((s193.2.1 88 (by decide)).trans ((s188.2.1 88 (by decide)).trans ((s187.2.1 88 (by decide)).trans ((s185.2.1 88 (by decide)).trans ((s182.2.1 88 (by decide)).trans e169))))))))))))))) ((s472.2.1 89 (by decide)).trans ((w424.2 89 (by decide)).trans ((s421.2.1 89 (by decide)).trans ((s223.2.1 89 (by decide)).trans ((s214.2.1 89 (by decide)).trans ((s208.2.1 89 (by decide)).trans ((s206.2.1 89 (by decide)).trans ((s204.2.1 89 (by decide)).trans ((s200.2.1 89 (by decide)).trans ((s198.2.1 89 (by decide)).trans ((s193.2.1 89 (by decide)).trans ((s188.2.1 89 (by decide)).trans ((s187.2.1 89 (by decide)).trans ((s185.2.1 89 (by decide)).trans ((s182.2.1 89 (by decide)).trans e170))))))))))))))) ((s472.2.1 77 (by decide)).trans ((w424.2 77 (by decide)).trans ((s421.2.1 77 (by decide)).trans ((s223.2.1 77 (by decide)).trans ((s214.2.1 77 (by decide)).trans ((s208.2.1 77 (by decide)).trans ((s206.2.1 77 (by decide)).trans ((s204.2.1 77 (by decide)).trans ((s200.2.1 77 (by decide)).trans ((s198.2.1 77 (by decide)).trans ((s193.2.1 77 (by decide)).trans ((s188.2.1 77 (by decide)).trans ((s187.2.1 77 (by decide)).trans ((s185.2.1 77 (by decide)).trans ((s182.2.1 77 (by decide)).trans e171))))))))))))))) ((s472.2.1 75 (by decide)).trans ((w424.2 75 (by decide)).trans ((s421.2.1 75 (by decide)).trans ((s223.2.1 75 (by decide)).trans ((s214.2.1 75 (by decide)).trans ((s208.2.1 75 (by decide)).trans ((s206.2.1 75 (by decide)).trans ((s204.2.1 75 (by decide)).trans ((s200.2.1 75 (by decide)).trans ((s198.2.1 75 (by decide)).trans ((s193.2.1 75 (by decide)).trans ((s188.2.1 75 (by decide)).trans ((s187.2.1 75 (by decide)).trans ((s185.2.1 75 (by decide)).trans ((s182.2.1 75 (by decide)).trans e172))))))))))))))) ((s472.2.1 42 (by decide)).trans ((w424.2 42 (by decide)).trans ((s421.2.1 42 (by decide)).trans e225))) ((s472.2.1 33 (by decide)).trans ((w424.2 33 (by decide)).trans ((s421.2.1 33 (by decide)).trans ((s223.2.1 33 (by decide)).trans ((s214.2.1 33 (by decide)).trans ((s208.2.1 33 (by decide)).trans ((s206.2.1 33 (by decide)).trans ((s204.2.1 33 (by decide)).trans ((s200.2.1 33 (by decide)).trans ((s198.2.1 33 (by decide)).trans ((s193.2.1 33 (by decide)).trans ((s188.2.1 33 (by decide)).trans ((s187.2.1 33 (by decide)).trans ((s185.2.1 33 (by decide)).trans ((s182.2.1 33 (by decide)).trans e174))))))))))))))) Y S (lv_sub hl [2, 3, 0, 1] rfl)
                          · as_aux_lemma =>
                              refine lv_aload_n X.1 X.2.1 d_M_reply_313 rfl (lv_at hl 1 rfl) ?_
                              refine r_get0 X Y (by decide) lk_subType (gf_subType _ _ _) rfl w424.1 d_M_reply_314 ?_
                              refine lv_goto (tgt := 324) X.1 X.2.1 d_M_reply_317 (by decide) ?_
                              refine lv_istore_n (lv' := [(3, .int (iI z421)), (4, .long 0), (0, .ref h), (1, .int (iI a1))]) X.1 X.2.1 d_M_reply_324 rfl hl (by decide) rfl (fun ls hl => ?_)
                              refine lv_aload_n X.1 X.2.1 d_M_reply_325 rfl (lv_at hl 2 rfl) ?_
                              refine r_get0 X Y (by decide) lk_subType (gf_subType _ _ _) rfl w424.1 d_M_reply_326 ?_
                              have J475 : ∀  (H : Heap) (locs : List Loc) (ls : Array Slot), mH D E (mA E h q sz) s.heap h q I424 J421 B421 G421 H locs → rS [3, 8, 14, 18, 29, 33, 36, 39, 40, 42, 80] [0, 1, 5, 6, 7, 9, 10, 11, 12, 13, 15, 16, 17, 19, 20, 21, 22, 23, 24, 34, 35, 37, 38, 56, 59, 90] I B I424 B421 → lv_has ls 9 [(0, .ref h), (1, .int (iI a1)), (3, .int (iI z421)), (4, .long 0)] → W p l e (mR 44 2018) s m AV below meth c H locs 0 0 QQ (F0 m 343 ls []) := by
                                as_aux_lemma =>
                                  intro  H locs ls  Y S hl
                                  refine lv_iconst (v := iI 0) X.1 X.2.1 d_M_reply_343 (by decide) ?_
                                  have J495 : ∀ (n497 : Nat) (z480 : Int) (I479 : Nat → Int32) (J479 : Nat → Int64) (B479 : Nat → Nat → Int32) (G479 : Nat → Nat → Int64) (H : Heap) (locs : List Loc) (ls : Array Slot), (32 - z480).toNat = n497 → (0 ≤ z480) → (z480 ≤ 32) → (pG1 I479) → (pG2 (B479 37) (B479 38)) → (rrP rr (I479 69) (B479 37) (B479 38)) → (ssP ss (B479 37) (B479 38)) → (thF [7] (B 37) (B 38) (B479 37) (B479 38)) → (I479 69 = iI ia) → (I479 86 = iI aa) → (I479 87 = iI ae) → (I479 88 = iI ca) → (I479 89 = iI ce) → (I479 77 = iI ty) → (I479 75 = iI cl) → (I479 42 = iI z225) → (I479 33 = iI cn) → mH D E (mA E h q sz) s.heap h q I479 J479 B479 G479 H locs → rS [3, 8, 14, 18, 29, 33, 36, 39, 40, 42, 80] [0, 1, 5, 6, 7, 9, 10, 11, 12, 13, 15, 16, 17, 19, 20, 21, 22, 23, 24, 34, 35, 37, 38, 56, 59, 90] I B I479 B479 → lv_has ls 9 [(0, .ref h), (1, .int (iI a1)), (3, .int (iI z421)), (4, .long 0), (7, .int (iI z480))] → W p l e (mR 44 2018) s m AV below meth c H locs 0 0 QQ (F0 m 346 ls []) := by
                                    as_aux_lemma =>
                                      intro n497
                                      induction n497 using Nat.strongRecOn with
                                      | ind n497 ih496 =>
                                        intro z480 I479 J479 B479 G479 H locs ls hm498 l480 u480 f481 f482 f483 f484 f485 e486 e487 e488 e489 e490 e491 e492 e493 e494 Y S hl
                                        refine lv_iload X.1 X.2.1 d_M_reply_346 (lv_at hl 4 rfl) ?_
                                        refine lv_bipush (v := iI 32) X.1 X.2.1 d_M_reply_348 (by decide) ?_
                                        refine z_icmp_ge (tgt := 373) X.1 X.2.1 d_M_reply_350 (by decide) ⟨by omega, by omega⟩ ⟨by decide, by decide⟩ (fun h499 => ?_) (fun h499 => ?_)
                                        · refine lv_aload_n X.1 X.2.1 d_M_reply_373 rfl (lv_at hl 0 rfl) ?_
                                          refine r_geti (k := 80) X Y S (by decide) lk_subType (gf_subType _ _ _) rfl rfl d_M_reply_374 (fun z500 e500 l500 u500 => ?_)
                                          refine z_if_eq (tgt := 385) X.1 X.2.1 d_M_reply_377 (by decide) ⟨by omega, by omega⟩ (fun h501 => ?_) (fun h501 => ?_)
                                          · refine lv_bipush (v := iI 8) X.1 X.2.1 d_M_reply_385 (by decide) ?_
                                            refine lv_istore (lv' := [(6, .int (iI 8)), (0, .ref h), (1, .int (iI a1)), (3, .int (iI z421)), (4, .long 0), (7, .int (iI z480))]) X.1 X.2.1 d_M_reply_387 hl (by decide) rfl (fun ls hl => ?_)
                                            exact J244 z421 0 8 I479 J479 B479 G479 _ _ _ (by omega) (by omega) (by omega) (by omega) f481 f482 f483 f484 f485 e486 e487 e488 e489 e490 e491 e492 e493 e494 Y S (lv_sub hl [1, 2, 3, 4, 0] rfl)
                                          · refine lv_bipush (v := iI 9) X.1 X.2.1 d_M_reply_380 (by decide) ?_
                                            refine lv_goto (tgt := 387) X.1 X.2.1 d_M_reply_382 (by decide) ?_
                                            refine lv_istore (lv' := [(6, .int (iI 9)), (0, .ref h), (1, .int (iI a1)), (3, .int (iI z421)), (4, .long 0), (7, .int (iI z480))]) X.1 X.2.1 d_M_reply_387 hl (by decide) rfl (fun ls hl => ?_)
                                            exact J244 z421 0 9 I479 J479 B479 G479 _ _ _ (by omega) (by omega) (by omega) (by omega) f481 f482 f483 f484 f485 e486 e487 e488 e489 e490 e491 e492 e493 e494 Y S (lv_sub hl [1, 2, 3, 4, 0] rfl)
                                        · refine lv_aload_n X.1 X.2.1 d_M_reply_353 rfl (lv_at hl 0 rfl) ?_
                                          refine m_get X Y 56 (by decide) lk_made (gf_made _ _ _) rfl d_M_reply_354 ?_
                                          refine lv_iload X.1 X.2.1 d_M_reply_357 (lv_at hl 4 rfl) ?_
                                          refine lv_aload_n X.1 X.2.1 d_M_reply_359 rfl (lv_at hl 0 rfl) ?_
                                          refine m_get X Y 59 (by decide) lk_sub (gf_sub _ _ _) rfl d_M_reply_360 ?_
                                          refine lv_iload X.1 X.2.1 d_M_reply_363 (lv_at hl 4 rfl) ?_
                                          refine r_bald X Y S (aw_sub _ _ _ _ _ _ _) rfl (by omega) (show z480 < ((32 : Nat) : Int) by omega) (by omega) d_M_reply_365 (fun z502 q502 l502 u502 => ?_)
                                          refine r_bast X Y S (aw_made _ _ _ _ _ _ _) (sw_made _ _ _ _ _ _ _) rfl (by omega) (show z480 < ((32 : Nat) : Int) by omega) (by omega) (by decide) d_M_reply_366 (fun B503 H locs Y S w503 => ?_)
                                          refine lv_iinc (v := iI (z480 + 1)) (lv' := [(7, .int (iI (z480 + 1))), (0, .ref h), (1, .int (iI a1)), (3, .int (iI z421)), (4, .long 0)]) X.1 X.2.1 d_M_reply_367 hl (k := 4) rfl ((iI_add _ _).trans (congrArg iI (by omega))) (by decide) rfl (fun ls hl => ?_)
                                          refine lv_goto (tgt := 346) X.1 X.2.1 d_M_reply_370 (by decide) ?_
                                          exact ih496 ((32 - (z480 + 1)).toNat) (by omega) (z480 + 1) I479 J479 B503 G479 _ _ _ rfl (by omega) (by omega) (pG1_cg rfl rfl f481) (pG2_cg (w503.2 37 (by decide)) (w503.2 38 (by decide)) f482) (rrP_cg rfl (w503.2 37 (by decide)) (w503.2 38 (by decide)) f483) (ssP_cg (w503.2 37 (by decide)) (w503.2 38 (by decide)) f484) (thF_cg (w503.2 37 (by decide)) (w503.2 38 (by decide)) f485) e486 e487 e488 e489 e490 e491 e492 e493 e494 Y S (lv_sub hl [1, 2, 3, 4, 0] rfl)
                                  refine lv_istore (lv' := [(7, .int (iI 0)), (0, .ref h), (1, .int (iI a1)), (3, .int (iI z421)), (4, .long 0)]) X.1 X.2.1 d_M_reply_344 hl (by decide) rfl (fun ls hl => ?_)
                                  exact J495 _ 0 I424 J421 B421 G421 _ _ _ rfl (by omega) (by omega) (pG1_cg (w424.2 39 (by decide)) (w424.2 40 (by decide)) g421_P1) (pG2_cg rfl rfl g421_P2) (rrP_cg (w424.2 69 (by decide)) rfl rfl f422) (ssP_cg rfl rfl f423) (thF_cg rfl rfl (thF_tr (thF_cg rfl rfl (thF_cg (s223.2.2 37 (by decide)) (s223.2.2 38 (by decide)) (thF_cg (s214.2.2 37 (by decide)) (s214.2.2 38 (by decide)) f212))) g421_TF (by decide))) ((w424.2 69 (by decide)).trans ((s421.2.1 69 (by decide)).trans ((s223.2.1 69 (by decide)).trans ((s214.2.1 69 (by decide)).trans ((s208.2.1 69 (by decide)).trans ((s206.2.1 69 (by decide)).trans ((s204.2.1 69 (by decide)).trans ((s200.2.1 69 (by decide)).trans ((s198.2.1 69 (by decide)).trans ((s193.2.1 69 (by decide)).trans ((s188.2.1 69 (by decide)).trans ((s187.2.1 69 (by decide)).trans ((s185.2.1 69 (by decide)).trans ((s182.2.1 69 (by decide)).trans e166)))))))))))))) ((w424.2 86 (by decide)).trans ((s421.2.1 86 (by decide)).trans ((s223.2.1 86 (by decide)).trans ((s214.2.1 86 (by decide)).trans ((s208.2.1 86 (by decide)).trans ((s206.2.1 86 (by decide)).trans ((s204.2.1 86 (by decide)).trans ((s200.2.1 86 (by decide)).trans ((s198.2.1 86 (by decide)).trans ((s193.2.1 86 (by decide)).trans ((s188.2.1 86 (by decide)).trans ((s187.2.1 86 (by decide)).trans ((s185.2.1 86 (by decide)).trans ((s182.2.1 86 (by decide)).trans e167)))))))))))))) ((w424.2 87 (by decide)).trans ((s421.2.1 87 (by decide)).trans ((s223.2.1 87 (by decide)).trans ((s214.2.1 87 (by decide)).trans ((s208.2.1 87 (by decide)).trans ((s206.2.1 87 (by decide)).trans ((s204.2.1 87 (by decide)).trans ((s200.2.1 87 (by decide)).trans ((s198.2.1 87 (by decide)).trans ((s193.2.1 87 (by decide)).trans ((s188.2.1 87 (by decide)).trans ((s187.2.1 87 (by decide)).trans ((s185.2.1 87 (by decide)).trans ((s182.2.1 87 (by decide)).trans e168)))))))))))))) ((w424.2 88 (by decide)).trans ((s421.2.1 88 (by decide)).trans ((s223.2.1 88 (by decide)).trans ((s214.2.1 88 (by decide)).trans ((s208.2.1 88 (by decide)).trans ((s206.2.1 88 (by decide)).trans ((s204.2.1 88 (by decide)).trans ((s200.2.1 88 (by decide)).trans ((s198.2.1 88 (by decide)).trans ((s193.2.1 88 (by decide)).trans ((s188.2.1 88 (by decide)).trans ((s187.2.1 88 (by decide)).trans ((s185.2.1 88 (by decide)).trans ((s182.2.1 88 (by decide)).trans e169)))))))))))))) ((w424.2 89 (by decide)).trans ((s421.2.1 89 (by decide)).trans ((s223.2.1 89 (by decide)).trans ((s214.2.1 89 (by decide)).trans ((s208.2.1 89 (by decide)).trans ((s206.2.1 89 (by decide)).trans ((s204.2.1 89 (by decide)).trans ((s200.2.1 89 (by decide)).trans ((s198.2.1 89 (by decide)).trans ((s193.2.1 89 (by decide)).trans ((s188.2.1 89 (by decide)).trans ((s187.2.1 89 (by decide)).trans ((s185.2.1 89 (by decide)).trans ((s182.2.1 89 (by decide)).trans e170)))))))))))))) ((w424.2 77 (by decide)).trans ((s421.2.1 77 (by decide)).trans ((s223.2.1 77 (by decide)).trans ((s214.2.1 77 (by decide)).trans ((s208.2.1 77 (by decide)).trans ((s206.2.1 77 (by decide)).trans ((s204.2.1 77 (by decide)).trans ((s200.2.1 77 (by decide)).trans ((s198.2.1 77 (by decide)).trans ((s193.2.1 77 (by decide)).trans ((s188.2.1 77 (by decide)).trans ((s187.2.1 77 (by decide)).trans ((s185.2.1 77 (by decide)).trans ((s182.2.1 77 (by decide)).trans e171)))))))))))))) ((w424.2 75 (by decide)).trans ((s421.2.1 75 (by decide)).trans ((s223.2.1 75 (by decide)).trans ((s214.2.1 75 (by decide)).trans ((s208.2.1 75 (by decide)).trans ((s206.2.1 75 (by decide)).trans ((s204.2.1 75 (by decide)).trans ((s200.2.1 75 (by decide)).trans ((s198.2.1 75 (by decide)).trans ((s193.2.1 75 (by decide)).trans ((s188.2.1 75 (by decide)).trans ((s187.2.1 75 (by decide)).trans ((s185.2.1 75 (by decide)).trans ((s182.2.1 75 (by decide)).trans e172)))))))))))))) ((w424.2 42 (by decide)).trans ((s421.2.1 42 (by decide)).trans e225)) ((w424.2 33 (by decide)).trans ((s421.2.1 33 (by decide)).trans ((s223.2.1 33 (by decide)).trans ((s214.2.1 33 (by decide)).trans ((s208.2.1 33 (by decide)).trans ((s206.2.1 33 (by decide)).trans ((s204.2.1 33 (by decide)).trans ((s200.2.1 33 (by decide)).trans ((s198.2.1 33 (by decide)).trans ((s193.2.1 33 (by decide)).trans ((s188.2.1 33 (by decide)).trans ((s187.2.1 33 (by decide)).trans ((s185.2.1 33 (by decide)).trans ((s182.2.1 33 (by decide)).trans e174)))))))))))))) Y S (lv_sub hl [1, 2, 3, 4, 0] rfl)
                              refine z_if_ne (tgt := 343) X.1 X.2.1 d_M_reply_329 (by decide) ⟨by omega, by omega⟩ (fun h504 => ?_) (fun h504 => False.elim (by omega))
                              · exact J475  _ _ _  Y S (lv_sub hl [2, 3, 0, 1] rfl)
                  · as_aux_lemma =>
                      refine lv_aload_n X.1 X.2.1 d_M_reply_229 rfl (lv_at hl 1 rfl) ?_
                      refine r_get0 X Y (by decide) lk_type (gf_type _ _ _) rfl ((s223.2.1 77 (by decide)).trans ((s214.2.1 77 (by decide)).trans ((s208.2.1 77 (by decide)).trans ((s206.2.1 77 (by decide)).trans ((s204.2.1 77 (by decide)).trans ((s200.2.1 77 (by decide)).trans ((s198.2.1 77 (by decide)).trans ((s193.2.1 77 (by decide)).trans ((s188.2.1 77 (by decide)).trans ((s187.2.1 77 (by decide)).trans ((s185.2.1 77 (by decide)).trans ((s182.2.1 77 (by decide)).trans e171)))))))))))) d_M_reply_230 ?_
                      refine lv_istore_n (lv' := [(3, .int (iI ty)), (4, .long 0), (0, .ref h), (1, .int (iI a1))]) X.1 X.2.1 d_M_reply_233 rfl hl (by decide) rfl (fun ls hl => ?_)
                      refine lv_aload_n X.1 X.2.1 d_M_reply_234 rfl (lv_at hl 2 rfl) ?_
                      refine m_get X Y 46 (by decide) lk_versions (gf_versions _ _ _) rfl d_M_reply_235 ?_
                      refine lv_aload_n X.1 X.2.1 d_M_reply_238 rfl (lv_at hl 2 rfl) ?_
                      refine r_get0 X Y (by decide) lk_client (gf_client _ _ _) rfl ((s223.2.1 75 (by decide)).trans ((s214.2.1 75 (by decide)).trans ((s208.2.1 75 (by decide)).trans ((s206.2.1 75 (by decide)).trans ((s204.2.1 75 (by decide)).trans ((s200.2.1 75 (by decide)).trans ((s198.2.1 75 (by decide)).trans ((s193.2.1 75 (by decide)).trans ((s188.2.1 75 (by decide)).trans ((s187.2.1 75 (by decide)).trans ((s185.2.1 75 (by decide)).trans ((s182.2.1 75 (by decide)).trans e172)))))))))))) d_M_reply_239 ?_
                      refine r_iald X Y S (aw_versions _ _ _ _ _ _ _) rfl (by omega) (show cl < ((12 : Nat) : Int) by omega) (by omega) d_M_reply_242 (fun z505 q505 l505 u505 => ?_)
                      refine lv_i2l X.1 X.2.1 d_M_reply_243 rfl ?_
                      refine t_anyl (fun v506 => ?_)
                      refine lv_lstore (lv' := [(4, .long v506), (3, .int (iI ty)), (0, .ref h), (1, .int (iI a1))]) X.1 X.2.1 d_M_reply_244 hl (by decide) rfl (fun ls hl => ?_)
                      refine lv_aload_n X.1 X.2.1 d_M_reply_246 rfl (lv_at hl 2 rfl) ?_
                      refine lv_aload_n X.1 X.2.1 d_M_reply_247 rfl (lv_at hl 2 rfl) ?_
                      refine r_get0 X Y (by decide) lk_client (gf_client _ _ _) rfl ((s223.2.1 75 (by decide)).trans ((s214.2.1 75 (by decide)).trans ((s208.2.1 75 (by decide)).trans ((s206.2.1 75 (by decide)).trans ((s204.2.1 75 (by decide)).trans ((s200.2.1 75 (by decide)).trans ((s198.2.1 75 (by decide)).trans ((s193.2.1 75 (by decide)).trans ((s188.2.1 75 (by decide)).trans ((s187.2.1 75 (by decide)).trans ((s185.2.1 75 (by decide)).trans ((s182.2.1 75 (by decide)).trans e172)))))))))))) d_M_reply_248 ?_
                      refine lv_aload_n X.1 X.2.1 d_M_reply_251 rfl (lv_at hl 2 rfl) ?_
                      refine m_get X Y 46 (by decide) lk_versions (gf_versions _ _ _) rfl d_M_reply_252 ?_
                      refine lv_aload_n X.1 X.2.1 d_M_reply_255 rfl (lv_at hl 2 rfl) ?_
                      refine r_get0 X Y (by decide) lk_client (gf_client _ _ _) rfl ((s223.2.1 75 (by decide)).trans ((s214.2.1 75 (by decide)).trans ((s208.2.1 75 (by decide)).trans ((s206.2.1 75 (by decide)).trans ((s204.2.1 75 (by decide)).trans ((s200.2.1 75 (by decide)).trans ((s198.2.1 75 (by decide)).trans ((s193.2.1 75 (by decide)).trans ((s188.2.1 75 (by decide)).trans ((s187.2.1 75 (by decide)).trans ((s185.2.1 75 (by decide)).trans ((s182.2.1 75 (by decide)).trans e172)))))))))))) d_M_reply_256 ?_
                      refine r_iald X Y S (aw_versions _ _ _ _ _ _ _) rfl (by omega) (show cl < ((12 : Nat) : Int) by omega) (by omega) d_M_reply_259 (fun z507 q507 l507 u507 => ?_)
                      refine lv_aload_n X.1 X.2.1 d_M_reply_260 rfl (lv_at hl 2 rfl) ?_
                      refine r_get0 X Y (by decide) lk_type (gf_type _ _ _) rfl ((s223.2.1 77 (by decide)).trans ((s214.2.1 77 (by decide)).trans ((s208.2.1 77 (by decide)).trans ((s206.2.1 77 (by decide)).trans ((s204.2.1 77 (by decide)).trans ((s200.2.1 77 (by decide)).trans ((s198.2.1 77 (by decide)).trans ((s193.2.1 77 (by decide)).trans ((s188.2.1 77 (by decide)).trans ((s187.2.1 77 (by decide)).trans ((s185.2.1 77 (by decide)).trans ((s182.2.1 77 (by decide)).trans e171)))))))))))) d_M_reply_261 ?_
                      refine lv_aload_n X.1 X.2.1 d_M_reply_264 rfl (lv_at hl 2 rfl) ?_
                      refine m_get X Y 56 (by decide) lk_made (gf_made _ _ _) rfl d_M_reply_265 ?_
                      refine r_nv (m_run (As := [.int (iI cl), .int (iI z507), .int (iI ty), .ref ((q 56))]) (rest := []) (n := 4) X Y hZ hA hml hl.1 (r_M_keyOf_made l D E h q H.size I223 J223 B223 G223 cl (by omega) (by omega) z507 (by omega) (by omega) ty (by omega) (by omega) S.1) kl_M_keyOf ks_M_keyOf kx_M_keyOf ki_M_keyOf ini_M hd_M_keyOf ⟨Nat.le_of_ble_eq_true rfl, Nat.le_of_ble_eq_true rfl⟩ rfl (Nat.le_of_ble_eq_true rfl) d_M_reply_268 ⟨Nat.le_refl _, Nat.le_refl _⟩) X Y hA S (by decide) (by decide) (fun u H locs Y S s508 p508 => ?_)
                      obtain ⟨I508, J508, B508, G508⟩ := u
                      dsimp only at Y S s508 p508
                      have i508 : I223 = I508 := (funext (fun j => s508.2.1 j (by simp))).symm
                      subst i508
                      refine lv_iconst (v := iI 3) X.1 X.2.1 d_M_reply_271 (by decide) ?_
                      refine lv_istore (lv' := [(6, .int (iI 3)), (4, .long v506), (3, .int (iI ty)), (0, .ref h), (1, .int (iI a1))]) X.1 X.2.1 d_M_reply_272 hl (by decide) rfl (fun ls hl => ?_)
                      refine lv_goto (tgt := 389) X.1 X.2.1 d_M_reply_274 (by decide) ?_
                      exact J244 ty v506 3 I223 J508 B508 G508 _ _ _ (by omega) (by omega) (by omega) (by omega) (pG1_cg rfl rfl f224) (pG2_cg (s508.2.2 37 (by decide)) (s508.2.2 38 (by decide)) (pG2_cg (s223.2.2 37 (by decide)) (s223.2.2 38 (by decide)) (pG2_cg (s214.2.2 37 (by decide)) (s214.2.2 38 (by decide)) f209))) (rrP_cg rfl (s508.2.2 37 (by decide)) (s508.2.2 38 (by decide)) (rrP_cg (s223.2.1 69 (by decide)) (s223.2.2 37 (by decide)) (s223.2.2 38 (by decide)) (rrP_cg (s214.2.1 69 (by decide)) (s214.2.2 37 (by decide)) (s214.2.2 38 (by decide)) f210))) (ssP_cg (s508.2.2 37 (by decide)) (s508.2.2 38 (by decide)) (ssP_cg (s223.2.2 37 (by decide)) (s223.2.2 38 (by decide)) (ssP_cg (s214.2.2 37 (by decide)) (s214.2.2 38 (by decide)) f211))) (thF_cg (s508.2.2 37 (by decide)) (s508.2.2 38 (by decide)) (thF_cg (s223.2.2 37 (by decide)) (s223.2.2 38 (by decide)) (thF_cg (s214.2.2 37 (by decide)) (s214.2.2 38 (by decide)) f212))) ((s223.2.1 69 (by decide)).trans ((s214.2.1 69 (by decide)).trans ((s208.2.1 69 (by decide)).trans ((s206.2.1 69 (by decide)).trans ((s204.2.1 69 (by decide)).trans ((s200.2.1 69 (by decide)).trans ((s198.2.1 69 (by decide)).trans ((s193.2.1 69 (by decide)).trans ((s188.2.1 69 (by decide)).trans ((s187.2.1 69 (by decide)).trans ((s185.2.1 69 (by decide)).trans ((s182.2.1 69 (by decide)).trans e166)))))))))))) ((s223.2.1 86 (by decide)).trans ((s214.2.1 86 (by decide)).trans ((s208.2.1 86 (by decide)).trans ((s206.2.1 86 (by decide)).trans ((s204.2.1 86 (by decide)).trans ((s200.2.1 86 (by decide)).trans ((s198.2.1 86 (by decide)).trans ((s193.2.1 86 (by decide)).trans ((s188.2.1 86 (by decide)).trans ((s187.2.1 86 (by decide)).trans ((s185.2.1 86 (by decide)).trans ((s182.2.1 86 (by decide)).trans e167)))))))))))) ((s223.2.1 87 (by decide)).trans ((s214.2.1 87 (by decide)).trans ((s208.2.1 87 (by decide)).trans ((s206.2.1 87 (by decide)).trans ((s204.2.1 87 (by decide)).trans ((s200.2.1 87 (by decide)).trans ((s198.2.1 87 (by decide)).trans ((s193.2.1 87 (by decide)).trans ((s188.2.1 87 (by decide)).trans ((s187.2.1 87 (by decide)).trans ((s185.2.1 87 (by decide)).trans ((s182.2.1 87 (by decide)).trans e168)))))))))))) ((s223.2.1 88 (by decide)).trans ((s214.2.1 88 (by decide)).trans ((s208.2.1 88 (by decide)).trans ((s206.2.1 88 (by decide)).trans ((s204.2.1 88 (by decide)).trans ((s200.2.1 88 (by decide)).trans ((s198.2.1 88 (by decide)).trans ((s193.2.1 88 (by decide)).trans ((s188.2.1 88 (by decide)).trans ((s187.2.1 88 (by decide)).trans ((s185.2.1 88 (by decide)).trans ((s182.2.1 88 (by decide)).trans e169)))))))))))) ((s223.2.1 89 (by decide)).trans ((s214.2.1 89 (by decide)).trans ((s208.2.1 89 (by decide)).trans ((s206.2.1 89 (by decide)).trans ((s204.2.1 89 (by decide)).trans ((s200.2.1 89 (by decide)).trans ((s198.2.1 89 (by decide)).trans ((s193.2.1 89 (by decide)).trans ((s188.2.1 89 (by decide)).trans ((s187.2.1 89 (by decide)).trans ((s185.2.1 89 (by decide)).trans ((s182.2.1 89 (by decide)).trans e170)))))))))))) ((s223.2.1 77 (by decide)).trans ((s214.2.1 77 (by decide)).trans ((s208.2.1 77 (by decide)).trans ((s206.2.1 77 (by decide)).trans ((s204.2.1 77 (by decide)).trans ((s200.2.1 77 (by decide)).trans ((s198.2.1 77 (by decide)).trans ((s193.2.1 77 (by decide)).trans ((s188.2.1 77 (by decide)).trans ((s187.2.1 77 (by decide)).trans ((s185.2.1 77 (by decide)).trans ((s182.2.1 77 (by decide)).trans e171)))))))))))) ((s223.2.1 75 (by decide)).trans ((s214.2.1 75 (by decide)).trans ((s208.2.1 75 (by decide)).trans ((s206.2.1 75 (by decide)).trans ((s204.2.1 75 (by decide)).trans ((s200.2.1 75 (by decide)).trans ((s198.2.1 75 (by decide)).trans ((s193.2.1 75 (by decide)).trans ((s188.2.1 75 (by decide)).trans ((s187.2.1 75 (by decide)).trans ((s185.2.1 75 (by decide)).trans ((s182.2.1 75 (by decide)).trans e172)))))))))))) e225 ((s223.2.1 33 (by decide)).trans ((s214.2.1 33 (by decide)).trans ((s208.2.1 33 (by decide)).trans ((s206.2.1 33 (by decide)).trans ((s204.2.1 33 (by decide)).trans ((s200.2.1 33 (by decide)).trans ((s198.2.1 33 (by decide)).trans ((s193.2.1 33 (by decide)).trans ((s188.2.1 33 (by decide)).trans ((s187.2.1 33 (by decide)).trans ((s185.2.1 33 (by decide)).trans ((s182.2.1 33 (by decide)).trans e174)))))))))))) Y S (lv_sub hl [3, 4, 2, 1, 0] rfl)
              refine z_if_eq (tgt := 212) X.1 X.2.1 d_M_reply_204 (by decide) ⟨by omega, by omega⟩ (fun h509 => ?_) (fun h509 => ?_)
              · refine lv_bipush (v := iI 122) X.1 X.2.1 d_M_reply_212 (by decide) ?_
                exact J219 122 _ _ _ (by omega) (by omega) (by omega) (by omega) Y S (lv_sub hl [1, 2] rfl)
              · refine lv_bipush (v := iI 121) X.1 X.2.1 d_M_reply_207 (by decide) ?_
                refine lv_goto (tgt := 214) X.1 X.2.1 d_M_reply_209 (by decide) ?_
                exact J219 121 _ _ _ (by omega) (by omega) (by omega) (by omega) Y S (lv_sub hl [1, 2] rfl)
          refine z_if_eq (tgt := 107) X.1 X.2.1 d_M_reply_96 (by decide) ⟨by omega, by omega⟩ (fun h510 => ?_) (fun h510 => ?_)
          · refine lv_aload_n X.1 X.2.1 d_M_reply_107 rfl (lv_at hl 0 rfl) ?_
            refine lv_iconst (v := iI 4) X.1 X.2.1 d_M_reply_108 (by decide) ?_
            refine lv_iconst (v := iI 5) X.1 X.2.1 d_M_reply_109 (by decide) ?_
            refine r_nl (m_run (As := [.int (iI 4), .int (iI 5)]) (rest := [.int (iI 5), .ref h]) (n := 2) X Y hZ hA hml hl.1 (r_M_timeOf l D E h q H.size I157 J157 B157 G157 4 (by decide) (by decide) 5 (by decide) (by decide) S.1 (pG1_cg (s157.2.1 39 (by decide)) (s157.2.1 40 (by decide)) (pG1_cg (s153.2.1 39 (by decide)) (s153.2.1 40 (by decide)) f133)) (pG2_cg (s157.2.2 37 (by decide)) (s157.2.2 38 (by decide)) (pG2_cg (s153.2.2 37 (by decide)) (s153.2.2 38 (by decide)) f134))) kl_M_timeOf ks_M_timeOf kx_M_timeOf ki_M_timeOf ini_M hd_M_timeOf ⟨Nat.le_of_ble_eq_true rfl, Nat.le_of_ble_eq_true rfl⟩ rfl (Nat.le_of_ble_eq_true rfl) d_M_reply_110 ⟨Nat.le_refl _, Nat.le_refl _⟩) X Y hA S (by decide) (by decide) (fun v511 u H locs Y S s511 p511 => ?_)
            obtain ⟨I511, J511, B511, G511⟩ := u
            dsimp only at Y S s511 p511
            have b511 : B157 = B511 := (funext (fun j => s511.2.2 j (by simp))).symm
            subst b511
            have g511_P1 := p511
            exact J178 v511 z158 I511 J511 B157 G511 _ _ _ g511_P1 (pG2_cg rfl rfl (pG2_cg (s157.2.2 37 (by decide)) (s157.2.2 38 (by decide)) (pG2_cg (s153.2.2 37 (by decide)) (s153.2.2 38 (by decide)) f134))) (rrP_cg (s511.2.1 69 (by decide)) rfl rfl (rrP_cg (s157.2.1 69 (by decide)) (s157.2.2 37 (by decide)) (s157.2.2 38 (by decide)) (rrP_cg (s153.2.1 69 (by decide)) (s153.2.2 37 (by decide)) (s153.2.2 38 (by decide)) f135))) (ssP_cg rfl rfl (ssP_cg (s157.2.2 37 (by decide)) (s157.2.2 38 (by decide)) (ssP_cg (s153.2.2 37 (by decide)) (s153.2.2 38 (by decide)) f136))) (thF_cg rfl rfl (thF_cg (s157.2.2 37 (by decide)) (s157.2.2 38 (by decide)) (thF_cg (s153.2.2 37 (by decide)) (s153.2.2 38 (by decide)) f137))) ((s511.2.1 69 (by decide)).trans ((s157.2.1 69 (by decide)).trans ((s153.2.1 69 (by decide)).trans e138))) ((s511.2.1 86 (by decide)).trans ((s157.2.1 86 (by decide)).trans ((s153.2.1 86 (by decide)).trans e139))) ((s511.2.1 87 (by decide)).trans ((s157.2.1 87 (by decide)).trans ((s153.2.1 87 (by decide)).trans e140))) ((s511.2.1 88 (by decide)).trans ((s157.2.1 88 (by decide)).trans ((s153.2.1 88 (by decide)).trans e141))) ((s511.2.1 89 (by decide)).trans ((s157.2.1 89 (by decide)).trans ((s153.2.1 89 (by decide)).trans e142))) ((s511.2.1 77 (by decide)).trans ((s157.2.1 77 (by decide)).trans ((s153.2.1 77 (by decide)).trans e143))) ((s511.2.1 75 (by decide)).trans ((s157.2.1 75 (by decide)).trans ((s153.2.1 75 (by decide)).trans e144))) ((s511.2.1 42 (by decide)).trans e158) ((s511.2.1 33 (by decide)).trans ((s157.2.1 33 (by decide)).trans ((s153.2.1 33 (by decide)).trans e145))) ((s511.2.1 42 (by decide)).trans e158) (by omega) (by omega) (by omega) (by omega) Y S (lv_sub hl [0, 1] rfl)
          · refine lv_aload_n X.1 X.2.1 d_M_reply_99 rfl (lv_at hl 0 rfl) ?_
            refine r_get0 X Y (by decide) lk_now (gf_now _ _ _) rfl ((s157.2.1 4 (by decide)).trans e155) d_M_reply_100 ?_
            refine lv_i2l X.1 X.2.1 d_M_reply_103 rfl ?_
            refine t_anyl (fun v512 => ?_)
            refine lv_goto (tgt := 113) X.1 X.2.1 d_M_reply_104 (by decide) ?_
            exact J178 v512 z158 I157 J157 B157 G157 _ _ _ (pG1_cg (s157.2.1 39 (by decide)) (s157.2.1 40 (by decide)) (pG1_cg (s153.2.1 39 (by decide)) (s153.2.1 40 (by decide)) f133)) (pG2_cg (s157.2.2 37 (by decide)) (s157.2.2 38 (by decide)) (pG2_cg (s153.2.2 37 (by decide)) (s153.2.2 38 (by decide)) f134)) (rrP_cg (s157.2.1 69 (by decide)) (s157.2.2 37 (by decide)) (s157.2.2 38 (by decide)) (rrP_cg (s153.2.1 69 (by decide)) (s153.2.2 37 (by decide)) (s153.2.2 38 (by decide)) f135)) (ssP_cg (s157.2.2 37 (by decide)) (s157.2.2 38 (by decide)) (ssP_cg (s153.2.2 37 (by decide)) (s153.2.2 38 (by decide)) f136)) (thF_cg (s157.2.2 37 (by decide)) (s157.2.2 38 (by decide)) (thF_cg (s153.2.2 37 (by decide)) (s153.2.2 38 (by decide)) f137)) ((s157.2.1 69 (by decide)).trans ((s153.2.1 69 (by decide)).trans e138)) ((s157.2.1 86 (by decide)).trans ((s153.2.1 86 (by decide)).trans e139)) ((s157.2.1 87 (by decide)).trans ((s153.2.1 87 (by decide)).trans e140)) ((s157.2.1 88 (by decide)).trans ((s153.2.1 88 (by decide)).trans e141)) ((s157.2.1 89 (by decide)).trans ((s153.2.1 89 (by decide)).trans e142)) ((s157.2.1 77 (by decide)).trans ((s153.2.1 77 (by decide)).trans e143)) ((s157.2.1 75 (by decide)).trans ((s153.2.1 75 (by decide)).trans e144)) e158 ((s157.2.1 33 (by decide)).trans ((s153.2.1 33 (by decide)).trans e145)) e158 (by omega) (by omega) (by omega) (by omega) Y S (lv_sub hl [0, 1] rfl)
      refine z_if_eq (tgt := 69) X.1 X.2.1 d_M_reply_56 (by decide) ⟨by omega, by omega⟩ (fun h513 => ?_) (fun h513 => ?_)
      · exact J149 z130 I129 J129 B129 G129 _ _ _ (pG1_cg (s129.2.1 39 (by decide)) (s129.2.1 40 (by decide)) (pG1_cg (s127.2.1 39 (by decide)) (s127.2.1 40 (by decide)) (pG1_cg rfl rfl (pG1_cg rfl rfl f104)))) (pG2_cg (s129.2.2 37 (by decide)) (s129.2.2 38 (by decide)) (pG2_cg (s127.2.2 37 (by decide)) (s127.2.2 38 (by decide)) (pG2_cg rfl rfl (pG2_cg rfl rfl f105)))) (rrP_cg (s129.2.1 69 (by decide)) (s129.2.2 37 (by decide)) (s129.2.2 38 (by decide)) (rrP_cg (s127.2.1 69 (by decide)) (s127.2.2 37 (by decide)) (s127.2.2 38 (by decide)) (rrP_cg rfl rfl rfl (rrP_cg rfl rfl rfl f106)))) (ssP_cg (s129.2.2 37 (by decide)) (s129.2.2 38 (by decide)) (ssP_cg (s127.2.2 37 (by decide)) (s127.2.2 38 (by decide)) (ssP_cg rfl rfl (ssP_cg rfl rfl f107)))) (thF_cg (s129.2.2 37 (by decide)) (s129.2.2 38 (by decide)) (thF_cg (s127.2.2 37 (by decide)) (s127.2.2 38 (by decide)) (thF_cg rfl rfl (thF_cg rfl rfl f108)))) ((s129.2.1 69 (by decide)).trans ((s127.2.1 69 (by decide)).trans e109)) ((s129.2.1 86 (by decide)).trans ((s127.2.1 86 (by decide)).trans e110)) ((s129.2.1 87 (by decide)).trans ((s127.2.1 87 (by decide)).trans e111)) ((s129.2.1 88 (by decide)).trans ((s127.2.1 88 (by decide)).trans e112)) ((s129.2.1 89 (by decide)).trans ((s127.2.1 89 (by decide)).trans e113)) ((s129.2.1 77 (by decide)).trans ((s127.2.1 77 (by decide)).trans e114)) ((s129.2.1 75 (by decide)).trans ((s127.2.1 75 (by decide)).trans e115)) ((s129.2.1 33 (by decide)).trans ((s127.2.1 33 (by decide)).trans e116)) e130 (by omega) (by omega) (by omega) (by omega) Y S (lv_sub hl [0, 1] rfl)
      · refine lv_aload_n X.1 X.2.1 d_M_reply_59 rfl (lv_at hl 0 rfl) ?_
        refine lv_bipush (v := iI 8) X.1 X.2.1 d_M_reply_60 (by decide) ?_
        refine lv_aload_n X.1 X.2.1 d_M_reply_62 rfl (lv_at hl 0 rfl) ?_
        refine m_get X Y 83 (by decide) lk_newRenew (gf_newRenew _ _ _) rfl d_M_reply_63 ?_
        refine r_nv (m_run (As := [.int (iI 8), .long ((J129 83))]) (rest := []) (n := 2) X Y hZ hA hml hl.1 (r_M_timeField l D E h q H.size I129 J129 B129 G129 8 (by decide) (by decide) ((J129 83)) S.1 z130 e130 (by omega) (by omega)) kl_M_timeField ks_M_timeField kx_M_timeField ki_M_timeField ini_M hd_M_timeField ⟨Nat.le_of_ble_eq_true rfl, Nat.le_of_ble_eq_true rfl⟩ rfl (Nat.le_of_ble_eq_true rfl) d_M_reply_66 ⟨Nat.le_refl _, Nat.le_refl _⟩) X Y hA S (by decide) (by decide) (fun u H locs Y S s514 p514 => ?_)
        obtain ⟨I514, J514, B514, G514⟩ := u
        dsimp only at Y S s514 p514
        have f515 : rrP rr (I514 69) (B514 37) (B514 38) := (rrP_cg (s514.2.1 69 (by decide)) (s514.2.2 37 (by decide)) (s514.2.2 38 (by decide)) (rrP_cg (s129.2.1 69 (by decide)) (s129.2.2 37 (by decide)) (s129.2.2 38 (by decide)) (rrP_cg (s127.2.1 69 (by decide)) (s127.2.2 37 (by decide)) (s127.2.2 38 (by decide)) (rrP_cg rfl rfl rfl (rrP_cg rfl rfl rfl f106)))))
        obtain ⟨x514, g514_MF⟩ := p514
        obtain ⟨z516, e516, l516, u516⟩ := x514
        exact J149 z516 I514 J514 B514 G514 _ _ _ (pG1_cg (s514.2.1 39 (by decide)) (s514.2.1 40 (by decide)) (pG1_cg (s129.2.1 39 (by decide)) (s129.2.1 40 (by decide)) (pG1_cg (s127.2.1 39 (by decide)) (s127.2.1 40 (by decide)) (pG1_cg rfl rfl (pG1_cg rfl rfl f104))))) (pG2_cg (s514.2.2 37 (by decide)) (s514.2.2 38 (by decide)) (pG2_cg (s129.2.2 37 (by decide)) (s129.2.2 38 (by decide)) (pG2_cg (s127.2.2 37 (by decide)) (s127.2.2 38 (by decide)) (pG2_cg rfl rfl (pG2_cg rfl rfl f105))))) f515 (ssP_cg (s514.2.2 37 (by decide)) (s514.2.2 38 (by decide)) (ssP_cg (s129.2.2 37 (by decide)) (s129.2.2 38 (by decide)) (ssP_cg (s127.2.2 37 (by decide)) (s127.2.2 38 (by decide)) (ssP_cg rfl rfl (ssP_cg rfl rfl f107))))) (thF_cg (s514.2.2 37 (by decide)) (s514.2.2 38 (by decide)) (thF_cg (s129.2.2 37 (by decide)) (s129.2.2 38 (by decide)) (thF_cg (s127.2.2 37 (by decide)) (s127.2.2 38 (by decide)) (thF_cg rfl rfl (thF_cg rfl rfl f108))))) ((s514.2.1 69 (by decide)).trans ((s129.2.1 69 (by decide)).trans ((s127.2.1 69 (by decide)).trans e109))) ((s514.2.1 86 (by decide)).trans ((s129.2.1 86 (by decide)).trans ((s127.2.1 86 (by decide)).trans e110))) ((s514.2.1 87 (by decide)).trans ((s129.2.1 87 (by decide)).trans ((s127.2.1 87 (by decide)).trans e111))) ((s514.2.1 88 (by decide)).trans ((s129.2.1 88 (by decide)).trans ((s127.2.1 88 (by decide)).trans e112))) ((s514.2.1 89 (by decide)).trans ((s129.2.1 89 (by decide)).trans ((s127.2.1 89 (by decide)).trans e113))) ((s514.2.1 77 (by decide)).trans ((s129.2.1 77 (by decide)).trans ((s127.2.1 77 (by decide)).trans e114))) ((s514.2.1 75 (by decide)).trans ((s129.2.1 75 (by decide)).trans ((s127.2.1 75 (by decide)).trans e115))) ((s514.2.1 33 (by decide)).trans ((s129.2.1 33 (by decide)).trans ((s127.2.1 33 (by decide)).trans e116))) e516 (by omega) (by omega) (by omega) (by omega) Y S (lv_sub hl [0, 1] rfl)
  refine z_if_eq (tgt := 25) X.1 X.2.1 d_M_reply_8 (by decide) ⟨by omega, by omega⟩ (fun h517 => ?_) (fun h517 => ?_)
  · exact J120 60000 I101 J101 B G101 _ _ _ (pG1_cg (s101.2.1 39 (by decide)) (s101.2.1 40 (by decide)) f_P1) (pG2_cg rfl rfl f_P2) (rrP_cg (s101.2.1 69 (by decide)) rfl rfl f_RR) (ssP_cg rfl rfl f_SS) (thF_cg rfl rfl thF_rf) ((s101.2.1 69 (by decide)).trans gia) ((s101.2.1 86 (by decide)).trans gaa) ((s101.2.1 87 (by decide)).trans gae) ((s101.2.1 88 (by decide)).trans gca) ((s101.2.1 89 (by decide)).trans gce) ((s101.2.1 77 (by decide)).trans gty) ((s101.2.1 75 (by decide)).trans gcl) ((s101.2.1 33 (by decide)).trans gcn) (x101.trans (congrArg iI (show (60000 : Int) = 60000 by omega))) (by omega) (by omega) (by omega) (by omega) Y S (lv_sub hl [0, 1] rfl)
  · refine lv_aload_n X.1 X.2.1 d_M_reply_11 rfl (lv_at hl 0 rfl) ?_
    refine lv_bipush (v := iI 11) X.1 X.2.1 d_M_reply_12 (by decide) ?_
    refine lv_aload_n X.1 X.2.1 d_M_reply_14 rfl (lv_at hl 0 rfl) ?_
    refine r_get0 X Y (by decide) lk_addressAt (gf_addressAt _ _ _) rfl ((s101.2.1 86 (by decide)).trans gaa) d_M_reply_15 ?_
    refine lv_aload_n X.1 X.2.1 d_M_reply_18 rfl (lv_at hl 0 rfl) ?_
    refine r_get0 X Y (by decide) lk_addressEnd (gf_addressEnd _ _ _) rfl ((s101.2.1 87 (by decide)).trans gae) d_M_reply_19 ?_
    refine r_nv (m_run (As := [.int (iI 11), .int (iI aa), .int (iI ae)]) (rest := []) (n := 3) X Y hZ hA hml hl.1 (r_M_copyField l D E h q H.size I101 J101 B G101 11 (by decide) (by decide) aa (by omega) (by omega) ae (by omega) (by omega) S.1 60000 (x101.trans (congrArg iI (show (60000 : Int) = 60000 by omega))) (by omega) (by omega) (by omega) (by omega) (by omega) (by omega)) kl_M_copyField ks_M_copyField kx_M_copyField ki_M_copyField ini_M hd_M_copyField ⟨Nat.le_of_ble_eq_true rfl, Nat.le_of_ble_eq_true rfl⟩ rfl (Nat.le_of_ble_eq_true rfl) d_M_reply_22 ⟨Nat.le_refl _, Nat.le_refl _⟩) X Y hA S (by decide) (by decide) (fun u H locs Y S s518 p518 => ?_)
    obtain ⟨I518, J518, B518, G518⟩ := u
    dsimp only at Y S s518 p518
    obtain ⟨x518, g518_MF⟩ := p518
    obtain ⟨z519, e519, l519, u519⟩ := x518
    exact J120 z519 I518 J518 B518 G518 _ _ _ (pG1_cg (s518.2.1 39 (by decide)) (s518.2.1 40 (by decide)) (pG1_cg (s101.2.1 39 (by decide)) (s101.2.1 40 (by decide)) f_P1)) (pG2_cg (s518.2.2 37 (by decide)) (s518.2.2 38 (by decide)) (pG2_cg rfl rfl f_P2)) (rrP_cg (s518.2.1 69 (by decide)) (s518.2.2 37 (by decide)) (s518.2.2 38 (by decide)) (rrP_cg (s101.2.1 69 (by decide)) rfl rfl f_RR)) (ssP_cg (s518.2.2 37 (by decide)) (s518.2.2 38 (by decide)) (ssP_cg rfl rfl f_SS)) (thF_cg (s518.2.2 37 (by decide)) (s518.2.2 38 (by decide)) (thF_cg rfl rfl thF_rf)) ((s518.2.1 69 (by decide)).trans ((s101.2.1 69 (by decide)).trans gia)) ((s518.2.1 86 (by decide)).trans ((s101.2.1 86 (by decide)).trans gaa)) ((s518.2.1 87 (by decide)).trans ((s101.2.1 87 (by decide)).trans gae)) ((s518.2.1 88 (by decide)).trans ((s101.2.1 88 (by decide)).trans gca)) ((s518.2.1 89 (by decide)).trans ((s101.2.1 89 (by decide)).trans gce)) ((s518.2.1 77 (by decide)).trans ((s101.2.1 77 (by decide)).trans gty)) ((s518.2.1 75 (by decide)).trans ((s101.2.1 75 (by decide)).trans gcl)) ((s518.2.1 33 (by decide)).trans ((s101.2.1 33 (by decide)).trans gcn)) e519 (by omega) (by omega) (by omega) (by omega) Y S (lv_sub hl [0, 1] rfl)
