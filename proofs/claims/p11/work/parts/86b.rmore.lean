set_option maxHeartbeats 4000000 in
set_option maxRecDepth 100000 in
theorem r_M_setKeys (l : Launch) (D : mD) (E : mE) (h : Nat) (q : Nat → Nat) (sz : Nat) (I : Nat → Int32) (J : Nat → Int64) (B : Nat → Nat → Int32) (G : Nat → Nat → Int64) (a1 : Int) (l_a1 : 0 ≤ a1) (u_a1 : a1 ≤ 11) (a2 : Int) (l_a2 : 1 ≤ a2) (u_a2 : a2 ≤ 200) (hT : rT I B) (pn : Int) (gpn : I 30 = iI pn) (lpn : 0 ≤ pn) (upn : pn ≤ 30) (vn : Int) (uvn : vn ≤ 1999) (f_V : vB vn (B 46)) : Met l y_M_setKeys (k_M_setKeys :: lw_tg) (mR 7 208) (va_Pc [.ref h, .int (iI a1), .int (iI a2)] (mPre D E h q (I, J, B, G) sz)) (va_Qv (rPv [8, 14, 18, 29] [5, 6, 7, 9, 10, 11, 12, 13, 15, 16, 17, 19, 20, 21, 24, 26, 27, 46, 47, 52, 56] I B (fun (u : mS) => vB (vn + 1) (u.2.2.1 46))) (mPost D E h q (mA E h q sz)) (mA E h q sz)) 0 0 (mA E h q sz) := by
  refine m_enter (by decide) rfl (Nat.le_of_ble_eq_true rfl) (fun p e s m below meth c ls AV QQ H locs hQQ X Y hZ hA hr hlk hml hl => ?_)
  have Y : mH D E (mA E h q sz) s.heap h q I J B G H locs := Y
  have S : rS [8, 14, 18, 29] [5, 6, 7, 9, 10, 11, 12, 13, 15, 16, 17, 19, 20, 21, 24, 26, 27, 46, 47, 52, 56] I B I B := rS_rf hT
  have hl : lv_has ls 5 [(0, .ref h), (1, .int (iI a1)), (2, .int (iI a2))] := hl
  have gv1 := f_V (a1).toNat (by omega)
  refine lv_aload_n X.1 X.2.1 d_M_setKeys_0 rfl (lv_at hl 0 rfl) ?_
  refine m_get X Y 46 (by decide) lk_versions (gf_versions _ _ _) rfl d_M_setKeys_1 ?_
  refine lv_iload_n X.1 X.2.1 d_M_setKeys_4 rfl (lv_at hl 1 rfl) ?_
  refine lv_dup2_11 X.1 X.2.1 d_M_setKeys_5 rfl rfl ?_
  refine r_iald X Y S (aw_versions _ _ _ _ _ _ _) rfl (by omega) (show a1 < ((12 : Nat) : Int) by omega) (by omega) d_M_setKeys_6 (fun z101 q101 l101 u101 => ?_)
  refine lv_iconst (v := iI 1) X.1 X.2.1 d_M_setKeys_7 (by decide) ?_
  refine z_iadd X.1 X.2.1 d_M_setKeys_8 ?_
  refine r_iast X Y S (aw_versions _ _ _ _ _ _ _) (sw_versions _ _ _ _ _ _ _) rfl ⟨(show (0 : Int) ≤ z101 + 1 by omega), (show z101 + 1 ≤ (2000 : Int) by omega)⟩ ⟨by omega, by omega⟩ (by omega) (show a1 < ((12 : Nat) : Int) by omega) (by omega) (by decide) d_M_setKeys_9 (fun B102 H locs Y S w102 => ?_)
  have f103 : vB (vn + 1) (B102 46) := by rw [w102.1]; exact vB_up (vB_le (show vn ≤ vn + 1 by omega) f_V) ⟨by omega, by omega⟩ (show z101 + 1 ≤ vn + 1 by omega)
  refine lv_aload_n X.1 X.2.1 d_M_setKeys_10 rfl (lv_at hl 0 rfl) ?_
  refine m_get X Y 47 (by decide) lk_counts (gf_counts _ _ _) rfl d_M_setKeys_11 ?_
  refine lv_iload_n X.1 X.2.1 d_M_setKeys_14 rfl (lv_at hl 1 rfl) ?_
  refine lv_iload_n X.1 X.2.1 d_M_setKeys_15 rfl (lv_at hl 2 rfl) ?_
  refine r_iast X Y S (aw_counts _ _ _ _ _ _ _) (sw_counts _ _ _ _ _ _ _) rfl ⟨(show ((-2147483648) : Int) ≤ a2 by omega), (show a2 ≤ (2147483647 : Int) by omega)⟩ ⟨by omega, by omega⟩ (by omega) (show a1 < ((12 : Nat) : Int) by omega) (by omega) (by decide) d_M_setKeys_16 (fun B104 H locs Y S w104 => ?_)
  refine lv_aload_n X.1 X.2.1 d_M_setKeys_17 rfl (lv_at hl 0 rfl) ?_
  refine lv_aload_n X.1 X.2.1 d_M_setKeys_18 rfl (lv_at hl 0 rfl) ?_
  refine m_get X Y 44 (by decide) lk_names (gf_names _ _ _) rfl d_M_setKeys_19 ?_
  refine lv_bipush (v := iI 40) X.1 X.2.1 d_M_setKeys_22 (by decide) ?_
  refine lv_iload_n X.1 X.2.1 d_M_setKeys_24 rfl (lv_at hl 1 rfl) ?_
  refine z_imul X.1 X.2.1 d_M_setKeys_25 ?_
  refine lv_aload_n X.1 X.2.1 d_M_setKeys_26 rfl (lv_at hl 0 rfl) ?_
  refine m_get X Y 45 (by decide) lk_nameSizes (gf_nameSizes _ _ _) rfl d_M_setKeys_27 ?_
  refine lv_iload_n X.1 X.2.1 d_M_setKeys_30 rfl (lv_at hl 1 rfl) ?_
  refine r_iald X Y S (aw_nameSizes _ _ _ _ _ _ _) rfl (by omega) (show a1 < ((12 : Nat) : Int) by omega) (by omega) d_M_setKeys_31 (fun z105 q105 l105 u105 => ?_)
  refine r_nv (m_run (As := [.ref ((q 44)), .int (iI (40 * a1)), .int (iI z105)]) (rest := []) (n := 3) X Y hZ hA hml hl.1 (r_M_saltOf_names l D E h q H.size I J B104 G (40 * a1) (by omega) (by omega) z105 (by omega) (by omega) S.1) kl_M_saltOf ks_M_saltOf kx_M_saltOf ki_M_saltOf ini_M hd_M_saltOf ⟨Nat.le_of_ble_eq_true rfl, Nat.le_of_ble_eq_true rfl⟩ rfl (Nat.le_of_ble_eq_true rfl) d_M_setKeys_32 ⟨Nat.le_refl _, Nat.le_refl _⟩) X Y hA S (by decide) (by decide) (fun u H locs Y S s106 p106 => ?_)
  obtain ⟨I106, J106, B106, G106⟩ := u
  dsimp only at Y S s106 p106
  refine lv_iconst (v := iI 0) X.1 X.2.1 d_M_setKeys_35 (by decide) ?_
  have J111 : ∀ (n113 : Nat) (z108 : Int) (I107 : Nat → Int32) (J107 : Nat → Int64) (B107 : Nat → Nat → Int32) (G107 : Nat → Nat → Int64) (H : Heap) (locs : List Loc) (ls : Array Slot), (2 - z108).toNat = n113 → (0 ≤ z108) → (z108 ≤ 2) → (vB (vn + 1) (B107 46)) → (I107 30 = iI pn) → mH D E (mA E h q sz) s.heap h q I107 J107 B107 G107 H locs → rS [8, 14, 18, 29] [5, 6, 7, 9, 10, 11, 12, 13, 15, 16, 17, 19, 20, 21, 24, 26, 27, 46, 47, 52, 56] I B I107 B107 → lv_has ls 5 [(0, .ref h), (1, .int (iI a1)), (2, .int (iI a2)), (3, .int (iI z108))] → W p l e (mR 7 208) s m AV below meth c H locs 0 0 QQ (F0 m 37 ls []) := by
    intro n113
    induction n113 using Nat.strongRecOn with
    | ind n113 ih112 =>
      intro z108 I107 J107 B107 G107 H locs ls hm114 l108 u108 f109 e110 Y S hl
      refine lv_iload_n X.1 X.2.1 d_M_setKeys_37 rfl (lv_at hl 3 rfl) ?_
      refine lv_iconst (v := iI 2) X.1 X.2.1 d_M_setKeys_38 (by decide) ?_
      refine z_icmp_ge (tgt := 133) X.1 X.2.1 d_M_setKeys_39 (by decide) ⟨by omega, by omega⟩ ⟨by omega, by omega⟩ (fun h115 => ?_) (fun h115 => ?_)
      · exact m_retv hQQ X Y hr hlk ⟨S, f109⟩ d_M_setKeys_133
      · refine lv_aload_n X.1 X.2.1 d_M_setKeys_42 rfl (lv_at hl 0 rfl) ?_
        refine lv_iload_n X.1 X.2.1 d_M_setKeys_43 rfl (lv_at hl 3 rfl) ?_
        have J117 : ∀ (z116 : Int) (H : Heap) (locs : List Loc) (ls : Array Slot), (16 ≤ z116) → (z116 ≤ 32) → mH D E (mA E h q sz) s.heap h q I107 J107 B107 G107 H locs → rS [8, 14, 18, 29] [5, 6, 7, 9, 10, 11, 12, 13, 15, 16, 17, 19, 20, 21, 24, 26, 27, 46, 47, 52, 56] I B I107 B107 → lv_has ls 5 [(0, .ref h), (1, .int (iI a1)), (2, .int (iI a2)), (3, .int (iI z108))] → W p l e (mR 7 208) s m AV below meth c H locs 0 0 QQ (F0 m 54 ls [.int (iI z116), .ref h]) := by
          intro z116 H locs ls l116 u116 Y S hl
          refine lv_iload_n X.1 X.2.1 d_M_setKeys_54 rfl (lv_at hl 2 rfl) ?_
          refine lv_aload_n X.1 X.2.1 d_M_setKeys_55 rfl (lv_at hl 0 rfl) ?_
          refine m_get X Y 56 (by decide) lk_made (gf_made _ _ _) rfl d_M_setKeys_56 ?_
          refine r_nv (m_run (As := [.int (iI z116), .int (iI a2), .ref ((q 56))]) (rest := []) (n := 3) X Y hZ hA hml hl.1 (r_M_passwordKey_made l D E h q H.size I107 J107 B107 G107 z116 (by omega) (by omega) a2 (by omega) (by omega) S.1 pn e110 (by omega) (by omega)) kl_M_passwordKey ks_M_passwordKey kx_M_passwordKey ki_M_passwordKey ini_M hd_M_passwordKey ⟨Nat.le_of_ble_eq_true rfl, Nat.le_of_ble_eq_true rfl⟩ rfl (Nat.le_of_ble_eq_true rfl) d_M_setKeys_59 ⟨Nat.le_refl _, Nat.le_refl _⟩) X Y hA S (by decide) (by decide) (fun u H locs Y S s121 p121 => ?_)
          obtain ⟨I121, J121, B121, G121⟩ := u
          dsimp only at Y S s121 p121
          refine lv_iconst (v := iI 0) X.1 X.2.1 d_M_setKeys_62 (by decide) ?_
          have J126 : ∀ (n128 : Nat) (z123 : Int) (I122 : Nat → Int32) (J122 : Nat → Int64) (B122 : Nat → Nat → Int32) (G122 : Nat → Nat → Int64) (H : Heap) (locs : List Loc) (ls : Array Slot), (32 - z123).toNat = n128 → (0 ≤ z123) → (z123 ≤ 32) → (vB (vn + 1) (B122 46)) → (I122 30 = iI pn) → mH D E (mA E h q sz) s.heap h q I122 J122 B122 G122 H locs → rS [8, 14, 18, 29] [5, 6, 7, 9, 10, 11, 12, 13, 15, 16, 17, 19, 20, 21, 24, 26, 27, 46, 47, 52, 56] I B I122 B122 → lv_has ls 5 [(0, .ref h), (1, .int (iI a1)), (2, .int (iI a2)), (3, .int (iI z108)), (4, .int (iI z123))] → W p l e (mR 7 208) s m AV below meth c H locs 0 0 QQ (F0 m 65 ls []) := by
            intro n128
            induction n128 using Nat.strongRecOn with
            | ind n128 ih127 =>
              intro z123 I122 J122 B122 G122 H locs ls hm129 l123 u123 f124 e125 Y S hl
              refine lv_iload X.1 X.2.1 d_M_setKeys_65 (lv_at hl 4 rfl) ?_
              refine lv_bipush (v := iI 32) X.1 X.2.1 d_M_setKeys_67 (by decide) ?_
              refine z_icmp_ge (tgt := 127) X.1 X.2.1 d_M_setKeys_69 (by decide) ⟨by omega, by omega⟩ ⟨by omega, by omega⟩ (fun h130 => ?_) (fun h130 => ?_)
              · refine lv_iinc (v := iI (z108 + 1)) (lv' := [(3, .int (iI (z108 + 1))), (0, .ref h), (1, .int (iI a1)), (2, .int (iI a2)), (4, .int (iI z123))]) X.1 X.2.1 d_M_setKeys_127 hl (k := 3) rfl ((iI_add _ _).trans (congrArg iI (by omega))) (by decide) rfl (fun ls hl => ?_)
                refine lv_goto (tgt := 37) X.1 X.2.1 d_M_setKeys_130 (by decide) ?_
                exact ih112 ((2 - (z108 + 1)).toNat) (by omega) (z108 + 1) I122 J122 B122 G122 _ _ _ rfl (by omega) (by omega) f124 e125 Y S (lv_sub hl [1, 2, 3, 0] rfl)
              · refine lv_aload_n X.1 X.2.1 d_M_setKeys_72 rfl (lv_at hl 0 rfl) ?_
                refine m_get X Y 52 (by decide) lk_keys (gf_keys _ _ _) rfl d_M_setKeys_73 ?_
                refine lv_bipush (v := iI 32) X.1 X.2.1 d_M_setKeys_76 (by decide) ?_
                refine lv_iconst (v := iI 4) X.1 X.2.1 d_M_setKeys_78 (by decide) ?_
                refine lv_iload_n X.1 X.2.1 d_M_setKeys_79 rfl (lv_at hl 1 rfl) ?_
                refine z_imul X.1 X.2.1 d_M_setKeys_80 ?_
                refine lv_iconst (v := iI 2) X.1 X.2.1 d_M_setKeys_81 (by decide) ?_
                refine lv_aload_n X.1 X.2.1 d_M_setKeys_82 rfl (lv_at hl 0 rfl) ?_
                refine m_get X Y 46 (by decide) lk_versions (gf_versions _ _ _) rfl d_M_setKeys_83 ?_
                refine lv_iload_n X.1 X.2.1 d_M_setKeys_86 rfl (lv_at hl 1 rfl) ?_
                refine r_iald X Y S (aw_versions _ _ _ _ _ _ _) rfl (by omega) (show a1 < ((12 : Nat) : Int) by omega) (by omega) d_M_setKeys_87 (fun z131 q131 l131 u131 => ?_)
                refine lv_iconst (v := iI 2) X.1 X.2.1 d_M_setKeys_88 (by decide) ?_
                refine z_irem X.1 X.2.1 (by omega) (by omega) ⟨by decide, by decide⟩ d_M_setKeys_89 ?_
                refine z_imul X.1 X.2.1 d_M_setKeys_90 ?_
                refine z_iadd X.1 X.2.1 d_M_setKeys_91 ?_
                refine lv_iload_n X.1 X.2.1 d_M_setKeys_92 rfl (lv_at hl 3 rfl) ?_
                refine z_iadd X.1 X.2.1 d_M_setKeys_93 ?_
                refine z_imul X.1 X.2.1 d_M_setKeys_94 ?_
                refine lv_iload X.1 X.2.1 d_M_setKeys_95 (lv_at hl 4 rfl) ?_
                refine z_iadd X.1 X.2.1 d_M_setKeys_97 ?_
                refine lv_iload_n X.1 X.2.1 d_M_setKeys_98 rfl (lv_at hl 3 rfl) ?_
                have J133 : ∀ (z132 : Int) (H : Heap) (locs : List Loc) (ls : Array Slot), ((-128) ≤ z132) → (z132 ≤ 127) → mH D E (mA E h q sz) s.heap h q I122 J122 B122 G122 H locs → rS [8, 14, 18, 29] [5, 6, 7, 9, 10, 11, 12, 13, 15, 16, 17, 19, 20, 21, 24, 26, 27, 46, 47, 52, 56] I B I122 B122 → lv_has ls 5 [(0, .ref h), (1, .int (iI a1)), (2, .int (iI a2)), (3, .int (iI z108)), (4, .int (iI z123))] → W p l e (mR 7 208) s m AV below meth c H locs 0 0 QQ (F0 m 120 ls [.int (iI z132), .int (iI ((32 * (((4 * a1) + (2 * (z131 % 2))) + z108)) + z123)), .ref ((q 52))]) := by
                  intro z132 H locs ls l132 u132 Y S hl
                  refine r_bast X Y S (aw_keys _ _ _ _ _ _ _) (sw_keys _ _ _ _ _ _ _) rfl (by omega) (show (32 * (((4 * a1) + (2 * (z131 % 2))) + z108)) + z123 < ((1536 : Nat) : Int) by omega) (by omega) (by decide) d_M_setKeys_120 (fun B137 H locs Y S w137 => ?_)
                  refine lv_iinc (v := iI (z123 + 1)) (lv' := [(4, .int (iI (z123 + 1))), (0, .ref h), (1, .int (iI a1)), (2, .int (iI a2)), (3, .int (iI z108))]) X.1 X.2.1 d_M_setKeys_121 hl (k := 4) rfl ((iI_add _ _).trans (congrArg iI (by omega))) (by decide) rfl (fun ls hl => ?_)
                  refine lv_goto (tgt := 65) X.1 X.2.1 d_M_setKeys_124 (by decide) ?_
                  exact ih127 ((32 - (z123 + 1)).toNat) (by omega) (z123 + 1) I122 J122 B137 G122 _ _ _ rfl (by omega) (by omega) (vB_cg (w137.2 46 (by decide)) f124) e125 Y S (lv_sub hl [1, 2, 3, 4, 0] rfl)
                have J138 : ∀  (H : Heap) (locs : List Loc) (ls : Array Slot), mH D E (mA E h q sz) s.heap h q I122 J122 B122 G122 H locs → rS [8, 14, 18, 29] [5, 6, 7, 9, 10, 11, 12, 13, 15, 16, 17, 19, 20, 21, 24, 26, 27, 46, 47, 52, 56] I B I122 B122 → lv_has ls 5 [(0, .ref h), (1, .int (iI a1)), (2, .int (iI a2)), (3, .int (iI z108)), (4, .int (iI z123))] → W p l e (mR 7 208) s m AV below meth c H locs 0 0 QQ (F0 m 113 ls [.int (iI ((32 * (((4 * a1) + (2 * (z131 % 2))) + z108)) + z123)), .ref ((q 52))]) := by
                  intro  H locs ls  Y S hl
                  refine lv_aload_n X.1 X.2.1 d_M_setKeys_113 rfl (lv_at hl 0 rfl) ?_
                  refine m_get X Y 56 (by decide) lk_made (gf_made _ _ _) rfl d_M_setKeys_114 ?_
                  refine lv_iload X.1 X.2.1 d_M_setKeys_117 (lv_at hl 4 rfl) ?_
                  refine r_bald X Y S (aw_made _ _ _ _ _ _ _) rfl (by omega) (show z123 < ((32 : Nat) : Int) by omega) (by omega) d_M_setKeys_119 (fun z142 q142 l142 u142 => ?_)
                  exact J133 z142 _ _ _ (by omega) (by omega) Y S (lv_sub hl [0, 1, 2, 3, 4] rfl)
                refine z_if_ne (tgt := 113) X.1 X.2.1 d_M_setKeys_99 (by decide) ⟨by omega, by omega⟩ (fun h143 => ?_) (fun h143 => ?_)
                · exact J138  _ _ _  Y S (lv_sub hl [0, 1, 2, 3, 4] rfl)
                · refine lv_iload X.1 X.2.1 d_M_setKeys_102 (lv_at hl 4 rfl) ?_
                  refine lv_bipush (v := iI 15) X.1 X.2.1 d_M_setKeys_104 (by decide) ?_
                  refine z_icmp_le (tgt := 113) X.1 X.2.1 d_M_setKeys_106 (by decide) ⟨by omega, by omega⟩ ⟨by omega, by omega⟩ (fun h144 => ?_) (fun h144 => ?_)
                  · exact J138  _ _ _  Y S (lv_sub hl [0, 1, 2, 3, 4] rfl)
                  · refine lv_iconst (v := iI 0) X.1 X.2.1 d_M_setKeys_109 (by decide) ?_
                    refine lv_goto (tgt := 120) X.1 X.2.1 d_M_setKeys_110 (by decide) ?_
                    exact J133 0 _ _ _ (by omega) (by omega) Y S (lv_sub hl [0, 1, 2, 3, 4] rfl)
          refine lv_istore (lv' := [(4, .int (iI 0)), (0, .ref h), (1, .int (iI a1)), (2, .int (iI a2)), (3, .int (iI z108))]) X.1 X.2.1 d_M_setKeys_63 hl (by decide) rfl (fun ls hl => ?_)
          exact J126 _ 0 I121 J121 B121 G121 _ _ _ rfl (by omega) (by omega) (vB_cg (s121.2.2 46 (by decide)) f109) ((s121.2.1 30 (by decide)).trans e110) Y S (lv_sub hl [1, 2, 3, 4, 0] rfl)
        refine z_if_ne (tgt := 52) X.1 X.2.1 d_M_setKeys_44 (by decide) ⟨by omega, by omega⟩ (fun h145 => ?_) (fun h145 => ?_)
        · refine lv_bipush (v := iI 32) X.1 X.2.1 d_M_setKeys_52 (by decide) ?_
          exact J117 32 _ _ _ (by omega) (by omega) Y S (lv_sub hl [0, 1, 2, 3] rfl)
        · refine lv_bipush (v := iI 16) X.1 X.2.1 d_M_setKeys_47 (by decide) ?_
          refine lv_goto (tgt := 54) X.1 X.2.1 d_M_setKeys_49 (by decide) ?_
          exact J117 16 _ _ _ (by omega) (by omega) Y S (lv_sub hl [0, 1, 2, 3] rfl)
  refine lv_istore_n (lv' := [(3, .int (iI 0)), (0, .ref h), (1, .int (iI a1)), (2, .int (iI a2))]) X.1 X.2.1 d_M_setKeys_36 rfl hl (by decide) rfl (fun ls hl => ?_)
  exact J111 _ 0 I106 J106 B106 G106 _ _ _ rfl (by omega) (by omega) (vB_cg (s106.2.2 46 (by decide)) (vB_cg (w104.2 46 (by decide)) f103)) ((s106.2.1 30 (by decide)).trans gpn) Y S (lv_sub hl [1, 2, 3, 0] rfl)
set_option maxHeartbeats 4000000 in
set_option maxRecDepth 100000 in
theorem r_M_findName (l : Launch) (D : mD) (E : mE) (h : Nat) (q : Nat → Nat) (sz : Nat) (I : Nat → Int32) (J : Nat → Int64) (B : Nat → Nat → Int32) (G : Nat → Nat → Int64) (hT : rT I B) : Met l y_M_findName (k_M_findName :: lw_tg) (mR 1 60) (va_Pc [.ref h] (mPre D E h q (I, J, B, G) sz)) (va_Qi (rPi [] [] I B (fun (z : Int) (u : mS) => (-1) ≤ z ∧ z ≤ 11)) (mPost D E h q (mA E h q sz)) (mA E h q sz)) 0 0 (mA E h q sz) := by
  refine m_enter (by decide) rfl (Nat.le_of_ble_eq_true rfl) (fun p e s m below meth c ls AV QQ H locs hQQ X Y hZ hA hr hlk hml hl => ?_)
  have Y : mH D E (mA E h q sz) s.heap h q I J B G H locs := Y
  have S : rS [] [] I B I B := rS_rf hT
  have hl : lv_has ls 4 [(0, .ref h)] := hl
  refine lv_iconst (v := iI 0) X.1 X.2.1 d_M_findName_0 (by decide) ?_
  have J102 : ∀ (n104 : Nat) (z101 : Int) (H : Heap) (locs : List Loc) (ls : Array Slot), (12 - z101).toNat = n104 → (0 ≤ z101) → (z101 ≤ 12) → mH D E (mA E h q sz) s.heap h q I J B G H locs → rS [] [] I B I B → lv_has ls 4 [(0, .ref h), (1, .int (iI z101))] → W p l e (mR 1 60) s m AV below meth c H locs 0 0 QQ (F0 m 2 ls []) := by
    intro n104
    induction n104 using Nat.strongRecOn with
    | ind n104 ih103 =>
      intro z101 H locs ls hm105 l101 u101 Y S hl
      refine lv_iload_n X.1 X.2.1 d_M_findName_2 rfl (lv_at hl 1 rfl) ?_
      refine lv_aload_n X.1 X.2.1 d_M_findName_3 rfl (lv_at hl 0 rfl) ?_
      refine r_geti (k := 43) X Y S (by decide) lk_principals (gf_principals _ _ _) rfl rfl d_M_findName_4 (fun z106 e106 l106 u106 => ?_)
      refine z_icmp_ge (tgt := 87) X.1 X.2.1 d_M_findName_7 (by decide) ⟨by omega, by omega⟩ ⟨by omega, by omega⟩ (fun h107 => ?_) (fun h107 => ?_)
      · refine lv_iconst (v := iI (-1)) X.1 X.2.1 d_M_findName_87 (by decide) ?_
        exact m_reti hQQ X Y hr hlk ⟨S, (-1), rfl, ⟨by omega, by omega⟩⟩ d_M_findName_88
      · refine lv_aload_n X.1 X.2.1 d_M_findName_10 rfl (lv_at hl 0 rfl) ?_
        refine m_get X Y 45 (by decide) lk_nameSizes (gf_nameSizes _ _ _) rfl d_M_findName_11 ?_
        refine lv_iload_n X.1 X.2.1 d_M_findName_14 rfl (lv_at hl 1 rfl) ?_
        refine r_iald X Y S (aw_nameSizes _ _ _ _ _ _ _) rfl (by omega) (show z101 < ((12 : Nat) : Int) by omega) (by omega) d_M_findName_15 (fun z108 q108 l108 u108 => ?_)
        refine lv_aload_n X.1 X.2.1 d_M_findName_16 rfl (lv_at hl 0 rfl) ?_
        refine r_geti (k := 54) X Y S (by decide) lk_nameSize (gf_nameSize _ _ _) rfl rfl d_M_findName_17 (fun z109 e109 l109 u109 => ?_)
        refine z_icmp_ne (tgt := 27) X.1 X.2.1 d_M_findName_20 (by decide) ⟨by omega, by omega⟩ ⟨by omega, by omega⟩ (fun h110 => ?_) (fun h110 => ?_)
        · refine lv_iconst (v := iI 0) X.1 X.2.1 d_M_findName_27 (by decide) ?_
          refine lv_istore_n (lv' := [(2, .int (iI 0)), (0, .ref h), (1, .int (iI z101))]) X.1 X.2.1 d_M_findName_28 rfl hl (by decide) rfl (fun ls hl => ?_)
          refine lv_iconst (v := iI 0) X.1 X.2.1 d_M_findName_29 (by decide) ?_
          have J112 : ∀ (z111 : Int) (H : Heap) (locs : List Loc) (ls : Array Slot), (0 ≤ z111) → (z111 ≤ 0) → mH D E (mA E h q sz) s.heap h q I J B G H locs → rS [] [] I B I B → lv_has ls 4 [(0, .ref h), (1, .int (iI z101)), (2, .int (iI 0)), (3, .int (iI z111))] → W p l e (mR 1 60) s m AV below meth c H locs 0 0 QQ (F0 m 31 ls []) := by
            intro z111 H locs ls l111 u111 Y S hl
            refine lv_iload_n X.1 X.2.1 d_M_findName_31 rfl (lv_at hl 3 rfl) ?_
            refine lv_aload_n X.1 X.2.1 d_M_findName_32 rfl (lv_at hl 0 rfl) ?_
            refine r_get0 X Y (by decide) lk_nameSize (gf_nameSize _ _ _) rfl e109 d_M_findName_33 ?_
            have J116 : ∀  (H : Heap) (locs : List Loc) (ls : Array Slot), mH D E (mA E h q sz) s.heap h q I J B G H locs → rS [] [] I B I B → lv_has ls 4 [(0, .ref h), (1, .int (iI z101)), (2, .int (iI 0))] → W p l e (mR 1 60) s m AV below meth c H locs 0 0 QQ (F0 m 75 ls []) := by
              intro  H locs ls  Y S hl
              refine lv_iload_n X.1 X.2.1 d_M_findName_75 rfl (lv_at hl 2 rfl) ?_
              refine z_if_eq (tgt := 81) X.1 X.2.1 d_M_findName_76 (by decide) ⟨by omega, by omega⟩ (fun h120 => ?_) (fun h120 => False.elim (by omega))
              · refine lv_iinc (v := iI (z101 + 1)) (lv' := [(1, .int (iI (z101 + 1))), (0, .ref h), (2, .int (iI 0))]) X.1 X.2.1 d_M_findName_81 hl (k := 1) rfl ((iI_add _ _).trans (congrArg iI (by omega))) (by decide) rfl (fun ls hl => ?_)
                refine lv_goto (tgt := 2) X.1 X.2.1 d_M_findName_84 (by decide) ?_
                exact ih103 ((12 - (z101 + 1)).toNat) (by omega) (z101 + 1) _ _ _ rfl (by omega) (by omega) Y S (lv_sub hl [1, 0] rfl)
            refine z_icmp_ge (tgt := 75) X.1 X.2.1 d_M_findName_36 (by decide) ⟨by omega, by omega⟩ ⟨by omega, by omega⟩ (fun h121 => ?_) (fun h121 => ?_)
            · exact J116  _ _ _  Y S (lv_sub hl [0, 1, 2] rfl)
            · refine lv_iload_n X.1 X.2.1 d_M_findName_39 rfl (lv_at hl 2 rfl) ?_
              refine z_if_eq (tgt := 75) X.1 X.2.1 d_M_findName_40 (by decide) ⟨by omega, by omega⟩ (fun h122 => ?_) (fun h122 => False.elim (by omega))
              · exact J116  _ _ _  Y S (lv_sub hl [0, 1, 2] rfl)
          refine lv_istore_n (lv' := [(3, .int (iI 0)), (2, .int (iI 0)), (0, .ref h), (1, .int (iI z101))]) X.1 X.2.1 d_M_findName_30 rfl hl (by decide) rfl (fun ls hl => ?_)
          exact J112 0 _ _ _ (by omega) (by omega) Y S (lv_sub hl [2, 3, 1, 0] rfl)
        · refine lv_iconst (v := iI 1) X.1 X.2.1 d_M_findName_23 (by decide) ?_
          refine lv_goto (tgt := 28) X.1 X.2.1 d_M_findName_24 (by decide) ?_
          refine lv_istore_n (lv' := [(2, .int (iI 1)), (0, .ref h), (1, .int (iI z101))]) X.1 X.2.1 d_M_findName_28 rfl hl (by decide) rfl (fun ls hl => ?_)
          refine lv_iconst (v := iI 0) X.1 X.2.1 d_M_findName_29 (by decide) ?_
          have J125 : ∀ (n127 : Nat) (z123 : Int) (z124 : Int) (H : Heap) (locs : List Loc) (ls : Array Slot), (33 - z124).toNat = n127 → (0 ≤ z123) → (z123 ≤ 1) → (0 ≤ z124) → (z124 ≤ 33) → mH D E (mA E h q sz) s.heap h q I J B G H locs → rS [] [] I B I B → lv_has ls 4 [(0, .ref h), (1, .int (iI z101)), (2, .int (iI z123)), (3, .int (iI z124))] → W p l e (mR 1 60) s m AV below meth c H locs 0 0 QQ (F0 m 31 ls []) := by
            intro n127
            induction n127 using Nat.strongRecOn with
            | ind n127 ih126 =>
              intro z123 z124 H locs ls hm128 l123 u123 l124 u124 Y S hl
              refine lv_iload_n X.1 X.2.1 d_M_findName_31 rfl (lv_at hl 3 rfl) ?_
              refine lv_aload_n X.1 X.2.1 d_M_findName_32 rfl (lv_at hl 0 rfl) ?_
              refine r_get0 X Y (by decide) lk_nameSize (gf_nameSize _ _ _) rfl e109 d_M_findName_33 ?_
              have J129 : ∀  (H : Heap) (locs : List Loc) (ls : Array Slot), mH D E (mA E h q sz) s.heap h q I J B G H locs → rS [] [] I B I B → lv_has ls 4 [(0, .ref h), (1, .int (iI z101)), (2, .int (iI z123))] → W p l e (mR 1 60) s m AV below meth c H locs 0 0 QQ (F0 m 75 ls []) := by
                intro  H locs ls  Y S hl
                refine lv_iload_n X.1 X.2.1 d_M_findName_75 rfl (lv_at hl 2 rfl) ?_
                refine z_if_eq (tgt := 81) X.1 X.2.1 d_M_findName_76 (by decide) ⟨by omega, by omega⟩ (fun h133 => ?_) (fun h133 => ?_)
                · refine lv_iinc (v := iI (z101 + 1)) (lv' := [(1, .int (iI (z101 + 1))), (0, .ref h), (2, .int (iI z123))]) X.1 X.2.1 d_M_findName_81 hl (k := 1) rfl ((iI_add _ _).trans (congrArg iI (by omega))) (by decide) rfl (fun ls hl => ?_)
                  refine lv_goto (tgt := 2) X.1 X.2.1 d_M_findName_84 (by decide) ?_
                  exact ih103 ((12 - (z101 + 1)).toNat) (by omega) (z101 + 1) _ _ _ rfl (by omega) (by omega) Y S (lv_sub hl [1, 0] rfl)
                · refine lv_iload_n X.1 X.2.1 d_M_findName_79 rfl (lv_at hl 1 rfl) ?_
                  exact m_reti hQQ X Y hr hlk ⟨S, z101, rfl, ⟨by omega, by omega⟩⟩ d_M_findName_80
              refine z_icmp_ge (tgt := 75) X.1 X.2.1 d_M_findName_36 (by decide) ⟨by omega, by omega⟩ ⟨by omega, by omega⟩ (fun h134 => ?_) (fun h134 => ?_)
              · exact J129  _ _ _  Y S (lv_sub hl [0, 1, 2] rfl)
              · refine lv_iload_n X.1 X.2.1 d_M_findName_39 rfl (lv_at hl 2 rfl) ?_
                refine z_if_eq (tgt := 75) X.1 X.2.1 d_M_findName_40 (by decide) ⟨by omega, by omega⟩ (fun h135 => ?_) (fun h135 => ?_)
                · exact J129  _ _ _  Y S (lv_sub hl [0, 1, 2] rfl)
                · refine lv_aload_n X.1 X.2.1 d_M_findName_43 rfl (lv_at hl 0 rfl) ?_
                  refine m_get X Y 44 (by decide) lk_names (gf_names _ _ _) rfl d_M_findName_44 ?_
                  refine lv_bipush (v := iI 40) X.1 X.2.1 d_M_findName_47 (by decide) ?_
                  refine lv_iload_n X.1 X.2.1 d_M_findName_49 rfl (lv_at hl 1 rfl) ?_
                  refine z_imul X.1 X.2.1 d_M_findName_50 ?_
                  refine lv_iload_n X.1 X.2.1 d_M_findName_51 rfl (lv_at hl 3 rfl) ?_
                  refine z_iadd X.1 X.2.1 d_M_findName_52 ?_
                  refine r_bald X Y S (aw_names _ _ _ _ _ _ _) rfl (by omega) (show (40 * z101) + z124 < ((480 : Nat) : Int) by omega) (by omega) d_M_findName_53 (fun z136 q136 l136 u136 => ?_)
                  refine lv_aload_n X.1 X.2.1 d_M_findName_54 rfl (lv_at hl 0 rfl) ?_
                  refine m_get X Y 53 (by decide) lk_name (gf_name _ _ _) rfl d_M_findName_55 ?_
                  refine lv_iload_n X.1 X.2.1 d_M_findName_58 rfl (lv_at hl 3 rfl) ?_
                  refine r_bald X Y S (aw_name _ _ _ _ _ _ _) rfl (by omega) (show z124 < ((40 : Nat) : Int) by omega) (by omega) d_M_findName_59 (fun z137 q137 l137 u137 => ?_)
                  refine z_icmp_ne (tgt := 67) X.1 X.2.1 d_M_findName_60 (by decide) ⟨by omega, by omega⟩ ⟨by omega, by omega⟩ (fun h138 => ?_) (fun h138 => ?_)
                  · refine lv_iconst (v := iI 0) X.1 X.2.1 d_M_findName_67 (by decide) ?_
                    refine lv_istore_n (lv' := [(2, .int (iI 0)), (0, .ref h), (1, .int (iI z101)), (3, .int (iI z124))]) X.1 X.2.1 d_M_findName_68 rfl hl (by decide) rfl (fun ls hl => ?_)
                    refine lv_iinc (v := iI (z124 + 1)) (lv' := [(3, .int (iI (z124 + 1))), (2, .int (iI 0)), (0, .ref h), (1, .int (iI z101))]) X.1 X.2.1 d_M_findName_69 hl (k := 3) rfl ((iI_add _ _).trans (congrArg iI (by omega))) (by decide) rfl (fun ls hl => ?_)
                    refine lv_goto (tgt := 31) X.1 X.2.1 d_M_findName_72 (by decide) ?_
                    exact ih126 ((33 - (z124 + 1)).toNat) (by omega) 0 (z124 + 1) _ _ _ rfl (by omega) (by omega) (by omega) (by omega) Y S (lv_sub hl [2, 3, 1, 0] rfl)
                  · refine lv_iconst (v := iI 1) X.1 X.2.1 d_M_findName_63 (by decide) ?_
                    refine lv_goto (tgt := 68) X.1 X.2.1 d_M_findName_64 (by decide) ?_
                    refine lv_istore_n (lv' := [(2, .int (iI 1)), (0, .ref h), (1, .int (iI z101)), (3, .int (iI z124))]) X.1 X.2.1 d_M_findName_68 rfl hl (by decide) rfl (fun ls hl => ?_)
                    refine lv_iinc (v := iI (z124 + 1)) (lv' := [(3, .int (iI (z124 + 1))), (2, .int (iI 1)), (0, .ref h), (1, .int (iI z101))]) X.1 X.2.1 d_M_findName_69 hl (k := 3) rfl ((iI_add _ _).trans (congrArg iI (by omega))) (by decide) rfl (fun ls hl => ?_)
                    refine lv_goto (tgt := 31) X.1 X.2.1 d_M_findName_72 (by decide) ?_
                    exact ih126 ((33 - (z124 + 1)).toNat) (by omega) 1 (z124 + 1) _ _ _ rfl (by omega) (by omega) (by omega) (by omega) Y S (lv_sub hl [2, 3, 1, 0] rfl)
          refine lv_istore_n (lv' := [(3, .int (iI 0)), (2, .int (iI 1)), (0, .ref h), (1, .int (iI z101))]) X.1 X.2.1 d_M_findName_30 rfl hl (by decide) rfl (fun ls hl => ?_)
          exact J125 _ 1 0 _ _ _ rfl (by omega) (by omega) (by omega) (by omega) Y S (lv_sub hl [2, 3, 1, 0] rfl)
  refine lv_istore_n (lv' := [(1, .int (iI 0)), (0, .ref h)]) X.1 X.2.1 d_M_findName_1 rfl hl (by decide) rfl (fun ls hl => ?_)
  exact J102 _ 0 _ _ _ rfl (by omega) (by omega) Y S (lv_sub hl [1, 0] rfl)
set_option maxHeartbeats 4000000 in
set_option maxRecDepth 100000 in
theorem r_M_add (l : Launch) (D : mD) (E : mE) (h : Nat) (q : Nat → Nat) (sz : Nat) (I : Nat → Int32) (J : Nat → Int64) (B : Nat → Nat → Int32) (G : Nat → Nat → Int64) (a1 : Int) (l_a1 : (-2147483648) ≤ a1) (u_a1 : a1 ≤ 2147483647) (a2 : Int) (l_a2 : 0 ≤ a2) (u_a2 : a2 ≤ 1) (hT : rT I B) (vn : Int) (uvn : vn ≤ 1999) (f_V : vB vn (B 46)) : Met l y_M_add (k_M_add :: lw_tg) (mR 8 232) (va_Pc [.ref h, .int (iI a1), .int (iI a2)] (mPre D E h q (I, J, B, G) sz)) (va_Qi (rPi [8, 14, 18, 29, 30, 43, 54, 55] [5, 6, 7, 9, 10, 11, 12, 13, 15, 16, 17, 19, 20, 21, 24, 25, 26, 27, 44, 45, 46, 47, 48, 49, 50, 51, 52, 53, 56] I B (fun (z : Int) (u : mS) => (-1) ≤ z ∧ z ≤ 11 ∧ vB (vn + 1) (u.2.2.1 46))) (mPost D E h q (mA E h q sz)) (mA E h q sz)) 0 0 (mA E h q sz) := by
  refine m_enter (by decide) rfl (Nat.le_of_ble_eq_true rfl) (fun p e s m below meth c ls AV QQ H locs hQQ X Y hZ hA hr hlk hml hl => ?_)
  have Y : mH D E (mA E h q sz) s.heap h q I J B G H locs := Y
  have S : rS [8, 14, 18, 29, 30, 43, 54, 55] [5, 6, 7, 9, 10, 11, 12, 13, 15, 16, 17, 19, 20, 21, 24, 25, 26, 27, 44, 45, 46, 47, 48, 49, 50, 51, 52, 53, 56] I B I B := rS_rf hT
  have hl : lv_has ls 5 [(0, .ref h), (1, .int (iI a1)), (2, .int (iI a2))] := hl
  have vn0 := Int.le_trans (hT.2 46 0).1 (f_V 0 (by decide))
  have vn0 : 0 ≤ vn := vn0
  refine lv_aload_n X.1 X.2.1 d_M_add_0 rfl (lv_at hl 0 rfl) ?_
  refine lv_iload_n X.1 X.2.1 d_M_add_1 rfl (lv_at hl 2 rfl) ?_
  refine r_ni (m_run (As := [.int (iI a2)]) (rest := []) (n := 1) X Y hZ hA hml hl.1 (r_M_bothRead l D E h q H.size I J B G a2 (by omega) (by omega) S.1) kl_M_bothRead ks_M_bothRead kx_M_bothRead ki_M_bothRead ini_M hd_M_bothRead ⟨Nat.le_of_ble_eq_true rfl, Nat.le_of_ble_eq_true rfl⟩ rfl (Nat.le_of_ble_eq_true rfl) d_M_add_2 ⟨Nat.le_refl _, Nat.le_refl _⟩) X Y hA S (by decide) (by decide) (fun z101 u H locs Y S s101 p101 => ?_)
  obtain ⟨I101, J101, B101, G101⟩ := u
  dsimp only at Y S s101 p101
  obtain ⟨l101, u101, x101⟩ := p101
  obtain ⟨x101_0, x101_1⟩ := x101
  obtain ⟨z102, e102, x102, y102, y2102⟩ := x101_0
  obtain ⟨z103, e103, x103, y103, y2103⟩ := x101_1
  refine z_if_eq (tgt := 36) X.1 X.2.1 d_M_add_5 (by decide) ⟨by omega, by omega⟩ (fun h104 => ?_) (fun h104 => ?_)
  · refine lv_iconst (v := iI (-1)) X.1 X.2.1 d_M_add_36 (by decide) ?_
    exact m_reti hQQ X Y hr hlk ⟨S, (-1), rfl, ⟨by omega, by omega, (vB_le (show vn ≤ vn + 1 by omega) (vB_cg (s101.2.2 46 (by decide)) f_V))⟩⟩ d_M_add_37
  · refine lv_iload_n X.1 X.2.1 d_M_add_8 rfl (lv_at hl 1 rfl) ?_
    refine lv_iconst (v := iI 1) X.1 X.2.1 d_M_add_9 (by decide) ?_
    refine z_icmp_lt (tgt := 36) X.1 X.2.1 d_M_add_10 (by decide) ⟨by omega, by omega⟩ ⟨by omega, by omega⟩ (fun h105 => ?_) (fun h105 => ?_)
    · refine lv_iconst (v := iI (-1)) X.1 X.2.1 d_M_add_36 (by decide) ?_
      exact m_reti hQQ X Y hr hlk ⟨S, (-1), rfl, ⟨by omega, by omega, (vB_le (show vn ≤ vn + 1 by omega) (vB_cg (s101.2.2 46 (by decide)) f_V))⟩⟩ d_M_add_37
    · refine lv_iload_n X.1 X.2.1 d_M_add_13 rfl (lv_at hl 1 rfl) ?_
      refine lv_sipush (v := iI 200) X.1 X.2.1 d_M_add_14 (by decide) ?_
      refine z_icmp_gt (tgt := 36) X.1 X.2.1 d_M_add_17 (by decide) ⟨by omega, by omega⟩ ⟨by omega, by omega⟩ (fun h106 => ?_) (fun h106 => ?_)
      · refine lv_iconst (v := iI (-1)) X.1 X.2.1 d_M_add_36 (by decide) ?_
        exact m_reti hQQ X Y hr hlk ⟨S, (-1), rfl, ⟨by omega, by omega, (vB_le (show vn ≤ vn + 1 by omega) (vB_cg (s101.2.2 46 (by decide)) f_V))⟩⟩ d_M_add_37
      · refine lv_aload_n X.1 X.2.1 d_M_add_20 rfl (lv_at hl 0 rfl) ?_
        refine r_geti (k := 43) X Y S (by decide) lk_principals (gf_principals _ _ _) rfl rfl d_M_add_21 (fun z107 e107 l107 u107 => ?_)
        refine lv_bipush (v := iI 12) X.1 X.2.1 d_M_add_24 (by decide) ?_
        refine z_icmp_eq (tgt := 36) X.1 X.2.1 d_M_add_26 (by decide) ⟨by omega, by omega⟩ ⟨by omega, by omega⟩ (fun h108 => ?_) (fun h108 => ?_)
        · refine lv_iconst (v := iI (-1)) X.1 X.2.1 d_M_add_36 (by decide) ?_
          exact m_reti hQQ X Y hr hlk ⟨S, (-1), rfl, ⟨by omega, by omega, (vB_le (show vn ≤ vn + 1 by omega) (vB_cg (s101.2.2 46 (by decide)) f_V))⟩⟩ d_M_add_37
        · refine lv_aload_n X.1 X.2.1 d_M_add_29 rfl (lv_at hl 0 rfl) ?_
          refine r_ni (m_run (As := []) (rest := []) (n := 0) X Y hZ hA hml hl.1 (r_M_findName l D E h q H.size I101 J101 B101 G101 S.1) kl_M_findName ks_M_findName kx_M_findName ki_M_findName ini_M hd_M_findName ⟨Nat.le_of_ble_eq_true rfl, Nat.le_of_ble_eq_true rfl⟩ rfl (Nat.le_of_ble_eq_true rfl) d_M_add_30 ⟨Nat.le_refl _, Nat.le_refl _⟩) X Y hA S (by decide) (by decide) (fun z109 u H locs Y S s109 p109 => ?_)
          obtain ⟨I109, J109, B109, G109⟩ := u
          dsimp only at Y S s109 p109
          obtain ⟨l109, u109⟩ := p109
          refine z_if_lt (tgt := 38) X.1 X.2.1 d_M_add_33 (by decide) ⟨by omega, by omega⟩ (fun h110 => ?_) (fun h110 => ?_)
          · refine lv_aload_n X.1 X.2.1 d_M_add_38 rfl (lv_at hl 0 rfl) ?_
            refine r_get0 X Y (by decide) lk_principals (gf_principals _ _ _) rfl ((s109.2.1 43 (by decide)).trans e107) d_M_add_39 ?_
            refine lv_istore_n (lv' := [(3, .int (iI z107)), (0, .ref h), (1, .int (iI a1)), (2, .int (iI a2))]) X.1 X.2.1 d_M_add_42 rfl hl (by decide) rfl (fun ls hl => ?_)
            refine lv_aload_n X.1 X.2.1 d_M_add_43 rfl (lv_at hl 1 rfl) ?_
            refine lv_dup X.1 X.2.1 d_M_add_44 rfl ?_
            refine r_get0 X Y (by decide) lk_principals (gf_principals _ _ _) rfl ((s109.2.1 43 (by decide)).trans e107) d_M_add_45 ?_
            refine lv_iconst (v := iI 1) X.1 X.2.1 d_M_add_48 (by decide) ?_
            refine z_iadd X.1 X.2.1 d_M_add_49 ?_
            refine r_puti (k := 43) X Y S (by decide) lk_principals rfl rfl (t_M_ok 43 (by decide)) rfl rfl (sf_principals _ _ _ _) (Nat.le_of_ble_eq_true rfl) rfl (show (0 : Int) ≤ z107 + 1 by omega) (show z107 + 1 ≤ (12 : Int) by omega) ⟨by omega, by omega⟩ (by decide) d_M_add_50 (fun I111 H locs Y S w111 => ?_)
            refine lv_aload_n X.1 X.2.1 d_M_add_53 rfl (lv_at hl 1 rfl) ?_
            refine m_get X Y 45 (by decide) lk_nameSizes (gf_nameSizes _ _ _) rfl d_M_add_54 ?_
            refine lv_iload_n X.1 X.2.1 d_M_add_57 rfl (lv_at hl 0 rfl) ?_
            refine lv_aload_n X.1 X.2.1 d_M_add_58 rfl (lv_at hl 1 rfl) ?_
            refine r_get0 X Y (by decide) lk_nameSize (gf_nameSize _ _ _) rfl ((w111.2 54 (by decide)).trans ((s109.2.1 54 (by decide)).trans e102)) d_M_add_59 ?_
            refine r_iast X Y S (aw_nameSizes _ _ _ _ _ _ _) (sw_nameSizes _ _ _ _ _ _ _) rfl ⟨(show (0 : Int) ≤ z102 by omega), (show z102 ≤ (33 : Int) by omega)⟩ ⟨by omega, by omega⟩ (by omega) (show z107 < ((12 : Nat) : Int) by omega) (by omega) (by decide) d_M_add_62 (fun B112 H locs Y S w112 => ?_)
            refine lv_iconst (v := iI 0) X.1 X.2.1 d_M_add_63 (by decide) ?_
            have J119 : ∀ (n121 : Nat) (z114 : Int) (I113 : Nat → Int32) (J113 : Nat → Int64) (B113 : Nat → Nat → Int32) (G113 : Nat → Nat → Int64) (H : Heap) (locs : List Loc) (ls : Array Slot), (40 - z114).toNat = n121 → (0 ≤ z114) → (z114 ≤ 40) → (vB vn (B113 46)) → (I113 54 = iI z102) → (I113 30 = iI z103) → (I113 43 = iI (z107 + 1)) → mH D E (mA E h q sz) s.heap h q I113 J113 B113 G113 H locs → rS [8, 14, 18, 29, 30, 43, 54, 55] [5, 6, 7, 9, 10, 11, 12, 13, 15, 16, 17, 19, 20, 21, 24, 25, 26, 27, 44, 45, 46, 47, 48, 49, 50, 51, 52, 53, 56] I B I113 B113 → lv_has ls 5 [(0, .ref h), (1, .int (iI a1)), (3, .int (iI z107)), (4, .int (iI z114))] → W p l e (mR 8 232) s m AV below meth c H locs 0 0 QQ (F0 m 66 ls []) := by
              intro n121
              induction n121 using Nat.strongRecOn with
              | ind n121 ih120 =>
                intro z114 I113 J113 B113 G113 H locs ls hm122 l114 u114 f115 e116 e117 e118 Y S hl
                refine lv_iload X.1 X.2.1 d_M_add_66 (lv_at hl 3 rfl) ?_
                refine lv_aload_n X.1 X.2.1 d_M_add_68 rfl (lv_at hl 0 rfl) ?_
                refine r_get0 X Y (by decide) lk_nameSize (gf_nameSize _ _ _) rfl e116 d_M_add_69 ?_
                refine z_icmp_ge (tgt := 100) X.1 X.2.1 d_M_add_72 (by decide) ⟨by omega, by omega⟩ ⟨by omega, by omega⟩ (fun h123 => ?_) (fun h123 => ?_)
                · refine lv_aload_n X.1 X.2.1 d_M_add_100 rfl (lv_at hl 0 rfl) ?_
                  refine m_get X Y 46 (by decide) lk_versions (gf_versions _ _ _) rfl d_M_add_101 ?_
                  refine lv_iload_n X.1 X.2.1 d_M_add_104 rfl (lv_at hl 2 rfl) ?_
                  refine lv_iconst (v := iI 0) X.1 X.2.1 d_M_add_105 (by decide) ?_
                  refine r_iast X Y S (aw_versions _ _ _ _ _ _ _) (sw_versions _ _ _ _ _ _ _) rfl ⟨(show (0 : Int) ≤ 0 by omega), (show 0 ≤ (2000 : Int) by omega)⟩ ⟨by omega, by omega⟩ (by omega) (show z107 < ((12 : Nat) : Int) by omega) (by omega) (by decide) d_M_add_106 (fun B124 H locs Y S w124 => ?_)
                  have f125 : vB vn (B124 46) := by rw [w124.1]; exact vB_up f115 ⟨by omega, by omega⟩ (show 0 ≤ vn by omega)
                  refine lv_aload_n X.1 X.2.1 d_M_add_107 rfl (lv_at hl 0 rfl) ?_
                  refine m_get X Y 48 (by decide) lk_lifes (gf_lifes _ _ _) rfl d_M_add_108 ?_
                  refine lv_iload_n X.1 X.2.1 d_M_add_111 rfl (lv_at hl 2 rfl) ?_
                  refine lv_ldcw (v := (36000)) X.1 X.2.1 X.2.2.2.1 (X.2.2.1 _ cn_M_639) d_M_add_112 ?_
                  refine t_eq (y := iI 36000) (by decide) ?_
                  refine r_iast X Y S (aw_lifes _ _ _ _ _ _ _) (sw_lifes _ _ _ _ _ _ _) rfl ⟨(show ((-2147483648) : Int) ≤ 36000 by omega), (show 36000 ≤ (2147483647 : Int) by omega)⟩ ⟨by omega, by omega⟩ (by omega) (show z107 < ((12 : Nat) : Int) by omega) (by omega) (by decide) d_M_add_115 (fun B126 H locs Y S w126 => ?_)
                  refine lv_aload_n X.1 X.2.1 d_M_add_116 rfl (lv_at hl 0 rfl) ?_
                  refine m_get X Y 49 (by decide) lk_renews (gf_renews _ _ _) rfl d_M_add_117 ?_
                  refine lv_iload_n X.1 X.2.1 d_M_add_120 rfl (lv_at hl 2 rfl) ?_
                  refine lv_ldcw (v := (72000)) X.1 X.2.1 X.2.2.2.1 (X.2.2.1 _ cn_M_640) d_M_add_121 ?_
                  refine t_eq (y := iI 72000) (by decide) ?_
                  refine r_iast X Y S (aw_renews _ _ _ _ _ _ _) (sw_renews _ _ _ _ _ _ _) rfl ⟨(show ((-2147483648) : Int) ≤ 72000 by omega), (show 72000 ≤ (2147483647 : Int) by omega)⟩ ⟨by omega, by omega⟩ (by omega) (show z107 < ((12 : Nat) : Int) by omega) (by omega) (by decide) d_M_add_124 (fun B127 H locs Y S w127 => ?_)
                  refine lv_aload_n X.1 X.2.1 d_M_add_125 rfl (lv_at hl 0 rfl) ?_
                  refine m_get X Y 50 (by decide) lk_flags (gf_flags _ _ _) rfl d_M_add_126 ?_
                  refine lv_iload_n X.1 X.2.1 d_M_add_129 rfl (lv_at hl 2 rfl) ?_
                  refine lv_bipush (v := iI 15) X.1 X.2.1 d_M_add_130 (by decide) ?_
                  refine r_iast X Y S (aw_flags _ _ _ _ _ _ _) (sw_flags _ _ _ _ _ _ _) rfl ⟨(show ((-2147483648) : Int) ≤ 15 by omega), (show 15 ≤ (2147483647 : Int) by omega)⟩ ⟨by omega, by omega⟩ (by omega) (show z107 < ((12 : Nat) : Int) by omega) (by omega) (by decide) d_M_add_132 (fun B128 H locs Y S w128 => ?_)
                  refine lv_aload_n X.1 X.2.1 d_M_add_133 rfl (lv_at hl 0 rfl) ?_
                  refine m_get X Y 51 (by decide) lk_ends (gf_ends _ _ _) rfl d_M_add_134 ?_
                  refine lv_iload_n X.1 X.2.1 d_M_add_137 rfl (lv_at hl 2 rfl) ?_
                  refine lv_iconst (v := iI 0) X.1 X.2.1 d_M_add_138 (by decide) ?_
                  refine r_iast X Y S (aw_ends _ _ _ _ _ _ _) (sw_ends _ _ _ _ _ _ _) rfl ⟨(show ((-2147483648) : Int) ≤ 0 by omega), (show 0 ≤ (2147483647 : Int) by omega)⟩ ⟨by omega, by omega⟩ (by omega) (show z107 < ((12 : Nat) : Int) by omega) (by omega) (by decide) d_M_add_139 (fun B129 H locs Y S w129 => ?_)
                  refine lv_aload_n X.1 X.2.1 d_M_add_140 rfl (lv_at hl 0 rfl) ?_
                  refine lv_iload_n X.1 X.2.1 d_M_add_141 rfl (lv_at hl 2 rfl) ?_
                  refine lv_iload_n X.1 X.2.1 d_M_add_142 rfl (lv_at hl 1 rfl) ?_
                  refine r_nv (m_run (As := [.int (iI z107), .int (iI a1)]) (rest := []) (n := 2) X Y hZ hA hml hl.1 (r_M_setKeys l D E h q H.size I113 J113 B129 G113 z107 (by omega) (by omega) a1 (by omega) (by omega) S.1 z103 e117 (by omega) (by omega) vn uvn (vB_cg (w129.2 46 (by decide)) (vB_cg (w128.2 46 (by decide)) (vB_cg (w127.2 46 (by decide)) (vB_cg (w126.2 46 (by decide)) f125))))) kl_M_setKeys ks_M_setKeys kx_M_setKeys ki_M_setKeys ini_M hd_M_setKeys ⟨Nat.le_of_ble_eq_true rfl, Nat.le_of_ble_eq_true rfl⟩ rfl (Nat.le_of_ble_eq_true rfl) d_M_add_143 ⟨Nat.le_refl _, Nat.le_refl _⟩) X Y hA S (by decide) (by decide) (fun u H locs Y S s130 p130 => ?_)
                  obtain ⟨I130, J130, B130, G130⟩ := u
                  dsimp only at Y S s130 p130
                  have g130_V1 := p130
                  refine lv_iload_n X.1 X.2.1 d_M_add_146 rfl (lv_at hl 2 rfl) ?_
                  exact m_reti hQQ X Y hr hlk ⟨S, z107, rfl, ⟨by omega, by omega, g130_V1⟩⟩ d_M_add_147
                · refine lv_aload_n X.1 X.2.1 d_M_add_75 rfl (lv_at hl 0 rfl) ?_
                  refine m_get X Y 44 (by decide) lk_names (gf_names _ _ _) rfl d_M_add_76 ?_
                  refine lv_bipush (v := iI 40) X.1 X.2.1 d_M_add_79 (by decide) ?_
                  refine lv_iload_n X.1 X.2.1 d_M_add_81 rfl (lv_at hl 2 rfl) ?_
                  refine z_imul X.1 X.2.1 d_M_add_82 ?_
                  refine lv_iload X.1 X.2.1 d_M_add_83 (lv_at hl 3 rfl) ?_
                  refine z_iadd X.1 X.2.1 d_M_add_85 ?_
                  refine lv_aload_n X.1 X.2.1 d_M_add_86 rfl (lv_at hl 0 rfl) ?_
                  refine m_get X Y 53 (by decide) lk_name (gf_name _ _ _) rfl d_M_add_87 ?_
                  refine lv_iload X.1 X.2.1 d_M_add_90 (lv_at hl 3 rfl) ?_
                  refine r_bald X Y S (aw_name _ _ _ _ _ _ _) rfl (by omega) (show z114 < ((40 : Nat) : Int) by omega) (by omega) d_M_add_92 (fun z131 q131 l131 u131 => ?_)
                  refine r_bast X Y S (aw_names _ _ _ _ _ _ _) (sw_names _ _ _ _ _ _ _) rfl (by omega) (show (40 * z107) + z114 < ((480 : Nat) : Int) by omega) (by omega) (by decide) d_M_add_93 (fun B132 H locs Y S w132 => ?_)
                  refine lv_iinc (v := iI (z114 + 1)) (lv' := [(4, .int (iI (z114 + 1))), (0, .ref h), (1, .int (iI a1)), (3, .int (iI z107))]) X.1 X.2.1 d_M_add_94 hl (k := 3) rfl ((iI_add _ _).trans (congrArg iI (by omega))) (by decide) rfl (fun ls hl => ?_)
                  refine lv_goto (tgt := 66) X.1 X.2.1 d_M_add_97 (by decide) ?_
                  exact ih120 ((40 - (z114 + 1)).toNat) (by omega) (z114 + 1) I113 J113 B132 G113 _ _ _ rfl (by omega) (by omega) (vB_cg (w132.2 46 (by decide)) f115) e116 e117 e118 Y S (lv_sub hl [1, 2, 3, 0] rfl)
            refine lv_istore (lv' := [(4, .int (iI 0)), (3, .int (iI z107)), (0, .ref h), (1, .int (iI a1)), (2, .int (iI a2))]) X.1 X.2.1 d_M_add_64 hl (by decide) rfl (fun ls hl => ?_)
            exact J119 _ 0 I111 J109 B112 G109 _ _ _ rfl (by omega) (by omega) (vB_cg (w112.2 46 (by decide)) (vB_cg rfl (vB_cg (s109.2.2 46 (by decide)) (vB_cg (s101.2.2 46 (by decide)) f_V)))) ((w111.2 54 (by decide)).trans ((s109.2.1 54 (by decide)).trans e102)) ((w111.2 30 (by decide)).trans ((s109.2.1 30 (by decide)).trans e103)) w111.1 Y S (lv_sub hl [2, 3, 1, 0] rfl)
          · refine lv_iconst (v := iI (-1)) X.1 X.2.1 d_M_add_36 (by decide) ?_
            exact m_reti hQQ X Y hr hlk ⟨S, (-1), rfl, ⟨by omega, by omega, (vB_le (show vn ≤ vn + 1 by omega) (vB_cg (s109.2.2 46 (by decide)) (vB_cg (s101.2.2 46 (by decide)) f_V)))⟩⟩ d_M_add_37
set_option maxHeartbeats 4000000 in
set_option maxRecDepth 100000 in
theorem r_M_principal (l : Launch) (D : mD) (E : mE) (h : Nat) (q : Nat → Nat) (sz : Nat) (I : Nat → Int32) (J : Nat → Int64) (B : Nat → Nat → Int32) (G : Nat → Nat → Int64) (a1 : Int) (l_a1 : (-2147483648) ≤ a1) (u_a1 : a1 ≤ 2147483647) (hT : rT I B) (vn : Int) (uvn : vn ≤ 1999) (f_V : vB vn (B 46)) : Met l y_M_principal (k_M_principal :: lw_tg) (mR 9 256) (va_Pc [.ref h, .int (iI a1)] (mPre D E h q (I, J, B, G) sz)) (va_Qi (rPi [2, 8, 14, 18, 29, 30, 43, 54, 55] [5, 6, 7, 9, 10, 11, 12, 13, 15, 16, 17, 19, 20, 21, 24, 25, 26, 27, 44, 45, 46, 47, 48, 49, 50, 51, 52, 53, 56] I B (fun (z : Int) (u : mS) => (-1) ≤ z ∧ z ≤ 11 ∧ vB (vn + 1) (u.2.2.1 46))) (mPost D E h q (mA E h q sz)) (mA E h q sz)) 0 0 (mA E h q sz) := by
  refine m_enter (by decide) rfl (Nat.le_of_ble_eq_true rfl) (fun p e s m below meth c ls AV QQ H locs hQQ X Y hZ hA hr hlk hml hl => ?_)
  have Y : mH D E (mA E h q sz) s.heap h q I J B G H locs := Y
  have S : rS [2, 8, 14, 18, 29, 30, 43, 54, 55] [5, 6, 7, 9, 10, 11, 12, 13, 15, 16, 17, 19, 20, 21, 24, 25, 26, 27, 44, 45, 46, 47, 48, 49, 50, 51, 52, 53, 56] I B I B := rS_rf hT
  have hl : lv_has ls 3 [(0, .ref h), (1, .int (iI a1))] := hl
  refine lv_aload_n X.1 X.2.1 d_M_principal_0 rfl (lv_at hl 0 rfl) ?_
  refine lv_iload_n X.1 X.2.1 d_M_principal_1 rfl (lv_at hl 1 rfl) ?_
  refine lv_iconst (v := iI 0) X.1 X.2.1 d_M_principal_2 (by decide) ?_
  refine r_ni (m_run (As := [.int (iI a1), .int (iI 0)]) (rest := []) (n := 2) X Y hZ hA hml hl.1 (r_M_add l D E h q H.size I J B G a1 (by omega) (by omega) 0 (by omega) (by omega) S.1 vn uvn f_V) kl_M_add ks_M_add kx_M_add ki_M_add ini_M hd_M_add ⟨Nat.le_of_ble_eq_true rfl, Nat.le_of_ble_eq_true rfl⟩ rfl (Nat.le_of_ble_eq_true rfl) d_M_principal_3 ⟨Nat.le_refl _, Nat.le_refl _⟩) X Y hA S (by decide) (by decide) (fun z101 u H locs Y S s101 p101 => ?_)
  obtain ⟨I101, J101, B101, G101⟩ := u
  dsimp only at Y S s101 p101
  obtain ⟨l101, u101, g101_V1⟩ := p101
  refine lv_istore_n (lv' := [(2, .int (iI z101)), (0, .ref h), (1, .int (iI a1))]) X.1 X.2.1 d_M_principal_6 rfl hl (by decide) rfl (fun ls hl => ?_)
  refine lv_aload_n X.1 X.2.1 d_M_principal_7 rfl (lv_at hl 1 rfl) ?_
  refine lv_iconst (v := iI 0) X.1 X.2.1 d_M_principal_8 (by decide) ?_
  refine r_puti (k := 2) X Y S (by decide) lk_length rfl rfl (t_M_ok 2 (by decide)) rfl rfl (sf_length _ _ _ _) (Nat.le_of_ble_eq_true rfl) rfl (show (0 : Int) ≤ 0 by omega) (show 0 ≤ (4000 : Int) by omega) ⟨by omega, by omega⟩ (by decide) d_M_principal_9 (fun I102 H locs Y S w102 => ?_)
  refine lv_iload_n X.1 X.2.1 d_M_principal_12 rfl (lv_at hl 0 rfl) ?_
  exact m_reti hQQ X Y hr hlk ⟨S, z101, rfl, ⟨by omega, by omega, (vB_cg rfl g101_V1)⟩⟩ d_M_principal_13
set_option maxHeartbeats 4000000 in
set_option maxRecDepth 100000 in
theorem r_M_change (l : Launch) (D : mD) (E : mE) (h : Nat) (q : Nat → Nat) (sz : Nat) (I : Nat → Int32) (J : Nat → Int64) (B : Nat → Nat → Int32) (G : Nat → Nat → Int64) (a1 : Int) (l_a1 : (-2147483648) ≤ a1) (u_a1 : a1 ≤ 2147483647) (a2 : Int) (l_a2 : (-2147483648) ≤ a2) (u_a2 : a2 ≤ 2147483647) (hT : rT I B) (vn : Int) (uvn : vn ≤ 1999) (f_V : vB vn (B 46)) : Met l y_M_change (k_M_change :: lw_tg) (mR 8 232) (va_Pc [.ref h, .int (iI a1), .int (iI a2)] (mPre D E h q (I, J, B, G) sz)) (va_Qi (rPi [2, 8, 14, 18, 29, 30] [5, 6, 7, 9, 10, 11, 12, 13, 15, 16, 17, 19, 20, 21, 24, 25, 26, 27, 46, 47, 52, 56] I B (fun (z : Int) (u : mS) => (-2147483648) ≤ z ∧ z ≤ 2147483647 ∧ vB (vn + 1) (u.2.2.1 46))) (mPost D E h q (mA E h q sz)) (mA E h q sz)) 0 0 (mA E h q sz) := by
  refine m_enter (by decide) rfl (Nat.le_of_ble_eq_true rfl) (fun p e s m below meth c ls AV QQ H locs hQQ X Y hZ hA hr hlk hml hl => ?_)
  have Y : mH D E (mA E h q sz) s.heap h q I J B G H locs := Y
  have S : rS [2, 8, 14, 18, 29, 30] [5, 6, 7, 9, 10, 11, 12, 13, 15, 16, 17, 19, 20, 21, 24, 25, 26, 27, 46, 47, 52, 56] I B I B := rS_rf hT
  have hl : lv_has ls 4 [(0, .ref h), (1, .int (iI a1)), (2, .int (iI a2))] := hl
  refine lv_iload_n X.1 X.2.1 d_M_change_0 rfl (lv_at hl 1 rfl) ?_
  have J103 : ∀ (I101 : Nat → Int32) (J101 : Nat → Int64) (B101 : Nat → Nat → Int32) (G101 : Nat → Nat → Int64) (H : Heap) (locs : List Loc) (ls : Array Slot), (vB vn (B101 46)) → mH D E (mA E h q sz) s.heap h q I101 J101 B101 G101 H locs → rS [2, 8, 14, 18, 29, 30] [5, 6, 7, 9, 10, 11, 12, 13, 15, 16, 17, 19, 20, 21, 24, 25, 26, 27, 46, 47, 52, 56] I B I101 B101 → lv_has ls 4 [(0, .ref h), (1, .int (iI a1)), (2, .int (iI a2))] → W p l e (mR 8 232) s m AV below meth c H locs 0 0 QQ (F0 m 40 ls []) := by
    intro I101 J101 B101 G101 H locs ls f102 Y S hl
    refine lv_iconst (v := iI 0) X.1 X.2.1 d_M_change_40 (by decide) ?_
    refine lv_istore_n (lv' := [(3, .int (iI 0)), (0, .ref h), (1, .int (iI a1)), (2, .int (iI a2))]) X.1 X.2.1 d_M_change_41 rfl hl (by decide) rfl (fun ls hl => ?_)
    refine lv_aload_n X.1 X.2.1 d_M_change_42 rfl (lv_at hl 1 rfl) ?_
    refine lv_iconst (v := iI 0) X.1 X.2.1 d_M_change_43 (by decide) ?_
    refine r_puti (k := 2) X Y S (by decide) lk_length rfl rfl (t_M_ok 2 (by decide)) rfl rfl (sf_length _ _ _ _) (Nat.le_of_ble_eq_true rfl) rfl (show (0 : Int) ≤ 0 by omega) (show 0 ≤ (4000 : Int) by omega) ⟨by omega, by omega⟩ (by decide) d_M_change_44 (fun I107 H locs Y S w107 => ?_)
    refine lv_iload_n X.1 X.2.1 d_M_change_47 rfl (lv_at hl 0 rfl) ?_
    refine z_if_ne (tgt := 53) X.1 X.2.1 d_M_change_48 (by decide) ⟨by omega, by omega⟩ (fun h108 => False.elim (by omega)) (fun h108 => ?_)
    · refine lv_iconst (v := iI (-1)) X.1 X.2.1 d_M_change_51 (by decide) ?_
      exact m_reti hQQ X Y hr hlk ⟨S, (-1), rfl, ⟨by omega, by omega, (vB_le (show vn ≤ vn + 1 by omega) (vB_cg rfl f102))⟩⟩ d_M_change_52
  refine z_if_lt (tgt := 40) X.1 X.2.1 d_M_change_1 (by decide) ⟨by omega, by omega⟩ (fun h109 => ?_) (fun h109 => ?_)
  · exact J103 I J B G _ _ _ f_V Y S (lv_sub hl [0, 1, 2] rfl)
  · refine lv_iload_n X.1 X.2.1 d_M_change_4 rfl (lv_at hl 1 rfl) ?_
    refine lv_aload_n X.1 X.2.1 d_M_change_5 rfl (lv_at hl 0 rfl) ?_
    refine r_geti (k := 43) X Y S (by decide) lk_principals (gf_principals _ _ _) rfl rfl d_M_change_6 (fun z110 e110 l110 u110 => ?_)
    refine z_icmp_ge (tgt := 40) X.1 X.2.1 d_M_change_9 (by decide) ⟨by omega, by omega⟩ ⟨by omega, by omega⟩ (fun h111 => ?_) (fun h111 => ?_)
    · exact J103 I J B G _ _ _ f_V Y S (lv_sub hl [0, 1, 2] rfl)
    · refine lv_iload_n X.1 X.2.1 d_M_change_12 rfl (lv_at hl 2 rfl) ?_
      refine lv_iconst (v := iI 1) X.1 X.2.1 d_M_change_13 (by decide) ?_
      refine z_icmp_lt (tgt := 40) X.1 X.2.1 d_M_change_14 (by decide) ⟨by omega, by omega⟩ ⟨by omega, by omega⟩ (fun h112 => ?_) (fun h112 => ?_)
      · exact J103 I J B G _ _ _ f_V Y S (lv_sub hl [0, 1, 2] rfl)
      · refine lv_iload_n X.1 X.2.1 d_M_change_17 rfl (lv_at hl 2 rfl) ?_
        refine lv_sipush (v := iI 200) X.1 X.2.1 d_M_change_18 (by decide) ?_
        refine z_icmp_gt (tgt := 40) X.1 X.2.1 d_M_change_21 (by decide) ⟨by omega, by omega⟩ ⟨by omega, by omega⟩ (fun h113 => ?_) (fun h113 => ?_)
        · exact J103 I J B G _ _ _ f_V Y S (lv_sub hl [0, 1, 2] rfl)
        · refine lv_aload_n X.1 X.2.1 d_M_change_24 rfl (lv_at hl 0 rfl) ?_
          refine lv_iconst (v := iI 0) X.1 X.2.1 d_M_change_25 (by decide) ?_
          refine lv_aload_n X.1 X.2.1 d_M_change_26 rfl (lv_at hl 0 rfl) ?_
          refine r_geti (k := 2) X Y S (by decide) lk_length (gf_length _ _ _) rfl rfl d_M_change_27 (fun z114 e114 l114 u114 => ?_)
          refine r_ni (m_run (As := [.int (iI 0), .int (iI z114)]) (rest := []) (n := 2) X Y hZ hA hml hl.1 (r_M_passwordRead l D E h q H.size I J B G 0 (by omega) (by omega) z114 (by omega) (by omega) S.1 (by omega)) kl_M_passwordRead ks_M_passwordRead kx_M_passwordRead ki_M_passwordRead ini_M hd_M_passwordRead ⟨Nat.le_of_ble_eq_true rfl, Nat.le_of_ble_eq_true rfl⟩ rfl (Nat.le_of_ble_eq_true rfl) d_M_change_30 ⟨Nat.le_refl _, Nat.le_refl _⟩) X Y hA S (by decide) (by decide) (fun z115 u H locs Y S s115 p115 => ?_)
          obtain ⟨I115, J115, B115, G115⟩ := u
          dsimp only at Y S s115 p115
          obtain ⟨l115, u115, x115⟩ := p115
          obtain ⟨z116, e116, x116, y116, y2116⟩ := x115
          refine z_if_eq (tgt := 40) X.1 X.2.1 d_M_change_33 (by decide) ⟨by omega, by omega⟩ (fun h117 => ?_) (fun h117 => ?_)
          · exact J103 I115 J115 B115 G115 _ _ _ (vB_cg (s115.2.2 46 (by decide)) f_V) Y S (lv_sub hl [0, 1, 2] rfl)
          · refine lv_iconst (v := iI 1) X.1 X.2.1 d_M_change_36 (by decide) ?_
            refine lv_goto (tgt := 41) X.1 X.2.1 d_M_change_37 (by decide) ?_
            refine lv_istore_n (lv' := [(3, .int (iI 1)), (0, .ref h), (1, .int (iI a1)), (2, .int (iI a2))]) X.1 X.2.1 d_M_change_41 rfl hl (by decide) rfl (fun ls hl => ?_)
            refine lv_aload_n X.1 X.2.1 d_M_change_42 rfl (lv_at hl 1 rfl) ?_
            refine lv_iconst (v := iI 0) X.1 X.2.1 d_M_change_43 (by decide) ?_
            refine r_puti (k := 2) X Y S (by decide) lk_length rfl rfl (t_M_ok 2 (by decide)) rfl rfl (sf_length _ _ _ _) (Nat.le_of_ble_eq_true rfl) rfl (show (0 : Int) ≤ 0 by omega) (show 0 ≤ (4000 : Int) by omega) ⟨by omega, by omega⟩ (by decide) d_M_change_44 (fun I118 H locs Y S w118 => ?_)
            refine lv_iload_n X.1 X.2.1 d_M_change_47 rfl (lv_at hl 0 rfl) ?_
            refine z_if_ne (tgt := 53) X.1 X.2.1 d_M_change_48 (by decide) ⟨by omega, by omega⟩ (fun h119 => ?_) (fun h119 => False.elim (by omega))
            · refine lv_aload_n X.1 X.2.1 d_M_change_53 rfl (lv_at hl 1 rfl) ?_
              refine lv_iload_n X.1 X.2.1 d_M_change_54 rfl (lv_at hl 2 rfl) ?_
              refine lv_iload_n X.1 X.2.1 d_M_change_55 rfl (lv_at hl 3 rfl) ?_
              refine r_nv (m_run (As := [.int (iI a1), .int (iI a2)]) (rest := []) (n := 2) X Y hZ hA hml hl.1 (r_M_setKeys l D E h q H.size I118 J115 B115 G115 a1 (by omega) (by omega) a2 (by omega) (by omega) S.1 z116 ((w118.2 30 (by decide)).trans e116) (by omega) (by omega) vn uvn (vB_cg rfl (vB_cg (s115.2.2 46 (by decide)) f_V))) kl_M_setKeys ks_M_setKeys kx_M_setKeys ki_M_setKeys ini_M hd_M_setKeys ⟨Nat.le_of_ble_eq_true rfl, Nat.le_of_ble_eq_true rfl⟩ rfl (Nat.le_of_ble_eq_true rfl) d_M_change_56 ⟨Nat.le_refl _, Nat.le_refl _⟩) X Y hA S (by decide) (by decide) (fun u H locs Y S s120 p120 => ?_)
              obtain ⟨I120, J120, B120, G120⟩ := u
              dsimp only at Y S s120 p120
              have g120_V1 := p120
              refine lv_aload_n X.1 X.2.1 d_M_change_59 rfl (lv_at hl 1 rfl) ?_
              refine m_get X Y 46 (by decide) lk_versions (gf_versions _ _ _) rfl d_M_change_60 ?_
              refine lv_iload_n X.1 X.2.1 d_M_change_63 rfl (lv_at hl 2 rfl) ?_
              refine r_iald X Y S (aw_versions _ _ _ _ _ _ _) rfl (by omega) (show a1 < ((12 : Nat) : Int) by omega) (by omega) d_M_change_64 (fun z121 q121 l121 u121 => ?_)
              exact m_reti hQQ X Y hr hlk ⟨S, z121, rfl, ⟨by omega, by omega, g120_V1⟩⟩ d_M_change_65
set_option maxHeartbeats 4000000 in
set_option maxRecDepth 100000 in
theorem r_M_policy (l : Launch) (D : mD) (E : mE) (h : Nat) (q : Nat → Nat) (sz : Nat) (I : Nat → Int32) (J : Nat → Int64) (B : Nat → Nat → Int32) (G : Nat → Nat → Int64) (a1 : Int) (l_a1 : (-2147483648) ≤ a1) (u_a1 : a1 ≤ 2147483647) (a2 : Int) (l_a2 : (-2147483648) ≤ a2) (u_a2 : a2 ≤ 2147483647) (a3 : Int) (l_a3 : (-2147483648) ≤ a3) (u_a3 : a3 ≤ 2147483647) (hT : rT I B) : Met l y_M_policy (k_M_policy :: lw_tg) (mR 1 60) (va_Pc [.ref h, .int (iI a1), .int (iI a2), .int (iI a3)] (mPre D E h q (I, J, B, G) sz)) (va_Qi (rPi [] [48, 49, 50, 51] I B (fun (z : Int) (u : mS) => 0 ≤ z ∧ z ≤ 1)) (mPost D E h q (mA E h q sz)) (mA E h q sz)) 0 0 (mA E h q sz) := by
  refine m_enter (by decide) rfl (Nat.le_of_ble_eq_true rfl) (fun p e s m below meth c ls AV QQ H locs hQQ X Y hZ hA hr hlk hml hl => ?_)
  have Y : mH D E (mA E h q sz) s.heap h q I J B G H locs := Y
  have S : rS [] [48, 49, 50, 51] I B I B := rS_rf hT
  have hl : lv_has ls 4 [(0, .ref h), (1, .int (iI a1)), (2, .int (iI a2)), (3, .int (iI a3))] := hl
  refine lv_iload_n X.1 X.2.1 d_M_policy_0 rfl (lv_at hl 1 rfl) ?_
  refine z_if_lt (tgt := 35) X.1 X.2.1 d_M_policy_1 (by decide) ⟨by omega, by omega⟩ (fun h101 => ?_) (fun h101 => ?_)
  · refine lv_iconst (v := iI 0) X.1 X.2.1 d_M_policy_35 (by decide) ?_
    exact m_retz hQQ X Y hr hlk (iI_bool (by omega) (by omega)).1 ⟨S, 0, rfl, ⟨by omega, by omega⟩⟩ d_M_policy_36
  · refine lv_iload_n X.1 X.2.1 d_M_policy_4 rfl (lv_at hl 1 rfl) ?_
    refine lv_aload_n X.1 X.2.1 d_M_policy_5 rfl (lv_at hl 0 rfl) ?_
    refine r_geti (k := 43) X Y S (by decide) lk_principals (gf_principals _ _ _) rfl rfl d_M_policy_6 (fun z102 e102 l102 u102 => ?_)
    refine z_icmp_ge (tgt := 35) X.1 X.2.1 d_M_policy_9 (by decide) ⟨by omega, by omega⟩ ⟨by omega, by omega⟩ (fun h103 => ?_) (fun h103 => ?_)
    · refine lv_iconst (v := iI 0) X.1 X.2.1 d_M_policy_35 (by decide) ?_
      exact m_retz hQQ X Y hr hlk (iI_bool (by omega) (by omega)).1 ⟨S, 0, rfl, ⟨by omega, by omega⟩⟩ d_M_policy_36
    · refine lv_iload_n X.1 X.2.1 d_M_policy_12 rfl (lv_at hl 2 rfl) ?_
      refine z_if_lt (tgt := 35) X.1 X.2.1 d_M_policy_13 (by decide) ⟨by omega, by omega⟩ (fun h104 => ?_) (fun h104 => ?_)
      · refine lv_iconst (v := iI 0) X.1 X.2.1 d_M_policy_35 (by decide) ?_
        exact m_retz hQQ X Y hr hlk (iI_bool (by omega) (by omega)).1 ⟨S, 0, rfl, ⟨by omega, by omega⟩⟩ d_M_policy_36
      · refine lv_iload_n X.1 X.2.1 d_M_policy_16 rfl (lv_at hl 2 rfl) ?_
        refine lv_iconst (v := iI 3) X.1 X.2.1 d_M_policy_17 (by decide) ?_
        refine z_icmp_gt (tgt := 35) X.1 X.2.1 d_M_policy_18 (by decide) ⟨by omega, by omega⟩ ⟨by omega, by omega⟩ (fun h105 => ?_) (fun h105 => ?_)
        · refine lv_iconst (v := iI 0) X.1 X.2.1 d_M_policy_35 (by decide) ?_
          exact m_retz hQQ X Y hr hlk (iI_bool (by omega) (by omega)).1 ⟨S, 0, rfl, ⟨by omega, by omega⟩⟩ d_M_policy_36
        · refine lv_iload_n X.1 X.2.1 d_M_policy_21 rfl (lv_at hl 3 rfl) ?_
          refine lv_iload_n X.1 X.2.1 d_M_policy_22 rfl (lv_at hl 2 rfl) ?_
          refine lv_iconst (v := iI 2) X.1 X.2.1 d_M_policy_23 (by decide) ?_
          have J107 : ∀ (z106 : Int) (H : Heap) (locs : List Loc) (ls : Array Slot), (0 ≤ z106) → (z106 ≤ 1) → mH D E (mA E h q sz) s.heap h q I J B G H locs → rS [] [48, 49, 50, 51] I B I B → lv_has ls 4 [(0, .ref h), (1, .int (iI a1)), (2, .int (iI a2)), (3, .int (iI a3))] → W p l e (mR 1 60) s m AV below meth c H locs 0 0 QQ (F0 m 32 ls [.int (iI z106), .int (iI a3)]) := by
            intro z106 H locs ls l106 u106 Y S hl
            refine z_icmp_ge (tgt := 37) X.1 X.2.1 d_M_policy_32 (by decide) ⟨by omega, by omega⟩ ⟨by omega, by omega⟩ (fun h111 => ?_) (fun h111 => ?_)
            · refine lv_iload_n X.1 X.2.1 d_M_policy_37 rfl (lv_at hl 3 rfl) ?_
              refine lv_iload_n X.1 X.2.1 d_M_policy_38 rfl (lv_at hl 2 rfl) ?_
              have J113 : ∀ (z112 : Int) (H : Heap) (locs : List Loc) (ls : Array Slot), (63 ≤ z112) → (z112 ≤ 2000000000) → mH D E (mA E h q sz) s.heap h q I J B G H locs → rS [] [48, 49, 50, 51] I B I B → lv_has ls 4 [(0, .ref h), (1, .int (iI a1)), (2, .int (iI a2)), (3, .int (iI a3))] → W p l e (mR 1 60) s m AV below meth c H locs 0 0 QQ (F0 m 72 ls [.int (iI z112), .int (iI a3)]) := by
                intro z112 H locs ls l112 u112 Y S hl
                refine z_icmp_le (tgt := 77) X.1 X.2.1 d_M_policy_72 (by decide) ⟨by omega, by omega⟩ ⟨by omega, by omega⟩ (fun h117 => ?_) (fun h117 => ?_)
                · refine lv_iload_n X.1 X.2.1 d_M_policy_77 rfl (lv_at hl 2 rfl) ?_
                  refine z_if_ne (tgt := 91) X.1 X.2.1 d_M_policy_78 (by decide) ⟨by omega, by omega⟩ (fun h118 => ?_) (fun h118 => ?_)
                  · refine lv_iload_n X.1 X.2.1 d_M_policy_91 rfl (lv_at hl 2 rfl) ?_
                    refine lv_iconst (v := iI 1) X.1 X.2.1 d_M_policy_92 (by decide) ?_
                    refine z_icmp_ne (tgt := 106) X.1 X.2.1 d_M_policy_93 (by decide) ⟨by omega, by omega⟩ ⟨by omega, by omega⟩ (fun h119 => ?_) (fun h119 => ?_)
                    · refine lv_iload_n X.1 X.2.1 d_M_policy_106 rfl (lv_at hl 2 rfl) ?_
                      refine lv_iconst (v := iI 2) X.1 X.2.1 d_M_policy_107 (by decide) ?_
                      refine z_icmp_ne (tgt := 121) X.1 X.2.1 d_M_policy_108 (by decide) ⟨by omega, by omega⟩ ⟨by omega, by omega⟩ (fun h120 => ?_) (fun h120 => ?_)
                      · refine lv_aload_n X.1 X.2.1 d_M_policy_121 rfl (lv_at hl 0 rfl) ?_
                        refine m_get X Y 51 (by decide) lk_ends (gf_ends _ _ _) rfl d_M_policy_122 ?_
                        refine lv_iload_n X.1 X.2.1 d_M_policy_125 rfl (lv_at hl 1 rfl) ?_
                        refine lv_iload_n X.1 X.2.1 d_M_policy_126 rfl (lv_at hl 3 rfl) ?_
                        refine r_iast X Y S (aw_ends _ _ _ _ _ _ _) (sw_ends _ _ _ _ _ _ _) rfl ⟨(show ((-2147483648) : Int) ≤ a3 by omega), (show a3 ≤ (2147483647 : Int) by omega)⟩ ⟨by omega, by omega⟩ (by omega) (show a1 < ((12 : Nat) : Int) by omega) (by omega) (by decide) d_M_policy_127 (fun B121 H locs Y S w121 => ?_)
                        refine lv_iconst (v := iI 1) X.1 X.2.1 d_M_policy_128 (by decide) ?_
                        exact m_retz hQQ X Y hr hlk (iI_bool (by omega) (by omega)).1 ⟨S, 1, rfl, ⟨by omega, by omega⟩⟩ d_M_policy_129
                      · refine lv_aload_n X.1 X.2.1 d_M_policy_111 rfl (lv_at hl 0 rfl) ?_
                        refine m_get X Y 50 (by decide) lk_flags (gf_flags _ _ _) rfl d_M_policy_112 ?_
                        refine lv_iload_n X.1 X.2.1 d_M_policy_115 rfl (lv_at hl 1 rfl) ?_
                        refine lv_iload_n X.1 X.2.1 d_M_policy_116 rfl (lv_at hl 3 rfl) ?_
                        refine r_iast X Y S (aw_flags _ _ _ _ _ _ _) (sw_flags _ _ _ _ _ _ _) rfl ⟨(show ((-2147483648) : Int) ≤ a3 by omega), (show a3 ≤ (2147483647 : Int) by omega)⟩ ⟨by omega, by omega⟩ (by omega) (show a1 < ((12 : Nat) : Int) by omega) (by omega) (by decide) d_M_policy_117 (fun B122 H locs Y S w122 => ?_)
                        refine lv_goto (tgt := 128) X.1 X.2.1 d_M_policy_118 (by decide) ?_
                        refine lv_iconst (v := iI 1) X.1 X.2.1 d_M_policy_128 (by decide) ?_
                        exact m_retz hQQ X Y hr hlk (iI_bool (by omega) (by omega)).1 ⟨S, 1, rfl, ⟨by omega, by omega⟩⟩ d_M_policy_129
                    · refine lv_aload_n X.1 X.2.1 d_M_policy_96 rfl (lv_at hl 0 rfl) ?_
                      refine m_get X Y 49 (by decide) lk_renews (gf_renews _ _ _) rfl d_M_policy_97 ?_
                      refine lv_iload_n X.1 X.2.1 d_M_policy_100 rfl (lv_at hl 1 rfl) ?_
                      refine lv_iload_n X.1 X.2.1 d_M_policy_101 rfl (lv_at hl 3 rfl) ?_
                      refine r_iast X Y S (aw_renews _ _ _ _ _ _ _) (sw_renews _ _ _ _ _ _ _) rfl ⟨(show ((-2147483648) : Int) ≤ a3 by omega), (show a3 ≤ (2147483647 : Int) by omega)⟩ ⟨by omega, by omega⟩ (by omega) (show a1 < ((12 : Nat) : Int) by omega) (by omega) (by decide) d_M_policy_102 (fun B123 H locs Y S w123 => ?_)
                      refine lv_goto (tgt := 128) X.1 X.2.1 d_M_policy_103 (by decide) ?_
                      refine lv_iconst (v := iI 1) X.1 X.2.1 d_M_policy_128 (by decide) ?_
                      exact m_retz hQQ X Y hr hlk (iI_bool (by omega) (by omega)).1 ⟨S, 1, rfl, ⟨by omega, by omega⟩⟩ d_M_policy_129
                  · refine lv_aload_n X.1 X.2.1 d_M_policy_81 rfl (lv_at hl 0 rfl) ?_
                    refine m_get X Y 48 (by decide) lk_lifes (gf_lifes _ _ _) rfl d_M_policy_82 ?_
                    refine lv_iload_n X.1 X.2.1 d_M_policy_85 rfl (lv_at hl 1 rfl) ?_
                    refine lv_iload_n X.1 X.2.1 d_M_policy_86 rfl (lv_at hl 3 rfl) ?_
                    refine r_iast X Y S (aw_lifes _ _ _ _ _ _ _) (sw_lifes _ _ _ _ _ _ _) rfl ⟨(show ((-2147483648) : Int) ≤ a3 by omega), (show a3 ≤ (2147483647 : Int) by omega)⟩ ⟨by omega, by omega⟩ (by omega) (show a1 < ((12 : Nat) : Int) by omega) (by omega) (by decide) d_M_policy_87 (fun B124 H locs Y S w124 => ?_)
                    refine lv_goto (tgt := 128) X.1 X.2.1 d_M_policy_88 (by decide) ?_
                    refine lv_iconst (v := iI 1) X.1 X.2.1 d_M_policy_128 (by decide) ?_
                    exact m_retz hQQ X Y hr hlk (iI_bool (by omega) (by omega)).1 ⟨S, 1, rfl, ⟨by omega, by omega⟩⟩ d_M_policy_129
                · refine lv_iconst (v := iI 0) X.1 X.2.1 d_M_policy_75 (by decide) ?_
                  exact m_retz hQQ X Y hr hlk (iI_bool (by omega) (by omega)).1 ⟨S, 0, rfl, ⟨by omega, by omega⟩⟩ d_M_policy_76
              refine z_if_ne (tgt := 48) X.1 X.2.1 d_M_policy_39 (by decide) ⟨by omega, by omega⟩ (fun h125 => ?_) (fun h125 => ?_)
              · refine lv_iload_n X.1 X.2.1 d_M_policy_48 rfl (lv_at hl 2 rfl) ?_
                refine lv_iconst (v := iI 1) X.1 X.2.1 d_M_policy_49 (by decide) ?_
                refine z_icmp_ne (tgt := 59) X.1 X.2.1 d_M_policy_50 (by decide) ⟨by omega, by omega⟩ ⟨by omega, by omega⟩ (fun h126 => ?_) (fun h126 => ?_)
                · refine lv_iload_n X.1 X.2.1 d_M_policy_59 rfl (lv_at hl 2 rfl) ?_
                  refine lv_iconst (v := iI 2) X.1 X.2.1 d_M_policy_60 (by decide) ?_
                  refine z_icmp_ne (tgt := 69) X.1 X.2.1 d_M_policy_61 (by decide) ⟨by omega, by omega⟩ ⟨by omega, by omega⟩ (fun h127 => ?_) (fun h127 => ?_)
                  · refine lv_ldcw (v := (2000000000)) X.1 X.2.1 X.2.2.2.1 (X.2.2.1 _ cn_M_351) d_M_policy_69 ?_
                    refine t_eq (y := iI 2000000000) (by decide) ?_
                    exact J113 2000000000 _ _ _ (by omega) (by omega) Y S (lv_sub hl [0, 1, 2, 3] rfl)
                  · refine lv_bipush (v := iI 63) X.1 X.2.1 d_M_policy_64 (by decide) ?_
                    refine lv_goto (tgt := 72) X.1 X.2.1 d_M_policy_66 (by decide) ?_
                    exact J113 63 _ _ _ (by omega) (by omega) Y S (lv_sub hl [0, 1, 2, 3] rfl)
                · refine lv_ldcw (v := (10000000)) X.1 X.2.1 X.2.2.2.1 (X.2.2.1 _ cn_M_645) d_M_policy_53 ?_
                  refine t_eq (y := iI 10000000) (by decide) ?_
                  refine lv_goto (tgt := 72) X.1 X.2.1 d_M_policy_56 (by decide) ?_
                  exact J113 10000000 _ _ _ (by omega) (by omega) Y S (lv_sub hl [0, 1, 2, 3] rfl)
              · refine lv_ldcw (v := (1000000)) X.1 X.2.1 X.2.2.2.1 (X.2.2.1 _ cn_M_644) d_M_policy_42 ?_
                refine t_eq (y := iI 1000000) (by decide) ?_
                refine lv_goto (tgt := 72) X.1 X.2.1 d_M_policy_45 (by decide) ?_
                exact J113 1000000 _ _ _ (by omega) (by omega) Y S (lv_sub hl [0, 1, 2, 3] rfl)
            · refine lv_iconst (v := iI 0) X.1 X.2.1 d_M_policy_35 (by decide) ?_
              exact m_retz hQQ X Y hr hlk (iI_bool (by omega) (by omega)).1 ⟨S, 0, rfl, ⟨by omega, by omega⟩⟩ d_M_policy_36
          refine z_icmp_ge (tgt := 31) X.1 X.2.1 d_M_policy_24 (by decide) ⟨by omega, by omega⟩ ⟨by omega, by omega⟩ (fun h128 => ?_) (fun h128 => ?_)
          · refine lv_iconst (v := iI 0) X.1 X.2.1 d_M_policy_31 (by decide) ?_
            exact J107 0 _ _ _ (by omega) (by omega) Y S (lv_sub hl [0, 1, 2, 3] rfl)
          · refine lv_iconst (v := iI 1) X.1 X.2.1 d_M_policy_27 (by decide) ?_
            refine lv_goto (tgt := 32) X.1 X.2.1 d_M_policy_28 (by decide) ?_
            exact J107 1 _ _ _ (by omega) (by omega) Y S (lv_sub hl [0, 1, 2, 3] rfl)
set_option maxHeartbeats 4000000 in
set_option maxRecDepth 100000 in
theorem r_M_says (l : Launch) (D : mD) (E : mE) (h : Nat) (q : Nat → Nat) (sz : Nat) (I : Nat → Int32) (J : Nat → Int64) (B : Nat → Nat → Int32) (G : Nat → Nat → Int64) (a1 : Int) (l_a1 : 0 ≤ a1) (u_a1 : a1 ≤ 11) (a2 : Int) (l_a2 : (-2147483648) ≤ a2) (u_a2 : a2 ≤ 2147483647) (hT : rT I B) : Met l y_M_says (k_M_says :: lw_tg) (mR 1 60) (va_Pc [.ref h, .int (iI a1), .int (iI a2)] (mPre D E h q (I, J, B, G) sz)) (va_Qi (rPi [] [] I B (fun (z : Int) (u : mS) => 0 ≤ z ∧ z ≤ 1)) (mPost D E h q (mA E h q sz)) (mA E h q sz)) 0 0 (mA E h q sz) := by
  refine m_enter (by decide) rfl (Nat.le_of_ble_eq_true rfl) (fun p e s m below meth c ls AV QQ H locs hQQ X Y hZ hA hr hlk hml hl => ?_)
  have Y : mH D E (mA E h q sz) s.heap h q I J B G H locs := Y
  have S : rS [] [] I B I B := rS_rf hT
  have hl : lv_has ls 3 [(0, .ref h), (1, .int (iI a1)), (2, .int (iI a2))] := hl
  refine lv_aload_n X.1 X.2.1 d_M_says_0 rfl (lv_at hl 0 rfl) ?_
  refine m_get X Y 50 (by decide) lk_flags (gf_flags _ _ _) rfl d_M_says_1 ?_
  refine lv_iload_n X.1 X.2.1 d_M_says_4 rfl (lv_at hl 1 rfl) ?_
  refine r_iald X Y S (aw_flags _ _ _ _ _ _ _) rfl (by omega) (show a1 < ((12 : Nat) : Int) by omega) (by omega) d_M_says_5 (fun z101 q101 l101 u101 => ?_)
  refine lv_iload_n X.1 X.2.1 d_M_says_6 rfl (lv_at hl 2 rfl) ?_
  refine lv_iand X.1 X.2.1 d_M_says_7 ?_
  refine t_u (fun z103 l103 u103 => ?_)
  refine lv_iload_n X.1 X.2.1 d_M_says_8 rfl (lv_at hl 2 rfl) ?_
  refine z_icmp_ne (tgt := 16) X.1 X.2.1 d_M_says_9 (by decide) ⟨by omega, by omega⟩ ⟨by omega, by omega⟩ (fun h104 => ?_) (fun h104 => ?_)
  · refine lv_iconst (v := iI 0) X.1 X.2.1 d_M_says_16 (by decide) ?_
    exact m_retz hQQ X Y hr hlk (iI_bool (by omega) (by omega)).1 ⟨S, 0, rfl, ⟨by omega, by omega⟩⟩ d_M_says_17
  · refine lv_iconst (v := iI 1) X.1 X.2.1 d_M_says_12 (by decide) ?_
    refine lv_goto (tgt := 17) X.1 X.2.1 d_M_says_13 (by decide) ?_
    exact m_retz hQQ X Y hr hlk (iI_bool (by omega) (by omega)).1 ⟨S, 1, rfl, ⟨by omega, by omega⟩⟩ d_M_says_17
set_option maxHeartbeats 4000000 in
set_option maxRecDepth 100000 in
theorem r_M_isExpired (l : Launch) (D : mD) (E : mE) (h : Nat) (q : Nat → Nat) (sz : Nat) (I : Nat → Int32) (J : Nat → Int64) (B : Nat → Nat → Int32) (G : Nat → Nat → Int64) (a1 : Int) (l_a1 : 0 ≤ a1) (u_a1 : a1 ≤ 11) (hT : rT I B) : Met l y_M_isExpired (k_M_isExpired :: lw_tg) (mR 1 60) (va_Pc [.ref h, .int (iI a1)] (mPre D E h q (I, J, B, G) sz)) (va_Qi (rPi [] [] I B (fun (z : Int) (u : mS) => 0 ≤ z ∧ z ≤ 1)) (mPost D E h q (mA E h q sz)) (mA E h q sz)) 0 0 (mA E h q sz) := by
  refine m_enter (by decide) rfl (Nat.le_of_ble_eq_true rfl) (fun p e s m below meth c ls AV QQ H locs hQQ X Y hZ hA hr hlk hml hl => ?_)
  have Y : mH D E (mA E h q sz) s.heap h q I J B G H locs := Y
  have S : rS [] [] I B I B := rS_rf hT
  have hl : lv_has ls 2 [(0, .ref h), (1, .int (iI a1))] := hl
  refine lv_aload_n X.1 X.2.1 d_M_isExpired_0 rfl (lv_at hl 0 rfl) ?_
  refine m_get X Y 51 (by decide) lk_ends (gf_ends _ _ _) rfl d_M_isExpired_1 ?_
  refine lv_iload_n X.1 X.2.1 d_M_isExpired_4 rfl (lv_at hl 1 rfl) ?_
  refine r_iald X Y S (aw_ends _ _ _ _ _ _ _) rfl (by omega) (show a1 < ((12 : Nat) : Int) by omega) (by omega) d_M_isExpired_5 (fun z101 q101 l101 u101 => ?_)
  refine z_if_le (tgt := 26) X.1 X.2.1 d_M_isExpired_6 (by decide) ⟨by omega, by omega⟩ (fun h102 => ?_) (fun h102 => ?_)
  · refine lv_iconst (v := iI 0) X.1 X.2.1 d_M_isExpired_26 (by decide) ?_
    exact m_retz hQQ X Y hr hlk (iI_bool (by omega) (by omega)).1 ⟨S, 0, rfl, ⟨by omega, by omega⟩⟩ d_M_isExpired_27
  · refine lv_aload_n X.1 X.2.1 d_M_isExpired_9 rfl (lv_at hl 0 rfl) ?_
    refine r_geti (k := 4) X Y S (by decide) lk_now (gf_now _ _ _) rfl rfl d_M_isExpired_10 (fun z103 e103 l103 u103 => ?_)
    refine lv_aload_n X.1 X.2.1 d_M_isExpired_13 rfl (lv_at hl 0 rfl) ?_
    refine m_get X Y 51 (by decide) lk_ends (gf_ends _ _ _) rfl d_M_isExpired_14 ?_
    refine lv_iload_n X.1 X.2.1 d_M_isExpired_17 rfl (lv_at hl 1 rfl) ?_
    refine r_iald X Y S (aw_ends _ _ _ _ _ _ _) rfl (by omega) (show a1 < ((12 : Nat) : Int) by omega) (by omega) d_M_isExpired_18 (fun z104 q104 l104 u104 => ?_)
    refine z_icmp_lt (tgt := 26) X.1 X.2.1 d_M_isExpired_19 (by decide) ⟨by omega, by omega⟩ ⟨by omega, by omega⟩ (fun h105 => ?_) (fun h105 => ?_)
    · refine lv_iconst (v := iI 0) X.1 X.2.1 d_M_isExpired_26 (by decide) ?_
      exact m_retz hQQ X Y hr hlk (iI_bool (by omega) (by omega)).1 ⟨S, 0, rfl, ⟨by omega, by omega⟩⟩ d_M_isExpired_27
    · refine lv_iconst (v := iI 1) X.1 X.2.1 d_M_isExpired_22 (by decide) ?_
      refine lv_goto (tgt := 27) X.1 X.2.1 d_M_isExpired_23 (by decide) ?_
      exact m_retz hQQ X Y hr hlk (iI_bool (by omega) (by omega)).1 ⟨S, 1, rfl, ⟨by omega, by omega⟩⟩ d_M_isExpired_27
set_option maxHeartbeats 4000000 in
set_option maxRecDepth 100000 in
theorem r_M_keyOf_key (l : Launch) (D : mD) (E : mE) (h : Nat) (q : Nat → Nat) (sz : Nat) (I : Nat → Int32) (J : Nat → Int64) (B : Nat → Nat → Int32) (G : Nat → Nat → Int64) (a1 : Int) (l_a1 : 0 ≤ a1) (u_a1 : a1 ≤ 11) (a2 : Int) (l_a2 : 0 ≤ a2) (u_a2 : a2 ≤ 2147483647) (a3 : Int) (l_a3 : 17 ≤ a3) (u_a3 : a3 ≤ 18) (hT : rT I B) : Met l y_M_keyOf (k_M_keyOf :: lw_tg) (mR 1 60) (va_Pc [.ref h, .int (iI a1), .int (iI a2), .int (iI a3), .ref (q 58)] (mPre D E h q (I, J, B, G) sz)) (va_Qv (rPv [] [58] I B (fun (u : mS) => True)) (mPost D E h q (mA E h q sz)) (mA E h q sz)) 0 0 (mA E h q sz) := by
  refine m_enter (by decide) rfl (Nat.le_of_ble_eq_true rfl) (fun p e s m below meth c ls AV QQ H locs hQQ X Y hZ hA hr hlk hml hl => ?_)
  have Y : mH D E (mA E h q sz) s.heap h q I J B G H locs := Y
  have S : rS [] [58] I B I B := rS_rf hT
  have hl : lv_has ls 6 [(0, .ref h), (1, .int (iI a1)), (2, .int (iI a2)), (3, .int (iI a3)), (4, .ref ((q 58)))] := hl
  refine lv_iconst (v := iI 0) X.1 X.2.1 d_M_keyOf_0 (by decide) ?_
  have J103 : ∀ (n105 : Nat) (z102 : Int) (I101 : Nat → Int32) (J101 : Nat → Int64) (B101 : Nat → Nat → Int32) (G101 : Nat → Nat → Int64) (H : Heap) (locs : List Loc) (ls : Array Slot), (32 - z102).toNat = n105 → (0 ≤ z102) → (z102 ≤ 32) → mH D E (mA E h q sz) s.heap h q I101 J101 B101 G101 H locs → rS [] [58] I B I101 B101 → lv_has ls 6 [(0, .ref h), (1, .int (iI a1)), (2, .int (iI a2)), (3, .int (iI a3)), (4, .ref ((q 58))), (5, .int (iI z102))] → W p l e (mR 1 60) s m AV below meth c H locs 0 0 QQ (F0 m 3 ls []) := by
    intro n105
    induction n105 using Nat.strongRecOn with
    | ind n105 ih104 =>
      intro z102 I101 J101 B101 G101 H locs ls hm106 l102 u102 Y S hl
      refine lv_iload X.1 X.2.1 d_M_keyOf_3 (lv_at hl 5 rfl) ?_
      refine lv_bipush (v := iI 32) X.1 X.2.1 d_M_keyOf_5 (by decide) ?_
      refine z_icmp_ge (tgt := 46) X.1 X.2.1 d_M_keyOf_7 (by decide) ⟨by omega, by omega⟩ ⟨by omega, by omega⟩ (fun h107 => ?_) (fun h107 => ?_)
      · exact m_retv hQQ X Y hr hlk ⟨S, trivial⟩ d_M_keyOf_46
      · refine lv_aload X.1 X.2.1 d_M_keyOf_10 (lv_at hl 4 rfl) ?_
        refine lv_iload X.1 X.2.1 d_M_keyOf_12 (lv_at hl 5 rfl) ?_
        refine lv_aload_n X.1 X.2.1 d_M_keyOf_14 rfl (lv_at hl 0 rfl) ?_
        refine m_get X Y 52 (by decide) lk_keys (gf_keys _ _ _) rfl d_M_keyOf_15 ?_
        refine lv_bipush (v := iI 32) X.1 X.2.1 d_M_keyOf_18 (by decide) ?_
        refine lv_iconst (v := iI 4) X.1 X.2.1 d_M_keyOf_20 (by decide) ?_
        refine lv_iload_n X.1 X.2.1 d_M_keyOf_21 rfl (lv_at hl 1 rfl) ?_
        refine z_imul X.1 X.2.1 d_M_keyOf_22 ?_
        refine lv_iconst (v := iI 2) X.1 X.2.1 d_M_keyOf_23 (by decide) ?_
        refine lv_iload_n X.1 X.2.1 d_M_keyOf_24 rfl (lv_at hl 2 rfl) ?_
        refine lv_iconst (v := iI 2) X.1 X.2.1 d_M_keyOf_25 (by decide) ?_
        refine z_irem X.1 X.2.1 (by omega) (by omega) ⟨by decide, by decide⟩ d_M_keyOf_26 ?_
        refine z_imul X.1 X.2.1 d_M_keyOf_27 ?_
        refine z_iadd X.1 X.2.1 d_M_keyOf_28 ?_
        refine lv_iload_n X.1 X.2.1 d_M_keyOf_29 rfl (lv_at hl 3 rfl) ?_
        refine z_iadd X.1 X.2.1 d_M_keyOf_30 ?_
        refine lv_bipush (v := iI 17) X.1 X.2.1 d_M_keyOf_31 (by decide) ?_
        refine z_isub X.1 X.2.1 d_M_keyOf_33 ?_
        refine z_imul X.1 X.2.1 d_M_keyOf_34 ?_
        refine lv_iload X.1 X.2.1 d_M_keyOf_35 (lv_at hl 5 rfl) ?_
        refine z_iadd X.1 X.2.1 d_M_keyOf_37 ?_
        refine r_bald X Y S (aw_keys _ _ _ _ _ _ _) rfl (by omega) (show (32 * ((((4 * a1) + (2 * (a2 % 2))) + a3) - 17)) + z102 < ((1536 : Nat) : Int) by omega) (by omega) d_M_keyOf_38 (fun z108 q108 l108 u108 => ?_)
        refine r_bast X Y S (aw_key _ _ _ _ _ _ _) (sw_key _ _ _ _ _ _ _) rfl (by omega) (show z102 < ((32 : Nat) : Int) by omega) (by omega) (by decide) d_M_keyOf_39 (fun B109 H locs Y S w109 => ?_)
        refine lv_iinc (v := iI (z102 + 1)) (lv' := [(5, .int (iI (z102 + 1))), (0, .ref h), (1, .int (iI a1)), (2, .int (iI a2)), (3, .int (iI a3)), (4, .ref ((q 58)))]) X.1 X.2.1 d_M_keyOf_40 hl (k := 5) rfl ((iI_add _ _).trans (congrArg iI (by omega))) (by decide) rfl (fun ls hl => ?_)
        refine lv_goto (tgt := 3) X.1 X.2.1 d_M_keyOf_43 (by decide) ?_
        exact ih104 ((32 - (z102 + 1)).toNat) (by omega) (z102 + 1) I101 J101 B109 G101 _ _ _ rfl (by omega) (by omega) Y S (lv_sub hl [1, 2, 3, 4, 5, 0] rfl)
  refine lv_istore (lv' := [(5, .int (iI 0)), (0, .ref h), (1, .int (iI a1)), (2, .int (iI a2)), (3, .int (iI a3)), (4, .ref ((q 58)))]) X.1 X.2.1 d_M_keyOf_1 hl (by decide) rfl (fun ls hl => ?_)
  exact J103 _ 0 I J B G _ _ _ rfl (by omega) (by omega) Y S (lv_sub hl [1, 2, 3, 4, 5, 0] rfl)
set_option maxHeartbeats 4000000 in
set_option maxRecDepth 100000 in
theorem r_M_keyOf_made (l : Launch) (D : mD) (E : mE) (h : Nat) (q : Nat → Nat) (sz : Nat) (I : Nat → Int32) (J : Nat → Int64) (B : Nat → Nat → Int32) (G : Nat → Nat → Int64) (a1 : Int) (l_a1 : 0 ≤ a1) (u_a1 : a1 ≤ 11) (a2 : Int) (l_a2 : 0 ≤ a2) (u_a2 : a2 ≤ 2147483647) (a3 : Int) (l_a3 : 17 ≤ a3) (u_a3 : a3 ≤ 18) (hT : rT I B) : Met l y_M_keyOf (k_M_keyOf :: lw_tg) (mR 1 60) (va_Pc [.ref h, .int (iI a1), .int (iI a2), .int (iI a3), .ref (q 56)] (mPre D E h q (I, J, B, G) sz)) (va_Qv (rPv [] [56] I B (fun (u : mS) => True)) (mPost D E h q (mA E h q sz)) (mA E h q sz)) 0 0 (mA E h q sz) := by
  refine m_enter (by decide) rfl (Nat.le_of_ble_eq_true rfl) (fun p e s m below meth c ls AV QQ H locs hQQ X Y hZ hA hr hlk hml hl => ?_)
  have Y : mH D E (mA E h q sz) s.heap h q I J B G H locs := Y
  have S : rS [] [56] I B I B := rS_rf hT
  have hl : lv_has ls 6 [(0, .ref h), (1, .int (iI a1)), (2, .int (iI a2)), (3, .int (iI a3)), (4, .ref ((q 56)))] := hl
  refine lv_iconst (v := iI 0) X.1 X.2.1 d_M_keyOf_0 (by decide) ?_
  have J103 : ∀ (n105 : Nat) (z102 : Int) (I101 : Nat → Int32) (J101 : Nat → Int64) (B101 : Nat → Nat → Int32) (G101 : Nat → Nat → Int64) (H : Heap) (locs : List Loc) (ls : Array Slot), (32 - z102).toNat = n105 → (0 ≤ z102) → (z102 ≤ 32) → mH D E (mA E h q sz) s.heap h q I101 J101 B101 G101 H locs → rS [] [56] I B I101 B101 → lv_has ls 6 [(0, .ref h), (1, .int (iI a1)), (2, .int (iI a2)), (3, .int (iI a3)), (4, .ref ((q 56))), (5, .int (iI z102))] → W p l e (mR 1 60) s m AV below meth c H locs 0 0 QQ (F0 m 3 ls []) := by
    intro n105
    induction n105 using Nat.strongRecOn with
    | ind n105 ih104 =>
      intro z102 I101 J101 B101 G101 H locs ls hm106 l102 u102 Y S hl
      refine lv_iload X.1 X.2.1 d_M_keyOf_3 (lv_at hl 5 rfl) ?_
      refine lv_bipush (v := iI 32) X.1 X.2.1 d_M_keyOf_5 (by decide) ?_
      refine z_icmp_ge (tgt := 46) X.1 X.2.1 d_M_keyOf_7 (by decide) ⟨by omega, by omega⟩ ⟨by omega, by omega⟩ (fun h107 => ?_) (fun h107 => ?_)
      · exact m_retv hQQ X Y hr hlk ⟨S, trivial⟩ d_M_keyOf_46
      · refine lv_aload X.1 X.2.1 d_M_keyOf_10 (lv_at hl 4 rfl) ?_
        refine lv_iload X.1 X.2.1 d_M_keyOf_12 (lv_at hl 5 rfl) ?_
        refine lv_aload_n X.1 X.2.1 d_M_keyOf_14 rfl (lv_at hl 0 rfl) ?_
        refine m_get X Y 52 (by decide) lk_keys (gf_keys _ _ _) rfl d_M_keyOf_15 ?_
        refine lv_bipush (v := iI 32) X.1 X.2.1 d_M_keyOf_18 (by decide) ?_
        refine lv_iconst (v := iI 4) X.1 X.2.1 d_M_keyOf_20 (by decide) ?_
        refine lv_iload_n X.1 X.2.1 d_M_keyOf_21 rfl (lv_at hl 1 rfl) ?_
        refine z_imul X.1 X.2.1 d_M_keyOf_22 ?_
        refine lv_iconst (v := iI 2) X.1 X.2.1 d_M_keyOf_23 (by decide) ?_
        refine lv_iload_n X.1 X.2.1 d_M_keyOf_24 rfl (lv_at hl 2 rfl) ?_
        refine lv_iconst (v := iI 2) X.1 X.2.1 d_M_keyOf_25 (by decide) ?_
        refine z_irem X.1 X.2.1 (by omega) (by omega) ⟨by decide, by decide⟩ d_M_keyOf_26 ?_
        refine z_imul X.1 X.2.1 d_M_keyOf_27 ?_
        refine z_iadd X.1 X.2.1 d_M_keyOf_28 ?_
        refine lv_iload_n X.1 X.2.1 d_M_keyOf_29 rfl (lv_at hl 3 rfl) ?_
        refine z_iadd X.1 X.2.1 d_M_keyOf_30 ?_
        refine lv_bipush (v := iI 17) X.1 X.2.1 d_M_keyOf_31 (by decide) ?_
        refine z_isub X.1 X.2.1 d_M_keyOf_33 ?_
        refine z_imul X.1 X.2.1 d_M_keyOf_34 ?_
        refine lv_iload X.1 X.2.1 d_M_keyOf_35 (lv_at hl 5 rfl) ?_
        refine z_iadd X.1 X.2.1 d_M_keyOf_37 ?_
        refine r_bald X Y S (aw_keys _ _ _ _ _ _ _) rfl (by omega) (show (32 * ((((4 * a1) + (2 * (a2 % 2))) + a3) - 17)) + z102 < ((1536 : Nat) : Int) by omega) (by omega) d_M_keyOf_38 (fun z108 q108 l108 u108 => ?_)
        refine r_bast X Y S (aw_made _ _ _ _ _ _ _) (sw_made _ _ _ _ _ _ _) rfl (by omega) (show z102 < ((32 : Nat) : Int) by omega) (by omega) (by decide) d_M_keyOf_39 (fun B109 H locs Y S w109 => ?_)
        refine lv_iinc (v := iI (z102 + 1)) (lv' := [(5, .int (iI (z102 + 1))), (0, .ref h), (1, .int (iI a1)), (2, .int (iI a2)), (3, .int (iI a3)), (4, .ref ((q 56)))]) X.1 X.2.1 d_M_keyOf_40 hl (k := 5) rfl ((iI_add _ _).trans (congrArg iI (by omega))) (by decide) rfl (fun ls hl => ?_)
        refine lv_goto (tgt := 3) X.1 X.2.1 d_M_keyOf_43 (by decide) ?_
        exact ih104 ((32 - (z102 + 1)).toNat) (by omega) (z102 + 1) I101 J101 B109 G101 _ _ _ rfl (by omega) (by omega) Y S (lv_sub hl [1, 2, 3, 4, 5, 0] rfl)
  refine lv_istore (lv' := [(5, .int (iI 0)), (0, .ref h), (1, .int (iI a1)), (2, .int (iI a2)), (3, .int (iI a3)), (4, .ref ((q 56)))]) X.1 X.2.1 d_M_keyOf_1 hl (by decide) rfl (fun ls hl => ?_)
  exact J103 _ 0 I J B G _ _ _ rfl (by omega) (by omega) Y S (lv_sub hl [1, 2, 3, 4, 5, 0] rfl)
set_option maxHeartbeats 4000000 in
set_option maxRecDepth 100000 in
theorem r_M_hasAgent (l : Launch) (D : mD) (E : mE) (h : Nat) (q : Nat → Nat) (sz : Nat) (I : Nat → Int32) (J : Nat → Int64) (B : Nat → Nat → Int32) (G : Nat → Nat → Int64) (a1 : Int) (l_a1 : (-2147483648) ≤ a1) (u_a1 : a1 ≤ 2147483647) (hT : rT I B) : Met l y_M_hasAgent (k_M_hasAgent :: lw_tg) (mR 1 60) (va_Pc [.ref h, .int (iI a1)] (mPre D E h q (I, J, B, G) sz)) (va_Qi (rPi [] [] I B (fun (z : Int) (u : mS) => 0 ≤ z ∧ z ≤ 1 ∧ (z = 0 ∨ 0 ≤ a1 ∧ a1 ≤ 3))) (mPost D E h q (mA E h q sz)) (mA E h q sz)) 0 0 (mA E h q sz) := by
  refine m_enter (by decide) rfl (Nat.le_of_ble_eq_true rfl) (fun p e s m below meth c ls AV QQ H locs hQQ X Y hZ hA hr hlk hml hl => ?_)
  have Y : mH D E (mA E h q sz) s.heap h q I J B G H locs := Y
  have S : rS [] [] I B I B := rS_rf hT
  have hl : lv_has ls 2 [(0, .ref h), (1, .int (iI a1))] := hl
  refine lv_iload_n X.1 X.2.1 d_M_hasAgent_0 rfl (lv_at hl 1 rfl) ?_
  refine z_if_lt (tgt := 22) X.1 X.2.1 d_M_hasAgent_1 (by decide) ⟨by omega, by omega⟩ (fun h101 => ?_) (fun h101 => ?_)
  · refine lv_iconst (v := iI 0) X.1 X.2.1 d_M_hasAgent_22 (by decide) ?_
    exact m_retz hQQ X Y hr hlk (iI_bool (by omega) (by omega)).1 ⟨S, 0, rfl, ⟨by omega, by omega, by omega⟩⟩ d_M_hasAgent_23
  · refine lv_iload_n X.1 X.2.1 d_M_hasAgent_4 rfl (lv_at hl 1 rfl) ?_
    refine lv_iconst (v := iI 4) X.1 X.2.1 d_M_hasAgent_5 (by decide) ?_
    refine z_icmp_ge (tgt := 22) X.1 X.2.1 d_M_hasAgent_6 (by decide) ⟨by omega, by omega⟩ ⟨by omega, by omega⟩ (fun h102 => ?_) (fun h102 => ?_)
    · refine lv_iconst (v := iI 0) X.1 X.2.1 d_M_hasAgent_22 (by decide) ?_
      exact m_retz hQQ X Y hr hlk (iI_bool (by omega) (by omega)).1 ⟨S, 0, rfl, ⟨by omega, by omega, by omega⟩⟩ d_M_hasAgent_23
    · refine lv_aload_n X.1 X.2.1 d_M_hasAgent_9 rfl (lv_at hl 0 rfl) ?_
      refine m_get X Y 91 (by decide) lk_isAgent (gf_isAgent _ _ _) rfl d_M_hasAgent_10 ?_
      refine lv_iload_n X.1 X.2.1 d_M_hasAgent_13 rfl (lv_at hl 1 rfl) ?_
      refine r_zald X Y S (aw_isAgent _ _ _ _ _ _ _) rfl (by omega) (show a1 < ((4 : Nat) : Int) by omega) (by omega) d_M_hasAgent_14 (fun z103 q103 l103 u103 => ?_)
      refine z_if_eq (tgt := 22) X.1 X.2.1 d_M_hasAgent_15 (by decide) ⟨by omega, by omega⟩ (fun h104 => ?_) (fun h104 => ?_)
      · refine lv_iconst (v := iI 0) X.1 X.2.1 d_M_hasAgent_22 (by decide) ?_
        exact m_retz hQQ X Y hr hlk (iI_bool (by omega) (by omega)).1 ⟨S, 0, rfl, ⟨by omega, by omega, by omega⟩⟩ d_M_hasAgent_23
      · refine lv_iconst (v := iI 1) X.1 X.2.1 d_M_hasAgent_18 (by decide) ?_
        refine lv_goto (tgt := 23) X.1 X.2.1 d_M_hasAgent_19 (by decide) ?_
        exact m_retz hQQ X Y hr hlk (iI_bool (by omega) (by omega)).1 ⟨S, 1, rfl, ⟨by omega, by omega, by omega⟩⟩ d_M_hasAgent_23
set_option maxHeartbeats 4000000 in
set_option maxRecDepth 100000 in
theorem r_M_hasTicket (l : Launch) (D : mD) (E : mE) (h : Nat) (q : Nat → Nat) (sz : Nat) (I : Nat → Int32) (J : Nat → Int64) (B : Nat → Nat → Int32) (G : Nat → Nat → Int64) (a1 : Int) (l_a1 : (-2147483648) ≤ a1) (u_a1 : a1 ≤ 2147483647) (a2 : Int) (l_a2 : (-2147483648) ≤ a2) (u_a2 : a2 ≤ 2147483647) (hT : rT I B) : Met l y_M_hasTicket (k_M_hasTicket :: lw_tg) (mR 2 81) (va_Pc [.ref h, .int (iI a1), .int (iI a2)] (mPre D E h q (I, J, B, G) sz)) (va_Qi (rPi [] [] I B (fun (z : Int) (u : mS) => 0 ≤ z ∧ z ≤ 1 ∧ (z = 0 ∨ 0 ≤ a1 ∧ a1 ≤ 3 ∧ 0 ≤ a2 ∧ a2 ≤ 7) ∧ (z ≠ 0 → (u.2.2.1 97 (8 * a1 + a2).toNat).toInt ≠ 0))) (mPost D E h q (mA E h q sz)) (mA E h q sz)) 0 0 (mA E h q sz) := by
  refine m_enter (by decide) rfl (Nat.le_of_ble_eq_true rfl) (fun p e s m below meth c ls AV QQ H locs hQQ X Y hZ hA hr hlk hml hl => ?_)
  have Y : mH D E (mA E h q sz) s.heap h q I J B G H locs := Y
  have S : rS [] [] I B I B := rS_rf hT
  have hl : lv_has ls 3 [(0, .ref h), (1, .int (iI a1)), (2, .int (iI a2))] := hl
  refine lv_aload_n X.1 X.2.1 d_M_hasTicket_0 rfl (lv_at hl 0 rfl) ?_
  refine lv_iload_n X.1 X.2.1 d_M_hasTicket_1 rfl (lv_at hl 1 rfl) ?_
  refine r_ni (m_run (As := [.int (iI a1)]) (rest := []) (n := 1) X Y hZ hA hml hl.1 (r_M_hasAgent l D E h q H.size I J B G a1 (by omega) (by omega) S.1) kl_M_hasAgent ks_M_hasAgent kx_M_hasAgent ki_M_hasAgent ini_M hd_M_hasAgent ⟨Nat.le_of_ble_eq_true rfl, Nat.le_of_ble_eq_true rfl⟩ rfl (Nat.le_of_ble_eq_true rfl) d_M_hasTicket_2 ⟨Nat.le_refl _, Nat.le_refl _⟩) X Y hA S (by decide) (by decide) (fun z101 u H locs Y S s101 p101 => ?_)
  obtain ⟨I101, J101, B101, G101⟩ := u
  dsimp only at Y S s101 p101
  obtain ⟨l101, u101, x101⟩ := p101
  refine z_if_eq (tgt := 36) X.1 X.2.1 d_M_hasTicket_5 (by decide) ⟨by omega, by omega⟩ (fun h102 => ?_) (fun h102 => ?_)
  · refine lv_iconst (v := iI 0) X.1 X.2.1 d_M_hasTicket_36 (by decide) ?_
    exact m_retz hQQ X Y hr hlk (iI_bool (by omega) (by omega)).1 ⟨S, 0, rfl, ⟨by omega, by omega, by omega, fun h9 => absurd rfl h9⟩⟩ d_M_hasTicket_37
  · refine lv_iload_n X.1 X.2.1 d_M_hasTicket_8 rfl (lv_at hl 2 rfl) ?_
    refine z_if_lt (tgt := 36) X.1 X.2.1 d_M_hasTicket_9 (by decide) ⟨by omega, by omega⟩ (fun h103 => ?_) (fun h103 => ?_)
    · refine lv_iconst (v := iI 0) X.1 X.2.1 d_M_hasTicket_36 (by decide) ?_
      exact m_retz hQQ X Y hr hlk (iI_bool (by omega) (by omega)).1 ⟨S, 0, rfl, ⟨by omega, by omega, by omega, fun h9 => absurd rfl h9⟩⟩ d_M_hasTicket_37
    · refine lv_iload_n X.1 X.2.1 d_M_hasTicket_12 rfl (lv_at hl 2 rfl) ?_
      refine lv_bipush (v := iI 8) X.1 X.2.1 d_M_hasTicket_13 (by decide) ?_
      refine z_icmp_ge (tgt := 36) X.1 X.2.1 d_M_hasTicket_15 (by decide) ⟨by omega, by omega⟩ ⟨by omega, by omega⟩ (fun h104 => ?_) (fun h104 => ?_)
      · refine lv_iconst (v := iI 0) X.1 X.2.1 d_M_hasTicket_36 (by decide) ?_
        exact m_retz hQQ X Y hr hlk (iI_bool (by omega) (by omega)).1 ⟨S, 0, rfl, ⟨by omega, by omega, by omega, fun h9 => absurd rfl h9⟩⟩ d_M_hasTicket_37
      · refine lv_aload_n X.1 X.2.1 d_M_hasTicket_18 rfl (lv_at hl 0 rfl) ?_
        refine m_get X Y 97 (by decide) lk_isTicket (gf_isTicket _ _ _) rfl d_M_hasTicket_19 ?_
        refine lv_bipush (v := iI 8) X.1 X.2.1 d_M_hasTicket_22 (by decide) ?_
        refine lv_iload_n X.1 X.2.1 d_M_hasTicket_24 rfl (lv_at hl 1 rfl) ?_
        refine z_imul X.1 X.2.1 d_M_hasTicket_25 ?_
        refine lv_iload_n X.1 X.2.1 d_M_hasTicket_26 rfl (lv_at hl 2 rfl) ?_
        refine z_iadd X.1 X.2.1 d_M_hasTicket_27 ?_
        refine r_zald X Y S (aw_isTicket _ _ _ _ _ _ _) rfl (by omega) (show (8 * a1) + a2 < ((32 : Nat) : Int) by omega) (by omega) d_M_hasTicket_28 (fun z105 q105 l105 u105 => ?_)
        refine z_if_eq (tgt := 36) X.1 X.2.1 d_M_hasTicket_29 (by decide) ⟨by omega, by omega⟩ (fun h106 => ?_) (fun h106 => ?_)
        · refine lv_iconst (v := iI 0) X.1 X.2.1 d_M_hasTicket_36 (by decide) ?_
          exact m_retz hQQ X Y hr hlk (iI_bool (by omega) (by omega)).1 ⟨S, 0, rfl, ⟨by omega, by omega, by omega, fun h9 => absurd rfl h9⟩⟩ d_M_hasTicket_37
        · refine lv_iconst (v := iI 1) X.1 X.2.1 d_M_hasTicket_32 (by decide) ?_
          refine lv_goto (tgt := 37) X.1 X.2.1 d_M_hasTicket_33 (by decide) ?_
          exact m_retz hQQ X Y hr hlk (iI_bool (by omega) (by omega)).1 ⟨S, 1, rfl, ⟨by omega, by omega, by omega, fun _ => (show (B101 97 (8 * a1 + a2).toNat).toInt ≠ 0 by omega)⟩⟩ d_M_hasTicket_37
set_option maxHeartbeats 4000000 in
set_option maxRecDepth 100000 in
theorem r_M_clockOf (l : Launch) (D : mD) (E : mE) (h : Nat) (q : Nat → Nat) (sz : Nat) (I : Nat → Int32) (J : Nat → Int64) (B : Nat → Nat → Int32) (G : Nat → Nat → Int64) (a1 : Int) (l_a1 : 0 ≤ a1) (u_a1 : a1 ≤ 3) (hT : rT I B) : Met l y_M_clockOf (k_M_clockOf :: lw_tg) (mR 1 60) (va_Pc [.ref h, .int (iI a1)] (mPre D E h q (I, J, B, G) sz)) (va_Ql (rPl [] [] I B (fun (z : Int64) (u : mS) => True)) (mPost D E h q (mA E h q sz)) (mA E h q sz)) 0 0 (mA E h q sz) := by
  refine m_enter (by decide) rfl (Nat.le_of_ble_eq_true rfl) (fun p e s m below meth c ls AV QQ H locs hQQ X Y hZ hA hr hlk hml hl => ?_)
  have Y : mH D E (mA E h q sz) s.heap h q I J B G H locs := Y
  have S : rS [] [] I B I B := rS_rf hT
  have hl : lv_has ls 4 [(0, .ref h), (1, .int (iI a1))] := hl
  refine lv_aload_n X.1 X.2.1 d_M_clockOf_0 rfl (lv_at hl 0 rfl) ?_
  refine r_geti (k := 4) X Y S (by decide) lk_now (gf_now _ _ _) rfl rfl d_M_clockOf_1 (fun z101 e101 l101 u101 => ?_)
  refine lv_i2l X.1 X.2.1 d_M_clockOf_4 rfl ?_
  refine t_anyl (fun v102 => ?_)
  refine lv_aload_n X.1 X.2.1 d_M_clockOf_5 rfl (lv_at hl 0 rfl) ?_
  refine m_get X Y 94 (by decide) lk_shifts (gf_shifts _ _ _) rfl d_M_clockOf_6 ?_
  refine lv_iload_n X.1 X.2.1 d_M_clockOf_9 rfl (lv_at hl 1 rfl) ?_
  refine r_iald X Y S (aw_shifts _ _ _ _ _ _ _) rfl (by omega) (show a1 < ((4 : Nat) : Int) by omega) (by omega) d_M_clockOf_10 (fun z103 q103 l103 u103 => ?_)
  refine lv_i2l X.1 X.2.1 d_M_clockOf_11 rfl ?_
  refine t_anyl (fun v104 => ?_)
  refine lv_ladd X.1 X.2.1 d_M_clockOf_12 ?_
  refine t_anyl (fun v105 => ?_)
  refine lv_lstore_n (lv' := [(2, .long v105), (0, .ref h), (1, .int (iI a1))]) X.1 X.2.1 d_M_clockOf_13 rfl hl (by decide) rfl (fun ls hl => ?_)
  refine lv_lload_n X.1 X.2.1 d_M_clockOf_14 rfl (lv_at hl 0 rfl) ?_
  refine lv_lconst (v := 0) X.1 X.2.1 d_M_clockOf_15 rfl ?_
  refine W.lcmp X.1 X.2.1 d_M_clockOf_16 ?_
  refine t_u (fun z106 l106 u106 => ?_)
  refine z_if_ge (tgt := 24) X.1 X.2.1 d_M_clockOf_17 (by decide) ⟨by omega, by omega⟩ (fun h107 => ?_) (fun h107 => ?_)
  · refine lv_lload_n X.1 X.2.1 d_M_clockOf_24 rfl (lv_at hl 0 rfl) ?_
    refine lv_ldc2 (v := (2100000000)) X.1 X.2.1 X.2.2.2.1 (X.2.2.1 _ cl_M_919) d_M_clockOf_25 ?_
    refine W.lcmp X.1 X.2.1 d_M_clockOf_28 ?_
    refine t_u (fun z108 l108 u108 => ?_)
    refine z_if_le (tgt := 38) X.1 X.2.1 d_M_clockOf_29 (by decide) ⟨by omega, by omega⟩ (fun h109 => ?_) (fun h109 => ?_)
    · refine lv_lload_n X.1 X.2.1 d_M_clockOf_38 rfl (lv_at hl 0 rfl) ?_
      exact m_retl hQQ X Y hr hlk ⟨S, trivial⟩ d_M_clockOf_39
    · refine lv_ldc2 (v := (2100000000)) X.1 X.2.1 X.2.2.2.1 (X.2.2.1 _ cl_M_919) d_M_clockOf_32 ?_
      refine lv_goto (tgt := 39) X.1 X.2.1 d_M_clockOf_35 (by decide) ?_
      exact m_retl hQQ X Y hr hlk ⟨S, trivial⟩ d_M_clockOf_39
  · refine lv_lconst (v := 0) X.1 X.2.1 d_M_clockOf_20 rfl ?_
    refine lv_goto (tgt := 39) X.1 X.2.1 d_M_clockOf_21 (by decide) ?_
    exact m_retl hQQ X Y hr hlk ⟨S, trivial⟩ d_M_clockOf_39
set_option maxHeartbeats 4000000 in
set_option maxRecDepth 100000 in
theorem r_M_hasSide (l : Launch) (D : mD) (E : mE) (h : Nat) (q : Nat → Nat) (sz : Nat) (I : Nat → Int32) (J : Nat → Int64) (B : Nat → Nat → Int32) (G : Nat → Nat → Int64) (a1 : Int) (l_a1 : (-2147483648) ≤ a1) (u_a1 : a1 ≤ 2147483647) (a2 : Int) (l_a2 : (-2147483648) ≤ a2) (u_a2 : a2 ≤ 2147483647) (hT : rT I B) : Met l y_M_hasSide (k_M_hasSide :: lw_tg) (mR 1 60) (va_Pc [.ref h, .int (iI a1), .int (iI a2)] (mPre D E h q (I, J, B, G) sz)) (va_Qi (rPi [] [] I B (fun (z : Int) (u : mS) => 0 ≤ z ∧ z ≤ 1 ∧ (z = 0 ∨ 0 ≤ a1 ∧ a1 ≤ 7 ∧ 0 ≤ a2 ∧ a2 ≤ 1) ∧ (z ≠ 0 → sA a1 a2 (u.2.2.1 135)))) (mPost D E h q (mA E h q sz)) (mA E h q sz)) 0 0 (mA E h q sz) := by
  refine m_enter (by decide) rfl (Nat.le_of_ble_eq_true rfl) (fun p e s m below meth c ls AV QQ H locs hQQ X Y hZ hA hr hlk hml hl => ?_)
  have Y : mH D E (mA E h q sz) s.heap h q I J B G H locs := Y
  have S : rS [] [] I B I B := rS_rf hT
  have hl : lv_has ls 3 [(0, .ref h), (1, .int (iI a1)), (2, .int (iI a2))] := hl
  refine lv_iload_n X.1 X.2.1 d_M_hasSide_0 rfl (lv_at hl 1 rfl) ?_
  refine z_if_lt (tgt := 41) X.1 X.2.1 d_M_hasSide_1 (by decide) ⟨by omega, by omega⟩ (fun h101 => ?_) (fun h101 => ?_)
  · refine lv_iconst (v := iI 0) X.1 X.2.1 d_M_hasSide_41 (by decide) ?_
    exact m_retz hQQ X Y hr hlk (iI_bool (by omega) (by omega)).1 ⟨S, 0, rfl, ⟨by omega, by omega, by omega, fun h9 => absurd rfl h9⟩⟩ d_M_hasSide_42
  · refine lv_iload_n X.1 X.2.1 d_M_hasSide_4 rfl (lv_at hl 1 rfl) ?_
    refine lv_bipush (v := iI 8) X.1 X.2.1 d_M_hasSide_5 (by decide) ?_
    refine z_icmp_ge (tgt := 41) X.1 X.2.1 d_M_hasSide_7 (by decide) ⟨by omega, by omega⟩ ⟨by omega, by omega⟩ (fun h102 => ?_) (fun h102 => ?_)
    · refine lv_iconst (v := iI 0) X.1 X.2.1 d_M_hasSide_41 (by decide) ?_
      exact m_retz hQQ X Y hr hlk (iI_bool (by omega) (by omega)).1 ⟨S, 0, rfl, ⟨by omega, by omega, by omega, fun h9 => absurd rfl h9⟩⟩ d_M_hasSide_42
    · refine lv_aload_n X.1 X.2.1 d_M_hasSide_10 rfl (lv_at hl 0 rfl) ?_
      refine m_get X Y 133 (by decide) lk_isSession (gf_isSession _ _ _) rfl d_M_hasSide_11 ?_
      refine lv_iload_n X.1 X.2.1 d_M_hasSide_14 rfl (lv_at hl 1 rfl) ?_
      refine r_zald X Y S (aw_isSession _ _ _ _ _ _ _) rfl (by omega) (show a1 < ((8 : Nat) : Int) by omega) (by omega) d_M_hasSide_15 (fun z103 q103 l103 u103 => ?_)
      refine z_if_eq (tgt := 41) X.1 X.2.1 d_M_hasSide_16 (by decide) ⟨by omega, by omega⟩ (fun h104 => ?_) (fun h104 => ?_)
      · refine lv_iconst (v := iI 0) X.1 X.2.1 d_M_hasSide_41 (by decide) ?_
        exact m_retz hQQ X Y hr hlk (iI_bool (by omega) (by omega)).1 ⟨S, 0, rfl, ⟨by omega, by omega, by omega, fun h9 => absurd rfl h9⟩⟩ d_M_hasSide_42
      · refine lv_iload_n X.1 X.2.1 d_M_hasSide_19 rfl (lv_at hl 2 rfl) ?_
        refine lv_iconst (v := iI 1) X.1 X.2.1 d_M_hasSide_20 (by decide) ?_
        refine z_icmp_eq (tgt := 37) X.1 X.2.1 d_M_hasSide_21 (by decide) ⟨by omega, by omega⟩ ⟨by omega, by omega⟩ (fun h105 => ?_) (fun h105 => ?_)
        · refine lv_iconst (v := iI 1) X.1 X.2.1 d_M_hasSide_37 (by decide) ?_
          refine lv_goto (tgt := 42) X.1 X.2.1 d_M_hasSide_38 (by decide) ?_
          exact m_retz hQQ X Y hr hlk (iI_bool (by omega) (by omega)).1 ⟨S, 1, rfl, ⟨by omega, by omega, by omega, fun _ => (show sA a1 a2 (B 135) by unfold sA; omega)⟩⟩ d_M_hasSide_42
        · refine lv_iload_n X.1 X.2.1 d_M_hasSide_24 rfl (lv_at hl 2 rfl) ?_
          refine z_if_ne (tgt := 41) X.1 X.2.1 d_M_hasSide_25 (by decide) ⟨by omega, by omega⟩ (fun h106 => ?_) (fun h106 => ?_)
          · refine lv_iconst (v := iI 0) X.1 X.2.1 d_M_hasSide_41 (by decide) ?_
            exact m_retz hQQ X Y hr hlk (iI_bool (by omega) (by omega)).1 ⟨S, 0, rfl, ⟨by omega, by omega, by omega, fun h9 => absurd rfl h9⟩⟩ d_M_hasSide_42
          · refine lv_aload_n X.1 X.2.1 d_M_hasSide_28 rfl (lv_at hl 0 rfl) ?_
            refine m_get X Y 135 (by decide) lk_sessionAgents (gf_sessionAgents _ _ _) rfl d_M_hasSide_29 ?_
            refine lv_iload_n X.1 X.2.1 d_M_hasSide_32 rfl (lv_at hl 1 rfl) ?_
            refine r_iald X Y S (aw_sessionAgents _ _ _ _ _ _ _) rfl (by omega) (show a1 < ((8 : Nat) : Int) by omega) (by omega) d_M_hasSide_33 (fun z107 q107 l107 u107 => ?_)
            refine z_if_lt (tgt := 41) X.1 X.2.1 d_M_hasSide_34 (by decide) ⟨by omega, by omega⟩ (fun h108 => ?_) (fun h108 => ?_)
            · refine lv_iconst (v := iI 0) X.1 X.2.1 d_M_hasSide_41 (by decide) ?_
              exact m_retz hQQ X Y hr hlk (iI_bool (by omega) (by omega)).1 ⟨S, 0, rfl, ⟨by omega, by omega, by omega, fun h9 => absurd rfl h9⟩⟩ d_M_hasSide_42
            · refine lv_iconst (v := iI 1) X.1 X.2.1 d_M_hasSide_37 (by decide) ?_
              refine lv_goto (tgt := 42) X.1 X.2.1 d_M_hasSide_38 (by decide) ?_
              exact m_retz hQQ X Y hr hlk (iI_bool (by omega) (by omega)).1 ⟨S, 1, rfl, ⟨by omega, by omega, by omega, fun _ => (show sA a1 a2 (B 135) by unfold sA; omega)⟩⟩ d_M_hasSide_42
set_option maxHeartbeats 4000000 in
set_option maxRecDepth 100000 in
theorem r_M_clockOfSide (l : Launch) (D : mD) (E : mE) (h : Nat) (q : Nat → Nat) (sz : Nat) (I : Nat → Int32) (J : Nat → Int64) (B : Nat → Nat → Int32) (G : Nat → Nat → Int64) (a1 : Int) (l_a1 : 0 ≤ a1) (u_a1 : a1 ≤ 7) (a2 : Int) (l_a2 : 0 ≤ a2) (u_a2 : a2 ≤ 1) (hT : rT I B) (f_SA : sA a1 a2 (B 135)) : Met l y_M_clockOfSide (k_M_clockOfSide :: lw_tg) (mR 2 83) (va_Pc [.ref h, .int (iI a1), .int (iI a2)] (mPre D E h q (I, J, B, G) sz)) (va_Ql (rPl [] [] I B (fun (z : Int64) (u : mS) => True)) (mPost D E h q (mA E h q sz)) (mA E h q sz)) 0 0 (mA E h q sz) := by
  refine m_enter (by decide) rfl (Nat.le_of_ble_eq_true rfl) (fun p e s m below meth c ls AV QQ H locs hQQ X Y hZ hA hr hlk hml hl => ?_)
  have Y : mH D E (mA E h q sz) s.heap h q I J B G H locs := Y
  have S : rS [] [] I B I B := rS_rf hT
  have hl : lv_has ls 3 [(0, .ref h), (1, .int (iI a1)), (2, .int (iI a2))] := hl
  unfold sA at f_SA
  refine lv_iload_n X.1 X.2.1 d_M_clockOfSide_0 rfl (lv_at hl 2 rfl) ?_
  refine lv_iconst (v := iI 1) X.1 X.2.1 d_M_clockOfSide_1 (by decide) ?_
  refine z_icmp_ne (tgt := 13) X.1 X.2.1 d_M_clockOfSide_2 (by decide) ⟨by omega, by omega⟩ ⟨by omega, by omega⟩ (fun h101 => ?_) (fun h101 => ?_)
  · refine lv_aload_n X.1 X.2.1 d_M_clockOfSide_13 rfl (lv_at hl 0 rfl) ?_
    refine lv_aload_n X.1 X.2.1 d_M_clockOfSide_14 rfl (lv_at hl 0 rfl) ?_
    refine m_get X Y 135 (by decide) lk_sessionAgents (gf_sessionAgents _ _ _) rfl d_M_clockOfSide_15 ?_
    refine lv_iload_n X.1 X.2.1 d_M_clockOfSide_18 rfl (lv_at hl 1 rfl) ?_
    refine r_iald X Y S (aw_sessionAgents _ _ _ _ _ _ _) rfl (by omega) (show a1 < ((8 : Nat) : Int) by omega) (by omega) d_M_clockOfSide_19 (fun z102 q102 l102 u102 => ?_)
    refine r_nl (m_run (As := [.int (iI z102)]) (rest := []) (n := 1) X Y hZ hA hml hl.1 (r_M_clockOf l D E h q H.size I J B G z102 (by omega) (by omega) S.1) kl_M_clockOf ks_M_clockOf kx_M_clockOf ki_M_clockOf ini_M hd_M_clockOf ⟨Nat.le_of_ble_eq_true rfl, Nat.le_of_ble_eq_true rfl⟩ rfl (Nat.le_of_ble_eq_true rfl) d_M_clockOfSide_20 ⟨Nat.le_refl _, Nat.le_refl _⟩) X Y hA S (by decide) (by decide) (fun v103 u H locs Y S s103 p103 => ?_)
    obtain ⟨I103, J103, B103, G103⟩ := u
    dsimp only at Y S s103 p103
    exact m_retl hQQ X Y hr hlk ⟨S, trivial⟩ d_M_clockOfSide_23
  · refine lv_aload_n X.1 X.2.1 d_M_clockOfSide_5 rfl (lv_at hl 0 rfl) ?_
    refine r_geti (k := 4) X Y S (by decide) lk_now (gf_now _ _ _) rfl rfl d_M_clockOfSide_6 (fun z104 e104 l104 u104 => ?_)
    refine lv_i2l X.1 X.2.1 d_M_clockOfSide_9 rfl ?_
    refine t_anyl (fun v105 => ?_)
    refine lv_goto (tgt := 23) X.1 X.2.1 d_M_clockOfSide_10 (by decide) ?_
    exact m_retl hQQ X Y hr hlk ⟨S, trivial⟩ d_M_clockOfSide_23
set_option maxHeartbeats 4000000 in
set_option maxRecDepth 100000 in
theorem r_M_shift (l : Launch) (D : mD) (E : mE) (h : Nat) (q : Nat → Nat) (sz : Nat) (I : Nat → Int32) (J : Nat → Int64) (B : Nat → Nat → Int32) (G : Nat → Nat → Int64) (a1 : Int) (l_a1 : (-2147483648) ≤ a1) (u_a1 : a1 ≤ 2147483647) (a2 : Int) (l_a2 : (-2147483648) ≤ a2) (u_a2 : a2 ≤ 2147483647) (hT : rT I B) : Met l y_M_shift (k_M_shift :: lw_tg) (mR 2 81) (va_Pc [.ref h, .int (iI a1), .int (iI a2)] (mPre D E h q (I, J, B, G) sz)) (va_Qi (rPi [] [94] I B (fun (z : Int) (u : mS) => 0 ≤ z ∧ z ≤ 1)) (mPost D E h q (mA E h q sz)) (mA E h q sz)) 0 0 (mA E h q sz) := by
  refine m_enter (by decide) rfl (Nat.le_of_ble_eq_true rfl) (fun p e s m below meth c ls AV QQ H locs hQQ X Y hZ hA hr hlk hml hl => ?_)
  have Y : mH D E (mA E h q sz) s.heap h q I J B G H locs := Y
  have S : rS [] [94] I B I B := rS_rf hT
  have hl : lv_has ls 3 [(0, .ref h), (1, .int (iI a1)), (2, .int (iI a2))] := hl
  refine lv_aload_n X.1 X.2.1 d_M_shift_0 rfl (lv_at hl 0 rfl) ?_
  refine lv_iload_n X.1 X.2.1 d_M_shift_1 rfl (lv_at hl 1 rfl) ?_
  refine r_ni (m_run (As := [.int (iI a1)]) (rest := []) (n := 1) X Y hZ hA hml hl.1 (r_M_hasAgent l D E h q H.size I J B G a1 (by omega) (by omega) S.1) kl_M_hasAgent ks_M_hasAgent kx_M_hasAgent ki_M_hasAgent ini_M hd_M_hasAgent ⟨Nat.le_of_ble_eq_true rfl, Nat.le_of_ble_eq_true rfl⟩ rfl (Nat.le_of_ble_eq_true rfl) d_M_shift_2 ⟨Nat.le_refl _, Nat.le_refl _⟩) X Y hA S (by decide) (by decide) (fun z101 u H locs Y S s101 p101 => ?_)
  obtain ⟨I101, J101, B101, G101⟩ := u
  dsimp only at Y S s101 p101
  obtain ⟨l101, u101, x101⟩ := p101
  refine z_if_eq (tgt := 22) X.1 X.2.1 d_M_shift_5 (by decide) ⟨by omega, by omega⟩ (fun h102 => ?_) (fun h102 => ?_)
  · refine lv_iconst (v := iI 0) X.1 X.2.1 d_M_shift_22 (by decide) ?_
    exact m_retz hQQ X Y hr hlk (iI_bool (by omega) (by omega)).1 ⟨S, 0, rfl, ⟨by omega, by omega⟩⟩ d_M_shift_23
  · refine lv_iload_n X.1 X.2.1 d_M_shift_8 rfl (lv_at hl 2 rfl) ?_
    refine lv_ldcw (v := (-100000)) X.1 X.2.1 X.2.2.2.1 (X.2.2.1 _ cn_M_921) d_M_shift_9 ?_
    refine t_eq (y := iI (-100000)) (by decide) ?_
    refine z_icmp_lt (tgt := 22) X.1 X.2.1 d_M_shift_12 (by decide) ⟨by omega, by omega⟩ ⟨by omega, by omega⟩ (fun h103 => ?_) (fun h103 => ?_)
    · refine lv_iconst (v := iI 0) X.1 X.2.1 d_M_shift_22 (by decide) ?_
      exact m_retz hQQ X Y hr hlk (iI_bool (by omega) (by omega)).1 ⟨S, 0, rfl, ⟨by omega, by omega⟩⟩ d_M_shift_23
    · refine lv_iload_n X.1 X.2.1 d_M_shift_15 rfl (lv_at hl 2 rfl) ?_
      refine lv_ldcw (v := (100000)) X.1 X.2.1 X.2.2.2.1 (X.2.2.1 _ cn_M_922) d_M_shift_16 ?_
      refine t_eq (y := iI 100000) (by decide) ?_
      refine z_icmp_le (tgt := 24) X.1 X.2.1 d_M_shift_19 (by decide) ⟨by omega, by omega⟩ ⟨by omega, by omega⟩ (fun h104 => ?_) (fun h104 => ?_)
      · refine lv_aload_n X.1 X.2.1 d_M_shift_24 rfl (lv_at hl 0 rfl) ?_
        refine m_get X Y 94 (by decide) lk_shifts (gf_shifts _ _ _) rfl d_M_shift_25 ?_
        refine lv_iload_n X.1 X.2.1 d_M_shift_28 rfl (lv_at hl 1 rfl) ?_
        refine lv_iload_n X.1 X.2.1 d_M_shift_29 rfl (lv_at hl 2 rfl) ?_
        refine r_iast X Y S (aw_shifts _ _ _ _ _ _ _) (sw_shifts _ _ _ _ _ _ _) rfl ⟨(show ((-100000) : Int) ≤ a2 by omega), (show a2 ≤ (100000 : Int) by omega)⟩ ⟨by omega, by omega⟩ (by omega) (show a1 < ((4 : Nat) : Int) by omega) (by omega) (by decide) d_M_shift_30 (fun B105 H locs Y S w105 => ?_)
        refine lv_iconst (v := iI 1) X.1 X.2.1 d_M_shift_31 (by decide) ?_
        exact m_retz hQQ X Y hr hlk (iI_bool (by omega) (by omega)).1 ⟨S, 1, rfl, ⟨by omega, by omega⟩⟩ d_M_shift_32
      · refine lv_iconst (v := iI 0) X.1 X.2.1 d_M_shift_22 (by decide) ?_
        exact m_retz hQQ X Y hr hlk (iI_bool (by omega) (by omega)).1 ⟨S, 0, rfl, ⟨by omega, by omega⟩⟩ d_M_shift_23
set_option maxHeartbeats 4000000 in
set_option maxRecDepth 100000 in
theorem r_M_ticket (l : Launch) (D : mD) (E : mE) (h : Nat) (q : Nat → Nat) (sz : Nat) (I : Nat → Int32) (J : Nat → Int64) (B : Nat → Nat → Int32) (G : Nat → Nat → Int64) (a1 : Int) (l_a1 : (-2147483648) ≤ a1) (u_a1 : a1 ≤ 2147483647) (a2 : Int) (l_a2 : (-2147483648) ≤ a2) (u_a2 : a2 ≤ 2147483647) (a3 : Int) (l_a3 : (-2147483648) ≤ a3) (u_a3 : a3 ≤ 2147483647) (hT : rT I B) : Met l y_M_ticket (k_M_ticket :: lw_tg) (mR 3 103) (va_Pc [.ref h, .int (iI a1), .int (iI a2), .int (iI a3)] (mPre D E h q (I, J, B, G) sz)) (va_Qi (rPi [] [] I B (fun (z : Int) (u : mS) => (-2147483648) ≤ z ∧ z ≤ 2147483647)) (mPost D E h q (mA E h q sz)) (mA E h q sz)) 0 0 (mA E h q sz) := by
  refine m_enter (by decide) rfl (Nat.le_of_ble_eq_true rfl) (fun p e s m below meth c ls AV QQ H locs hQQ X Y hZ hA hr hlk hml hl => ?_)
  have Y : mH D E (mA E h q sz) s.heap h q I J B G H locs := Y
  have S : rS [] [] I B I B := rS_rf hT
  have hl : lv_has ls 5 [(0, .ref h), (1, .int (iI a1)), (2, .int (iI a2)), (3, .int (iI a3))] := hl
  refine lv_aload_n X.1 X.2.1 d_M_ticket_0 rfl (lv_at hl 0 rfl) ?_
  refine lv_iload_n X.1 X.2.1 d_M_ticket_1 rfl (lv_at hl 1 rfl) ?_
  refine lv_iload_n X.1 X.2.1 d_M_ticket_2 rfl (lv_at hl 2 rfl) ?_
  refine r_ni (m_run (As := [.int (iI a1), .int (iI a2)]) (rest := []) (n := 2) X Y hZ hA hml hl.1 (r_M_hasTicket l D E h q H.size I J B G a1 (by omega) (by omega) a2 (by omega) (by omega) S.1) kl_M_hasTicket ks_M_hasTicket kx_M_hasTicket ki_M_hasTicket ini_M hd_M_hasTicket ⟨Nat.le_of_ble_eq_true rfl, Nat.le_of_ble_eq_true rfl⟩ rfl (Nat.le_of_ble_eq_true rfl) d_M_ticket_3 ⟨Nat.le_refl _, Nat.le_refl _⟩) X Y hA S (by decide) (by decide) (fun z101 u H locs Y S s101 p101 => ?_)
  obtain ⟨I101, J101, B101, G101⟩ := u
  dsimp only at Y S s101 p101
  obtain ⟨l101, u101, x101, st101⟩ := p101
  refine z_if_ne (tgt := 11) X.1 X.2.1 d_M_ticket_6 (by decide) ⟨by omega, by omega⟩ (fun h102 => ?_) (fun h102 => ?_)
  · refine lv_bipush (v := iI 8) X.1 X.2.1 d_M_ticket_11 (by decide) ?_
    refine lv_iload_n X.1 X.2.1 d_M_ticket_13 rfl (lv_at hl 1 rfl) ?_
    refine z_imul X.1 X.2.1 d_M_ticket_14 ?_
    refine lv_iload_n X.1 X.2.1 d_M_ticket_15 rfl (lv_at hl 2 rfl) ?_
    refine z_iadd X.1 X.2.1 d_M_ticket_16 ?_
    refine lv_istore (lv' := [(4, .int (iI ((8 * a1) + a2))), (0, .ref h), (1, .int (iI a1)), (2, .int (iI a2)), (3, .int (iI a3))]) X.1 X.2.1 d_M_ticket_17 hl (by decide) rfl (fun ls hl => ?_)
    refine lv_iload_n X.1 X.2.1 d_M_ticket_19 rfl (lv_at hl 4 rfl) ?_
    by_cases h103 : a3 = 0
    · rw [h103]
      refine lv_tableIn (off := 40) (tgt := 60) X.1 X.2.1 d_M_ticket_20 (by decide) (by decide) (by decide) (by decide) ?_
      refine lv_aload_n X.1 X.2.1 d_M_ticket_60 rfl (lv_at hl 1 rfl) ?_
      refine m_get X Y 101 (by decide) lk_ticketFlags (gf_ticketFlags _ _ _) rfl d_M_ticket_61 ?_
      refine lv_iload X.1 X.2.1 d_M_ticket_64 (lv_at hl 0 rfl) ?_
      refine r_iald X Y S (aw_ticketFlags _ _ _ _ _ _ _) rfl (by omega) (show (8 * a1) + a2 < ((32 : Nat) : Int) by omega) (by omega) d_M_ticket_66 (fun z104 q104 l104 u104 => ?_)
      exact m_reti hQQ X Y hr hlk ⟨S, z104, rfl, ⟨by omega, by omega⟩⟩ d_M_ticket_67
    by_cases h105 : a3 = 1
    · rw [h105]
      refine lv_tableIn (off := 48) (tgt := 68) X.1 X.2.1 d_M_ticket_20 (by decide) (by decide) (by decide) (by decide) ?_
      refine lv_aload_n X.1 X.2.1 d_M_ticket_68 rfl (lv_at hl 1 rfl) ?_
      refine m_get X Y 103 (by decide) lk_authTimes (gf_authTimes _ _ _) rfl d_M_ticket_69 ?_
      refine lv_iload X.1 X.2.1 d_M_ticket_72 (lv_at hl 0 rfl) ?_
      refine r_lald X Y (aw_authTimes _ _ _ _ _ _ _) (by omega) (show (8 * a1) + a2 < ((32 : Nat) : Int) by omega) (by omega) d_M_ticket_74 (fun v106 => ?_)
      refine lv_l2i X.1 X.2.1 d_M_ticket_75 rfl ?_
      refine t_u (fun z107 l107 u107 => ?_)
      exact m_reti hQQ X Y hr hlk ⟨S, z107, rfl, ⟨by omega, by omega⟩⟩ d_M_ticket_76
    by_cases h108 : a3 = 2
    · rw [h108]
      refine lv_tableIn (off := 57) (tgt := 77) X.1 X.2.1 d_M_ticket_20 (by decide) (by decide) (by decide) (by decide) ?_
      refine lv_aload_n X.1 X.2.1 d_M_ticket_77 rfl (lv_at hl 1 rfl) ?_
      refine m_get X Y 104 (by decide) lk_startTimes (gf_startTimes _ _ _) rfl d_M_ticket_78 ?_
      refine lv_iload X.1 X.2.1 d_M_ticket_81 (lv_at hl 0 rfl) ?_
      refine r_lald X Y (aw_startTimes _ _ _ _ _ _ _) (by omega) (show (8 * a1) + a2 < ((32 : Nat) : Int) by omega) (by omega) d_M_ticket_83 (fun v109 => ?_)
      refine lv_l2i X.1 X.2.1 d_M_ticket_84 rfl ?_
      refine t_u (fun z110 l110 u110 => ?_)
      exact m_reti hQQ X Y hr hlk ⟨S, z110, rfl, ⟨by omega, by omega⟩⟩ d_M_ticket_85
    by_cases h111 : a3 = 3
    · rw [h111]
      refine lv_tableIn (off := 66) (tgt := 86) X.1 X.2.1 d_M_ticket_20 (by decide) (by decide) (by decide) (by decide) ?_
      refine lv_aload_n X.1 X.2.1 d_M_ticket_86 rfl (lv_at hl 1 rfl) ?_
      refine m_get X Y 105 (by decide) lk_endTimes (gf_endTimes _ _ _) rfl d_M_ticket_87 ?_
      refine lv_iload X.1 X.2.1 d_M_ticket_90 (lv_at hl 0 rfl) ?_
      refine r_lald X Y (aw_endTimes _ _ _ _ _ _ _) (by omega) (show (8 * a1) + a2 < ((32 : Nat) : Int) by omega) (by omega) d_M_ticket_92 (fun v112 => ?_)
      refine lv_l2i X.1 X.2.1 d_M_ticket_93 rfl ?_
      refine t_u (fun z113 l113 u113 => ?_)
      exact m_reti hQQ X Y hr hlk ⟨S, z113, rfl, ⟨by omega, by omega⟩⟩ d_M_ticket_94
    by_cases h114 : a3 = 4
    · rw [h114]
      refine lv_tableIn (off := 75) (tgt := 95) X.1 X.2.1 d_M_ticket_20 (by decide) (by decide) (by decide) (by decide) ?_
      refine lv_aload_n X.1 X.2.1 d_M_ticket_95 rfl (lv_at hl 1 rfl) ?_
      refine m_get X Y 106 (by decide) lk_renewTimes (gf_renewTimes _ _ _) rfl d_M_ticket_96 ?_
      refine lv_iload X.1 X.2.1 d_M_ticket_99 (lv_at hl 0 rfl) ?_
      refine r_lald X Y (aw_renewTimes _ _ _ _ _ _ _) (by omega) (show (8 * a1) + a2 < ((32 : Nat) : Int) by omega) (by omega) d_M_ticket_101 (fun v115 => ?_)
      refine lv_l2i X.1 X.2.1 d_M_ticket_102 rfl ?_
      refine t_u (fun z116 l116 u116 => ?_)
      exact m_reti hQQ X Y hr hlk ⟨S, z116, rfl, ⟨by omega, by omega⟩⟩ d_M_ticket_103
    by_cases h117 : a3 = 5
    · rw [h117]
      refine lv_tableIn (off := 84) (tgt := 104) X.1 X.2.1 d_M_ticket_20 (by decide) (by decide) (by decide) (by decide) ?_
      refine lv_aload_n X.1 X.2.1 d_M_ticket_104 rfl (lv_at hl 1 rfl) ?_
      refine m_get X Y 102 (by decide) lk_ticketTypes (gf_ticketTypes _ _ _) rfl d_M_ticket_105 ?_
      refine lv_iload X.1 X.2.1 d_M_ticket_108 (lv_at hl 0 rfl) ?_
      refine r_iald X Y S (aw_ticketTypes _ _ _ _ _ _ _) rfl (by omega) (show (8 * a1) + a2 < ((32 : Nat) : Int) by omega) (by omega) d_M_ticket_110 (fun z118 q118 l118 u118 => ?_)
      exact m_reti hQQ X Y hr hlk ⟨S, z118, rfl, ⟨by omega, by omega⟩⟩ d_M_ticket_111
    refine lv_tableOut (tgt := 112) X.1 X.2.1 d_M_ticket_20 (by rw [iI_toInt ⟨by omega, by omega⟩]; omega) (by decide) ?_
    refine lv_iconst (v := iI (-1)) X.1 X.2.1 d_M_ticket_112 (by decide) ?_
    exact m_reti hQQ X Y hr hlk ⟨S, (-1), rfl, ⟨by omega, by omega⟩⟩ d_M_ticket_113
  · refine lv_iconst (v := iI (-1)) X.1 X.2.1 d_M_ticket_9 (by decide) ?_
    exact m_reti hQQ X Y hr hlk ⟨S, (-1), rfl, ⟨by omega, by omega⟩⟩ d_M_ticket_10
set_option maxHeartbeats 4000000 in
set_option maxRecDepth 100000 in
theorem r_M_ends (l : Launch) (D : mD) (E : mE) (h : Nat) (q : Nat → Nat) (sz : Nat) (I : Nat → Int32) (J : Nat → Int64) (B : Nat → Nat → Int32) (G : Nat → Nat → Int64) (a1 : Int) (l_a1 : (-2147483648) ≤ a1) (u_a1 : a1 ≤ 2147483647) (hT : rT I B) : Met l y_M_ends (k_M_ends :: lw_tg) (mR 1 60) (va_Pc [.ref h, .int (iI a1)] (mPre D E h q (I, J, B, G) sz)) (va_Qi (rPi [] [133] I B (fun (z : Int) (u : mS) => 0 ≤ z ∧ z ≤ 1)) (mPost D E h q (mA E h q sz)) (mA E h q sz)) 0 0 (mA E h q sz) := by
  refine m_enter (by decide) rfl (Nat.le_of_ble_eq_true rfl) (fun p e s m below meth c ls AV QQ H locs hQQ X Y hZ hA hr hlk hml hl => ?_)
  have Y : mH D E (mA E h q sz) s.heap h q I J B G H locs := Y
  have S : rS [] [133] I B I B := rS_rf hT
  have hl : lv_has ls 2 [(0, .ref h), (1, .int (iI a1))] := hl
  refine lv_iload_n X.1 X.2.1 d_M_ends_0 rfl (lv_at hl 1 rfl) ?_
  refine z_if_lt (tgt := 19) X.1 X.2.1 d_M_ends_1 (by decide) ⟨by omega, by omega⟩ (fun h101 => ?_) (fun h101 => ?_)
  · refine lv_iconst (v := iI 0) X.1 X.2.1 d_M_ends_19 (by decide) ?_
    exact m_retz hQQ X Y hr hlk (iI_bool (by omega) (by omega)).1 ⟨S, 0, rfl, ⟨by omega, by omega⟩⟩ d_M_ends_20
  · refine lv_iload_n X.1 X.2.1 d_M_ends_4 rfl (lv_at hl 1 rfl) ?_
    refine lv_bipush (v := iI 7) X.1 X.2.1 d_M_ends_5 (by decide) ?_
    refine z_icmp_gt (tgt := 19) X.1 X.2.1 d_M_ends_7 (by decide) ⟨by omega, by omega⟩ ⟨by omega, by omega⟩ (fun h102 => ?_) (fun h102 => ?_)
    · refine lv_iconst (v := iI 0) X.1 X.2.1 d_M_ends_19 (by decide) ?_
      exact m_retz hQQ X Y hr hlk (iI_bool (by omega) (by omega)).1 ⟨S, 0, rfl, ⟨by omega, by omega⟩⟩ d_M_ends_20
    · refine lv_aload_n X.1 X.2.1 d_M_ends_10 rfl (lv_at hl 0 rfl) ?_
      refine m_get X Y 133 (by decide) lk_isSession (gf_isSession _ _ _) rfl d_M_ends_11 ?_
      refine lv_iload_n X.1 X.2.1 d_M_ends_14 rfl (lv_at hl 1 rfl) ?_
      refine r_zald X Y S (aw_isSession _ _ _ _ _ _ _) rfl (by omega) (show a1 < ((8 : Nat) : Int) by omega) (by omega) d_M_ends_15 (fun z103 q103 l103 u103 => ?_)
      refine z_if_ne (tgt := 21) X.1 X.2.1 d_M_ends_16 (by decide) ⟨by omega, by omega⟩ (fun h104 => ?_) (fun h104 => ?_)
      · refine lv_aload_n X.1 X.2.1 d_M_ends_21 rfl (lv_at hl 0 rfl) ?_
        refine m_get X Y 133 (by decide) lk_isSession (gf_isSession _ _ _) rfl d_M_ends_22 ?_
        refine lv_iload_n X.1 X.2.1 d_M_ends_25 rfl (lv_at hl 1 rfl) ?_
        refine lv_iconst (v := iI 0) X.1 X.2.1 d_M_ends_26 (by decide) ?_
        refine r_zast X Y S (aw_isSession _ _ _ _ _ _ _) (sw_isSession _ _ _ _ _ _ _) rfl ⟨by omega, by omega⟩ (by omega) (show a1 < ((8 : Nat) : Int) by omega) (by omega) (by decide) d_M_ends_27 (fun B105 H locs Y S w105 => ?_)
        refine lv_iconst (v := iI 1) X.1 X.2.1 d_M_ends_28 (by decide) ?_
        exact m_retz hQQ X Y hr hlk (iI_bool (by omega) (by omega)).1 ⟨S, 1, rfl, ⟨by omega, by omega⟩⟩ d_M_ends_29
      · refine lv_iconst (v := iI 0) X.1 X.2.1 d_M_ends_19 (by decide) ?_
        exact m_retz hQQ X Y hr hlk (iI_bool (by omega) (by omega)).1 ⟨S, 0, rfl, ⟨by omega, by omega⟩⟩ d_M_ends_20
set_option maxHeartbeats 4000000 in
set_option maxRecDepth 100000 in
theorem r_M_joins (l : Launch) (D : mD) (E : mE) (h : Nat) (q : Nat → Nat) (sz : Nat) (I : Nat → Int32) (J : Nat → Int64) (B : Nat → Nat → Int32) (G : Nat → Nat → Int64) (a1 : Int) (l_a1 : (-2147483648) ≤ a1) (u_a1 : a1 ≤ 2147483647) (a2 : Int) (l_a2 : (-2147483648) ≤ a2) (u_a2 : a2 ≤ 2147483647) (hT : rT I B) : Met l y_M_joins (k_M_joins :: lw_tg) (mR 2 81) (va_Pc [.ref h, .int (iI a1), .int (iI a2)] (mPre D E h q (I, J, B, G) sz)) (va_Qi (rPi [] [135] I B (fun (z : Int) (u : mS) => 0 ≤ z ∧ z ≤ 1)) (mPost D E h q (mA E h q sz)) (mA E h q sz)) 0 0 (mA E h q sz) := by
  refine m_enter (by decide) rfl (Nat.le_of_ble_eq_true rfl) (fun p e s m below meth c ls AV QQ H locs hQQ X Y hZ hA hr hlk hml hl => ?_)
  have Y : mH D E (mA E h q sz) s.heap h q I J B G H locs := Y
  have S : rS [] [135] I B I B := rS_rf hT
  have hl : lv_has ls 5 [(0, .ref h), (1, .int (iI a1)), (2, .int (iI a2))] := hl
  refine lv_iload_n X.1 X.2.1 d_M_joins_0 rfl (lv_at hl 1 rfl) ?_
  refine z_if_lt (tgt := 36) X.1 X.2.1 d_M_joins_1 (by decide) ⟨by omega, by omega⟩ (fun h101 => ?_) (fun h101 => ?_)
  · refine lv_iconst (v := iI 0) X.1 X.2.1 d_M_joins_36 (by decide) ?_
    exact m_retz hQQ X Y hr hlk (iI_bool (by omega) (by omega)).1 ⟨S, 0, rfl, ⟨by omega, by omega⟩⟩ d_M_joins_37
  · refine lv_iload_n X.1 X.2.1 d_M_joins_4 rfl (lv_at hl 1 rfl) ?_
    refine lv_bipush (v := iI 7) X.1 X.2.1 d_M_joins_5 (by decide) ?_
    refine z_icmp_gt (tgt := 36) X.1 X.2.1 d_M_joins_7 (by decide) ⟨by omega, by omega⟩ ⟨by omega, by omega⟩ (fun h102 => ?_) (fun h102 => ?_)
    · refine lv_iconst (v := iI 0) X.1 X.2.1 d_M_joins_36 (by decide) ?_
      exact m_retz hQQ X Y hr hlk (iI_bool (by omega) (by omega)).1 ⟨S, 0, rfl, ⟨by omega, by omega⟩⟩ d_M_joins_37
    · refine lv_aload_n X.1 X.2.1 d_M_joins_10 rfl (lv_at hl 0 rfl) ?_
      refine m_get X Y 133 (by decide) lk_isSession (gf_isSession _ _ _) rfl d_M_joins_11 ?_
      refine lv_iload_n X.1 X.2.1 d_M_joins_14 rfl (lv_at hl 1 rfl) ?_
      refine r_zald X Y S (aw_isSession _ _ _ _ _ _ _) rfl (by omega) (show a1 < ((8 : Nat) : Int) by omega) (by omega) d_M_joins_15 (fun z103 q103 l103 u103 => ?_)
      refine z_if_eq (tgt := 36) X.1 X.2.1 d_M_joins_16 (by decide) ⟨by omega, by omega⟩ (fun h104 => ?_) (fun h104 => ?_)
      · refine lv_iconst (v := iI 0) X.1 X.2.1 d_M_joins_36 (by decide) ?_
        exact m_retz hQQ X Y hr hlk (iI_bool (by omega) (by omega)).1 ⟨S, 0, rfl, ⟨by omega, by omega⟩⟩ d_M_joins_37
      · refine lv_aload_n X.1 X.2.1 d_M_joins_19 rfl (lv_at hl 0 rfl) ?_
        refine lv_iload_n X.1 X.2.1 d_M_joins_20 rfl (lv_at hl 2 rfl) ?_
        refine r_ni (m_run (As := [.int (iI a2)]) (rest := []) (n := 1) X Y hZ hA hml hl.1 (r_M_hasAgent l D E h q H.size I J B G a2 (by omega) (by omega) S.1) kl_M_hasAgent ks_M_hasAgent kx_M_hasAgent ki_M_hasAgent ini_M hd_M_hasAgent ⟨Nat.le_of_ble_eq_true rfl, Nat.le_of_ble_eq_true rfl⟩ rfl (Nat.le_of_ble_eq_true rfl) d_M_joins_21 ⟨Nat.le_refl _, Nat.le_refl _⟩) X Y hA S (by decide) (by decide) (fun z105 u H locs Y S s105 p105 => ?_)
        obtain ⟨I105, J105, B105, G105⟩ := u
        dsimp only at Y S s105 p105
        obtain ⟨l105, u105, x105⟩ := p105
        refine z_if_eq (tgt := 36) X.1 X.2.1 d_M_joins_24 (by decide) ⟨by omega, by omega⟩ (fun h106 => ?_) (fun h106 => ?_)
        · refine lv_iconst (v := iI 0) X.1 X.2.1 d_M_joins_36 (by decide) ?_
          exact m_retz hQQ X Y hr hlk (iI_bool (by omega) (by omega)).1 ⟨S, 0, rfl, ⟨by omega, by omega⟩⟩ d_M_joins_37
        · refine lv_aload_n X.1 X.2.1 d_M_joins_27 rfl (lv_at hl 0 rfl) ?_
          refine m_get X Y 125 (by decide) lk_apSerial (gf_apSerial _ _ _) rfl d_M_joins_28 ?_
          refine lv_iload_n X.1 X.2.1 d_M_joins_31 rfl (lv_at hl 2 rfl) ?_
          refine r_iald X Y S (aw_apSerial _ _ _ _ _ _ _) rfl (by omega) (show a2 < ((4 : Nat) : Int) by omega) (by omega) d_M_joins_32 (fun z107 q107 l107 u107 => ?_)
          refine z_if_ge (tgt := 38) X.1 X.2.1 d_M_joins_33 (by decide) ⟨by omega, by omega⟩ (fun h108 => ?_) (fun h108 => ?_)
          · refine lv_aload_n X.1 X.2.1 d_M_joins_38 rfl (lv_at hl 0 rfl) ?_
            refine m_get X Y 139 (by decide) lk_beganTime (gf_beganTime _ _ _) rfl d_M_joins_39 ?_
            refine lv_iload_n X.1 X.2.1 d_M_joins_42 rfl (lv_at hl 1 rfl) ?_
            refine r_lald X Y (aw_beganTime _ _ _ _ _ _ _) (by omega) (show a1 < ((8 : Nat) : Int) by omega) (by omega) d_M_joins_43 (fun v109 => ?_)
            refine lv_aload_n X.1 X.2.1 d_M_joins_44 rfl (lv_at hl 0 rfl) ?_
            refine m_get X Y 128 (by decide) lk_apTime (gf_apTime _ _ _) rfl d_M_joins_45 ?_
            refine lv_iload_n X.1 X.2.1 d_M_joins_48 rfl (lv_at hl 2 rfl) ?_
            refine r_lald X Y (aw_apTime _ _ _ _ _ _ _) (by omega) (show a2 < ((4 : Nat) : Int) by omega) (by omega) d_M_joins_49 (fun v110 => ?_)
            refine W.lcmp X.1 X.2.1 d_M_joins_50 ?_
            refine t_u (fun z111 l111 u111 => ?_)
            have J112 : ∀  (H : Heap) (locs : List Loc) (ls : Array Slot), mH D E (mA E h q sz) s.heap h q I105 J105 B105 G105 H locs → rS [] [135] I B I105 B105 → lv_has ls 5 [(0, .ref h), (1, .int (iI a1)), (2, .int (iI a2))] → W p l e (mR 2 81) s m AV below meth c H locs 0 0 QQ (F0 m 104 ls []) := by
              intro  H locs ls  Y S hl
              refine lv_iconst (v := iI 0) X.1 X.2.1 d_M_joins_104 (by decide) ?_
              refine lv_istore_n (lv' := [(3, .int (iI 0)), (0, .ref h), (1, .int (iI a1)), (2, .int (iI a2))]) X.1 X.2.1 d_M_joins_105 rfl hl (by decide) rfl (fun ls hl => ?_)
              refine lv_iconst (v := iI 0) X.1 X.2.1 d_M_joins_106 (by decide) ?_
              have J117 : ∀ (z116 : Int) (H : Heap) (locs : List Loc) (ls : Array Slot), (0 ≤ z116) → (z116 ≤ 0) → mH D E (mA E h q sz) s.heap h q I105 J105 B105 G105 H locs → rS [] [135] I B I105 B105 → lv_has ls 5 [(0, .ref h), (1, .int (iI a1)), (2, .int (iI a2)), (3, .int (iI 0)), (4, .int (iI z116))] → W p l e (mR 2 81) s m AV below meth c H locs 0 0 QQ (F0 m 109 ls []) := by
                intro z116 H locs ls l116 u116 Y S hl
                refine lv_iload X.1 X.2.1 d_M_joins_109 (lv_at hl 4 rfl) ?_
                refine lv_aload_n X.1 X.2.1 d_M_joins_111 rfl (lv_at hl 0 rfl) ?_
                refine m_get X Y 122 (by decide) lk_apType (gf_apType _ _ _) rfl d_M_joins_112 ?_
                refine lv_iload_n X.1 X.2.1 d_M_joins_115 rfl (lv_at hl 2 rfl) ?_
                refine r_iald X Y S (aw_apType _ _ _ _ _ _ _) rfl (by omega) (show a2 < ((4 : Nat) : Int) by omega) (by omega) d_M_joins_116 (fun z121 q121 l121 u121 => ?_)
                refine p_calli (As := [.int (iI z121)]) (rest := [.int (iI z116)]) (n := 1) X Y hml hl.1 (r_M_size l z121 (by omega) (by omega)) kl_M_size ks_M_size ki_M_size ini_M hd_M_size ⟨Nat.le_of_ble_eq_true rfl, Nat.le_of_ble_eq_true rfl⟩ rfl (Nat.le_of_ble_eq_true rfl) d_M_joins_117 ⟨Nat.le_refl _, Nat.le_refl _⟩ (fun r122 H locs p122 Y => ?_)
                obtain ⟨z122, e122, p122⟩ := p122
                subst e122
                obtain ⟨l122, u122, x122⟩ := p122
                have J123 : ∀  (H : Heap) (locs : List Loc) (ls : Array Slot), mH D E (mA E h q sz) s.heap h q I105 J105 B105 G105 H locs → rS [] [135] I B I105 B105 → lv_has ls 5 [(0, .ref h), (1, .int (iI a1)), (2, .int (iI a2)), (3, .int (iI 0))] → W p l e (mR 2 81) s m AV below meth c H locs 0 0 QQ (F0 m 166 ls []) := by
                  intro  H locs ls  Y S hl
                  refine lv_iload_n X.1 X.2.1 d_M_joins_166 rfl (lv_at hl 3 rfl) ?_
                  refine z_if_ne (tgt := 172) X.1 X.2.1 d_M_joins_167 (by decide) ⟨by omega, by omega⟩ (fun h127 => False.elim (by omega)) (fun h127 => ?_)
                  · refine lv_iconst (v := iI 0) X.1 X.2.1 d_M_joins_170 (by decide) ?_
                    exact m_retz hQQ X Y hr hlk (iI_bool (by omega) (by omega)).1 ⟨S, 0, rfl, ⟨by omega, by omega⟩⟩ d_M_joins_171
                refine z_icmp_ge (tgt := 166) X.1 X.2.1 d_M_joins_120 (by decide) ⟨by omega, by omega⟩ ⟨by omega, by omega⟩ (fun h128 => False.elim (by omega)) (fun h128 => ?_)
                · refine lv_iload_n X.1 X.2.1 d_M_joins_123 rfl (lv_at hl 3 rfl) ?_
                  refine z_if_eq (tgt := 166) X.1 X.2.1 d_M_joins_124 (by decide) ⟨by omega, by omega⟩ (fun h129 => ?_) (fun h129 => False.elim (by omega))
                  · exact J123  _ _ _  Y S (lv_sub hl [0, 1, 2, 3] rfl)
              refine lv_istore (lv' := [(4, .int (iI 0)), (3, .int (iI 0)), (0, .ref h), (1, .int (iI a1)), (2, .int (iI a2))]) X.1 X.2.1 d_M_joins_107 hl (by decide) rfl (fun ls hl => ?_)
              exact J117 0 _ _ _ (by omega) (by omega) Y S (lv_sub hl [2, 3, 4, 1, 0] rfl)
            refine z_if_ne (tgt := 104) X.1 X.2.1 d_M_joins_51 (by decide) ⟨by omega, by omega⟩ (fun h130 => ?_) (fun h130 => ?_)
            · exact J112  _ _ _  Y S (lv_sub hl [0, 1, 2] rfl)
            · refine lv_aload_n X.1 X.2.1 d_M_joins_54 rfl (lv_at hl 0 rfl) ?_
              refine m_get X Y 141 (by decide) lk_beganMicros (gf_beganMicros _ _ _) rfl d_M_joins_55 ?_
              refine lv_iload_n X.1 X.2.1 d_M_joins_58 rfl (lv_at hl 1 rfl) ?_
              refine r_iald X Y S (aw_beganMicros _ _ _ _ _ _ _) rfl (by omega) (show a1 < ((8 : Nat) : Int) by omega) (by omega) d_M_joins_59 (fun z131 q131 l131 u131 => ?_)
              refine lv_aload_n X.1 X.2.1 d_M_joins_60 rfl (lv_at hl 0 rfl) ?_
              refine m_get X Y 124 (by decide) lk_apMicros (gf_apMicros _ _ _) rfl d_M_joins_61 ?_
              refine lv_iload_n X.1 X.2.1 d_M_joins_64 rfl (lv_at hl 2 rfl) ?_
              refine r_iald X Y S (aw_apMicros _ _ _ _ _ _ _) rfl (by omega) (show a2 < ((4 : Nat) : Int) by omega) (by omega) d_M_joins_65 (fun z132 q132 l132 u132 => ?_)
              refine z_icmp_ne (tgt := 104) X.1 X.2.1 d_M_joins_66 (by decide) ⟨by omega, by omega⟩ ⟨by omega, by omega⟩ (fun h133 => ?_) (fun h133 => ?_)
              · exact J112  _ _ _  Y S (lv_sub hl [0, 1, 2] rfl)
              · refine lv_aload_n X.1 X.2.1 d_M_joins_69 rfl (lv_at hl 0 rfl) ?_
                refine m_get X Y 140 (by decide) lk_beganNumber (gf_beganNumber _ _ _) rfl d_M_joins_70 ?_
                refine lv_iload_n X.1 X.2.1 d_M_joins_73 rfl (lv_at hl 1 rfl) ?_
                refine r_lald X Y (aw_beganNumber _ _ _ _ _ _ _) (by omega) (show a1 < ((8 : Nat) : Int) by omega) (by omega) d_M_joins_74 (fun v134 => ?_)
                refine lv_aload_n X.1 X.2.1 d_M_joins_75 rfl (lv_at hl 0 rfl) ?_
                refine m_get X Y 129 (by decide) lk_apNumber (gf_apNumber _ _ _) rfl d_M_joins_76 ?_
                refine lv_iload_n X.1 X.2.1 d_M_joins_79 rfl (lv_at hl 2 rfl) ?_
                refine r_lald X Y (aw_apNumber _ _ _ _ _ _ _) (by omega) (show a2 < ((4 : Nat) : Int) by omega) (by omega) d_M_joins_80 (fun v135 => ?_)
                refine W.lcmp X.1 X.2.1 d_M_joins_81 ?_
                refine t_u (fun z136 l136 u136 => ?_)
                refine z_if_ne (tgt := 104) X.1 X.2.1 d_M_joins_82 (by decide) ⟨by omega, by omega⟩ (fun h137 => ?_) (fun h137 => ?_)
                · exact J112  _ _ _  Y S (lv_sub hl [0, 1, 2] rfl)
                · refine lv_aload_n X.1 X.2.1 d_M_joins_85 rfl (lv_at hl 0 rfl) ?_
                  refine m_get X Y 142 (by decide) lk_beganTypes (gf_beganTypes _ _ _) rfl d_M_joins_86 ?_
                  refine lv_iload_n X.1 X.2.1 d_M_joins_89 rfl (lv_at hl 1 rfl) ?_
                  refine r_iald X Y S (aw_beganTypes _ _ _ _ _ _ _) rfl (by omega) (show a1 < ((8 : Nat) : Int) by omega) (by omega) d_M_joins_90 (fun z138 q138 l138 u138 => ?_)
                  refine lv_aload_n X.1 X.2.1 d_M_joins_91 rfl (lv_at hl 0 rfl) ?_
                  refine m_get X Y 122 (by decide) lk_apType (gf_apType _ _ _) rfl d_M_joins_92 ?_
                  refine lv_iload_n X.1 X.2.1 d_M_joins_95 rfl (lv_at hl 2 rfl) ?_
                  refine r_iald X Y S (aw_apType _ _ _ _ _ _ _) rfl (by omega) (show a2 < ((4 : Nat) : Int) by omega) (by omega) d_M_joins_96 (fun z139 q139 l139 u139 => ?_)
                  refine z_icmp_ne (tgt := 104) X.1 X.2.1 d_M_joins_97 (by decide) ⟨by omega, by omega⟩ ⟨by omega, by omega⟩ (fun h140 => ?_) (fun h140 => ?_)
                  · exact J112  _ _ _  Y S (lv_sub hl [0, 1, 2] rfl)
                  · refine lv_iconst (v := iI 1) X.1 X.2.1 d_M_joins_100 (by decide) ?_
                    refine lv_goto (tgt := 105) X.1 X.2.1 d_M_joins_101 (by decide) ?_
                    refine lv_istore_n (lv' := [(3, .int (iI 1)), (0, .ref h), (1, .int (iI a1)), (2, .int (iI a2))]) X.1 X.2.1 d_M_joins_105 rfl hl (by decide) rfl (fun ls hl => ?_)
                    refine lv_iconst (v := iI 0) X.1 X.2.1 d_M_joins_106 (by decide) ?_
                    have J143 : ∀ (n145 : Nat) (z141 : Int) (z142 : Int) (H : Heap) (locs : List Loc) (ls : Array Slot), (32 - z142).toNat = n145 → (0 ≤ z141) → (z141 ≤ 1) → (0 ≤ z142) → (z142 ≤ 32) → mH D E (mA E h q sz) s.heap h q I105 J105 B105 G105 H locs → rS [] [135] I B I105 B105 → lv_has ls 5 [(0, .ref h), (1, .int (iI a1)), (2, .int (iI a2)), (3, .int (iI z141)), (4, .int (iI z142))] → W p l e (mR 2 81) s m AV below meth c H locs 0 0 QQ (F0 m 109 ls []) := by
                      intro n145
                      induction n145 using Nat.strongRecOn with
                      | ind n145 ih144 =>
                        intro z141 z142 H locs ls hm146 l141 u141 l142 u142 Y S hl
                        refine lv_iload X.1 X.2.1 d_M_joins_109 (lv_at hl 4 rfl) ?_
                        refine lv_aload_n X.1 X.2.1 d_M_joins_111 rfl (lv_at hl 0 rfl) ?_
                        refine m_get X Y 122 (by decide) lk_apType (gf_apType _ _ _) rfl d_M_joins_112 ?_
                        refine lv_iload_n X.1 X.2.1 d_M_joins_115 rfl (lv_at hl 2 rfl) ?_
                        refine r_iald X Y S (aw_apType _ _ _ _ _ _ _) rfl (by omega) (show a2 < ((4 : Nat) : Int) by omega) (by omega) d_M_joins_116 (fun z147 q147 l147 u147 => ?_)
                        refine p_calli (As := [.int (iI z147)]) (rest := [.int (iI z142)]) (n := 1) X Y hml hl.1 (r_M_size l z147 (by omega) (by omega)) kl_M_size ks_M_size ki_M_size ini_M hd_M_size ⟨Nat.le_of_ble_eq_true rfl, Nat.le_of_ble_eq_true rfl⟩ rfl (Nat.le_of_ble_eq_true rfl) d_M_joins_117 ⟨Nat.le_refl _, Nat.le_refl _⟩ (fun r148 H locs p148 Y => ?_)
                        obtain ⟨z148, e148, p148⟩ := p148
                        subst e148
                        obtain ⟨l148, u148, x148⟩ := p148
                        have J149 : ∀  (H : Heap) (locs : List Loc) (ls : Array Slot), mH D E (mA E h q sz) s.heap h q I105 J105 B105 G105 H locs → rS [] [135] I B I105 B105 → lv_has ls 5 [(0, .ref h), (1, .int (iI a1)), (2, .int (iI a2)), (3, .int (iI z141))] → W p l e (mR 2 81) s m AV below meth c H locs 0 0 QQ (F0 m 166 ls []) := by
                          intro  H locs ls  Y S hl
                          refine lv_iload_n X.1 X.2.1 d_M_joins_166 rfl (lv_at hl 3 rfl) ?_
                          refine z_if_ne (tgt := 172) X.1 X.2.1 d_M_joins_167 (by decide) ⟨by omega, by omega⟩ (fun h153 => ?_) (fun h153 => ?_)
                          · refine lv_aload_n X.1 X.2.1 d_M_joins_172 rfl (lv_at hl 0 rfl) ?_
                            refine m_get X Y 135 (by decide) lk_sessionAgents (gf_sessionAgents _ _ _) rfl d_M_joins_173 ?_
                            refine lv_iload_n X.1 X.2.1 d_M_joins_176 rfl (lv_at hl 1 rfl) ?_
                            refine lv_iload_n X.1 X.2.1 d_M_joins_177 rfl (lv_at hl 2 rfl) ?_
                            refine r_iast X Y S (aw_sessionAgents _ _ _ _ _ _ _) (sw_sessionAgents _ _ _ _ _ _ _) rfl ⟨(show ((-1) : Int) ≤ a2 by omega), (show a2 ≤ (3 : Int) by omega)⟩ ⟨by omega, by omega⟩ (by omega) (show a1 < ((8 : Nat) : Int) by omega) (by omega) (by decide) d_M_joins_178 (fun B154 H locs Y S w154 => ?_)
                            refine lv_aload_n X.1 X.2.1 d_M_joins_179 rfl (lv_at hl 0 rfl) ?_
                            refine m_get X Y 137 (by decide) lk_ownNumber (gf_ownNumber _ _ _) rfl d_M_joins_180 ?_
                            refine lv_iconst (v := iI 2) X.1 X.2.1 d_M_joins_183 (by decide) ?_
                            refine lv_iload_n X.1 X.2.1 d_M_joins_184 rfl (lv_at hl 1 rfl) ?_
                            refine z_imul X.1 X.2.1 d_M_joins_185 ?_
                            refine lv_aload_n X.1 X.2.1 d_M_joins_186 rfl (lv_at hl 0 rfl) ?_
                            refine m_get X Y 129 (by decide) lk_apNumber (gf_apNumber _ _ _) rfl d_M_joins_187 ?_
                            refine lv_iload_n X.1 X.2.1 d_M_joins_190 rfl (lv_at hl 2 rfl) ?_
                            refine r_lald X Y (aw_apNumber _ _ _ _ _ _ _) (by omega) (show a2 < ((4 : Nat) : Int) by omega) (by omega) d_M_joins_191 (fun v155 => ?_)
                            refine r_last X Y (aw_ownNumber _ _ _ _ _ _ _) (sw_ownNumber _ _ _ _ _ _ _) (by omega) (show 2 * a1 < ((16 : Nat) : Int) by omega) (by omega) d_M_joins_192 (fun G156 H locs Y => ?_)
                            refine lv_aload_n X.1 X.2.1 d_M_joins_193 rfl (lv_at hl 0 rfl) ?_
                            refine m_get X Y 138 (by decide) lk_dueNumber (gf_dueNumber _ _ _) rfl d_M_joins_194 ?_
                            refine lv_iconst (v := iI 2) X.1 X.2.1 d_M_joins_197 (by decide) ?_
                            refine lv_iload_n X.1 X.2.1 d_M_joins_198 rfl (lv_at hl 1 rfl) ?_
                            refine z_imul X.1 X.2.1 d_M_joins_199 ?_
                            refine lv_aload_n X.1 X.2.1 d_M_joins_200 rfl (lv_at hl 0 rfl) ?_
                            refine m_get X Y 130 (by decide) lk_apOther (gf_apOther _ _ _) rfl d_M_joins_201 ?_
                            refine lv_iload_n X.1 X.2.1 d_M_joins_204 rfl (lv_at hl 2 rfl) ?_
                            refine r_lald X Y (aw_apOther _ _ _ _ _ _ _) (by omega) (show a2 < ((4 : Nat) : Int) by omega) (by omega) d_M_joins_205 (fun v157 => ?_)
                            refine r_last X Y (aw_dueNumber _ _ _ _ _ _ _) (sw_dueNumber _ _ _ _ _ _ _) (by omega) (show 2 * a1 < ((16 : Nat) : Int) by omega) (by omega) d_M_joins_206 (fun G158 H locs Y => ?_)
                            refine lv_iconst (v := iI 1) X.1 X.2.1 d_M_joins_207 (by decide) ?_
                            exact m_retz hQQ X Y hr hlk (iI_bool (by omega) (by omega)).1 ⟨S, 1, rfl, ⟨by omega, by omega⟩⟩ d_M_joins_208
                          · refine lv_iconst (v := iI 0) X.1 X.2.1 d_M_joins_170 (by decide) ?_
                            exact m_retz hQQ X Y hr hlk (iI_bool (by omega) (by omega)).1 ⟨S, 0, rfl, ⟨by omega, by omega⟩⟩ d_M_joins_171
                        refine z_icmp_ge (tgt := 166) X.1 X.2.1 d_M_joins_120 (by decide) ⟨by omega, by omega⟩ ⟨by omega, by omega⟩ (fun h159 => ?_) (fun h159 => ?_)
                        · exact J149  _ _ _  Y S (lv_sub hl [0, 1, 2, 3] rfl)
                        · refine lv_iload_n X.1 X.2.1 d_M_joins_123 rfl (lv_at hl 3 rfl) ?_
                          refine z_if_eq (tgt := 166) X.1 X.2.1 d_M_joins_124 (by decide) ⟨by omega, by omega⟩ (fun h160 => ?_) (fun h160 => ?_)
                          · exact J149  _ _ _  Y S (lv_sub hl [0, 1, 2, 3] rfl)
                          · refine lv_aload_n X.1 X.2.1 d_M_joins_127 rfl (lv_at hl 0 rfl) ?_
                            refine m_get X Y 143 (by decide) lk_beganKeys (gf_beganKeys _ _ _) rfl d_M_joins_128 ?_
                            refine lv_bipush (v := iI 32) X.1 X.2.1 d_M_joins_131 (by decide) ?_
                            refine lv_iload_n X.1 X.2.1 d_M_joins_133 rfl (lv_at hl 1 rfl) ?_
                            refine z_imul X.1 X.2.1 d_M_joins_134 ?_
                            refine lv_iload X.1 X.2.1 d_M_joins_135 (lv_at hl 4 rfl) ?_
                            refine z_iadd X.1 X.2.1 d_M_joins_137 ?_
                            refine r_bald X Y S (aw_beganKeys _ _ _ _ _ _ _) rfl (by omega) (show (32 * a1) + z142 < ((256 : Nat) : Int) by omega) (by omega) d_M_joins_138 (fun z161 q161 l161 u161 => ?_)
                            refine lv_aload_n X.1 X.2.1 d_M_joins_139 rfl (lv_at hl 0 rfl) ?_
                            refine m_get X Y 126 (by decide) lk_apKeys (gf_apKeys _ _ _) rfl d_M_joins_140 ?_
                            refine lv_bipush (v := iI 32) X.1 X.2.1 d_M_joins_143 (by decide) ?_
                            refine lv_iload_n X.1 X.2.1 d_M_joins_145 rfl (lv_at hl 2 rfl) ?_
                            refine z_imul X.1 X.2.1 d_M_joins_146 ?_
                            refine lv_iload X.1 X.2.1 d_M_joins_147 (lv_at hl 4 rfl) ?_
                            refine z_iadd X.1 X.2.1 d_M_joins_149 ?_
                            refine r_bald X Y S (aw_apKeys _ _ _ _ _ _ _) rfl (by omega) (show (32 * a2) + z142 < ((128 : Nat) : Int) by omega) (by omega) d_M_joins_150 (fun z162 q162 l162 u162 => ?_)
                            refine z_icmp_ne (tgt := 158) X.1 X.2.1 d_M_joins_151 (by decide) ⟨by omega, by omega⟩ ⟨by omega, by omega⟩ (fun h163 => ?_) (fun h163 => ?_)
                            · refine lv_iconst (v := iI 0) X.1 X.2.1 d_M_joins_158 (by decide) ?_
                              refine lv_istore_n (lv' := [(3, .int (iI 0)), (0, .ref h), (1, .int (iI a1)), (2, .int (iI a2)), (4, .int (iI z142))]) X.1 X.2.1 d_M_joins_159 rfl hl (by decide) rfl (fun ls hl => ?_)
                              refine lv_iinc (v := iI (z142 + 1)) (lv' := [(4, .int (iI (z142 + 1))), (3, .int (iI 0)), (0, .ref h), (1, .int (iI a1)), (2, .int (iI a2))]) X.1 X.2.1 d_M_joins_160 hl (k := 4) rfl ((iI_add _ _).trans (congrArg iI (by omega))) (by decide) rfl (fun ls hl => ?_)
                              refine lv_goto (tgt := 109) X.1 X.2.1 d_M_joins_163 (by decide) ?_
                              exact ih144 ((32 - (z142 + 1)).toNat) (by omega) 0 (z142 + 1) _ _ _ rfl (by omega) (by omega) (by omega) (by omega) Y S (lv_sub hl [2, 3, 4, 1, 0] rfl)
                            · refine lv_iconst (v := iI 1) X.1 X.2.1 d_M_joins_154 (by decide) ?_
                              refine lv_goto (tgt := 159) X.1 X.2.1 d_M_joins_155 (by decide) ?_
                              refine lv_istore_n (lv' := [(3, .int (iI 1)), (0, .ref h), (1, .int (iI a1)), (2, .int (iI a2)), (4, .int (iI z142))]) X.1 X.2.1 d_M_joins_159 rfl hl (by decide) rfl (fun ls hl => ?_)
                              refine lv_iinc (v := iI (z142 + 1)) (lv' := [(4, .int (iI (z142 + 1))), (3, .int (iI 1)), (0, .ref h), (1, .int (iI a1)), (2, .int (iI a2))]) X.1 X.2.1 d_M_joins_160 hl (k := 4) rfl ((iI_add _ _).trans (congrArg iI (by omega))) (by decide) rfl (fun ls hl => ?_)
                              refine lv_goto (tgt := 109) X.1 X.2.1 d_M_joins_163 (by decide) ?_
                              exact ih144 ((32 - (z142 + 1)).toNat) (by omega) 1 (z142 + 1) _ _ _ rfl (by omega) (by omega) (by omega) (by omega) Y S (lv_sub hl [2, 3, 4, 1, 0] rfl)
                    refine lv_istore (lv' := [(4, .int (iI 0)), (3, .int (iI 1)), (0, .ref h), (1, .int (iI a1)), (2, .int (iI a2))]) X.1 X.2.1 d_M_joins_107 hl (by decide) rfl (fun ls hl => ?_)
                    exact J143 _ 1 0 _ _ _ rfl (by omega) (by omega) (by omega) (by omega) Y S (lv_sub hl [2, 3, 4, 1, 0] rfl)
          · refine lv_iconst (v := iI 0) X.1 X.2.1 d_M_joins_36 (by decide) ?_
            exact m_retz hQQ X Y hr hlk (iI_bool (by omega) (by omega)).1 ⟨S, 0, rfl, ⟨by omega, by omega⟩⟩ d_M_joins_37
set_option maxHeartbeats 4000000 in
set_option maxRecDepth 100000 in
theorem r_M_seed (l : Launch) (D : mD) (E : mE) (h : Nat) (q : Nat → Nat) (sz : Nat) (I : Nat → Int32) (J : Nat → Int64) (B : Nat → Nat → Int32) (G : Nat → Nat → Int64) (hT : rT I B) : Met l y_M_seed (k_M_seed :: lw_tg) (mR 1 60) (va_Pc [.ref h] (mPre D E h q (I, J, B, G) sz)) (va_Qi (rPi [2, 32, 33] [31] I B (fun (z : Int) (u : mS) => 0 ≤ z ∧ z ≤ 1)) (mPost D E h q (mA E h q sz)) (mA E h q sz)) 0 0 (mA E h q sz) := by
  refine m_enter (by decide) rfl (Nat.le_of_ble_eq_true rfl) (fun p e s m below meth c ls AV QQ H locs hQQ X Y hZ hA hr hlk hml hl => ?_)
  have Y : mH D E (mA E h q sz) s.heap h q I J B G H locs := Y
  have S : rS [2, 32, 33] [31] I B I B := rS_rf hT
  have hl : lv_has ls 2 [(0, .ref h)] := hl
  refine lv_aload_n X.1 X.2.1 d_M_seed_0 rfl (lv_at hl 0 rfl) ?_
  refine r_geti (k := 2) X Y S (by decide) lk_length (gf_length _ _ _) rfl rfl d_M_seed_1 (fun z101 e101 l101 u101 => ?_)
  refine lv_bipush (v := iI 64) X.1 X.2.1 d_M_seed_4 (by decide) ?_
  refine z_icmp_le (tgt := 11) X.1 X.2.1 d_M_seed_6 (by decide) ⟨by omega, by omega⟩ ⟨by omega, by omega⟩ (fun h102 => ?_) (fun h102 => ?_)
  · refine lv_iconst (v := iI 0) X.1 X.2.1 d_M_seed_11 (by decide) ?_
    have J106 : ∀ (n108 : Nat) (z104 : Int) (I103 : Nat → Int32) (J103 : Nat → Int64) (B103 : Nat → Nat → Int32) (G103 : Nat → Nat → Int64) (H : Heap) (locs : List Loc) (ls : Array Slot), (64 - z104).toNat = n108 → (0 ≤ z104) → (z104 ≤ 64) → (I103 2 = iI z101) → mH D E (mA E h q sz) s.heap h q I103 J103 B103 G103 H locs → rS [2, 32, 33] [31] I B I103 B103 → lv_has ls 2 [(0, .ref h), (1, .int (iI z104))] → W p l e (mR 1 60) s m AV below meth c H locs 0 0 QQ (F0 m 13 ls []) := by
      intro n108
      induction n108 using Nat.strongRecOn with
      | ind n108 ih107 =>
        intro z104 I103 J103 B103 G103 H locs ls hm109 l104 u104 e105 Y S hl
        refine lv_iload_n X.1 X.2.1 d_M_seed_13 rfl (lv_at hl 1 rfl) ?_
        refine lv_aload_n X.1 X.2.1 d_M_seed_14 rfl (lv_at hl 0 rfl) ?_
        refine r_get0 X Y (by decide) lk_length (gf_length _ _ _) rfl e105 d_M_seed_15 ?_
        refine z_icmp_ge (tgt := 39) X.1 X.2.1 d_M_seed_18 (by decide) ⟨by omega, by omega⟩ ⟨by omega, by omega⟩ (fun h110 => ?_) (fun h110 => ?_)
        · refine lv_aload_n X.1 X.2.1 d_M_seed_39 rfl (lv_at hl 0 rfl) ?_
          refine lv_aload_n X.1 X.2.1 d_M_seed_40 rfl (lv_at hl 0 rfl) ?_
          refine r_get0 X Y (by decide) lk_length (gf_length _ _ _) rfl e105 d_M_seed_41 ?_
          refine r_puti (k := 32) X Y S (by decide) lk_seedMany rfl rfl (t_M_ok 32 (by decide)) rfl rfl (sf_seedMany _ _ _ _) (Nat.le_of_ble_eq_true rfl) rfl (show (0 : Int) ≤ z101 by omega) (show z101 ≤ (64 : Int) by omega) ⟨by omega, by omega⟩ (by decide) d_M_seed_44 (fun I111 H locs Y S w111 => ?_)
          refine lv_aload_n X.1 X.2.1 d_M_seed_47 rfl (lv_at hl 0 rfl) ?_
          refine lv_iconst (v := iI 0) X.1 X.2.1 d_M_seed_48 (by decide) ?_
          refine r_puti (k := 2) X Y S (by decide) lk_length rfl rfl (t_M_ok 2 (by decide)) rfl rfl (sf_length _ _ _ _) (Nat.le_of_ble_eq_true rfl) rfl (show (0 : Int) ≤ 0 by omega) (show 0 ≤ (4000 : Int) by omega) ⟨by omega, by omega⟩ (by decide) d_M_seed_49 (fun I112 H locs Y S w112 => ?_)
          refine lv_aload_n X.1 X.2.1 d_M_seed_52 rfl (lv_at hl 0 rfl) ?_
          refine lv_iconst (v := iI 0) X.1 X.2.1 d_M_seed_53 (by decide) ?_
          refine r_puti (k := 33) X Y S (by decide) lk_coin rfl rfl (t_M_ok 33 (by decide)) rfl rfl (sf_coin _ _ _ _) (Nat.le_of_ble_eq_true rfl) rfl (show ((-2147483648) : Int) ≤ 0 by omega) (show 0 ≤ (2147483647 : Int) by omega) ⟨by omega, by omega⟩ (by decide) d_M_seed_54 (fun I113 H locs Y S w113 => ?_)
          refine lv_iconst (v := iI 1) X.1 X.2.1 d_M_seed_57 (by decide) ?_
          exact m_retz hQQ X Y hr hlk (iI_bool (by omega) (by omega)).1 ⟨S, 1, rfl, ⟨by omega, by omega⟩⟩ d_M_seed_58
        · refine lv_aload_n X.1 X.2.1 d_M_seed_21 rfl (lv_at hl 0 rfl) ?_
          refine m_get X Y 31 (by decide) lk_seed (gf_seed _ _ _) rfl d_M_seed_22 ?_
          refine lv_iload_n X.1 X.2.1 d_M_seed_25 rfl (lv_at hl 1 rfl) ?_
          refine lv_aload_n X.1 X.2.1 d_M_seed_26 rfl (lv_at hl 0 rfl) ?_
          refine m_get X Y 0 (by decide) lk_mem (gf_mem _ _ _) rfl d_M_seed_27 ?_
          refine lv_iload_n X.1 X.2.1 d_M_seed_30 rfl (lv_at hl 1 rfl) ?_
          refine r_bald X Y S (aw_mem _ _ _ _ _ _ _) rfl (by omega) (show z104 < ((60000 : Nat) : Int) by omega) (by omega) d_M_seed_31 (fun z114 q114 l114 u114 => ?_)
          refine r_bast X Y S (aw_seed _ _ _ _ _ _ _) (sw_seed _ _ _ _ _ _ _) rfl (by omega) (show z104 < ((64 : Nat) : Int) by omega) (by omega) (by decide) d_M_seed_32 (fun B115 H locs Y S w115 => ?_)
          refine lv_iinc (v := iI (z104 + 1)) (lv' := [(1, .int (iI (z104 + 1))), (0, .ref h)]) X.1 X.2.1 d_M_seed_33 hl (k := 1) rfl ((iI_add _ _).trans (congrArg iI (by omega))) (by decide) rfl (fun ls hl => ?_)
          refine lv_goto (tgt := 13) X.1 X.2.1 d_M_seed_36 (by decide) ?_
          exact ih107 ((64 - (z104 + 1)).toNat) (by omega) (z104 + 1) I103 J103 B115 G103 _ _ _ rfl (by omega) (by omega) e105 Y S (lv_sub hl [1, 0] rfl)
    refine lv_istore_n (lv' := [(1, .int (iI 0)), (0, .ref h)]) X.1 X.2.1 d_M_seed_12 rfl hl (by decide) rfl (fun ls hl => ?_)
    exact J106 _ 0 I J B G _ _ _ rfl (by omega) (by omega) e101 Y S (lv_sub hl [1, 0] rfl)
  · refine lv_iconst (v := iI 0) X.1 X.2.1 d_M_seed_9 (by decide) ?_
    exact m_retz hQQ X Y hr hlk (iI_bool (by omega) (by omega)).1 ⟨S, 0, rfl, ⟨by omega, by omega⟩⟩ d_M_seed_10
set_option maxHeartbeats 4000000 in
set_option maxRecDepth 100000 in
theorem r_M_toRoom (l : Launch) (D : mD) (E : mE) (h : Nat) (q : Nat → Nat) (sz : Nat) (I : Nat → Int32) (J : Nat → Int64) (B : Nat → Nat → Int32) (G : Nat → Nat → Int64) (hT : rT I B) (wn : Int) (gwn : I 42 = iI wn) (lwn : 40000 ≤ wn) (uwn : wn ≤ 60000) : Met l y_M_toRoom (k_M_toRoom :: lw_tg) (mR 1 60) (va_Pc [.ref h] (mPre D E h q (I, J, B, G) sz)) (va_Qi (rPi [] [0] I B (fun (z : Int) (u : mS) => 0 ≤ z ∧ z ≤ 20000 ∧ z = 60000 - wn)) (mPost D E h q (mA E h q sz)) (mA E h q sz)) 0 0 (mA E h q sz) := by
  refine m_enter (by decide) rfl (Nat.le_of_ble_eq_true rfl) (fun p e s m below meth c ls AV QQ H locs hQQ X Y hZ hA hr hlk hml hl => ?_)
  have Y : mH D E (mA E h q sz) s.heap h q I J B G H locs := Y
  have S : rS [] [0] I B I B := rS_rf hT
  have hl : lv_has ls 3 [(0, .ref h)] := hl
  refine lv_ldc (v := (60000)) X.1 X.2.1 X.2.2.2.1 (X.2.2.1 _ cn_M_9) d_M_toRoom_0 ?_
  refine t_eq (y := iI 60000) (by decide) ?_
  refine lv_aload_n X.1 X.2.1 d_M_toRoom_2 rfl (lv_at hl 0 rfl) ?_
  refine r_get0 X Y (by decide) lk_w0 (gf_w0 _ _ _) rfl gwn d_M_toRoom_3 ?_
  refine z_isub X.1 X.2.1 d_M_toRoom_6 ?_
  refine lv_istore_n (lv' := [(1, .int (iI (60000 - wn))), (0, .ref h)]) X.1 X.2.1 d_M_toRoom_7 rfl hl (by decide) rfl (fun ls hl => ?_)
  refine lv_iconst (v := iI 0) X.1 X.2.1 d_M_toRoom_8 (by decide) ?_
  have J104 : ∀ (n106 : Nat) (z102 : Int) (I101 : Nat → Int32) (J101 : Nat → Int64) (B101 : Nat → Nat → Int32) (G101 : Nat → Nat → Int64) (H : Heap) (locs : List Loc) (ls : Array Slot), (20000 - z102).toNat = n106 → (0 ≤ z102) → (z102 ≤ 20000) → (I101 42 = iI wn) → mH D E (mA E h q sz) s.heap h q I101 J101 B101 G101 H locs → rS [] [0] I B I101 B101 → lv_has ls 3 [(0, .ref h), (1, .int (iI (60000 - wn))), (2, .int (iI z102))] → W p l e (mR 1 60) s m AV below meth c H locs 0 0 QQ (F0 m 10 ls []) := by
    intro n106
    induction n106 using Nat.strongRecOn with
    | ind n106 ih105 =>
      intro z102 I101 J101 B101 G101 H locs ls hm107 l102 u102 e103 Y S hl
      refine lv_iload_n X.1 X.2.1 d_M_toRoom_10 rfl (lv_at hl 2 rfl) ?_
      refine lv_iload_n X.1 X.2.1 d_M_toRoom_11 rfl (lv_at hl 1 rfl) ?_
      refine z_icmp_ge (tgt := 42) X.1 X.2.1 d_M_toRoom_12 (by decide) ⟨by omega, by omega⟩ ⟨by omega, by omega⟩ (fun h108 => ?_) (fun h108 => ?_)
      · refine lv_iload_n X.1 X.2.1 d_M_toRoom_42 rfl (lv_at hl 1 rfl) ?_
        exact m_reti hQQ X Y hr hlk ⟨S, 60000 - wn, rfl, ⟨by omega, by omega, by omega⟩⟩ d_M_toRoom_43
      · refine lv_aload_n X.1 X.2.1 d_M_toRoom_15 rfl (lv_at hl 0 rfl) ?_
        refine m_get X Y 0 (by decide) lk_mem (gf_mem _ _ _) rfl d_M_toRoom_16 ?_
        refine lv_sipush (v := iI 13200) X.1 X.2.1 d_M_toRoom_19 (by decide) ?_
        refine lv_iload_n X.1 X.2.1 d_M_toRoom_22 rfl (lv_at hl 2 rfl) ?_
        refine z_iadd X.1 X.2.1 d_M_toRoom_23 ?_
        refine lv_aload_n X.1 X.2.1 d_M_toRoom_24 rfl (lv_at hl 0 rfl) ?_
        refine m_get X Y 0 (by decide) lk_mem (gf_mem _ _ _) rfl d_M_toRoom_25 ?_
        refine lv_aload_n X.1 X.2.1 d_M_toRoom_28 rfl (lv_at hl 0 rfl) ?_
        refine r_get0 X Y (by decide) lk_w0 (gf_w0 _ _ _) rfl e103 d_M_toRoom_29 ?_
        refine lv_iload_n X.1 X.2.1 d_M_toRoom_32 rfl (lv_at hl 2 rfl) ?_
        refine z_iadd X.1 X.2.1 d_M_toRoom_33 ?_
        refine r_bald X Y S (aw_mem _ _ _ _ _ _ _) rfl (by omega) (show wn + z102 < ((60000 : Nat) : Int) by omega) (by omega) d_M_toRoom_34 (fun z109 q109 l109 u109 => ?_)
        refine r_bast X Y S (aw_mem _ _ _ _ _ _ _) (sw_mem _ _ _ _ _ _ _) rfl (by omega) (show 13200 + z102 < ((60000 : Nat) : Int) by omega) (by omega) (by decide) d_M_toRoom_35 (fun B110 H locs Y S w110 => ?_)
        refine lv_iinc (v := iI (z102 + 1)) (lv' := [(2, .int (iI (z102 + 1))), (0, .ref h), (1, .int (iI (60000 - wn)))]) X.1 X.2.1 d_M_toRoom_36 hl (k := 2) rfl ((iI_add _ _).trans (congrArg iI (by omega))) (by decide) rfl (fun ls hl => ?_)
        refine lv_goto (tgt := 10) X.1 X.2.1 d_M_toRoom_39 (by decide) ?_
        exact ih105 ((20000 - (z102 + 1)).toNat) (by omega) (z102 + 1) I101 J101 B110 G101 _ _ _ rfl (by omega) (by omega) e103 Y S (lv_sub hl [1, 2, 0] rfl)
  refine lv_istore_n (lv' := [(2, .int (iI 0)), (1, .int (iI (60000 - wn))), (0, .ref h)]) X.1 X.2.1 d_M_toRoom_9 rfl hl (by decide) rfl (fun ls hl => ?_)
  exact J104 _ 0 I J B G _ _ _ rfl (by omega) (by omega) gwn Y S (lv_sub hl [2, 1, 0] rfl)
set_option maxHeartbeats 4000000 in
set_option maxRecDepth 100000 in
theorem r_M_isBytes_askedClients (l : Launch) (D : mD) (E : mE) (h : Nat) (q : Nat → Nat) (sz : Nat) (I : Nat → Int32) (J : Nat → Int64) (B : Nat → Nat → Int32) (G : Nat → Nat → Int64) (a1 : Int) (l_a1 : (-1) ≤ a1) (u_a1 : a1 ≤ 30000) (a2 : Int) (l_a2 : (-1) ≤ a2) (u_a2 : a2 ≤ 30000) (a4 : Int) (l_a4 : 0 ≤ a4) (u_a4 : a4 ≤ 1600) (a5 : Int) (l_a5 : 0 ≤ a5) (u_a5 : a5 ≤ 300) (hT : rT I B) (q0 : 0 ≤ a1 ∨ a2 ≤ a1) (q1 : a4 + a5 ≤ 1600) : Met l y_M_isBytes (k_M_isBytes :: lw_tg) (mR 1 60) (va_Pc [.ref h, .int (iI a1), .int (iI a2), .ref (q 118), .int (iI a4), .int (iI a5)] (mPre D E h q (I, J, B, G) sz)) (va_Qi (rPi [] [] I B (fun (z : Int) (u : mS) => 0 ≤ z ∧ z ≤ 1 ∧ (z = 0 ∨ a2 - a1 = a5))) (mPost D E h q (mA E h q sz)) (mA E h q sz)) 0 0 (mA E h q sz) := by
  refine m_enter (by decide) rfl (Nat.le_of_ble_eq_true rfl) (fun p e s m below meth c ls AV QQ H locs hQQ X Y hZ hA hr hlk hml hl => ?_)
  have Y : mH D E (mA E h q sz) s.heap h q I J B G H locs := Y
  have S : rS [] [] I B I B := rS_rf hT
  have hl : lv_has ls 7 [(0, .ref h), (1, .int (iI a1)), (2, .int (iI a2)), (3, .ref ((q 118))), (4, .int (iI a4)), (5, .int (iI a5))] := hl
  refine lv_iload_n X.1 X.2.1 d_M_isBytes_0 rfl (lv_at hl 2 rfl) ?_
  refine lv_iload_n X.1 X.2.1 d_M_isBytes_1 rfl (lv_at hl 1 rfl) ?_
  refine z_isub X.1 X.2.1 d_M_isBytes_2 ?_
  refine lv_iload X.1 X.2.1 d_M_isBytes_3 (lv_at hl 5 rfl) ?_
  refine z_icmp_eq (tgt := 10) X.1 X.2.1 d_M_isBytes_5 (by decide) ⟨by omega, by omega⟩ ⟨by omega, by omega⟩ (fun h101 => ?_) (fun h101 => ?_)
  · refine lv_iconst (v := iI 0) X.1 X.2.1 d_M_isBytes_10 (by decide) ?_
    have J103 : ∀ (n105 : Nat) (z102 : Int) (H : Heap) (locs : List Loc) (ls : Array Slot), (300 - z102).toNat = n105 → (0 ≤ z102) → (z102 ≤ 300) → mH D E (mA E h q sz) s.heap h q I J B G H locs → rS [] [] I B I B → lv_has ls 7 [(0, .ref h), (1, .int (iI a1)), (3, .ref ((q 118))), (4, .int (iI a4)), (5, .int (iI a5)), (6, .int (iI z102))] → W p l e (mR 1 60) s m AV below meth c H locs 0 0 QQ (F0 m 13 ls []) := by
      intro n105
      induction n105 using Nat.strongRecOn with
      | ind n105 ih104 =>
        intro z102 H locs ls hm106 l102 u102 Y S hl
        refine lv_iload X.1 X.2.1 d_M_isBytes_13 (lv_at hl 5 rfl) ?_
        refine lv_iload X.1 X.2.1 d_M_isBytes_15 (lv_at hl 4 rfl) ?_
        refine z_icmp_ge (tgt := 47) X.1 X.2.1 d_M_isBytes_17 (by decide) ⟨by omega, by omega⟩ ⟨by omega, by omega⟩ (fun h107 => ?_) (fun h107 => ?_)
        · refine lv_iconst (v := iI 1) X.1 X.2.1 d_M_isBytes_47 (by decide) ?_
          exact m_retz hQQ X Y hr hlk (iI_bool (by omega) (by omega)).1 ⟨S, 1, rfl, ⟨by omega, by omega, by omega⟩⟩ d_M_isBytes_48
        · refine lv_aload_n X.1 X.2.1 d_M_isBytes_20 rfl (lv_at hl 0 rfl) ?_
          refine m_get X Y 0 (by decide) lk_mem (gf_mem _ _ _) rfl d_M_isBytes_21 ?_
          refine lv_iload_n X.1 X.2.1 d_M_isBytes_24 rfl (lv_at hl 1 rfl) ?_
          refine lv_iload X.1 X.2.1 d_M_isBytes_25 (lv_at hl 5 rfl) ?_
          refine z_iadd X.1 X.2.1 d_M_isBytes_27 ?_
          refine r_bald X Y S (aw_mem _ _ _ _ _ _ _) rfl (by omega) (show a1 + z102 < ((60000 : Nat) : Int) by omega) (by omega) d_M_isBytes_28 (fun z108 q108 l108 u108 => ?_)
          refine lv_aload_n X.1 X.2.1 d_M_isBytes_29 rfl (lv_at hl 2 rfl) ?_
          refine lv_iload X.1 X.2.1 d_M_isBytes_30 (lv_at hl 3 rfl) ?_
          refine lv_iload X.1 X.2.1 d_M_isBytes_32 (lv_at hl 5 rfl) ?_
          refine z_iadd X.1 X.2.1 d_M_isBytes_34 ?_
          refine r_bald X Y S (aw_askedClients _ _ _ _ _ _ _) rfl (by omega) (show a4 + z102 < ((1600 : Nat) : Int) by omega) (by omega) d_M_isBytes_35 (fun z109 q109 l109 u109 => ?_)
          refine z_icmp_eq (tgt := 41) X.1 X.2.1 d_M_isBytes_36 (by decide) ⟨by omega, by omega⟩ ⟨by omega, by omega⟩ (fun h110 => ?_) (fun h110 => ?_)
          · refine lv_iinc (v := iI (z102 + 1)) (lv' := [(6, .int (iI (z102 + 1))), (0, .ref h), (1, .int (iI a1)), (3, .ref ((q 118))), (4, .int (iI a4)), (5, .int (iI a5))]) X.1 X.2.1 d_M_isBytes_41 hl (k := 5) rfl ((iI_add _ _).trans (congrArg iI (by omega))) (by decide) rfl (fun ls hl => ?_)
            refine lv_goto (tgt := 13) X.1 X.2.1 d_M_isBytes_44 (by decide) ?_
            exact ih104 ((300 - (z102 + 1)).toNat) (by omega) (z102 + 1) _ _ _ rfl (by omega) (by omega) Y S (lv_sub hl [1, 2, 3, 4, 5, 0] rfl)
          · refine lv_iconst (v := iI 0) X.1 X.2.1 d_M_isBytes_39 (by decide) ?_
            exact m_retz hQQ X Y hr hlk (iI_bool (by omega) (by omega)).1 ⟨S, 0, rfl, ⟨by omega, by omega, by omega⟩⟩ d_M_isBytes_40
    refine lv_istore (lv' := [(6, .int (iI 0)), (0, .ref h), (1, .int (iI a1)), (2, .int (iI a2)), (3, .ref ((q 118))), (4, .int (iI a4)), (5, .int (iI a5))]) X.1 X.2.1 d_M_isBytes_11 hl (by decide) rfl (fun ls hl => ?_)
    exact J103 _ 0 _ _ _ rfl (by omega) (by omega) Y S (lv_sub hl [1, 2, 4, 5, 6, 0] rfl)
  · refine lv_iconst (v := iI 0) X.1 X.2.1 d_M_isBytes_8 (by decide) ?_
    exact m_retz hQQ X Y hr hlk (iI_bool (by omega) (by omega)).1 ⟨S, 0, rfl, ⟨by omega, by omega, by omega⟩⟩ d_M_isBytes_9
set_option maxHeartbeats 4000000 in
set_option maxRecDepth 100000 in
theorem r_M_putBytes_kept (l : Launch) (D : mD) (E : mE) (h : Nat) (q : Nat → Nat) (sz : Nat) (I : Nat → Int32) (J : Nat → Int64) (B : Nat → Nat → Int32) (G : Nat → Nat → Int64) (a2 : Int) (l_a2 : 0 ≤ a2) (u_a2 : a2 ≤ 12) (a3 : Int) (l_a3 : 0 ≤ a3) (u_a3 : a3 ≤ 12) (hT : rT I B) (wn : Int) (gwn : I 42 = iI wn) (lwn : 30000 ≤ wn) (uwn : wn ≤ 60000) (q0 : a2 + a3 ≤ 12) (q1 : 30000 + a3 ≤ wn) : Met l y_M_putBytes (k_M_putBytes :: lw_tg) (mR 2 81) (va_Pc [.ref h, .ref (q 132), .int (iI a2), .int (iI a3)] (mPre D E h q (I, J, B, G) sz)) (va_Qv (rPv [42] [0] I B (fun (u : mS) => (∃ V2 : Int, u.1 42 = iI V2 ∧ wn - (a3) ≤ V2 ∧ V2 ≤ wn) ∧ mmF 30000 60000 (B 0) (u.2.2.1 0))) (mPost D E h q (mA E h q sz)) (mA E h q sz)) 0 0 (mA E h q sz) := by
  refine m_enter (by decide) rfl (Nat.le_of_ble_eq_true rfl) (fun p e s m below meth c ls AV QQ H locs hQQ X Y hZ hA hr hlk hml hl => ?_)
  have Y : mH D E (mA E h q sz) s.heap h q I J B G H locs := Y
  have S : rS [42] [0] I B I B := rS_rf hT
  have hl : lv_has ls 5 [(0, .ref h), (1, .ref ((q 132))), (2, .int (iI a2)), (3, .int (iI a3))] := hl
  refine lv_iload_n X.1 X.2.1 d_M_putBytes_0 rfl (lv_at hl 3 rfl) ?_
  refine lv_iconst (v := iI 1) X.1 X.2.1 d_M_putBytes_1 (by decide) ?_
  refine z_isub X.1 X.2.1 d_M_putBytes_2 ?_
  have J107 : ∀ (n109 : Nat) (z102 : Int) (z104 : Int) (I101 : Nat → Int32) (J101 : Nat → Int64) (B101 : Nat → Nat → Int32) (G101 : Nat → Nat → Int64) (H : Heap) (locs : List Loc) (ls : Array Slot), (z102 - (-1)).toNat = n109 → ((-1) ≤ z102) → (z102 ≤ 11) → (mmF 30000 60000 (B 0) (B101 0)) → (I101 42 = iI z104) → (0 ≤ z104) → (z104 ≤ 60000) → (z104 = wn - (a3 - 1 - z102)) → (z102 ≤ a3 - 1) → mH D E (mA E h q sz) s.heap h q I101 J101 B101 G101 H locs → rS [42] [0] I B I101 B101 → lv_has ls 5 [(0, .ref h), (1, .ref ((q 132))), (2, .int (iI a2)), (4, .int (iI z102))] → W p l e (mR 2 81) s m AV below meth c H locs 0 0 QQ (F0 m 5 ls []) := by
    intro n109
    induction n109 using Nat.strongRecOn with
    | ind n109 ih108 =>
      intro z102 z104 I101 J101 B101 G101 H locs ls hm110 l102 u102 f103 e104 l104 u104 i105 i106 Y S hl
      refine lv_iload X.1 X.2.1 d_M_putBytes_5 (lv_at hl 3 rfl) ?_
      refine z_if_lt (tgt := 26) X.1 X.2.1 d_M_putBytes_7 (by decide) ⟨by omega, by omega⟩ (fun h111 => ?_) (fun h111 => ?_)
      · exact m_retv hQQ X Y hr hlk ⟨S, ⟨⟨z104, e104, by omega, by omega⟩, f103⟩⟩ d_M_putBytes_26
      · refine lv_aload_n X.1 X.2.1 d_M_putBytes_10 rfl (lv_at hl 0 rfl) ?_
        refine lv_aload_n X.1 X.2.1 d_M_putBytes_11 rfl (lv_at hl 1 rfl) ?_
        refine lv_iload_n X.1 X.2.1 d_M_putBytes_12 rfl (lv_at hl 2 rfl) ?_
        refine lv_iload X.1 X.2.1 d_M_putBytes_13 (lv_at hl 3 rfl) ?_
        refine z_iadd X.1 X.2.1 d_M_putBytes_15 ?_
        refine r_bald X Y S (aw_kept _ _ _ _ _ _ _) rfl (by omega) (show a2 + z102 < ((12 : Nat) : Int) by omega) (by omega) d_M_putBytes_16 (fun z112 q112 l112 u112 => ?_)
        refine r_nv (m_run (As := [.int (iI z112)]) (rest := []) (n := 1) X Y hZ hA hml hl.1 (r_M_one l D E h q H.size I101 J101 B101 G101 z112 (by omega) (by omega) S.1 z104 e104 (by omega) (by omega)) kl_M_one ks_M_one kx_M_one ki_M_one ini_M hd_M_one ⟨Nat.le_of_ble_eq_true rfl, Nat.le_of_ble_eq_true rfl⟩ rfl (Nat.le_of_ble_eq_true rfl) d_M_putBytes_17 ⟨Nat.le_refl _, Nat.le_refl _⟩) X Y hA S (by decide) (by decide) (fun u H locs Y S s113 p113 => ?_)
        obtain ⟨I113, J113, B113, G113⟩ := u
        dsimp only at Y S s113 p113
        obtain ⟨x113, g113_MF⟩ := p113
        refine lv_iinc (v := iI (z102 - 1)) (lv' := [(4, .int (iI (z102 - 1))), (0, .ref h), (1, .ref ((q 132))), (2, .int (iI a2))]) X.1 X.2.1 d_M_putBytes_20 hl (k := 3) rfl ((iI_add _ _).trans (congrArg iI (by omega))) (by decide) rfl (fun ls hl => ?_)
        refine lv_goto (tgt := 5) X.1 X.2.1 d_M_putBytes_23 (by decide) ?_
        exact ih108 (((z102 - 1) - (-1)).toNat) (by omega) (z102 - 1) (z104 - 1) I113 J113 B113 G113 _ _ _ rfl (by omega) (by omega) (mmF_tr f103 g113_MF (by decide)) (x113.trans (congrArg iI (show (z104 - 1 : Int) = z104 - 1 by omega))) (by omega) (by omega) (by omega) (by omega) Y S (lv_sub hl [1, 2, 3, 0] rfl)
  refine lv_istore (lv' := [(4, .int (iI (a3 - 1))), (0, .ref h), (1, .ref ((q 132))), (2, .int (iI a2)), (3, .int (iI a3))]) X.1 X.2.1 d_M_putBytes_3 hl (by decide) rfl (fun ls hl => ?_)
  exact J107 _ (a3 - 1) wn I J B G _ _ _ rfl (by omega) (by omega) mmF_rf gwn (by omega) (by omega) (by omega) (by omega) Y S (lv_sub hl [1, 2, 3, 0] rfl)
set_option maxHeartbeats 4000000 in
set_option maxRecDepth 100000 in
theorem r_M_octetField_kept (l : Launch) (D : mD) (E : mE) (h : Nat) (q : Nat → Nat) (sz : Nat) (I : Nat → Int32) (J : Nat → Int64) (B : Nat → Nat → Int32) (G : Nat → Nat → Int64) (a1 : Int) (l_a1 : (-2147483648) ≤ a1) (u_a1 : a1 ≤ 2147483647) (a3 : Int) (l_a3 : 0 ≤ a3) (u_a3 : a3 ≤ 12) (a4 : Int) (l_a4 : 0 ≤ a4) (u_a4 : a4 ≤ 12) (hT : rT I B) (wn : Int) (gwn : I 42 = iI wn) (lwn : 30100 ≤ wn) (uwn : wn ≤ 60000) (q0 : a3 + a4 ≤ 12) (q1 : 30100 + a4 ≤ wn) : Met l y_M_octetField (k_M_octetField :: lw_tg) (mR 4 128) (va_Pc [.ref h, .int (iI a1), .ref (q 132), .int (iI a3), .int (iI a4)] (mPre D E h q (I, J, B, G) sz)) (va_Qv (rPv [42] [0] I B (fun (u : mS) => (∃ V2 : Int, u.1 42 = iI V2 ∧ wn - (a4 + 8) ≤ V2 ∧ V2 ≤ wn) ∧ mmF 30000 60000 (B 0) (u.2.2.1 0))) (mPost D E h q (mA E h q sz)) (mA E h q sz)) 0 0 (mA E h q sz) := by
  refine m_enter (by decide) rfl (Nat.le_of_ble_eq_true rfl) (fun p e s m below meth c ls AV QQ H locs hQQ X Y hZ hA hr hlk hml hl => ?_)
  have Y : mH D E (mA E h q sz) s.heap h q I J B G H locs := Y
  have S : rS [42] [0] I B I B := rS_rf hT
  have hl : lv_has ls 6 [(0, .ref h), (1, .int (iI a1)), (2, .ref ((q 132))), (3, .int (iI a3)), (4, .int (iI a4))] := hl
  refine lv_aload_n X.1 X.2.1 d_M_octetField_0 rfl (lv_at hl 0 rfl) ?_
  refine r_get0 X Y (by decide) lk_w0 (gf_w0 _ _ _) rfl gwn d_M_octetField_1 ?_
  refine lv_istore (lv' := [(5, .int (iI wn)), (0, .ref h), (1, .int (iI a1)), (2, .ref ((q 132))), (3, .int (iI a3)), (4, .int (iI a4))]) X.1 X.2.1 d_M_octetField_4 hl (by decide) rfl (fun ls hl => ?_)
  refine lv_aload_n X.1 X.2.1 d_M_octetField_6 rfl (lv_at hl 1 rfl) ?_
  refine lv_aload_n X.1 X.2.1 d_M_octetField_7 rfl (lv_at hl 3 rfl) ?_
  refine lv_iload_n X.1 X.2.1 d_M_octetField_8 rfl (lv_at hl 4 rfl) ?_
  refine lv_iload X.1 X.2.1 d_M_octetField_9 (lv_at hl 5 rfl) ?_
  refine r_nv (m_run (As := [.ref ((q 132)), .int (iI a3), .int (iI a4)]) (rest := []) (n := 3) X Y hZ hA hml hl.1 (r_M_putBytes_kept l D E h q H.size I J B G a3 (by omega) (by omega) a4 (by omega) (by omega) S.1 wn gwn (by omega) (by omega) (by omega) (by omega)) kl_M_putBytes ks_M_putBytes kx_M_putBytes ki_M_putBytes ini_M hd_M_putBytes ⟨Nat.le_of_ble_eq_true rfl, Nat.le_of_ble_eq_true rfl⟩ rfl (Nat.le_of_ble_eq_true rfl) d_M_octetField_11 ⟨Nat.le_refl _, Nat.le_refl _⟩) X Y hA S (by decide) (by decide) (fun u H locs Y S s101 p101 => ?_)
  obtain ⟨I101, J101, B101, G101⟩ := u
  dsimp only at Y S s101 p101
  obtain ⟨x101, g101_MF⟩ := p101
  obtain ⟨z102, e102, l102, u102⟩ := x101
  refine lv_aload_n X.1 X.2.1 d_M_octetField_14 rfl (lv_at hl 1 rfl) ?_
  refine lv_iconst (v := iI 4) X.1 X.2.1 d_M_octetField_15 (by decide) ?_
  refine lv_iload X.1 X.2.1 d_M_octetField_16 (lv_at hl 0 rfl) ?_
  refine r_nv (m_run (As := [.int (iI 4), .int (iI wn)]) (rest := []) (n := 2) X Y hZ hA hml hl.1 (r_M_head l D E h q H.size I101 J101 B101 G101 4 (by omega) (by omega) wn (by omega) (by omega) S.1 z102 e102 (by omega) (by omega)) kl_M_head ks_M_head kx_M_head ki_M_head ini_M hd_M_head ⟨Nat.le_of_ble_eq_true rfl, Nat.le_of_ble_eq_true rfl⟩ rfl (Nat.le_of_ble_eq_true rfl) d_M_octetField_18 ⟨Nat.le_refl _, Nat.le_refl _⟩) X Y hA S (by decide) (by decide) (fun u H locs Y S s103 p103 => ?_)
  obtain ⟨I103, J103, B103, G103⟩ := u
  dsimp only at Y S s103 p103
  obtain ⟨x103, g103_MF⟩ := p103
  obtain ⟨z104, e104, l104, u104⟩ := x103
  refine lv_aload_n X.1 X.2.1 d_M_octetField_21 rfl (lv_at hl 1 rfl) ?_
  refine lv_iload_n X.1 X.2.1 d_M_octetField_22 rfl (lv_at hl 2 rfl) ?_
  refine lv_iload X.1 X.2.1 d_M_octetField_23 (lv_at hl 0 rfl) ?_
  refine r_nv (m_run (As := [.int (iI a1), .int (iI wn)]) (rest := []) (n := 2) X Y hZ hA hml hl.1 (r_M_field l D E h q H.size I103 J103 B103 G103 a1 (by omega) (by omega) wn (by omega) (by omega) S.1 z104 e104 (by omega) (by omega)) kl_M_field ks_M_field kx_M_field ki_M_field ini_M hd_M_field ⟨Nat.le_of_ble_eq_true rfl, Nat.le_of_ble_eq_true rfl⟩ rfl (Nat.le_of_ble_eq_true rfl) d_M_octetField_25 ⟨Nat.le_refl _, Nat.le_refl _⟩) X Y hA S (by decide) (by decide) (fun u H locs Y S s105 p105 => ?_)
  obtain ⟨I105, J105, B105, G105⟩ := u
  dsimp only at Y S s105 p105
  obtain ⟨x105, g105_MF⟩ := p105
  obtain ⟨z106, e106, l106, u106⟩ := x105
  exact m_retv hQQ X Y hr hlk ⟨S, ⟨⟨z106, e106, by omega, by omega⟩, (mmF_tr (mmF_tr (mmF_tr mmF_rf g101_MF (by decide)) g103_MF (by decide)) g105_MF (by decide))⟩⟩ d_M_octetField_28
set_option maxHeartbeats 4000000 in
set_option maxRecDepth 100000 in
theorem r_M_authenticator (l : Launch) (D : mD) (E : mE) (h : Nat) (q : Nat → Nat) (sz : Nat) (I : Nat → Int32) (J : Nat → Int64) (B : Nat → Nat → Int32) (G : Nat → Nat → Int64) (a1 : Int) (l_a1 : 0 ≤ a1) (u_a1 : a1 ≤ 3) (a2 : Int) (l_a2 : 0 ≤ a2) (u_a2 : a2 ≤ 31) (a3 : Int64) (a4 : Int) (l_a4 : 0 ≤ a4) (u_a4 : a4 ≤ 1) (hT : rT I B) (wn : Int) (gwn : I 42 = iI wn) (lwn : 40000 ≤ wn) (uwn : wn ≤ 60000) : Met l y_M_authenticator (k_M_authenticator :: lw_tg) (mR 5 157) (va_Pc [.ref h, .int (iI a1), .int (iI a2), .long a3, .int (iI a4)] (mPre D E h q (I, J, B, G) sz)) (va_Qv (rPv [42] [0] I B (fun (u : mS) => (∃ V2 : Int, u.1 42 = iI V2 ∧ wn - (600) ≤ V2 ∧ V2 ≤ wn) ∧ mmF 30000 60000 (B 0) (u.2.2.1 0))) (mPost D E h q (mA E h q sz)) (mA E h q sz)) 0 0 (mA E h q sz) := by
  refine m_enter (by decide) rfl (Nat.le_of_ble_eq_true rfl) (fun p e s m below meth c ls AV QQ H locs hQQ X Y hZ hA hr hlk hml hl => ?_)
  have Y : mH D E (mA E h q sz) s.heap h q I J B G H locs := Y
  have S : rS [42] [0] I B I B := rS_rf hT
  have hl : lv_has ls 7 [(0, .ref h), (1, .int (iI a1)), (2, .int (iI a2)), (3, .long a3), (5, .int (iI a4))] := hl
  refine lv_aload_n X.1 X.2.1 d_M_authenticator_0 rfl (lv_at hl 0 rfl) ?_
  refine lv_iconst (v := iI 5) X.1 X.2.1 d_M_authenticator_1 (by decide) ?_
  refine lv_lload_n X.1 X.2.1 d_M_authenticator_2 rfl (lv_at hl 3 rfl) ?_
  refine r_nv (m_run (As := [.int (iI 5), .long a3]) (rest := []) (n := 2) X Y hZ hA hml hl.1 (r_M_timeField l D E h q H.size I J B G 5 (by omega) (by omega) a3 S.1 wn gwn (by omega) (by omega)) kl_M_timeField ks_M_timeField kx_M_timeField ki_M_timeField ini_M hd_M_timeField ⟨Nat.le_of_ble_eq_true rfl, Nat.le_of_ble_eq_true rfl⟩ rfl (Nat.le_of_ble_eq_true rfl) d_M_authenticator_3 ⟨Nat.le_refl _, Nat.le_refl _⟩) X Y hA S (by decide) (by decide) (fun u H locs Y S s101 p101 => ?_)
  obtain ⟨I101, J101, B101, G101⟩ := u
  dsimp only at Y S s101 p101
  obtain ⟨x101, g101_MF⟩ := p101
  obtain ⟨z102, e102, l102, u102⟩ := x101
  refine lv_aload_n X.1 X.2.1 d_M_authenticator_6 rfl (lv_at hl 0 rfl) ?_
  refine lv_iconst (v := iI 4) X.1 X.2.1 d_M_authenticator_7 (by decide) ?_
  refine lv_aload_n X.1 X.2.1 d_M_authenticator_8 rfl (lv_at hl 0 rfl) ?_
  refine m_get X Y 95 (by decide) lk_micros (gf_micros _ _ _) rfl d_M_authenticator_9 ?_
  refine lv_iload_n X.1 X.2.1 d_M_authenticator_12 rfl (lv_at hl 1 rfl) ?_
  refine r_iald X Y S (aw_micros _ _ _ _ _ _ _) rfl (by omega) (show a1 < ((4 : Nat) : Int) by omega) (by omega) d_M_authenticator_13 (fun z103 q103 l103 u103 => ?_)
  refine lv_ldcw (v := (1000000)) X.1 X.2.1 X.2.2.2.1 (X.2.2.1 _ cn_M_644) d_M_authenticator_14 ?_
  refine t_eq (y := iI 1000000) (by decide) ?_
  refine z_iremg X.1 X.2.1 ⟨by omega, by omega⟩ ⟨by decide, by decide⟩ d_M_authenticator_17 (fun z104 l104 u104 x104 => ?_)
  refine lv_i2l X.1 X.2.1 d_M_authenticator_18 rfl ?_
  refine t_anyl (fun v105 => ?_)
  refine r_nv (m_run (As := [.int (iI 4), .long v105]) (rest := []) (n := 2) X Y hZ hA hml hl.1 (r_M_numberField l D E h q H.size I101 J101 B101 G101 4 (by omega) (by omega) v105 S.1 z102 e102 (by omega) (by omega)) kl_M_numberField ks_M_numberField kx_M_numberField ki_M_numberField ini_M hd_M_numberField ⟨Nat.le_of_ble_eq_true rfl, Nat.le_of_ble_eq_true rfl⟩ rfl (Nat.le_of_ble_eq_true rfl) d_M_authenticator_19 ⟨Nat.le_refl _, Nat.le_refl _⟩) X Y hA S (by decide) (by decide) (fun u H locs Y S s106 p106 => ?_)
  obtain ⟨I106, J106, B106, G106⟩ := u
  dsimp only at Y S s106 p106
  obtain ⟨x106, g106_MF⟩ := p106
  obtain ⟨z107, e107, l107, u107⟩ := x106
  refine lv_iload X.1 X.2.1 d_M_authenticator_22 (lv_at hl 4 rfl) ?_
  refine z_if_eq (tgt := 74) X.1 X.2.1 d_M_authenticator_24 (by decide) ⟨by omega, by omega⟩ (fun h108 => ?_) (fun h108 => ?_)
  · refine lv_aload_n X.1 X.2.1 d_M_authenticator_74 rfl (lv_at hl 0 rfl) ?_
    refine lv_iconst (v := iI 2) X.1 X.2.1 d_M_authenticator_75 (by decide) ?_
    refine lv_aload_n X.1 X.2.1 d_M_authenticator_76 rfl (lv_at hl 0 rfl) ?_
    refine m_get X Y 107 (by decide) lk_clientBytes (gf_clientBytes _ _ _) rfl d_M_authenticator_77 ?_
    refine lv_sipush (v := iI 400) X.1 X.2.1 d_M_authenticator_80 (by decide) ?_
    refine lv_iload_n X.1 X.2.1 d_M_authenticator_83 rfl (lv_at hl 2 rfl) ?_
    refine z_imul X.1 X.2.1 d_M_authenticator_84 ?_
    refine lv_aload_n X.1 X.2.1 d_M_authenticator_85 rfl (lv_at hl 0 rfl) ?_
    refine m_get X Y 108 (by decide) lk_realmSizes (gf_realmSizes _ _ _) rfl d_M_authenticator_86 ?_
    refine lv_iload_n X.1 X.2.1 d_M_authenticator_89 rfl (lv_at hl 2 rfl) ?_
    refine r_iald X Y S (aw_realmSizes _ _ _ _ _ _ _) rfl (by omega) (show a2 < ((32 : Nat) : Int) by omega) (by omega) d_M_authenticator_90 (fun z109 q109 l109 u109 => ?_)
    refine z_iadd X.1 X.2.1 d_M_authenticator_91 ?_
    refine lv_aload_n X.1 X.2.1 d_M_authenticator_92 rfl (lv_at hl 0 rfl) ?_
    refine m_get X Y 109 (by decide) lk_clientSizes (gf_clientSizes _ _ _) rfl d_M_authenticator_93 ?_
    refine lv_iload_n X.1 X.2.1 d_M_authenticator_96 rfl (lv_at hl 2 rfl) ?_
    refine r_iald X Y S (aw_clientSizes _ _ _ _ _ _ _) rfl (by omega) (show a2 < ((32 : Nat) : Int) by omega) (by omega) d_M_authenticator_97 (fun z110 q110 l110 u110 => ?_)
    refine r_nv (m_run (As := [.int (iI 2), .ref ((q 107)), .int (iI ((400 * a2) + z109)), .int (iI z110)]) (rest := []) (n := 4) X Y hZ hA hml hl.1 (r_M_rowField_clientBytes l D E h q H.size I106 J106 B106 G106 2 (by omega) (by omega) ((400 * a2) + z109) (by omega) (by omega) z110 (by omega) (by omega) S.1 z107 e107 (by omega) (by omega) (by omega) (by omega)) kl_M_rowField ks_M_rowField kx_M_rowField ki_M_rowField ini_M hd_M_rowField ⟨Nat.le_of_ble_eq_true rfl, Nat.le_of_ble_eq_true rfl⟩ rfl (Nat.le_of_ble_eq_true rfl) d_M_authenticator_98 ⟨Nat.le_refl _, Nat.le_refl _⟩) X Y hA S (by decide) (by decide) (fun u H locs Y S s111 p111 => ?_)
    obtain ⟨I111, J111, B111, G111⟩ := u
    dsimp only at Y S s111 p111
    obtain ⟨x111, g111_MF⟩ := p111
    obtain ⟨z112, e112, l112, u112⟩ := x111
    refine lv_aload_n X.1 X.2.1 d_M_authenticator_101 rfl (lv_at hl 0 rfl) ?_
    refine lv_iconst (v := iI 1) X.1 X.2.1 d_M_authenticator_102 (by decide) ?_
    refine lv_aload_n X.1 X.2.1 d_M_authenticator_103 rfl (lv_at hl 0 rfl) ?_
    refine m_get X Y 107 (by decide) lk_clientBytes (gf_clientBytes _ _ _) rfl d_M_authenticator_104 ?_
    refine lv_sipush (v := iI 400) X.1 X.2.1 d_M_authenticator_107 (by decide) ?_
    refine lv_iload_n X.1 X.2.1 d_M_authenticator_110 rfl (lv_at hl 2 rfl) ?_
    refine z_imul X.1 X.2.1 d_M_authenticator_111 ?_
    refine lv_aload_n X.1 X.2.1 d_M_authenticator_112 rfl (lv_at hl 0 rfl) ?_
    refine m_get X Y 108 (by decide) lk_realmSizes (gf_realmSizes _ _ _) rfl d_M_authenticator_113 ?_
    refine lv_iload_n X.1 X.2.1 d_M_authenticator_116 rfl (lv_at hl 2 rfl) ?_
    refine r_iald X Y S (aw_realmSizes _ _ _ _ _ _ _) rfl (by omega) (show a2 < ((32 : Nat) : Int) by omega) (by omega) d_M_authenticator_117 (fun z113 q113 l113 u113 => ?_)
    refine r_nv (m_run (As := [.int (iI 1), .ref ((q 107)), .int (iI (400 * a2)), .int (iI z113)]) (rest := []) (n := 4) X Y hZ hA hml hl.1 (r_M_rowField_clientBytes l D E h q H.size I111 J111 B111 G111 1 (by omega) (by omega) (400 * a2) (by omega) (by omega) z113 (by omega) (by omega) S.1 z112 e112 (by omega) (by omega) (by omega) (by omega)) kl_M_rowField ks_M_rowField kx_M_rowField ki_M_rowField ini_M hd_M_rowField ⟨Nat.le_of_ble_eq_true rfl, Nat.le_of_ble_eq_true rfl⟩ rfl (Nat.le_of_ble_eq_true rfl) d_M_authenticator_118 ⟨Nat.le_refl _, Nat.le_refl _⟩) X Y hA S (by decide) (by decide) (fun u H locs Y S s114 p114 => ?_)
    obtain ⟨I114, J114, B114, G114⟩ := u
    dsimp only at Y S s114 p114
    obtain ⟨x114, g114_MF⟩ := p114
    obtain ⟨z115, e115, l115, u115⟩ := x114
    refine lv_aload_n X.1 X.2.1 d_M_authenticator_121 rfl (lv_at hl 0 rfl) ?_
    refine lv_iconst (v := iI 0) X.1 X.2.1 d_M_authenticator_122 (by decide) ?_
    refine lv_ldc2 (v := (5)) X.1 X.2.1 X.2.2.2.1 (X.2.2.1 _ cl_M_669) d_M_authenticator_123 ?_
    refine r_nv (m_run (As := [.int (iI 0), .long ((5))]) (rest := []) (n := 2) X Y hZ hA hml hl.1 (r_M_numberField l D E h q H.size I114 J114 B114 G114 0 (by omega) (by omega) ((5)) S.1 z115 e115 (by omega) (by omega)) kl_M_numberField ks_M_numberField kx_M_numberField ki_M_numberField ini_M hd_M_numberField ⟨Nat.le_of_ble_eq_true rfl, Nat.le_of_ble_eq_true rfl⟩ rfl (Nat.le_of_ble_eq_true rfl) d_M_authenticator_126 ⟨Nat.le_refl _, Nat.le_refl _⟩) X Y hA S (by decide) (by decide) (fun u H locs Y S s116 p116 => ?_)
    obtain ⟨I116, J116, B116, G116⟩ := u
    dsimp only at Y S s116 p116
    obtain ⟨x116, g116_MF⟩ := p116
    obtain ⟨z117, e117, l117, u117⟩ := x116
    refine lv_aload_n X.1 X.2.1 d_M_authenticator_129 rfl (lv_at hl 0 rfl) ?_
    refine lv_bipush (v := iI 48) X.1 X.2.1 d_M_authenticator_130 (by decide) ?_
    refine lv_ldc (v := (60000)) X.1 X.2.1 X.2.2.2.1 (X.2.2.1 _ cn_M_9) d_M_authenticator_132 ?_
    refine t_eq (y := iI 60000) (by decide) ?_
    refine r_nv (m_run (As := [.int (iI 48), .int (iI 60000)]) (rest := []) (n := 2) X Y hZ hA hml hl.1 (r_M_head l D E h q H.size I116 J116 B116 G116 48 (by omega) (by omega) 60000 (by omega) (by omega) S.1 z117 e117 (by omega) (by omega)) kl_M_head ks_M_head kx_M_head ki_M_head ini_M hd_M_head ⟨Nat.le_of_ble_eq_true rfl, Nat.le_of_ble_eq_true rfl⟩ rfl (Nat.le_of_ble_eq_true rfl) d_M_authenticator_134 ⟨Nat.le_refl _, Nat.le_refl _⟩) X Y hA S (by decide) (by decide) (fun u H locs Y S s118 p118 => ?_)
    obtain ⟨I118, J118, B118, G118⟩ := u
    dsimp only at Y S s118 p118
    obtain ⟨x118, g118_MF⟩ := p118
    obtain ⟨z119, e119, l119, u119⟩ := x118
    refine lv_aload_n X.1 X.2.1 d_M_authenticator_137 rfl (lv_at hl 0 rfl) ?_
    refine lv_bipush (v := iI 98) X.1 X.2.1 d_M_authenticator_138 (by decide) ?_
    refine lv_ldc (v := (60000)) X.1 X.2.1 X.2.2.2.1 (X.2.2.1 _ cn_M_9) d_M_authenticator_140 ?_
    refine t_eq (y := iI 60000) (by decide) ?_
    refine r_nv (m_run (As := [.int (iI 98), .int (iI 60000)]) (rest := []) (n := 2) X Y hZ hA hml hl.1 (r_M_head l D E h q H.size I118 J118 B118 G118 98 (by omega) (by omega) 60000 (by omega) (by omega) S.1 z119 e119 (by omega) (by omega)) kl_M_head ks_M_head kx_M_head ki_M_head ini_M hd_M_head ⟨Nat.le_of_ble_eq_true rfl, Nat.le_of_ble_eq_true rfl⟩ rfl (Nat.le_of_ble_eq_true rfl) d_M_authenticator_142 ⟨Nat.le_refl _, Nat.le_refl _⟩) X Y hA S (by decide) (by decide) (fun u H locs Y S s120 p120 => ?_)
    obtain ⟨I120, J120, B120, G120⟩ := u
    dsimp only at Y S s120 p120
    obtain ⟨x120, g120_MF⟩ := p120
    obtain ⟨z121, e121, l121, u121⟩ := x120
    exact m_retv hQQ X Y hr hlk ⟨S, ⟨⟨z121, e121, by omega, by omega⟩, (mmF_tr (mmF_tr (mmF_tr (mmF_tr (mmF_tr (mmF_tr (mmF_tr mmF_rf g101_MF (by decide)) g106_MF (by decide)) g111_MF (by decide)) g114_MF (by decide)) g116_MF (by decide)) g118_MF (by decide)) g120_MF (by decide))⟩⟩ d_M_authenticator_145
  · refine lv_aload_n X.1 X.2.1 d_M_authenticator_27 rfl (lv_at hl 0 rfl) ?_
    refine r_get0 X Y (by decide) lk_w0 (gf_w0 _ _ _) rfl e107 d_M_authenticator_28 ?_
    refine lv_istore (lv' := [(6, .int (iI z107)), (0, .ref h), (1, .int (iI a1)), (2, .int (iI a2)), (3, .long a3), (5, .int (iI a4))]) X.1 X.2.1 d_M_authenticator_31 hl (by decide) rfl (fun ls hl => ?_)
    refine lv_aload_n X.1 X.2.1 d_M_authenticator_33 rfl (lv_at hl 1 rfl) ?_
    refine lv_iconst (v := iI 1) X.1 X.2.1 d_M_authenticator_34 (by decide) ?_
    refine lv_aload_n X.1 X.2.1 d_M_authenticator_35 rfl (lv_at hl 1 rfl) ?_
    refine m_get X Y 132 (by decide) lk_kept (gf_kept _ _ _) rfl d_M_authenticator_36 ?_
    refine lv_iconst (v := iI 0) X.1 X.2.1 d_M_authenticator_39 (by decide) ?_
    refine lv_bipush (v := iI 12) X.1 X.2.1 d_M_authenticator_40 (by decide) ?_
    refine r_nv (m_run (As := [.int (iI 1), .ref ((q 132)), .int (iI 0), .int (iI 12)]) (rest := []) (n := 4) X Y hZ hA hml hl.1 (r_M_octetField_kept l D E h q H.size I106 J106 B106 G106 1 (by omega) (by omega) 0 (by omega) (by omega) 12 (by omega) (by omega) S.1 z107 e107 (by omega) (by omega) (by omega) (by omega)) kl_M_octetField ks_M_octetField kx_M_octetField ki_M_octetField ini_M hd_M_octetField ⟨Nat.le_of_ble_eq_true rfl, Nat.le_of_ble_eq_true rfl⟩ rfl (Nat.le_of_ble_eq_true rfl) d_M_authenticator_42 ⟨Nat.le_refl _, Nat.le_refl _⟩) X Y hA S (by decide) (by decide) (fun u H locs Y S s122 p122 => ?_)
    obtain ⟨I122, J122, B122, G122⟩ := u
    dsimp only at Y S s122 p122
    obtain ⟨x122, g122_MF⟩ := p122
    obtain ⟨z123, e123, l123, u123⟩ := x122
    refine lv_aload_n X.1 X.2.1 d_M_authenticator_45 rfl (lv_at hl 1 rfl) ?_
    refine lv_iconst (v := iI 0) X.1 X.2.1 d_M_authenticator_46 (by decide) ?_
    refine lv_aload_n X.1 X.2.1 d_M_authenticator_47 rfl (lv_at hl 1 rfl) ?_
    refine m_get X Y 102 (by decide) lk_ticketTypes (gf_ticketTypes _ _ _) rfl d_M_authenticator_48 ?_
    refine lv_iload_n X.1 X.2.1 d_M_authenticator_51 rfl (lv_at hl 3 rfl) ?_
    refine r_iald X Y S (aw_ticketTypes _ _ _ _ _ _ _) rfl (by omega) (show a2 < ((32 : Nat) : Int) by omega) (by omega) d_M_authenticator_52 (fun z124 q124 l124 u124 => ?_)
    refine lv_iconst (v := iI 2) X.1 X.2.1 d_M_authenticator_53 (by decide) ?_
    refine z_isub X.1 X.2.1 d_M_authenticator_54 ?_
    refine lv_i2l X.1 X.2.1 d_M_authenticator_55 rfl ?_
    refine t_anyl (fun v125 => ?_)
    refine r_nv (m_run (As := [.int (iI 0), .long v125]) (rest := []) (n := 2) X Y hZ hA hml hl.1 (r_M_numberField l D E h q H.size I122 J122 B122 G122 0 (by omega) (by omega) v125 S.1 z123 e123 (by omega) (by omega)) kl_M_numberField ks_M_numberField kx_M_numberField ki_M_numberField ini_M hd_M_numberField ⟨Nat.le_of_ble_eq_true rfl, Nat.le_of_ble_eq_true rfl⟩ rfl (Nat.le_of_ble_eq_true rfl) d_M_authenticator_56 ⟨Nat.le_refl _, Nat.le_refl _⟩) X Y hA S (by decide) (by decide) (fun u H locs Y S s126 p126 => ?_)
    obtain ⟨I126, J126, B126, G126⟩ := u
    dsimp only at Y S s126 p126
    obtain ⟨x126, g126_MF⟩ := p126
    obtain ⟨z127, e127, l127, u127⟩ := x126
    refine lv_aload_n X.1 X.2.1 d_M_authenticator_59 rfl (lv_at hl 1 rfl) ?_
    refine lv_bipush (v := iI 48) X.1 X.2.1 d_M_authenticator_60 (by decide) ?_
    refine lv_iload X.1 X.2.1 d_M_authenticator_62 (lv_at hl 0 rfl) ?_
    refine r_nv (m_run (As := [.int (iI 48), .int (iI z107)]) (rest := []) (n := 2) X Y hZ hA hml hl.1 (r_M_head l D E h q H.size I126 J126 B126 G126 48 (by omega) (by omega) z107 (by omega) (by omega) S.1 z127 e127 (by omega) (by omega)) kl_M_head ks_M_head kx_M_head ki_M_head ini_M hd_M_head ⟨Nat.le_of_ble_eq_true rfl, Nat.le_of_ble_eq_true rfl⟩ rfl (Nat.le_of_ble_eq_true rfl) d_M_authenticator_64 ⟨Nat.le_refl _, Nat.le_refl _⟩) X Y hA S (by decide) (by decide) (fun u H locs Y S s128 p128 => ?_)
    obtain ⟨I128, J128, B128, G128⟩ := u
    dsimp only at Y S s128 p128
    obtain ⟨x128, g128_MF⟩ := p128
    obtain ⟨z129, e129, l129, u129⟩ := x128
    refine lv_aload_n X.1 X.2.1 d_M_authenticator_67 rfl (lv_at hl 1 rfl) ?_
    refine lv_iconst (v := iI 3) X.1 X.2.1 d_M_authenticator_68 (by decide) ?_
    refine lv_iload X.1 X.2.1 d_M_authenticator_69 (lv_at hl 0 rfl) ?_
    refine r_nv (m_run (As := [.int (iI 3), .int (iI z107)]) (rest := []) (n := 2) X Y hZ hA hml hl.1 (r_M_field l D E h q H.size I128 J128 B128 G128 3 (by omega) (by omega) z107 (by omega) (by omega) S.1 z129 e129 (by omega) (by omega)) kl_M_field ks_M_field kx_M_field ki_M_field ini_M hd_M_field ⟨Nat.le_of_ble_eq_true rfl, Nat.le_of_ble_eq_true rfl⟩ rfl (Nat.le_of_ble_eq_true rfl) d_M_authenticator_71 ⟨Nat.le_refl _, Nat.le_refl _⟩) X Y hA S (by decide) (by decide) (fun u H locs Y S s130 p130 => ?_)
    obtain ⟨I130, J130, B130, G130⟩ := u
    dsimp only at Y S s130 p130
    obtain ⟨x130, g130_MF⟩ := p130
    obtain ⟨z131, e131, l131, u131⟩ := x130
    refine lv_aload_n X.1 X.2.1 d_M_authenticator_74 rfl (lv_at hl 1 rfl) ?_
    refine lv_iconst (v := iI 2) X.1 X.2.1 d_M_authenticator_75 (by decide) ?_
    refine lv_aload_n X.1 X.2.1 d_M_authenticator_76 rfl (lv_at hl 1 rfl) ?_
    refine m_get X Y 107 (by decide) lk_clientBytes (gf_clientBytes _ _ _) rfl d_M_authenticator_77 ?_
    refine lv_sipush (v := iI 400) X.1 X.2.1 d_M_authenticator_80 (by decide) ?_
    refine lv_iload_n X.1 X.2.1 d_M_authenticator_83 rfl (lv_at hl 3 rfl) ?_
    refine z_imul X.1 X.2.1 d_M_authenticator_84 ?_
    refine lv_aload_n X.1 X.2.1 d_M_authenticator_85 rfl (lv_at hl 1 rfl) ?_
    refine m_get X Y 108 (by decide) lk_realmSizes (gf_realmSizes _ _ _) rfl d_M_authenticator_86 ?_
    refine lv_iload_n X.1 X.2.1 d_M_authenticator_89 rfl (lv_at hl 3 rfl) ?_
    refine r_iald X Y S (aw_realmSizes _ _ _ _ _ _ _) rfl (by omega) (show a2 < ((32 : Nat) : Int) by omega) (by omega) d_M_authenticator_90 (fun z132 q132 l132 u132 => ?_)
    refine z_iadd X.1 X.2.1 d_M_authenticator_91 ?_
    refine lv_aload_n X.1 X.2.1 d_M_authenticator_92 rfl (lv_at hl 1 rfl) ?_
    refine m_get X Y 109 (by decide) lk_clientSizes (gf_clientSizes _ _ _) rfl d_M_authenticator_93 ?_
    refine lv_iload_n X.1 X.2.1 d_M_authenticator_96 rfl (lv_at hl 3 rfl) ?_
    refine r_iald X Y S (aw_clientSizes _ _ _ _ _ _ _) rfl (by omega) (show a2 < ((32 : Nat) : Int) by omega) (by omega) d_M_authenticator_97 (fun z133 q133 l133 u133 => ?_)
    refine r_nv (m_run (As := [.int (iI 2), .ref ((q 107)), .int (iI ((400 * a2) + z132)), .int (iI z133)]) (rest := []) (n := 4) X Y hZ hA hml hl.1 (r_M_rowField_clientBytes l D E h q H.size I130 J130 B130 G130 2 (by omega) (by omega) ((400 * a2) + z132) (by omega) (by omega) z133 (by omega) (by omega) S.1 z131 e131 (by omega) (by omega) (by omega) (by omega)) kl_M_rowField ks_M_rowField kx_M_rowField ki_M_rowField ini_M hd_M_rowField ⟨Nat.le_of_ble_eq_true rfl, Nat.le_of_ble_eq_true rfl⟩ rfl (Nat.le_of_ble_eq_true rfl) d_M_authenticator_98 ⟨Nat.le_refl _, Nat.le_refl _⟩) X Y hA S (by decide) (by decide) (fun u H locs Y S s134 p134 => ?_)
    obtain ⟨I134, J134, B134, G134⟩ := u
    dsimp only at Y S s134 p134
    obtain ⟨x134, g134_MF⟩ := p134
    obtain ⟨z135, e135, l135, u135⟩ := x134
    refine lv_aload_n X.1 X.2.1 d_M_authenticator_101 rfl (lv_at hl 1 rfl) ?_
    refine lv_iconst (v := iI 1) X.1 X.2.1 d_M_authenticator_102 (by decide) ?_
    refine lv_aload_n X.1 X.2.1 d_M_authenticator_103 rfl (lv_at hl 1 rfl) ?_
    refine m_get X Y 107 (by decide) lk_clientBytes (gf_clientBytes _ _ _) rfl d_M_authenticator_104 ?_
    refine lv_sipush (v := iI 400) X.1 X.2.1 d_M_authenticator_107 (by decide) ?_
    refine lv_iload_n X.1 X.2.1 d_M_authenticator_110 rfl (lv_at hl 3 rfl) ?_
    refine z_imul X.1 X.2.1 d_M_authenticator_111 ?_
    refine lv_aload_n X.1 X.2.1 d_M_authenticator_112 rfl (lv_at hl 1 rfl) ?_
    refine m_get X Y 108 (by decide) lk_realmSizes (gf_realmSizes _ _ _) rfl d_M_authenticator_113 ?_
    refine lv_iload_n X.1 X.2.1 d_M_authenticator_116 rfl (lv_at hl 3 rfl) ?_
    refine r_iald X Y S (aw_realmSizes _ _ _ _ _ _ _) rfl (by omega) (show a2 < ((32 : Nat) : Int) by omega) (by omega) d_M_authenticator_117 (fun z136 q136 l136 u136 => ?_)
    refine r_nv (m_run (As := [.int (iI 1), .ref ((q 107)), .int (iI (400 * a2)), .int (iI z136)]) (rest := []) (n := 4) X Y hZ hA hml hl.1 (r_M_rowField_clientBytes l D E h q H.size I134 J134 B134 G134 1 (by omega) (by omega) (400 * a2) (by omega) (by omega) z136 (by omega) (by omega) S.1 z135 e135 (by omega) (by omega) (by omega) (by omega)) kl_M_rowField ks_M_rowField kx_M_rowField ki_M_rowField ini_M hd_M_rowField ⟨Nat.le_of_ble_eq_true rfl, Nat.le_of_ble_eq_true rfl⟩ rfl (Nat.le_of_ble_eq_true rfl) d_M_authenticator_118 ⟨Nat.le_refl _, Nat.le_refl _⟩) X Y hA S (by decide) (by decide) (fun u H locs Y S s137 p137 => ?_)
    obtain ⟨I137, J137, B137, G137⟩ := u
    dsimp only at Y S s137 p137
    obtain ⟨x137, g137_MF⟩ := p137
    obtain ⟨z138, e138, l138, u138⟩ := x137
    refine lv_aload_n X.1 X.2.1 d_M_authenticator_121 rfl (lv_at hl 1 rfl) ?_
    refine lv_iconst (v := iI 0) X.1 X.2.1 d_M_authenticator_122 (by decide) ?_
    refine lv_ldc2 (v := (5)) X.1 X.2.1 X.2.2.2.1 (X.2.2.1 _ cl_M_669) d_M_authenticator_123 ?_
    refine r_nv (m_run (As := [.int (iI 0), .long ((5))]) (rest := []) (n := 2) X Y hZ hA hml hl.1 (r_M_numberField l D E h q H.size I137 J137 B137 G137 0 (by omega) (by omega) ((5)) S.1 z138 e138 (by omega) (by omega)) kl_M_numberField ks_M_numberField kx_M_numberField ki_M_numberField ini_M hd_M_numberField ⟨Nat.le_of_ble_eq_true rfl, Nat.le_of_ble_eq_true rfl⟩ rfl (Nat.le_of_ble_eq_true rfl) d_M_authenticator_126 ⟨Nat.le_refl _, Nat.le_refl _⟩) X Y hA S (by decide) (by decide) (fun u H locs Y S s139 p139 => ?_)
    obtain ⟨I139, J139, B139, G139⟩ := u
    dsimp only at Y S s139 p139
    obtain ⟨x139, g139_MF⟩ := p139
    have f140 : mmF 30000 60000 (B 0) (B139 0) := (mmF_tr (mmF_tr (mmF_tr (mmF_tr (mmF_tr (mmF_tr (mmF_tr (mmF_tr (mmF_tr mmF_rf g101_MF (by decide)) g106_MF (by decide)) g122_MF (by decide)) g126_MF (by decide)) g128_MF (by decide)) g130_MF (by decide)) g134_MF (by decide)) g137_MF (by decide)) g139_MF (by decide))
    obtain ⟨z141, e141, l141, u141⟩ := x139
    refine lv_aload_n X.1 X.2.1 d_M_authenticator_129 rfl (lv_at hl 1 rfl) ?_
    refine lv_bipush (v := iI 48) X.1 X.2.1 d_M_authenticator_130 (by decide) ?_
    refine lv_ldc (v := (60000)) X.1 X.2.1 X.2.2.2.1 (X.2.2.1 _ cn_M_9) d_M_authenticator_132 ?_
    refine t_eq (y := iI 60000) (by decide) ?_
    refine r_nv (m_run (As := [.int (iI 48), .int (iI 60000)]) (rest := []) (n := 2) X Y hZ hA hml hl.1 (r_M_head l D E h q H.size I139 J139 B139 G139 48 (by omega) (by omega) 60000 (by omega) (by omega) S.1 z141 e141 (by omega) (by omega)) kl_M_head ks_M_head kx_M_head ki_M_head ini_M hd_M_head ⟨Nat.le_of_ble_eq_true rfl, Nat.le_of_ble_eq_true rfl⟩ rfl (Nat.le_of_ble_eq_true rfl) d_M_authenticator_134 ⟨Nat.le_refl _, Nat.le_refl _⟩) X Y hA S (by decide) (by decide) (fun u H locs Y S s142 p142 => ?_)
    obtain ⟨I142, J142, B142, G142⟩ := u
    dsimp only at Y S s142 p142
    obtain ⟨x142, g142_MF⟩ := p142
    obtain ⟨z143, e143, l143, u143⟩ := x142
    refine lv_aload_n X.1 X.2.1 d_M_authenticator_137 rfl (lv_at hl 1 rfl) ?_
    refine lv_bipush (v := iI 98) X.1 X.2.1 d_M_authenticator_138 (by decide) ?_
    refine lv_ldc (v := (60000)) X.1 X.2.1 X.2.2.2.1 (X.2.2.1 _ cn_M_9) d_M_authenticator_140 ?_
    refine t_eq (y := iI 60000) (by decide) ?_
    refine r_nv (m_run (As := [.int (iI 98), .int (iI 60000)]) (rest := []) (n := 2) X Y hZ hA hml hl.1 (r_M_head l D E h q H.size I142 J142 B142 G142 98 (by omega) (by omega) 60000 (by omega) (by omega) S.1 z143 e143 (by omega) (by omega)) kl_M_head ks_M_head kx_M_head ki_M_head ini_M hd_M_head ⟨Nat.le_of_ble_eq_true rfl, Nat.le_of_ble_eq_true rfl⟩ rfl (Nat.le_of_ble_eq_true rfl) d_M_authenticator_142 ⟨Nat.le_refl _, Nat.le_refl _⟩) X Y hA S (by decide) (by decide) (fun u H locs Y S s144 p144 => ?_)
    obtain ⟨I144, J144, B144, G144⟩ := u
    dsimp only at Y S s144 p144
    obtain ⟨x144, g144_MF⟩ := p144
    obtain ⟨z145, e145, l145, u145⟩ := x144
    exact m_retv hQQ X Y hr hlk ⟨S, ⟨⟨z145, e145, by omega, by omega⟩, (mmF_tr (mmF_tr f140 g142_MF (by decide)) g144_MF (by decide))⟩⟩ d_M_authenticator_145
set_option maxHeartbeats 4000000 in
set_option maxRecDepth 100000 in
theorem r_M_apReq (l : Launch) (D : mD) (E : mE) (h : Nat) (q : Nat → Nat) (sz : Nat) (I : Nat → Int32) (J : Nat → Int64) (B : Nat → Nat → Int32) (G : Nat → Nat → Int64) (a1 : Int) (l_a1 : 0 ≤ a1) (u_a1 : a1 ≤ 31) (a2 : Int) (l_a2 : (-2147483648) ≤ a2) (u_a2 : a2 ≤ 2147483647) (hT : rT I B) (sm : Int) (gsm : I 36 = iI sm) (lsm : 0 ≤ sm) (usm : sm ≤ 19100) : Met l y_M_apReq (k_M_apReq :: lw_tg) (mR 7 206) (va_Pc [.ref h, .int (iI a1), .int (iI a2)] (mPre D E h q (I, J, B, G) sz)) (va_Qv (rPv [42] [0] I B (fun (u : mS) => (∃ V2 : Int, u.1 42 = iI V2 ∧ (60000 - sm - 4500 ≤ V2) ∧ 0 ≤ V2 ∧ V2 ≤ 60000))) (mPost D E h q (mA E h q sz)) (mA E h q sz)) 0 0 (mA E h q sz) := by
  refine m_enter (by decide) rfl (Nat.le_of_ble_eq_true rfl) (fun p e s m below meth c ls AV QQ H locs hQQ X Y hZ hA hr hlk hml hl => ?_)
  have Y : mH D E (mA E h q sz) s.heap h q I J B G H locs := Y
  have S : rS [42] [0] I B I B := rS_rf hT
  have hl : lv_has ls 3 [(0, .ref h), (1, .int (iI a1)), (2, .int (iI a2))] := hl
  refine lv_aload_n X.1 X.2.1 d_M_apReq_0 rfl (lv_at hl 0 rfl) ?_
  refine r_nv (m_run (As := []) (rest := []) (n := 0) X Y hZ hA hml hl.1 (r_M_start l D E h q H.size I J B G S.1) kl_M_start ks_M_start kx_M_start ki_M_start ini_M hd_M_start ⟨Nat.le_of_ble_eq_true rfl, Nat.le_of_ble_eq_true rfl⟩ rfl (Nat.le_of_ble_eq_true rfl) d_M_apReq_1 ⟨Nat.le_refl _, Nat.le_refl _⟩) X Y hA S (by decide) (by decide) (fun u H locs Y S s101 p101 => ?_)
  obtain ⟨I101, J101, B101, G101⟩ := u
  dsimp only at Y S s101 p101
  have x101 := p101
  refine lv_aload_n X.1 X.2.1 d_M_apReq_4 rfl (lv_at hl 0 rfl) ?_
  refine lv_iconst (v := iI 4) X.1 X.2.1 d_M_apReq_5 (by decide) ?_
  refine lv_aload_n X.1 X.2.1 d_M_apReq_6 rfl (lv_at hl 0 rfl) ?_
  refine m_get X Y 102 (by decide) lk_ticketTypes (gf_ticketTypes _ _ _) rfl d_M_apReq_7 ?_
  refine lv_iload_n X.1 X.2.1 d_M_apReq_10 rfl (lv_at hl 1 rfl) ?_
  refine r_iald X Y S (aw_ticketTypes _ _ _ _ _ _ _) rfl (by omega) (show a1 < ((32 : Nat) : Int) by omega) (by omega) d_M_apReq_11 (fun z102 q102 l102 u102 => ?_)
  refine lv_lconst (v := 0) X.1 X.2.1 d_M_apReq_12 rfl ?_
  refine r_nv (m_run (As := [.int (iI 4), .int (iI z102), .long 0]) (rest := []) (n := 3) X Y hZ hA hml hl.1 (r_M_sealedField l D E h q H.size I101 J101 B101 G101 4 (by omega) (by omega) z102 (by omega) (by omega) 0 S.1 60000 (x101.trans (congrArg iI (show (60000 : Int) = 60000 by omega))) (by omega) (by omega) sm ((s101.2.1 36 (by decide)).trans gsm) (by omega) (by omega) (by omega)) kl_M_sealedField ks_M_sealedField kx_M_sealedField ki_M_sealedField ini_M hd_M_sealedField ⟨Nat.le_of_ble_eq_true rfl, Nat.le_of_ble_eq_true rfl⟩ rfl (Nat.le_of_ble_eq_true rfl) d_M_apReq_13 ⟨Nat.le_refl _, Nat.le_refl _⟩) X Y hA S (by decide) (by decide) (fun u H locs Y S s103 p103 => ?_)
  obtain ⟨I103, J103, B103, G103⟩ := u
  dsimp only at Y S s103 p103
  obtain ⟨x103, g103_MF⟩ := p103
  obtain ⟨z104, e104, l104, u104⟩ := x103
  refine lv_aload_n X.1 X.2.1 d_M_apReq_16 rfl (lv_at hl 0 rfl) ?_
  refine lv_iconst (v := iI 3) X.1 X.2.1 d_M_apReq_17 (by decide) ?_
  refine lv_aload_n X.1 X.2.1 d_M_apReq_18 rfl (lv_at hl 0 rfl) ?_
  refine m_get X Y 98 (by decide) lk_ticketBytes (gf_ticketBytes _ _ _) rfl d_M_apReq_19 ?_
  refine lv_sipush (v := iI 4200) X.1 X.2.1 d_M_apReq_22 (by decide) ?_
  refine lv_iload_n X.1 X.2.1 d_M_apReq_25 rfl (lv_at hl 1 rfl) ?_
  refine z_imul X.1 X.2.1 d_M_apReq_26 ?_
  refine lv_aload_n X.1 X.2.1 d_M_apReq_27 rfl (lv_at hl 0 rfl) ?_
  refine m_get X Y 100 (by decide) lk_ticketSizes (gf_ticketSizes _ _ _) rfl d_M_apReq_28 ?_
  refine lv_iload_n X.1 X.2.1 d_M_apReq_31 rfl (lv_at hl 1 rfl) ?_
  refine r_iald X Y S (aw_ticketSizes _ _ _ _ _ _ _) rfl (by omega) (show a1 < ((32 : Nat) : Int) by omega) (by omega) d_M_apReq_32 (fun z105 q105 l105 u105 => ?_)
  refine r_nv (m_run (As := [.int (iI 3), .ref ((q 98)), .int (iI (4200 * a1)), .int (iI z105)]) (rest := []) (n := 4) X Y hZ hA hml hl.1 (r_M_rowField_ticketBytes l D E h q H.size I103 J103 B103 G103 3 (by omega) (by omega) (4200 * a1) (by omega) (by omega) z105 (by omega) (by omega) S.1 z104 e104 (by omega) (by omega) (by omega) (by omega)) kl_M_rowField ks_M_rowField kx_M_rowField ki_M_rowField ini_M hd_M_rowField ⟨Nat.le_of_ble_eq_true rfl, Nat.le_of_ble_eq_true rfl⟩ rfl (Nat.le_of_ble_eq_true rfl) d_M_apReq_33 ⟨Nat.le_refl _, Nat.le_refl _⟩) X Y hA S (by decide) (by decide) (fun u H locs Y S s106 p106 => ?_)
  obtain ⟨I106, J106, B106, G106⟩ := u
  dsimp only at Y S s106 p106
  obtain ⟨x106, g106_MF⟩ := p106
  obtain ⟨z107, e107, l107, u107⟩ := x106
  refine lv_aload_n X.1 X.2.1 d_M_apReq_36 rfl (lv_at hl 0 rfl) ?_
  refine lv_iconst (v := iI 2) X.1 X.2.1 d_M_apReq_37 (by decide) ?_
  refine lv_iload_n X.1 X.2.1 d_M_apReq_38 rfl (lv_at hl 2 rfl) ?_
  refine r_nv (m_run (As := [.int (iI 2), .int (iI a2)]) (rest := []) (n := 2) X Y hZ hA hml hl.1 (r_M_flagsField l D E h q H.size I106 J106 B106 G106 2 (by omega) (by omega) a2 (by omega) (by omega) S.1 z107 e107 (by omega) (by omega)) kl_M_flagsField ks_M_flagsField kx_M_flagsField ki_M_flagsField ini_M hd_M_flagsField ⟨Nat.le_of_ble_eq_true rfl, Nat.le_of_ble_eq_true rfl⟩ rfl (Nat.le_of_ble_eq_true rfl) d_M_apReq_39 ⟨Nat.le_refl _, Nat.le_refl _⟩) X Y hA S (by decide) (by decide) (fun u H locs Y S s108 p108 => ?_)
  obtain ⟨I108, J108, B108, G108⟩ := u
  dsimp only at Y S s108 p108
  obtain ⟨x108, g108_MF⟩ := p108
  obtain ⟨z109, e109, l109, u109⟩ := x108
  refine lv_aload_n X.1 X.2.1 d_M_apReq_42 rfl (lv_at hl 0 rfl) ?_
  refine lv_iconst (v := iI 1) X.1 X.2.1 d_M_apReq_43 (by decide) ?_
  refine lv_ldc2 (v := (14)) X.1 X.2.1 X.2.2.2.1 (X.2.2.1 _ cl_M_799) d_M_apReq_44 ?_
  refine r_nv (m_run (As := [.int (iI 1), .long ((14))]) (rest := []) (n := 2) X Y hZ hA hml hl.1 (r_M_numberField l D E h q H.size I108 J108 B108 G108 1 (by omega) (by omega) ((14)) S.1 z109 e109 (by omega) (by omega)) kl_M_numberField ks_M_numberField kx_M_numberField ki_M_numberField ini_M hd_M_numberField ⟨Nat.le_of_ble_eq_true rfl, Nat.le_of_ble_eq_true rfl⟩ rfl (Nat.le_of_ble_eq_true rfl) d_M_apReq_47 ⟨Nat.le_refl _, Nat.le_refl _⟩) X Y hA S (by decide) (by decide) (fun u H locs Y S s110 p110 => ?_)
  obtain ⟨I110, J110, B110, G110⟩ := u
  dsimp only at Y S s110 p110
  obtain ⟨x110, g110_MF⟩ := p110
  obtain ⟨z111, e111, l111, u111⟩ := x110
  refine lv_aload_n X.1 X.2.1 d_M_apReq_50 rfl (lv_at hl 0 rfl) ?_
  refine lv_iconst (v := iI 0) X.1 X.2.1 d_M_apReq_51 (by decide) ?_
  refine lv_ldc2 (v := (5)) X.1 X.2.1 X.2.2.2.1 (X.2.2.1 _ cl_M_669) d_M_apReq_52 ?_
  refine r_nv (m_run (As := [.int (iI 0), .long ((5))]) (rest := []) (n := 2) X Y hZ hA hml hl.1 (r_M_numberField l D E h q H.size I110 J110 B110 G110 0 (by omega) (by omega) ((5)) S.1 z111 e111 (by omega) (by omega)) kl_M_numberField ks_M_numberField kx_M_numberField ki_M_numberField ini_M hd_M_numberField ⟨Nat.le_of_ble_eq_true rfl, Nat.le_of_ble_eq_true rfl⟩ rfl (Nat.le_of_ble_eq_true rfl) d_M_apReq_55 ⟨Nat.le_refl _, Nat.le_refl _⟩) X Y hA S (by decide) (by decide) (fun u H locs Y S s112 p112 => ?_)
  obtain ⟨I112, J112, B112, G112⟩ := u
  dsimp only at Y S s112 p112
  obtain ⟨x112, g112_MF⟩ := p112
  obtain ⟨z113, e113, l113, u113⟩ := x112
  refine lv_aload_n X.1 X.2.1 d_M_apReq_58 rfl (lv_at hl 0 rfl) ?_
  refine lv_bipush (v := iI 48) X.1 X.2.1 d_M_apReq_59 (by decide) ?_
  refine lv_ldc (v := (60000)) X.1 X.2.1 X.2.2.2.1 (X.2.2.1 _ cn_M_9) d_M_apReq_61 ?_
  refine t_eq (y := iI 60000) (by decide) ?_
  refine r_nv (m_run (As := [.int (iI 48), .int (iI 60000)]) (rest := []) (n := 2) X Y hZ hA hml hl.1 (r_M_head l D E h q H.size I112 J112 B112 G112 48 (by omega) (by omega) 60000 (by omega) (by omega) S.1 z113 e113 (by omega) (by omega)) kl_M_head ks_M_head kx_M_head ki_M_head ini_M hd_M_head ⟨Nat.le_of_ble_eq_true rfl, Nat.le_of_ble_eq_true rfl⟩ rfl (Nat.le_of_ble_eq_true rfl) d_M_apReq_63 ⟨Nat.le_refl _, Nat.le_refl _⟩) X Y hA S (by decide) (by decide) (fun u H locs Y S s114 p114 => ?_)
  obtain ⟨I114, J114, B114, G114⟩ := u
  dsimp only at Y S s114 p114
  obtain ⟨x114, g114_MF⟩ := p114
  obtain ⟨z115, e115, l115, u115⟩ := x114
  refine lv_aload_n X.1 X.2.1 d_M_apReq_66 rfl (lv_at hl 0 rfl) ?_
  refine lv_bipush (v := iI 110) X.1 X.2.1 d_M_apReq_67 (by decide) ?_
  refine lv_ldc (v := (60000)) X.1 X.2.1 X.2.2.2.1 (X.2.2.1 _ cn_M_9) d_M_apReq_69 ?_
  refine t_eq (y := iI 60000) (by decide) ?_
  refine r_nv (m_run (As := [.int (iI 110), .int (iI 60000)]) (rest := []) (n := 2) X Y hZ hA hml hl.1 (r_M_head l D E h q H.size I114 J114 B114 G114 110 (by omega) (by omega) 60000 (by omega) (by omega) S.1 z115 e115 (by omega) (by omega)) kl_M_head ks_M_head kx_M_head ki_M_head ini_M hd_M_head ⟨Nat.le_of_ble_eq_true rfl, Nat.le_of_ble_eq_true rfl⟩ rfl (Nat.le_of_ble_eq_true rfl) d_M_apReq_71 ⟨Nat.le_refl _, Nat.le_refl _⟩) X Y hA S (by decide) (by decide) (fun u H locs Y S s116 p116 => ?_)
  obtain ⟨I116, J116, B116, G116⟩ := u
  dsimp only at Y S s116 p116
  obtain ⟨x116, g116_MF⟩ := p116
  obtain ⟨z117, e117, l117, u117⟩ := x116
  exact m_retv hQQ X Y hr hlk ⟨S, ⟨z117, e117, by omega, by omega, by omega⟩⟩ d_M_apReq_74
set_option maxHeartbeats 4000000 in
set_option maxRecDepth 100000 in
theorem r_M_newKey_fresh (l : Launch) (D : mD) (E : mE) (h : Nat) (q : Nat → Nat) (sz : Nat) (I : Nat → Int32) (J : Nat → Int64) (B : Nat → Nat → Int32) (G : Nat → Nat → Int64) (a1 : Int) (l_a1 : (-2147483648) ≤ a1) (u_a1 : a1 ≤ 2147483647) (hT : rT I B) (cn : Int) (gcn : I 33 = iI cn) (lcn : 0 ≤ cn) (ucn : cn ≤ 2000000) : Met l y_M_newKey (k_M_newKey :: lw_tg) (mR 6 178) (va_Pc [.ref h, .int (iI a1), .ref (q 60)] (mPre D E h q (I, J, B, G) sz)) (va_Qv (rPv [8, 33] [5, 6, 7, 9, 10, 11, 60] I B (fun (u : mS) => (∃ V2 : Int, u.1 33 = iI V2 ∧ cn ≤ V2 ∧ V2 ≤ cn + 32))) (mPost D E h q (mA E h q sz)) (mA E h q sz)) 0 0 (mA E h q sz) := by
  refine m_enter (by decide) rfl (Nat.le_of_ble_eq_true rfl) (fun p e s m below meth c ls AV QQ H locs hQQ X Y hZ hA hr hlk hml hl => ?_)
  have Y : mH D E (mA E h q sz) s.heap h q I J B G H locs := Y
  have S : rS [8, 33] [5, 6, 7, 9, 10, 11, 60] I B I B := rS_rf hT
  have hl : lv_has ls 4 [(0, .ref h), (1, .int (iI a1)), (2, .ref ((q 60)))] := hl
  refine lv_iconst (v := iI 0) X.1 X.2.1 d_M_newKey_0 (by decide) ?_
  have J105 : ∀ (n107 : Nat) (z102 : Int) (z103 : Int) (I101 : Nat → Int32) (J101 : Nat → Int64) (B101 : Nat → Nat → Int32) (G101 : Nat → Nat → Int64) (H : Heap) (locs : List Loc) (ls : Array Slot), (32 - z102).toNat = n107 → (0 ≤ z102) → (z102 ≤ 32) → (I101 33 = iI z103) → (0 ≤ z103) → (z103 ≤ 2000100) → (z103 = cn + (z102 - 0)) → mH D E (mA E h q sz) s.heap h q I101 J101 B101 G101 H locs → rS [8, 33] [5, 6, 7, 9, 10, 11, 60] I B I101 B101 → lv_has ls 4 [(0, .ref h), (1, .int (iI a1)), (2, .ref ((q 60))), (3, .int (iI z102))] → W p l e (mR 6 178) s m AV below meth c H locs 0 0 QQ (F0 m 2 ls []) := by
    intro n107
    induction n107 using Nat.strongRecOn with
    | ind n107 ih106 =>
      intro z102 z103 I101 J101 B101 G101 H locs ls hm108 l102 u102 e103 l103 u103 i104 Y S hl
      refine lv_iload_n X.1 X.2.1 d_M_newKey_2 rfl (lv_at hl 3 rfl) ?_
      refine lv_iload_n X.1 X.2.1 d_M_newKey_3 rfl (lv_at hl 1 rfl) ?_
      refine p_calli (As := [.int (iI a1)]) (rest := [.int (iI z102)]) (n := 1) X Y hml hl.1 (r_M_size l a1 (by omega) (by omega)) kl_M_size ks_M_size ki_M_size ini_M hd_M_size ⟨Nat.le_of_ble_eq_true rfl, Nat.le_of_ble_eq_true rfl⟩ rfl (Nat.le_of_ble_eq_true rfl) d_M_newKey_4 ⟨Nat.le_refl _, Nat.le_refl _⟩ (fun r109 H locs p109 Y => ?_)
      obtain ⟨z109, e109, p109⟩ := p109
      subst e109
      obtain ⟨l109, u109, x109⟩ := p109
      refine z_icmp_ge (tgt := 24) X.1 X.2.1 d_M_newKey_7 (by decide) ⟨by omega, by omega⟩ ⟨by omega, by omega⟩ (fun h110 => ?_) (fun h110 => ?_)
      · exact m_retv hQQ X Y hr hlk ⟨S, ⟨z103, e103, by omega, by omega⟩⟩ d_M_newKey_24
      · refine lv_aload_n X.1 X.2.1 d_M_newKey_10 rfl (lv_at hl 2 rfl) ?_
        refine lv_iload_n X.1 X.2.1 d_M_newKey_11 rfl (lv_at hl 3 rfl) ?_
        refine lv_aload_n X.1 X.2.1 d_M_newKey_12 rfl (lv_at hl 0 rfl) ?_
        refine r_ni (m_run (As := []) (rest := [.int (iI z102), .ref ((q 60))]) (n := 0) X Y hZ hA hml hl.1 (r_M_coin l D E h q H.size I101 J101 B101 G101 S.1 z103 e103 (by omega) (by omega)) kl_M_coin ks_M_coin kx_M_coin ki_M_coin ini_M hd_M_coin ⟨Nat.le_of_ble_eq_true rfl, Nat.le_of_ble_eq_true rfl⟩ rfl (Nat.le_of_ble_eq_true rfl) d_M_newKey_13 ⟨Nat.le_refl _, Nat.le_refl _⟩) X Y hA S (by decide) (by decide) (fun z111 u H locs Y S s111 p111 => ?_)
        obtain ⟨I111, J111, B111, G111⟩ := u
        dsimp only at Y S s111 p111
        obtain ⟨l111, u111, x111⟩ := p111
        refine lv_i2b X.1 X.2.1 d_M_newKey_16 rfl ?_
        refine t_u (fun z112 l112 u112 => ?_)
        refine r_bast X Y S (aw_fresh _ _ _ _ _ _ _) (sw_fresh _ _ _ _ _ _ _) rfl (by omega) (show z102 < ((32 : Nat) : Int) by omega) (by omega) (by decide) d_M_newKey_17 (fun B113 H locs Y S w113 => ?_)
        refine lv_iinc (v := iI (z102 + 1)) (lv' := [(3, .int (iI (z102 + 1))), (0, .ref h), (1, .int (iI a1)), (2, .ref ((q 60)))]) X.1 X.2.1 d_M_newKey_18 hl (k := 3) rfl ((iI_add _ _).trans (congrArg iI (by omega))) (by decide) rfl (fun ls hl => ?_)
        refine lv_goto (tgt := 2) X.1 X.2.1 d_M_newKey_21 (by decide) ?_
        exact ih106 ((32 - (z102 + 1)).toNat) (by omega) (z102 + 1) (z103 + 1) I111 J111 B113 G111 _ _ _ rfl (by omega) (by omega) (x111.trans (congrArg iI (show (z103 + 1 : Int) = z103 + 1 by omega))) (by omega) (by omega) (by omega) Y S (lv_sub hl [1, 2, 3, 0] rfl)
  refine lv_istore_n (lv' := [(3, .int (iI 0)), (0, .ref h), (1, .int (iI a1)), (2, .ref ((q 60)))]) X.1 X.2.1 d_M_newKey_1 rfl hl (by decide) rfl (fun ls hl => ?_)
  exact J105 _ 0 cn I J B G _ _ _ rfl (by omega) (by omega) gcn (by omega) (by omega) (by omega) Y S (lv_sub hl [1, 2, 3, 0] rfl)
set_option maxHeartbeats 4000000 in
set_option maxRecDepth 100000 in
theorem r_M_present (l : Launch) (D : mD) (E : mE) (h : Nat) (q : Nat → Nat) (sz : Nat) (I : Nat → Int32) (J : Nat → Int64) (B : Nat → Nat → Int32) (G : Nat → Nat → Int64) (a1 : Int) (l_a1 : (-2147483648) ≤ a1) (u_a1 : a1 ≤ 2147483647) (a2 : Int) (l_a2 : (-2147483648) ≤ a2) (u_a2 : a2 ≤ 2147483647) (a3 : Int) (l_a3 : (-2147483648) ≤ a3) (u_a3 : a3 ≤ 2147483647) (hT : rT I B) (cn : Int) (gcn : I 33 = iI cn) (lcn : 0 ≤ cn) (ucn : cn ≤ 1900000) : Met l y_M_present (k_M_present :: lw_tg) (mR 8 236) (va_Pc [.ref h, .int (iI a1), .int (iI a2), .int (iI a3)] (mPre D E h q (I, J, B, G) sz)) (va_Qi (rPi [3, 8, 14, 18, 33, 36, 42, 131] [0, 1, 5, 6, 7, 9, 10, 11, 12, 13, 15, 16, 17, 19, 20, 21, 22, 23, 34, 35, 58, 60, 95, 121, 122, 123, 124, 125, 126, 127] I B (fun (z : Int) (u : mS) => (-2147483648) ≤ z ∧ z ≤ 2147483647 ∧ (∃ V2 : Int, u.1 33 = iI V2 ∧ cn ≤ V2 ∧ V2 ≤ cn + 1000))) (mPost D E h q (mA E h q sz)) (mA E h q sz)) 0 0 (mA E h q sz) := by
  refine m_enter (by decide) rfl (Nat.le_of_ble_eq_true rfl) (fun p e s m below meth c ls AV QQ H locs hQQ X Y hZ hA hr hlk hml hl => ?_)
  have Y : mH D E (mA E h q sz) s.heap h q I J B G H locs := Y
  have S : rS [3, 8, 14, 18, 33, 36, 42, 131] [0, 1, 5, 6, 7, 9, 10, 11, 12, 13, 15, 16, 17, 19, 20, 21, 22, 23, 34, 35, 58, 60, 95, 121, 122, 123, 124, 125, 126, 127] I B I B := rS_rf hT
  have hl : lv_has ls 9 [(0, .ref h), (1, .int (iI a1)), (2, .int (iI a2)), (3, .int (iI a3))] := hl
  refine lv_aload_n X.1 X.2.1 d_M_present_0 rfl (lv_at hl 0 rfl) ?_
  refine lv_iload_n X.1 X.2.1 d_M_present_1 rfl (lv_at hl 1 rfl) ?_
  refine lv_iload_n X.1 X.2.1 d_M_present_2 rfl (lv_at hl 2 rfl) ?_
  refine r_ni (m_run (As := [.int (iI a1), .int (iI a2)]) (rest := []) (n := 2) X Y hZ hA hml hl.1 (r_M_hasTicket l D E h q H.size I J B G a1 (by omega) (by omega) a2 (by omega) (by omega) S.1) kl_M_hasTicket ks_M_hasTicket kx_M_hasTicket ki_M_hasTicket ini_M hd_M_hasTicket ⟨Nat.le_of_ble_eq_true rfl, Nat.le_of_ble_eq_true rfl⟩ rfl (Nat.le_of_ble_eq_true rfl) d_M_present_3 ⟨Nat.le_refl _, Nat.le_refl _⟩) X Y hA S (by decide) (by decide) (fun z101 u H locs Y S s101 p101 => ?_)
  obtain ⟨I101, J101, B101, G101⟩ := u
  dsimp only at Y S s101 p101
  obtain ⟨l101, u101, x101, st101⟩ := p101
  refine z_if_eq (tgt := 18) X.1 X.2.1 d_M_present_6 (by decide) ⟨by omega, by omega⟩ (fun h102 => ?_) (fun h102 => ?_)
  · refine lv_iconst (v := iI (-1)) X.1 X.2.1 d_M_present_18 (by decide) ?_
    exact m_reti hQQ X Y hr hlk ⟨S, (-1), rfl, ⟨by omega, by omega, ⟨cn, ((s101.2.1 33 (by decide)).trans gcn), by omega, by omega⟩⟩⟩ d_M_present_19
  · refine lv_iload_n X.1 X.2.1 d_M_present_9 rfl (lv_at hl 3 rfl) ?_
    refine z_if_lt (tgt := 18) X.1 X.2.1 d_M_present_10 (by decide) ⟨by omega, by omega⟩ (fun h103 => ?_) (fun h103 => ?_)
    · refine lv_iconst (v := iI (-1)) X.1 X.2.1 d_M_present_18 (by decide) ?_
      exact m_reti hQQ X Y hr hlk ⟨S, (-1), rfl, ⟨by omega, by omega, ⟨cn, ((s101.2.1 33 (by decide)).trans gcn), by omega, by omega⟩⟩⟩ d_M_present_19
    · refine lv_iload_n X.1 X.2.1 d_M_present_13 rfl (lv_at hl 3 rfl) ?_
      refine lv_iconst (v := iI 3) X.1 X.2.1 d_M_present_14 (by decide) ?_
      refine z_icmp_le (tgt := 20) X.1 X.2.1 d_M_present_15 (by decide) ⟨by omega, by omega⟩ ⟨by omega, by omega⟩ (fun h104 => ?_) (fun h104 => ?_)
      · refine lv_bipush (v := iI 8) X.1 X.2.1 d_M_present_20 (by decide) ?_
        refine lv_iload_n X.1 X.2.1 d_M_present_22 rfl (lv_at hl 1 rfl) ?_
        refine z_imul X.1 X.2.1 d_M_present_23 ?_
        refine lv_iload_n X.1 X.2.1 d_M_present_24 rfl (lv_at hl 2 rfl) ?_
        refine z_iadd X.1 X.2.1 d_M_present_25 ?_
        refine lv_istore (lv' := [(4, .int (iI ((8 * a1) + a2))), (0, .ref h), (1, .int (iI a1)), (2, .int (iI a2)), (3, .int (iI a3))]) X.1 X.2.1 d_M_present_26 hl (by decide) rfl (fun ls hl => ?_)
        refine lv_aload_n X.1 X.2.1 d_M_present_28 rfl (lv_at hl 1 rfl) ?_
        refine lv_iload_n X.1 X.2.1 d_M_present_29 rfl (lv_at hl 2 rfl) ?_
        refine r_nl (m_run (As := [.int (iI a1)]) (rest := []) (n := 1) X Y hZ hA hml hl.1 (r_M_clockOf l D E h q H.size I101 J101 B101 G101 a1 (by omega) (by omega) S.1) kl_M_clockOf ks_M_clockOf kx_M_clockOf ki_M_clockOf ini_M hd_M_clockOf ⟨Nat.le_of_ble_eq_true rfl, Nat.le_of_ble_eq_true rfl⟩ rfl (Nat.le_of_ble_eq_true rfl) d_M_present_30 ⟨Nat.le_refl _, Nat.le_refl _⟩) X Y hA S (by decide) (by decide) (fun v105 u H locs Y S s105 p105 => ?_)
        obtain ⟨I105, J105, B105, G105⟩ := u
        dsimp only at Y S s105 p105
        refine lv_lstore (lv' := [(5, .long v105), (4, .int (iI ((8 * a1) + a2))), (0, .ref h), (1, .int (iI a1)), (2, .int (iI a2)), (3, .int (iI a3))]) X.1 X.2.1 d_M_present_33 hl (by decide) rfl (fun ls hl => ?_)
        refine lv_iload_n X.1 X.2.1 d_M_present_35 rfl (lv_at hl 5 rfl) ?_
        refine lv_iconst (v := iI 2) X.1 X.2.1 d_M_present_36 (by decide) ?_
        refine z_iand X.1 X.2.1 (by omega) (by omega) d_M_present_37 (fun z106 l106 u106 => ?_)
        refine lv_iconst (v := iI 2) X.1 X.2.1 d_M_present_38 (by decide) ?_
        refine z_icmp_ne (tgt := 46) X.1 X.2.1 d_M_present_39 (by decide) ⟨by omega, by omega⟩ ⟨by omega, by omega⟩ (fun h107 => ?_) (fun h107 => ?_)
        · refine lv_iconst (v := iI 0) X.1 X.2.1 d_M_present_46 (by decide) ?_
          refine lv_istore (lv' := [(7, .int (iI 0)), (5, .long v105), (4, .int (iI ((8 * a1) + a2))), (0, .ref h), (1, .int (iI a1)), (2, .int (iI a2)), (3, .int (iI a3))]) X.1 X.2.1 d_M_present_47 hl (by decide) rfl (fun ls hl => ?_)
          refine lv_aload_n X.1 X.2.1 d_M_present_49 rfl (lv_at hl 3 rfl) ?_
          refine m_get X Y 123 (by decide) lk_apSubType (gf_apSubType _ _ _) rfl d_M_present_50 ?_
          refine lv_iload_n X.1 X.2.1 d_M_present_53 rfl (lv_at hl 4 rfl) ?_
          refine lv_iconst (v := iI 0) X.1 X.2.1 d_M_present_54 (by decide) ?_
          refine r_iast X Y S (aw_apSubType _ _ _ _ _ _ _) (sw_apSubType _ _ _ _ _ _ _) rfl ⟨(show ((-2147483648) : Int) ≤ 0 by omega), (show 0 ≤ (2147483647 : Int) by omega)⟩ ⟨by omega, by omega⟩ (by omega) (show a1 < ((4 : Nat) : Int) by omega) (by omega) (by decide) d_M_present_55 (fun B108 H locs Y S w108 => ?_)
          refine lv_iload X.1 X.2.1 d_M_present_56 (lv_at hl 0 rfl) ?_
          have J110 : ∀  (H : Heap) (locs : List Loc) (ls : Array Slot), (cn ≤ cn ∧ cn ≤ cn + 32) → mH D E (mA E h q sz) s.heap h q I105 J105 B108 G105 H locs → rS [3, 8, 14, 18, 33, 36, 42, 131] [0, 1, 5, 6, 7, 9, 10, 11, 12, 13, 15, 16, 17, 19, 20, 21, 22, 23, 34, 35, 58, 60, 95, 121, 122, 123, 124, 125, 126, 127] I B I105 B108 → lv_has ls 9 [(0, .ref h), (1, .int (iI a1)), (3, .int (iI a3)), (4, .int (iI ((8 * a1) + a2))), (5, .long v105), (7, .int (iI 0))] → W p l e (mR 8 236) s m AV below meth c H locs 0 0 QQ (F0 m 124 ls []) := by
            intro  H locs ls i109 Y S hl
            refine lv_aload_n X.1 X.2.1 d_M_present_124 rfl (lv_at hl 0 rfl) ?_
            refine m_get X Y 129 (by decide) lk_apNumber (gf_apNumber _ _ _) rfl d_M_present_125 ?_
            refine lv_iload_n X.1 X.2.1 d_M_present_128 rfl (lv_at hl 1 rfl) ?_
            refine lv_aload_n X.1 X.2.1 d_M_present_129 rfl (lv_at hl 0 rfl) ?_
            refine r_ni (m_run (As := []) (rest := [.int (iI a1), .ref ((q 129))]) (n := 0) X Y hZ hA hml hl.1 (r_M_fourCoins l D E h q H.size I105 J105 B108 G105 S.1 cn ((s105.2.1 33 (by decide)).trans ((s101.2.1 33 (by decide)).trans gcn)) (by omega) (by omega)) kl_M_fourCoins ks_M_fourCoins kx_M_fourCoins ki_M_fourCoins ini_M hd_M_fourCoins ⟨Nat.le_of_ble_eq_true rfl, Nat.le_of_ble_eq_true rfl⟩ rfl (Nat.le_of_ble_eq_true rfl) d_M_present_130 ⟨Nat.le_refl _, Nat.le_refl _⟩) X Y hA S (by decide) (by decide) (fun z114 u H locs Y S s114 p114 => ?_)
            obtain ⟨I114, J114, B114, G114⟩ := u
            dsimp only at Y S s114 p114
            obtain ⟨l114, u114, x114⟩ := p114
            refine lv_ldcw (v := (1073741823)) X.1 X.2.1 X.2.2.2.1 (X.2.2.1 _ cn_M_974) d_M_present_133 ?_
            refine t_eq (y := iI 1073741823) (by decide) ?_
            refine z_iand X.1 X.2.1 (by omega) (by omega) d_M_present_136 (fun z115 l115 u115 => ?_)
            refine lv_i2l X.1 X.2.1 d_M_present_137 rfl ?_
            refine t_anyl (fun v116 => ?_)
            refine r_last X Y (aw_apNumber _ _ _ _ _ _ _) (sw_apNumber _ _ _ _ _ _ _) (by omega) (show a1 < ((4 : Nat) : Int) by omega) (by omega) d_M_present_138 (fun G117 H locs Y => ?_)
            refine lv_aload_n X.1 X.2.1 d_M_present_139 rfl (lv_at hl 0 rfl) ?_
            refine m_get X Y 122 (by decide) lk_apType (gf_apType _ _ _) rfl d_M_present_140 ?_
            refine lv_iload_n X.1 X.2.1 d_M_present_143 rfl (lv_at hl 1 rfl) ?_
            refine lv_aload_n X.1 X.2.1 d_M_present_144 rfl (lv_at hl 0 rfl) ?_
            refine m_get X Y 102 (by decide) lk_ticketTypes (gf_ticketTypes _ _ _) rfl d_M_present_145 ?_
            refine lv_iload X.1 X.2.1 d_M_present_148 (lv_at hl 3 rfl) ?_
            refine r_iald X Y S (aw_ticketTypes _ _ _ _ _ _ _) rfl (by omega) (show (8 * a1) + a2 < ((32 : Nat) : Int) by omega) (by omega) d_M_present_150 (fun z118 q118 l118 u118 => ?_)
            refine r_iast X Y S (aw_apType _ _ _ _ _ _ _) (sw_apType _ _ _ _ _ _ _) rfl ⟨(show (0 : Int) ≤ z118 by omega), (show z118 ≤ (18 : Int) by omega)⟩ ⟨by omega, by omega⟩ (by omega) (show a1 < ((4 : Nat) : Int) by omega) (by omega) (by decide) d_M_present_151 (fun B119 H locs Y S w119 => ?_)
            refine lv_iconst (v := iI 0) X.1 X.2.1 d_M_present_152 (by decide) ?_
            have J123 : ∀ (n125 : Nat) (z121 : Int) (I120 : Nat → Int32) (J120 : Nat → Int64) (B120 : Nat → Nat → Int32) (G120 : Nat → Nat → Int64) (H : Heap) (locs : List Loc) (ls : Array Slot), (32 - z121).toNat = n125 → (0 ≤ z121) → (z121 ≤ 32) → (I120 33 = iI (cn + 4)) → mH D E (mA E h q sz) s.heap h q I120 J120 B120 G120 H locs → rS [3, 8, 14, 18, 33, 36, 42, 131] [0, 1, 5, 6, 7, 9, 10, 11, 12, 13, 15, 16, 17, 19, 20, 21, 22, 23, 34, 35, 58, 60, 95, 121, 122, 123, 124, 125, 126, 127] I B I120 B120 → lv_has ls 9 [(0, .ref h), (1, .int (iI a1)), (3, .int (iI a3)), (4, .int (iI ((8 * a1) + a2))), (5, .long v105), (7, .int (iI 0)), (8, .int (iI z121))] → W p l e (mR 8 236) s m AV below meth c H locs 0 0 QQ (F0 m 155 ls []) := by
              intro n125
              induction n125 using Nat.strongRecOn with
              | ind n125 ih124 =>
                intro z121 I120 J120 B120 G120 H locs ls hm126 l121 u121 e122 Y S hl
                refine lv_iload X.1 X.2.1 d_M_present_155 (lv_at hl 6 rfl) ?_
                refine lv_bipush (v := iI 32) X.1 X.2.1 d_M_present_157 (by decide) ?_
                refine z_icmp_ge (tgt := 207) X.1 X.2.1 d_M_present_159 (by decide) ⟨by omega, by omega⟩ ⟨by omega, by omega⟩ (fun h127 => ?_) (fun h127 => ?_)
                · refine lv_aload_n X.1 X.2.1 d_M_present_207 rfl (lv_at hl 0 rfl) ?_
                  refine m_get X Y 128 (by decide) lk_apTime (gf_apTime _ _ _) rfl d_M_present_208 ?_
                  refine lv_iload_n X.1 X.2.1 d_M_present_211 rfl (lv_at hl 1 rfl) ?_
                  refine lv_lload X.1 X.2.1 d_M_present_212 (lv_at hl 4 rfl) ?_
                  refine r_last X Y (aw_apTime _ _ _ _ _ _ _) (sw_apTime _ _ _ _ _ _ _) (by omega) (show a1 < ((4 : Nat) : Int) by omega) (by omega) d_M_present_214 (fun G128 H locs Y => ?_)
                  refine lv_aload_n X.1 X.2.1 d_M_present_215 rfl (lv_at hl 0 rfl) ?_
                  refine m_get X Y 124 (by decide) lk_apMicros (gf_apMicros _ _ _) rfl d_M_present_216 ?_
                  refine lv_iload_n X.1 X.2.1 d_M_present_219 rfl (lv_at hl 1 rfl) ?_
                  refine lv_aload_n X.1 X.2.1 d_M_present_220 rfl (lv_at hl 0 rfl) ?_
                  refine m_get X Y 95 (by decide) lk_micros (gf_micros _ _ _) rfl d_M_present_221 ?_
                  refine lv_iload_n X.1 X.2.1 d_M_present_224 rfl (lv_at hl 1 rfl) ?_
                  refine r_iald X Y S (aw_micros _ _ _ _ _ _ _) rfl (by omega) (show a1 < ((4 : Nat) : Int) by omega) (by omega) d_M_present_225 (fun z129 q129 l129 u129 => ?_)
                  refine lv_ldcw (v := (1000000)) X.1 X.2.1 X.2.2.2.1 (X.2.2.1 _ cn_M_644) d_M_present_226 ?_
                  refine t_eq (y := iI 1000000) (by decide) ?_
                  refine z_iremg X.1 X.2.1 ⟨by omega, by omega⟩ ⟨by decide, by decide⟩ d_M_present_229 (fun z130 l130 u130 x130 => ?_)
                  refine r_iast X Y S (aw_apMicros _ _ _ _ _ _ _) (sw_apMicros _ _ _ _ _ _ _) rfl ⟨(show ((-2147483648) : Int) ≤ z130 by omega), (show z130 ≤ (2147483647 : Int) by omega)⟩ ⟨by omega, by omega⟩ (by omega) (show a1 < ((4 : Nat) : Int) by omega) (by omega) (by decide) d_M_present_230 (fun B131 H locs Y S w131 => ?_)
                  refine lv_aload_n X.1 X.2.1 d_M_present_231 rfl (lv_at hl 0 rfl) ?_
                  refine m_get X Y 130 (by decide) lk_apOther (gf_apOther _ _ _) rfl d_M_present_232 ?_
                  refine lv_iload_n X.1 X.2.1 d_M_present_235 rfl (lv_at hl 1 rfl) ?_
                  refine lv_lconst (v := 0) X.1 X.2.1 d_M_present_236 rfl ?_
                  refine r_last X Y (aw_apOther _ _ _ _ _ _ _) (sw_apOther _ _ _ _ _ _ _) (by omega) (show a1 < ((4 : Nat) : Int) by omega) (by omega) d_M_present_237 (fun G132 H locs Y => ?_)
                  refine lv_aload_n X.1 X.2.1 d_M_present_238 rfl (lv_at hl 0 rfl) ?_
                  refine m_get X Y 121 (by decide) lk_wantsMet (gf_wantsMet _ _ _) rfl d_M_present_239 ?_
                  refine lv_iload_n X.1 X.2.1 d_M_present_242 rfl (lv_at hl 1 rfl) ?_
                  refine lv_iload_n X.1 X.2.1 d_M_present_243 rfl (lv_at hl 2 rfl) ?_
                  refine lv_iconst (v := iI 1) X.1 X.2.1 d_M_present_244 (by decide) ?_
                  refine z_iand X.1 X.2.1 (by omega) (by omega) d_M_present_245 (fun z133 l133 u133 => ?_)
                  refine lv_iconst (v := iI 1) X.1 X.2.1 d_M_present_246 (by decide) ?_
                  have J135 : ∀ (z134 : Int) (H : Heap) (locs : List Loc) (ls : Array Slot), (0 ≤ z134) → (z134 ≤ 1) → mH D E (mA E h q sz) s.heap h q I120 J120 B131 G132 H locs → rS [3, 8, 14, 18, 33, 36, 42, 131] [0, 1, 5, 6, 7, 9, 10, 11, 12, 13, 15, 16, 17, 19, 20, 21, 22, 23, 34, 35, 58, 60, 95, 121, 122, 123, 124, 125, 126, 127] I B I120 B131 → lv_has ls 9 [(0, .ref h), (1, .int (iI a1)), (3, .int (iI a3)), (4, .int (iI ((8 * a1) + a2))), (5, .long v105), (7, .int (iI 0))] → W p l e (mR 8 236) s m AV below meth c H locs 0 0 QQ (F0 m 255 ls [.int (iI z134), .int (iI a1), .ref ((q 121))]) := by
                    intro z134 H locs ls l134 u134 Y S hl
                    refine r_zast X Y S (aw_wantsMet _ _ _ _ _ _ _) (sw_wantsMet _ _ _ _ _ _ _) rfl ⟨by omega, by omega⟩ (by omega) (show a1 < ((4 : Nat) : Int) by omega) (by omega) (by decide) d_M_present_255 (fun B139 H locs Y S w139 => ?_)
                    refine lv_aload_n X.1 X.2.1 d_M_present_256 rfl (lv_at hl 0 rfl) ?_
                    refine lv_dup X.1 X.2.1 d_M_present_257 rfl ?_
                    refine r_geti (k := 131) X Y S (by decide) lk_serial (gf_serial _ _ _) rfl rfl d_M_present_258 (fun z140 e140 l140 u140 => ?_)
                    refine lv_iconst (v := iI 1) X.1 X.2.1 d_M_present_261 (by decide) ?_
                    refine lv_iadd X.1 X.2.1 d_M_present_262 ?_
                    refine t_u (fun z141 l141 u141 => ?_)
                    refine r_puti (k := 131) X Y S (by decide) lk_serial rfl rfl (t_M_ok 131 (by decide)) rfl rfl (sf_serial _ _ _ _) (Nat.le_of_ble_eq_true rfl) rfl (show ((-2147483648) : Int) ≤ z141 by omega) (show z141 ≤ (2147483647 : Int) by omega) ⟨by omega, by omega⟩ (by decide) d_M_present_263 (fun I142 H locs Y S w142 => ?_)
                    refine lv_aload_n X.1 X.2.1 d_M_present_266 rfl (lv_at hl 0 rfl) ?_
                    refine m_get X Y 125 (by decide) lk_apSerial (gf_apSerial _ _ _) rfl d_M_present_267 ?_
                    refine lv_iload_n X.1 X.2.1 d_M_present_270 rfl (lv_at hl 1 rfl) ?_
                    refine lv_aload_n X.1 X.2.1 d_M_present_271 rfl (lv_at hl 0 rfl) ?_
                    refine r_get0 X Y (by decide) lk_serial (gf_serial _ _ _) rfl w142.1 d_M_present_272 ?_
                    refine r_iast X Y S (aw_apSerial _ _ _ _ _ _ _) (sw_apSerial _ _ _ _ _ _ _) rfl ⟨(show ((-2147483648) : Int) ≤ z141 by omega), (show z141 ≤ (2147483647 : Int) by omega)⟩ ⟨by omega, by omega⟩ (by omega) (show a1 < ((4 : Nat) : Int) by omega) (by omega) (by decide) d_M_present_275 (fun B143 H locs Y S w143 => ?_)
                    refine lv_aload_n X.1 X.2.1 d_M_present_276 rfl (lv_at hl 0 rfl) ?_
                    refine r_nv (m_run (As := []) (rest := []) (n := 0) X Y hZ hA hml hl.1 (r_M_start l D E h q H.size I142 J120 B143 G132 S.1) kl_M_start ks_M_start kx_M_start ki_M_start ini_M hd_M_start ⟨Nat.le_of_ble_eq_true rfl, Nat.le_of_ble_eq_true rfl⟩ rfl (Nat.le_of_ble_eq_true rfl) d_M_present_277 ⟨Nat.le_refl _, Nat.le_refl _⟩) X Y hA S (by decide) (by decide) (fun u H locs Y S s144 p144 => ?_)
                    obtain ⟨I144, J144, B144, G144⟩ := u
                    dsimp only at Y S s144 p144
                    have x144 := p144
                    refine lv_aload_n X.1 X.2.1 d_M_present_280 rfl (lv_at hl 0 rfl) ?_
                    refine lv_bipush (v := iI 7) X.1 X.2.1 d_M_present_281 (by decide) ?_
                    refine lv_aload_n X.1 X.2.1 d_M_present_283 rfl (lv_at hl 0 rfl) ?_
                    refine m_get X Y 129 (by decide) lk_apNumber (gf_apNumber _ _ _) rfl d_M_present_284 ?_
                    refine lv_iload_n X.1 X.2.1 d_M_present_287 rfl (lv_at hl 1 rfl) ?_
                    refine r_lald X Y (aw_apNumber _ _ _ _ _ _ _) (by omega) (show a1 < ((4 : Nat) : Int) by omega) (by omega) d_M_present_288 (fun v145 => ?_)
                    refine r_nv (m_run (As := [.int (iI 7), .long v145]) (rest := []) (n := 2) X Y hZ hA hml hl.1 (r_M_numberField l D E h q H.size I144 J144 B144 G144 7 (by omega) (by omega) v145 S.1 60000 (x144.trans (congrArg iI (show (60000 : Int) = 60000 by omega))) (by omega) (by omega)) kl_M_numberField ks_M_numberField kx_M_numberField ki_M_numberField ini_M hd_M_numberField ⟨Nat.le_of_ble_eq_true rfl, Nat.le_of_ble_eq_true rfl⟩ rfl (Nat.le_of_ble_eq_true rfl) d_M_present_289 ⟨Nat.le_refl _, Nat.le_refl _⟩) X Y hA S (by decide) (by decide) (fun u H locs Y S s146 p146 => ?_)
                    obtain ⟨I146, J146, B146, G146⟩ := u
                    dsimp only at Y S s146 p146
                    obtain ⟨x146, g146_MF⟩ := p146
                    obtain ⟨z147, e147, l147, u147⟩ := x146
                    refine lv_iload X.1 X.2.1 d_M_present_292 (lv_at hl 5 rfl) ?_
                    have J149 : ∀  (H : Heap) (locs : List Loc) (ls : Array Slot), (59800 ≤ z147) → mH D E (mA E h q sz) s.heap h q I146 J146 B146 G146 H locs → rS [3, 8, 14, 18, 33, 36, 42, 131] [0, 1, 5, 6, 7, 9, 10, 11, 12, 13, 15, 16, 17, 19, 20, 21, 22, 23, 34, 35, 58, 60, 95, 121, 122, 123, 124, 125, 126, 127] I B I146 B146 → lv_has ls 9 [(0, .ref h), (1, .int (iI a1)), (3, .int (iI a3)), (4, .int (iI ((8 * a1) + a2))), (5, .long v105)] → W p l e (mR 8 236) s m AV below meth c H locs 0 0 QQ (F0 m 314 ls []) := by
                      intro  H locs ls i148 Y S hl
                      refine lv_aload_n X.1 X.2.1 d_M_present_314 rfl (lv_at hl 0 rfl) ?_
                      refine lv_iload_n X.1 X.2.1 d_M_present_315 rfl (lv_at hl 1 rfl) ?_
                      refine lv_iload X.1 X.2.1 d_M_present_316 (lv_at hl 3 rfl) ?_
                      refine lv_lload X.1 X.2.1 d_M_present_318 (lv_at hl 4 rfl) ?_
                      refine lv_iconst (v := iI 0) X.1 X.2.1 d_M_present_320 (by decide) ?_
                      refine r_nv (m_run (As := [.int (iI a1), .int (iI ((8 * a1) + a2)), .long v105, .int (iI 0)]) (rest := []) (n := 4) X Y hZ hA hml hl.1 (r_M_authenticator l D E h q H.size I146 J146 B146 G146 a1 (by omega) (by omega) ((8 * a1) + a2) (by omega) (by omega) v105 0 (by omega) (by omega) S.1 z147 e147 (by omega) (by omega)) kl_M_authenticator ks_M_authenticator kx_M_authenticator ki_M_authenticator ini_M hd_M_authenticator ⟨Nat.le_of_ble_eq_true rfl, Nat.le_of_ble_eq_true rfl⟩ rfl (Nat.le_of_ble_eq_true rfl) d_M_present_321 ⟨Nat.le_refl _, Nat.le_refl _⟩) X Y hA S (by decide) (by decide) (fun u H locs Y S s153 p153 => ?_)
                      obtain ⟨I153, J153, B153, G153⟩ := u
                      dsimp only at Y S s153 p153
                      obtain ⟨x153, g153_MF⟩ := p153
                      obtain ⟨z154, e154, l154, u154⟩ := x153
                      refine lv_aload_n X.1 X.2.1 d_M_present_324 rfl (lv_at hl 0 rfl) ?_
                      refine lv_aload_n X.1 X.2.1 d_M_present_325 rfl (lv_at hl 0 rfl) ?_
                      refine m_get X Y 58 (by decide) lk_key (gf_key _ _ _) rfl d_M_present_326 ?_
                      refine lv_aload_n X.1 X.2.1 d_M_present_329 rfl (lv_at hl 0 rfl) ?_
                      refine m_get X Y 102 (by decide) lk_ticketTypes (gf_ticketTypes _ _ _) rfl d_M_present_330 ?_
                      refine lv_iload X.1 X.2.1 d_M_present_333 (lv_at hl 3 rfl) ?_
                      refine r_iald X Y S (aw_ticketTypes _ _ _ _ _ _ _) rfl (by omega) (show (8 * a1) + a2 < ((32 : Nat) : Int) by omega) (by omega) d_M_present_335 (fun z155 q155 l155 u155 => ?_)
                      refine lv_bipush (v := iI 11) X.1 X.2.1 d_M_present_336 (by decide) ?_
                      refine lv_aload_n X.1 X.2.1 d_M_present_338 rfl (lv_at hl 0 rfl) ?_
                      refine r_get0 X Y (by decide) lk_w0 (gf_w0 _ _ _) rfl e154 d_M_present_339 ?_
                      refine lv_ldc (v := (60000)) X.1 X.2.1 X.2.2.2.1 (X.2.2.1 _ cn_M_9) d_M_present_342 ?_
                      refine t_eq (y := iI 60000) (by decide) ?_
                      refine r_nv (m_run (As := [.ref ((q 58)), .int (iI z155), .int (iI 11), .int (iI z154), .int (iI 60000)]) (rest := []) (n := 5) X Y hZ hA hml hl.1 (r_M_seal_key l D E h q H.size I153 J153 B153 G153 z155 (by omega) (by omega) 11 (by omega) (by omega) z154 (by omega) (by omega) 60000 (by omega) (by omega) S.1 (cn + 4) ((s153.2.1 33 (by decide)).trans ((s146.2.1 33 (by decide)).trans ((s144.2.1 33 (by decide)).trans ((w142.2 33 (by decide)).trans e122)))) (by omega) (by omega) (by omega) (by omega)) kl_M_seal ks_M_seal kx_M_seal ki_M_seal ini_M hd_M_seal ⟨Nat.le_of_ble_eq_true rfl, Nat.le_of_ble_eq_true rfl⟩ rfl (Nat.le_of_ble_eq_true rfl) d_M_present_344 ⟨Nat.le_refl _, Nat.le_refl _⟩) X Y hA S (by decide) (by decide) (fun u H locs Y S s156 p156 => ?_)
                      obtain ⟨I156, J156, B156, G156⟩ := u
                      dsimp only at Y S s156 p156
                      have x156 := p156
                      obtain ⟨x156_0, x156_1⟩ := x156
                      refine lv_aload_n X.1 X.2.1 d_M_present_347 rfl (lv_at hl 0 rfl) ?_
                      refine lv_iload X.1 X.2.1 d_M_present_348 (lv_at hl 3 rfl) ?_
                      refine lv_iload_n X.1 X.2.1 d_M_present_350 rfl (lv_at hl 2 rfl) ?_
                      refine lv_iconst (v := iI 1) X.1 X.2.1 d_M_present_351 (by decide) ?_
                      refine z_iand X.1 X.2.1 (by omega) (by omega) d_M_present_352 (fun z157 l157 u157 => ?_)
                      refine lv_iconst (v := iI 1) X.1 X.2.1 d_M_present_353 (by decide) ?_
                      have J159 : ∀ (z158 : Int) (H : Heap) (locs : List Loc) (ls : Array Slot), ((-2147483648) ≤ z158) → (z158 ≤ 2147483647) → mH D E (mA E h q sz) s.heap h q I156 J156 B156 G156 H locs → rS [3, 8, 14, 18, 33, 36, 42, 131] [0, 1, 5, 6, 7, 9, 10, 11, 12, 13, 15, 16, 17, 19, 20, 21, 22, 23, 34, 35, 58, 60, 95, 121, 122, 123, 124, 125, 126, 127] I B I156 B156 → lv_has ls 9 [(0, .ref h), (1, .int (iI a1))] → W p l e (mR 8 236) s m AV below meth c H locs 0 0 QQ (F0 m 365 ls [.int (iI z158), .int (iI ((8 * a1) + a2)), .ref h]) := by
                        intro z158 H locs ls l158 u158 Y S hl
                        refine r_nv (m_run (As := [.int (iI ((8 * a1) + a2)), .int (iI z158)]) (rest := []) (n := 2) X Y hZ hA hml hl.1 (r_M_apReq l D E h q H.size I156 J156 B156 G156 ((8 * a1) + a2) (by omega) (by omega) z158 (by omega) (by omega) S.1 (60000 - z154 + 28) (x156_0.trans (congrArg iI (show (60000 - z154 + 28 : Int) = 60000 - z154 + 28 by omega))) (by omega) (by omega)) kl_M_apReq ks_M_apReq kx_M_apReq ki_M_apReq ini_M hd_M_apReq ⟨Nat.le_of_ble_eq_true rfl, Nat.le_of_ble_eq_true rfl⟩ rfl (Nat.le_of_ble_eq_true rfl) d_M_present_365 ⟨Nat.le_refl _, Nat.le_refl _⟩) X Y hA S (by decide) (by decide) (fun u H locs Y S s163 p163 => ?_)
                        obtain ⟨I163, J163, B163, G163⟩ := u
                        dsimp only at Y S s163 p163
                        have x163 := p163
                        obtain ⟨z164, e164, x164, y164, y2164⟩ := x163
                        refine lv_aload_n X.1 X.2.1 d_M_present_368 rfl (lv_at hl 0 rfl) ?_
                        refine m_get X Y 95 (by decide) lk_micros (gf_micros _ _ _) rfl d_M_present_369 ?_
                        refine lv_iload_n X.1 X.2.1 d_M_present_372 rfl (lv_at hl 1 rfl) ?_
                        refine lv_dup2_11 X.1 X.2.1 d_M_present_373 rfl rfl ?_
                        refine r_iald X Y S (aw_micros _ _ _ _ _ _ _) rfl (by omega) (show a1 < ((4 : Nat) : Int) by omega) (by omega) d_M_present_374 (fun z165 q165 l165 u165 => ?_)
                        refine lv_iconst (v := iI 1) X.1 X.2.1 d_M_present_375 (by decide) ?_
                        refine lv_iadd X.1 X.2.1 d_M_present_376 ?_
                        refine t_u (fun z166 l166 u166 => ?_)
                        refine r_iast X Y S (aw_micros _ _ _ _ _ _ _) (sw_micros _ _ _ _ _ _ _) rfl ⟨(show ((-2147483648) : Int) ≤ z166 by omega), (show z166 ≤ (2147483647 : Int) by omega)⟩ ⟨by omega, by omega⟩ (by omega) (show a1 < ((4 : Nat) : Int) by omega) (by omega) (by decide) d_M_present_377 (fun B167 H locs Y S w167 => ?_)
                        refine lv_aload_n X.1 X.2.1 d_M_present_378 rfl (lv_at hl 0 rfl) ?_
                        refine r_nv (m_run (As := []) (rest := []) (n := 0) X Y hZ hA hml hl.1 (r_M_written l D E h q H.size I163 J163 B167 G163 S.1 z164 e164 (by omega) (by omega)) kl_M_written ks_M_written kx_M_written ki_M_written ini_M hd_M_written ⟨Nat.le_of_ble_eq_true rfl, Nat.le_of_ble_eq_true rfl⟩ rfl (Nat.le_of_ble_eq_true rfl) d_M_present_379 ⟨Nat.le_refl _, Nat.le_refl _⟩) X Y hA S (by decide) (by decide) (fun u H locs Y S s168 p168 => ?_)
                        obtain ⟨I168, J168, B168, G168⟩ := u
                        dsimp only at Y S s168 p168
                        have g168_MF := p168
                        refine lv_aload_n X.1 X.2.1 d_M_present_382 rfl (lv_at hl 0 rfl) ?_
                        refine r_geti (k := 3) X Y S (by decide) lk_outMany (gf_outMany _ _ _) rfl rfl d_M_present_383 (fun z169 e169 l169 u169 => ?_)
                        exact m_reti hQQ X Y hr hlk ⟨S, z169, rfl, ⟨by omega, by omega, ⟨cn + 20, ((s168.2.1 33 (by decide)).trans ((s163.2.1 33 (by decide)).trans (x156_1.trans (congrArg iI (show ((cn + 4) + 16 : Int) = cn + 20 by omega))))), by omega, by omega⟩⟩⟩ d_M_present_386
                      refine z_icmp_ne (tgt := 364) X.1 X.2.1 d_M_present_354 (by decide) ⟨by omega, by omega⟩ ⟨by omega, by omega⟩ (fun h170 => ?_) (fun h170 => ?_)
                      · refine lv_iconst (v := iI 0) X.1 X.2.1 d_M_present_364 (by decide) ?_
                        exact J159 0 _ _ _ (by omega) (by omega) Y S (lv_sub hl [0, 1] rfl)
                      · refine lv_iconst (v := iI 2) X.1 X.2.1 d_M_present_357 (by decide) ?_
                        refine p_calli (As := [.int (iI 2)]) (rest := [.int (iI ((8 * a1) + a2)), .ref h]) (n := 1) X Y hml hl.1 (r_M_bitOf l 2 (by omega) (by omega)) kl_M_bitOf ks_M_bitOf ki_M_bitOf ini_M hd_M_bitOf ⟨Nat.le_of_ble_eq_true rfl, Nat.le_of_ble_eq_true rfl⟩ rfl (Nat.le_of_ble_eq_true rfl) d_M_present_358 ⟨Nat.le_refl _, Nat.le_refl _⟩ (fun r171 H locs p171 Y => ?_)
                        obtain ⟨z171, e171, p171⟩ := p171
                        subst e171
                        obtain ⟨l171, u171⟩ := p171
                        refine lv_goto (tgt := 365) X.1 X.2.1 d_M_present_361 (by decide) ?_
                        exact J159 z171 _ _ _ (by omega) (by omega) Y S (lv_sub hl [0, 1] rfl)
                    refine z_if_eq (tgt := 314) X.1 X.2.1 d_M_present_294 (by decide) ⟨by omega, by omega⟩ (fun h172 => ?_) (fun h172 => False.elim (by omega))
                    · exact J149  _ _ _ (by omega) Y S (lv_sub hl [0, 1, 2, 3, 4] rfl)
                  refine z_icmp_ne (tgt := 254) X.1 X.2.1 d_M_present_247 (by decide) ⟨by omega, by omega⟩ ⟨by omega, by omega⟩ (fun h173 => ?_) (fun h173 => ?_)
                  · refine lv_iconst (v := iI 0) X.1 X.2.1 d_M_present_254 (by decide) ?_
                    exact J135 0 _ _ _ (by omega) (by omega) Y S (lv_sub hl [0, 1, 2, 3, 4, 5] rfl)
                  · refine lv_iconst (v := iI 1) X.1 X.2.1 d_M_present_250 (by decide) ?_
                    refine lv_goto (tgt := 255) X.1 X.2.1 d_M_present_251 (by decide) ?_
                    exact J135 1 _ _ _ (by omega) (by omega) Y S (lv_sub hl [0, 1, 2, 3, 4, 5] rfl)
                · refine lv_aload_n X.1 X.2.1 d_M_present_162 rfl (lv_at hl 0 rfl) ?_
                  refine m_get X Y 58 (by decide) lk_key (gf_key _ _ _) rfl d_M_present_163 ?_
                  refine lv_iload X.1 X.2.1 d_M_present_166 (lv_at hl 6 rfl) ?_
                  refine lv_aload_n X.1 X.2.1 d_M_present_168 rfl (lv_at hl 0 rfl) ?_
                  refine m_get X Y 99 (by decide) lk_ticketKeys (gf_ticketKeys _ _ _) rfl d_M_present_169 ?_
                  refine lv_bipush (v := iI 32) X.1 X.2.1 d_M_present_172 (by decide) ?_
                  refine lv_iload X.1 X.2.1 d_M_present_174 (lv_at hl 3 rfl) ?_
                  refine z_imul X.1 X.2.1 d_M_present_176 ?_
                  refine lv_iload X.1 X.2.1 d_M_present_177 (lv_at hl 6 rfl) ?_
                  refine z_iadd X.1 X.2.1 d_M_present_179 ?_
                  refine r_bald X Y S (aw_ticketKeys _ _ _ _ _ _ _) rfl (by omega) (show (32 * ((8 * a1) + a2)) + z121 < ((1024 : Nat) : Int) by omega) (by omega) d_M_present_180 (fun z174 q174 l174 u174 => ?_)
                  refine r_bast X Y S (aw_key _ _ _ _ _ _ _) (sw_key _ _ _ _ _ _ _) rfl (by omega) (show z121 < ((32 : Nat) : Int) by omega) (by omega) (by decide) d_M_present_181 (fun B175 H locs Y S w175 => ?_)
                  refine lv_aload_n X.1 X.2.1 d_M_present_182 rfl (lv_at hl 0 rfl) ?_
                  refine m_get X Y 126 (by decide) lk_apKeys (gf_apKeys _ _ _) rfl d_M_present_183 ?_
                  refine lv_bipush (v := iI 32) X.1 X.2.1 d_M_present_186 (by decide) ?_
                  refine lv_iload_n X.1 X.2.1 d_M_present_188 rfl (lv_at hl 1 rfl) ?_
                  refine z_imul X.1 X.2.1 d_M_present_189 ?_
                  refine lv_iload X.1 X.2.1 d_M_present_190 (lv_at hl 6 rfl) ?_
                  refine z_iadd X.1 X.2.1 d_M_present_192 ?_
                  refine lv_aload_n X.1 X.2.1 d_M_present_193 rfl (lv_at hl 0 rfl) ?_
                  refine m_get X Y 58 (by decide) lk_key (gf_key _ _ _) rfl d_M_present_194 ?_
                  refine lv_iload X.1 X.2.1 d_M_present_197 (lv_at hl 6 rfl) ?_
                  refine r_bald X Y S (aw_key _ _ _ _ _ _ _) rfl (by omega) (show z121 < ((32 : Nat) : Int) by omega) (by omega) d_M_present_199 (fun z176 q176 l176 u176 => ?_)
                  refine r_bast X Y S (aw_apKeys _ _ _ _ _ _ _) (sw_apKeys _ _ _ _ _ _ _) rfl (by omega) (show (32 * a1) + z121 < ((128 : Nat) : Int) by omega) (by omega) (by decide) d_M_present_200 (fun B177 H locs Y S w177 => ?_)
                  refine lv_iinc (v := iI (z121 + 1)) (lv' := [(8, .int (iI (z121 + 1))), (0, .ref h), (1, .int (iI a1)), (3, .int (iI a3)), (4, .int (iI ((8 * a1) + a2))), (5, .long v105), (7, .int (iI 0))]) X.1 X.2.1 d_M_present_201 hl (k := 6) rfl ((iI_add _ _).trans (congrArg iI (by omega))) (by decide) rfl (fun ls hl => ?_)
                  refine lv_goto (tgt := 155) X.1 X.2.1 d_M_present_204 (by decide) ?_
                  exact ih124 ((32 - (z121 + 1)).toNat) (by omega) (z121 + 1) I120 J120 B177 G120 _ _ _ rfl (by omega) (by omega) e122 Y S (lv_sub hl [1, 2, 3, 4, 5, 6, 0] rfl)
            refine lv_istore (lv' := [(8, .int (iI 0)), (0, .ref h), (1, .int (iI a1)), (3, .int (iI a3)), (4, .int (iI ((8 * a1) + a2))), (5, .long v105), (7, .int (iI 0))]) X.1 X.2.1 d_M_present_153 hl (by decide) rfl (fun ls hl => ?_)
            exact J123 _ 0 I114 J114 B119 G117 _ _ _ rfl (by omega) (by omega) (x114.trans (congrArg iI (show (cn + 4 : Int) = cn + 4 by omega))) Y S (lv_sub hl [1, 2, 3, 4, 5, 6, 0] rfl)
          refine z_if_eq (tgt := 124) X.1 X.2.1 d_M_present_58 (by decide) ⟨by omega, by omega⟩ (fun h178 => ?_) (fun h178 => False.elim (by omega))
          · exact J110  _ _ _ (by omega) Y S (lv_sub hl [3, 4, 6, 2, 1, 0] rfl)
        · refine lv_iconst (v := iI 1) X.1 X.2.1 d_M_present_42 (by decide) ?_
          refine lv_goto (tgt := 47) X.1 X.2.1 d_M_present_43 (by decide) ?_
          refine lv_istore (lv' := [(7, .int (iI 1)), (5, .long v105), (4, .int (iI ((8 * a1) + a2))), (0, .ref h), (1, .int (iI a1)), (2, .int (iI a2)), (3, .int (iI a3))]) X.1 X.2.1 d_M_present_47 hl (by decide) rfl (fun ls hl => ?_)
          refine lv_aload_n X.1 X.2.1 d_M_present_49 rfl (lv_at hl 3 rfl) ?_
          refine m_get X Y 123 (by decide) lk_apSubType (gf_apSubType _ _ _) rfl d_M_present_50 ?_
          refine lv_iload_n X.1 X.2.1 d_M_present_53 rfl (lv_at hl 4 rfl) ?_
          refine lv_iconst (v := iI 0) X.1 X.2.1 d_M_present_54 (by decide) ?_
          refine r_iast X Y S (aw_apSubType _ _ _ _ _ _ _) (sw_apSubType _ _ _ _ _ _ _) rfl ⟨(show ((-2147483648) : Int) ≤ 0 by omega), (show 0 ≤ (2147483647 : Int) by omega)⟩ ⟨by omega, by omega⟩ (by omega) (show a1 < ((4 : Nat) : Int) by omega) (by omega) (by decide) d_M_present_55 (fun B179 H locs Y S w179 => ?_)
          refine lv_iload X.1 X.2.1 d_M_present_56 (lv_at hl 0 rfl) ?_
          have J183 : ∀ (z181 : Int) (I180 : Nat → Int32) (J180 : Nat → Int64) (B180 : Nat → Nat → Int32) (G180 : Nat → Nat → Int64) (H : Heap) (locs : List Loc) (ls : Array Slot), (I180 33 = iI z181) → (0 ≤ z181) → (z181 ≤ 1901000) → (cn ≤ z181 ∧ z181 ≤ cn + 32) → mH D E (mA E h q sz) s.heap h q I180 J180 B180 G180 H locs → rS [3, 8, 14, 18, 33, 36, 42, 131] [0, 1, 5, 6, 7, 9, 10, 11, 12, 13, 15, 16, 17, 19, 20, 21, 22, 23, 34, 35, 58, 60, 95, 121, 122, 123, 124, 125, 126, 127] I B I180 B180 → lv_has ls 9 [(0, .ref h), (1, .int (iI a1)), (3, .int (iI a3)), (4, .int (iI ((8 * a1) + a2))), (5, .long v105), (7, .int (iI 1))] → W p l e (mR 8 236) s m AV below meth c H locs 0 0 QQ (F0 m 124 ls []) := by
            intro z181 I180 J180 B180 G180 H locs ls e181 l181 u181 i182 Y S hl
            refine lv_aload_n X.1 X.2.1 d_M_present_124 rfl (lv_at hl 0 rfl) ?_
            refine m_get X Y 129 (by decide) lk_apNumber (gf_apNumber _ _ _) rfl d_M_present_125 ?_
            refine lv_iload_n X.1 X.2.1 d_M_present_128 rfl (lv_at hl 1 rfl) ?_
            refine lv_aload_n X.1 X.2.1 d_M_present_129 rfl (lv_at hl 0 rfl) ?_
            refine r_ni (m_run (As := []) (rest := [.int (iI a1), .ref ((q 129))]) (n := 0) X Y hZ hA hml hl.1 (r_M_fourCoins l D E h q H.size I180 J180 B180 G180 S.1 z181 e181 (by omega) (by omega)) kl_M_fourCoins ks_M_fourCoins kx_M_fourCoins ki_M_fourCoins ini_M hd_M_fourCoins ⟨Nat.le_of_ble_eq_true rfl, Nat.le_of_ble_eq_true rfl⟩ rfl (Nat.le_of_ble_eq_true rfl) d_M_present_130 ⟨Nat.le_refl _, Nat.le_refl _⟩) X Y hA S (by decide) (by decide) (fun z187 u H locs Y S s187 p187 => ?_)
            obtain ⟨I187, J187, B187, G187⟩ := u
            dsimp only at Y S s187 p187
            obtain ⟨l187, u187, x187⟩ := p187
            refine lv_ldcw (v := (1073741823)) X.1 X.2.1 X.2.2.2.1 (X.2.2.1 _ cn_M_974) d_M_present_133 ?_
            refine t_eq (y := iI 1073741823) (by decide) ?_
            refine z_iand X.1 X.2.1 (by omega) (by omega) d_M_present_136 (fun z188 l188 u188 => ?_)
            refine lv_i2l X.1 X.2.1 d_M_present_137 rfl ?_
            refine t_anyl (fun v189 => ?_)
            refine r_last X Y (aw_apNumber _ _ _ _ _ _ _) (sw_apNumber _ _ _ _ _ _ _) (by omega) (show a1 < ((4 : Nat) : Int) by omega) (by omega) d_M_present_138 (fun G190 H locs Y => ?_)
            refine lv_aload_n X.1 X.2.1 d_M_present_139 rfl (lv_at hl 0 rfl) ?_
            refine m_get X Y 122 (by decide) lk_apType (gf_apType _ _ _) rfl d_M_present_140 ?_
            refine lv_iload_n X.1 X.2.1 d_M_present_143 rfl (lv_at hl 1 rfl) ?_
            refine lv_aload_n X.1 X.2.1 d_M_present_144 rfl (lv_at hl 0 rfl) ?_
            refine m_get X Y 102 (by decide) lk_ticketTypes (gf_ticketTypes _ _ _) rfl d_M_present_145 ?_
            refine lv_iload X.1 X.2.1 d_M_present_148 (lv_at hl 3 rfl) ?_
            refine r_iald X Y S (aw_ticketTypes _ _ _ _ _ _ _) rfl (by omega) (show (8 * a1) + a2 < ((32 : Nat) : Int) by omega) (by omega) d_M_present_150 (fun z191 q191 l191 u191 => ?_)
            refine r_iast X Y S (aw_apType _ _ _ _ _ _ _) (sw_apType _ _ _ _ _ _ _) rfl ⟨(show (0 : Int) ≤ z191 by omega), (show z191 ≤ (18 : Int) by omega)⟩ ⟨by omega, by omega⟩ (by omega) (show a1 < ((4 : Nat) : Int) by omega) (by omega) (by decide) d_M_present_151 (fun B192 H locs Y S w192 => ?_)
            refine lv_iconst (v := iI 0) X.1 X.2.1 d_M_present_152 (by decide) ?_
            have J196 : ∀ (n198 : Nat) (z194 : Int) (I193 : Nat → Int32) (J193 : Nat → Int64) (B193 : Nat → Nat → Int32) (G193 : Nat → Nat → Int64) (H : Heap) (locs : List Loc) (ls : Array Slot), (32 - z194).toNat = n198 → (0 ≤ z194) → (z194 ≤ 32) → (I193 33 = iI (z181 + 4)) → mH D E (mA E h q sz) s.heap h q I193 J193 B193 G193 H locs → rS [3, 8, 14, 18, 33, 36, 42, 131] [0, 1, 5, 6, 7, 9, 10, 11, 12, 13, 15, 16, 17, 19, 20, 21, 22, 23, 34, 35, 58, 60, 95, 121, 122, 123, 124, 125, 126, 127] I B I193 B193 → lv_has ls 9 [(0, .ref h), (1, .int (iI a1)), (3, .int (iI a3)), (4, .int (iI ((8 * a1) + a2))), (5, .long v105), (7, .int (iI 1)), (8, .int (iI z194))] → W p l e (mR 8 236) s m AV below meth c H locs 0 0 QQ (F0 m 155 ls []) := by
              intro n198
              induction n198 using Nat.strongRecOn with
              | ind n198 ih197 =>
                intro z194 I193 J193 B193 G193 H locs ls hm199 l194 u194 e195 Y S hl
                refine lv_iload X.1 X.2.1 d_M_present_155 (lv_at hl 6 rfl) ?_
                refine lv_bipush (v := iI 32) X.1 X.2.1 d_M_present_157 (by decide) ?_
                refine z_icmp_ge (tgt := 207) X.1 X.2.1 d_M_present_159 (by decide) ⟨by omega, by omega⟩ ⟨by omega, by omega⟩ (fun h200 => ?_) (fun h200 => ?_)
                · refine lv_aload_n X.1 X.2.1 d_M_present_207 rfl (lv_at hl 0 rfl) ?_
                  refine m_get X Y 128 (by decide) lk_apTime (gf_apTime _ _ _) rfl d_M_present_208 ?_
                  refine lv_iload_n X.1 X.2.1 d_M_present_211 rfl (lv_at hl 1 rfl) ?_
                  refine lv_lload X.1 X.2.1 d_M_present_212 (lv_at hl 4 rfl) ?_
                  refine r_last X Y (aw_apTime _ _ _ _ _ _ _) (sw_apTime _ _ _ _ _ _ _) (by omega) (show a1 < ((4 : Nat) : Int) by omega) (by omega) d_M_present_214 (fun G201 H locs Y => ?_)
                  refine lv_aload_n X.1 X.2.1 d_M_present_215 rfl (lv_at hl 0 rfl) ?_
                  refine m_get X Y 124 (by decide) lk_apMicros (gf_apMicros _ _ _) rfl d_M_present_216 ?_
                  refine lv_iload_n X.1 X.2.1 d_M_present_219 rfl (lv_at hl 1 rfl) ?_
                  refine lv_aload_n X.1 X.2.1 d_M_present_220 rfl (lv_at hl 0 rfl) ?_
                  refine m_get X Y 95 (by decide) lk_micros (gf_micros _ _ _) rfl d_M_present_221 ?_
                  refine lv_iload_n X.1 X.2.1 d_M_present_224 rfl (lv_at hl 1 rfl) ?_
                  refine r_iald X Y S (aw_micros _ _ _ _ _ _ _) rfl (by omega) (show a1 < ((4 : Nat) : Int) by omega) (by omega) d_M_present_225 (fun z202 q202 l202 u202 => ?_)
                  refine lv_ldcw (v := (1000000)) X.1 X.2.1 X.2.2.2.1 (X.2.2.1 _ cn_M_644) d_M_present_226 ?_
                  refine t_eq (y := iI 1000000) (by decide) ?_
                  refine z_iremg X.1 X.2.1 ⟨by omega, by omega⟩ ⟨by decide, by decide⟩ d_M_present_229 (fun z203 l203 u203 x203 => ?_)
                  refine r_iast X Y S (aw_apMicros _ _ _ _ _ _ _) (sw_apMicros _ _ _ _ _ _ _) rfl ⟨(show ((-2147483648) : Int) ≤ z203 by omega), (show z203 ≤ (2147483647 : Int) by omega)⟩ ⟨by omega, by omega⟩ (by omega) (show a1 < ((4 : Nat) : Int) by omega) (by omega) (by decide) d_M_present_230 (fun B204 H locs Y S w204 => ?_)
                  refine lv_aload_n X.1 X.2.1 d_M_present_231 rfl (lv_at hl 0 rfl) ?_
                  refine m_get X Y 130 (by decide) lk_apOther (gf_apOther _ _ _) rfl d_M_present_232 ?_
                  refine lv_iload_n X.1 X.2.1 d_M_present_235 rfl (lv_at hl 1 rfl) ?_
                  refine lv_lconst (v := 0) X.1 X.2.1 d_M_present_236 rfl ?_
                  refine r_last X Y (aw_apOther _ _ _ _ _ _ _) (sw_apOther _ _ _ _ _ _ _) (by omega) (show a1 < ((4 : Nat) : Int) by omega) (by omega) d_M_present_237 (fun G205 H locs Y => ?_)
                  refine lv_aload_n X.1 X.2.1 d_M_present_238 rfl (lv_at hl 0 rfl) ?_
                  refine m_get X Y 121 (by decide) lk_wantsMet (gf_wantsMet _ _ _) rfl d_M_present_239 ?_
                  refine lv_iload_n X.1 X.2.1 d_M_present_242 rfl (lv_at hl 1 rfl) ?_
                  refine lv_iload_n X.1 X.2.1 d_M_present_243 rfl (lv_at hl 2 rfl) ?_
                  refine lv_iconst (v := iI 1) X.1 X.2.1 d_M_present_244 (by decide) ?_
                  refine z_iand X.1 X.2.1 (by omega) (by omega) d_M_present_245 (fun z206 l206 u206 => ?_)
                  refine lv_iconst (v := iI 1) X.1 X.2.1 d_M_present_246 (by decide) ?_
                  have J208 : ∀ (z207 : Int) (H : Heap) (locs : List Loc) (ls : Array Slot), (0 ≤ z207) → (z207 ≤ 1) → mH D E (mA E h q sz) s.heap h q I193 J193 B204 G205 H locs → rS [3, 8, 14, 18, 33, 36, 42, 131] [0, 1, 5, 6, 7, 9, 10, 11, 12, 13, 15, 16, 17, 19, 20, 21, 22, 23, 34, 35, 58, 60, 95, 121, 122, 123, 124, 125, 126, 127] I B I193 B204 → lv_has ls 9 [(0, .ref h), (1, .int (iI a1)), (3, .int (iI a3)), (4, .int (iI ((8 * a1) + a2))), (5, .long v105), (7, .int (iI 1))] → W p l e (mR 8 236) s m AV below meth c H locs 0 0 QQ (F0 m 255 ls [.int (iI z207), .int (iI a1), .ref ((q 121))]) := by
                    intro z207 H locs ls l207 u207 Y S hl
                    refine r_zast X Y S (aw_wantsMet _ _ _ _ _ _ _) (sw_wantsMet _ _ _ _ _ _ _) rfl ⟨by omega, by omega⟩ (by omega) (show a1 < ((4 : Nat) : Int) by omega) (by omega) (by decide) d_M_present_255 (fun B212 H locs Y S w212 => ?_)
                    refine lv_aload_n X.1 X.2.1 d_M_present_256 rfl (lv_at hl 0 rfl) ?_
                    refine lv_dup X.1 X.2.1 d_M_present_257 rfl ?_
                    refine r_geti (k := 131) X Y S (by decide) lk_serial (gf_serial _ _ _) rfl rfl d_M_present_258 (fun z213 e213 l213 u213 => ?_)
                    refine lv_iconst (v := iI 1) X.1 X.2.1 d_M_present_261 (by decide) ?_
                    refine lv_iadd X.1 X.2.1 d_M_present_262 ?_
                    refine t_u (fun z214 l214 u214 => ?_)
                    refine r_puti (k := 131) X Y S (by decide) lk_serial rfl rfl (t_M_ok 131 (by decide)) rfl rfl (sf_serial _ _ _ _) (Nat.le_of_ble_eq_true rfl) rfl (show ((-2147483648) : Int) ≤ z214 by omega) (show z214 ≤ (2147483647 : Int) by omega) ⟨by omega, by omega⟩ (by decide) d_M_present_263 (fun I215 H locs Y S w215 => ?_)
                    refine lv_aload_n X.1 X.2.1 d_M_present_266 rfl (lv_at hl 0 rfl) ?_
                    refine m_get X Y 125 (by decide) lk_apSerial (gf_apSerial _ _ _) rfl d_M_present_267 ?_
                    refine lv_iload_n X.1 X.2.1 d_M_present_270 rfl (lv_at hl 1 rfl) ?_
                    refine lv_aload_n X.1 X.2.1 d_M_present_271 rfl (lv_at hl 0 rfl) ?_
                    refine r_get0 X Y (by decide) lk_serial (gf_serial _ _ _) rfl w215.1 d_M_present_272 ?_
                    refine r_iast X Y S (aw_apSerial _ _ _ _ _ _ _) (sw_apSerial _ _ _ _ _ _ _) rfl ⟨(show ((-2147483648) : Int) ≤ z214 by omega), (show z214 ≤ (2147483647 : Int) by omega)⟩ ⟨by omega, by omega⟩ (by omega) (show a1 < ((4 : Nat) : Int) by omega) (by omega) (by decide) d_M_present_275 (fun B216 H locs Y S w216 => ?_)
                    refine lv_aload_n X.1 X.2.1 d_M_present_276 rfl (lv_at hl 0 rfl) ?_
                    refine r_nv (m_run (As := []) (rest := []) (n := 0) X Y hZ hA hml hl.1 (r_M_start l D E h q H.size I215 J193 B216 G205 S.1) kl_M_start ks_M_start kx_M_start ki_M_start ini_M hd_M_start ⟨Nat.le_of_ble_eq_true rfl, Nat.le_of_ble_eq_true rfl⟩ rfl (Nat.le_of_ble_eq_true rfl) d_M_present_277 ⟨Nat.le_refl _, Nat.le_refl _⟩) X Y hA S (by decide) (by decide) (fun u H locs Y S s217 p217 => ?_)
                    obtain ⟨I217, J217, B217, G217⟩ := u
                    dsimp only at Y S s217 p217
                    have x217 := p217
                    refine lv_aload_n X.1 X.2.1 d_M_present_280 rfl (lv_at hl 0 rfl) ?_
                    refine lv_bipush (v := iI 7) X.1 X.2.1 d_M_present_281 (by decide) ?_
                    refine lv_aload_n X.1 X.2.1 d_M_present_283 rfl (lv_at hl 0 rfl) ?_
                    refine m_get X Y 129 (by decide) lk_apNumber (gf_apNumber _ _ _) rfl d_M_present_284 ?_
                    refine lv_iload_n X.1 X.2.1 d_M_present_287 rfl (lv_at hl 1 rfl) ?_
                    refine r_lald X Y (aw_apNumber _ _ _ _ _ _ _) (by omega) (show a1 < ((4 : Nat) : Int) by omega) (by omega) d_M_present_288 (fun v218 => ?_)
                    refine r_nv (m_run (As := [.int (iI 7), .long v218]) (rest := []) (n := 2) X Y hZ hA hml hl.1 (r_M_numberField l D E h q H.size I217 J217 B217 G217 7 (by omega) (by omega) v218 S.1 60000 (x217.trans (congrArg iI (show (60000 : Int) = 60000 by omega))) (by omega) (by omega)) kl_M_numberField ks_M_numberField kx_M_numberField ki_M_numberField ini_M hd_M_numberField ⟨Nat.le_of_ble_eq_true rfl, Nat.le_of_ble_eq_true rfl⟩ rfl (Nat.le_of_ble_eq_true rfl) d_M_present_289 ⟨Nat.le_refl _, Nat.le_refl _⟩) X Y hA S (by decide) (by decide) (fun u H locs Y S s219 p219 => ?_)
                    obtain ⟨I219, J219, B219, G219⟩ := u
                    dsimp only at Y S s219 p219
                    obtain ⟨x219, g219_MF⟩ := p219
                    obtain ⟨z220, e220, l220, u220⟩ := x219
                    refine lv_iload X.1 X.2.1 d_M_present_292 (lv_at hl 5 rfl) ?_
                    have J225 : ∀ (z223 : Int) (I221 : Nat → Int32) (J221 : Nat → Int64) (B221 : Nat → Nat → Int32) (G221 : Nat → Nat → Int64) (H : Heap) (locs : List Loc) (ls : Array Slot), (I221 33 = iI (z181 + 4)) → (I221 42 = iI z223) → (0 ≤ z223) → (z223 ≤ 60000) → (59800 ≤ z223) → mH D E (mA E h q sz) s.heap h q I221 J221 B221 G221 H locs → rS [3, 8, 14, 18, 33, 36, 42, 131] [0, 1, 5, 6, 7, 9, 10, 11, 12, 13, 15, 16, 17, 19, 20, 21, 22, 23, 34, 35, 58, 60, 95, 121, 122, 123, 124, 125, 126, 127] I B I221 B221 → lv_has ls 9 [(0, .ref h), (1, .int (iI a1)), (3, .int (iI a3)), (4, .int (iI ((8 * a1) + a2))), (5, .long v105)] → W p l e (mR 8 236) s m AV below meth c H locs 0 0 QQ (F0 m 314 ls []) := by
                      intro z223 I221 J221 B221 G221 H locs ls e222 e223 l223 u223 i224 Y S hl
                      refine lv_aload_n X.1 X.2.1 d_M_present_314 rfl (lv_at hl 0 rfl) ?_
                      refine lv_iload_n X.1 X.2.1 d_M_present_315 rfl (lv_at hl 1 rfl) ?_
                      refine lv_iload X.1 X.2.1 d_M_present_316 (lv_at hl 3 rfl) ?_
                      refine lv_lload X.1 X.2.1 d_M_present_318 (lv_at hl 4 rfl) ?_
                      refine lv_iconst (v := iI 0) X.1 X.2.1 d_M_present_320 (by decide) ?_
                      refine r_nv (m_run (As := [.int (iI a1), .int (iI ((8 * a1) + a2)), .long v105, .int (iI 0)]) (rest := []) (n := 4) X Y hZ hA hml hl.1 (r_M_authenticator l D E h q H.size I221 J221 B221 G221 a1 (by omega) (by omega) ((8 * a1) + a2) (by omega) (by omega) v105 0 (by omega) (by omega) S.1 z223 e223 (by omega) (by omega)) kl_M_authenticator ks_M_authenticator kx_M_authenticator ki_M_authenticator ini_M hd_M_authenticator ⟨Nat.le_of_ble_eq_true rfl, Nat.le_of_ble_eq_true rfl⟩ rfl (Nat.le_of_ble_eq_true rfl) d_M_present_321 ⟨Nat.le_refl _, Nat.le_refl _⟩) X Y hA S (by decide) (by decide) (fun u H locs Y S s229 p229 => ?_)
                      obtain ⟨I229, J229, B229, G229⟩ := u
                      dsimp only at Y S s229 p229
                      obtain ⟨x229, g229_MF⟩ := p229
                      obtain ⟨z230, e230, l230, u230⟩ := x229
                      refine lv_aload_n X.1 X.2.1 d_M_present_324 rfl (lv_at hl 0 rfl) ?_
                      refine lv_aload_n X.1 X.2.1 d_M_present_325 rfl (lv_at hl 0 rfl) ?_
                      refine m_get X Y 58 (by decide) lk_key (gf_key _ _ _) rfl d_M_present_326 ?_
                      refine lv_aload_n X.1 X.2.1 d_M_present_329 rfl (lv_at hl 0 rfl) ?_
                      refine m_get X Y 102 (by decide) lk_ticketTypes (gf_ticketTypes _ _ _) rfl d_M_present_330 ?_
                      refine lv_iload X.1 X.2.1 d_M_present_333 (lv_at hl 3 rfl) ?_
                      refine r_iald X Y S (aw_ticketTypes _ _ _ _ _ _ _) rfl (by omega) (show (8 * a1) + a2 < ((32 : Nat) : Int) by omega) (by omega) d_M_present_335 (fun z231 q231 l231 u231 => ?_)
                      refine lv_bipush (v := iI 11) X.1 X.2.1 d_M_present_336 (by decide) ?_
                      refine lv_aload_n X.1 X.2.1 d_M_present_338 rfl (lv_at hl 0 rfl) ?_
                      refine r_get0 X Y (by decide) lk_w0 (gf_w0 _ _ _) rfl e230 d_M_present_339 ?_
                      refine lv_ldc (v := (60000)) X.1 X.2.1 X.2.2.2.1 (X.2.2.1 _ cn_M_9) d_M_present_342 ?_
                      refine t_eq (y := iI 60000) (by decide) ?_
                      refine r_nv (m_run (As := [.ref ((q 58)), .int (iI z231), .int (iI 11), .int (iI z230), .int (iI 60000)]) (rest := []) (n := 5) X Y hZ hA hml hl.1 (r_M_seal_key l D E h q H.size I229 J229 B229 G229 z231 (by omega) (by omega) 11 (by omega) (by omega) z230 (by omega) (by omega) 60000 (by omega) (by omega) S.1 (z181 + 4) ((s229.2.1 33 (by decide)).trans e222) (by omega) (by omega) (by omega) (by omega)) kl_M_seal ks_M_seal kx_M_seal ki_M_seal ini_M hd_M_seal ⟨Nat.le_of_ble_eq_true rfl, Nat.le_of_ble_eq_true rfl⟩ rfl (Nat.le_of_ble_eq_true rfl) d_M_present_344 ⟨Nat.le_refl _, Nat.le_refl _⟩) X Y hA S (by decide) (by decide) (fun u H locs Y S s232 p232 => ?_)
                      obtain ⟨I232, J232, B232, G232⟩ := u
                      dsimp only at Y S s232 p232
                      have x232 := p232
                      obtain ⟨x232_0, x232_1⟩ := x232
                      refine lv_aload_n X.1 X.2.1 d_M_present_347 rfl (lv_at hl 0 rfl) ?_
                      refine lv_iload X.1 X.2.1 d_M_present_348 (lv_at hl 3 rfl) ?_
                      refine lv_iload_n X.1 X.2.1 d_M_present_350 rfl (lv_at hl 2 rfl) ?_
                      refine lv_iconst (v := iI 1) X.1 X.2.1 d_M_present_351 (by decide) ?_
                      refine z_iand X.1 X.2.1 (by omega) (by omega) d_M_present_352 (fun z233 l233 u233 => ?_)
                      refine lv_iconst (v := iI 1) X.1 X.2.1 d_M_present_353 (by decide) ?_
                      have J235 : ∀ (z234 : Int) (H : Heap) (locs : List Loc) (ls : Array Slot), ((-2147483648) ≤ z234) → (z234 ≤ 2147483647) → mH D E (mA E h q sz) s.heap h q I232 J232 B232 G232 H locs → rS [3, 8, 14, 18, 33, 36, 42, 131] [0, 1, 5, 6, 7, 9, 10, 11, 12, 13, 15, 16, 17, 19, 20, 21, 22, 23, 34, 35, 58, 60, 95, 121, 122, 123, 124, 125, 126, 127] I B I232 B232 → lv_has ls 9 [(0, .ref h), (1, .int (iI a1))] → W p l e (mR 8 236) s m AV below meth c H locs 0 0 QQ (F0 m 365 ls [.int (iI z234), .int (iI ((8 * a1) + a2)), .ref h]) := by
                        intro z234 H locs ls l234 u234 Y S hl
                        refine r_nv (m_run (As := [.int (iI ((8 * a1) + a2)), .int (iI z234)]) (rest := []) (n := 2) X Y hZ hA hml hl.1 (r_M_apReq l D E h q H.size I232 J232 B232 G232 ((8 * a1) + a2) (by omega) (by omega) z234 (by omega) (by omega) S.1 (60000 - z230 + 28) (x232_0.trans (congrArg iI (show (60000 - z230 + 28 : Int) = 60000 - z230 + 28 by omega))) (by omega) (by omega)) kl_M_apReq ks_M_apReq kx_M_apReq ki_M_apReq ini_M hd_M_apReq ⟨Nat.le_of_ble_eq_true rfl, Nat.le_of_ble_eq_true rfl⟩ rfl (Nat.le_of_ble_eq_true rfl) d_M_present_365 ⟨Nat.le_refl _, Nat.le_refl _⟩) X Y hA S (by decide) (by decide) (fun u H locs Y S s239 p239 => ?_)
                        obtain ⟨I239, J239, B239, G239⟩ := u
                        dsimp only at Y S s239 p239
                        have x239 := p239
                        obtain ⟨z240, e240, x240, y240, y2240⟩ := x239
                        refine lv_aload_n X.1 X.2.1 d_M_present_368 rfl (lv_at hl 0 rfl) ?_
                        refine m_get X Y 95 (by decide) lk_micros (gf_micros _ _ _) rfl d_M_present_369 ?_
                        refine lv_iload_n X.1 X.2.1 d_M_present_372 rfl (lv_at hl 1 rfl) ?_
                        refine lv_dup2_11 X.1 X.2.1 d_M_present_373 rfl rfl ?_
                        refine r_iald X Y S (aw_micros _ _ _ _ _ _ _) rfl (by omega) (show a1 < ((4 : Nat) : Int) by omega) (by omega) d_M_present_374 (fun z241 q241 l241 u241 => ?_)
                        refine lv_iconst (v := iI 1) X.1 X.2.1 d_M_present_375 (by decide) ?_
                        refine lv_iadd X.1 X.2.1 d_M_present_376 ?_
                        refine t_u (fun z242 l242 u242 => ?_)
                        refine r_iast X Y S (aw_micros _ _ _ _ _ _ _) (sw_micros _ _ _ _ _ _ _) rfl ⟨(show ((-2147483648) : Int) ≤ z242 by omega), (show z242 ≤ (2147483647 : Int) by omega)⟩ ⟨by omega, by omega⟩ (by omega) (show a1 < ((4 : Nat) : Int) by omega) (by omega) (by decide) d_M_present_377 (fun B243 H locs Y S w243 => ?_)
                        refine lv_aload_n X.1 X.2.1 d_M_present_378 rfl (lv_at hl 0 rfl) ?_
                        refine r_nv (m_run (As := []) (rest := []) (n := 0) X Y hZ hA hml hl.1 (r_M_written l D E h q H.size I239 J239 B243 G239 S.1 z240 e240 (by omega) (by omega)) kl_M_written ks_M_written kx_M_written ki_M_written ini_M hd_M_written ⟨Nat.le_of_ble_eq_true rfl, Nat.le_of_ble_eq_true rfl⟩ rfl (Nat.le_of_ble_eq_true rfl) d_M_present_379 ⟨Nat.le_refl _, Nat.le_refl _⟩) X Y hA S (by decide) (by decide) (fun u H locs Y S s244 p244 => ?_)
                        obtain ⟨I244, J244, B244, G244⟩ := u
                        dsimp only at Y S s244 p244
                        have g244_MF := p244
                        refine lv_aload_n X.1 X.2.1 d_M_present_382 rfl (lv_at hl 0 rfl) ?_
                        refine r_geti (k := 3) X Y S (by decide) lk_outMany (gf_outMany _ _ _) rfl rfl d_M_present_383 (fun z245 e245 l245 u245 => ?_)
                        exact m_reti hQQ X Y hr hlk ⟨S, z245, rfl, ⟨by omega, by omega, ⟨z181 + 20, ((s244.2.1 33 (by decide)).trans ((s239.2.1 33 (by decide)).trans (x232_1.trans (congrArg iI (show ((z181 + 4) + 16 : Int) = z181 + 20 by omega))))), by omega, by omega⟩⟩⟩ d_M_present_386
                      refine z_icmp_ne (tgt := 364) X.1 X.2.1 d_M_present_354 (by decide) ⟨by omega, by omega⟩ ⟨by omega, by omega⟩ (fun h246 => ?_) (fun h246 => ?_)
                      · refine lv_iconst (v := iI 0) X.1 X.2.1 d_M_present_364 (by decide) ?_
                        exact J235 0 _ _ _ (by omega) (by omega) Y S (lv_sub hl [0, 1] rfl)
                      · refine lv_iconst (v := iI 2) X.1 X.2.1 d_M_present_357 (by decide) ?_
                        refine p_calli (As := [.int (iI 2)]) (rest := [.int (iI ((8 * a1) + a2)), .ref h]) (n := 1) X Y hml hl.1 (r_M_bitOf l 2 (by omega) (by omega)) kl_M_bitOf ks_M_bitOf ki_M_bitOf ini_M hd_M_bitOf ⟨Nat.le_of_ble_eq_true rfl, Nat.le_of_ble_eq_true rfl⟩ rfl (Nat.le_of_ble_eq_true rfl) d_M_present_358 ⟨Nat.le_refl _, Nat.le_refl _⟩ (fun r247 H locs p247 Y => ?_)
                        obtain ⟨z247, e247, p247⟩ := p247
                        subst e247
                        obtain ⟨l247, u247⟩ := p247
                        refine lv_goto (tgt := 365) X.1 X.2.1 d_M_present_361 (by decide) ?_
                        exact J235 z247 _ _ _ (by omega) (by omega) Y S (lv_sub hl [0, 1] rfl)
                    refine z_if_eq (tgt := 314) X.1 X.2.1 d_M_present_294 (by decide) ⟨by omega, by omega⟩ (fun h248 => False.elim (by omega)) (fun h248 => ?_)
                    · refine lv_aload_n X.1 X.2.1 d_M_present_297 rfl (lv_at hl 0 rfl) ?_
                      refine lv_bipush (v := iI 6) X.1 X.2.1 d_M_present_298 (by decide) ?_
                      refine lv_aload_n X.1 X.2.1 d_M_present_300 rfl (lv_at hl 0 rfl) ?_
                      refine m_get X Y 102 (by decide) lk_ticketTypes (gf_ticketTypes _ _ _) rfl d_M_present_301 ?_
                      refine lv_iload X.1 X.2.1 d_M_present_304 (lv_at hl 3 rfl) ?_
                      refine r_iald X Y S (aw_ticketTypes _ _ _ _ _ _ _) rfl (by omega) (show (8 * a1) + a2 < ((32 : Nat) : Int) by omega) (by omega) d_M_present_306 (fun z249 q249 l249 u249 => ?_)
                      refine lv_aload_n X.1 X.2.1 d_M_present_307 rfl (lv_at hl 0 rfl) ?_
                      refine m_get X Y 60 (by decide) lk_fresh (gf_fresh _ _ _) rfl d_M_present_308 ?_
                      refine r_nv (m_run (As := [.int (iI 6), .int (iI z249), .ref ((q 60))]) (rest := []) (n := 3) X Y hZ hA hml hl.1 (r_M_keyField_fresh l D E h q H.size I219 J219 B219 G219 6 (by omega) (by omega) z249 (by omega) (by omega) S.1 z220 e220 (by omega) (by omega)) kl_M_keyField ks_M_keyField kx_M_keyField ki_M_keyField ini_M hd_M_keyField ⟨Nat.le_of_ble_eq_true rfl, Nat.le_of_ble_eq_true rfl⟩ rfl (Nat.le_of_ble_eq_true rfl) d_M_present_311 ⟨Nat.le_refl _, Nat.le_refl _⟩) X Y hA S (by decide) (by decide) (fun u H locs Y S s250 p250 => ?_)
                      obtain ⟨I250, J250, B250, G250⟩ := u
                      dsimp only at Y S s250 p250
                      obtain ⟨x250, g250_MF⟩ := p250
                      obtain ⟨z251, e251, l251, u251⟩ := x250
                      exact J225 z251 I250 J250 B250 G250 _ _ _ ((s250.2.1 33 (by decide)).trans ((s219.2.1 33 (by decide)).trans ((s217.2.1 33 (by decide)).trans ((w215.2 33 (by decide)).trans e195)))) e251 (by omega) (by omega) (by omega) Y S (lv_sub hl [0, 1, 2, 3, 4] rfl)
                  refine z_icmp_ne (tgt := 254) X.1 X.2.1 d_M_present_247 (by decide) ⟨by omega, by omega⟩ ⟨by omega, by omega⟩ (fun h252 => ?_) (fun h252 => ?_)
                  · refine lv_iconst (v := iI 0) X.1 X.2.1 d_M_present_254 (by decide) ?_
                    exact J208 0 _ _ _ (by omega) (by omega) Y S (lv_sub hl [0, 1, 2, 3, 4, 5] rfl)
                  · refine lv_iconst (v := iI 1) X.1 X.2.1 d_M_present_250 (by decide) ?_
                    refine lv_goto (tgt := 255) X.1 X.2.1 d_M_present_251 (by decide) ?_
                    exact J208 1 _ _ _ (by omega) (by omega) Y S (lv_sub hl [0, 1, 2, 3, 4, 5] rfl)
                · refine lv_aload_n X.1 X.2.1 d_M_present_162 rfl (lv_at hl 0 rfl) ?_
                  refine m_get X Y 58 (by decide) lk_key (gf_key _ _ _) rfl d_M_present_163 ?_
                  refine lv_iload X.1 X.2.1 d_M_present_166 (lv_at hl 6 rfl) ?_
                  refine lv_aload_n X.1 X.2.1 d_M_present_168 rfl (lv_at hl 0 rfl) ?_
                  refine m_get X Y 99 (by decide) lk_ticketKeys (gf_ticketKeys _ _ _) rfl d_M_present_169 ?_
                  refine lv_bipush (v := iI 32) X.1 X.2.1 d_M_present_172 (by decide) ?_
                  refine lv_iload X.1 X.2.1 d_M_present_174 (lv_at hl 3 rfl) ?_
                  refine z_imul X.1 X.2.1 d_M_present_176 ?_
                  refine lv_iload X.1 X.2.1 d_M_present_177 (lv_at hl 6 rfl) ?_
                  refine z_iadd X.1 X.2.1 d_M_present_179 ?_
                  refine r_bald X Y S (aw_ticketKeys _ _ _ _ _ _ _) rfl (by omega) (show (32 * ((8 * a1) + a2)) + z194 < ((1024 : Nat) : Int) by omega) (by omega) d_M_present_180 (fun z253 q253 l253 u253 => ?_)
                  refine r_bast X Y S (aw_key _ _ _ _ _ _ _) (sw_key _ _ _ _ _ _ _) rfl (by omega) (show z194 < ((32 : Nat) : Int) by omega) (by omega) (by decide) d_M_present_181 (fun B254 H locs Y S w254 => ?_)
                  refine lv_aload_n X.1 X.2.1 d_M_present_182 rfl (lv_at hl 0 rfl) ?_
                  refine m_get X Y 126 (by decide) lk_apKeys (gf_apKeys _ _ _) rfl d_M_present_183 ?_
                  refine lv_bipush (v := iI 32) X.1 X.2.1 d_M_present_186 (by decide) ?_
                  refine lv_iload_n X.1 X.2.1 d_M_present_188 rfl (lv_at hl 1 rfl) ?_
                  refine z_imul X.1 X.2.1 d_M_present_189 ?_
                  refine lv_iload X.1 X.2.1 d_M_present_190 (lv_at hl 6 rfl) ?_
                  refine z_iadd X.1 X.2.1 d_M_present_192 ?_
                  refine lv_aload_n X.1 X.2.1 d_M_present_193 rfl (lv_at hl 0 rfl) ?_
                  refine m_get X Y 58 (by decide) lk_key (gf_key _ _ _) rfl d_M_present_194 ?_
                  refine lv_iload X.1 X.2.1 d_M_present_197 (lv_at hl 6 rfl) ?_
                  refine r_bald X Y S (aw_key _ _ _ _ _ _ _) rfl (by omega) (show z194 < ((32 : Nat) : Int) by omega) (by omega) d_M_present_199 (fun z255 q255 l255 u255 => ?_)
                  refine r_bast X Y S (aw_apKeys _ _ _ _ _ _ _) (sw_apKeys _ _ _ _ _ _ _) rfl (by omega) (show (32 * a1) + z194 < ((128 : Nat) : Int) by omega) (by omega) (by decide) d_M_present_200 (fun B256 H locs Y S w256 => ?_)
                  refine lv_iinc (v := iI (z194 + 1)) (lv' := [(8, .int (iI (z194 + 1))), (0, .ref h), (1, .int (iI a1)), (3, .int (iI a3)), (4, .int (iI ((8 * a1) + a2))), (5, .long v105), (7, .int (iI 1))]) X.1 X.2.1 d_M_present_201 hl (k := 6) rfl ((iI_add _ _).trans (congrArg iI (by omega))) (by decide) rfl (fun ls hl => ?_)
                  refine lv_goto (tgt := 155) X.1 X.2.1 d_M_present_204 (by decide) ?_
                  exact ih197 ((32 - (z194 + 1)).toNat) (by omega) (z194 + 1) I193 J193 B256 G193 _ _ _ rfl (by omega) (by omega) e195 Y S (lv_sub hl [1, 2, 3, 4, 5, 6, 0] rfl)
            refine lv_istore (lv' := [(8, .int (iI 0)), (0, .ref h), (1, .int (iI a1)), (3, .int (iI a3)), (4, .int (iI ((8 * a1) + a2))), (5, .long v105), (7, .int (iI 1))]) X.1 X.2.1 d_M_present_153 hl (by decide) rfl (fun ls hl => ?_)
            exact J196 _ 0 I187 J187 B192 G190 _ _ _ rfl (by omega) (by omega) (x187.trans (congrArg iI (show (z181 + 4 : Int) = z181 + 4 by omega))) Y S (lv_sub hl [1, 2, 3, 4, 5, 6, 0] rfl)
          refine z_if_eq (tgt := 124) X.1 X.2.1 d_M_present_58 (by decide) ⟨by omega, by omega⟩ (fun h257 => False.elim (by omega)) (fun h257 => ?_)
          · refine lv_aload_n X.1 X.2.1 d_M_present_61 rfl (lv_at hl 3 rfl) ?_
            refine m_get X Y 123 (by decide) lk_apSubType (gf_apSubType _ _ _) rfl d_M_present_62 ?_
            refine lv_iload_n X.1 X.2.1 d_M_present_65 rfl (lv_at hl 4 rfl) ?_
            refine lv_aload_n X.1 X.2.1 d_M_present_66 rfl (lv_at hl 3 rfl) ?_
            refine m_get X Y 102 (by decide) lk_ticketTypes (gf_ticketTypes _ _ _) rfl d_M_present_67 ?_
            refine lv_iload X.1 X.2.1 d_M_present_70 (lv_at hl 2 rfl) ?_
            refine r_iald X Y S (aw_ticketTypes _ _ _ _ _ _ _) rfl (by omega) (show (8 * a1) + a2 < ((32 : Nat) : Int) by omega) (by omega) d_M_present_72 (fun z258 q258 l258 u258 => ?_)
            refine r_iast X Y S (aw_apSubType _ _ _ _ _ _ _) (sw_apSubType _ _ _ _ _ _ _) rfl ⟨(show ((-2147483648) : Int) ≤ z258 by omega), (show z258 ≤ (2147483647 : Int) by omega)⟩ ⟨by omega, by omega⟩ (by omega) (show a1 < ((4 : Nat) : Int) by omega) (by omega) (by decide) d_M_present_73 (fun B259 H locs Y S w259 => ?_)
            refine lv_aload_n X.1 X.2.1 d_M_present_74 rfl (lv_at hl 3 rfl) ?_
            refine lv_aload_n X.1 X.2.1 d_M_present_75 rfl (lv_at hl 3 rfl) ?_
            refine m_get X Y 102 (by decide) lk_ticketTypes (gf_ticketTypes _ _ _) rfl d_M_present_76 ?_
            refine lv_iload X.1 X.2.1 d_M_present_79 (lv_at hl 2 rfl) ?_
            refine r_iald X Y S (aw_ticketTypes _ _ _ _ _ _ _) rfl (by omega) (show (8 * a1) + a2 < ((32 : Nat) : Int) by omega) (by omega) d_M_present_81 (fun z260 q260 l260 u260 => ?_)
            refine lv_aload_n X.1 X.2.1 d_M_present_82 rfl (lv_at hl 3 rfl) ?_
            refine m_get X Y 60 (by decide) lk_fresh (gf_fresh _ _ _) rfl d_M_present_83 ?_
            refine r_nv (m_run (As := [.int (iI z260), .ref ((q 60))]) (rest := []) (n := 2) X Y hZ hA hml hl.1 (r_M_newKey_fresh l D E h q H.size I105 J105 B259 G105 z260 (by omega) (by omega) S.1 cn ((s105.2.1 33 (by decide)).trans ((s101.2.1 33 (by decide)).trans gcn)) (by omega) (by omega)) kl_M_newKey ks_M_newKey kx_M_newKey ki_M_newKey ini_M hd_M_newKey ⟨Nat.le_of_ble_eq_true rfl, Nat.le_of_ble_eq_true rfl⟩ rfl (Nat.le_of_ble_eq_true rfl) d_M_present_86 ⟨Nat.le_refl _, Nat.le_refl _⟩) X Y hA S (by decide) (by decide) (fun u H locs Y S s261 p261 => ?_)
            obtain ⟨I261, J261, B261, G261⟩ := u
            dsimp only at Y S s261 p261
            have x261 := p261
            obtain ⟨z262, e262, l262, u262⟩ := x261
            refine lv_iconst (v := iI 0) X.1 X.2.1 d_M_present_89 (by decide) ?_
            have J266 : ∀ (n268 : Nat) (z264 : Int) (I263 : Nat → Int32) (J263 : Nat → Int64) (B263 : Nat → Nat → Int32) (G263 : Nat → Nat → Int64) (H : Heap) (locs : List Loc) (ls : Array Slot), (32 - z264).toNat = n268 → (0 ≤ z264) → (z264 ≤ 32) → (I263 33 = iI z262) → mH D E (mA E h q sz) s.heap h q I263 J263 B263 G263 H locs → rS [3, 8, 14, 18, 33, 36, 42, 131] [0, 1, 5, 6, 7, 9, 10, 11, 12, 13, 15, 16, 17, 19, 20, 21, 22, 23, 34, 35, 58, 60, 95, 121, 122, 123, 124, 125, 126, 127] I B I263 B263 → lv_has ls 9 [(0, .ref h), (1, .int (iI a1)), (3, .int (iI a3)), (4, .int (iI ((8 * a1) + a2))), (5, .long v105), (7, .int (iI 1)), (8, .int (iI z264))] → W p l e (mR 8 236) s m AV below meth c H locs 0 0 QQ (F0 m 92 ls []) := by
              intro n268
              induction n268 using Nat.strongRecOn with
              | ind n268 ih267 =>
                intro z264 I263 J263 B263 G263 H locs ls hm269 l264 u264 e265 Y S hl
                refine lv_iload X.1 X.2.1 d_M_present_92 (lv_at hl 6 rfl) ?_
                refine lv_bipush (v := iI 32) X.1 X.2.1 d_M_present_94 (by decide) ?_
                refine z_icmp_ge (tgt := 124) X.1 X.2.1 d_M_present_96 (by decide) ⟨by omega, by omega⟩ ⟨by omega, by omega⟩ (fun h270 => ?_) (fun h270 => ?_)
                · exact J183 z262 I263 J263 B263 G263 _ _ _ e265 (by omega) (by omega) (by omega) Y S (lv_sub hl [0, 1, 2, 3, 4, 5] rfl)
                · refine lv_aload_n X.1 X.2.1 d_M_present_99 rfl (lv_at hl 0 rfl) ?_
                  refine m_get X Y 127 (by decide) lk_apSubs (gf_apSubs _ _ _) rfl d_M_present_100 ?_
                  refine lv_bipush (v := iI 32) X.1 X.2.1 d_M_present_103 (by decide) ?_
                  refine lv_iload_n X.1 X.2.1 d_M_present_105 rfl (lv_at hl 1 rfl) ?_
                  refine z_imul X.1 X.2.1 d_M_present_106 ?_
                  refine lv_iload X.1 X.2.1 d_M_present_107 (lv_at hl 6 rfl) ?_
                  refine z_iadd X.1 X.2.1 d_M_present_109 ?_
                  refine lv_aload_n X.1 X.2.1 d_M_present_110 rfl (lv_at hl 0 rfl) ?_
                  refine m_get X Y 60 (by decide) lk_fresh (gf_fresh _ _ _) rfl d_M_present_111 ?_
                  refine lv_iload X.1 X.2.1 d_M_present_114 (lv_at hl 6 rfl) ?_
                  refine r_bald X Y S (aw_fresh _ _ _ _ _ _ _) rfl (by omega) (show z264 < ((32 : Nat) : Int) by omega) (by omega) d_M_present_116 (fun z271 q271 l271 u271 => ?_)
                  refine r_bast X Y S (aw_apSubs _ _ _ _ _ _ _) (sw_apSubs _ _ _ _ _ _ _) rfl (by omega) (show (32 * a1) + z264 < ((128 : Nat) : Int) by omega) (by omega) (by decide) d_M_present_117 (fun B272 H locs Y S w272 => ?_)
                  refine lv_iinc (v := iI (z264 + 1)) (lv' := [(8, .int (iI (z264 + 1))), (0, .ref h), (1, .int (iI a1)), (3, .int (iI a3)), (4, .int (iI ((8 * a1) + a2))), (5, .long v105), (7, .int (iI 1))]) X.1 X.2.1 d_M_present_118 hl (k := 6) rfl ((iI_add _ _).trans (congrArg iI (by omega))) (by decide) rfl (fun ls hl => ?_)
                  refine lv_goto (tgt := 92) X.1 X.2.1 d_M_present_121 (by decide) ?_
                  exact ih267 ((32 - (z264 + 1)).toNat) (by omega) (z264 + 1) I263 J263 B272 G263 _ _ _ rfl (by omega) (by omega) e265 Y S (lv_sub hl [1, 2, 3, 4, 5, 6, 0] rfl)
            refine lv_istore (lv' := [(8, .int (iI 0)), (7, .int (iI 1)), (5, .long v105), (4, .int (iI ((8 * a1) + a2))), (0, .ref h), (1, .int (iI a1)), (2, .int (iI a2)), (3, .int (iI a3))]) X.1 X.2.1 d_M_present_90 hl (by decide) rfl (fun ls hl => ?_)
            exact J266 _ 0 I261 J261 B261 G261 _ _ _ rfl (by omega) (by omega) e262 Y S (lv_sub hl [4, 5, 7, 3, 2, 1, 0] rfl)
      · refine lv_iconst (v := iI (-1)) X.1 X.2.1 d_M_present_18 (by decide) ?_
        exact m_reti hQQ X Y hr hlk ⟨S, (-1), rfl, ⟨by omega, by omega, ⟨cn, ((s101.2.1 33 (by decide)).trans gcn), by omega, by omega⟩⟩⟩ d_M_present_19
set_option maxHeartbeats 4000000 in
set_option maxRecDepth 100000 in
theorem r_M_putBytes_address (l : Launch) (D : mD) (E : mE) (h : Nat) (q : Nat → Nat) (sz : Nat) (I : Nat → Int32) (J : Nat → Int64) (B : Nat → Nat → Int32) (G : Nat → Nat → Int64) (a2 : Int) (l_a2 : 0 ≤ a2) (u_a2 : a2 ≤ 4) (a3 : Int) (l_a3 : 0 ≤ a3) (u_a3 : a3 ≤ 4) (hT : rT I B) (wn : Int) (gwn : I 42 = iI wn) (lwn : 30000 ≤ wn) (uwn : wn ≤ 60000) (q0 : a2 + a3 ≤ 4) (q1 : 30000 + a3 ≤ wn) : Met l y_M_putBytes (k_M_putBytes :: lw_tg) (mR 2 81) (va_Pc [.ref h, .ref (q 144), .int (iI a2), .int (iI a3)] (mPre D E h q (I, J, B, G) sz)) (va_Qv (rPv [42] [0] I B (fun (u : mS) => (∃ V2 : Int, u.1 42 = iI V2 ∧ wn - (a3) ≤ V2 ∧ V2 ≤ wn) ∧ mmF 30000 60000 (B 0) (u.2.2.1 0))) (mPost D E h q (mA E h q sz)) (mA E h q sz)) 0 0 (mA E h q sz) := by
  refine m_enter (by decide) rfl (Nat.le_of_ble_eq_true rfl) (fun p e s m below meth c ls AV QQ H locs hQQ X Y hZ hA hr hlk hml hl => ?_)
  have Y : mH D E (mA E h q sz) s.heap h q I J B G H locs := Y
  have S : rS [42] [0] I B I B := rS_rf hT
  have hl : lv_has ls 5 [(0, .ref h), (1, .ref ((q 144))), (2, .int (iI a2)), (3, .int (iI a3))] := hl
  refine lv_iload_n X.1 X.2.1 d_M_putBytes_0 rfl (lv_at hl 3 rfl) ?_
  refine lv_iconst (v := iI 1) X.1 X.2.1 d_M_putBytes_1 (by decide) ?_
  refine z_isub X.1 X.2.1 d_M_putBytes_2 ?_
  have J107 : ∀ (n109 : Nat) (z102 : Int) (z104 : Int) (I101 : Nat → Int32) (J101 : Nat → Int64) (B101 : Nat → Nat → Int32) (G101 : Nat → Nat → Int64) (H : Heap) (locs : List Loc) (ls : Array Slot), (z102 - (-1)).toNat = n109 → ((-1) ≤ z102) → (z102 ≤ 3) → (mmF 30000 60000 (B 0) (B101 0)) → (I101 42 = iI z104) → (0 ≤ z104) → (z104 ≤ 60000) → (z104 = wn - (a3 - 1 - z102)) → (z102 ≤ a3 - 1) → mH D E (mA E h q sz) s.heap h q I101 J101 B101 G101 H locs → rS [42] [0] I B I101 B101 → lv_has ls 5 [(0, .ref h), (1, .ref ((q 144))), (2, .int (iI a2)), (4, .int (iI z102))] → W p l e (mR 2 81) s m AV below meth c H locs 0 0 QQ (F0 m 5 ls []) := by
    intro n109
    induction n109 using Nat.strongRecOn with
    | ind n109 ih108 =>
      intro z102 z104 I101 J101 B101 G101 H locs ls hm110 l102 u102 f103 e104 l104 u104 i105 i106 Y S hl
      refine lv_iload X.1 X.2.1 d_M_putBytes_5 (lv_at hl 3 rfl) ?_
      refine z_if_lt (tgt := 26) X.1 X.2.1 d_M_putBytes_7 (by decide) ⟨by omega, by omega⟩ (fun h111 => ?_) (fun h111 => ?_)
      · exact m_retv hQQ X Y hr hlk ⟨S, ⟨⟨z104, e104, by omega, by omega⟩, f103⟩⟩ d_M_putBytes_26
      · refine lv_aload_n X.1 X.2.1 d_M_putBytes_10 rfl (lv_at hl 0 rfl) ?_
        refine lv_aload_n X.1 X.2.1 d_M_putBytes_11 rfl (lv_at hl 1 rfl) ?_
        refine lv_iload_n X.1 X.2.1 d_M_putBytes_12 rfl (lv_at hl 2 rfl) ?_
        refine lv_iload X.1 X.2.1 d_M_putBytes_13 (lv_at hl 3 rfl) ?_
        refine z_iadd X.1 X.2.1 d_M_putBytes_15 ?_
        refine r_bald X Y S (aw_address _ _ _ _ _ _ _) rfl (by omega) (show a2 + z102 < ((4 : Nat) : Int) by omega) (by omega) d_M_putBytes_16 (fun z112 q112 l112 u112 => ?_)
        refine r_nv (m_run (As := [.int (iI z112)]) (rest := []) (n := 1) X Y hZ hA hml hl.1 (r_M_one l D E h q H.size I101 J101 B101 G101 z112 (by omega) (by omega) S.1 z104 e104 (by omega) (by omega)) kl_M_one ks_M_one kx_M_one ki_M_one ini_M hd_M_one ⟨Nat.le_of_ble_eq_true rfl, Nat.le_of_ble_eq_true rfl⟩ rfl (Nat.le_of_ble_eq_true rfl) d_M_putBytes_17 ⟨Nat.le_refl _, Nat.le_refl _⟩) X Y hA S (by decide) (by decide) (fun u H locs Y S s113 p113 => ?_)
        obtain ⟨I113, J113, B113, G113⟩ := u
        dsimp only at Y S s113 p113
        obtain ⟨x113, g113_MF⟩ := p113
        refine lv_iinc (v := iI (z102 - 1)) (lv' := [(4, .int (iI (z102 - 1))), (0, .ref h), (1, .ref ((q 144))), (2, .int (iI a2))]) X.1 X.2.1 d_M_putBytes_20 hl (k := 3) rfl ((iI_add _ _).trans (congrArg iI (by omega))) (by decide) rfl (fun ls hl => ?_)
        refine lv_goto (tgt := 5) X.1 X.2.1 d_M_putBytes_23 (by decide) ?_
        exact ih108 (((z102 - 1) - (-1)).toNat) (by omega) (z102 - 1) (z104 - 1) I113 J113 B113 G113 _ _ _ rfl (by omega) (by omega) (mmF_tr f103 g113_MF (by decide)) (x113.trans (congrArg iI (show (z104 - 1 : Int) = z104 - 1 by omega))) (by omega) (by omega) (by omega) (by omega) Y S (lv_sub hl [1, 2, 3, 0] rfl)
  refine lv_istore (lv' := [(4, .int (iI (a3 - 1))), (0, .ref h), (1, .ref ((q 144))), (2, .int (iI a2)), (3, .int (iI a3))]) X.1 X.2.1 d_M_putBytes_3 hl (by decide) rfl (fun ls hl => ?_)
  exact J107 _ (a3 - 1) wn I J B G _ _ _ rfl (by omega) (by omega) mmF_rf gwn (by omega) (by omega) (by omega) (by omega) Y S (lv_sub hl [1, 2, 3, 0] rfl)
set_option maxHeartbeats 4000000 in
set_option maxRecDepth 100000 in
theorem r_M_octetField_address (l : Launch) (D : mD) (E : mE) (h : Nat) (q : Nat → Nat) (sz : Nat) (I : Nat → Int32) (J : Nat → Int64) (B : Nat → Nat → Int32) (G : Nat → Nat → Int64) (a1 : Int) (l_a1 : (-2147483648) ≤ a1) (u_a1 : a1 ≤ 2147483647) (a3 : Int) (l_a3 : 0 ≤ a3) (u_a3 : a3 ≤ 4) (a4 : Int) (l_a4 : 0 ≤ a4) (u_a4 : a4 ≤ 4) (hT : rT I B) (wn : Int) (gwn : I 42 = iI wn) (lwn : 30100 ≤ wn) (uwn : wn ≤ 60000) (q0 : a3 + a4 ≤ 4) (q1 : 30100 + a4 ≤ wn) : Met l y_M_octetField (k_M_octetField :: lw_tg) (mR 4 128) (va_Pc [.ref h, .int (iI a1), .ref (q 144), .int (iI a3), .int (iI a4)] (mPre D E h q (I, J, B, G) sz)) (va_Qv (rPv [42] [0] I B (fun (u : mS) => (∃ V2 : Int, u.1 42 = iI V2 ∧ wn - (a4 + 8) ≤ V2 ∧ V2 ≤ wn) ∧ mmF 30000 60000 (B 0) (u.2.2.1 0))) (mPost D E h q (mA E h q sz)) (mA E h q sz)) 0 0 (mA E h q sz) := by
  refine m_enter (by decide) rfl (Nat.le_of_ble_eq_true rfl) (fun p e s m below meth c ls AV QQ H locs hQQ X Y hZ hA hr hlk hml hl => ?_)
  have Y : mH D E (mA E h q sz) s.heap h q I J B G H locs := Y
  have S : rS [42] [0] I B I B := rS_rf hT
  have hl : lv_has ls 6 [(0, .ref h), (1, .int (iI a1)), (2, .ref ((q 144))), (3, .int (iI a3)), (4, .int (iI a4))] := hl
  refine lv_aload_n X.1 X.2.1 d_M_octetField_0 rfl (lv_at hl 0 rfl) ?_
  refine r_get0 X Y (by decide) lk_w0 (gf_w0 _ _ _) rfl gwn d_M_octetField_1 ?_
  refine lv_istore (lv' := [(5, .int (iI wn)), (0, .ref h), (1, .int (iI a1)), (2, .ref ((q 144))), (3, .int (iI a3)), (4, .int (iI a4))]) X.1 X.2.1 d_M_octetField_4 hl (by decide) rfl (fun ls hl => ?_)
  refine lv_aload_n X.1 X.2.1 d_M_octetField_6 rfl (lv_at hl 1 rfl) ?_
  refine lv_aload_n X.1 X.2.1 d_M_octetField_7 rfl (lv_at hl 3 rfl) ?_
  refine lv_iload_n X.1 X.2.1 d_M_octetField_8 rfl (lv_at hl 4 rfl) ?_
  refine lv_iload X.1 X.2.1 d_M_octetField_9 (lv_at hl 5 rfl) ?_
  refine r_nv (m_run (As := [.ref ((q 144)), .int (iI a3), .int (iI a4)]) (rest := []) (n := 3) X Y hZ hA hml hl.1 (r_M_putBytes_address l D E h q H.size I J B G a3 (by omega) (by omega) a4 (by omega) (by omega) S.1 wn gwn (by omega) (by omega) (by omega) (by omega)) kl_M_putBytes ks_M_putBytes kx_M_putBytes ki_M_putBytes ini_M hd_M_putBytes ⟨Nat.le_of_ble_eq_true rfl, Nat.le_of_ble_eq_true rfl⟩ rfl (Nat.le_of_ble_eq_true rfl) d_M_octetField_11 ⟨Nat.le_refl _, Nat.le_refl _⟩) X Y hA S (by decide) (by decide) (fun u H locs Y S s101 p101 => ?_)
  obtain ⟨I101, J101, B101, G101⟩ := u
  dsimp only at Y S s101 p101
  obtain ⟨x101, g101_MF⟩ := p101
  obtain ⟨z102, e102, l102, u102⟩ := x101
  refine lv_aload_n X.1 X.2.1 d_M_octetField_14 rfl (lv_at hl 1 rfl) ?_
  refine lv_iconst (v := iI 4) X.1 X.2.1 d_M_octetField_15 (by decide) ?_
  refine lv_iload X.1 X.2.1 d_M_octetField_16 (lv_at hl 0 rfl) ?_
  refine r_nv (m_run (As := [.int (iI 4), .int (iI wn)]) (rest := []) (n := 2) X Y hZ hA hml hl.1 (r_M_head l D E h q H.size I101 J101 B101 G101 4 (by omega) (by omega) wn (by omega) (by omega) S.1 z102 e102 (by omega) (by omega)) kl_M_head ks_M_head kx_M_head ki_M_head ini_M hd_M_head ⟨Nat.le_of_ble_eq_true rfl, Nat.le_of_ble_eq_true rfl⟩ rfl (Nat.le_of_ble_eq_true rfl) d_M_octetField_18 ⟨Nat.le_refl _, Nat.le_refl _⟩) X Y hA S (by decide) (by decide) (fun u H locs Y S s103 p103 => ?_)
  obtain ⟨I103, J103, B103, G103⟩ := u
  dsimp only at Y S s103 p103
  obtain ⟨x103, g103_MF⟩ := p103
  obtain ⟨z104, e104, l104, u104⟩ := x103
  refine lv_aload_n X.1 X.2.1 d_M_octetField_21 rfl (lv_at hl 1 rfl) ?_
  refine lv_iload_n X.1 X.2.1 d_M_octetField_22 rfl (lv_at hl 2 rfl) ?_
  refine lv_iload X.1 X.2.1 d_M_octetField_23 (lv_at hl 0 rfl) ?_
  refine r_nv (m_run (As := [.int (iI a1), .int (iI wn)]) (rest := []) (n := 2) X Y hZ hA hml hl.1 (r_M_field l D E h q H.size I103 J103 B103 G103 a1 (by omega) (by omega) wn (by omega) (by omega) S.1 z104 e104 (by omega) (by omega)) kl_M_field ks_M_field kx_M_field ki_M_field ini_M hd_M_field ⟨Nat.le_of_ble_eq_true rfl, Nat.le_of_ble_eq_true rfl⟩ rfl (Nat.le_of_ble_eq_true rfl) d_M_octetField_25 ⟨Nat.le_refl _, Nat.le_refl _⟩) X Y hA S (by decide) (by decide) (fun u H locs Y S s105 p105 => ?_)
  obtain ⟨I105, J105, B105, G105⟩ := u
  dsimp only at Y S s105 p105
  obtain ⟨x105, g105_MF⟩ := p105
  obtain ⟨z106, e106, l106, u106⟩ := x105
  exact m_retv hQQ X Y hr hlk ⟨S, ⟨⟨z106, e106, by omega, by omega⟩, (mmF_tr (mmF_tr (mmF_tr mmF_rf g101_MF (by decide)) g103_MF (by decide)) g105_MF (by decide))⟩⟩ d_M_octetField_28
set_option maxHeartbeats 4000000 in
set_option maxRecDepth 100000 in
theorem r_M_octetField_mem (l : Launch) (D : mD) (E : mE) (h : Nat) (q : Nat → Nat) (sz : Nat) (I : Nat → Int32) (J : Nat → Int64) (B : Nat → Nat → Int32) (G : Nat → Nat → Int64) (a1 : Int) (l_a1 : (-2147483648) ≤ a1) (u_a1 : a1 ≤ 2147483647) (a3 : Int) (l_a3 : 0 ≤ a3) (u_a3 : a3 ≤ 60000) (a4 : Int) (l_a4 : 0 ≤ a4) (u_a4 : a4 ≤ 19100) (hT : rT I B) (wn : Int) (gwn : I 42 = iI wn) (lwn : 30100 ≤ wn) (uwn : wn ≤ 60000) (q0 : a3 + a4 ≤ 60000) (q1 : 30100 + a4 ≤ wn) : Met l y_M_octetField (k_M_octetField :: lw_tg) (mR 4 128) (va_Pc [.ref h, .int (iI a1), .ref (q 0), .int (iI a3), .int (iI a4)] (mPre D E h q (I, J, B, G) sz)) (va_Qv (rPv [42] [0] I B (fun (u : mS) => (∃ V2 : Int, u.1 42 = iI V2 ∧ wn - (a4 + 8) ≤ V2 ∧ V2 ≤ wn) ∧ mmF 30000 60000 (B 0) (u.2.2.1 0))) (mPost D E h q (mA E h q sz)) (mA E h q sz)) 0 0 (mA E h q sz) := by
  refine m_enter (by decide) rfl (Nat.le_of_ble_eq_true rfl) (fun p e s m below meth c ls AV QQ H locs hQQ X Y hZ hA hr hlk hml hl => ?_)
  have Y : mH D E (mA E h q sz) s.heap h q I J B G H locs := Y
  have S : rS [42] [0] I B I B := rS_rf hT
  have hl : lv_has ls 6 [(0, .ref h), (1, .int (iI a1)), (2, .ref ((q 0))), (3, .int (iI a3)), (4, .int (iI a4))] := hl
  refine lv_aload_n X.1 X.2.1 d_M_octetField_0 rfl (lv_at hl 0 rfl) ?_
  refine r_get0 X Y (by decide) lk_w0 (gf_w0 _ _ _) rfl gwn d_M_octetField_1 ?_
  refine lv_istore (lv' := [(5, .int (iI wn)), (0, .ref h), (1, .int (iI a1)), (2, .ref ((q 0))), (3, .int (iI a3)), (4, .int (iI a4))]) X.1 X.2.1 d_M_octetField_4 hl (by decide) rfl (fun ls hl => ?_)
  refine lv_aload_n X.1 X.2.1 d_M_octetField_6 rfl (lv_at hl 1 rfl) ?_
  refine lv_aload_n X.1 X.2.1 d_M_octetField_7 rfl (lv_at hl 3 rfl) ?_
  refine lv_iload_n X.1 X.2.1 d_M_octetField_8 rfl (lv_at hl 4 rfl) ?_
  refine lv_iload X.1 X.2.1 d_M_octetField_9 (lv_at hl 5 rfl) ?_
  refine r_nv (m_run (As := [.ref ((q 0)), .int (iI a3), .int (iI a4)]) (rest := []) (n := 3) X Y hZ hA hml hl.1 (r_M_putBytes_mem l D E h q H.size I J B G a3 (by omega) (by omega) a4 (by omega) (by omega) S.1 wn gwn (by omega) (by omega) (by omega) (by omega) (by omega)) kl_M_putBytes ks_M_putBytes kx_M_putBytes ki_M_putBytes ini_M hd_M_putBytes ⟨Nat.le_of_ble_eq_true rfl, Nat.le_of_ble_eq_true rfl⟩ rfl (Nat.le_of_ble_eq_true rfl) d_M_octetField_11 ⟨Nat.le_refl _, Nat.le_refl _⟩) X Y hA S (by decide) (by decide) (fun u H locs Y S s101 p101 => ?_)
  obtain ⟨I101, J101, B101, G101⟩ := u
  dsimp only at Y S s101 p101
  obtain ⟨x101, g101_MF⟩ := p101
  obtain ⟨z102, e102, l102, u102⟩ := x101
  refine lv_aload_n X.1 X.2.1 d_M_octetField_14 rfl (lv_at hl 1 rfl) ?_
  refine lv_iconst (v := iI 4) X.1 X.2.1 d_M_octetField_15 (by decide) ?_
  refine lv_iload X.1 X.2.1 d_M_octetField_16 (lv_at hl 0 rfl) ?_
  refine r_nv (m_run (As := [.int (iI 4), .int (iI wn)]) (rest := []) (n := 2) X Y hZ hA hml hl.1 (r_M_head l D E h q H.size I101 J101 B101 G101 4 (by omega) (by omega) wn (by omega) (by omega) S.1 z102 e102 (by omega) (by omega)) kl_M_head ks_M_head kx_M_head ki_M_head ini_M hd_M_head ⟨Nat.le_of_ble_eq_true rfl, Nat.le_of_ble_eq_true rfl⟩ rfl (Nat.le_of_ble_eq_true rfl) d_M_octetField_18 ⟨Nat.le_refl _, Nat.le_refl _⟩) X Y hA S (by decide) (by decide) (fun u H locs Y S s103 p103 => ?_)
  obtain ⟨I103, J103, B103, G103⟩ := u
  dsimp only at Y S s103 p103
  obtain ⟨x103, g103_MF⟩ := p103
  obtain ⟨z104, e104, l104, u104⟩ := x103
  refine lv_aload_n X.1 X.2.1 d_M_octetField_21 rfl (lv_at hl 1 rfl) ?_
  refine lv_iload_n X.1 X.2.1 d_M_octetField_22 rfl (lv_at hl 2 rfl) ?_
  refine lv_iload X.1 X.2.1 d_M_octetField_23 (lv_at hl 0 rfl) ?_
  refine r_nv (m_run (As := [.int (iI a1), .int (iI wn)]) (rest := []) (n := 2) X Y hZ hA hml hl.1 (r_M_field l D E h q H.size I103 J103 B103 G103 a1 (by omega) (by omega) wn (by omega) (by omega) S.1 z104 e104 (by omega) (by omega)) kl_M_field ks_M_field kx_M_field ki_M_field ini_M hd_M_field ⟨Nat.le_of_ble_eq_true rfl, Nat.le_of_ble_eq_true rfl⟩ rfl (Nat.le_of_ble_eq_true rfl) d_M_octetField_25 ⟨Nat.le_refl _, Nat.le_refl _⟩) X Y hA S (by decide) (by decide) (fun u H locs Y S s105 p105 => ?_)
  obtain ⟨I105, J105, B105, G105⟩ := u
  dsimp only at Y S s105 p105
  obtain ⟨x105, g105_MF⟩ := p105
  obtain ⟨z106, e106, l106, u106⟩ := x105
  exact m_retv hQQ X Y hr hlk ⟨S, ⟨⟨z106, e106, by omega, by omega⟩, (mmF_tr (mmF_tr (mmF_tr mmF_rf g101_MF (by decide)) g103_MF (by decide)) g105_MF (by decide))⟩⟩ d_M_octetField_28
set_option maxHeartbeats 4000000 in
set_option maxRecDepth 100000 in
theorem r_M_message (l : Launch) (D : mD) (E : mE) (h : Nat) (q : Nat → Nat) (sz : Nat) (I : Nat → Int32) (J : Nat → Int64) (B : Nat → Nat → Int32) (G : Nat → Nat → Int64) (a1 : Int) (l_a1 : 0 ≤ a1) (u_a1 : a1 ≤ 7) (a2 : Int) (l_a2 : 0 ≤ a2) (u_a2 : a2 ≤ 1) (a3 : Int) (l_a3 : 0 ≤ a3) (u_a3 : a3 ≤ 1000) (hT : rT I B) (wn : Int) (gwn : I 42 = iI wn) (lwn : 40000 ≤ wn) (uwn : wn ≤ 60000) (f_SA : sA a1 a2 (B 135)) : Met l y_M_message (k_M_message :: lw_tg) (mR 5 157) (va_Pc [.ref h, .int (iI a1), .int (iI a2), .int (iI a3)] (mPre D E h q (I, J, B, G) sz)) (va_Qv (rPv [42] [0, 144] I B (fun (u : mS) => (∃ V2 : Int, u.1 42 = iI V2 ∧ wn - (1300) ≤ V2 ∧ V2 ≤ wn) ∧ mmF 30000 60000 (B 0) (u.2.2.1 0))) (mPost D E h q (mA E h q sz)) (mA E h q sz)) 0 0 (mA E h q sz) := by
  refine m_enter (by decide) rfl (Nat.le_of_ble_eq_true rfl) (fun p e s m below meth c ls AV QQ H locs hQQ X Y hZ hA hr hlk hml hl => ?_)
  have Y : mH D E (mA E h q sz) s.heap h q I J B G H locs := Y
  have S : rS [42] [0, 144] I B I B := rS_rf hT
  have hl : lv_has ls 6 [(0, .ref h), (1, .int (iI a1)), (2, .int (iI a2)), (3, .int (iI a3))] := hl
  refine lv_aload_n X.1 X.2.1 d_M_message_0 rfl (lv_at hl 0 rfl) ?_
  refine m_get X Y 144 (by decide) lk_address (gf_address _ _ _) rfl d_M_message_1 ?_
  refine lv_iconst (v := iI 0) X.1 X.2.1 d_M_message_4 (by decide) ?_
  refine lv_bipush (v := iI 10) X.1 X.2.1 d_M_message_5 (by decide) ?_
  refine r_bast X Y S (aw_address _ _ _ _ _ _ _) (sw_address _ _ _ _ _ _ _) rfl (by omega) (show 0 < ((4 : Nat) : Int) by omega) (by omega) (by decide) d_M_message_7 (fun B101 H locs Y S w101 => ?_)
  refine lv_aload_n X.1 X.2.1 d_M_message_8 rfl (lv_at hl 0 rfl) ?_
  refine m_get X Y 144 (by decide) lk_address (gf_address _ _ _) rfl d_M_message_9 ?_
  refine lv_iconst (v := iI 3) X.1 X.2.1 d_M_message_12 (by decide) ?_
  refine lv_iload_n X.1 X.2.1 d_M_message_13 rfl (lv_at hl 2 rfl) ?_
  refine lv_i2b X.1 X.2.1 d_M_message_14 rfl ?_
  refine t_u (fun z102 l102 u102 => ?_)
  refine r_bast X Y S (aw_address _ _ _ _ _ _ _) (sw_address _ _ _ _ _ _ _) rfl (by omega) (show 3 < ((4 : Nat) : Int) by omega) (by omega) (by decide) d_M_message_15 (fun B103 H locs Y S w103 => ?_)
  refine lv_aload_n X.1 X.2.1 d_M_message_16 rfl (lv_at hl 0 rfl) ?_
  refine r_get0 X Y (by decide) lk_w0 (gf_w0 _ _ _) rfl gwn d_M_message_17 ?_
  refine lv_istore (lv' := [(4, .int (iI wn)), (0, .ref h), (1, .int (iI a1)), (2, .int (iI a2)), (3, .int (iI a3))]) X.1 X.2.1 d_M_message_20 hl (by decide) rfl (fun ls hl => ?_)
  refine lv_aload_n X.1 X.2.1 d_M_message_22 rfl (lv_at hl 1 rfl) ?_
  refine r_get0 X Y (by decide) lk_w0 (gf_w0 _ _ _) rfl gwn d_M_message_23 ?_
  refine lv_istore (lv' := [(5, .int (iI wn)), (4, .int (iI wn)), (0, .ref h), (1, .int (iI a1)), (2, .int (iI a2)), (3, .int (iI a3))]) X.1 X.2.1 d_M_message_26 hl (by decide) rfl (fun ls hl => ?_)
  refine lv_aload_n X.1 X.2.1 d_M_message_28 rfl (lv_at hl 2 rfl) ?_
  refine lv_iconst (v := iI 1) X.1 X.2.1 d_M_message_29 (by decide) ?_
  refine lv_aload_n X.1 X.2.1 d_M_message_30 rfl (lv_at hl 2 rfl) ?_
  refine m_get X Y 144 (by decide) lk_address (gf_address _ _ _) rfl d_M_message_31 ?_
  refine lv_iconst (v := iI 0) X.1 X.2.1 d_M_message_34 (by decide) ?_
  refine lv_iconst (v := iI 4) X.1 X.2.1 d_M_message_35 (by decide) ?_
  refine r_nv (m_run (As := [.int (iI 1), .ref ((q 144)), .int (iI 0), .int (iI 4)]) (rest := []) (n := 4) X Y hZ hA hml hl.1 (r_M_octetField_address l D E h q H.size I J B103 G 1 (by omega) (by omega) 0 (by omega) (by omega) 4 (by omega) (by omega) S.1 wn gwn (by omega) (by omega) (by omega) (by omega)) kl_M_octetField ks_M_octetField kx_M_octetField ki_M_octetField ini_M hd_M_octetField ⟨Nat.le_of_ble_eq_true rfl, Nat.le_of_ble_eq_true rfl⟩ rfl (Nat.le_of_ble_eq_true rfl) d_M_message_36 ⟨Nat.le_refl _, Nat.le_refl _⟩) X Y hA S (by decide) (by decide) (fun u H locs Y S s104 p104 => ?_)
  obtain ⟨I104, J104, B104, G104⟩ := u
  dsimp only at Y S s104 p104
  obtain ⟨x104, g104_MF⟩ := p104
  obtain ⟨z105, e105, l105, u105⟩ := x104
  refine lv_aload_n X.1 X.2.1 d_M_message_39 rfl (lv_at hl 2 rfl) ?_
  refine lv_iconst (v := iI 0) X.1 X.2.1 d_M_message_40 (by decide) ?_
  refine lv_ldc2 (v := (2)) X.1 X.2.1 X.2.2.2.1 (X.2.2.1 _ cl_M_810) d_M_message_41 ?_
  refine r_nv (m_run (As := [.int (iI 0), .long ((2))]) (rest := []) (n := 2) X Y hZ hA hml hl.1 (r_M_numberField l D E h q H.size I104 J104 B104 G104 0 (by omega) (by omega) ((2)) S.1 z105 e105 (by omega) (by omega)) kl_M_numberField ks_M_numberField kx_M_numberField ki_M_numberField ini_M hd_M_numberField ⟨Nat.le_of_ble_eq_true rfl, Nat.le_of_ble_eq_true rfl⟩ rfl (Nat.le_of_ble_eq_true rfl) d_M_message_44 ⟨Nat.le_refl _, Nat.le_refl _⟩) X Y hA S (by decide) (by decide) (fun u H locs Y S s106 p106 => ?_)
  obtain ⟨I106, J106, B106, G106⟩ := u
  dsimp only at Y S s106 p106
  obtain ⟨x106, g106_MF⟩ := p106
  obtain ⟨z107, e107, l107, u107⟩ := x106
  refine lv_aload_n X.1 X.2.1 d_M_message_47 rfl (lv_at hl 2 rfl) ?_
  refine lv_bipush (v := iI 48) X.1 X.2.1 d_M_message_48 (by decide) ?_
  refine lv_iload X.1 X.2.1 d_M_message_50 (lv_at hl 1 rfl) ?_
  refine r_nv (m_run (As := [.int (iI 48), .int (iI wn)]) (rest := []) (n := 2) X Y hZ hA hml hl.1 (r_M_head l D E h q H.size I106 J106 B106 G106 48 (by omega) (by omega) wn (by omega) (by omega) S.1 z107 e107 (by omega) (by omega)) kl_M_head ks_M_head kx_M_head ki_M_head ini_M hd_M_head ⟨Nat.le_of_ble_eq_true rfl, Nat.le_of_ble_eq_true rfl⟩ rfl (Nat.le_of_ble_eq_true rfl) d_M_message_52 ⟨Nat.le_refl _, Nat.le_refl _⟩) X Y hA S (by decide) (by decide) (fun u H locs Y S s108 p108 => ?_)
  obtain ⟨I108, J108, B108, G108⟩ := u
  dsimp only at Y S s108 p108
  obtain ⟨x108, g108_MF⟩ := p108
  obtain ⟨z109, e109, l109, u109⟩ := x108
  refine lv_aload_n X.1 X.2.1 d_M_message_55 rfl (lv_at hl 2 rfl) ?_
  refine lv_iconst (v := iI 4) X.1 X.2.1 d_M_message_56 (by decide) ?_
  refine lv_iload X.1 X.2.1 d_M_message_57 (lv_at hl 1 rfl) ?_
  refine r_nv (m_run (As := [.int (iI 4), .int (iI wn)]) (rest := []) (n := 2) X Y hZ hA hml hl.1 (r_M_field l D E h q H.size I108 J108 B108 G108 4 (by omega) (by omega) wn (by omega) (by omega) S.1 z109 e109 (by omega) (by omega)) kl_M_field ks_M_field kx_M_field ki_M_field ini_M hd_M_field ⟨Nat.le_of_ble_eq_true rfl, Nat.le_of_ble_eq_true rfl⟩ rfl (Nat.le_of_ble_eq_true rfl) d_M_message_59 ⟨Nat.le_refl _, Nat.le_refl _⟩) X Y hA S (by decide) (by decide) (fun u H locs Y S s110 p110 => ?_)
  obtain ⟨I110, J110, B110, G110⟩ := u
  dsimp only at Y S s110 p110
  obtain ⟨x110, g110_MF⟩ := p110
  obtain ⟨z111, e111, l111, u111⟩ := x110
  refine lv_aload_n X.1 X.2.1 d_M_message_62 rfl (lv_at hl 2 rfl) ?_
  refine lv_iconst (v := iI 3) X.1 X.2.1 d_M_message_63 (by decide) ?_
  refine lv_aload_n X.1 X.2.1 d_M_message_64 rfl (lv_at hl 2 rfl) ?_
  refine m_get X Y 137 (by decide) lk_ownNumber (gf_ownNumber _ _ _) rfl d_M_message_65 ?_
  refine lv_iconst (v := iI 2) X.1 X.2.1 d_M_message_68 (by decide) ?_
  refine lv_iload_n X.1 X.2.1 d_M_message_69 rfl (lv_at hl 3 rfl) ?_
  refine z_imul X.1 X.2.1 d_M_message_70 ?_
  refine lv_iload_n X.1 X.2.1 d_M_message_71 rfl (lv_at hl 4 rfl) ?_
  refine z_iadd X.1 X.2.1 d_M_message_72 ?_
  refine r_lald X Y (aw_ownNumber _ _ _ _ _ _ _) (by omega) (show (2 * a1) + a2 < ((16 : Nat) : Int) by omega) (by omega) d_M_message_73 (fun v112 => ?_)
  refine r_nv (m_run (As := [.int (iI 3), .long v112]) (rest := []) (n := 2) X Y hZ hA hml hl.1 (r_M_numberField l D E h q H.size I110 J110 B110 G110 3 (by omega) (by omega) v112 S.1 z111 e111 (by omega) (by omega)) kl_M_numberField ks_M_numberField kx_M_numberField ki_M_numberField ini_M hd_M_numberField ⟨Nat.le_of_ble_eq_true rfl, Nat.le_of_ble_eq_true rfl⟩ rfl (Nat.le_of_ble_eq_true rfl) d_M_message_74 ⟨Nat.le_refl _, Nat.le_refl _⟩) X Y hA S (by decide) (by decide) (fun u H locs Y S s113 p113 => ?_)
  obtain ⟨I113, J113, B113, G113⟩ := u
  dsimp only at Y S s113 p113
  obtain ⟨x113, g113_MF⟩ := p113
  obtain ⟨z114, e114, l114, u114⟩ := x113
  refine lv_aload_n X.1 X.2.1 d_M_message_77 rfl (lv_at hl 2 rfl) ?_
  refine lv_iconst (v := iI 2) X.1 X.2.1 d_M_message_78 (by decide) ?_
  refine lv_lconst (v := 0) X.1 X.2.1 d_M_message_79 rfl ?_
  refine r_nv (m_run (As := [.int (iI 2), .long 0]) (rest := []) (n := 2) X Y hZ hA hml hl.1 (r_M_numberField l D E h q H.size I113 J113 B113 G113 2 (by omega) (by omega) 0 S.1 z114 e114 (by omega) (by omega)) kl_M_numberField ks_M_numberField kx_M_numberField ki_M_numberField ini_M hd_M_numberField ⟨Nat.le_of_ble_eq_true rfl, Nat.le_of_ble_eq_true rfl⟩ rfl (Nat.le_of_ble_eq_true rfl) d_M_message_80 ⟨Nat.le_refl _, Nat.le_refl _⟩) X Y hA S (by decide) (by decide) (fun u H locs Y S s115 p115 => ?_)
  obtain ⟨I115, J115, B115, G115⟩ := u
  dsimp only at Y S s115 p115
  have f116 : sA a1 a2 (B115 135) := (sA_cg (s115.2.2 135 (by decide)) (sA_cg (s113.2.2 135 (by decide)) (sA_cg (s110.2.2 135 (by decide)) (sA_cg (s108.2.2 135 (by decide)) (sA_cg (s106.2.2 135 (by decide)) (sA_cg (s104.2.2 135 (by decide)) (sA_cg (w103.2 135 (by decide)) (sA_cg (w101.2 135 (by decide)) f_SA))))))))
  obtain ⟨x115, g115_MF⟩ := p115
  obtain ⟨z117, e117, l117, u117⟩ := x115
  refine lv_aload_n X.1 X.2.1 d_M_message_83 rfl (lv_at hl 2 rfl) ?_
  refine lv_iconst (v := iI 1) X.1 X.2.1 d_M_message_84 (by decide) ?_
  refine lv_aload_n X.1 X.2.1 d_M_message_85 rfl (lv_at hl 2 rfl) ?_
  refine lv_iload_n X.1 X.2.1 d_M_message_86 rfl (lv_at hl 3 rfl) ?_
  refine lv_iload_n X.1 X.2.1 d_M_message_87 rfl (lv_at hl 4 rfl) ?_
  refine r_nl (m_run (As := [.int (iI a1), .int (iI a2)]) (rest := [.int (iI 1), .ref h]) (n := 2) X Y hZ hA hml hl.1 (r_M_clockOfSide l D E h q H.size I115 J115 B115 G115 a1 (by omega) (by omega) a2 (by omega) (by omega) S.1 f116) kl_M_clockOfSide ks_M_clockOfSide kx_M_clockOfSide ki_M_clockOfSide ini_M hd_M_clockOfSide ⟨Nat.le_of_ble_eq_true rfl, Nat.le_of_ble_eq_true rfl⟩ rfl (Nat.le_of_ble_eq_true rfl) d_M_message_88 ⟨Nat.le_refl _, Nat.le_refl _⟩) X Y hA S (by decide) (by decide) (fun v118 u H locs Y S s118 p118 => ?_)
  obtain ⟨I118, J118, B118, G118⟩ := u
  dsimp only at Y S s118 p118
  have f119 : mmF 30000 60000 (B 0) (B118 0) := (mmF_cg (s118.2.2 0 (by decide)) (mmF_tr (mmF_tr (mmF_tr (mmF_tr (mmF_tr (mmF_tr (mmF_cg (w103.2 0 (by decide)) (mmF_cg (w101.2 0 (by decide)) mmF_rf)) g104_MF (by decide)) g106_MF (by decide)) g108_MF (by decide)) g110_MF (by decide)) g113_MF (by decide)) g115_MF (by decide)))
  refine r_nv (m_run (As := [.int (iI 1), .long v118]) (rest := []) (n := 2) X Y hZ hA hml hl.1 (r_M_timeField l D E h q H.size I118 J118 B118 G118 1 (by omega) (by omega) v118 S.1 z117 ((s118.2.1 42 (by decide)).trans e117) (by omega) (by omega)) kl_M_timeField ks_M_timeField kx_M_timeField ki_M_timeField ini_M hd_M_timeField ⟨Nat.le_of_ble_eq_true rfl, Nat.le_of_ble_eq_true rfl⟩ rfl (Nat.le_of_ble_eq_true rfl) d_M_message_91 ⟨Nat.le_refl _, Nat.le_refl _⟩) X Y hA S (by decide) (by decide) (fun u H locs Y S s120 p120 => ?_)
  obtain ⟨I120, J120, B120, G120⟩ := u
  dsimp only at Y S s120 p120
  obtain ⟨x120, g120_MF⟩ := p120
  obtain ⟨z121, e121, l121, u121⟩ := x120
  refine lv_aload_n X.1 X.2.1 d_M_message_94 rfl (lv_at hl 2 rfl) ?_
  refine lv_iconst (v := iI 0) X.1 X.2.1 d_M_message_95 (by decide) ?_
  refine lv_aload_n X.1 X.2.1 d_M_message_96 rfl (lv_at hl 2 rfl) ?_
  refine m_get X Y 0 (by decide) lk_mem (gf_mem _ _ _) rfl d_M_message_97 ?_
  refine lv_iconst (v := iI 0) X.1 X.2.1 d_M_message_100 (by decide) ?_
  refine lv_iload_n X.1 X.2.1 d_M_message_101 rfl (lv_at hl 5 rfl) ?_
  refine r_nv (m_run (As := [.int (iI 0), .ref ((q 0)), .int (iI 0), .int (iI a3)]) (rest := []) (n := 4) X Y hZ hA hml hl.1 (r_M_octetField_mem l D E h q H.size I120 J120 B120 G120 0 (by omega) (by omega) 0 (by omega) (by omega) a3 (by omega) (by omega) S.1 z121 e121 (by omega) (by omega) (by omega) (by omega)) kl_M_octetField ks_M_octetField kx_M_octetField ki_M_octetField ini_M hd_M_octetField ⟨Nat.le_of_ble_eq_true rfl, Nat.le_of_ble_eq_true rfl⟩ rfl (Nat.le_of_ble_eq_true rfl) d_M_message_102 ⟨Nat.le_refl _, Nat.le_refl _⟩) X Y hA S (by decide) (by decide) (fun u H locs Y S s122 p122 => ?_)
  obtain ⟨I122, J122, B122, G122⟩ := u
  dsimp only at Y S s122 p122
  obtain ⟨x122, g122_MF⟩ := p122
  obtain ⟨z123, e123, l123, u123⟩ := x122
  refine lv_aload_n X.1 X.2.1 d_M_message_105 rfl (lv_at hl 2 rfl) ?_
  refine lv_bipush (v := iI 48) X.1 X.2.1 d_M_message_106 (by decide) ?_
  refine lv_iload X.1 X.2.1 d_M_message_108 (lv_at hl 0 rfl) ?_
  refine r_nv (m_run (As := [.int (iI 48), .int (iI wn)]) (rest := []) (n := 2) X Y hZ hA hml hl.1 (r_M_head l D E h q H.size I122 J122 B122 G122 48 (by omega) (by omega) wn (by omega) (by omega) S.1 z123 e123 (by omega) (by omega)) kl_M_head ks_M_head kx_M_head ki_M_head ini_M hd_M_head ⟨Nat.le_of_ble_eq_true rfl, Nat.le_of_ble_eq_true rfl⟩ rfl (Nat.le_of_ble_eq_true rfl) d_M_message_110 ⟨Nat.le_refl _, Nat.le_refl _⟩) X Y hA S (by decide) (by decide) (fun u H locs Y S s124 p124 => ?_)
  obtain ⟨I124, J124, B124, G124⟩ := u
  dsimp only at Y S s124 p124
  obtain ⟨x124, g124_MF⟩ := p124
  obtain ⟨z125, e125, l125, u125⟩ := x124
  refine lv_aload_n X.1 X.2.1 d_M_message_113 rfl (lv_at hl 2 rfl) ?_
  refine m_get X Y 137 (by decide) lk_ownNumber (gf_ownNumber _ _ _) rfl d_M_message_114 ?_
  refine lv_iconst (v := iI 2) X.1 X.2.1 d_M_message_117 (by decide) ?_
  refine lv_iload_n X.1 X.2.1 d_M_message_118 rfl (lv_at hl 3 rfl) ?_
  refine z_imul X.1 X.2.1 d_M_message_119 ?_
  refine lv_iload_n X.1 X.2.1 d_M_message_120 rfl (lv_at hl 4 rfl) ?_
  refine z_iadd X.1 X.2.1 d_M_message_121 ?_
  refine lv_aload_n X.1 X.2.1 d_M_message_122 rfl (lv_at hl 2 rfl) ?_
  refine m_get X Y 137 (by decide) lk_ownNumber (gf_ownNumber _ _ _) rfl d_M_message_123 ?_
  refine lv_iconst (v := iI 2) X.1 X.2.1 d_M_message_126 (by decide) ?_
  refine lv_iload_n X.1 X.2.1 d_M_message_127 rfl (lv_at hl 3 rfl) ?_
  refine z_imul X.1 X.2.1 d_M_message_128 ?_
  refine lv_iload_n X.1 X.2.1 d_M_message_129 rfl (lv_at hl 4 rfl) ?_
  refine z_iadd X.1 X.2.1 d_M_message_130 ?_
  refine r_lald X Y (aw_ownNumber _ _ _ _ _ _ _) (by omega) (show (2 * a1) + a2 < ((16 : Nat) : Int) by omega) (by omega) d_M_message_131 (fun v126 => ?_)
  refine lv_lconst (v := 1) X.1 X.2.1 d_M_message_132 rfl ?_
  refine lv_ladd X.1 X.2.1 d_M_message_133 ?_
  refine t_anyl (fun v127 => ?_)
  refine lv_ldc2 (v := (4294967295)) X.1 X.2.1 X.2.2.2.1 (X.2.2.1 _ cl_M_503) d_M_message_134 ?_
  refine lv_land X.1 X.2.1 d_M_message_137 ?_
  refine t_anyl (fun v128 => ?_)
  refine r_last X Y (aw_ownNumber _ _ _ _ _ _ _) (sw_ownNumber _ _ _ _ _ _ _) (by omega) (show (2 * a1) + a2 < ((16 : Nat) : Int) by omega) (by omega) d_M_message_138 (fun G129 H locs Y => ?_)
  exact m_retv hQQ X Y hr hlk ⟨S, ⟨⟨z125, e125, by omega, by omega⟩, (mmF_tr (mmF_tr (mmF_tr f119 g120_MF (by decide)) g122_MF (by decide)) g124_MF (by decide))⟩⟩ d_M_message_139
set_option maxHeartbeats 4000000 in
set_option maxRecDepth 100000 in
theorem r_M_send (l : Launch) (D : mD) (E : mE) (h : Nat) (q : Nat → Nat) (sz : Nat) (I : Nat → Int32) (J : Nat → Int64) (B : Nat → Nat → Int32) (G : Nat → Nat → Int64) (a1 : Int) (l_a1 : (-2147483648) ≤ a1) (u_a1 : a1 ≤ 2147483647) (a2 : Int) (l_a2 : (-2147483648) ≤ a2) (u_a2 : a2 ≤ 2147483647) (hT : rT I B) (cn : Int) (gcn : I 33 = iI cn) (lcn : 0 ≤ cn) (ucn : cn ≤ 1900000) : Met l y_M_send (k_M_send :: lw_tg) (mR 8 236) (va_Pc [.ref h, .int (iI a1), .int (iI a2)] (mPre D E h q (I, J, B, G) sz)) (va_Qi (rPi [2, 3, 8, 14, 18, 33, 36, 42] [0, 1, 5, 6, 7, 9, 10, 11, 12, 13, 15, 16, 17, 19, 20, 21, 22, 23, 34, 35, 58, 144] I B (fun (z : Int) (u : mS) => (-2147483648) ≤ z ∧ z ≤ 2147483647 ∧ (∃ V2 : Int, u.1 33 = iI V2 ∧ cn ≤ V2 ∧ V2 ≤ cn + 1000))) (mPost D E h q (mA E h q sz)) (mA E h q sz)) 0 0 (mA E h q sz) := by
  refine m_enter (by decide) rfl (Nat.le_of_ble_eq_true rfl) (fun p e s m below meth c ls AV QQ H locs hQQ X Y hZ hA hr hlk hml hl => ?_)
  have Y : mH D E (mA E h q sz) s.heap h q I J B G H locs := Y
  have S : rS [2, 3, 8, 14, 18, 33, 36, 42] [0, 1, 5, 6, 7, 9, 10, 11, 12, 13, 15, 16, 17, 19, 20, 21, 22, 23, 34, 35, 58, 144] I B I B := rS_rf hT
  have hl : lv_has ls 6 [(0, .ref h), (1, .int (iI a1)), (2, .int (iI a2))] := hl
  refine lv_aload_n X.1 X.2.1 d_M_send_0 rfl (lv_at hl 0 rfl) ?_
  refine r_geti (k := 2) X Y S (by decide) lk_length (gf_length _ _ _) rfl rfl d_M_send_1 (fun z101 e101 l101 u101 => ?_)
  refine lv_istore_n (lv' := [(3, .int (iI z101)), (0, .ref h), (1, .int (iI a1)), (2, .int (iI a2))]) X.1 X.2.1 d_M_send_4 rfl hl (by decide) rfl (fun ls hl => ?_)
  refine lv_aload_n X.1 X.2.1 d_M_send_5 rfl (lv_at hl 1 rfl) ?_
  refine lv_iload_n X.1 X.2.1 d_M_send_6 rfl (lv_at hl 2 rfl) ?_
  refine lv_iload_n X.1 X.2.1 d_M_send_7 rfl (lv_at hl 3 rfl) ?_
  refine r_ni (m_run (As := [.int (iI a1), .int (iI a2)]) (rest := []) (n := 2) X Y hZ hA hml hl.1 (r_M_hasSide l D E h q H.size I J B G a1 (by omega) (by omega) a2 (by omega) (by omega) S.1) kl_M_hasSide ks_M_hasSide kx_M_hasSide ki_M_hasSide ini_M hd_M_hasSide ⟨Nat.le_of_ble_eq_true rfl, Nat.le_of_ble_eq_true rfl⟩ rfl (Nat.le_of_ble_eq_true rfl) d_M_send_8 ⟨Nat.le_refl _, Nat.le_refl _⟩) X Y hA S (by decide) (by decide) (fun z102 u H locs Y S s102 p102 => ?_)
  obtain ⟨I102, J102, B102, G102⟩ := u
  dsimp only at Y S s102 p102
  obtain ⟨l102, u102, x102, st102⟩ := p102
  have J103 : ∀  (H : Heap) (locs : List Loc) (ls : Array Slot), mH D E (mA E h q sz) s.heap h q I102 J102 B102 G102 H locs → rS [2, 3, 8, 14, 18, 33, 36, 42] [0, 1, 5, 6, 7, 9, 10, 11, 12, 13, 15, 16, 17, 19, 20, 21, 22, 23, 34, 35, 58, 144] I B I102 B102 → lv_has ls 6 [(0, .ref h), (1, .int (iI a1)), (2, .int (iI a2)), (3, .int (iI z101))] → W p l e (mR 8 236) s m AV below meth c H locs 0 0 QQ (F0 m 25 ls []) := by
    intro  H locs ls  Y S hl
    refine lv_iconst (v := iI 0) X.1 X.2.1 d_M_send_25 (by decide) ?_
    refine lv_istore (lv' := [(4, .int (iI 0)), (0, .ref h), (1, .int (iI a1)), (2, .int (iI a2)), (3, .int (iI z101))]) X.1 X.2.1 d_M_send_26 hl (by decide) rfl (fun ls hl => ?_)
    refine lv_aload_n X.1 X.2.1 d_M_send_28 rfl (lv_at hl 1 rfl) ?_
    refine lv_iconst (v := iI 0) X.1 X.2.1 d_M_send_29 (by decide) ?_
    refine r_puti (k := 2) X Y S (by decide) lk_length rfl rfl (t_M_ok 2 (by decide)) rfl rfl (sf_length _ _ _ _) (Nat.le_of_ble_eq_true rfl) rfl (show (0 : Int) ≤ 0 by omega) (show 0 ≤ (4000 : Int) by omega) ⟨by omega, by omega⟩ (by decide) d_M_send_30 (fun I107 H locs Y S w107 => ?_)
    refine lv_iload X.1 X.2.1 d_M_send_33 (lv_at hl 0 rfl) ?_
    refine z_if_ne (tgt := 40) X.1 X.2.1 d_M_send_35 (by decide) ⟨by omega, by omega⟩ (fun h108 => False.elim (by omega)) (fun h108 => ?_)
    · refine lv_iconst (v := iI (-1)) X.1 X.2.1 d_M_send_38 (by decide) ?_
      exact m_reti hQQ X Y hr hlk ⟨S, (-1), rfl, ⟨by omega, by omega, ⟨cn, ((w107.2 33 (by decide)).trans ((s102.2.1 33 (by decide)).trans gcn)), by omega, by omega⟩⟩⟩ d_M_send_39
  refine z_if_eq (tgt := 25) X.1 X.2.1 d_M_send_11 (by decide) ⟨by omega, by omega⟩ (fun h109 => ?_) (fun h109 => ?_)
  · exact J103  _ _ _  Y S (lv_sub hl [1, 2, 3, 0] rfl)
  · refine lv_iload_n X.1 X.2.1 d_M_send_14 rfl (lv_at hl 0 rfl) ?_
    refine lv_sipush (v := iI 1000) X.1 X.2.1 d_M_send_15 (by decide) ?_
    refine z_icmp_gt (tgt := 25) X.1 X.2.1 d_M_send_18 (by decide) ⟨by omega, by omega⟩ ⟨by omega, by omega⟩ (fun h110 => ?_) (fun h110 => ?_)
    · exact J103  _ _ _  Y S (lv_sub hl [1, 2, 3, 0] rfl)
    · refine lv_iconst (v := iI 1) X.1 X.2.1 d_M_send_21 (by decide) ?_
      refine lv_goto (tgt := 26) X.1 X.2.1 d_M_send_22 (by decide) ?_
      refine lv_istore (lv' := [(4, .int (iI 1)), (3, .int (iI z101)), (0, .ref h), (1, .int (iI a1)), (2, .int (iI a2))]) X.1 X.2.1 d_M_send_26 hl (by decide) rfl (fun ls hl => ?_)
      refine lv_aload_n X.1 X.2.1 d_M_send_28 rfl (lv_at hl 2 rfl) ?_
      refine lv_iconst (v := iI 0) X.1 X.2.1 d_M_send_29 (by decide) ?_
      refine r_puti (k := 2) X Y S (by decide) lk_length rfl rfl (t_M_ok 2 (by decide)) rfl rfl (sf_length _ _ _ _) (Nat.le_of_ble_eq_true rfl) rfl (show (0 : Int) ≤ 0 by omega) (show 0 ≤ (4000 : Int) by omega) ⟨by omega, by omega⟩ (by decide) d_M_send_30 (fun I111 H locs Y S w111 => ?_)
      refine lv_iload X.1 X.2.1 d_M_send_33 (lv_at hl 0 rfl) ?_
      refine z_if_ne (tgt := 40) X.1 X.2.1 d_M_send_35 (by decide) ⟨by omega, by omega⟩ (fun h112 => ?_) (fun h112 => False.elim (by omega))
      · have f113 : sA a1 a2 (B102 135) := st102 (by omega)
        have f114 : sA a1 a2 (B102 135) := st102 (by omega)
        refine lv_aload_n X.1 X.2.1 d_M_send_40 rfl (lv_at hl 2 rfl) ?_
        refine r_nv (m_run (As := []) (rest := []) (n := 0) X Y hZ hA hml hl.1 (r_M_start l D E h q H.size I111 J102 B102 G102 S.1) kl_M_start ks_M_start kx_M_start ki_M_start ini_M hd_M_start ⟨Nat.le_of_ble_eq_true rfl, Nat.le_of_ble_eq_true rfl⟩ rfl (Nat.le_of_ble_eq_true rfl) d_M_send_41 ⟨Nat.le_refl _, Nat.le_refl _⟩) X Y hA S (by decide) (by decide) (fun u H locs Y S s115 p115 => ?_)
        obtain ⟨I115, J115, B115, G115⟩ := u
        dsimp only at Y S s115 p115
        have x115 := p115
        refine lv_aload_n X.1 X.2.1 d_M_send_44 rfl (lv_at hl 2 rfl) ?_
        refine lv_iload_n X.1 X.2.1 d_M_send_45 rfl (lv_at hl 3 rfl) ?_
        refine lv_iload_n X.1 X.2.1 d_M_send_46 rfl (lv_at hl 4 rfl) ?_
        refine lv_iload_n X.1 X.2.1 d_M_send_47 rfl (lv_at hl 1 rfl) ?_
        refine r_nv (m_run (As := [.int (iI a1), .int (iI a2), .int (iI z101)]) (rest := []) (n := 3) X Y hZ hA hml hl.1 (r_M_message l D E h q H.size I115 J115 B115 G115 a1 (by omega) (by omega) a2 (by omega) (by omega) z101 (by omega) (by omega) S.1 60000 (x115.trans (congrArg iI (show (60000 : Int) = 60000 by omega))) (by omega) (by omega) (sA_cg (s115.2.2 135 (by decide)) f114)) kl_M_message ks_M_message kx_M_message ki_M_message ini_M hd_M_message ⟨Nat.le_of_ble_eq_true rfl, Nat.le_of_ble_eq_true rfl⟩ rfl (Nat.le_of_ble_eq_true rfl) d_M_send_48 ⟨Nat.le_refl _, Nat.le_refl _⟩) X Y hA S (by decide) (by decide) (fun u H locs Y S s116 p116 => ?_)
        obtain ⟨I116, J116, B116, G116⟩ := u
        dsimp only at Y S s116 p116
        obtain ⟨x116, g116_MF⟩ := p116
        obtain ⟨z117, e117, l117, u117⟩ := x116
        refine lv_aload_n X.1 X.2.1 d_M_send_51 rfl (lv_at hl 2 rfl) ?_
        refine lv_bipush (v := iI 124) X.1 X.2.1 d_M_send_52 (by decide) ?_
        refine lv_ldc (v := (60000)) X.1 X.2.1 X.2.2.2.1 (X.2.2.1 _ cn_M_9) d_M_send_54 ?_
        refine t_eq (y := iI 60000) (by decide) ?_
        refine r_nv (m_run (As := [.int (iI 124), .int (iI 60000)]) (rest := []) (n := 2) X Y hZ hA hml hl.1 (r_M_head l D E h q H.size I116 J116 B116 G116 124 (by omega) (by omega) 60000 (by omega) (by omega) S.1 z117 e117 (by omega) (by omega)) kl_M_head ks_M_head kx_M_head ki_M_head ini_M hd_M_head ⟨Nat.le_of_ble_eq_true rfl, Nat.le_of_ble_eq_true rfl⟩ rfl (Nat.le_of_ble_eq_true rfl) d_M_send_56 ⟨Nat.le_refl _, Nat.le_refl _⟩) X Y hA S (by decide) (by decide) (fun u H locs Y S s118 p118 => ?_)
        obtain ⟨I118, J118, B118, G118⟩ := u
        dsimp only at Y S s118 p118
        obtain ⟨x118, g118_MF⟩ := p118
        obtain ⟨z119, e119, l119, u119⟩ := x118
        refine lv_iconst (v := iI 0) X.1 X.2.1 d_M_send_59 (by decide) ?_
        have J126 : ∀ (n128 : Nat) (z121 : Int) (I120 : Nat → Int32) (J120 : Nat → Int64) (B120 : Nat → Nat → Int32) (G120 : Nat → Nat → Int64) (H : Heap) (locs : List Loc) (ls : Array Slot), (32 - z121).toNat = n128 → (0 ≤ z121) → (z121 ≤ 32) → (sA a1 a2 (B120 135)) → (I120 42 = iI z119) → (I120 33 = iI cn) → (I120 2 = iI 0) → mH D E (mA E h q sz) s.heap h q I120 J120 B120 G120 H locs → rS [2, 3, 8, 14, 18, 33, 36, 42] [0, 1, 5, 6, 7, 9, 10, 11, 12, 13, 15, 16, 17, 19, 20, 21, 22, 23, 34, 35, 58, 144] I B I120 B120 → lv_has ls 6 [(0, .ref h), (1, .int (iI a1)), (5, .int (iI z121))] → W p l e (mR 8 236) s m AV below meth c H locs 0 0 QQ (F0 m 62 ls []) := by
          intro n128
          induction n128 using Nat.strongRecOn with
          | ind n128 ih127 =>
            intro z121 I120 J120 B120 G120 H locs ls hm129 l121 u121 f122 e123 e124 e125 Y S hl
            refine lv_iload X.1 X.2.1 d_M_send_62 (lv_at hl 2 rfl) ?_
            refine lv_bipush (v := iI 32) X.1 X.2.1 d_M_send_64 (by decide) ?_
            refine z_icmp_ge (tgt := 94) X.1 X.2.1 d_M_send_66 (by decide) ⟨by omega, by omega⟩ ⟨by omega, by omega⟩ (fun h130 => ?_) (fun h130 => ?_)
            · refine lv_aload_n X.1 X.2.1 d_M_send_94 rfl (lv_at hl 0 rfl) ?_
              refine lv_aload_n X.1 X.2.1 d_M_send_95 rfl (lv_at hl 0 rfl) ?_
              refine m_get X Y 58 (by decide) lk_key (gf_key _ _ _) rfl d_M_send_96 ?_
              refine lv_aload_n X.1 X.2.1 d_M_send_99 rfl (lv_at hl 0 rfl) ?_
              refine m_get X Y 134 (by decide) lk_sessionTypes (gf_sessionTypes _ _ _) rfl d_M_send_100 ?_
              refine lv_iload_n X.1 X.2.1 d_M_send_103 rfl (lv_at hl 1 rfl) ?_
              refine r_iald X Y S (aw_sessionTypes _ _ _ _ _ _ _) rfl (by omega) (show a1 < ((8 : Nat) : Int) by omega) (by omega) d_M_send_104 (fun z131 q131 l131 u131 => ?_)
              refine lv_bipush (v := iI 13) X.1 X.2.1 d_M_send_105 (by decide) ?_
              refine lv_aload_n X.1 X.2.1 d_M_send_107 rfl (lv_at hl 0 rfl) ?_
              refine r_get0 X Y (by decide) lk_w0 (gf_w0 _ _ _) rfl e123 d_M_send_108 ?_
              refine lv_ldc (v := (60000)) X.1 X.2.1 X.2.2.2.1 (X.2.2.1 _ cn_M_9) d_M_send_111 ?_
              refine t_eq (y := iI 60000) (by decide) ?_
              refine r_nv (m_run (As := [.ref ((q 58)), .int (iI z131), .int (iI 13), .int (iI z119), .int (iI 60000)]) (rest := []) (n := 5) X Y hZ hA hml hl.1 (r_M_seal_key l D E h q H.size I120 J120 B120 G120 z131 (by omega) (by omega) 13 (by omega) (by omega) z119 (by omega) (by omega) 60000 (by omega) (by omega) S.1 cn e124 (by omega) (by omega) (by omega) (by omega)) kl_M_seal ks_M_seal kx_M_seal ki_M_seal ini_M hd_M_seal ⟨Nat.le_of_ble_eq_true rfl, Nat.le_of_ble_eq_true rfl⟩ rfl (Nat.le_of_ble_eq_true rfl) d_M_send_113 ⟨Nat.le_refl _, Nat.le_refl _⟩) X Y hA S (by decide) (by decide) (fun u H locs Y S s132 p132 => ?_)
              obtain ⟨I132, J132, B132, G132⟩ := u
              dsimp only at Y S s132 p132
              have x132 := p132
              obtain ⟨x132_0, x132_1⟩ := x132
              refine lv_aload_n X.1 X.2.1 d_M_send_116 rfl (lv_at hl 0 rfl) ?_
              refine r_nv (m_run (As := []) (rest := []) (n := 0) X Y hZ hA hml hl.1 (r_M_start l D E h q H.size I132 J132 B132 G132 S.1) kl_M_start ks_M_start kx_M_start ki_M_start ini_M hd_M_start ⟨Nat.le_of_ble_eq_true rfl, Nat.le_of_ble_eq_true rfl⟩ rfl (Nat.le_of_ble_eq_true rfl) d_M_send_117 ⟨Nat.le_refl _, Nat.le_refl _⟩) X Y hA S (by decide) (by decide) (fun u H locs Y S s133 p133 => ?_)
              obtain ⟨I133, J133, B133, G133⟩ := u
              dsimp only at Y S s133 p133
              have x133 := p133
              refine lv_aload_n X.1 X.2.1 d_M_send_120 rfl (lv_at hl 0 rfl) ?_
              refine lv_iconst (v := iI 3) X.1 X.2.1 d_M_send_121 (by decide) ?_
              refine lv_aload_n X.1 X.2.1 d_M_send_122 rfl (lv_at hl 0 rfl) ?_
              refine m_get X Y 134 (by decide) lk_sessionTypes (gf_sessionTypes _ _ _) rfl d_M_send_123 ?_
              refine lv_iload_n X.1 X.2.1 d_M_send_126 rfl (lv_at hl 1 rfl) ?_
              refine r_iald X Y S (aw_sessionTypes _ _ _ _ _ _ _) rfl (by omega) (show a1 < ((8 : Nat) : Int) by omega) (by omega) d_M_send_127 (fun z134 q134 l134 u134 => ?_)
              refine lv_lconst (v := 0) X.1 X.2.1 d_M_send_128 rfl ?_
              refine r_nv (m_run (As := [.int (iI 3), .int (iI z134), .long 0]) (rest := []) (n := 3) X Y hZ hA hml hl.1 (r_M_sealedField l D E h q H.size I133 J133 B133 G133 3 (by omega) (by omega) z134 (by omega) (by omega) 0 S.1 60000 (x133.trans (congrArg iI (show (60000 : Int) = 60000 by omega))) (by omega) (by omega) (60000 - z119 + 28) ((s133.2.1 36 (by decide)).trans (x132_0.trans (congrArg iI (show (60000 - z119 + 28 : Int) = 60000 - z119 + 28 by omega)))) (by omega) (by omega) (by omega)) kl_M_sealedField ks_M_sealedField kx_M_sealedField ki_M_sealedField ini_M hd_M_sealedField ⟨Nat.le_of_ble_eq_true rfl, Nat.le_of_ble_eq_true rfl⟩ rfl (Nat.le_of_ble_eq_true rfl) d_M_send_129 ⟨Nat.le_refl _, Nat.le_refl _⟩) X Y hA S (by decide) (by decide) (fun u H locs Y S s135 p135 => ?_)
              obtain ⟨I135, J135, B135, G135⟩ := u
              dsimp only at Y S s135 p135
              obtain ⟨x135, g135_MF⟩ := p135
              obtain ⟨z136, e136, l136, u136⟩ := x135
              refine lv_aload_n X.1 X.2.1 d_M_send_132 rfl (lv_at hl 0 rfl) ?_
              refine lv_iconst (v := iI 1) X.1 X.2.1 d_M_send_133 (by decide) ?_
              refine lv_ldc2 (v := (21)) X.1 X.2.1 X.2.2.2.1 (X.2.2.1 _ cl_M_996) d_M_send_134 ?_
              refine r_nv (m_run (As := [.int (iI 1), .long ((21))]) (rest := []) (n := 2) X Y hZ hA hml hl.1 (r_M_numberField l D E h q H.size I135 J135 B135 G135 1 (by omega) (by omega) ((21)) S.1 z136 e136 (by omega) (by omega)) kl_M_numberField ks_M_numberField kx_M_numberField ki_M_numberField ini_M hd_M_numberField ⟨Nat.le_of_ble_eq_true rfl, Nat.le_of_ble_eq_true rfl⟩ rfl (Nat.le_of_ble_eq_true rfl) d_M_send_137 ⟨Nat.le_refl _, Nat.le_refl _⟩) X Y hA S (by decide) (by decide) (fun u H locs Y S s137 p137 => ?_)
              obtain ⟨I137, J137, B137, G137⟩ := u
              dsimp only at Y S s137 p137
              obtain ⟨x137, g137_MF⟩ := p137
              obtain ⟨z138, e138, l138, u138⟩ := x137
              refine lv_aload_n X.1 X.2.1 d_M_send_140 rfl (lv_at hl 0 rfl) ?_
              refine lv_iconst (v := iI 0) X.1 X.2.1 d_M_send_141 (by decide) ?_
              refine lv_ldc2 (v := (5)) X.1 X.2.1 X.2.2.2.1 (X.2.2.1 _ cl_M_669) d_M_send_142 ?_
              refine r_nv (m_run (As := [.int (iI 0), .long ((5))]) (rest := []) (n := 2) X Y hZ hA hml hl.1 (r_M_numberField l D E h q H.size I137 J137 B137 G137 0 (by omega) (by omega) ((5)) S.1 z138 e138 (by omega) (by omega)) kl_M_numberField ks_M_numberField kx_M_numberField ki_M_numberField ini_M hd_M_numberField ⟨Nat.le_of_ble_eq_true rfl, Nat.le_of_ble_eq_true rfl⟩ rfl (Nat.le_of_ble_eq_true rfl) d_M_send_145 ⟨Nat.le_refl _, Nat.le_refl _⟩) X Y hA S (by decide) (by decide) (fun u H locs Y S s139 p139 => ?_)
              obtain ⟨I139, J139, B139, G139⟩ := u
              dsimp only at Y S s139 p139
              obtain ⟨x139, g139_MF⟩ := p139
              obtain ⟨z140, e140, l140, u140⟩ := x139
              refine lv_aload_n X.1 X.2.1 d_M_send_148 rfl (lv_at hl 0 rfl) ?_
              refine lv_bipush (v := iI 48) X.1 X.2.1 d_M_send_149 (by decide) ?_
              refine lv_ldc (v := (60000)) X.1 X.2.1 X.2.2.2.1 (X.2.2.1 _ cn_M_9) d_M_send_151 ?_
              refine t_eq (y := iI 60000) (by decide) ?_
              refine r_nv (m_run (As := [.int (iI 48), .int (iI 60000)]) (rest := []) (n := 2) X Y hZ hA hml hl.1 (r_M_head l D E h q H.size I139 J139 B139 G139 48 (by omega) (by omega) 60000 (by omega) (by omega) S.1 z140 e140 (by omega) (by omega)) kl_M_head ks_M_head kx_M_head ki_M_head ini_M hd_M_head ⟨Nat.le_of_ble_eq_true rfl, Nat.le_of_ble_eq_true rfl⟩ rfl (Nat.le_of_ble_eq_true rfl) d_M_send_153 ⟨Nat.le_refl _, Nat.le_refl _⟩) X Y hA S (by decide) (by decide) (fun u H locs Y S s141 p141 => ?_)
              obtain ⟨I141, J141, B141, G141⟩ := u
              dsimp only at Y S s141 p141
              obtain ⟨x141, g141_MF⟩ := p141
              obtain ⟨z142, e142, l142, u142⟩ := x141
              refine lv_aload_n X.1 X.2.1 d_M_send_156 rfl (lv_at hl 0 rfl) ?_
              refine lv_bipush (v := iI 117) X.1 X.2.1 d_M_send_157 (by decide) ?_
              refine lv_ldc (v := (60000)) X.1 X.2.1 X.2.2.2.1 (X.2.2.1 _ cn_M_9) d_M_send_159 ?_
              refine t_eq (y := iI 60000) (by decide) ?_
              refine r_nv (m_run (As := [.int (iI 117), .int (iI 60000)]) (rest := []) (n := 2) X Y hZ hA hml hl.1 (r_M_head l D E h q H.size I141 J141 B141 G141 117 (by omega) (by omega) 60000 (by omega) (by omega) S.1 z142 e142 (by omega) (by omega)) kl_M_head ks_M_head kx_M_head ki_M_head ini_M hd_M_head ⟨Nat.le_of_ble_eq_true rfl, Nat.le_of_ble_eq_true rfl⟩ rfl (Nat.le_of_ble_eq_true rfl) d_M_send_161 ⟨Nat.le_refl _, Nat.le_refl _⟩) X Y hA S (by decide) (by decide) (fun u H locs Y S s143 p143 => ?_)
              obtain ⟨I143, J143, B143, G143⟩ := u
              dsimp only at Y S s143 p143
              obtain ⟨x143, g143_MF⟩ := p143
              obtain ⟨z144, e144, l144, u144⟩ := x143
              refine lv_aload_n X.1 X.2.1 d_M_send_164 rfl (lv_at hl 0 rfl) ?_
              refine r_nv (m_run (As := []) (rest := []) (n := 0) X Y hZ hA hml hl.1 (r_M_written l D E h q H.size I143 J143 B143 G143 S.1 z144 e144 (by omega) (by omega)) kl_M_written ks_M_written kx_M_written ki_M_written ini_M hd_M_written ⟨Nat.le_of_ble_eq_true rfl, Nat.le_of_ble_eq_true rfl⟩ rfl (Nat.le_of_ble_eq_true rfl) d_M_send_165 ⟨Nat.le_refl _, Nat.le_refl _⟩) X Y hA S (by decide) (by decide) (fun u H locs Y S s145 p145 => ?_)
              obtain ⟨I145, J145, B145, G145⟩ := u
              dsimp only at Y S s145 p145
              have f146 : sA a1 a2 (B145 135) := (sA_cg (s145.2.2 135 (by decide)) (sA_cg (s143.2.2 135 (by decide)) (sA_cg (s141.2.2 135 (by decide)) (sA_cg (s139.2.2 135 (by decide)) (sA_cg (s137.2.2 135 (by decide)) (sA_cg (s135.2.2 135 (by decide)) (sA_cg (s133.2.2 135 (by decide)) (sA_cg (s132.2.2 135 (by decide)) f122))))))))
              have g145_MF := p145
              refine lv_aload_n X.1 X.2.1 d_M_send_168 rfl (lv_at hl 0 rfl) ?_
              refine r_geti (k := 3) X Y S (by decide) lk_outMany (gf_outMany _ _ _) rfl rfl d_M_send_169 (fun z147 e147 l147 u147 => ?_)
              exact m_reti hQQ X Y hr hlk ⟨S, z147, rfl, ⟨by omega, by omega, ⟨cn + 16, ((s145.2.1 33 (by decide)).trans ((s143.2.1 33 (by decide)).trans ((s141.2.1 33 (by decide)).trans ((s139.2.1 33 (by decide)).trans ((s137.2.1 33 (by decide)).trans ((s135.2.1 33 (by decide)).trans ((s133.2.1 33 (by decide)).trans (x132_1.trans (congrArg iI (show (cn + 16 : Int) = cn + 16 by omega)))))))))), by omega, by omega⟩⟩⟩ d_M_send_172
            · refine lv_aload_n X.1 X.2.1 d_M_send_69 rfl (lv_at hl 0 rfl) ?_
              refine m_get X Y 58 (by decide) lk_key (gf_key _ _ _) rfl d_M_send_70 ?_
              refine lv_iload X.1 X.2.1 d_M_send_73 (lv_at hl 2 rfl) ?_
              refine lv_aload_n X.1 X.2.1 d_M_send_75 rfl (lv_at hl 0 rfl) ?_
              refine m_get X Y 136 (by decide) lk_sessionKeys (gf_sessionKeys _ _ _) rfl d_M_send_76 ?_
              refine lv_bipush (v := iI 32) X.1 X.2.1 d_M_send_79 (by decide) ?_
              refine lv_iload_n X.1 X.2.1 d_M_send_81 rfl (lv_at hl 1 rfl) ?_
              refine z_imul X.1 X.2.1 d_M_send_82 ?_
              refine lv_iload X.1 X.2.1 d_M_send_83 (lv_at hl 2 rfl) ?_
              refine z_iadd X.1 X.2.1 d_M_send_85 ?_
              refine r_bald X Y S (aw_sessionKeys _ _ _ _ _ _ _) rfl (by omega) (show (32 * a1) + z121 < ((256 : Nat) : Int) by omega) (by omega) d_M_send_86 (fun z148 q148 l148 u148 => ?_)
              refine r_bast X Y S (aw_key _ _ _ _ _ _ _) (sw_key _ _ _ _ _ _ _) rfl (by omega) (show z121 < ((32 : Nat) : Int) by omega) (by omega) (by decide) d_M_send_87 (fun B149 H locs Y S w149 => ?_)
              refine lv_iinc (v := iI (z121 + 1)) (lv' := [(5, .int (iI (z121 + 1))), (0, .ref h), (1, .int (iI a1))]) X.1 X.2.1 d_M_send_88 hl (k := 2) rfl ((iI_add _ _).trans (congrArg iI (by omega))) (by decide) rfl (fun ls hl => ?_)
              refine lv_goto (tgt := 62) X.1 X.2.1 d_M_send_91 (by decide) ?_
              exact ih127 ((32 - (z121 + 1)).toNat) (by omega) (z121 + 1) I120 J120 B149 G120 _ _ _ rfl (by omega) (by omega) (sA_cg (w149.2 135 (by decide)) f122) e123 e124 e125 Y S (lv_sub hl [1, 2, 0] rfl)
        refine lv_istore (lv' := [(5, .int (iI 0)), (4, .int (iI 1)), (3, .int (iI z101)), (0, .ref h), (1, .int (iI a1)), (2, .int (iI a2))]) X.1 X.2.1 d_M_send_60 hl (by decide) rfl (fun ls hl => ?_)
        exact J126 _ 0 I118 J118 B118 G118 _ _ _ rfl (by omega) (by omega) (sA_cg (s118.2.2 135 (by decide)) (sA_cg (s116.2.2 135 (by decide)) (sA_cg (s115.2.2 135 (by decide)) f114))) e119 ((s118.2.1 33 (by decide)).trans ((s116.2.1 33 (by decide)).trans ((s115.2.1 33 (by decide)).trans ((w111.2 33 (by decide)).trans ((s102.2.1 33 (by decide)).trans gcn))))) ((s118.2.1 2 (by decide)).trans ((s116.2.1 2 (by decide)).trans ((s115.2.1 2 (by decide)).trans w111.1))) Y S (lv_sub hl [3, 4, 0] rfl)
set_option maxHeartbeats 4000000 in
set_option maxRecDepth 100000 in
theorem r_M_assure (l : Launch) (D : mD) (E : mE) (h : Nat) (q : Nat → Nat) (sz : Nat) (I : Nat → Int32) (J : Nat → Int64) (B : Nat → Nat → Int32) (G : Nat → Nat → Int64) (a1 : Int) (l_a1 : (-2147483648) ≤ a1) (u_a1 : a1 ≤ 2147483647) (a2 : Int) (l_a2 : (-2147483648) ≤ a2) (u_a2 : a2 ≤ 2147483647) (hT : rT I B) : Met l y_M_assure (k_M_assure :: lw_tg) (mR 8 232) (va_Pc [.ref h, .int (iI a1), .int (iI a2)] (mPre D E h q (I, J, B, G) sz)) (va_Qi (rPi [2, 3, 8, 14, 18, 42] [0, 1, 5, 6, 7, 9, 10, 11, 12, 13, 15, 16, 17, 19, 20, 21, 22, 23, 58, 132, 144] I B (fun (z : Int) (u : mS) => (-2147483648) ≤ z ∧ z ≤ 2147483647)) (mPost D E h q (mA E h q sz)) (mA E h q sz)) 0 0 (mA E h q sz) := by
  refine m_enter (by decide) rfl (Nat.le_of_ble_eq_true rfl) (fun p e s m below meth c ls AV QQ H locs hQQ X Y hZ hA hr hlk hml hl => ?_)
  have Y : mH D E (mA E h q sz) s.heap h q I J B G H locs := Y
  have S : rS [2, 3, 8, 14, 18, 42] [0, 1, 5, 6, 7, 9, 10, 11, 12, 13, 15, 16, 17, 19, 20, 21, 22, 23, 58, 132, 144] I B I B := rS_rf hT
  have hl : lv_has ls 7 [(0, .ref h), (1, .int (iI a1)), (2, .int (iI a2))] := hl
  refine lv_aload_n X.1 X.2.1 d_M_assure_0 rfl (lv_at hl 0 rfl) ?_
  refine r_geti (k := 2) X Y S (by decide) lk_length (gf_length _ _ _) rfl rfl d_M_assure_1 (fun z101 e101 l101 u101 => ?_)
  refine lv_istore_n (lv' := [(3, .int (iI z101)), (0, .ref h), (1, .int (iI a1)), (2, .int (iI a2))]) X.1 X.2.1 d_M_assure_4 rfl hl (by decide) rfl (fun ls hl => ?_)
  refine lv_aload_n X.1 X.2.1 d_M_assure_5 rfl (lv_at hl 1 rfl) ?_
  refine lv_iload_n X.1 X.2.1 d_M_assure_6 rfl (lv_at hl 2 rfl) ?_
  refine lv_iload_n X.1 X.2.1 d_M_assure_7 rfl (lv_at hl 3 rfl) ?_
  refine r_ni (m_run (As := [.int (iI a1), .int (iI a2)]) (rest := []) (n := 2) X Y hZ hA hml hl.1 (r_M_hasSide l D E h q H.size I J B G a1 (by omega) (by omega) a2 (by omega) (by omega) S.1) kl_M_hasSide ks_M_hasSide kx_M_hasSide ki_M_hasSide ini_M hd_M_hasSide ⟨Nat.le_of_ble_eq_true rfl, Nat.le_of_ble_eq_true rfl⟩ rfl (Nat.le_of_ble_eq_true rfl) d_M_assure_8 ⟨Nat.le_refl _, Nat.le_refl _⟩) X Y hA S (by decide) (by decide) (fun z102 u H locs Y S s102 p102 => ?_)
  obtain ⟨I102, J102, B102, G102⟩ := u
  dsimp only at Y S s102 p102
  obtain ⟨l102, u102, x102, st102⟩ := p102
  have J103 : ∀  (H : Heap) (locs : List Loc) (ls : Array Slot), mH D E (mA E h q sz) s.heap h q I102 J102 B102 G102 H locs → rS [2, 3, 8, 14, 18, 42] [0, 1, 5, 6, 7, 9, 10, 11, 12, 13, 15, 16, 17, 19, 20, 21, 22, 23, 58, 132, 144] I B I102 B102 → lv_has ls 7 [(0, .ref h), (1, .int (iI a1)), (2, .int (iI a2)), (3, .int (iI z101))] → W p l e (mR 8 232) s m AV below meth c H locs 0 0 QQ (F0 m 25 ls []) := by
    intro  H locs ls  Y S hl
    refine lv_iconst (v := iI 0) X.1 X.2.1 d_M_assure_25 (by decide) ?_
    refine lv_istore (lv' := [(4, .int (iI 0)), (0, .ref h), (1, .int (iI a1)), (2, .int (iI a2)), (3, .int (iI z101))]) X.1 X.2.1 d_M_assure_26 hl (by decide) rfl (fun ls hl => ?_)
    refine lv_aload_n X.1 X.2.1 d_M_assure_28 rfl (lv_at hl 1 rfl) ?_
    refine lv_iconst (v := iI 0) X.1 X.2.1 d_M_assure_29 (by decide) ?_
    refine r_puti (k := 2) X Y S (by decide) lk_length rfl rfl (t_M_ok 2 (by decide)) rfl rfl (sf_length _ _ _ _) (Nat.le_of_ble_eq_true rfl) rfl (show (0 : Int) ≤ 0 by omega) (show 0 ≤ (4000 : Int) by omega) ⟨by omega, by omega⟩ (by decide) d_M_assure_30 (fun I107 H locs Y S w107 => ?_)
    refine lv_iload X.1 X.2.1 d_M_assure_33 (lv_at hl 0 rfl) ?_
    refine z_if_ne (tgt := 40) X.1 X.2.1 d_M_assure_35 (by decide) ⟨by omega, by omega⟩ (fun h108 => False.elim (by omega)) (fun h108 => ?_)
    · refine lv_iconst (v := iI (-1)) X.1 X.2.1 d_M_assure_38 (by decide) ?_
      exact m_reti hQQ X Y hr hlk ⟨S, (-1), rfl, ⟨by omega, by omega⟩⟩ d_M_assure_39
  refine z_if_eq (tgt := 25) X.1 X.2.1 d_M_assure_11 (by decide) ⟨by omega, by omega⟩ (fun h109 => ?_) (fun h109 => ?_)
  · exact J103  _ _ _  Y S (lv_sub hl [1, 2, 3, 0] rfl)
  · refine lv_iload_n X.1 X.2.1 d_M_assure_14 rfl (lv_at hl 0 rfl) ?_
    refine lv_sipush (v := iI 1000) X.1 X.2.1 d_M_assure_15 (by decide) ?_
    refine z_icmp_gt (tgt := 25) X.1 X.2.1 d_M_assure_18 (by decide) ⟨by omega, by omega⟩ ⟨by omega, by omega⟩ (fun h110 => ?_) (fun h110 => ?_)
    · exact J103  _ _ _  Y S (lv_sub hl [1, 2, 3, 0] rfl)
    · refine lv_iconst (v := iI 1) X.1 X.2.1 d_M_assure_21 (by decide) ?_
      refine lv_goto (tgt := 26) X.1 X.2.1 d_M_assure_22 (by decide) ?_
      refine lv_istore (lv' := [(4, .int (iI 1)), (3, .int (iI z101)), (0, .ref h), (1, .int (iI a1)), (2, .int (iI a2))]) X.1 X.2.1 d_M_assure_26 hl (by decide) rfl (fun ls hl => ?_)
      refine lv_aload_n X.1 X.2.1 d_M_assure_28 rfl (lv_at hl 2 rfl) ?_
      refine lv_iconst (v := iI 0) X.1 X.2.1 d_M_assure_29 (by decide) ?_
      refine r_puti (k := 2) X Y S (by decide) lk_length rfl rfl (t_M_ok 2 (by decide)) rfl rfl (sf_length _ _ _ _) (Nat.le_of_ble_eq_true rfl) rfl (show (0 : Int) ≤ 0 by omega) (show 0 ≤ (4000 : Int) by omega) ⟨by omega, by omega⟩ (by decide) d_M_assure_30 (fun I111 H locs Y S w111 => ?_)
      refine lv_iload X.1 X.2.1 d_M_assure_33 (lv_at hl 0 rfl) ?_
      refine z_if_ne (tgt := 40) X.1 X.2.1 d_M_assure_35 (by decide) ⟨by omega, by omega⟩ (fun h112 => ?_) (fun h112 => False.elim (by omega))
      · have f113 : sA a1 a2 (B102 135) := st102 (by omega)
        have f114 : sA a1 a2 (B102 135) := st102 (by omega)
        refine lv_aload_n X.1 X.2.1 d_M_assure_40 rfl (lv_at hl 2 rfl) ?_
        refine r_nv (m_run (As := []) (rest := []) (n := 0) X Y hZ hA hml hl.1 (r_M_start l D E h q H.size I111 J102 B102 G102 S.1) kl_M_start ks_M_start kx_M_start ki_M_start ini_M hd_M_start ⟨Nat.le_of_ble_eq_true rfl, Nat.le_of_ble_eq_true rfl⟩ rfl (Nat.le_of_ble_eq_true rfl) d_M_assure_41 ⟨Nat.le_refl _, Nat.le_refl _⟩) X Y hA S (by decide) (by decide) (fun u H locs Y S s115 p115 => ?_)
        obtain ⟨I115, J115, B115, G115⟩ := u
        dsimp only at Y S s115 p115
        have x115 := p115
        refine lv_aload_n X.1 X.2.1 d_M_assure_44 rfl (lv_at hl 2 rfl) ?_
        refine lv_iload_n X.1 X.2.1 d_M_assure_45 rfl (lv_at hl 3 rfl) ?_
        refine lv_iload_n X.1 X.2.1 d_M_assure_46 rfl (lv_at hl 4 rfl) ?_
        refine lv_iload_n X.1 X.2.1 d_M_assure_47 rfl (lv_at hl 1 rfl) ?_
        refine r_nv (m_run (As := [.int (iI a1), .int (iI a2), .int (iI z101)]) (rest := []) (n := 3) X Y hZ hA hml hl.1 (r_M_message l D E h q H.size I115 J115 B115 G115 a1 (by omega) (by omega) a2 (by omega) (by omega) z101 (by omega) (by omega) S.1 60000 (x115.trans (congrArg iI (show (60000 : Int) = 60000 by omega))) (by omega) (by omega) (sA_cg (s115.2.2 135 (by decide)) f114)) kl_M_message ks_M_message kx_M_message ki_M_message ini_M hd_M_message ⟨Nat.le_of_ble_eq_true rfl, Nat.le_of_ble_eq_true rfl⟩ rfl (Nat.le_of_ble_eq_true rfl) d_M_assure_48 ⟨Nat.le_refl _, Nat.le_refl _⟩) X Y hA S (by decide) (by decide) (fun u H locs Y S s116 p116 => ?_)
        obtain ⟨I116, J116, B116, G116⟩ := u
        dsimp only at Y S s116 p116
        obtain ⟨x116, g116_MF⟩ := p116
        obtain ⟨z117, e117, l117, u117⟩ := x116
        refine lv_ldc (v := (60000)) X.1 X.2.1 X.2.2.2.1 (X.2.2.1 _ cn_M_9) d_M_assure_51 ?_
        refine t_eq (y := iI 60000) (by decide) ?_
        refine lv_aload_n X.1 X.2.1 d_M_assure_53 rfl (lv_at hl 2 rfl) ?_
        refine r_get0 X Y (by decide) lk_w0 (gf_w0 _ _ _) rfl e117 d_M_assure_54 ?_
        refine z_isub X.1 X.2.1 d_M_assure_57 ?_
        refine lv_istore (lv' := [(5, .int (iI (60000 - z117))), (4, .int (iI 1)), (3, .int (iI z101)), (0, .ref h), (1, .int (iI a1)), (2, .int (iI a2))]) X.1 X.2.1 d_M_assure_58 hl (by decide) rfl (fun ls hl => ?_)
        refine lv_iconst (v := iI 0) X.1 X.2.1 d_M_assure_60 (by decide) ?_
        have J123 : ∀ (n125 : Nat) (z119 : Int) (I118 : Nat → Int32) (J118 : Nat → Int64) (B118 : Nat → Nat → Int32) (G118 : Nat → Nat → Int64) (H : Heap) (locs : List Loc) (ls : Array Slot), (1300 - z119).toNat = n125 → (0 ≤ z119) → (z119 ≤ 1300) → (sA a1 a2 (B118 135)) → (I118 42 = iI z117) → (I118 2 = iI 0) → mH D E (mA E h q sz) s.heap h q I118 J118 B118 G118 H locs → rS [2, 3, 8, 14, 18, 42] [0, 1, 5, 6, 7, 9, 10, 11, 12, 13, 15, 16, 17, 19, 20, 21, 22, 23, 58, 132, 144] I B I118 B118 → lv_has ls 7 [(0, .ref h), (1, .int (iI a1)), (5, .int (iI (60000 - z117))), (6, .int (iI z119))] → W p l e (mR 8 232) s m AV below meth c H locs 0 0 QQ (F0 m 63 ls []) := by
          intro n125
          induction n125 using Nat.strongRecOn with
          | ind n125 ih124 =>
            intro z119 I118 J118 B118 G118 H locs ls hm126 l119 u119 f120 e121 e122 Y S hl
            refine lv_iload X.1 X.2.1 d_M_assure_63 (lv_at hl 3 rfl) ?_
            refine lv_iload X.1 X.2.1 d_M_assure_65 (lv_at hl 2 rfl) ?_
            refine z_icmp_ge (tgt := 99) X.1 X.2.1 d_M_assure_67 (by decide) ⟨by omega, by omega⟩ ⟨by omega, by omega⟩ (fun h127 => ?_) (fun h127 => ?_)
            · refine lv_iconst (v := iI 0) X.1 X.2.1 d_M_assure_99 (by decide) ?_
              have J133 : ∀ (n135 : Nat) (z129 : Int) (I128 : Nat → Int32) (J128 : Nat → Int64) (B128 : Nat → Nat → Int32) (G128 : Nat → Nat → Int64) (H : Heap) (locs : List Loc) (ls : Array Slot), (32 - z129).toNat = n135 → (0 ≤ z129) → (z129 ≤ 32) → (sA a1 a2 (B128 135)) → (I128 42 = iI z117) → (I128 2 = iI 0) → mH D E (mA E h q sz) s.heap h q I128 J128 B128 G128 H locs → rS [2, 3, 8, 14, 18, 42] [0, 1, 5, 6, 7, 9, 10, 11, 12, 13, 15, 16, 17, 19, 20, 21, 22, 23, 58, 132, 144] I B I128 B128 → lv_has ls 7 [(0, .ref h), (1, .int (iI a1)), (5, .int (iI (60000 - z117))), (6, .int (iI z129))] → W p l e (mR 8 232) s m AV below meth c H locs 0 0 QQ (F0 m 102 ls []) := by
                intro n135
                induction n135 using Nat.strongRecOn with
                | ind n135 ih134 =>
                  intro z129 I128 J128 B128 G128 H locs ls hm136 l129 u129 f130 e131 e132 Y S hl
                  refine lv_iload X.1 X.2.1 d_M_assure_102 (lv_at hl 3 rfl) ?_
                  refine lv_bipush (v := iI 32) X.1 X.2.1 d_M_assure_104 (by decide) ?_
                  refine z_icmp_ge (tgt := 134) X.1 X.2.1 d_M_assure_106 (by decide) ⟨by omega, by omega⟩ ⟨by omega, by omega⟩ (fun h137 => ?_) (fun h137 => ?_)
                  · refine lv_aload_n X.1 X.2.1 d_M_assure_134 rfl (lv_at hl 0 rfl) ?_
                    refine lv_aload_n X.1 X.2.1 d_M_assure_135 rfl (lv_at hl 0 rfl) ?_
                    refine m_get X Y 58 (by decide) lk_key (gf_key _ _ _) rfl d_M_assure_136 ?_
                    refine lv_aload_n X.1 X.2.1 d_M_assure_139 rfl (lv_at hl 0 rfl) ?_
                    refine m_get X Y 134 (by decide) lk_sessionTypes (gf_sessionTypes _ _ _) rfl d_M_assure_140 ?_
                    refine lv_iload_n X.1 X.2.1 d_M_assure_143 rfl (lv_at hl 1 rfl) ?_
                    refine r_iald X Y S (aw_sessionTypes _ _ _ _ _ _ _) rfl (by omega) (show a1 < ((8 : Nat) : Int) by omega) (by omega) d_M_assure_144 (fun z138 q138 l138 u138 => ?_)
                    refine lv_bipush (v := iI 15) X.1 X.2.1 d_M_assure_145 (by decide) ?_
                    refine lv_sipush (v := iI 22200) X.1 X.2.1 d_M_assure_147 (by decide) ?_
                    refine lv_sipush (v := iI 22200) X.1 X.2.1 d_M_assure_150 (by decide) ?_
                    refine lv_iload X.1 X.2.1 d_M_assure_153 (lv_at hl 2 rfl) ?_
                    refine z_iadd X.1 X.2.1 d_M_assure_155 ?_
                    refine r_nv (m_run (As := [.ref ((q 58)), .int (iI z138), .int (iI 15), .int (iI 22200), .int (iI (22200 + (60000 - z117)))]) (rest := []) (n := 5) X Y hZ hA hml hl.1 (r_M_checksum_key l D E h q H.size I128 J128 B128 G128 z138 (by omega) (by omega) 15 (by omega) (by omega) 22200 (by omega) (by omega) (22200 + (60000 - z117)) (by omega) (by omega) S.1 (by omega)) kl_M_checksum ks_M_checksum kx_M_checksum ki_M_checksum ini_M hd_M_checksum ⟨Nat.le_of_ble_eq_true rfl, Nat.le_of_ble_eq_true rfl⟩ rfl (Nat.le_of_ble_eq_true rfl) d_M_assure_156 ⟨Nat.le_refl _, Nat.le_refl _⟩) X Y hA S (by decide) (by decide) (fun u H locs Y S s139 p139 => ?_)
                    obtain ⟨I139, J139, B139, G139⟩ := u
                    dsimp only at Y S s139 p139
                    refine lv_iconst (v := iI 0) X.1 X.2.1 d_M_assure_159 (by decide) ?_
                    have J145 : ∀ (n147 : Nat) (z141 : Int) (I140 : Nat → Int32) (J140 : Nat → Int64) (B140 : Nat → Nat → Int32) (G140 : Nat → Nat → Int64) (H : Heap) (locs : List Loc) (ls : Array Slot), (12 - z141).toNat = n147 → (0 ≤ z141) → (z141 ≤ 12) → (sA a1 a2 (B140 135)) → (I140 42 = iI z117) → (I140 2 = iI 0) → mH D E (mA E h q sz) s.heap h q I140 J140 B140 G140 H locs → rS [2, 3, 8, 14, 18, 42] [0, 1, 5, 6, 7, 9, 10, 11, 12, 13, 15, 16, 17, 19, 20, 21, 22, 23, 58, 132, 144] I B I140 B140 → lv_has ls 7 [(0, .ref h), (1, .int (iI a1)), (5, .int (iI (60000 - z117))), (6, .int (iI z141))] → W p l e (mR 8 232) s m AV below meth c H locs 0 0 QQ (F0 m 162 ls []) := by
                      intro n147
                      induction n147 using Nat.strongRecOn with
                      | ind n147 ih146 =>
                        intro z141 I140 J140 B140 G140 H locs ls hm148 l141 u141 f142 e143 e144 Y S hl
                        refine lv_iload X.1 X.2.1 d_M_assure_162 (lv_at hl 3 rfl) ?_
                        refine lv_bipush (v := iI 12) X.1 X.2.1 d_M_assure_164 (by decide) ?_
                        refine z_icmp_ge (tgt := 189) X.1 X.2.1 d_M_assure_166 (by decide) ⟨by omega, by omega⟩ ⟨by omega, by omega⟩ (fun h149 => ?_) (fun h149 => ?_)
                        · refine lv_aload_n X.1 X.2.1 d_M_assure_189 rfl (lv_at hl 0 rfl) ?_
                          refine r_nv (m_run (As := []) (rest := []) (n := 0) X Y hZ hA hml hl.1 (r_M_start l D E h q H.size I140 J140 B140 G140 S.1) kl_M_start ks_M_start kx_M_start ki_M_start ini_M hd_M_start ⟨Nat.le_of_ble_eq_true rfl, Nat.le_of_ble_eq_true rfl⟩ rfl (Nat.le_of_ble_eq_true rfl) d_M_assure_190 ⟨Nat.le_refl _, Nat.le_refl _⟩) X Y hA S (by decide) (by decide) (fun u H locs Y S s150 p150 => ?_)
                          obtain ⟨I150, J150, B150, G150⟩ := u
                          dsimp only at Y S s150 p150
                          have x150 := p150
                          refine lv_aload_n X.1 X.2.1 d_M_assure_193 rfl (lv_at hl 0 rfl) ?_
                          refine r_get0 X Y (by decide) lk_w0 (gf_w0 _ _ _) rfl (x150.trans (congrArg iI (show (60000 : Int) = 60000 by omega))) d_M_assure_194 ?_
                          refine lv_istore (lv' := [(6, .int (iI 60000)), (0, .ref h), (1, .int (iI a1)), (5, .int (iI (60000 - z117)))]) X.1 X.2.1 d_M_assure_197 hl (by decide) rfl (fun ls hl => ?_)
                          refine lv_aload_n X.1 X.2.1 d_M_assure_199 rfl (lv_at hl 1 rfl) ?_
                          refine lv_iconst (v := iI 1) X.1 X.2.1 d_M_assure_200 (by decide) ?_
                          refine lv_aload_n X.1 X.2.1 d_M_assure_201 rfl (lv_at hl 1 rfl) ?_
                          refine m_get X Y 132 (by decide) lk_kept (gf_kept _ _ _) rfl d_M_assure_202 ?_
                          refine lv_iconst (v := iI 0) X.1 X.2.1 d_M_assure_205 (by decide) ?_
                          refine lv_bipush (v := iI 12) X.1 X.2.1 d_M_assure_206 (by decide) ?_
                          refine r_nv (m_run (As := [.int (iI 1), .ref ((q 132)), .int (iI 0), .int (iI 12)]) (rest := []) (n := 4) X Y hZ hA hml hl.1 (r_M_octetField_kept l D E h q H.size I150 J150 B150 G150 1 (by omega) (by omega) 0 (by omega) (by omega) 12 (by omega) (by omega) S.1 60000 (x150.trans (congrArg iI (show (60000 : Int) = 60000 by omega))) (by omega) (by omega) (by omega) (by omega)) kl_M_octetField ks_M_octetField kx_M_octetField ki_M_octetField ini_M hd_M_octetField ⟨Nat.le_of_ble_eq_true rfl, Nat.le_of_ble_eq_true rfl⟩ rfl (Nat.le_of_ble_eq_true rfl) d_M_assure_208 ⟨Nat.le_refl _, Nat.le_refl _⟩) X Y hA S (by decide) (by decide) (fun u H locs Y S s151 p151 => ?_)
                          obtain ⟨I151, J151, B151, G151⟩ := u
                          dsimp only at Y S s151 p151
                          obtain ⟨x151, g151_MF⟩ := p151
                          obtain ⟨z152, e152, l152, u152⟩ := x151
                          refine lv_aload_n X.1 X.2.1 d_M_assure_211 rfl (lv_at hl 1 rfl) ?_
                          refine lv_iconst (v := iI 0) X.1 X.2.1 d_M_assure_212 (by decide) ?_
                          refine lv_aload_n X.1 X.2.1 d_M_assure_213 rfl (lv_at hl 1 rfl) ?_
                          refine m_get X Y 134 (by decide) lk_sessionTypes (gf_sessionTypes _ _ _) rfl d_M_assure_214 ?_
                          refine lv_iload_n X.1 X.2.1 d_M_assure_217 rfl (lv_at hl 2 rfl) ?_
                          refine r_iald X Y S (aw_sessionTypes _ _ _ _ _ _ _) rfl (by omega) (show a1 < ((8 : Nat) : Int) by omega) (by omega) d_M_assure_218 (fun z153 q153 l153 u153 => ?_)
                          refine lv_iconst (v := iI 2) X.1 X.2.1 d_M_assure_219 (by decide) ?_
                          refine z_isub X.1 X.2.1 d_M_assure_220 ?_
                          refine lv_i2l X.1 X.2.1 d_M_assure_221 rfl ?_
                          refine t_anyl (fun v154 => ?_)
                          refine r_nv (m_run (As := [.int (iI 0), .long v154]) (rest := []) (n := 2) X Y hZ hA hml hl.1 (r_M_numberField l D E h q H.size I151 J151 B151 G151 0 (by omega) (by omega) v154 S.1 z152 e152 (by omega) (by omega)) kl_M_numberField ks_M_numberField kx_M_numberField ki_M_numberField ini_M hd_M_numberField ⟨Nat.le_of_ble_eq_true rfl, Nat.le_of_ble_eq_true rfl⟩ rfl (Nat.le_of_ble_eq_true rfl) d_M_assure_222 ⟨Nat.le_refl _, Nat.le_refl _⟩) X Y hA S (by decide) (by decide) (fun u H locs Y S s155 p155 => ?_)
                          obtain ⟨I155, J155, B155, G155⟩ := u
                          dsimp only at Y S s155 p155
                          obtain ⟨x155, g155_MF⟩ := p155
                          obtain ⟨z156, e156, l156, u156⟩ := x155
                          refine lv_aload_n X.1 X.2.1 d_M_assure_225 rfl (lv_at hl 1 rfl) ?_
                          refine lv_bipush (v := iI 48) X.1 X.2.1 d_M_assure_226 (by decide) ?_
                          refine lv_iload X.1 X.2.1 d_M_assure_228 (lv_at hl 0 rfl) ?_
                          refine r_nv (m_run (As := [.int (iI 48), .int (iI 60000)]) (rest := []) (n := 2) X Y hZ hA hml hl.1 (r_M_head l D E h q H.size I155 J155 B155 G155 48 (by omega) (by omega) 60000 (by omega) (by omega) S.1 z156 e156 (by omega) (by omega)) kl_M_head ks_M_head kx_M_head ki_M_head ini_M hd_M_head ⟨Nat.le_of_ble_eq_true rfl, Nat.le_of_ble_eq_true rfl⟩ rfl (Nat.le_of_ble_eq_true rfl) d_M_assure_230 ⟨Nat.le_refl _, Nat.le_refl _⟩) X Y hA S (by decide) (by decide) (fun u H locs Y S s157 p157 => ?_)
                          obtain ⟨I157, J157, B157, G157⟩ := u
                          dsimp only at Y S s157 p157
                          obtain ⟨x157, g157_MF⟩ := p157
                          obtain ⟨z158, e158, l158, u158⟩ := x157
                          refine lv_aload_n X.1 X.2.1 d_M_assure_233 rfl (lv_at hl 1 rfl) ?_
                          refine lv_iconst (v := iI 3) X.1 X.2.1 d_M_assure_234 (by decide) ?_
                          refine lv_iload X.1 X.2.1 d_M_assure_235 (lv_at hl 0 rfl) ?_
                          refine r_nv (m_run (As := [.int (iI 3), .int (iI 60000)]) (rest := []) (n := 2) X Y hZ hA hml hl.1 (r_M_field l D E h q H.size I157 J157 B157 G157 3 (by omega) (by omega) 60000 (by omega) (by omega) S.1 z158 e158 (by omega) (by omega)) kl_M_field ks_M_field kx_M_field ki_M_field ini_M hd_M_field ⟨Nat.le_of_ble_eq_true rfl, Nat.le_of_ble_eq_true rfl⟩ rfl (Nat.le_of_ble_eq_true rfl) d_M_assure_237 ⟨Nat.le_refl _, Nat.le_refl _⟩) X Y hA S (by decide) (by decide) (fun u H locs Y S s159 p159 => ?_)
                          obtain ⟨I159, J159, B159, G159⟩ := u
                          dsimp only at Y S s159 p159
                          obtain ⟨x159, g159_MF⟩ := p159
                          obtain ⟨z160, e160, l160, u160⟩ := x159
                          refine lv_aload_n X.1 X.2.1 d_M_assure_240 rfl (lv_at hl 1 rfl) ?_
                          refine lv_iconst (v := iI 2) X.1 X.2.1 d_M_assure_241 (by decide) ?_
                          refine lv_sipush (v := iI 22200) X.1 X.2.1 d_M_assure_242 (by decide) ?_
                          refine lv_sipush (v := iI 22200) X.1 X.2.1 d_M_assure_245 (by decide) ?_
                          refine lv_iload X.1 X.2.1 d_M_assure_248 (lv_at hl 3 rfl) ?_
                          refine z_iadd X.1 X.2.1 d_M_assure_250 ?_
                          refine r_nv (m_run (As := [.int (iI 2), .int (iI 22200), .int (iI (22200 + (60000 - z117)))]) (rest := []) (n := 3) X Y hZ hA hml hl.1 (r_M_copyField l D E h q H.size I159 J159 B159 G159 2 (by omega) (by omega) 22200 (by omega) (by omega) (22200 + (60000 - z117)) (by omega) (by omega) S.1 z160 e160 (by omega) (by omega) (by omega) (by omega) (by omega) (by omega)) kl_M_copyField ks_M_copyField kx_M_copyField ki_M_copyField ini_M hd_M_copyField ⟨Nat.le_of_ble_eq_true rfl, Nat.le_of_ble_eq_true rfl⟩ rfl (Nat.le_of_ble_eq_true rfl) d_M_assure_251 ⟨Nat.le_refl _, Nat.le_refl _⟩) X Y hA S (by decide) (by decide) (fun u H locs Y S s161 p161 => ?_)
                          obtain ⟨I161, J161, B161, G161⟩ := u
                          dsimp only at Y S s161 p161
                          obtain ⟨x161, g161_MF⟩ := p161
                          obtain ⟨z162, e162, l162, u162⟩ := x161
                          refine lv_aload_n X.1 X.2.1 d_M_assure_254 rfl (lv_at hl 1 rfl) ?_
                          refine lv_iconst (v := iI 1) X.1 X.2.1 d_M_assure_255 (by decide) ?_
                          refine lv_ldc2 (v := (20)) X.1 X.2.1 X.2.2.2.1 (X.2.2.1 _ cl_M_1003) d_M_assure_256 ?_
                          refine r_nv (m_run (As := [.int (iI 1), .long ((20))]) (rest := []) (n := 2) X Y hZ hA hml hl.1 (r_M_numberField l D E h q H.size I161 J161 B161 G161 1 (by omega) (by omega) ((20)) S.1 z162 e162 (by omega) (by omega)) kl_M_numberField ks_M_numberField kx_M_numberField ki_M_numberField ini_M hd_M_numberField ⟨Nat.le_of_ble_eq_true rfl, Nat.le_of_ble_eq_true rfl⟩ rfl (Nat.le_of_ble_eq_true rfl) d_M_assure_259 ⟨Nat.le_refl _, Nat.le_refl _⟩) X Y hA S (by decide) (by decide) (fun u H locs Y S s163 p163 => ?_)
                          obtain ⟨I163, J163, B163, G163⟩ := u
                          dsimp only at Y S s163 p163
                          obtain ⟨x163, g163_MF⟩ := p163
                          obtain ⟨z164, e164, l164, u164⟩ := x163
                          refine lv_aload_n X.1 X.2.1 d_M_assure_262 rfl (lv_at hl 1 rfl) ?_
                          refine lv_iconst (v := iI 0) X.1 X.2.1 d_M_assure_263 (by decide) ?_
                          refine lv_ldc2 (v := (5)) X.1 X.2.1 X.2.2.2.1 (X.2.2.1 _ cl_M_669) d_M_assure_264 ?_
                          refine r_nv (m_run (As := [.int (iI 0), .long ((5))]) (rest := []) (n := 2) X Y hZ hA hml hl.1 (r_M_numberField l D E h q H.size I163 J163 B163 G163 0 (by omega) (by omega) ((5)) S.1 z164 e164 (by omega) (by omega)) kl_M_numberField ks_M_numberField kx_M_numberField ki_M_numberField ini_M hd_M_numberField ⟨Nat.le_of_ble_eq_true rfl, Nat.le_of_ble_eq_true rfl⟩ rfl (Nat.le_of_ble_eq_true rfl) d_M_assure_267 ⟨Nat.le_refl _, Nat.le_refl _⟩) X Y hA S (by decide) (by decide) (fun u H locs Y S s165 p165 => ?_)
                          obtain ⟨I165, J165, B165, G165⟩ := u
                          dsimp only at Y S s165 p165
                          have f166 : sA a1 a2 (B165 135) := (sA_cg (s165.2.2 135 (by decide)) (sA_cg (s163.2.2 135 (by decide)) (sA_cg (s161.2.2 135 (by decide)) (sA_cg (s159.2.2 135 (by decide)) (sA_cg (s157.2.2 135 (by decide)) (sA_cg (s155.2.2 135 (by decide)) (sA_cg (s151.2.2 135 (by decide)) (sA_cg (s150.2.2 135 (by decide)) f142))))))))
                          obtain ⟨x165, g165_MF⟩ := p165
                          obtain ⟨z167, e167, l167, u167⟩ := x165
                          refine lv_aload_n X.1 X.2.1 d_M_assure_270 rfl (lv_at hl 1 rfl) ?_
                          refine lv_bipush (v := iI 48) X.1 X.2.1 d_M_assure_271 (by decide) ?_
                          refine lv_ldc (v := (60000)) X.1 X.2.1 X.2.2.2.1 (X.2.2.1 _ cn_M_9) d_M_assure_273 ?_
                          refine t_eq (y := iI 60000) (by decide) ?_
                          refine r_nv (m_run (As := [.int (iI 48), .int (iI 60000)]) (rest := []) (n := 2) X Y hZ hA hml hl.1 (r_M_head l D E h q H.size I165 J165 B165 G165 48 (by omega) (by omega) 60000 (by omega) (by omega) S.1 z167 e167 (by omega) (by omega)) kl_M_head ks_M_head kx_M_head ki_M_head ini_M hd_M_head ⟨Nat.le_of_ble_eq_true rfl, Nat.le_of_ble_eq_true rfl⟩ rfl (Nat.le_of_ble_eq_true rfl) d_M_assure_275 ⟨Nat.le_refl _, Nat.le_refl _⟩) X Y hA S (by decide) (by decide) (fun u H locs Y S s168 p168 => ?_)
                          obtain ⟨I168, J168, B168, G168⟩ := u
                          dsimp only at Y S s168 p168
                          obtain ⟨x168, g168_MF⟩ := p168
                          obtain ⟨z169, e169, l169, u169⟩ := x168
                          refine lv_aload_n X.1 X.2.1 d_M_assure_278 rfl (lv_at hl 1 rfl) ?_
                          refine lv_bipush (v := iI 116) X.1 X.2.1 d_M_assure_279 (by decide) ?_
                          refine lv_ldc (v := (60000)) X.1 X.2.1 X.2.2.2.1 (X.2.2.1 _ cn_M_9) d_M_assure_281 ?_
                          refine t_eq (y := iI 60000) (by decide) ?_
                          refine r_nv (m_run (As := [.int (iI 116), .int (iI 60000)]) (rest := []) (n := 2) X Y hZ hA hml hl.1 (r_M_head l D E h q H.size I168 J168 B168 G168 116 (by omega) (by omega) 60000 (by omega) (by omega) S.1 z169 e169 (by omega) (by omega)) kl_M_head ks_M_head kx_M_head ki_M_head ini_M hd_M_head ⟨Nat.le_of_ble_eq_true rfl, Nat.le_of_ble_eq_true rfl⟩ rfl (Nat.le_of_ble_eq_true rfl) d_M_assure_283 ⟨Nat.le_refl _, Nat.le_refl _⟩) X Y hA S (by decide) (by decide) (fun u H locs Y S s170 p170 => ?_)
                          obtain ⟨I170, J170, B170, G170⟩ := u
                          dsimp only at Y S s170 p170
                          obtain ⟨x170, g170_MF⟩ := p170
                          obtain ⟨z171, e171, l171, u171⟩ := x170
                          refine lv_aload_n X.1 X.2.1 d_M_assure_286 rfl (lv_at hl 1 rfl) ?_
                          refine r_nv (m_run (As := []) (rest := []) (n := 0) X Y hZ hA hml hl.1 (r_M_written l D E h q H.size I170 J170 B170 G170 S.1 z171 e171 (by omega) (by omega)) kl_M_written ks_M_written kx_M_written ki_M_written ini_M hd_M_written ⟨Nat.le_of_ble_eq_true rfl, Nat.le_of_ble_eq_true rfl⟩ rfl (Nat.le_of_ble_eq_true rfl) d_M_assure_287 ⟨Nat.le_refl _, Nat.le_refl _⟩) X Y hA S (by decide) (by decide) (fun u H locs Y S s172 p172 => ?_)
                          obtain ⟨I172, J172, B172, G172⟩ := u
                          dsimp only at Y S s172 p172
                          have g172_MF := p172
                          refine lv_aload_n X.1 X.2.1 d_M_assure_290 rfl (lv_at hl 1 rfl) ?_
                          refine r_geti (k := 3) X Y S (by decide) lk_outMany (gf_outMany _ _ _) rfl rfl d_M_assure_291 (fun z173 e173 l173 u173 => ?_)
                          exact m_reti hQQ X Y hr hlk ⟨S, z173, rfl, ⟨by omega, by omega⟩⟩ d_M_assure_294
                        · refine lv_aload_n X.1 X.2.1 d_M_assure_169 rfl (lv_at hl 0 rfl) ?_
                          refine m_get X Y 132 (by decide) lk_kept (gf_kept _ _ _) rfl d_M_assure_170 ?_
                          refine lv_iload X.1 X.2.1 d_M_assure_173 (lv_at hl 3 rfl) ?_
                          refine lv_aload_n X.1 X.2.1 d_M_assure_175 rfl (lv_at hl 0 rfl) ?_
                          refine m_get X Y 10 (by decide) lk_mac (gf_mac _ _ _) rfl d_M_assure_176 ?_
                          refine lv_iload X.1 X.2.1 d_M_assure_179 (lv_at hl 3 rfl) ?_
                          refine r_bald X Y S (aw_mac _ _ _ _ _ _ _) rfl (by omega) (show z141 < ((20 : Nat) : Int) by omega) (by omega) d_M_assure_181 (fun z174 q174 l174 u174 => ?_)
                          refine r_bast X Y S (aw_kept _ _ _ _ _ _ _) (sw_kept _ _ _ _ _ _ _) rfl (by omega) (show z141 < ((12 : Nat) : Int) by omega) (by omega) (by decide) d_M_assure_182 (fun B175 H locs Y S w175 => ?_)
                          refine lv_iinc (v := iI (z141 + 1)) (lv' := [(6, .int (iI (z141 + 1))), (0, .ref h), (1, .int (iI a1)), (5, .int (iI (60000 - z117)))]) X.1 X.2.1 d_M_assure_183 hl (k := 3) rfl ((iI_add _ _).trans (congrArg iI (by omega))) (by decide) rfl (fun ls hl => ?_)
                          refine lv_goto (tgt := 162) X.1 X.2.1 d_M_assure_186 (by decide) ?_
                          exact ih146 ((12 - (z141 + 1)).toNat) (by omega) (z141 + 1) I140 J140 B175 G140 _ _ _ rfl (by omega) (by omega) (sA_cg (w175.2 135 (by decide)) f142) e143 e144 Y S (lv_sub hl [1, 2, 3, 0] rfl)
                    refine lv_istore (lv' := [(6, .int (iI 0)), (0, .ref h), (1, .int (iI a1)), (5, .int (iI (60000 - z117)))]) X.1 X.2.1 d_M_assure_160 hl (by decide) rfl (fun ls hl => ?_)
                    exact J145 _ 0 I139 J139 B139 G139 _ _ _ rfl (by omega) (by omega) (sA_cg (s139.2.2 135 (by decide)) f130) ((s139.2.1 42 (by decide)).trans e131) ((s139.2.1 2 (by decide)).trans e132) Y S (lv_sub hl [1, 2, 3, 0] rfl)
                  · refine lv_aload_n X.1 X.2.1 d_M_assure_109 rfl (lv_at hl 0 rfl) ?_
                    refine m_get X Y 58 (by decide) lk_key (gf_key _ _ _) rfl d_M_assure_110 ?_
                    refine lv_iload X.1 X.2.1 d_M_assure_113 (lv_at hl 3 rfl) ?_
                    refine lv_aload_n X.1 X.2.1 d_M_assure_115 rfl (lv_at hl 0 rfl) ?_
                    refine m_get X Y 136 (by decide) lk_sessionKeys (gf_sessionKeys _ _ _) rfl d_M_assure_116 ?_
                    refine lv_bipush (v := iI 32) X.1 X.2.1 d_M_assure_119 (by decide) ?_
                    refine lv_iload_n X.1 X.2.1 d_M_assure_121 rfl (lv_at hl 1 rfl) ?_
                    refine z_imul X.1 X.2.1 d_M_assure_122 ?_
                    refine lv_iload X.1 X.2.1 d_M_assure_123 (lv_at hl 3 rfl) ?_
                    refine z_iadd X.1 X.2.1 d_M_assure_125 ?_
                    refine r_bald X Y S (aw_sessionKeys _ _ _ _ _ _ _) rfl (by omega) (show (32 * a1) + z129 < ((256 : Nat) : Int) by omega) (by omega) d_M_assure_126 (fun z176 q176 l176 u176 => ?_)
                    refine r_bast X Y S (aw_key _ _ _ _ _ _ _) (sw_key _ _ _ _ _ _ _) rfl (by omega) (show z129 < ((32 : Nat) : Int) by omega) (by omega) (by decide) d_M_assure_127 (fun B177 H locs Y S w177 => ?_)
                    refine lv_iinc (v := iI (z129 + 1)) (lv' := [(6, .int (iI (z129 + 1))), (0, .ref h), (1, .int (iI a1)), (5, .int (iI (60000 - z117)))]) X.1 X.2.1 d_M_assure_128 hl (k := 3) rfl ((iI_add _ _).trans (congrArg iI (by omega))) (by decide) rfl (fun ls hl => ?_)
                    refine lv_goto (tgt := 102) X.1 X.2.1 d_M_assure_131 (by decide) ?_
                    exact ih134 ((32 - (z129 + 1)).toNat) (by omega) (z129 + 1) I128 J128 B177 G128 _ _ _ rfl (by omega) (by omega) (sA_cg (w177.2 135 (by decide)) f130) e131 e132 Y S (lv_sub hl [1, 2, 3, 0] rfl)
              refine lv_istore (lv' := [(6, .int (iI 0)), (0, .ref h), (1, .int (iI a1)), (5, .int (iI (60000 - z117)))]) X.1 X.2.1 d_M_assure_100 hl (by decide) rfl (fun ls hl => ?_)
              exact J133 _ 0 I118 J118 B118 G118 _ _ _ rfl (by omega) (by omega) f120 e121 e122 Y S (lv_sub hl [1, 2, 3, 0] rfl)
            · refine lv_aload_n X.1 X.2.1 d_M_assure_70 rfl (lv_at hl 0 rfl) ?_
              refine m_get X Y 0 (by decide) lk_mem (gf_mem _ _ _) rfl d_M_assure_71 ?_
              refine lv_sipush (v := iI 22200) X.1 X.2.1 d_M_assure_74 (by decide) ?_
              refine lv_iload X.1 X.2.1 d_M_assure_77 (lv_at hl 3 rfl) ?_
              refine z_iadd X.1 X.2.1 d_M_assure_79 ?_
              refine lv_aload_n X.1 X.2.1 d_M_assure_80 rfl (lv_at hl 0 rfl) ?_
              refine m_get X Y 0 (by decide) lk_mem (gf_mem _ _ _) rfl d_M_assure_81 ?_
              refine lv_aload_n X.1 X.2.1 d_M_assure_84 rfl (lv_at hl 0 rfl) ?_
              refine r_get0 X Y (by decide) lk_w0 (gf_w0 _ _ _) rfl e121 d_M_assure_85 ?_
              refine lv_iload X.1 X.2.1 d_M_assure_88 (lv_at hl 3 rfl) ?_
              refine z_iadd X.1 X.2.1 d_M_assure_90 ?_
              refine r_bald X Y S (aw_mem _ _ _ _ _ _ _) rfl (by omega) (show z117 + z119 < ((60000 : Nat) : Int) by omega) (by omega) d_M_assure_91 (fun z178 q178 l178 u178 => ?_)
              refine r_bast X Y S (aw_mem _ _ _ _ _ _ _) (sw_mem _ _ _ _ _ _ _) rfl (by omega) (show 22200 + z119 < ((60000 : Nat) : Int) by omega) (by omega) (by decide) d_M_assure_92 (fun B179 H locs Y S w179 => ?_)
              refine lv_iinc (v := iI (z119 + 1)) (lv' := [(6, .int (iI (z119 + 1))), (0, .ref h), (1, .int (iI a1)), (5, .int (iI (60000 - z117)))]) X.1 X.2.1 d_M_assure_93 hl (k := 3) rfl ((iI_add _ _).trans (congrArg iI (by omega))) (by decide) rfl (fun ls hl => ?_)
              refine lv_goto (tgt := 63) X.1 X.2.1 d_M_assure_96 (by decide) ?_
              exact ih124 ((1300 - (z119 + 1)).toNat) (by omega) (z119 + 1) I118 J118 B179 G118 _ _ _ rfl (by omega) (by omega) (sA_cg (w179.2 135 (by decide)) f120) e121 e122 Y S (lv_sub hl [1, 2, 3, 0] rfl)
        refine lv_istore (lv' := [(6, .int (iI 0)), (5, .int (iI (60000 - z117))), (4, .int (iI 1)), (3, .int (iI z101)), (0, .ref h), (1, .int (iI a1)), (2, .int (iI a2))]) X.1 X.2.1 d_M_assure_61 hl (by decide) rfl (fun ls hl => ?_)
        exact J123 _ 0 I116 J116 B116 G116 _ _ _ rfl (by omega) (by omega) (sA_cg (s116.2.2 135 (by decide)) (sA_cg (s115.2.2 135 (by decide)) f114)) e117 ((s116.2.1 2 (by decide)).trans ((s115.2.1 2 (by decide)).trans w111.1)) Y S (lv_sub hl [4, 5, 1, 0] rfl)
