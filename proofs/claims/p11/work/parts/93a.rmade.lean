set_option maxHeartbeats 4000000 in
set_option maxRecDepth 100000 in
theorem r_M_aesKey_made (l : Launch) (D : mD) (E : mE) (h : Nat) (q : Nat → Nat) (sz : Nat) (I : Nat → Int32) (J : Nat → Int64) (B : Nat → Nat → Int32) (G : Nat → Nat → Int64) (a2 : Int) (l_a2 : 16 ≤ a2) (u_a2 : a2 ≤ 32) (hT : rT I B) : Met l y_M_aesKey (k_M_aesKey :: lw_tg) (mR 4 129) (va_Pc [.ref h, .ref (q 56), .int (iI a2)] (mPre D E h q (I, J, B, G) sz)) (va_Qv (rPv [14, 18] [12, 13, 15] I B (fun (u : mS) => True)) (mPost D E h q (mA E h q sz)) (mA E h q sz)) 0 0 (mA E h q sz) := by
  refine m_enter (by decide) rfl (Nat.le_of_ble_eq_true rfl) (fun p e s m below meth c ls AV QQ H locs hQQ X Y hZ hA hr hlk hml hl => ?_)
  have Y : mH D E (mA E h q sz) s.heap h q I J B G H locs := Y
  have S : rS [14, 18] [12, 13, 15] I B I B := rS_rf hT
  have hl : lv_has ls 7 [(0, .ref h), (1, .ref ((q 56))), (2, .int (iI a2))] := hl
  refine lv_aload_n X.1 X.2.1 d_M_aesKey_0 rfl (lv_at hl 0 rfl) ?_
  refine r_geti (k := 14) X Y S (by decide) lk_hasBox (gf_hasBox _ _ _) rfl rfl d_M_aesKey_1 (fun z101 e101 l101 u101 => ?_)
  have J103 : ∀ (I102 : Nat → Int32) (J102 : Nat → Int64) (B102 : Nat → Nat → Int32) (G102 : Nat → Nat → Int64) (H : Heap) (locs : List Loc) (ls : Array Slot), mH D E (mA E h q sz) s.heap h q I102 J102 B102 G102 H locs → rS [14, 18] [12, 13, 15] I B I102 B102 → lv_has ls 7 [(0, .ref h), (1, .ref ((q 56))), (2, .int (iI a2))] → W p l e (mR 4 129) s m AV below meth c H locs 0 0 QQ (F0 m 11 ls []) := by
    intro I102 J102 B102 G102 H locs ls  Y S hl
    refine lv_iload_n X.1 X.2.1 d_M_aesKey_11 rfl (lv_at hl 2 rfl) ?_
    refine lv_iconst (v := iI 4) X.1 X.2.1 d_M_aesKey_12 (by decide) ?_
    refine z_idiv X.1 X.2.1 (by omega) (by omega) ⟨by decide, by decide⟩ d_M_aesKey_13 ?_
    refine lv_istore_n (lv' := [(3, .int (iI (a2 / 4))), (0, .ref h), (1, .ref ((q 56))), (2, .int (iI a2))]) X.1 X.2.1 d_M_aesKey_14 rfl hl (by decide) rfl (fun ls hl => ?_)
    refine lv_aload_n X.1 X.2.1 d_M_aesKey_15 rfl (lv_at hl 1 rfl) ?_
    refine lv_iload_n X.1 X.2.1 d_M_aesKey_16 rfl (lv_at hl 0 rfl) ?_
    refine lv_bipush (v := iI 6) X.1 X.2.1 d_M_aesKey_17 (by decide) ?_
    refine z_iadd X.1 X.2.1 d_M_aesKey_19 ?_
    refine r_puti (k := 18) X Y S (by decide) lk_rounds rfl rfl (t_M_ok 18 (by decide)) rfl rfl (sf_rounds _ _ _ _) (Nat.le_of_ble_eq_true rfl) rfl (show (0 : Int) ≤ (a2 / 4) + 6 by omega) (show (a2 / 4) + 6 ≤ (14 : Int) by omega) ⟨by omega, by omega⟩ (by decide) d_M_aesKey_20 (fun I107 H locs Y S w107 => ?_)
    refine lv_iconst (v := iI 0) X.1 X.2.1 d_M_aesKey_23 (by decide) ?_
    have J110 : ∀ (n112 : Nat) (z109 : Int) (I108 : Nat → Int32) (J108 : Nat → Int64) (B108 : Nat → Nat → Int32) (G108 : Nat → Nat → Int64) (H : Heap) (locs : List Loc) (ls : Array Slot), (8 - z109).toNat = n112 → (0 ≤ z109) → (z109 ≤ 8) → mH D E (mA E h q sz) s.heap h q I108 J108 B108 G108 H locs → rS [14, 18] [12, 13, 15] I B I108 B108 → lv_has ls 7 [(0, .ref h), (1, .ref ((q 56))), (3, .int (iI (a2 / 4))), (4, .int (iI z109))] → W p l e (mR 4 129) s m AV below meth c H locs 0 0 QQ (F0 m 26 ls []) := by
      intro n112
      induction n112 using Nat.strongRecOn with
      | ind n112 ih111 =>
        intro z109 I108 J108 B108 G108 H locs ls hm113 l109 u109 Y S hl
        refine lv_iload X.1 X.2.1 d_M_aesKey_26 (lv_at hl 3 rfl) ?_
        refine lv_iload_n X.1 X.2.1 d_M_aesKey_28 rfl (lv_at hl 2 rfl) ?_
        refine z_icmp_ge (tgt := 99) X.1 X.2.1 d_M_aesKey_29 (by decide) ⟨by omega, by omega⟩ ⟨by omega, by omega⟩ (fun h114 => ?_) (fun h114 => ?_)
        · refine lv_iconst (v := iI 1) X.1 X.2.1 d_M_aesKey_99 (by decide) ?_
          refine lv_istore (lv' := [(4, .int (iI 1)), (0, .ref h), (1, .ref ((q 56))), (3, .int (iI (a2 / 4)))]) X.1 X.2.1 d_M_aesKey_100 hl (by decide) rfl (fun ls hl => ?_)
          refine lv_iload_n X.1 X.2.1 d_M_aesKey_102 rfl (lv_at hl 3 rfl) ?_
          have J119 : ∀ (n121 : Nat) (z116 : Int) (z117 : Int) (I115 : Nat → Int32) (J115 : Nat → Int64) (B115 : Nat → Nat → Int32) (G115 : Nat → Nat → Int64) (H : Heap) (locs : List Loc) (ls : Array Slot), (60 - z117).toNat = n121 → (0 ≤ z116) → (z116 ≤ 255) → (4 ≤ z117) → (z117 ≤ 60) → (a2 / 4 ≤ z117) → mH D E (mA E h q sz) s.heap h q I115 J115 B115 G115 H locs → rS [14, 18] [12, 13, 15] I B I115 B115 → lv_has ls 7 [(0, .ref h), (3, .int (iI (a2 / 4))), (4, .int (iI z116)), (5, .int (iI z117))] → W p l e (mR 4 129) s m AV below meth c H locs 0 0 QQ (F0 m 105 ls []) := by
            intro n121
            induction n121 using Nat.strongRecOn with
            | ind n121 ih120 =>
              intro z116 z117 I115 J115 B115 G115 H locs ls hm122 l116 u116 l117 u117 i118 Y S hl
              refine lv_iload X.1 X.2.1 d_M_aesKey_105 (lv_at hl 3 rfl) ?_
              refine lv_iconst (v := iI 4) X.1 X.2.1 d_M_aesKey_107 (by decide) ?_
              refine lv_aload_n X.1 X.2.1 d_M_aesKey_108 rfl (lv_at hl 0 rfl) ?_
              refine r_geti (k := 18) X Y S (by decide) lk_rounds (gf_rounds _ _ _) rfl rfl d_M_aesKey_109 (fun z123 e123 l123 u123 => ?_)
              refine lv_iconst (v := iI 1) X.1 X.2.1 d_M_aesKey_112 (by decide) ?_
              refine z_iadd X.1 X.2.1 d_M_aesKey_113 ?_
              refine z_imul X.1 X.2.1 d_M_aesKey_114 ?_
              refine z_icmp_ge (tgt := 212) X.1 X.2.1 d_M_aesKey_115 (by decide) ⟨by omega, by omega⟩ ⟨by omega, by omega⟩ (fun h124 => ?_) (fun h124 => ?_)
              · exact m_retv hQQ X Y hr hlk ⟨S, trivial⟩ d_M_aesKey_212
              · refine lv_aload_n X.1 X.2.1 d_M_aesKey_118 rfl (lv_at hl 0 rfl) ?_
                refine m_get X Y 15 (by decide) lk_schedule (gf_schedule _ _ _) rfl d_M_aesKey_119 ?_
                refine lv_iload X.1 X.2.1 d_M_aesKey_122 (lv_at hl 3 rfl) ?_
                refine lv_iconst (v := iI 1) X.1 X.2.1 d_M_aesKey_124 (by decide) ?_
                refine z_isub X.1 X.2.1 d_M_aesKey_125 ?_
                refine r_iald X Y S (aw_schedule _ _ _ _ _ _ _) rfl (by omega) (show z117 - 1 < ((60 : Nat) : Int) by omega) (by omega) d_M_aesKey_126 (fun z125 q125 l125 u125 => ?_)
                refine lv_istore (lv' := [(6, .int (iI z125)), (0, .ref h), (3, .int (iI (a2 / 4))), (4, .int (iI z116)), (5, .int (iI z117))]) X.1 X.2.1 d_M_aesKey_127 hl (by decide) rfl (fun ls hl => ?_)
                refine lv_iload X.1 X.2.1 d_M_aesKey_129 (lv_at hl 4 rfl) ?_
                refine lv_iload_n X.1 X.2.1 d_M_aesKey_131 rfl (lv_at hl 2 rfl) ?_
                refine lv_irem X.1 X.2.1 d_M_aesKey_132 (iI_ne0 ⟨by omega, by omega⟩ (by omega)) ?_
                refine t_u (fun z126 l126 u126 => ?_)
                have J130 : ∀ (z128 : Int) (z129 : Int) (I127 : Nat → Int32) (J127 : Nat → Int64) (B127 : Nat → Nat → Int32) (G127 : Nat → Nat → Int64) (H : Heap) (locs : List Loc) (ls : Array Slot), (0 ≤ z128) → (z128 ≤ 255) → ((-2147483648) ≤ z129) → (z129 ≤ 2147483647) → mH D E (mA E h q sz) s.heap h q I127 J127 B127 G127 H locs → rS [14, 18] [12, 13, 15] I B I127 B127 → lv_has ls 7 [(0, .ref h), (3, .int (iI (a2 / 4))), (4, .int (iI z128)), (5, .int (iI z117)), (6, .int (iI z129))] → W p l e (mR 4 129) s m AV below meth c H locs 0 0 QQ (F0 m 187 ls []) := by
                  intro z128 z129 I127 J127 B127 G127 H locs ls l128 u128 l129 u129 Y S hl
                  refine lv_aload_n X.1 X.2.1 d_M_aesKey_187 rfl (lv_at hl 0 rfl) ?_
                  refine m_get X Y 15 (by decide) lk_schedule (gf_schedule _ _ _) rfl d_M_aesKey_188 ?_
                  refine lv_iload X.1 X.2.1 d_M_aesKey_191 (lv_at hl 3 rfl) ?_
                  refine lv_aload_n X.1 X.2.1 d_M_aesKey_193 rfl (lv_at hl 0 rfl) ?_
                  refine m_get X Y 15 (by decide) lk_schedule (gf_schedule _ _ _) rfl d_M_aesKey_194 ?_
                  refine lv_iload X.1 X.2.1 d_M_aesKey_197 (lv_at hl 3 rfl) ?_
                  refine lv_iload_n X.1 X.2.1 d_M_aesKey_199 rfl (lv_at hl 1 rfl) ?_
                  refine z_isub X.1 X.2.1 d_M_aesKey_200 ?_
                  refine r_iald X Y S (aw_schedule _ _ _ _ _ _ _) rfl (by omega) (show z117 - (a2 / 4) < ((60 : Nat) : Int) by omega) (by omega) d_M_aesKey_201 (fun z134 q134 l134 u134 => ?_)
                  refine lv_iload X.1 X.2.1 d_M_aesKey_202 (lv_at hl 4 rfl) ?_
                  refine lv_ixor X.1 X.2.1 d_M_aesKey_204 ?_
                  refine t_u (fun z135 l135 u135 => ?_)
                  refine r_iast X Y S (aw_schedule _ _ _ _ _ _ _) (sw_schedule _ _ _ _ _ _ _) rfl ⟨(show ((-2147483648) : Int) ≤ z135 by omega), (show z135 ≤ (2147483647 : Int) by omega)⟩ ⟨by omega, by omega⟩ (by omega) (show z117 < ((60 : Nat) : Int) by omega) (by omega) (by decide) d_M_aesKey_205 (fun B136 H locs Y S w136 => ?_)
                  refine lv_iinc (v := iI (z117 + 1)) (lv' := [(5, .int (iI (z117 + 1))), (0, .ref h), (3, .int (iI (a2 / 4))), (4, .int (iI z128)), (6, .int (iI z129))]) X.1 X.2.1 d_M_aesKey_206 hl (k := 3) rfl ((iI_add _ _).trans (congrArg iI (by omega))) (by decide) rfl (fun ls hl => ?_)
                  refine lv_goto (tgt := 105) X.1 X.2.1 d_M_aesKey_209 (by decide) ?_
                  exact ih120 ((60 - (z117 + 1)).toNat) (by omega) z128 (z117 + 1) I127 J127 B136 G127 _ _ _ rfl (by omega) (by omega) (by omega) (by omega) (by omega) Y S (lv_sub hl [1, 2, 3, 0] rfl)
                refine z_if_ne (tgt := 165) X.1 X.2.1 d_M_aesKey_133 (by decide) ⟨by omega, by omega⟩ (fun h137 => ?_) (fun h137 => ?_)
                · refine lv_iload_n X.1 X.2.1 d_M_aesKey_165 rfl (lv_at hl 2 rfl) ?_
                  refine lv_bipush (v := iI 6) X.1 X.2.1 d_M_aesKey_166 (by decide) ?_
                  refine z_icmp_le (tgt := 187) X.1 X.2.1 d_M_aesKey_168 (by decide) ⟨by omega, by omega⟩ ⟨by omega, by omega⟩ (fun h138 => ?_) (fun h138 => ?_)
                  · exact J130 z116 z125 I115 J115 B115 G115 _ _ _ (by omega) (by omega) (by omega) (by omega) Y S (lv_sub hl [1, 2, 3, 4, 0] rfl)
                  · refine lv_iload X.1 X.2.1 d_M_aesKey_171 (lv_at hl 4 rfl) ?_
                    refine lv_iload_n X.1 X.2.1 d_M_aesKey_173 rfl (lv_at hl 2 rfl) ?_
                    refine lv_irem X.1 X.2.1 d_M_aesKey_174 (iI_ne0 ⟨by omega, by omega⟩ (by omega)) ?_
                    refine t_u (fun z139 l139 u139 => ?_)
                    refine lv_iconst (v := iI 4) X.1 X.2.1 d_M_aesKey_175 (by decide) ?_
                    refine z_icmp_ne (tgt := 187) X.1 X.2.1 d_M_aesKey_176 (by decide) ⟨by omega, by omega⟩ ⟨by omega, by omega⟩ (fun h140 => ?_) (fun h140 => ?_)
                    · exact J130 z116 z125 I115 J115 B115 G115 _ _ _ (by omega) (by omega) (by omega) (by omega) Y S (lv_sub hl [1, 2, 3, 4, 0] rfl)
                    · refine lv_aload_n X.1 X.2.1 d_M_aesKey_179 rfl (lv_at hl 1 rfl) ?_
                      refine lv_iload X.1 X.2.1 d_M_aesKey_180 (lv_at hl 0 rfl) ?_
                      refine r_ni (m_run (As := [.int (iI z125)]) (rest := []) (n := 1) X Y hZ hA hml hl.1 (r_M_boxed l D E h q H.size I115 J115 B115 G115 z125 (by omega) (by omega) S.1) kl_M_boxed ks_M_boxed kx_M_boxed ki_M_boxed ini_M hd_M_boxed ⟨Nat.le_of_ble_eq_true rfl, Nat.le_of_ble_eq_true rfl⟩ rfl (Nat.le_of_ble_eq_true rfl) d_M_aesKey_182 ⟨Nat.le_refl _, Nat.le_refl _⟩) X Y hA S (by decide) (by decide) (fun z141 u H locs Y S s141 p141 => ?_)
                      obtain ⟨I141, J141, B141, G141⟩ := u
                      dsimp only at Y S s141 p141
                      obtain ⟨l141, u141⟩ := p141
                      refine lv_istore (lv' := [(6, .int (iI z141)), (0, .ref h), (3, .int (iI (a2 / 4))), (4, .int (iI z116)), (5, .int (iI z117))]) X.1 X.2.1 d_M_aesKey_185 hl (by decide) rfl (fun ls hl => ?_)
                      exact J130 z116 z141 I141 J141 B141 G141 _ _ _ (by omega) (by omega) (by omega) (by omega) Y S (lv_sub hl [1, 2, 3, 4, 0] rfl)
                · refine lv_aload_n X.1 X.2.1 d_M_aesKey_136 rfl (lv_at hl 1 rfl) ?_
                  refine lv_iload X.1 X.2.1 d_M_aesKey_137 (lv_at hl 0 rfl) ?_
                  refine lv_bipush (v := iI 8) X.1 X.2.1 d_M_aesKey_139 (by decide) ?_
                  refine p_calli (As := [.int (iI z125), .int (iI 8)]) (rest := [.ref h]) (n := 2) X Y hml hl.1 (r_M_left l z125 (by omega) (by omega) 8 (by omega) (by omega)) kl_M_left ks_M_left ki_M_left ini_M hd_M_left ⟨Nat.le_of_ble_eq_true rfl, Nat.le_of_ble_eq_true rfl⟩ rfl (Nat.le_of_ble_eq_true rfl) d_M_aesKey_141 ⟨Nat.le_refl _, Nat.le_refl _⟩ (fun r142 H locs p142 Y => ?_)
                  obtain ⟨z142, e142, p142⟩ := p142
                  subst e142
                  obtain ⟨l142, u142⟩ := p142
                  refine r_ni (m_run (As := [.int (iI z142)]) (rest := []) (n := 1) X Y hZ hA hml hl.1 (r_M_boxed l D E h q H.size I115 J115 B115 G115 z142 (by omega) (by omega) S.1) kl_M_boxed ks_M_boxed kx_M_boxed ki_M_boxed ini_M hd_M_boxed ⟨Nat.le_of_ble_eq_true rfl, Nat.le_of_ble_eq_true rfl⟩ rfl (Nat.le_of_ble_eq_true rfl) d_M_aesKey_144 ⟨Nat.le_refl _, Nat.le_refl _⟩) X Y hA S (by decide) (by decide) (fun z143 u H locs Y S s143 p143 => ?_)
                  obtain ⟨I143, J143, B143, G143⟩ := u
                  dsimp only at Y S s143 p143
                  obtain ⟨l143, u143⟩ := p143
                  refine lv_iload X.1 X.2.1 d_M_aesKey_147 (lv_at hl 3 rfl) ?_
                  refine lv_bipush (v := iI 24) X.1 X.2.1 d_M_aesKey_149 (by decide) ?_
                  refine lv_ishl X.1 X.2.1 d_M_aesKey_151 ?_
                  refine t_u (fun z144 l144 u144 => ?_)
                  refine lv_ixor X.1 X.2.1 d_M_aesKey_152 ?_
                  refine t_u (fun z145 l145 u145 => ?_)
                  refine lv_istore (lv' := [(6, .int (iI z145)), (0, .ref h), (3, .int (iI (a2 / 4))), (4, .int (iI z116)), (5, .int (iI z117))]) X.1 X.2.1 d_M_aesKey_153 hl (by decide) rfl (fun ls hl => ?_)
                  refine lv_iload X.1 X.2.1 d_M_aesKey_155 (lv_at hl 3 rfl) ?_
                  refine p_calli (As := [.int (iI z116)]) (rest := []) (n := 1) X Y hml hl.1 (r_M_twice l z116 (by omega) (by omega)) kl_M_twice ks_M_twice ki_M_twice ini_M hd_M_twice ⟨Nat.le_of_ble_eq_true rfl, Nat.le_of_ble_eq_true rfl⟩ rfl (Nat.le_of_ble_eq_true rfl) d_M_aesKey_157 ⟨Nat.le_refl _, Nat.le_refl _⟩ (fun r146 H locs p146 Y => ?_)
                  obtain ⟨z146, e146, p146⟩ := p146
                  subst e146
                  obtain ⟨l146, u146⟩ := p146
                  refine lv_istore (lv' := [(4, .int (iI z146)), (6, .int (iI z145)), (0, .ref h), (3, .int (iI (a2 / 4))), (5, .int (iI z117))]) X.1 X.2.1 d_M_aesKey_160 hl (by decide) rfl (fun ls hl => ?_)
                  refine lv_goto (tgt := 187) X.1 X.2.1 d_M_aesKey_162 (by decide) ?_
                  exact J130 z146 z145 I143 J143 B143 G143 _ _ _ (by omega) (by omega) (by omega) (by omega) Y S (lv_sub hl [2, 3, 0, 4, 1] rfl)
          refine lv_istore (lv' := [(5, .int (iI (a2 / 4))), (4, .int (iI 1)), (0, .ref h), (1, .ref ((q 56))), (3, .int (iI (a2 / 4)))]) X.1 X.2.1 d_M_aesKey_103 hl (by decide) rfl (fun ls hl => ?_)
          exact J119 _ 1 (a2 / 4) I108 J108 B108 G108 _ _ _ rfl (by omega) (by omega) (by omega) (by omega) (by omega) Y S (lv_sub hl [2, 4, 1, 0] rfl)
        · refine lv_aload_n X.1 X.2.1 d_M_aesKey_32 rfl (lv_at hl 0 rfl) ?_
          refine m_get X Y 15 (by decide) lk_schedule (gf_schedule _ _ _) rfl d_M_aesKey_33 ?_
          refine lv_iload X.1 X.2.1 d_M_aesKey_36 (lv_at hl 3 rfl) ?_
          refine lv_aload_n X.1 X.2.1 d_M_aesKey_38 rfl (lv_at hl 1 rfl) ?_
          refine lv_iconst (v := iI 4) X.1 X.2.1 d_M_aesKey_39 (by decide) ?_
          refine lv_iload X.1 X.2.1 d_M_aesKey_40 (lv_at hl 3 rfl) ?_
          refine z_imul X.1 X.2.1 d_M_aesKey_42 ?_
          refine r_bald X Y S (aw_made _ _ _ _ _ _ _) rfl (by omega) (show 4 * z109 < ((32 : Nat) : Int) by omega) (by omega) d_M_aesKey_43 (fun z147 q147 l147 u147 => ?_)
          refine lv_bipush (v := iI 24) X.1 X.2.1 d_M_aesKey_44 (by decide) ?_
          refine lv_ishl X.1 X.2.1 d_M_aesKey_46 ?_
          refine t_u (fun z148 l148 u148 => ?_)
          refine lv_aload_n X.1 X.2.1 d_M_aesKey_47 rfl (lv_at hl 1 rfl) ?_
          refine lv_iconst (v := iI 4) X.1 X.2.1 d_M_aesKey_48 (by decide) ?_
          refine lv_iload X.1 X.2.1 d_M_aesKey_49 (lv_at hl 3 rfl) ?_
          refine z_imul X.1 X.2.1 d_M_aesKey_51 ?_
          refine lv_iconst (v := iI 1) X.1 X.2.1 d_M_aesKey_52 (by decide) ?_
          refine z_iadd X.1 X.2.1 d_M_aesKey_53 ?_
          refine r_bald X Y S (aw_made _ _ _ _ _ _ _) rfl (by omega) (show (4 * z109) + 1 < ((32 : Nat) : Int) by omega) (by omega) d_M_aesKey_54 (fun z149 q149 l149 u149 => ?_)
          refine lv_sipush (v := iI 255) X.1 X.2.1 d_M_aesKey_55 (by decide) ?_
          refine z_iand X.1 X.2.1 (by omega) (by omega) d_M_aesKey_58 (fun z150 l150 u150 => ?_)
          refine lv_bipush (v := iI 16) X.1 X.2.1 d_M_aesKey_59 (by decide) ?_
          refine lv_ishl X.1 X.2.1 d_M_aesKey_61 ?_
          refine t_u (fun z151 l151 u151 => ?_)
          refine lv_ior X.1 X.2.1 d_M_aesKey_62 ?_
          refine t_u (fun z152 l152 u152 => ?_)
          refine lv_aload_n X.1 X.2.1 d_M_aesKey_63 rfl (lv_at hl 1 rfl) ?_
          refine lv_iconst (v := iI 4) X.1 X.2.1 d_M_aesKey_64 (by decide) ?_
          refine lv_iload X.1 X.2.1 d_M_aesKey_65 (lv_at hl 3 rfl) ?_
          refine z_imul X.1 X.2.1 d_M_aesKey_67 ?_
          refine lv_iconst (v := iI 2) X.1 X.2.1 d_M_aesKey_68 (by decide) ?_
          refine z_iadd X.1 X.2.1 d_M_aesKey_69 ?_
          refine r_bald X Y S (aw_made _ _ _ _ _ _ _) rfl (by omega) (show (4 * z109) + 2 < ((32 : Nat) : Int) by omega) (by omega) d_M_aesKey_70 (fun z153 q153 l153 u153 => ?_)
          refine lv_sipush (v := iI 255) X.1 X.2.1 d_M_aesKey_71 (by decide) ?_
          refine z_iand X.1 X.2.1 (by omega) (by omega) d_M_aesKey_74 (fun z154 l154 u154 => ?_)
          refine lv_bipush (v := iI 8) X.1 X.2.1 d_M_aesKey_75 (by decide) ?_
          refine lv_ishl X.1 X.2.1 d_M_aesKey_77 ?_
          refine t_u (fun z155 l155 u155 => ?_)
          refine lv_ior X.1 X.2.1 d_M_aesKey_78 ?_
          refine t_u (fun z156 l156 u156 => ?_)
          refine lv_aload_n X.1 X.2.1 d_M_aesKey_79 rfl (lv_at hl 1 rfl) ?_
          refine lv_iconst (v := iI 4) X.1 X.2.1 d_M_aesKey_80 (by decide) ?_
          refine lv_iload X.1 X.2.1 d_M_aesKey_81 (lv_at hl 3 rfl) ?_
          refine z_imul X.1 X.2.1 d_M_aesKey_83 ?_
          refine lv_iconst (v := iI 3) X.1 X.2.1 d_M_aesKey_84 (by decide) ?_
          refine z_iadd X.1 X.2.1 d_M_aesKey_85 ?_
          refine r_bald X Y S (aw_made _ _ _ _ _ _ _) rfl (by omega) (show (4 * z109) + 3 < ((32 : Nat) : Int) by omega) (by omega) d_M_aesKey_86 (fun z157 q157 l157 u157 => ?_)
          refine lv_sipush (v := iI 255) X.1 X.2.1 d_M_aesKey_87 (by decide) ?_
          refine z_iand X.1 X.2.1 (by omega) (by omega) d_M_aesKey_90 (fun z158 l158 u158 => ?_)
          refine lv_ior X.1 X.2.1 d_M_aesKey_91 ?_
          refine t_u (fun z159 l159 u159 => ?_)
          refine r_iast X Y S (aw_schedule _ _ _ _ _ _ _) (sw_schedule _ _ _ _ _ _ _) rfl ⟨(show ((-2147483648) : Int) ≤ z159 by omega), (show z159 ≤ (2147483647 : Int) by omega)⟩ ⟨by omega, by omega⟩ (by omega) (show z109 < ((60 : Nat) : Int) by omega) (by omega) (by decide) d_M_aesKey_92 (fun B160 H locs Y S w160 => ?_)
          refine lv_iinc (v := iI (z109 + 1)) (lv' := [(4, .int (iI (z109 + 1))), (0, .ref h), (1, .ref ((q 56))), (3, .int (iI (a2 / 4)))]) X.1 X.2.1 d_M_aesKey_93 hl (k := 3) rfl ((iI_add _ _).trans (congrArg iI (by omega))) (by decide) rfl (fun ls hl => ?_)
          refine lv_goto (tgt := 26) X.1 X.2.1 d_M_aesKey_96 (by decide) ?_
          exact ih111 ((8 - (z109 + 1)).toNat) (by omega) (z109 + 1) I108 J108 B160 G108 _ _ _ rfl (by omega) (by omega) Y S (lv_sub hl [1, 2, 3, 0] rfl)
    refine lv_istore (lv' := [(4, .int (iI 0)), (3, .int (iI (a2 / 4))), (0, .ref h), (1, .ref ((q 56))), (2, .int (iI a2))]) X.1 X.2.1 d_M_aesKey_24 hl (by decide) rfl (fun ls hl => ?_)
    exact J110 _ 0 I107 J102 B102 G102 _ _ _ rfl (by omega) (by omega) Y S (lv_sub hl [2, 3, 1, 0] rfl)
  refine z_if_ne (tgt := 11) X.1 X.2.1 d_M_aesKey_4 (by decide) ⟨by omega, by omega⟩ (fun h161 => ?_) (fun h161 => ?_)
  · exact J103 I J B G _ _ _  Y S (lv_sub hl [0, 1, 2] rfl)
  · refine lv_aload_n X.1 X.2.1 d_M_aesKey_7 rfl (lv_at hl 0 rfl) ?_
    refine r_nv (m_run (As := []) (rest := []) (n := 0) X Y hZ hA hml hl.1 (r_M_makeBox l D E h q H.size I J B G S.1) kl_M_makeBox ks_M_makeBox kx_M_makeBox ki_M_makeBox ini_M hd_M_makeBox ⟨Nat.le_of_ble_eq_true rfl, Nat.le_of_ble_eq_true rfl⟩ rfl (Nat.le_of_ble_eq_true rfl) d_M_aesKey_8 ⟨Nat.le_refl _, Nat.le_refl _⟩) X Y hA S (by decide) (by decide) (fun u H locs Y S s162 p162 => ?_)
    obtain ⟨I162, J162, B162, G162⟩ := u
    dsimp only at Y S s162 p162
    exact J103 I162 J162 B162 G162 _ _ _  Y S (lv_sub hl [0, 1, 2] rfl)
set_option maxHeartbeats 4000000 in
set_option maxRecDepth 100000 in
theorem r_M_derive_made_constant_use (l : Launch) (D : mD) (E : mE) (h : Nat) (q : Nat → Nat) (sz : Nat) (I : Nat → Int32) (J : Nat → Int64) (B : Nat → Nat → Int32) (G : Nat → Nat → Int64) (a2 : Int) (l_a2 : 16 ≤ a2) (u_a2 : a2 ≤ 32) (hT : rT I B) : Met l y_M_derive (k_M_derive :: lw_tg) (mR 5 155) (va_Pc [.ref h, .ref (q 56), .int (iI a2), .ref (q 22), .int (iI 5), .ref (q 23)] (mPre D E h q (I, J, B, G) sz)) (va_Qv (rPv [14, 18] [12, 13, 15, 16, 17, 19, 20, 21, 23] I B (fun (u : mS) => True)) (mPost D E h q (mA E h q sz)) (mA E h q sz)) 0 0 (mA E h q sz) := by
  refine m_enter (by decide) rfl (Nat.le_of_ble_eq_true rfl) (fun p e s m below meth c ls AV QQ H locs hQQ X Y hZ hA hr hlk hml hl => ?_)
  have Y : mH D E (mA E h q sz) s.heap h q I J B G H locs := Y
  have S : rS [14, 18] [12, 13, 15, 16, 17, 19, 20, 21, 23] I B I B := rS_rf hT
  have hl : lv_has ls 8 [(0, .ref h), (1, .ref ((q 56))), (2, .int (iI a2)), (3, .ref ((q 22))), (4, .int (iI 5)), (5, .ref ((q 23)))] := hl
  refine lv_aload_n X.1 X.2.1 d_M_derive_0 rfl (lv_at hl 0 rfl) ?_
  refine lv_aload_n X.1 X.2.1 d_M_derive_1 rfl (lv_at hl 3 rfl) ?_
  refine lv_iload X.1 X.2.1 d_M_derive_2 (lv_at hl 4 rfl) ?_
  refine r_nv (m_run (As := [.ref ((q 22)), .int (iI 5)]) (rest := []) (n := 2) X Y hZ hA hml hl.1 (r_M_foldOf_constant l D E h q H.size I J B G S.1) kl_M_foldOf ks_M_foldOf kx_M_foldOf ki_M_foldOf ini_M hd_M_foldOf ⟨Nat.le_of_ble_eq_true rfl, Nat.le_of_ble_eq_true rfl⟩ rfl (Nat.le_of_ble_eq_true rfl) d_M_derive_4 ⟨Nat.le_refl _, Nat.le_refl _⟩) X Y hA S (by decide) (by decide) (fun u H locs Y S s101 p101 => ?_)
  obtain ⟨I101, J101, B101, G101⟩ := u
  dsimp only at Y S s101 p101
  refine lv_aload_n X.1 X.2.1 d_M_derive_7 rfl (lv_at hl 0 rfl) ?_
  refine lv_aload_n X.1 X.2.1 d_M_derive_8 rfl (lv_at hl 1 rfl) ?_
  refine lv_iload_n X.1 X.2.1 d_M_derive_9 rfl (lv_at hl 2 rfl) ?_
  refine r_nv (m_run (As := [.ref ((q 56)), .int (iI a2)]) (rest := []) (n := 2) X Y hZ hA hml hl.1 (r_M_aesKey_made l D E h q H.size I101 J101 B101 G101 a2 (by omega) (by omega) S.1) kl_M_aesKey ks_M_aesKey kx_M_aesKey ki_M_aesKey ini_M hd_M_aesKey ⟨Nat.le_of_ble_eq_true rfl, Nat.le_of_ble_eq_true rfl⟩ rfl (Nat.le_of_ble_eq_true rfl) d_M_derive_10 ⟨Nat.le_refl _, Nat.le_refl _⟩) X Y hA S (by decide) (by decide) (fun u H locs Y S s102 p102 => ?_)
  obtain ⟨I102, J102, B102, G102⟩ := u
  dsimp only at Y S s102 p102
  refine lv_iconst (v := iI 0) X.1 X.2.1 d_M_derive_13 (by decide) ?_
  have J105 : ∀ (n107 : Nat) (z104 : Int) (I103 : Nat → Int32) (J103 : Nat → Int64) (B103 : Nat → Nat → Int32) (G103 : Nat → Nat → Int64) (H : Heap) (locs : List Loc) (ls : Array Slot), (16 - z104).toNat = n107 → (0 ≤ z104) → (z104 ≤ 16) → mH D E (mA E h q sz) s.heap h q I103 J103 B103 G103 H locs → rS [14, 18] [12, 13, 15, 16, 17, 19, 20, 21, 23] I B I103 B103 → lv_has ls 8 [(0, .ref h), (2, .int (iI a2)), (5, .ref ((q 23))), (6, .int (iI z104))] → W p l e (mR 5 155) s m AV below meth c H locs 0 0 QQ (F0 m 16 ls []) := by
    intro n107
    induction n107 using Nat.strongRecOn with
    | ind n107 ih106 =>
      intro z104 I103 J103 B103 G103 H locs ls hm108 l104 u104 Y S hl
      refine lv_iload X.1 X.2.1 d_M_derive_16 (lv_at hl 3 rfl) ?_
      refine lv_bipush (v := iI 16) X.1 X.2.1 d_M_derive_18 (by decide) ?_
      refine z_icmp_ge (tgt := 47) X.1 X.2.1 d_M_derive_20 (by decide) ⟨by omega, by omega⟩ ⟨by omega, by omega⟩ (fun h109 => ?_) (fun h109 => ?_)
      · refine lv_iconst (v := iI 0) X.1 X.2.1 d_M_derive_47 (by decide) ?_
        have J113 : ∀ (n115 : Nat) (z111 : Int) (I110 : Nat → Int32) (J110 : Nat → Int64) (B110 : Nat → Nat → Int32) (G110 : Nat → Nat → Int64) (H : Heap) (locs : List Loc) (ls : Array Slot), (47 - z111).toNat = n115 → (0 ≤ z111) → (z111 ≤ 47) → (z111 % 16 = 0) → mH D E (mA E h q sz) s.heap h q I110 J110 B110 G110 H locs → rS [14, 18] [12, 13, 15, 16, 17, 19, 20, 21, 23] I B I110 B110 → lv_has ls 8 [(0, .ref h), (2, .int (iI a2)), (5, .ref ((q 23))), (6, .int (iI z111))] → W p l e (mR 5 155) s m AV below meth c H locs 0 0 QQ (F0 m 50 ls []) := by
          intro n115
          induction n115 using Nat.strongRecOn with
          | ind n115 ih114 =>
            intro z111 I110 J110 B110 G110 H locs ls hm116 l111 u111 i112 Y S hl
            refine lv_iload X.1 X.2.1 d_M_derive_50 (lv_at hl 3 rfl) ?_
            refine lv_iload_n X.1 X.2.1 d_M_derive_52 rfl (lv_at hl 1 rfl) ?_
            refine z_icmp_ge (tgt := 100) X.1 X.2.1 d_M_derive_53 (by decide) ⟨by omega, by omega⟩ ⟨by omega, by omega⟩ (fun h117 => ?_) (fun h117 => ?_)
            · refine lv_iconst (v := iI 0) X.1 X.2.1 d_M_derive_100 (by decide) ?_
              have J120 : ∀ (n122 : Nat) (z119 : Int) (I118 : Nat → Int32) (J118 : Nat → Int64) (B118 : Nat → Nat → Int32) (G118 : Nat → Nat → Int64) (H : Heap) (locs : List Loc) (ls : Array Slot), (32 - z119).toNat = n122 → (0 ≤ z119) → (z119 ≤ 32) → mH D E (mA E h q sz) s.heap h q I118 J118 B118 G118 H locs → rS [14, 18] [12, 13, 15, 16, 17, 19, 20, 21, 23] I B I118 B118 → lv_has ls 8 [(0, .ref h), (2, .int (iI a2)), (5, .ref ((q 23))), (6, .int (iI z119))] → W p l e (mR 5 155) s m AV below meth c H locs 0 0 QQ (F0 m 103 ls []) := by
                intro n122
                induction n122 using Nat.strongRecOn with
                | ind n122 ih121 =>
                  intro z119 I118 J118 B118 G118 H locs ls hm123 l119 u119 Y S hl
                  refine lv_iload X.1 X.2.1 d_M_derive_103 (lv_at hl 3 rfl) ?_
                  refine lv_iload_n X.1 X.2.1 d_M_derive_105 rfl (lv_at hl 1 rfl) ?_
                  refine z_icmp_ge (tgt := 127) X.1 X.2.1 d_M_derive_106 (by decide) ⟨by omega, by omega⟩ ⟨by omega, by omega⟩ (fun h124 => ?_) (fun h124 => ?_)
                  · exact m_retv hQQ X Y hr hlk ⟨S, trivial⟩ d_M_derive_127
                  · refine lv_aload X.1 X.2.1 d_M_derive_109 (lv_at hl 2 rfl) ?_
                    refine lv_iload X.1 X.2.1 d_M_derive_111 (lv_at hl 3 rfl) ?_
                    refine lv_aload_n X.1 X.2.1 d_M_derive_113 rfl (lv_at hl 0 rfl) ?_
                    refine m_get X Y 20 (by decide) lk_derived (gf_derived _ _ _) rfl d_M_derive_114 ?_
                    refine lv_iload X.1 X.2.1 d_M_derive_117 (lv_at hl 3 rfl) ?_
                    refine r_bald X Y S (aw_derived _ _ _ _ _ _ _) rfl (by omega) (show z119 < ((32 : Nat) : Int) by omega) (by omega) d_M_derive_119 (fun z125 q125 l125 u125 => ?_)
                    refine r_bast X Y S (aw_use _ _ _ _ _ _ _) (sw_use _ _ _ _ _ _ _) rfl (by omega) (show z119 < ((32 : Nat) : Int) by omega) (by omega) (by decide) d_M_derive_120 (fun B126 H locs Y S w126 => ?_)
                    refine lv_iinc (v := iI (z119 + 1)) (lv' := [(6, .int (iI (z119 + 1))), (0, .ref h), (2, .int (iI a2)), (5, .ref ((q 23)))]) X.1 X.2.1 d_M_derive_121 hl (k := 3) rfl ((iI_add _ _).trans (congrArg iI (by omega))) (by decide) rfl (fun ls hl => ?_)
                    refine lv_goto (tgt := 103) X.1 X.2.1 d_M_derive_124 (by decide) ?_
                    exact ih121 ((32 - (z119 + 1)).toNat) (by omega) (z119 + 1) I118 J118 B126 G118 _ _ _ rfl (by omega) (by omega) Y S (lv_sub hl [1, 2, 3, 0] rfl)
              refine lv_istore (lv' := [(6, .int (iI 0)), (0, .ref h), (2, .int (iI a2)), (5, .ref ((q 23)))]) X.1 X.2.1 d_M_derive_101 hl (by decide) rfl (fun ls hl => ?_)
              exact J120 _ 0 I110 J110 B110 G110 _ _ _ rfl (by omega) (by omega) Y S (lv_sub hl [1, 2, 3, 0] rfl)
            · refine lv_aload_n X.1 X.2.1 d_M_derive_56 rfl (lv_at hl 0 rfl) ?_
              refine r_nv (m_run (As := []) (rest := []) (n := 0) X Y hZ hA hml hl.1 (r_M_cover l D E h q H.size I110 J110 B110 G110 S.1) kl_M_cover ks_M_cover kx_M_cover ki_M_cover ini_M hd_M_cover ⟨Nat.le_of_ble_eq_true rfl, Nat.le_of_ble_eq_true rfl⟩ rfl (Nat.le_of_ble_eq_true rfl) d_M_derive_57 ⟨Nat.le_refl _, Nat.le_refl _⟩) X Y hA S (by decide) (by decide) (fun u H locs Y S s127 p127 => ?_)
              obtain ⟨I127, J127, B127, G127⟩ := u
              dsimp only at Y S s127 p127
              refine lv_iconst (v := iI 0) X.1 X.2.1 d_M_derive_60 (by decide) ?_
              have J130 : ∀ (n132 : Nat) (z129 : Int) (I128 : Nat → Int32) (J128 : Nat → Int64) (B128 : Nat → Nat → Int32) (G128 : Nat → Nat → Int64) (H : Heap) (locs : List Loc) (ls : Array Slot), (16 - z129).toNat = n132 → (0 ≤ z129) → (z129 ≤ 16) → mH D E (mA E h q sz) s.heap h q I128 J128 B128 G128 H locs → rS [14, 18] [12, 13, 15, 16, 17, 19, 20, 21, 23] I B I128 B128 → lv_has ls 8 [(0, .ref h), (2, .int (iI a2)), (5, .ref ((q 23))), (6, .int (iI z111)), (7, .int (iI z129))] → W p l e (mR 5 155) s m AV below meth c H locs 0 0 QQ (F0 m 63 ls []) := by
                intro n132
                induction n132 using Nat.strongRecOn with
                | ind n132 ih131 =>
                  intro z129 I128 J128 B128 G128 H locs ls hm133 l129 u129 Y S hl
                  refine lv_iload X.1 X.2.1 d_M_derive_63 (lv_at hl 4 rfl) ?_
                  refine lv_bipush (v := iI 16) X.1 X.2.1 d_M_derive_65 (by decide) ?_
                  refine z_icmp_ge (tgt := 94) X.1 X.2.1 d_M_derive_67 (by decide) ⟨by omega, by omega⟩ ⟨by omega, by omega⟩ (fun h134 => ?_) (fun h134 => ?_)
                  · refine lv_iinc (v := iI (z111 + 16)) (lv' := [(6, .int (iI (z111 + 16))), (0, .ref h), (2, .int (iI a2)), (5, .ref ((q 23))), (7, .int (iI z129))]) X.1 X.2.1 d_M_derive_94 hl (k := 3) rfl ((iI_add _ _).trans (congrArg iI (by omega))) (by decide) rfl (fun ls hl => ?_)
                    refine lv_goto (tgt := 50) X.1 X.2.1 d_M_derive_97 (by decide) ?_
                    exact ih114 ((47 - (z111 + 16)).toNat) (by omega) (z111 + 16) I128 J128 B128 G128 _ _ _ rfl (by omega) (by omega) (by omega) Y S (lv_sub hl [1, 2, 3, 0] rfl)
                  · refine lv_aload_n X.1 X.2.1 d_M_derive_70 rfl (lv_at hl 0 rfl) ?_
                    refine m_get X Y 20 (by decide) lk_derived (gf_derived _ _ _) rfl d_M_derive_71 ?_
                    refine lv_iload X.1 X.2.1 d_M_derive_74 (lv_at hl 3 rfl) ?_
                    refine lv_iload X.1 X.2.1 d_M_derive_76 (lv_at hl 4 rfl) ?_
                    refine z_iadd X.1 X.2.1 d_M_derive_78 ?_
                    refine lv_aload_n X.1 X.2.1 d_M_derive_79 rfl (lv_at hl 0 rfl) ?_
                    refine m_get X Y 16 (by decide) lk_state (gf_state _ _ _) rfl d_M_derive_80 ?_
                    refine lv_iload X.1 X.2.1 d_M_derive_83 (lv_at hl 4 rfl) ?_
                    refine r_iald X Y S (aw_state _ _ _ _ _ _ _) rfl (by omega) (show z129 < ((16 : Nat) : Int) by omega) (by omega) d_M_derive_85 (fun z135 q135 l135 u135 => ?_)
                    refine lv_i2b X.1 X.2.1 d_M_derive_86 rfl ?_
                    refine t_u (fun z136 l136 u136 => ?_)
                    refine r_bast X Y S (aw_derived _ _ _ _ _ _ _) (sw_derived _ _ _ _ _ _ _) rfl (by omega) (show z111 + z129 < ((32 : Nat) : Int) by omega) (by omega) (by decide) d_M_derive_87 (fun B137 H locs Y S w137 => ?_)
                    refine lv_iinc (v := iI (z129 + 1)) (lv' := [(7, .int (iI (z129 + 1))), (0, .ref h), (2, .int (iI a2)), (5, .ref ((q 23))), (6, .int (iI z111))]) X.1 X.2.1 d_M_derive_88 hl (k := 4) rfl ((iI_add _ _).trans (congrArg iI (by omega))) (by decide) rfl (fun ls hl => ?_)
                    refine lv_goto (tgt := 63) X.1 X.2.1 d_M_derive_91 (by decide) ?_
                    exact ih131 ((16 - (z129 + 1)).toNat) (by omega) (z129 + 1) I128 J128 B137 G128 _ _ _ rfl (by omega) (by omega) Y S (lv_sub hl [1, 2, 3, 4, 0] rfl)
              refine lv_istore (lv' := [(7, .int (iI 0)), (0, .ref h), (2, .int (iI a2)), (5, .ref ((q 23))), (6, .int (iI z111))]) X.1 X.2.1 d_M_derive_61 hl (by decide) rfl (fun ls hl => ?_)
              exact J130 _ 0 I127 J127 B127 G127 _ _ _ rfl (by omega) (by omega) Y S (lv_sub hl [1, 2, 3, 4, 0] rfl)
        refine lv_istore (lv' := [(6, .int (iI 0)), (0, .ref h), (2, .int (iI a2)), (5, .ref ((q 23)))]) X.1 X.2.1 d_M_derive_48 hl (by decide) rfl (fun ls hl => ?_)
        exact J113 _ 0 I103 J103 B103 G103 _ _ _ rfl (by omega) (by omega) (by omega) Y S (lv_sub hl [1, 2, 3, 0] rfl)
      · refine lv_aload_n X.1 X.2.1 d_M_derive_23 rfl (lv_at hl 0 rfl) ?_
        refine m_get X Y 16 (by decide) lk_state (gf_state _ _ _) rfl d_M_derive_24 ?_
        refine lv_iload X.1 X.2.1 d_M_derive_27 (lv_at hl 3 rfl) ?_
        refine lv_aload_n X.1 X.2.1 d_M_derive_29 rfl (lv_at hl 0 rfl) ?_
        refine m_get X Y 19 (by decide) lk_fold (gf_fold _ _ _) rfl d_M_derive_30 ?_
        refine lv_iload X.1 X.2.1 d_M_derive_33 (lv_at hl 3 rfl) ?_
        refine r_bald X Y S (aw_fold _ _ _ _ _ _ _) rfl (by omega) (show z104 < ((16 : Nat) : Int) by omega) (by omega) d_M_derive_35 (fun z138 q138 l138 u138 => ?_)
        refine lv_sipush (v := iI 255) X.1 X.2.1 d_M_derive_36 (by decide) ?_
        refine z_iand X.1 X.2.1 (by omega) (by omega) d_M_derive_39 (fun z139 l139 u139 => ?_)
        refine r_iast X Y S (aw_state _ _ _ _ _ _ _) (sw_state _ _ _ _ _ _ _) rfl ⟨(show (0 : Int) ≤ z139 by omega), (show z139 ≤ (255 : Int) by omega)⟩ ⟨by omega, by omega⟩ (by omega) (show z104 < ((16 : Nat) : Int) by omega) (by omega) (by decide) d_M_derive_40 (fun B140 H locs Y S w140 => ?_)
        refine lv_iinc (v := iI (z104 + 1)) (lv' := [(6, .int (iI (z104 + 1))), (0, .ref h), (2, .int (iI a2)), (5, .ref ((q 23)))]) X.1 X.2.1 d_M_derive_41 hl (k := 3) rfl ((iI_add _ _).trans (congrArg iI (by omega))) (by decide) rfl (fun ls hl => ?_)
        refine lv_goto (tgt := 16) X.1 X.2.1 d_M_derive_44 (by decide) ?_
        exact ih106 ((16 - (z104 + 1)).toNat) (by omega) (z104 + 1) I103 J103 B140 G103 _ _ _ rfl (by omega) (by omega) Y S (lv_sub hl [1, 2, 3, 0] rfl)
  refine lv_istore (lv' := [(6, .int (iI 0)), (0, .ref h), (1, .ref ((q 56))), (2, .int (iI a2)), (3, .ref ((q 22))), (4, .int (iI 5)), (5, .ref ((q 23)))]) X.1 X.2.1 d_M_derive_14 hl (by decide) rfl (fun ls hl => ?_)
  exact J105 _ 0 I102 J102 B102 G102 _ _ _ rfl (by omega) (by omega) Y S (lv_sub hl [1, 3, 6, 0] rfl)
set_option maxHeartbeats 4000000 in
set_option maxRecDepth 100000 in
theorem r_M_useKey_made (l : Launch) (D : mD) (E : mE) (h : Nat) (q : Nat → Nat) (sz : Nat) (I : Nat → Int32) (J : Nat → Int64) (B : Nat → Nat → Int32) (G : Nat → Nat → Int64) (a2 : Int) (l_a2 : 16 ≤ a2) (u_a2 : a2 ≤ 32) (a3 : Int) (l_a3 : (-2147483648) ≤ a3) (u_a3 : a3 ≤ 2147483647) (a4 : Int) (l_a4 : (-2147483648) ≤ a4) (u_a4 : a4 ≤ 2147483647) (hT : rT I B) : Met l y_M_useKey (k_M_useKey :: lw_tg) (mR 6 182) (va_Pc [.ref h, .ref (q 56), .int (iI a2), .int (iI a3), .int (iI a4)] (mPre D E h q (I, J, B, G) sz)) (va_Qv (rPv [14, 18] [12, 13, 15, 16, 17, 19, 20, 21, 22, 23] I B (fun (u : mS) => True)) (mPost D E h q (mA E h q sz)) (mA E h q sz)) 0 0 (mA E h q sz) := by
  refine m_enter (by decide) rfl (Nat.le_of_ble_eq_true rfl) (fun p e s m below meth c ls AV QQ H locs hQQ X Y hZ hA hr hlk hml hl => ?_)
  have Y : mH D E (mA E h q sz) s.heap h q I J B G H locs := Y
  have S : rS [14, 18] [12, 13, 15, 16, 17, 19, 20, 21, 22, 23] I B I B := rS_rf hT
  have hl : lv_has ls 5 [(0, .ref h), (1, .ref ((q 56))), (2, .int (iI a2)), (3, .int (iI a3)), (4, .int (iI a4))] := hl
  refine lv_aload_n X.1 X.2.1 d_M_useKey_0 rfl (lv_at hl 0 rfl) ?_
  refine m_get X Y 22 (by decide) lk_constant (gf_constant _ _ _) rfl d_M_useKey_1 ?_
  refine lv_iconst (v := iI 0) X.1 X.2.1 d_M_useKey_4 (by decide) ?_
  refine lv_iconst (v := iI 0) X.1 X.2.1 d_M_useKey_5 (by decide) ?_
  refine r_bast X Y S (aw_constant _ _ _ _ _ _ _) (sw_constant _ _ _ _ _ _ _) rfl (by omega) (show 0 < ((5 : Nat) : Int) by omega) (by omega) (by decide) d_M_useKey_6 (fun B101 H locs Y S w101 => ?_)
  refine lv_aload_n X.1 X.2.1 d_M_useKey_7 rfl (lv_at hl 0 rfl) ?_
  refine m_get X Y 22 (by decide) lk_constant (gf_constant _ _ _) rfl d_M_useKey_8 ?_
  refine lv_iconst (v := iI 1) X.1 X.2.1 d_M_useKey_11 (by decide) ?_
  refine lv_iconst (v := iI 0) X.1 X.2.1 d_M_useKey_12 (by decide) ?_
  refine r_bast X Y S (aw_constant _ _ _ _ _ _ _) (sw_constant _ _ _ _ _ _ _) rfl (by omega) (show 1 < ((5 : Nat) : Int) by omega) (by omega) (by decide) d_M_useKey_13 (fun B102 H locs Y S w102 => ?_)
  refine lv_aload_n X.1 X.2.1 d_M_useKey_14 rfl (lv_at hl 0 rfl) ?_
  refine m_get X Y 22 (by decide) lk_constant (gf_constant _ _ _) rfl d_M_useKey_15 ?_
  refine lv_iconst (v := iI 2) X.1 X.2.1 d_M_useKey_18 (by decide) ?_
  refine lv_iconst (v := iI 0) X.1 X.2.1 d_M_useKey_19 (by decide) ?_
  refine r_bast X Y S (aw_constant _ _ _ _ _ _ _) (sw_constant _ _ _ _ _ _ _) rfl (by omega) (show 2 < ((5 : Nat) : Int) by omega) (by omega) (by decide) d_M_useKey_20 (fun B103 H locs Y S w103 => ?_)
  refine lv_aload_n X.1 X.2.1 d_M_useKey_21 rfl (lv_at hl 0 rfl) ?_
  refine m_get X Y 22 (by decide) lk_constant (gf_constant _ _ _) rfl d_M_useKey_22 ?_
  refine lv_iconst (v := iI 3) X.1 X.2.1 d_M_useKey_25 (by decide) ?_
  refine lv_iload_n X.1 X.2.1 d_M_useKey_26 rfl (lv_at hl 3 rfl) ?_
  refine lv_i2b X.1 X.2.1 d_M_useKey_27 rfl ?_
  refine t_u (fun z104 l104 u104 => ?_)
  refine r_bast X Y S (aw_constant _ _ _ _ _ _ _) (sw_constant _ _ _ _ _ _ _) rfl (by omega) (show 3 < ((5 : Nat) : Int) by omega) (by omega) (by decide) d_M_useKey_28 (fun B105 H locs Y S w105 => ?_)
  refine lv_aload_n X.1 X.2.1 d_M_useKey_29 rfl (lv_at hl 0 rfl) ?_
  refine m_get X Y 22 (by decide) lk_constant (gf_constant _ _ _) rfl d_M_useKey_30 ?_
  refine lv_iconst (v := iI 4) X.1 X.2.1 d_M_useKey_33 (by decide) ?_
  refine lv_iload X.1 X.2.1 d_M_useKey_34 (lv_at hl 4 rfl) ?_
  refine lv_i2b X.1 X.2.1 d_M_useKey_36 rfl ?_
  refine t_u (fun z106 l106 u106 => ?_)
  refine r_bast X Y S (aw_constant _ _ _ _ _ _ _) (sw_constant _ _ _ _ _ _ _) rfl (by omega) (show 4 < ((5 : Nat) : Int) by omega) (by omega) (by decide) d_M_useKey_37 (fun B107 H locs Y S w107 => ?_)
  refine lv_aload_n X.1 X.2.1 d_M_useKey_38 rfl (lv_at hl 0 rfl) ?_
  refine lv_aload_n X.1 X.2.1 d_M_useKey_39 rfl (lv_at hl 1 rfl) ?_
  refine lv_iload_n X.1 X.2.1 d_M_useKey_40 rfl (lv_at hl 2 rfl) ?_
  refine lv_aload_n X.1 X.2.1 d_M_useKey_41 rfl (lv_at hl 0 rfl) ?_
  refine m_get X Y 22 (by decide) lk_constant (gf_constant _ _ _) rfl d_M_useKey_42 ?_
  refine lv_iconst (v := iI 5) X.1 X.2.1 d_M_useKey_45 (by decide) ?_
  refine lv_aload_n X.1 X.2.1 d_M_useKey_46 rfl (lv_at hl 0 rfl) ?_
  refine m_get X Y 23 (by decide) lk_use (gf_use _ _ _) rfl d_M_useKey_47 ?_
  refine r_nv (m_run (As := [.ref ((q 56)), .int (iI a2), .ref ((q 22)), .int (iI 5), .ref ((q 23))]) (rest := []) (n := 5) X Y hZ hA hml hl.1 (r_M_derive_made_constant_use l D E h q H.size I J B107 G a2 (by omega) (by omega) S.1) kl_M_derive ks_M_derive kx_M_derive ki_M_derive ini_M hd_M_derive ⟨Nat.le_of_ble_eq_true rfl, Nat.le_of_ble_eq_true rfl⟩ rfl (Nat.le_of_ble_eq_true rfl) d_M_useKey_50 ⟨Nat.le_refl _, Nat.le_refl _⟩) X Y hA S (by decide) (by decide) (fun u H locs Y S s108 p108 => ?_)
  obtain ⟨I108, J108, B108, G108⟩ := u
  dsimp only at Y S s108 p108
  exact m_retv hQQ X Y hr hlk ⟨S, trivial⟩ d_M_useKey_53
set_option maxHeartbeats 4000000 in
set_option maxRecDepth 100000 in
theorem r_M_seal_made (l : Launch) (D : mD) (E : mE) (h : Nat) (q : Nat → Nat) (sz : Nat) (I : Nat → Int32) (J : Nat → Int64) (B : Nat → Nat → Int32) (G : Nat → Nat → Int64) (a2 : Int) (l_a2 : (-2147483648) ≤ a2) (u_a2 : a2 ≤ 2147483647) (a3 : Int) (l_a3 : (-2147483648) ≤ a3) (u_a3 : a3 ≤ 2147483647) (a4 : Int) (l_a4 : 0 ≤ a4) (u_a4 : a4 ≤ 60000) (a5 : Int) (l_a5 : 0 ≤ a5) (u_a5 : a5 ≤ 60000) (hT : rT I B) (cn : Int) (gcn : I 33 = iI cn) (lcn : 0 ≤ cn) (ucn : cn ≤ 2000000) (q0 : a4 ≤ a5) (q1 : a5 - a4 ≤ 19000) : Met l y_M_seal (k_M_seal :: lw_tg) (mR 7 206) (va_Pc [.ref h, .ref (q 56), .int (iI a2), .int (iI a3), .int (iI a4), .int (iI a5)] (mPre D E h q (I, J, B, G) sz)) (va_Qv (rPv [8, 14, 18, 33, 36] [5, 6, 7, 9, 10, 11, 12, 13, 15, 16, 17, 19, 20, 21, 22, 23, 34, 35] I B (fun (u : mS) => (u.1 36 = iI (a5 - a4 + 28)) ∧ (u.1 33 = iI (cn + 16)))) (mPost D E h q (mA E h q sz)) (mA E h q sz)) 0 0 (mA E h q sz) := by
  refine m_enter (by decide) rfl (Nat.le_of_ble_eq_true rfl) (fun p e s m below meth c ls AV QQ H locs hQQ X Y hZ hA hr hlk hml hl => ?_)
  have Y : mH D E (mA E h q sz) s.heap h q I J B G H locs := Y
  have S : rS [8, 14, 18, 33, 36] [5, 6, 7, 9, 10, 11, 12, 13, 15, 16, 17, 19, 20, 21, 22, 23, 34, 35] I B I B := rS_rf hT
  have hl : lv_has ls 11 [(0, .ref h), (1, .ref ((q 56))), (2, .int (iI a2)), (3, .int (iI a3)), (4, .int (iI a4)), (5, .int (iI a5))] := hl
  refine lv_bipush (v := iI 16) X.1 X.2.1 d_M_seal_0 (by decide) ?_
  refine lv_iload X.1 X.2.1 d_M_seal_2 (lv_at hl 5 rfl) ?_
  refine z_iadd X.1 X.2.1 d_M_seal_4 ?_
  refine lv_iload X.1 X.2.1 d_M_seal_5 (lv_at hl 4 rfl) ?_
  refine z_isub X.1 X.2.1 d_M_seal_7 ?_
  refine lv_istore (lv' := [(6, .int (iI ((16 + a5) - a4))), (0, .ref h), (1, .ref ((q 56))), (2, .int (iI a2)), (3, .int (iI a3)), (4, .int (iI a4)), (5, .int (iI a5))]) X.1 X.2.1 d_M_seal_8 hl (by decide) rfl (fun ls hl => ?_)
  refine lv_iconst (v := iI 0) X.1 X.2.1 d_M_seal_10 (by decide) ?_
  have J105 : ∀ (n107 : Nat) (z102 : Int) (z103 : Int) (I101 : Nat → Int32) (J101 : Nat → Int64) (B101 : Nat → Nat → Int32) (G101 : Nat → Nat → Int64) (H : Heap) (locs : List Loc) (ls : Array Slot), (16 - z102).toNat = n107 → (0 ≤ z102) → (z102 ≤ 16) → (I101 33 = iI z103) → (0 ≤ z103) → (z103 ≤ 2000100) → (z103 = cn + (z102 - 0)) → mH D E (mA E h q sz) s.heap h q I101 J101 B101 G101 H locs → rS [8, 14, 18, 33, 36] [5, 6, 7, 9, 10, 11, 12, 13, 15, 16, 17, 19, 20, 21, 22, 23, 34, 35] I B I101 B101 → lv_has ls 11 [(0, .ref h), (1, .ref ((q 56))), (2, .int (iI a2)), (3, .int (iI a3)), (4, .int (iI a4)), (5, .int (iI a5)), (6, .int (iI ((16 + a5) - a4))), (7, .int (iI z102))] → W p l e (mR 7 206) s m AV below meth c H locs 0 0 QQ (F0 m 13 ls []) := by
    intro n107
    induction n107 using Nat.strongRecOn with
    | ind n107 ih106 =>
      intro z102 z103 I101 J101 B101 G101 H locs ls hm108 l102 u102 e103 l103 u103 i104 Y S hl
      refine lv_iload X.1 X.2.1 d_M_seal_13 (lv_at hl 7 rfl) ?_
      refine lv_bipush (v := iI 16) X.1 X.2.1 d_M_seal_15 (by decide) ?_
      refine z_icmp_ge (tgt := 38) X.1 X.2.1 d_M_seal_17 (by decide) ⟨by omega, by omega⟩ ⟨by omega, by omega⟩ (fun h109 => ?_) (fun h109 => ?_)
      · refine lv_iload X.1 X.2.1 d_M_seal_38 (lv_at hl 4 rfl) ?_
        have J114 : ∀ (n116 : Nat) (z111 : Int) (I110 : Nat → Int32) (J110 : Nat → Int64) (B110 : Nat → Nat → Int32) (G110 : Nat → Nat → Int64) (H : Heap) (locs : List Loc) (ls : Array Slot), (60000 - z111).toNat = n116 → (0 ≤ z111) → (z111 ≤ 60000) → (I110 33 = iI z103) → (a4 ≤ z111) → mH D E (mA E h q sz) s.heap h q I110 J110 B110 G110 H locs → rS [8, 14, 18, 33, 36] [5, 6, 7, 9, 10, 11, 12, 13, 15, 16, 17, 19, 20, 21, 22, 23, 34, 35] I B I110 B110 → lv_has ls 11 [(0, .ref h), (1, .ref ((q 56))), (2, .int (iI a2)), (3, .int (iI a3)), (4, .int (iI a4)), (5, .int (iI a5)), (6, .int (iI ((16 + a5) - a4))), (7, .int (iI z111))] → W p l e (mR 7 206) s m AV below meth c H locs 0 0 QQ (F0 m 42 ls []) := by
          intro n116
          induction n116 using Nat.strongRecOn with
          | ind n116 ih115 =>
            intro z111 I110 J110 B110 G110 H locs ls hm117 l111 u111 e112 i113 Y S hl
            refine lv_iload X.1 X.2.1 d_M_seal_42 (lv_at hl 7 rfl) ?_
            refine lv_iload X.1 X.2.1 d_M_seal_44 (lv_at hl 5 rfl) ?_
            refine z_icmp_ge (tgt := 75) X.1 X.2.1 d_M_seal_46 (by decide) ⟨by omega, by omega⟩ ⟨by omega, by omega⟩ (fun h118 => ?_) (fun h118 => ?_)
            · refine lv_aload_n X.1 X.2.1 d_M_seal_75 rfl (lv_at hl 0 rfl) ?_
              refine lv_aload_n X.1 X.2.1 d_M_seal_76 rfl (lv_at hl 1 rfl) ?_
              refine lv_iload_n X.1 X.2.1 d_M_seal_77 rfl (lv_at hl 2 rfl) ?_
              refine p_calli (As := [.int (iI a2)]) (rest := [.ref ((q 56)), .ref h]) (n := 1) X Y hml hl.1 (r_M_size l a2 (by omega) (by omega)) kl_M_size ks_M_size ki_M_size ini_M hd_M_size ⟨Nat.le_of_ble_eq_true rfl, Nat.le_of_ble_eq_true rfl⟩ rfl (Nat.le_of_ble_eq_true rfl) d_M_seal_78 ⟨Nat.le_refl _, Nat.le_refl _⟩ (fun r119 H locs p119 Y => ?_)
              obtain ⟨z119, e119, p119⟩ := p119
              subst e119
              obtain ⟨l119, u119, x119⟩ := p119
              refine lv_iload_n X.1 X.2.1 d_M_seal_81 rfl (lv_at hl 3 rfl) ?_
              refine lv_bipush (v := iI 85) X.1 X.2.1 d_M_seal_82 (by decide) ?_
              refine r_nv (m_run (As := [.ref ((q 56)), .int (iI z119), .int (iI a3), .int (iI 85)]) (rest := []) (n := 4) X Y hZ hA hml hl.1 (r_M_useKey_made l D E h q H.size I110 J110 B110 G110 z119 (by omega) (by omega) a3 (by omega) (by omega) 85 (by omega) (by omega) S.1) kl_M_useKey ks_M_useKey kx_M_useKey ki_M_useKey ini_M hd_M_useKey ⟨Nat.le_of_ble_eq_true rfl, Nat.le_of_ble_eq_true rfl⟩ rfl (Nat.le_of_ble_eq_true rfl) d_M_seal_84 ⟨Nat.le_refl _, Nat.le_refl _⟩) X Y hA S (by decide) (by decide) (fun u H locs Y S s120 p120 => ?_)
              obtain ⟨I120, J120, B120, G120⟩ := u
              dsimp only at Y S s120 p120
              refine lv_aload_n X.1 X.2.1 d_M_seal_87 rfl (lv_at hl 0 rfl) ?_
              refine lv_aload_n X.1 X.2.1 d_M_seal_88 rfl (lv_at hl 0 rfl) ?_
              refine m_get X Y 23 (by decide) lk_use (gf_use _ _ _) rfl d_M_seal_89 ?_
              refine lv_iload_n X.1 X.2.1 d_M_seal_92 rfl (lv_at hl 2 rfl) ?_
              refine p_calli (As := [.int (iI a2)]) (rest := [.ref ((q 23)), .ref h]) (n := 1) X Y hml hl.1 (r_M_size l a2 (by omega) (by omega)) kl_M_size ks_M_size ki_M_size ini_M hd_M_size ⟨Nat.le_of_ble_eq_true rfl, Nat.le_of_ble_eq_true rfl⟩ rfl (Nat.le_of_ble_eq_true rfl) d_M_seal_93 ⟨Nat.le_refl _, Nat.le_refl _⟩ (fun r121 H locs p121 Y => ?_)
              obtain ⟨z121, e121, p121⟩ := p121
              subst e121
              obtain ⟨l121, u121, x121⟩ := p121
              refine r_nv (m_run (As := [.ref ((q 23)), .int (iI z121)]) (rest := []) (n := 2) X Y hZ hA hml hl.1 (r_M_macKey_use l D E h q H.size I120 J120 B120 G120 z121 (by omega) (by omega) S.1) kl_M_macKey ks_M_macKey kx_M_macKey ki_M_macKey ini_M hd_M_macKey ⟨Nat.le_of_ble_eq_true rfl, Nat.le_of_ble_eq_true rfl⟩ rfl (Nat.le_of_ble_eq_true rfl) d_M_seal_96 ⟨Nat.le_refl _, Nat.le_refl _⟩) X Y hA S (by decide) (by decide) (fun u H locs Y S s122 p122 => ?_)
              obtain ⟨I122, J122, B122, G122⟩ := u
              dsimp only at Y S s122 p122
              refine lv_aload_n X.1 X.2.1 d_M_seal_99 rfl (lv_at hl 0 rfl) ?_
              refine r_nv (m_run (As := []) (rest := []) (n := 0) X Y hZ hA hml hl.1 (r_M_macBegin l D E h q H.size I122 J122 B122 G122 S.1) kl_M_macBegin ks_M_macBegin kx_M_macBegin ki_M_macBegin ini_M hd_M_macBegin ⟨Nat.le_of_ble_eq_true rfl, Nat.le_of_ble_eq_true rfl⟩ rfl (Nat.le_of_ble_eq_true rfl) d_M_seal_100 ⟨Nat.le_refl _, Nat.le_refl _⟩) X Y hA S (by decide) (by decide) (fun u H locs Y S s123 p123 => ?_)
              obtain ⟨I123, J123, B123, G123⟩ := u
              dsimp only at Y S s123 p123
              have x123 := p123
              refine lv_iconst (v := iI 0) X.1 X.2.1 d_M_seal_103 (by decide) ?_
              have J129 : ∀ (n131 : Nat) (z125 : Int) (z127 : Int) (I124 : Nat → Int32) (J124 : Nat → Int64) (B124 : Nat → Nat → Int32) (G124 : Nat → Nat → Int64) (H : Heap) (locs : List Loc) (ls : Array Slot), (60016 - z125).toNat = n131 → (0 ≤ z125) → (z125 ≤ 60016) → (I124 33 = iI z103) → (I124 8 = iI z127) → (0 ≤ z127) → (z127 ≤ 1000000) → (z127 = 64 + (z125 - 0)) → mH D E (mA E h q sz) s.heap h q I124 J124 B124 G124 H locs → rS [8, 14, 18, 33, 36] [5, 6, 7, 9, 10, 11, 12, 13, 15, 16, 17, 19, 20, 21, 22, 23, 34, 35] I B I124 B124 → lv_has ls 11 [(0, .ref h), (1, .ref ((q 56))), (2, .int (iI a2)), (3, .int (iI a3)), (6, .int (iI ((16 + a5) - a4))), (7, .int (iI z125))] → W p l e (mR 7 206) s m AV below meth c H locs 0 0 QQ (F0 m 106 ls []) := by
                intro n131
                induction n131 using Nat.strongRecOn with
                | ind n131 ih130 =>
                  intro z125 z127 I124 J124 B124 G124 H locs ls hm132 l125 u125 e126 e127 l127 u127 i128 Y S hl
                  refine lv_iload X.1 X.2.1 d_M_seal_106 (lv_at hl 5 rfl) ?_
                  refine lv_iload X.1 X.2.1 d_M_seal_108 (lv_at hl 4 rfl) ?_
                  refine z_icmp_ge (tgt := 130) X.1 X.2.1 d_M_seal_110 (by decide) ⟨by omega, by omega⟩ ⟨by omega, by omega⟩ (fun h133 => ?_) (fun h133 => ?_)
                  · refine lv_aload_n X.1 X.2.1 d_M_seal_130 rfl (lv_at hl 0 rfl) ?_
                    refine r_nv (m_run (As := []) (rest := []) (n := 0) X Y hZ hA hml hl.1 (r_M_macEnd l D E h q H.size I124 J124 B124 G124 S.1 z127 e127 (by omega) (by omega)) kl_M_macEnd ks_M_macEnd kx_M_macEnd ki_M_macEnd ini_M hd_M_macEnd ⟨Nat.le_of_ble_eq_true rfl, Nat.le_of_ble_eq_true rfl⟩ rfl (Nat.le_of_ble_eq_true rfl) d_M_seal_131 ⟨Nat.le_refl _, Nat.le_refl _⟩) X Y hA S (by decide) (by decide) (fun u H locs Y S s134 p134 => ?_)
                    obtain ⟨I134, J134, B134, G134⟩ := u
                    dsimp only at Y S s134 p134
                    refine lv_iconst (v := iI 0) X.1 X.2.1 d_M_seal_134 (by decide) ?_
                    have J138 : ∀ (n140 : Nat) (z136 : Int) (I135 : Nat → Int32) (J135 : Nat → Int64) (B135 : Nat → Nat → Int32) (G135 : Nat → Nat → Int64) (H : Heap) (locs : List Loc) (ls : Array Slot), (12 - z136).toNat = n140 → (0 ≤ z136) → (z136 ≤ 12) → (I135 33 = iI z103) → mH D E (mA E h q sz) s.heap h q I135 J135 B135 G135 H locs → rS [8, 14, 18, 33, 36] [5, 6, 7, 9, 10, 11, 12, 13, 15, 16, 17, 19, 20, 21, 22, 23, 34, 35] I B I135 B135 → lv_has ls 11 [(0, .ref h), (1, .ref ((q 56))), (2, .int (iI a2)), (3, .int (iI a3)), (6, .int (iI ((16 + a5) - a4))), (7, .int (iI z136))] → W p l e (mR 7 206) s m AV below meth c H locs 0 0 QQ (F0 m 137 ls []) := by
                      intro n140
                      induction n140 using Nat.strongRecOn with
                      | ind n140 ih139 =>
                        intro z136 I135 J135 B135 G135 H locs ls hm141 l136 u136 e137 Y S hl
                        refine lv_iload X.1 X.2.1 d_M_seal_137 (lv_at hl 5 rfl) ?_
                        refine lv_bipush (v := iI 12) X.1 X.2.1 d_M_seal_139 (by decide) ?_
                        refine z_icmp_ge (tgt := 167) X.1 X.2.1 d_M_seal_141 (by decide) ⟨by omega, by omega⟩ ⟨by omega, by omega⟩ (fun h142 => ?_) (fun h142 => ?_)
                        · refine lv_aload_n X.1 X.2.1 d_M_seal_167 rfl (lv_at hl 0 rfl) ?_
                          refine lv_aload_n X.1 X.2.1 d_M_seal_168 rfl (lv_at hl 1 rfl) ?_
                          refine lv_iload_n X.1 X.2.1 d_M_seal_169 rfl (lv_at hl 2 rfl) ?_
                          refine p_calli (As := [.int (iI a2)]) (rest := [.ref ((q 56)), .ref h]) (n := 1) X Y hml hl.1 (r_M_size l a2 (by omega) (by omega)) kl_M_size ks_M_size ki_M_size ini_M hd_M_size ⟨Nat.le_of_ble_eq_true rfl, Nat.le_of_ble_eq_true rfl⟩ rfl (Nat.le_of_ble_eq_true rfl) d_M_seal_170 ⟨Nat.le_refl _, Nat.le_refl _⟩ (fun r143 H locs p143 Y => ?_)
                          obtain ⟨z143, e143, p143⟩ := p143
                          subst e143
                          obtain ⟨l143, u143, x143⟩ := p143
                          refine lv_iload_n X.1 X.2.1 d_M_seal_173 rfl (lv_at hl 3 rfl) ?_
                          refine lv_sipush (v := iI 170) X.1 X.2.1 d_M_seal_174 (by decide) ?_
                          refine r_nv (m_run (As := [.ref ((q 56)), .int (iI z143), .int (iI a3), .int (iI 170)]) (rest := []) (n := 4) X Y hZ hA hml hl.1 (r_M_useKey_made l D E h q H.size I135 J135 B135 G135 z143 (by omega) (by omega) a3 (by omega) (by omega) 170 (by omega) (by omega) S.1) kl_M_useKey ks_M_useKey kx_M_useKey ki_M_useKey ini_M hd_M_useKey ⟨Nat.le_of_ble_eq_true rfl, Nat.le_of_ble_eq_true rfl⟩ rfl (Nat.le_of_ble_eq_true rfl) d_M_seal_177 ⟨Nat.le_refl _, Nat.le_refl _⟩) X Y hA S (by decide) (by decide) (fun u H locs Y S s144 p144 => ?_)
                          obtain ⟨I144, J144, B144, G144⟩ := u
                          dsimp only at Y S s144 p144
                          refine lv_aload_n X.1 X.2.1 d_M_seal_180 rfl (lv_at hl 0 rfl) ?_
                          refine lv_aload_n X.1 X.2.1 d_M_seal_181 rfl (lv_at hl 0 rfl) ?_
                          refine m_get X Y 23 (by decide) lk_use (gf_use _ _ _) rfl d_M_seal_182 ?_
                          refine lv_iload_n X.1 X.2.1 d_M_seal_185 rfl (lv_at hl 2 rfl) ?_
                          refine p_calli (As := [.int (iI a2)]) (rest := [.ref ((q 23)), .ref h]) (n := 1) X Y hml hl.1 (r_M_size l a2 (by omega) (by omega)) kl_M_size ks_M_size ki_M_size ini_M hd_M_size ⟨Nat.le_of_ble_eq_true rfl, Nat.le_of_ble_eq_true rfl⟩ rfl (Nat.le_of_ble_eq_true rfl) d_M_seal_186 ⟨Nat.le_refl _, Nat.le_refl _⟩ (fun r145 H locs p145 Y => ?_)
                          obtain ⟨z145, e145, p145⟩ := p145
                          subst e145
                          obtain ⟨l145, u145, x145⟩ := p145
                          refine r_nv (m_run (As := [.ref ((q 23)), .int (iI z145)]) (rest := []) (n := 2) X Y hZ hA hml hl.1 (r_M_aesKey_use l D E h q H.size I144 J144 B144 G144 z145 (by omega) (by omega) S.1) kl_M_aesKey ks_M_aesKey kx_M_aesKey ki_M_aesKey ini_M hd_M_aesKey ⟨Nat.le_of_ble_eq_true rfl, Nat.le_of_ble_eq_true rfl⟩ rfl (Nat.le_of_ble_eq_true rfl) d_M_seal_189 ⟨Nat.le_refl _, Nat.le_refl _⟩) X Y hA S (by decide) (by decide) (fun u H locs Y S s146 p146 => ?_)
                          obtain ⟨I146, J146, B146, G146⟩ := u
                          dsimp only at Y S s146 p146
                          refine lv_iload X.1 X.2.1 d_M_seal_192 (lv_at hl 4 rfl) ?_
                          refine lv_bipush (v := iI 15) X.1 X.2.1 d_M_seal_194 (by decide) ?_
                          refine z_iadd X.1 X.2.1 d_M_seal_196 ?_
                          refine lv_bipush (v := iI 16) X.1 X.2.1 d_M_seal_197 (by decide) ?_
                          refine z_idivg X.1 X.2.1 ⟨by omega, by omega⟩ ⟨by decide, by decide⟩ d_M_seal_199 (fun z147 l147 u147 x147 y147 => ?_)
                          refine lv_istore (lv' := [(7, .int (iI z147)), (0, .ref h), (1, .ref ((q 56))), (2, .int (iI a2)), (3, .int (iI a3)), (6, .int (iI ((16 + a5) - a4)))]) X.1 X.2.1 d_M_seal_200 hl (by decide) rfl (fun ls hl => ?_)
                          refine lv_iconst (v := iI 0) X.1 X.2.1 d_M_seal_202 (by decide) ?_
                          have J151 : ∀ (n153 : Nat) (z149 : Int) (I148 : Nat → Int32) (J148 : Nat → Int64) (B148 : Nat → Nat → Int32) (G148 : Nat → Nat → Int64) (H : Heap) (locs : List Loc) (ls : Array Slot), (16 - z149).toNat = n153 → (0 ≤ z149) → (z149 ≤ 16) → (I148 33 = iI z103) → mH D E (mA E h q sz) s.heap h q I148 J148 B148 G148 H locs → rS [8, 14, 18, 33, 36] [5, 6, 7, 9, 10, 11, 12, 13, 15, 16, 17, 19, 20, 21, 22, 23, 34, 35] I B I148 B148 → lv_has ls 11 [(0, .ref h), (6, .int (iI ((16 + a5) - a4))), (7, .int (iI z147)), (8, .int (iI z149))] → W p l e (mR 7 206) s m AV below meth c H locs 0 0 QQ (F0 m 205 ls []) := by
                            intro n153
                            induction n153 using Nat.strongRecOn with
                            | ind n153 ih152 =>
                              intro z149 I148 J148 B148 G148 H locs ls hm154 l149 u149 e150 Y S hl
                              refine lv_iload X.1 X.2.1 d_M_seal_205 (lv_at hl 3 rfl) ?_
                              refine lv_bipush (v := iI 16) X.1 X.2.1 d_M_seal_207 (by decide) ?_
                              refine z_icmp_ge (tgt := 226) X.1 X.2.1 d_M_seal_209 (by decide) ⟨by omega, by omega⟩ ⟨by omega, by omega⟩ (fun h155 => ?_) (fun h155 => ?_)
                              · refine lv_iconst (v := iI 0) X.1 X.2.1 d_M_seal_226 (by decide) ?_
                                have J159 : ∀ (n161 : Nat) (z157 : Int) (I156 : Nat → Int32) (J156 : Nat → Int64) (B156 : Nat → Nat → Int32) (G156 : Nat → Nat → Int64) (H : Heap) (locs : List Loc) (ls : Array Slot), (3751 - z157).toNat = n161 → (0 ≤ z157) → (z157 ≤ 3751) → (I156 33 = iI z103) → mH D E (mA E h q sz) s.heap h q I156 J156 B156 G156 H locs → rS [8, 14, 18, 33, 36] [5, 6, 7, 9, 10, 11, 12, 13, 15, 16, 17, 19, 20, 21, 22, 23, 34, 35] I B I156 B156 → lv_has ls 11 [(0, .ref h), (6, .int (iI ((16 + a5) - a4))), (7, .int (iI z147)), (8, .int (iI z157))] → W p l e (mR 7 206) s m AV below meth c H locs 0 0 QQ (F0 m 229 ls []) := by
                                  intro n161
                                  induction n161 using Nat.strongRecOn with
                                  | ind n161 ih160 =>
                                    intro z157 I156 J156 B156 G156 H locs ls hm162 l157 u157 e158 Y S hl
                                    refine lv_iload X.1 X.2.1 d_M_seal_229 (lv_at hl 3 rfl) ?_
                                    refine lv_iload X.1 X.2.1 d_M_seal_231 (lv_at hl 2 rfl) ?_
                                    refine z_icmp_ge (tgt := 403) X.1 X.2.1 d_M_seal_233 (by decide) ⟨by omega, by omega⟩ ⟨by omega, by omega⟩ (fun h163 => ?_) (fun h163 => ?_)
                                    · refine lv_aload_n X.1 X.2.1 d_M_seal_403 rfl (lv_at hl 0 rfl) ?_
                                      refine lv_iload X.1 X.2.1 d_M_seal_404 (lv_at hl 1 rfl) ?_
                                      refine lv_bipush (v := iI 12) X.1 X.2.1 d_M_seal_406 (by decide) ?_
                                      refine z_iadd X.1 X.2.1 d_M_seal_408 ?_
                                      refine r_puti (k := 36) X Y S (by decide) lk_secretMany rfl rfl (t_M_ok 36 (by decide)) rfl rfl (sf_secretMany _ _ _ _) (Nat.le_of_ble_eq_true rfl) rfl (show (0 : Int) ≤ ((16 + a5) - a4) + 12 by omega) (show ((16 + a5) - a4) + 12 ≤ (20000 : Int) by omega) ⟨by omega, by omega⟩ (by decide) d_M_seal_409 (fun I164 H locs Y S w164 => ?_)
                                      exact m_retv hQQ X Y hr hlk ⟨S, ⟨((w164.1).trans (congrArg iI (show (((16 + a5) - a4) + 12 : Int) = a5 - a4 + 28 by omega))), ((((w164.2 33 (by decide)).trans e158)).trans (congrArg iI (show (z103 : Int) = cn + 16 by omega)))⟩⟩ d_M_seal_412
                                    · refine lv_iconst (v := iI 0) X.1 X.2.1 d_M_seal_236 (by decide) ?_
                                      have J168 : ∀ (n170 : Nat) (z166 : Int) (I165 : Nat → Int32) (J165 : Nat → Int64) (B165 : Nat → Nat → Int32) (G165 : Nat → Nat → Int64) (H : Heap) (locs : List Loc) (ls : Array Slot), (16 - z166).toNat = n170 → (0 ≤ z166) → (z166 ≤ 16) → (I165 33 = iI z103) → mH D E (mA E h q sz) s.heap h q I165 J165 B165 G165 H locs → rS [8, 14, 18, 33, 36] [5, 6, 7, 9, 10, 11, 12, 13, 15, 16, 17, 19, 20, 21, 22, 23, 34, 35] I B I165 B165 → lv_has ls 11 [(0, .ref h), (6, .int (iI ((16 + a5) - a4))), (7, .int (iI z147)), (8, .int (iI z157)), (9, .int (iI z166))] → W p l e (mR 7 206) s m AV below meth c H locs 0 0 QQ (F0 m 239 ls []) := by
                                        intro n170
                                        induction n170 using Nat.strongRecOn with
                                        | ind n170 ih169 =>
                                          intro z166 I165 J165 B165 G165 H locs ls hm171 l166 u166 e167 Y S hl
                                          refine lv_iload X.1 X.2.1 d_M_seal_239 (lv_at hl 4 rfl) ?_
                                          refine lv_bipush (v := iI 16) X.1 X.2.1 d_M_seal_241 (by decide) ?_
                                          refine z_icmp_ge (tgt := 292) X.1 X.2.1 d_M_seal_243 (by decide) ⟨by omega, by omega⟩ ⟨by omega, by omega⟩ (fun h172 => ?_) (fun h172 => ?_)
                                          · refine lv_aload_n X.1 X.2.1 d_M_seal_292 rfl (lv_at hl 0 rfl) ?_
                                            refine r_nv (m_run (As := []) (rest := []) (n := 0) X Y hZ hA hml hl.1 (r_M_cover l D E h q H.size I165 J165 B165 G165 S.1) kl_M_cover ks_M_cover kx_M_cover ki_M_cover ini_M hd_M_cover ⟨Nat.le_of_ble_eq_true rfl, Nat.le_of_ble_eq_true rfl⟩ rfl (Nat.le_of_ble_eq_true rfl) d_M_seal_293 ⟨Nat.le_refl _, Nat.le_refl _⟩) X Y hA S (by decide) (by decide) (fun u H locs Y S s173 p173 => ?_)
                                            obtain ⟨I173, J173, B173, G173⟩ := u
                                            dsimp only at Y S s173 p173
                                            refine lv_iload X.1 X.2.1 d_M_seal_296 (lv_at hl 2 rfl) ?_
                                            refine lv_iconst (v := iI 1) X.1 X.2.1 d_M_seal_298 (by decide) ?_
                                            have J175 : ∀ (z174 : Int) (H : Heap) (locs : List Loc) (ls : Array Slot), (0 ≤ z174) → (z174 ≤ 60000) → mH D E (mA E h q sz) s.heap h q I173 J173 B173 G173 H locs → rS [8, 14, 18, 33, 36] [5, 6, 7, 9, 10, 11, 12, 13, 15, 16, 17, 19, 20, 21, 22, 23, 34, 35] I B I173 B173 → lv_has ls 11 [(0, .ref h), (6, .int (iI ((16 + a5) - a4))), (7, .int (iI z147)), (8, .int (iI z157))] → W p l e (mR 7 206) s m AV below meth c H locs 0 0 QQ (F0 m 351 ls [.int (iI z174)]) := by
                                              intro z174 H locs ls l174 u174 Y S hl
                                              refine lv_istore (lv' := [(9, .int (iI z174)), (0, .ref h), (6, .int (iI ((16 + a5) - a4))), (7, .int (iI z147)), (8, .int (iI z157))]) X.1 X.2.1 d_M_seal_351 hl (by decide) rfl (fun ls hl => ?_)
                                              refine lv_iconst (v := iI 0) X.1 X.2.1 d_M_seal_353 (by decide) ?_
                                              have J182 : ∀ (n184 : Nat) (z180 : Int) (I179 : Nat → Int32) (J179 : Nat → Int64) (B179 : Nat → Nat → Int32) (G179 : Nat → Nat → Int64) (H : Heap) (locs : List Loc) (ls : Array Slot), (16 - z180).toNat = n184 → (0 ≤ z180) → (z180 ≤ 16) → (I179 33 = iI z103) → mH D E (mA E h q sz) s.heap h q I179 J179 B179 G179 H locs → rS [8, 14, 18, 33, 36] [5, 6, 7, 9, 10, 11, 12, 13, 15, 16, 17, 19, 20, 21, 22, 23, 34, 35] I B I179 B179 → lv_has ls 11 [(0, .ref h), (6, .int (iI ((16 + a5) - a4))), (7, .int (iI z147)), (8, .int (iI z157)), (9, .int (iI z174)), (10, .int (iI z180))] → W p l e (mR 7 206) s m AV below meth c H locs 0 0 QQ (F0 m 356 ls []) := by
                                                intro n184
                                                induction n184 using Nat.strongRecOn with
                                                | ind n184 ih183 =>
                                                  intro z180 I179 J179 B179 G179 H locs ls hm185 l180 u180 e181 Y S hl
                                                  refine lv_iload X.1 X.2.1 d_M_seal_356 (lv_at hl 5 rfl) ?_
                                                  refine lv_bipush (v := iI 16) X.1 X.2.1 d_M_seal_358 (by decide) ?_
                                                  refine z_icmp_ge (tgt := 397) X.1 X.2.1 d_M_seal_360 (by decide) ⟨by omega, by omega⟩ ⟨by omega, by omega⟩ (fun h186 => ?_) (fun h186 => ?_)
                                                  · refine lv_iinc (v := iI (z157 + 1)) (lv' := [(8, .int (iI (z157 + 1))), (0, .ref h), (6, .int (iI ((16 + a5) - a4))), (7, .int (iI z147)), (9, .int (iI z174)), (10, .int (iI z180))]) X.1 X.2.1 d_M_seal_397 hl (k := 3) rfl ((iI_add _ _).trans (congrArg iI (by omega))) (by decide) rfl (fun ls hl => ?_)
                                                    refine lv_goto (tgt := 229) X.1 X.2.1 d_M_seal_400 (by decide) ?_
                                                    exact ih160 ((3751 - (z157 + 1)).toNat) (by omega) (z157 + 1) I179 J179 B179 G179 _ _ _ rfl (by omega) (by omega) e181 Y S (lv_sub hl [1, 2, 3, 0] rfl)
                                                  · refine lv_iload X.1 X.2.1 d_M_seal_363 (lv_at hl 4 rfl) ?_
                                                    refine lv_iload X.1 X.2.1 d_M_seal_365 (lv_at hl 5 rfl) ?_
                                                    refine z_iadd X.1 X.2.1 d_M_seal_367 ?_
                                                    refine lv_iload X.1 X.2.1 d_M_seal_368 (lv_at hl 1 rfl) ?_
                                                    have J189 : ∀ (I187 : Nat → Int32) (J187 : Nat → Int64) (B187 : Nat → Nat → Int32) (G187 : Nat → Nat → Int64) (H : Heap) (locs : List Loc) (ls : Array Slot), (I187 33 = iI z103) → mH D E (mA E h q sz) s.heap h q I187 J187 B187 G187 H locs → rS [8, 14, 18, 33, 36] [5, 6, 7, 9, 10, 11, 12, 13, 15, 16, 17, 19, 20, 21, 22, 23, 34, 35] I B I187 B187 → lv_has ls 11 [(0, .ref h), (6, .int (iI ((16 + a5) - a4))), (7, .int (iI z147)), (8, .int (iI z157)), (9, .int (iI z174)), (10, .int (iI z180))] → W p l e (mR 7 206) s m AV below meth c H locs 0 0 QQ (F0 m 391 ls []) := by
                                                      intro I187 J187 B187 G187 H locs ls e188 Y S hl
                                                      refine lv_iinc (v := iI (z180 + 1)) (lv' := [(10, .int (iI (z180 + 1))), (0, .ref h), (6, .int (iI ((16 + a5) - a4))), (7, .int (iI z147)), (8, .int (iI z157)), (9, .int (iI z174))]) X.1 X.2.1 d_M_seal_391 hl (k := 5) rfl ((iI_add _ _).trans (congrArg iI (by omega))) (by decide) rfl (fun ls hl => ?_)
                                                      refine lv_goto (tgt := 356) X.1 X.2.1 d_M_seal_394 (by decide) ?_
                                                      exact ih183 ((16 - (z180 + 1)).toNat) (by omega) (z180 + 1) I187 J187 B187 G187 _ _ _ rfl (by omega) (by omega) e188 Y S (lv_sub hl [1, 2, 3, 4, 5, 0] rfl)
                                                    refine z_icmp_ge (tgt := 391) X.1 X.2.1 d_M_seal_370 (by decide) ⟨by omega, by omega⟩ ⟨by omega, by omega⟩ (fun h193 => ?_) (fun h193 => ?_)
                                                    · exact J189 I179 J179 B179 G179 _ _ _ e181 Y S (lv_sub hl [0, 1, 2, 3, 4, 5] rfl)
                                                    · refine lv_aload_n X.1 X.2.1 d_M_seal_373 rfl (lv_at hl 0 rfl) ?_
                                                      refine m_get X Y 35 (by decide) lk_secret (gf_secret _ _ _) rfl d_M_seal_374 ?_
                                                      refine lv_iload X.1 X.2.1 d_M_seal_377 (lv_at hl 4 rfl) ?_
                                                      refine lv_iload X.1 X.2.1 d_M_seal_379 (lv_at hl 5 rfl) ?_
                                                      refine z_iadd X.1 X.2.1 d_M_seal_381 ?_
                                                      refine lv_aload_n X.1 X.2.1 d_M_seal_382 rfl (lv_at hl 0 rfl) ?_
                                                      refine m_get X Y 16 (by decide) lk_state (gf_state _ _ _) rfl d_M_seal_383 ?_
                                                      refine lv_iload X.1 X.2.1 d_M_seal_386 (lv_at hl 5 rfl) ?_
                                                      refine r_iald X Y S (aw_state _ _ _ _ _ _ _) rfl (by omega) (show z180 < ((16 : Nat) : Int) by omega) (by omega) d_M_seal_388 (fun z194 q194 l194 u194 => ?_)
                                                      refine lv_i2b X.1 X.2.1 d_M_seal_389 rfl ?_
                                                      refine t_u (fun z195 l195 u195 => ?_)
                                                      refine r_bast X Y S (aw_secret _ _ _ _ _ _ _) (sw_secret _ _ _ _ _ _ _) rfl (by omega) (show z174 + z180 < ((20000 : Nat) : Int) by omega) (by omega) (by decide) d_M_seal_390 (fun B196 H locs Y S w196 => ?_)
                                                      exact J189 I179 J179 B196 G179 _ _ _ e181 Y S (lv_sub hl [0, 1, 2, 3, 4, 5] rfl)
                                              refine lv_istore (lv' := [(10, .int (iI 0)), (9, .int (iI z174)), (0, .ref h), (6, .int (iI ((16 + a5) - a4))), (7, .int (iI z147)), (8, .int (iI z157))]) X.1 X.2.1 d_M_seal_354 hl (by decide) rfl (fun ls hl => ?_)
                                              exact J182 _ 0 I173 J173 B173 G173 _ _ _ rfl (by omega) (by omega) ((s173.2.1 33 (by decide)).trans e167) Y S (lv_sub hl [2, 3, 4, 5, 1, 0] rfl)
                                            have J197 : ∀  (H : Heap) (locs : List Loc) (ls : Array Slot), mH D E (mA E h q sz) s.heap h q I173 J173 B173 G173 H locs → rS [8, 14, 18, 33, 36] [5, 6, 7, 9, 10, 11, 12, 13, 15, 16, 17, 19, 20, 21, 22, 23, 34, 35] I B I173 B173 → lv_has ls 11 [(0, .ref h), (6, .int (iI ((16 + a5) - a4))), (7, .int (iI z147)), (8, .int (iI z157))] → W p l e (mR 7 206) s m AV below meth c H locs 0 0 QQ (F0 m 321 ls []) := by
                                              intro  H locs ls  Y S hl
                                              refine lv_iload X.1 X.2.1 d_M_seal_321 (lv_at hl 2 rfl) ?_
                                              refine lv_iconst (v := iI 1) X.1 X.2.1 d_M_seal_323 (by decide) ?_
                                              have J201 : ∀  (H : Heap) (locs : List Loc) (ls : Array Slot), mH D E (mA E h q sz) s.heap h q I173 J173 B173 G173 H locs → rS [8, 14, 18, 33, 36] [5, 6, 7, 9, 10, 11, 12, 13, 15, 16, 17, 19, 20, 21, 22, 23, 34, 35] I B I173 B173 → lv_has ls 11 [(0, .ref h), (6, .int (iI ((16 + a5) - a4))), (7, .int (iI z147)), (8, .int (iI z157))] → W p l e (mR 7 206) s m AV below meth c H locs 0 0 QQ (F0 m 346 ls []) := by
                                                intro  H locs ls  Y S hl
                                                refine lv_bipush (v := iI 16) X.1 X.2.1 d_M_seal_346 (by decide) ?_
                                                refine lv_iload X.1 X.2.1 d_M_seal_348 (lv_at hl 3 rfl) ?_
                                                refine z_imul X.1 X.2.1 d_M_seal_350 ?_
                                                exact J175 (16 * z157) _ _ _ (by omega) (by omega) Y S (lv_sub hl [0, 1, 2, 3] rfl)
                                              refine z_icmp_le (tgt := 346) X.1 X.2.1 d_M_seal_324 (by decide) ⟨by omega, by omega⟩ ⟨by omega, by omega⟩ (fun h205 => ?_) (fun h205 => ?_)
                                              · exact J201  _ _ _  Y S (lv_sub hl [0, 1, 2, 3] rfl)
                                              · refine lv_iload X.1 X.2.1 d_M_seal_327 (lv_at hl 3 rfl) ?_
                                                refine lv_iload X.1 X.2.1 d_M_seal_329 (lv_at hl 2 rfl) ?_
                                                refine lv_iconst (v := iI 2) X.1 X.2.1 d_M_seal_331 (by decide) ?_
                                                refine z_isub X.1 X.2.1 d_M_seal_332 ?_
                                                refine z_icmp_ne (tgt := 346) X.1 X.2.1 d_M_seal_333 (by decide) ⟨by omega, by omega⟩ ⟨by omega, by omega⟩ (fun h206 => ?_) (fun h206 => ?_)
                                                · exact J201  _ _ _  Y S (lv_sub hl [0, 1, 2, 3] rfl)
                                                · refine lv_bipush (v := iI 16) X.1 X.2.1 d_M_seal_336 (by decide) ?_
                                                  refine lv_iload X.1 X.2.1 d_M_seal_338 (lv_at hl 3 rfl) ?_
                                                  refine lv_iconst (v := iI 1) X.1 X.2.1 d_M_seal_340 (by decide) ?_
                                                  refine z_iadd X.1 X.2.1 d_M_seal_341 ?_
                                                  refine z_imul X.1 X.2.1 d_M_seal_342 ?_
                                                  refine lv_goto (tgt := 351) X.1 X.2.1 d_M_seal_343 (by decide) ?_
                                                  exact J175 (16 * (z157 + 1)) _ _ _ (by omega) (by omega) Y S (lv_sub hl [0, 1, 2, 3] rfl)
                                            refine z_icmp_le (tgt := 321) X.1 X.2.1 d_M_seal_299 (by decide) ⟨by omega, by omega⟩ ⟨by omega, by omega⟩ (fun h207 => ?_) (fun h207 => ?_)
                                            · exact J197  _ _ _  Y S (lv_sub hl [0, 1, 2, 3] rfl)
                                            · refine lv_iload X.1 X.2.1 d_M_seal_302 (lv_at hl 3 rfl) ?_
                                              refine lv_iload X.1 X.2.1 d_M_seal_304 (lv_at hl 2 rfl) ?_
                                              refine lv_iconst (v := iI 1) X.1 X.2.1 d_M_seal_306 (by decide) ?_
                                              refine z_isub X.1 X.2.1 d_M_seal_307 ?_
                                              refine z_icmp_ne (tgt := 321) X.1 X.2.1 d_M_seal_308 (by decide) ⟨by omega, by omega⟩ ⟨by omega, by omega⟩ (fun h208 => ?_) (fun h208 => ?_)
                                              · exact J197  _ _ _  Y S (lv_sub hl [0, 1, 2, 3] rfl)
                                              · refine lv_bipush (v := iI 16) X.1 X.2.1 d_M_seal_311 (by decide) ?_
                                                refine lv_iload X.1 X.2.1 d_M_seal_313 (lv_at hl 3 rfl) ?_
                                                refine lv_iconst (v := iI 1) X.1 X.2.1 d_M_seal_315 (by decide) ?_
                                                refine z_isub X.1 X.2.1 d_M_seal_316 ?_
                                                refine z_imul X.1 X.2.1 d_M_seal_317 ?_
                                                refine lv_goto (tgt := 351) X.1 X.2.1 d_M_seal_318 (by decide) ?_
                                                exact J175 (16 * (z157 - 1)) _ _ _ (by omega) (by omega) Y S (lv_sub hl [0, 1, 2, 3] rfl)
                                          · refine lv_bipush (v := iI 16) X.1 X.2.1 d_M_seal_246 (by decide) ?_
                                            refine lv_iload X.1 X.2.1 d_M_seal_248 (lv_at hl 3 rfl) ?_
                                            refine z_imul X.1 X.2.1 d_M_seal_250 ?_
                                            refine lv_iload X.1 X.2.1 d_M_seal_251 (lv_at hl 4 rfl) ?_
                                            refine z_iadd X.1 X.2.1 d_M_seal_253 ?_
                                            refine lv_iload X.1 X.2.1 d_M_seal_254 (lv_at hl 1 rfl) ?_
                                            have J211 : ∀ (I209 : Nat → Int32) (J209 : Nat → Int64) (B209 : Nat → Nat → Int32) (G209 : Nat → Nat → Int64) (H : Heap) (locs : List Loc) (ls : Array Slot), (I209 33 = iI z103) → mH D E (mA E h q sz) s.heap h q I209 J209 B209 G209 H locs → rS [8, 14, 18, 33, 36] [5, 6, 7, 9, 10, 11, 12, 13, 15, 16, 17, 19, 20, 21, 22, 23, 34, 35] I B I209 B209 → lv_has ls 11 [(0, .ref h), (6, .int (iI ((16 + a5) - a4))), (7, .int (iI z147)), (8, .int (iI z157)), (9, .int (iI z166))] → W p l e (mR 7 206) s m AV below meth c H locs 0 0 QQ (F0 m 286 ls []) := by
                                              intro I209 J209 B209 G209 H locs ls e210 Y S hl
                                              refine lv_iinc (v := iI (z166 + 1)) (lv' := [(9, .int (iI (z166 + 1))), (0, .ref h), (6, .int (iI ((16 + a5) - a4))), (7, .int (iI z147)), (8, .int (iI z157))]) X.1 X.2.1 d_M_seal_286 hl (k := 4) rfl ((iI_add _ _).trans (congrArg iI (by omega))) (by decide) rfl (fun ls hl => ?_)
                                              refine lv_goto (tgt := 239) X.1 X.2.1 d_M_seal_289 (by decide) ?_
                                              exact ih169 ((16 - (z166 + 1)).toNat) (by omega) (z166 + 1) I209 J209 B209 G209 _ _ _ rfl (by omega) (by omega) e210 Y S (lv_sub hl [1, 2, 3, 4, 0] rfl)
                                            refine z_icmp_ge (tgt := 286) X.1 X.2.1 d_M_seal_256 (by decide) ⟨by omega, by omega⟩ ⟨by omega, by omega⟩ (fun h215 => ?_) (fun h215 => ?_)
                                            · exact J211 I165 J165 B165 G165 _ _ _ e167 Y S (lv_sub hl [0, 1, 2, 3, 4] rfl)
                                            · refine lv_aload_n X.1 X.2.1 d_M_seal_259 rfl (lv_at hl 0 rfl) ?_
                                              refine m_get X Y 16 (by decide) lk_state (gf_state _ _ _) rfl d_M_seal_260 ?_
                                              refine lv_iload X.1 X.2.1 d_M_seal_263 (lv_at hl 4 rfl) ?_
                                              refine lv_dup2_11 X.1 X.2.1 d_M_seal_265 rfl rfl ?_
                                              refine r_iald X Y S (aw_state _ _ _ _ _ _ _) rfl (by omega) (show z166 < ((16 : Nat) : Int) by omega) (by omega) d_M_seal_266 (fun z216 q216 l216 u216 => ?_)
                                              refine lv_aload_n X.1 X.2.1 d_M_seal_267 rfl (lv_at hl 0 rfl) ?_
                                              refine m_get X Y 34 (by decide) lk_text (gf_text _ _ _) rfl d_M_seal_268 ?_
                                              refine lv_bipush (v := iI 16) X.1 X.2.1 d_M_seal_271 (by decide) ?_
                                              refine lv_iload X.1 X.2.1 d_M_seal_273 (lv_at hl 3 rfl) ?_
                                              refine z_imul X.1 X.2.1 d_M_seal_275 ?_
                                              refine lv_iload X.1 X.2.1 d_M_seal_276 (lv_at hl 4 rfl) ?_
                                              refine z_iadd X.1 X.2.1 d_M_seal_278 ?_
                                              refine r_bald X Y S (aw_text _ _ _ _ _ _ _) rfl (by omega) (show (16 * z157) + z166 < ((20000 : Nat) : Int) by omega) (by omega) d_M_seal_279 (fun z217 q217 l217 u217 => ?_)
                                              refine lv_sipush (v := iI 255) X.1 X.2.1 d_M_seal_280 (by decide) ?_
                                              refine z_iand X.1 X.2.1 (by omega) (by omega) d_M_seal_283 (fun z218 l218 u218 => ?_)
                                              refine z_ixor X.1 X.2.1 ⟨by omega, by omega⟩ ⟨by omega, by omega⟩ d_M_seal_284 (fun z219 l219 u219 => ?_)
                                              refine r_iast X Y S (aw_state _ _ _ _ _ _ _) (sw_state _ _ _ _ _ _ _) rfl ⟨(show (0 : Int) ≤ z219 by omega), (show z219 ≤ (255 : Int) by omega)⟩ ⟨by omega, by omega⟩ (by omega) (show z166 < ((16 : Nat) : Int) by omega) (by omega) (by decide) d_M_seal_285 (fun B220 H locs Y S w220 => ?_)
                                              exact J211 I165 J165 B220 G165 _ _ _ e167 Y S (lv_sub hl [0, 1, 2, 3, 4] rfl)
                                      refine lv_istore (lv' := [(9, .int (iI 0)), (0, .ref h), (6, .int (iI ((16 + a5) - a4))), (7, .int (iI z147)), (8, .int (iI z157))]) X.1 X.2.1 d_M_seal_237 hl (by decide) rfl (fun ls hl => ?_)
                                      exact J168 _ 0 I156 J156 B156 G156 _ _ _ rfl (by omega) (by omega) e158 Y S (lv_sub hl [1, 2, 3, 4, 0] rfl)
                                refine lv_istore (lv' := [(8, .int (iI 0)), (0, .ref h), (6, .int (iI ((16 + a5) - a4))), (7, .int (iI z147))]) X.1 X.2.1 d_M_seal_227 hl (by decide) rfl (fun ls hl => ?_)
                                exact J159 _ 0 I148 J148 B148 G148 _ _ _ rfl (by omega) (by omega) e150 Y S (lv_sub hl [1, 2, 3, 0] rfl)
                              · refine lv_aload_n X.1 X.2.1 d_M_seal_212 rfl (lv_at hl 0 rfl) ?_
                                refine m_get X Y 16 (by decide) lk_state (gf_state _ _ _) rfl d_M_seal_213 ?_
                                refine lv_iload X.1 X.2.1 d_M_seal_216 (lv_at hl 3 rfl) ?_
                                refine lv_iconst (v := iI 0) X.1 X.2.1 d_M_seal_218 (by decide) ?_
                                refine r_iast X Y S (aw_state _ _ _ _ _ _ _) (sw_state _ _ _ _ _ _ _) rfl ⟨(show (0 : Int) ≤ 0 by omega), (show 0 ≤ (255 : Int) by omega)⟩ ⟨by omega, by omega⟩ (by omega) (show z149 < ((16 : Nat) : Int) by omega) (by omega) (by decide) d_M_seal_219 (fun B221 H locs Y S w221 => ?_)
                                refine lv_iinc (v := iI (z149 + 1)) (lv' := [(8, .int (iI (z149 + 1))), (0, .ref h), (6, .int (iI ((16 + a5) - a4))), (7, .int (iI z147))]) X.1 X.2.1 d_M_seal_220 hl (k := 3) rfl ((iI_add _ _).trans (congrArg iI (by omega))) (by decide) rfl (fun ls hl => ?_)
                                refine lv_goto (tgt := 205) X.1 X.2.1 d_M_seal_223 (by decide) ?_
                                exact ih152 ((16 - (z149 + 1)).toNat) (by omega) (z149 + 1) I148 J148 B221 G148 _ _ _ rfl (by omega) (by omega) e150 Y S (lv_sub hl [1, 2, 3, 0] rfl)
                          refine lv_istore (lv' := [(8, .int (iI 0)), (7, .int (iI z147)), (0, .ref h), (1, .ref ((q 56))), (2, .int (iI a2)), (3, .int (iI a3)), (6, .int (iI ((16 + a5) - a4)))]) X.1 X.2.1 d_M_seal_203 hl (by decide) rfl (fun ls hl => ?_)
                          exact J151 _ 0 I146 J146 B146 G146 _ _ _ rfl (by omega) (by omega) ((s146.2.1 33 (by decide)).trans ((s144.2.1 33 (by decide)).trans e137)) Y S (lv_sub hl [2, 6, 1, 0] rfl)
                        · refine lv_aload_n X.1 X.2.1 d_M_seal_144 rfl (lv_at hl 0 rfl) ?_
                          refine m_get X Y 35 (by decide) lk_secret (gf_secret _ _ _) rfl d_M_seal_145 ?_
                          refine lv_iload X.1 X.2.1 d_M_seal_148 (lv_at hl 4 rfl) ?_
                          refine lv_iload X.1 X.2.1 d_M_seal_150 (lv_at hl 5 rfl) ?_
                          refine z_iadd X.1 X.2.1 d_M_seal_152 ?_
                          refine lv_aload_n X.1 X.2.1 d_M_seal_153 rfl (lv_at hl 0 rfl) ?_
                          refine m_get X Y 10 (by decide) lk_mac (gf_mac _ _ _) rfl d_M_seal_154 ?_
                          refine lv_iload X.1 X.2.1 d_M_seal_157 (lv_at hl 5 rfl) ?_
                          refine r_bald X Y S (aw_mac _ _ _ _ _ _ _) rfl (by omega) (show z136 < ((20 : Nat) : Int) by omega) (by omega) d_M_seal_159 (fun z222 q222 l222 u222 => ?_)
                          refine r_bast X Y S (aw_secret _ _ _ _ _ _ _) (sw_secret _ _ _ _ _ _ _) rfl (by omega) (show ((16 + a5) - a4) + z136 < ((20000 : Nat) : Int) by omega) (by omega) (by decide) d_M_seal_160 (fun B223 H locs Y S w223 => ?_)
                          refine lv_iinc (v := iI (z136 + 1)) (lv' := [(7, .int (iI (z136 + 1))), (0, .ref h), (1, .ref ((q 56))), (2, .int (iI a2)), (3, .int (iI a3)), (6, .int (iI ((16 + a5) - a4)))]) X.1 X.2.1 d_M_seal_161 hl (k := 5) rfl ((iI_add _ _).trans (congrArg iI (by omega))) (by decide) rfl (fun ls hl => ?_)
                          refine lv_goto (tgt := 137) X.1 X.2.1 d_M_seal_164 (by decide) ?_
                          exact ih139 ((12 - (z136 + 1)).toNat) (by omega) (z136 + 1) I135 J135 B223 G135 _ _ _ rfl (by omega) (by omega) e137 Y S (lv_sub hl [1, 2, 3, 4, 5, 0] rfl)
                    refine lv_istore (lv' := [(7, .int (iI 0)), (0, .ref h), (1, .ref ((q 56))), (2, .int (iI a2)), (3, .int (iI a3)), (6, .int (iI ((16 + a5) - a4)))]) X.1 X.2.1 d_M_seal_135 hl (by decide) rfl (fun ls hl => ?_)
                    exact J138 _ 0 I134 J134 B134 G134 _ _ _ rfl (by omega) (by omega) ((s134.2.1 33 (by decide)).trans e126) Y S (lv_sub hl [1, 2, 3, 4, 5, 0] rfl)
                  · refine lv_aload_n X.1 X.2.1 d_M_seal_113 rfl (lv_at hl 0 rfl) ?_
                    refine lv_aload_n X.1 X.2.1 d_M_seal_114 rfl (lv_at hl 0 rfl) ?_
                    refine m_get X Y 34 (by decide) lk_text (gf_text _ _ _) rfl d_M_seal_115 ?_
                    refine lv_iload X.1 X.2.1 d_M_seal_118 (lv_at hl 5 rfl) ?_
                    refine r_bald X Y S (aw_text _ _ _ _ _ _ _) rfl (by omega) (show z125 < ((20000 : Nat) : Int) by omega) (by omega) d_M_seal_120 (fun z224 q224 l224 u224 => ?_)
                    refine r_nv (m_run (As := [.int (iI z224)]) (rest := []) (n := 1) X Y hZ hA hml hl.1 (r_M_hash l D E h q H.size I124 J124 B124 G124 z224 (by omega) (by omega) S.1 z127 e127 (by omega) (by omega)) kl_M_hash ks_M_hash kx_M_hash ki_M_hash ini_M hd_M_hash ⟨Nat.le_of_ble_eq_true rfl, Nat.le_of_ble_eq_true rfl⟩ rfl (Nat.le_of_ble_eq_true rfl) d_M_seal_121 ⟨Nat.le_refl _, Nat.le_refl _⟩) X Y hA S (by decide) (by decide) (fun u H locs Y S s225 p225 => ?_)
                    obtain ⟨I225, J225, B225, G225⟩ := u
                    dsimp only at Y S s225 p225
                    have x225 := p225
                    refine lv_iinc (v := iI (z125 + 1)) (lv' := [(7, .int (iI (z125 + 1))), (0, .ref h), (1, .ref ((q 56))), (2, .int (iI a2)), (3, .int (iI a3)), (6, .int (iI ((16 + a5) - a4)))]) X.1 X.2.1 d_M_seal_124 hl (k := 5) rfl ((iI_add _ _).trans (congrArg iI (by omega))) (by decide) rfl (fun ls hl => ?_)
                    refine lv_goto (tgt := 106) X.1 X.2.1 d_M_seal_127 (by decide) ?_
                    exact ih130 ((60016 - (z125 + 1)).toNat) (by omega) (z125 + 1) (z127 + 1) I225 J225 B225 G225 _ _ _ rfl (by omega) (by omega) ((s225.2.1 33 (by decide)).trans e126) (x225.trans (congrArg iI (show (z127 + 1 : Int) = z127 + 1 by omega))) (by omega) (by omega) (by omega) Y S (lv_sub hl [1, 2, 3, 4, 5, 0] rfl)
              refine lv_istore (lv' := [(7, .int (iI 0)), (0, .ref h), (1, .ref ((q 56))), (2, .int (iI a2)), (3, .int (iI a3)), (4, .int (iI a4)), (5, .int (iI a5)), (6, .int (iI ((16 + a5) - a4)))]) X.1 X.2.1 d_M_seal_104 hl (by decide) rfl (fun ls hl => ?_)
              exact J129 _ 0 64 I123 J123 B123 G123 _ _ _ rfl (by omega) (by omega) ((s123.2.1 33 (by decide)).trans ((s122.2.1 33 (by decide)).trans ((s120.2.1 33 (by decide)).trans e112))) (x123.trans (congrArg iI (show (64 : Int) = 64 by omega))) (by omega) (by omega) (by omega) Y S (lv_sub hl [1, 2, 3, 4, 7, 0] rfl)
            · refine lv_aload_n X.1 X.2.1 d_M_seal_49 rfl (lv_at hl 0 rfl) ?_
              refine m_get X Y 34 (by decide) lk_text (gf_text _ _ _) rfl d_M_seal_50 ?_
              refine lv_bipush (v := iI 16) X.1 X.2.1 d_M_seal_53 (by decide) ?_
              refine lv_iload X.1 X.2.1 d_M_seal_55 (lv_at hl 7 rfl) ?_
              refine z_iadd X.1 X.2.1 d_M_seal_57 ?_
              refine lv_iload X.1 X.2.1 d_M_seal_58 (lv_at hl 4 rfl) ?_
              refine z_isub X.1 X.2.1 d_M_seal_60 ?_
              refine lv_aload_n X.1 X.2.1 d_M_seal_61 rfl (lv_at hl 0 rfl) ?_
              refine m_get X Y 0 (by decide) lk_mem (gf_mem _ _ _) rfl d_M_seal_62 ?_
              refine lv_iload X.1 X.2.1 d_M_seal_65 (lv_at hl 7 rfl) ?_
              refine r_bald X Y S (aw_mem _ _ _ _ _ _ _) rfl (by omega) (show z111 < ((60000 : Nat) : Int) by omega) (by omega) d_M_seal_67 (fun z226 q226 l226 u226 => ?_)
              refine r_bast X Y S (aw_text _ _ _ _ _ _ _) (sw_text _ _ _ _ _ _ _) rfl (by omega) (show (16 + z111) - a4 < ((20000 : Nat) : Int) by omega) (by omega) (by decide) d_M_seal_68 (fun B227 H locs Y S w227 => ?_)
              refine lv_iinc (v := iI (z111 + 1)) (lv' := [(7, .int (iI (z111 + 1))), (0, .ref h), (1, .ref ((q 56))), (2, .int (iI a2)), (3, .int (iI a3)), (4, .int (iI a4)), (5, .int (iI a5)), (6, .int (iI ((16 + a5) - a4)))]) X.1 X.2.1 d_M_seal_69 hl (k := 7) rfl ((iI_add _ _).trans (congrArg iI (by omega))) (by decide) rfl (fun ls hl => ?_)
              refine lv_goto (tgt := 42) X.1 X.2.1 d_M_seal_72 (by decide) ?_
              exact ih115 ((60000 - (z111 + 1)).toNat) (by omega) (z111 + 1) I110 J110 B227 G110 _ _ _ rfl (by omega) (by omega) e112 (by omega) Y S (lv_sub hl [1, 2, 3, 4, 5, 6, 7, 0] rfl)
        refine lv_istore (lv' := [(7, .int (iI a4)), (0, .ref h), (1, .ref ((q 56))), (2, .int (iI a2)), (3, .int (iI a3)), (4, .int (iI a4)), (5, .int (iI a5)), (6, .int (iI ((16 + a5) - a4)))]) X.1 X.2.1 d_M_seal_40 hl (by decide) rfl (fun ls hl => ?_)
        exact J114 _ a4 I101 J101 B101 G101 _ _ _ rfl (by omega) (by omega) e103 (by omega) Y S (lv_sub hl [1, 2, 3, 4, 5, 6, 7, 0] rfl)
      · refine lv_aload_n X.1 X.2.1 d_M_seal_20 rfl (lv_at hl 0 rfl) ?_
        refine m_get X Y 34 (by decide) lk_text (gf_text _ _ _) rfl d_M_seal_21 ?_
        refine lv_iload X.1 X.2.1 d_M_seal_24 (lv_at hl 7 rfl) ?_
        refine lv_aload_n X.1 X.2.1 d_M_seal_26 rfl (lv_at hl 0 rfl) ?_
        refine r_ni (m_run (As := []) (rest := [.int (iI z102), .ref ((q 34))]) (n := 0) X Y hZ hA hml hl.1 (r_M_coin l D E h q H.size I101 J101 B101 G101 S.1 z103 e103 (by omega) (by omega)) kl_M_coin ks_M_coin kx_M_coin ki_M_coin ini_M hd_M_coin ⟨Nat.le_of_ble_eq_true rfl, Nat.le_of_ble_eq_true rfl⟩ rfl (Nat.le_of_ble_eq_true rfl) d_M_seal_27 ⟨Nat.le_refl _, Nat.le_refl _⟩) X Y hA S (by decide) (by decide) (fun z228 u H locs Y S s228 p228 => ?_)
        obtain ⟨I228, J228, B228, G228⟩ := u
        dsimp only at Y S s228 p228
        obtain ⟨l228, u228, x228⟩ := p228
        refine lv_i2b X.1 X.2.1 d_M_seal_30 rfl ?_
        refine t_u (fun z229 l229 u229 => ?_)
        refine r_bast X Y S (aw_text _ _ _ _ _ _ _) (sw_text _ _ _ _ _ _ _) rfl (by omega) (show z102 < ((20000 : Nat) : Int) by omega) (by omega) (by decide) d_M_seal_31 (fun B230 H locs Y S w230 => ?_)
        refine lv_iinc (v := iI (z102 + 1)) (lv' := [(7, .int (iI (z102 + 1))), (0, .ref h), (1, .ref ((q 56))), (2, .int (iI a2)), (3, .int (iI a3)), (4, .int (iI a4)), (5, .int (iI a5)), (6, .int (iI ((16 + a5) - a4)))]) X.1 X.2.1 d_M_seal_32 hl (k := 7) rfl ((iI_add _ _).trans (congrArg iI (by omega))) (by decide) rfl (fun ls hl => ?_)
        refine lv_goto (tgt := 13) X.1 X.2.1 d_M_seal_35 (by decide) ?_
        exact ih106 ((16 - (z102 + 1)).toNat) (by omega) (z102 + 1) (z103 + 1) I228 J228 B230 G228 _ _ _ rfl (by omega) (by omega) (x228.trans (congrArg iI (show (z103 + 1 : Int) = z103 + 1 by omega))) (by omega) (by omega) (by omega) Y S (lv_sub hl [1, 2, 3, 4, 5, 6, 7, 0] rfl)
  refine lv_istore (lv' := [(7, .int (iI 0)), (6, .int (iI ((16 + a5) - a4))), (0, .ref h), (1, .ref ((q 56))), (2, .int (iI a2)), (3, .int (iI a3)), (4, .int (iI a4)), (5, .int (iI a5))]) X.1 X.2.1 d_M_seal_11 hl (by decide) rfl (fun ls hl => ?_)
  exact J105 _ 0 cn I J B G _ _ _ rfl (by omega) (by omega) gcn (by omega) (by omega) (by omega) Y S (lv_sub hl [2, 3, 4, 5, 6, 7, 1, 0] rfl)
