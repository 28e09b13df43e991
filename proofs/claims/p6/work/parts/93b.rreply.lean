set_option maxHeartbeats 4000000 in
set_option maxRecDepth 100000 in
theorem r_M_aesKey_made (l : Launch) (D : mD) (E : mE) (h : Nat) (q : Nat → Nat) (sz : Nat) (I : Nat → Int32) (J : Nat → Int64) (B : Nat → Nat → Int32) (G : Nat → Nat → Int64) (a2 : Int) (l_a2 : 16 ≤ a2) (u_a2 : a2 ≤ 32) (hT : rT I B) : Met l y_M_aesKey (k_M_aesKey :: lw_tg) (mR 4 129) (va_Pc [.ref h, .ref (q 56), .int (iI a2)] (mPre D E h q (I, J, B, G) sz)) (va_Qv (rPv [14, 18] [12, 13, 15] I B (fun (u : mS) => True)) (mPost D E h q (mA E h q sz)) (mA E h q sz)) 0 0 (mA E h q sz) := by
  refine m_enter (by decide) rfl (Nat.le_of_ble_eq_true rfl) (fun p e s m below meth c ls AV QQ H locs hQQ X Y hZ hA hr hlk hml hl => ?_)
  have Y : mH D E (mA E h q sz) s.heap h q I J B G H locs := Y
  have S : rS [14, 18] [12, 13, 15] I B I B := rS_rf hT
  have hl : lv_has ls 7 [(0, .ref h), (1, .ref ((q 56))), (2, .int (iI a2))] := hl
  refine lv_aload_n X.1 X.2.1 d_M_aesKey_0 rfl (lv_at hl 0 rfl) ?_
  refine r_geti (k := 14) X Y S (by decide) lk_hasBox (gf_hasBox _ _ _) rfl rfl d_M_aesKey_1 (fun z101 e101 l101 u101 => ?_)
  have J103 : ∀ (I102 : Nat → Int32) (J102 : Nat → Int64) (B102 : Nat → Nat → Int32) (G102 : Nat → Nat → Int64) (H : Heap) (locs : List Loc) (ls : Array Slot), mH D E (mA E h q sz) s.heap h q I102 J102 B102 G102 H locs → rS [14, 18] [12, 13, 15] I B I102 B102 → lv_has ls 7 [(0, .ref h), (1, .ref ((q 56))), (2, .int (iI a2))] → W p l e (mR 4 129) s m AV below meth c H locs 0 0 QQ (F0 m 11 ls []) := by
    intro I102 J102 B102 G102 H locs ls  Y S hl
    refine lv_iload_n X.1 X.2.1 d_M_aesKey_11 rfl (lv_at hl 2 rfl) ?_
    refine lv_iconst (v := iI 4) X.1 X.2.1 d_M_aesKey_12 (by decide) ?_
    refine z_idiv X.1 X.2.1 (by omega) (by omega) ⟨by decide, by decide⟩ d_M_aesKey_13 ?_
    refine lv_istore_n (lv' := [(3, .int (iI (a2 / 4))), (0, .ref h), (1, .ref ((q 56))), (2, .int (iI a2))]) X.1 X.2.1 d_M_aesKey_14 rfl hl (by decide) rfl (fun ls hl => ?_)
    refine lv_aload_n X.1 X.2.1 d_M_aesKey_15 rfl (lv_at hl 1 rfl) ?_
    refine lv_iload_n X.1 X.2.1 d_M_aesKey_16 rfl (lv_at hl 0 rfl) ?_
    refine lv_bipush (v := iI 6) X.1 X.2.1 d_M_aesKey_17 (by decide) ?_
    refine z_iadd X.1 X.2.1 d_M_aesKey_19 ?_
    refine r_puti (k := 18) X Y S (by decide) lk_rounds rfl rfl (t_M_ok 18 (by decide)) rfl rfl (sf_rounds _ _ _ _) (Nat.le_of_ble_eq_true rfl) rfl (show (0 : Int) ≤ (a2 / 4) + 6 by omega) (show (a2 / 4) + 6 ≤ (14 : Int) by omega) ⟨by omega, by omega⟩ (by decide) d_M_aesKey_20 (fun I107 H locs Y S w107 => ?_)
    refine lv_iconst (v := iI 0) X.1 X.2.1 d_M_aesKey_23 (by decide) ?_
    have J110 : ∀ (n112 : Nat) (z109 : Int) (I108 : Nat → Int32) (J108 : Nat → Int64) (B108 : Nat → Nat → Int32) (G108 : Nat → Nat → Int64) (H : Heap) (locs : List Loc) (ls : Array Slot), (8 - z109).toNat = n112 → (0 ≤ z109) → (z109 ≤ 8) → mH D E (mA E h q sz) s.heap h q I108 J108 B108 G108 H locs → rS [14, 18] [12, 13, 15] I B I108 B108 → lv_has ls 7 [(0, .ref h), (1, .ref ((q 56))), (3, .int (iI (a2 / 4))), (4, .int (iI z109))] → W p l e (mR 4 129) s m AV below meth c H locs 0 0 QQ (F0 m 26 ls []) := by
      intro n112
      induction n112 using Nat.strongRecOn with
      | ind n112 ih111 =>
        intro z109 I108 J108 B108 G108 H locs ls hm113 l109 u109 Y S hl
        refine lv_iload X.1 X.2.1 d_M_aesKey_26 (lv_at hl 3 rfl) ?_
        refine lv_iload_n X.1 X.2.1 d_M_aesKey_28 rfl (lv_at hl 2 rfl) ?_
        refine z_icmp_ge (tgt := 99) X.1 X.2.1 d_M_aesKey_29 (by decide) ⟨by omega, by omega⟩ ⟨by omega, by omega⟩ (fun h114 => ?_) (fun h114 => ?_)
        · refine lv_iconst (v := iI 1) X.1 X.2.1 d_M_aesKey_99 (by decide) ?_
          refine lv_istore (lv' := [(4, .int (iI 1)), (0, .ref h), (1, .ref ((q 56))), (3, .int (iI (a2 / 4)))]) X.1 X.2.1 d_M_aesKey_100 hl (by decide) rfl (fun ls hl => ?_)
          refine lv_iload_n X.1 X.2.1 d_M_aesKey_102 rfl (lv_at hl 3 rfl) ?_
          have J119 : ∀ (n121 : Nat) (z116 : Int) (z117 : Int) (I115 : Nat → Int32) (J115 : Nat → Int64) (B115 : Nat → Nat → Int32) (G115 : Nat → Nat → Int64) (H : Heap) (locs : List Loc) (ls : Array Slot), (60 - z117).toNat = n121 → (0 ≤ z116) → (z116 ≤ 255) → (4 ≤ z117) → (z117 ≤ 60) → (a2 / 4 ≤ z117) → mH D E (mA E h q sz) s.heap h q I115 J115 B115 G115 H locs → rS [14, 18] [12, 13, 15] I B I115 B115 → lv_has ls 7 [(0, .ref h), (3, .int (iI (a2 / 4))), (4, .int (iI z116)), (5, .int (iI z117))] → W p l e (mR 4 129) s m AV below meth c H locs 0 0 QQ (F0 m 105 ls []) := by
            intro n121
            induction n121 using Nat.strongRecOn with
            | ind n121 ih120 =>
              intro z116 z117 I115 J115 B115 G115 H locs ls hm122 l116 u116 l117 u117 i118 Y S hl
              refine lv_iload X.1 X.2.1 d_M_aesKey_105 (lv_at hl 3 rfl) ?_
              refine lv_iconst (v := iI 4) X.1 X.2.1 d_M_aesKey_107 (by decide) ?_
              refine lv_aload_n X.1 X.2.1 d_M_aesKey_108 rfl (lv_at hl 0 rfl) ?_
              refine r_geti (k := 18) X Y S (by decide) lk_rounds (gf_rounds _ _ _) rfl rfl d_M_aesKey_109 (fun z123 e123 l123 u123 => ?_)
              refine lv_iconst (v := iI 1) X.1 X.2.1 d_M_aesKey_112 (by decide) ?_
              refine z_iadd X.1 X.2.1 d_M_aesKey_113 ?_
              refine z_imul X.1 X.2.1 d_M_aesKey_114 ?_
              refine z_icmp_ge (tgt := 212) X.1 X.2.1 d_M_aesKey_115 (by decide) ⟨by omega, by omega⟩ ⟨by omega, by omega⟩ (fun h124 => ?_) (fun h124 => ?_)
              · exact m_retv hQQ X Y hr hlk ⟨S, trivial⟩ d_M_aesKey_212
              · refine lv_aload_n X.1 X.2.1 d_M_aesKey_118 rfl (lv_at hl 0 rfl) ?_
                refine m_get X Y 15 (by decide) lk_schedule (gf_schedule _ _ _) rfl d_M_aesKey_119 ?_
                refine lv_iload X.1 X.2.1 d_M_aesKey_122 (lv_at hl 3 rfl) ?_
                refine lv_iconst (v := iI 1) X.1 X.2.1 d_M_aesKey_124 (by decide) ?_
                refine z_isub X.1 X.2.1 d_M_aesKey_125 ?_
                refine r_iald X Y S (aw_schedule _ _ _ _ _ _ _) rfl (by omega) (show z117 - 1 < ((60 : Nat) : Int) by omega) (by omega) d_M_aesKey_126 (fun z125 q125 l125 u125 => ?_)
                refine lv_istore (lv' := [(6, .int (iI z125)), (0, .ref h), (3, .int (iI (a2 / 4))), (4, .int (iI z116)), (5, .int (iI z117))]) X.1 X.2.1 d_M_aesKey_127 hl (by decide) rfl (fun ls hl => ?_)
                refine lv_iload X.1 X.2.1 d_M_aesKey_129 (lv_at hl 4 rfl) ?_
                refine lv_iload_n X.1 X.2.1 d_M_aesKey_131 rfl (lv_at hl 2 rfl) ?_
                refine lv_irem X.1 X.2.1 d_M_aesKey_132 (iI_ne0 ⟨by omega, by omega⟩ (by omega)) ?_
                refine t_u (fun z126 l126 u126 => ?_)
                have J130 : ∀ (z128 : Int) (z129 : Int) (I127 : Nat → Int32) (J127 : Nat → Int64) (B127 : Nat → Nat → Int32) (G127 : Nat → Nat → Int64) (H : Heap) (locs : List Loc) (ls : Array Slot), (0 ≤ z128) → (z128 ≤ 255) → ((-2147483648) ≤ z129) → (z129 ≤ 2147483647) → mH D E (mA E h q sz) s.heap h q I127 J127 B127 G127 H locs → rS [14, 18] [12, 13, 15] I B I127 B127 → lv_has ls 7 [(0, .ref h), (3, .int (iI (a2 / 4))), (4, .int (iI z128)), (5, .int (iI z117)), (6, .int (iI z129))] → W p l e (mR 4 129) s m AV below meth c H locs 0 0 QQ (F0 m 187 ls []) := by
                  intro z128 z129 I127 J127 B127 G127 H locs ls l128 u128 l129 u129 Y S hl
                  refine lv_aload_n X.1 X.2.1 d_M_aesKey_187 rfl (lv_at hl 0 rfl) ?_
                  refine m_get X Y 15 (by decide) lk_schedule (gf_schedule _ _ _) rfl d_M_aesKey_188 ?_
                  refine lv_iload X.1 X.2.1 d_M_aesKey_191 (lv_at hl 3 rfl) ?_
                  refine lv_aload_n X.1 X.2.1 d_M_aesKey_193 rfl (lv_at hl 0 rfl) ?_
                  refine m_get X Y 15 (by decide) lk_schedule (gf_schedule _ _ _) rfl d_M_aesKey_194 ?_
                  refine lv_iload X.1 X.2.1 d_M_aesKey_197 (lv_at hl 3 rfl) ?_
                  refine lv_iload_n X.1 X.2.1 d_M_aesKey_199 rfl (lv_at hl 1 rfl) ?_
                  refine z_isub X.1 X.2.1 d_M_aesKey_200 ?_
                  refine r_iald X Y S (aw_schedule _ _ _ _ _ _ _) rfl (by omega) (show z117 - (a2 / 4) < ((60 : Nat) : Int) by omega) (by omega) d_M_aesKey_201 (fun z134 q134 l134 u134 => ?_)
                  refine lv_iload X.1 X.2.1 d_M_aesKey_202 (lv_at hl 4 rfl) ?_
                  refine lv_ixor X.1 X.2.1 d_M_aesKey_204 ?_
                  refine t_u (fun z135 l135 u135 => ?_)
                  refine r_iast X Y S (aw_schedule _ _ _ _ _ _ _) (sw_schedule _ _ _ _ _ _ _) rfl ⟨(show ((-2147483648) : Int) ≤ z135 by omega), (show z135 ≤ (2147483647 : Int) by omega)⟩ ⟨by omega, by omega⟩ (by omega) (show z117 < ((60 : Nat) : Int) by omega) (by omega) (by decide) d_M_aesKey_205 (fun B136 H locs Y S w136 => ?_)
                  refine lv_iinc (v := iI (z117 + 1)) (lv' := [(5, .int (iI (z117 + 1))), (0, .ref h), (3, .int (iI (a2 / 4))), (4, .int (iI z128)), (6, .int (iI z129))]) X.1 X.2.1 d_M_aesKey_206 hl (k := 3) rfl ((iI_add _ _).trans (congrArg iI (by omega))) (by decide) rfl (fun ls hl => ?_)
                  refine lv_goto (tgt := 105) X.1 X.2.1 d_M_aesKey_209 (by decide) ?_
                  exact ih120 ((60 - (z117 + 1)).toNat) (by omega) z128 (z117 + 1) I127 J127 B136 G127 _ _ _ rfl (by omega) (by omega) (by omega) (by omega) (by omega) Y S (lv_sub hl [1, 2, 3, 0] rfl)
                refine z_if_ne (tgt := 165) X.1 X.2.1 d_M_aesKey_133 (by decide) ⟨by omega, by omega⟩ (fun h137 => ?_) (fun h137 => ?_)
                · refine lv_iload_n X.1 X.2.1 d_M_aesKey_165 rfl (lv_at hl 2 rfl) ?_
                  refine lv_bipush (v := iI 6) X.1 X.2.1 d_M_aesKey_166 (by decide) ?_
                  refine z_icmp_le (tgt := 187) X.1 X.2.1 d_M_aesKey_168 (by decide) ⟨by omega, by omega⟩ ⟨by omega, by omega⟩ (fun h138 => ?_) (fun h138 => ?_)
                  · exact J130 z116 z125 I115 J115 B115 G115 _ _ _ (by omega) (by omega) (by omega) (by omega) Y S (lv_sub hl [1, 2, 3, 4, 0] rfl)
                  · refine lv_iload X.1 X.2.1 d_M_aesKey_171 (lv_at hl 4 rfl) ?_
                    refine lv_iload_n X.1 X.2.1 d_M_aesKey_173 rfl (lv_at hl 2 rfl) ?_
                    refine lv_irem X.1 X.2.1 d_M_aesKey_174 (iI_ne0 ⟨by omega, by omega⟩ (by omega)) ?_
                    refine t_u (fun z139 l139 u139 => ?_)
                    refine lv_iconst (v := iI 4) X.1 X.2.1 d_M_aesKey_175 (by decide) ?_
                    refine z_icmp_ne (tgt := 187) X.1 X.2.1 d_M_aesKey_176 (by decide) ⟨by omega, by omega⟩ ⟨by omega, by omega⟩ (fun h140 => ?_) (fun h140 => ?_)
                    · exact J130 z116 z125 I115 J115 B115 G115 _ _ _ (by omega) (by omega) (by omega) (by omega) Y S (lv_sub hl [1, 2, 3, 4, 0] rfl)
                    · refine lv_aload_n X.1 X.2.1 d_M_aesKey_179 rfl (lv_at hl 1 rfl) ?_
                      refine lv_iload X.1 X.2.1 d_M_aesKey_180 (lv_at hl 0 rfl) ?_
                      refine r_ni (m_run (As := [.int (iI z125)]) (rest := []) (n := 1) X Y hZ hA hml hl.1 (r_M_boxed l D E h q H.size I115 J115 B115 G115 z125 (by omega) (by omega) S.1) kl_M_boxed ks_M_boxed kx_M_boxed ki_M_boxed ini_M hd_M_boxed ⟨Nat.le_of_ble_eq_true rfl, Nat.le_of_ble_eq_true rfl⟩ rfl (Nat.le_of_ble_eq_true rfl) d_M_aesKey_182 ⟨Nat.le_refl _, Nat.le_refl _⟩) X Y hA S (by decide) (by decide) (fun z141 u H locs Y S s141 p141 => ?_)
                      obtain ⟨I141, J141, B141, G141⟩ := u
                      dsimp only at Y S s141 p141
                      obtain ⟨l141, u141⟩ := p141
                      refine lv_istore (lv' := [(6, .int (iI z141)), (0, .ref h), (3, .int (iI (a2 / 4))), (4, .int (iI z116)), (5, .int (iI z117))]) X.1 X.2.1 d_M_aesKey_185 hl (by decide) rfl (fun ls hl => ?_)
                      exact J130 z116 z141 I141 J141 B141 G141 _ _ _ (by omega) (by omega) (by omega) (by omega) Y S (lv_sub hl [1, 2, 3, 4, 0] rfl)
                · refine lv_aload_n X.1 X.2.1 d_M_aesKey_136 rfl (lv_at hl 1 rfl) ?_
                  refine lv_iload X.1 X.2.1 d_M_aesKey_137 (lv_at hl 0 rfl) ?_
                  refine lv_bipush (v := iI 8) X.1 X.2.1 d_M_aesKey_139 (by decide) ?_
                  refine p_calli (As := [.int (iI z125), .int (iI 8)]) (rest := [.ref h]) (n := 2) X Y hml hl.1 (r_M_left l z125 (by omega) (by omega) 8 (by omega) (by omega)) kl_M_left ks_M_left ki_M_left ini_M hd_M_left ⟨Nat.le_of_ble_eq_true rfl, Nat.le_of_ble_eq_true rfl⟩ rfl (Nat.le_of_ble_eq_true rfl) d_M_aesKey_141 ⟨Nat.le_refl _, Nat.le_refl _⟩ (fun r142 H locs p142 Y => ?_)
                  obtain ⟨z142, e142, p142⟩ := p142
                  subst e142
                  obtain ⟨l142, u142⟩ := p142
                  refine r_ni (m_run (As := [.int (iI z142)]) (rest := []) (n := 1) X Y hZ hA hml hl.1 (r_M_boxed l D E h q H.size I115 J115 B115 G115 z142 (by omega) (by omega) S.1) kl_M_boxed ks_M_boxed kx_M_boxed ki_M_boxed ini_M hd_M_boxed ⟨Nat.le_of_ble_eq_true rfl, Nat.le_of_ble_eq_true rfl⟩ rfl (Nat.le_of_ble_eq_true rfl) d_M_aesKey_144 ⟨Nat.le_refl _, Nat.le_refl _⟩) X Y hA S (by decide) (by decide) (fun z143 u H locs Y S s143 p143 => ?_)
                  obtain ⟨I143, J143, B143, G143⟩ := u
                  dsimp only at Y S s143 p143
                  obtain ⟨l143, u143⟩ := p143
                  refine lv_iload X.1 X.2.1 d_M_aesKey_147 (lv_at hl 3 rfl) ?_
                  refine lv_bipush (v := iI 24) X.1 X.2.1 d_M_aesKey_149 (by decide) ?_
                  refine lv_ishl X.1 X.2.1 d_M_aesKey_151 ?_
                  refine t_u (fun z144 l144 u144 => ?_)
                  refine lv_ixor X.1 X.2.1 d_M_aesKey_152 ?_
                  refine t_u (fun z145 l145 u145 => ?_)
                  refine lv_istore (lv' := [(6, .int (iI z145)), (0, .ref h), (3, .int (iI (a2 / 4))), (4, .int (iI z116)), (5, .int (iI z117))]) X.1 X.2.1 d_M_aesKey_153 hl (by decide) rfl (fun ls hl => ?_)
                  refine lv_iload X.1 X.2.1 d_M_aesKey_155 (lv_at hl 3 rfl) ?_
                  refine p_calli (As := [.int (iI z116)]) (rest := []) (n := 1) X Y hml hl.1 (r_M_twice l z116 (by omega) (by omega)) kl_M_twice ks_M_twice ki_M_twice ini_M hd_M_twice ⟨Nat.le_of_ble_eq_true rfl, Nat.le_of_ble_eq_true rfl⟩ rfl (Nat.le_of_ble_eq_true rfl) d_M_aesKey_157 ⟨Nat.le_refl _, Nat.le_refl _⟩ (fun r146 H locs p146 Y => ?_)
                  obtain ⟨z146, e146, p146⟩ := p146
                  subst e146
                  obtain ⟨l146, u146⟩ := p146
                  refine lv_istore (lv' := [(4, .int (iI z146)), (6, .int (iI z145)), (0, .ref h), (3, .int (iI (a2 / 4))), (5, .int (iI z117))]) X.1 X.2.1 d_M_aesKey_160 hl (by decide) rfl (fun ls hl => ?_)
                  refine lv_goto (tgt := 187) X.1 X.2.1 d_M_aesKey_162 (by decide) ?_
                  exact J130 z146 z145 I143 J143 B143 G143 _ _ _ (by omega) (by omega) (by omega) (by omega) Y S (lv_sub hl [2, 3, 0, 4, 1] rfl)
          refine lv_istore (lv' := [(5, .int (iI (a2 / 4))), (4, .int (iI 1)), (0, .ref h), (1, .ref ((q 56))), (3, .int (iI (a2 / 4)))]) X.1 X.2.1 d_M_aesKey_103 hl (by decide) rfl (fun ls hl => ?_)
          exact J119 _ 1 (a2 / 4) I108 J108 B108 G108 _ _ _ rfl (by omega) (by omega) (by omega) (by omega) (by omega) Y S (lv_sub hl [2, 4, 1, 0] rfl)
        · refine lv_aload_n X.1 X.2.1 d_M_aesKey_32 rfl (lv_at hl 0 rfl) ?_
          refine m_get X Y 15 (by decide) lk_schedule (gf_schedule _ _ _) rfl d_M_aesKey_33 ?_
          refine lv_iload X.1 X.2.1 d_M_aesKey_36 (lv_at hl 3 rfl) ?_
          refine lv_aload_n X.1 X.2.1 d_M_aesKey_38 rfl (lv_at hl 1 rfl) ?_
          refine lv_iconst (v := iI 4) X.1 X.2.1 d_M_aesKey_39 (by decide) ?_
          refine lv_iload X.1 X.2.1 d_M_aesKey_40 (lv_at hl 3 rfl) ?_
          refine z_imul X.1 X.2.1 d_M_aesKey_42 ?_
          refine r_bald X Y S (aw_made _ _ _ _ _ _ _) rfl (by omega) (show 4 * z109 < ((32 : Nat) : Int) by omega) (by omega) d_M_aesKey_43 (fun z147 q147 l147 u147 => ?_)
          refine lv_bipush (v := iI 24) X.1 X.2.1 d_M_aesKey_44 (by decide) ?_
          refine lv_ishl X.1 X.2.1 d_M_aesKey_46 ?_
          refine t_u (fun z148 l148 u148 => ?_)
          refine lv_aload_n X.1 X.2.1 d_M_aesKey_47 rfl (lv_at hl 1 rfl) ?_
          refine lv_iconst (v := iI 4) X.1 X.2.1 d_M_aesKey_48 (by decide) ?_
          refine lv_iload X.1 X.2.1 d_M_aesKey_49 (lv_at hl 3 rfl) ?_
          refine z_imul X.1 X.2.1 d_M_aesKey_51 ?_
          refine lv_iconst (v := iI 1) X.1 X.2.1 d_M_aesKey_52 (by decide) ?_
          refine z_iadd X.1 X.2.1 d_M_aesKey_53 ?_
          refine r_bald X Y S (aw_made _ _ _ _ _ _ _) rfl (by omega) (show (4 * z109) + 1 < ((32 : Nat) : Int) by omega) (by omega) d_M_aesKey_54 (fun z149 q149 l149 u149 => ?_)
          refine lv_sipush (v := iI 255) X.1 X.2.1 d_M_aesKey_55 (by decide) ?_
          refine z_iand X.1 X.2.1 (by omega) (by omega) d_M_aesKey_58 (fun z150 l150 u150 => ?_)
          refine lv_bipush (v := iI 16) X.1 X.2.1 d_M_aesKey_59 (by decide) ?_
          refine lv_ishl X.1 X.2.1 d_M_aesKey_61 ?_
          refine t_u (fun z151 l151 u151 => ?_)
          refine lv_ior X.1 X.2.1 d_M_aesKey_62 ?_
          refine t_u (fun z152 l152 u152 => ?_)
          refine lv_aload_n X.1 X.2.1 d_M_aesKey_63 rfl (lv_at hl 1 rfl) ?_
          refine lv_iconst (v := iI 4) X.1 X.2.1 d_M_aesKey_64 (by decide) ?_
          refine lv_iload X.1 X.2.1 d_M_aesKey_65 (lv_at hl 3 rfl) ?_
          refine z_imul X.1 X.2.1 d_M_aesKey_67 ?_
          refine lv_iconst (v := iI 2) X.1 X.2.1 d_M_aesKey_68 (by decide) ?_
          refine z_iadd X.1 X.2.1 d_M_aesKey_69 ?_
          refine r_bald X Y S (aw_made _ _ _ _ _ _ _) rfl (by omega) (show (4 * z109) + 2 < ((32 : Nat) : Int) by omega) (by omega) d_M_aesKey_70 (fun z153 q153 l153 u153 => ?_)
          refine lv_sipush (v := iI 255) X.1 X.2.1 d_M_aesKey_71 (by decide) ?_
          refine z_iand X.1 X.2.1 (by omega) (by omega) d_M_aesKey_74 (fun z154 l154 u154 => ?_)
          refine lv_bipush (v := iI 8) X.1 X.2.1 d_M_aesKey_75 (by decide) ?_
          refine lv_ishl X.1 X.2.1 d_M_aesKey_77 ?_
          refine t_u (fun z155 l155 u155 => ?_)
          refine lv_ior X.1 X.2.1 d_M_aesKey_78 ?_
          refine t_u (fun z156 l156 u156 => ?_)
          refine lv_aload_n X.1 X.2.1 d_M_aesKey_79 rfl (lv_at hl 1 rfl) ?_
          refine lv_iconst (v := iI 4) X.1 X.2.1 d_M_aesKey_80 (by decide) ?_
          refine lv_iload X.1 X.2.1 d_M_aesKey_81 (lv_at hl 3 rfl) ?_
          refine z_imul X.1 X.2.1 d_M_aesKey_83 ?_
          refine lv_iconst (v := iI 3) X.1 X.2.1 d_M_aesKey_84 (by decide) ?_
          refine z_iadd X.1 X.2.1 d_M_aesKey_85 ?_
          refine r_bald X Y S (aw_made _ _ _ _ _ _ _) rfl (by omega) (show (4 * z109) + 3 < ((32 : Nat) : Int) by omega) (by omega) d_M_aesKey_86 (fun z157 q157 l157 u157 => ?_)
          refine lv_sipush (v := iI 255) X.1 X.2.1 d_M_aesKey_87 (by decide) ?_
          refine z_iand X.1 X.2.1 (by omega) (by omega) d_M_aesKey_90 (fun z158 l158 u158 => ?_)
          refine lv_ior X.1 X.2.1 d_M_aesKey_91 ?_
          refine t_u (fun z159 l159 u159 => ?_)
          refine r_iast X Y S (aw_schedule _ _ _ _ _ _ _) (sw_schedule _ _ _ _ _ _ _) rfl ⟨(show ((-2147483648) : Int) ≤ z159 by omega), (show z159 ≤ (2147483647 : Int) by omega)⟩ ⟨by omega, by omega⟩ (by omega) (show z109 < ((60 : Nat) : Int) by omega) (by omega) (by decide) d_M_aesKey_92 (fun B160 H locs Y S w160 => ?_)
          refine lv_iinc (v := iI (z109 + 1)) (lv' := [(4, .int (iI (z109 + 1))), (0, .ref h), (1, .ref ((q 56))), (3, .int (iI (a2 / 4)))]) X.1 X.2.1 d_M_aesKey_93 hl (k := 3) rfl ((iI_add _ _).trans (congrArg iI (by omega))) (by decide) rfl (fun ls hl => ?_)
          refine lv_goto (tgt := 26) X.1 X.2.1 d_M_aesKey_96 (by decide) ?_
          exact ih111 ((8 - (z109 + 1)).toNat) (by omega) (z109 + 1) I108 J108 B160 G108 _ _ _ rfl (by omega) (by omega) Y S (lv_sub hl [1, 2, 3, 0] rfl)
    refine lv_istore (lv' := [(4, .int (iI 0)), (3, .int (iI (a2 / 4))), (0, .ref h), (1, .ref ((q 56))), (2, .int (iI a2))]) X.1 X.2.1 d_M_aesKey_24 hl (by decide) rfl (fun ls hl => ?_)
    exact J110 _ 0 I107 J102 B102 G102 _ _ _ rfl (by omega) (by omega) Y S (lv_sub hl [2, 3, 1, 0] rfl)
  refine z_if_ne (tgt := 11) X.1 X.2.1 d_M_aesKey_4 (by decide) ⟨by omega, by omega⟩ (fun h161 => ?_) (fun h161 => ?_)
  · exact J103 I J B G _ _ _  Y S (lv_sub hl [0, 1, 2] rfl)
  · refine lv_aload_n X.1 X.2.1 d_M_aesKey_7 rfl (lv_at hl 0 rfl) ?_
    refine r_nv (m_run (As := []) (rest := []) (n := 0) X Y hZ hA hml hl.1 (r_M_makeBox l D E h q H.size I J B G S.1) kl_M_makeBox ks_M_makeBox kx_M_makeBox ki_M_makeBox ini_M hd_M_makeBox ⟨Nat.le_of_ble_eq_true rfl, Nat.le_of_ble_eq_true rfl⟩ rfl (Nat.le_of_ble_eq_true rfl) d_M_aesKey_8 ⟨Nat.le_refl _, Nat.le_refl _⟩) X Y hA S (by decide) (by decide) (fun u H locs Y S s162 p162 => ?_)
    obtain ⟨I162, J162, B162, G162⟩ := u
    dsimp only at Y S s162 p162
    exact J103 I162 J162 B162 G162 _ _ _  Y S (lv_sub hl [0, 1, 2] rfl)
set_option maxHeartbeats 4000000 in
set_option maxRecDepth 100000 in
theorem r_M_derive_made_constant_use (l : Launch) (D : mD) (E : mE) (h : Nat) (q : Nat → Nat) (sz : Nat) (I : Nat → Int32) (J : Nat → Int64) (B : Nat → Nat → Int32) (G : Nat → Nat → Int64) (a2 : Int) (l_a2 : 16 ≤ a2) (u_a2 : a2 ≤ 32) (hT : rT I B) : Met l y_M_derive (k_M_derive :: lw_tg) (mR 5 155) (va_Pc [.ref h, .ref (q 56), .int (iI a2), .ref (q 22), .int (iI 5), .ref (q 23)] (mPre D E h q (I, J, B, G) sz)) (va_Qv (rPv [14, 18] [12, 13, 15, 16, 17, 19, 20, 21, 23] I B (fun (u : mS) => True)) (mPost D E h q (mA E h q sz)) (mA E h q sz)) 0 0 (mA E h q sz) := by
  refine m_enter (by decide) rfl (Nat.le_of_ble_eq_true rfl) (fun p e s m below meth c ls AV QQ H locs hQQ X Y hZ hA hr hlk hml hl => ?_)
  have Y : mH D E (mA E h q sz) s.heap h q I J B G H locs := Y
  have S : rS [14, 18] [12, 13, 15, 16, 17, 19, 20, 21, 23] I B I B := rS_rf hT
  have hl : lv_has ls 8 [(0, .ref h), (1, .ref ((q 56))), (2, .int (iI a2)), (3, .ref ((q 22))), (4, .int (iI 5)), (5, .ref ((q 23)))] := hl
  refine lv_aload_n X.1 X.2.1 d_M_derive_0 rfl (lv_at hl 0 rfl) ?_
  refine lv_aload_n X.1 X.2.1 d_M_derive_1 rfl (lv_at hl 3 rfl) ?_
  refine lv_iload X.1 X.2.1 d_M_derive_2 (lv_at hl 4 rfl) ?_
  refine r_nv (m_run (As := [.ref ((q 22)), .int (iI 5)]) (rest := []) (n := 2) X Y hZ hA hml hl.1 (r_M_foldOf_constant l D E h q H.size I J B G S.1) kl_M_foldOf ks_M_foldOf kx_M_foldOf ki_M_foldOf ini_M hd_M_foldOf ⟨Nat.le_of_ble_eq_true rfl, Nat.le_of_ble_eq_true rfl⟩ rfl (Nat.le_of_ble_eq_true rfl) d_M_derive_4 ⟨Nat.le_refl _, Nat.le_refl _⟩) X Y hA S (by decide) (by decide) (fun u H locs Y S s101 p101 => ?_)
  obtain ⟨I101, J101, B101, G101⟩ := u
  dsimp only at Y S s101 p101
  refine lv_aload_n X.1 X.2.1 d_M_derive_7 rfl (lv_at hl 0 rfl) ?_
  refine lv_aload_n X.1 X.2.1 d_M_derive_8 rfl (lv_at hl 1 rfl) ?_
  refine lv_iload_n X.1 X.2.1 d_M_derive_9 rfl (lv_at hl 2 rfl) ?_
  refine r_nv (m_run (As := [.ref ((q 56)), .int (iI a2)]) (rest := []) (n := 2) X Y hZ hA hml hl.1 (r_M_aesKey_made l D E h q H.size I101 J101 B101 G101 a2 (by omega) (by omega) S.1) kl_M_aesKey ks_M_aesKey kx_M_aesKey ki_M_aesKey ini_M hd_M_aesKey ⟨Nat.le_of_ble_eq_true rfl, Nat.le_of_ble_eq_true rfl⟩ rfl (Nat.le_of_ble_eq_true rfl) d_M_derive_10 ⟨Nat.le_refl _, Nat.le_refl _⟩) X Y hA S (by decide) (by decide) (fun u H locs Y S s102 p102 => ?_)
  obtain ⟨I102, J102, B102, G102⟩ := u
  dsimp only at Y S s102 p102
  refine lv_iconst (v := iI 0) X.1 X.2.1 d_M_derive_13 (by decide) ?_
  have J105 : ∀ (n107 : Nat) (z104 : Int) (I103 : Nat → Int32) (J103 : Nat → Int64) (B103 : Nat → Nat → Int32) (G103 : Nat → Nat → Int64) (H : Heap) (locs : List Loc) (ls : Array Slot), (16 - z104).toNat = n107 → (0 ≤ z104) → (z104 ≤ 16) → mH D E (mA E h q sz) s.heap h q I103 J103 B103 G103 H locs → rS [14, 18] [12, 13, 15, 16, 17, 19, 20, 21, 23] I B I103 B103 → lv_has ls 8 [(0, .ref h), (2, .int (iI a2)), (5, .ref ((q 23))), (6, .int (iI z104))] → W p l e (mR 5 155) s m AV below meth c H locs 0 0 QQ (F0 m 16 ls []) := by
    intro n107
    induction n107 using Nat.strongRecOn with
    | ind n107 ih106 =>
      intro z104 I103 J103 B103 G103 H locs ls hm108 l104 u104 Y S hl
      refine lv_iload X.1 X.2.1 d_M_derive_16 (lv_at hl 3 rfl) ?_
      refine lv_bipush (v := iI 16) X.1 X.2.1 d_M_derive_18 (by decide) ?_
      refine z_icmp_ge (tgt := 47) X.1 X.2.1 d_M_derive_20 (by decide) ⟨by omega, by omega⟩ ⟨by omega, by omega⟩ (fun h109 => ?_) (fun h109 => ?_)
      · refine lv_iconst (v := iI 0) X.1 X.2.1 d_M_derive_47 (by decide) ?_
        have J113 : ∀ (n115 : Nat) (z111 : Int) (I110 : Nat → Int32) (J110 : Nat → Int64) (B110 : Nat → Nat → Int32) (G110 : Nat → Nat → Int64) (H : Heap) (locs : List Loc) (ls : Array Slot), (47 - z111).toNat = n115 → (0 ≤ z111) → (z111 ≤ 47) → (z111 % 16 = 0) → mH D E (mA E h q sz) s.heap h q I110 J110 B110 G110 H locs → rS [14, 18] [12, 13, 15, 16, 17, 19, 20, 21, 23] I B I110 B110 → lv_has ls 8 [(0, .ref h), (2, .int (iI a2)), (5, .ref ((q 23))), (6, .int (iI z111))] → W p l e (mR 5 155) s m AV below meth c H locs 0 0 QQ (F0 m 50 ls []) := by
          intro n115
          induction n115 using Nat.strongRecOn with
          | ind n115 ih114 =>
            intro z111 I110 J110 B110 G110 H locs ls hm116 l111 u111 i112 Y S hl
            refine lv_iload X.1 X.2.1 d_M_derive_50 (lv_at hl 3 rfl) ?_
            refine lv_iload_n X.1 X.2.1 d_M_derive_52 rfl (lv_at hl 1 rfl) ?_
            refine z_icmp_ge (tgt := 100) X.1 X.2.1 d_M_derive_53 (by decide) ⟨by omega, by omega⟩ ⟨by omega, by omega⟩ (fun h117 => ?_) (fun h117 => ?_)
            · refine lv_iconst (v := iI 0) X.1 X.2.1 d_M_derive_100 (by decide) ?_
              have J120 : ∀ (n122 : Nat) (z119 : Int) (I118 : Nat → Int32) (J118 : Nat → Int64) (B118 : Nat → Nat → Int32) (G118 : Nat → Nat → Int64) (H : Heap) (locs : List Loc) (ls : Array Slot), (32 - z119).toNat = n122 → (0 ≤ z119) → (z119 ≤ 32) → mH D E (mA E h q sz) s.heap h q I118 J118 B118 G118 H locs → rS [14, 18] [12, 13, 15, 16, 17, 19, 20, 21, 23] I B I118 B118 → lv_has ls 8 [(0, .ref h), (2, .int (iI a2)), (5, .ref ((q 23))), (6, .int (iI z119))] → W p l e (mR 5 155) s m AV below meth c H locs 0 0 QQ (F0 m 103 ls []) := by
                intro n122
                induction n122 using Nat.strongRecOn with
                | ind n122 ih121 =>
                  intro z119 I118 J118 B118 G118 H locs ls hm123 l119 u119 Y S hl
                  refine lv_iload X.1 X.2.1 d_M_derive_103 (lv_at hl 3 rfl) ?_
                  refine lv_iload_n X.1 X.2.1 d_M_derive_105 rfl (lv_at hl 1 rfl) ?_
                  refine z_icmp_ge (tgt := 127) X.1 X.2.1 d_M_derive_106 (by decide) ⟨by omega, by omega⟩ ⟨by omega, by omega⟩ (fun h124 => ?_) (fun h124 => ?_)
                  · exact m_retv hQQ X Y hr hlk ⟨S, trivial⟩ d_M_derive_127
                  · refine lv_aload X.1 X.2.1 d_M_derive_109 (lv_at hl 2 rfl) ?_
                    refine lv_iload X.1 X.2.1 d_M_derive_111 (lv_at hl 3 rfl) ?_
                    refine lv_aload_n X.1 X.2.1 d_M_derive_113 rfl (lv_at hl 0 rfl) ?_
                    refine m_get X Y 20 (by decide) lk_derived (gf_derived _ _ _) rfl d_M_derive_114 ?_
                    refine lv_iload X.1 X.2.1 d_M_derive_117 (lv_at hl 3 rfl) ?_
                    refine r_bald X Y S (aw_derived _ _ _ _ _ _ _) rfl (by omega) (show z119 < ((32 : Nat) : Int) by omega) (by omega) d_M_derive_119 (fun z125 q125 l125 u125 => ?_)
                    refine r_bast X Y S (aw_use _ _ _ _ _ _ _) (sw_use _ _ _ _ _ _ _) rfl (by omega) (show z119 < ((32 : Nat) : Int) by omega) (by omega) (by decide) d_M_derive_120 (fun B126 H locs Y S w126 => ?_)
                    refine lv_iinc (v := iI (z119 + 1)) (lv' := [(6, .int (iI (z119 + 1))), (0, .ref h), (2, .int (iI a2)), (5, .ref ((q 23)))]) X.1 X.2.1 d_M_derive_121 hl (k := 3) rfl ((iI_add _ _).trans (congrArg iI (by omega))) (by decide) rfl (fun ls hl => ?_)
                    refine lv_goto (tgt := 103) X.1 X.2.1 d_M_derive_124 (by decide) ?_
                    exact ih121 ((32 - (z119 + 1)).toNat) (by omega) (z119 + 1) I118 J118 B126 G118 _ _ _ rfl (by omega) (by omega) Y S (lv_sub hl [1, 2, 3, 0] rfl)
              refine lv_istore (lv' := [(6, .int (iI 0)), (0, .ref h), (2, .int (iI a2)), (5, .ref ((q 23)))]) X.1 X.2.1 d_M_derive_101 hl (by decide) rfl (fun ls hl => ?_)
              exact J120 _ 0 I110 J110 B110 G110 _ _ _ rfl (by omega) (by omega) Y S (lv_sub hl [1, 2, 3, 0] rfl)
            · refine lv_aload_n X.1 X.2.1 d_M_derive_56 rfl (lv_at hl 0 rfl) ?_
              refine r_nv (m_run (As := []) (rest := []) (n := 0) X Y hZ hA hml hl.1 (r_M_cover l D E h q H.size I110 J110 B110 G110 S.1) kl_M_cover ks_M_cover kx_M_cover ki_M_cover ini_M hd_M_cover ⟨Nat.le_of_ble_eq_true rfl, Nat.le_of_ble_eq_true rfl⟩ rfl (Nat.le_of_ble_eq_true rfl) d_M_derive_57 ⟨Nat.le_refl _, Nat.le_refl _⟩) X Y hA S (by decide) (by decide) (fun u H locs Y S s127 p127 => ?_)
              obtain ⟨I127, J127, B127, G127⟩ := u
              dsimp only at Y S s127 p127
              refine lv_iconst (v := iI 0) X.1 X.2.1 d_M_derive_60 (by decide) ?_
              have J130 : ∀ (n132 : Nat) (z129 : Int) (I128 : Nat → Int32) (J128 : Nat → Int64) (B128 : Nat → Nat → Int32) (G128 : Nat → Nat → Int64) (H : Heap) (locs : List Loc) (ls : Array Slot), (16 - z129).toNat = n132 → (0 ≤ z129) → (z129 ≤ 16) → mH D E (mA E h q sz) s.heap h q I128 J128 B128 G128 H locs → rS [14, 18] [12, 13, 15, 16, 17, 19, 20, 21, 23] I B I128 B128 → lv_has ls 8 [(0, .ref h), (2, .int (iI a2)), (5, .ref ((q 23))), (6, .int (iI z111)), (7, .int (iI z129))] → W p l e (mR 5 155) s m AV below meth c H locs 0 0 QQ (F0 m 63 ls []) := by
                intro n132
                induction n132 using Nat.strongRecOn with
                | ind n132 ih131 =>
                  intro z129 I128 J128 B128 G128 H locs ls hm133 l129 u129 Y S hl
                  refine lv_iload X.1 X.2.1 d_M_derive_63 (lv_at hl 4 rfl) ?_
                  refine lv_bipush (v := iI 16) X.1 X.2.1 d_M_derive_65 (by decide) ?_
                  refine z_icmp_ge (tgt := 94) X.1 X.2.1 d_M_derive_67 (by decide) ⟨by omega, by omega⟩ ⟨by omega, by omega⟩ (fun h134 => ?_) (fun h134 => ?_)
                  · refine lv_iinc (v := iI (z111 + 16)) (lv' := [(6, .int (iI (z111 + 16))), (0, .ref h), (2, .int (iI a2)), (5, .ref ((q 23))), (7, .int (iI z129))]) X.1 X.2.1 d_M_derive_94 hl (k := 3) rfl ((iI_add _ _).trans (congrArg iI (by omega))) (by decide) rfl (fun ls hl => ?_)
                    refine lv_goto (tgt := 50) X.1 X.2.1 d_M_derive_97 (by decide) ?_
                    exact ih114 ((47 - (z111 + 16)).toNat) (by omega) (z111 + 16) I128 J128 B128 G128 _ _ _ rfl (by omega) (by omega) (by omega) Y S (lv_sub hl [1, 2, 3, 0] rfl)
                  · refine lv_aload_n X.1 X.2.1 d_M_derive_70 rfl (lv_at hl 0 rfl) ?_
                    refine m_get X Y 20 (by decide) lk_derived (gf_derived _ _ _) rfl d_M_derive_71 ?_
                    refine lv_iload X.1 X.2.1 d_M_derive_74 (lv_at hl 3 rfl) ?_
                    refine lv_iload X.1 X.2.1 d_M_derive_76 (lv_at hl 4 rfl) ?_
                    refine z_iadd X.1 X.2.1 d_M_derive_78 ?_
                    refine lv_aload_n X.1 X.2.1 d_M_derive_79 rfl (lv_at hl 0 rfl) ?_
                    refine m_get X Y 16 (by decide) lk_state (gf_state _ _ _) rfl d_M_derive_80 ?_
                    refine lv_iload X.1 X.2.1 d_M_derive_83 (lv_at hl 4 rfl) ?_
                    refine r_iald X Y S (aw_state _ _ _ _ _ _ _) rfl (by omega) (show z129 < ((16 : Nat) : Int) by omega) (by omega) d_M_derive_85 (fun z135 q135 l135 u135 => ?_)
                    refine lv_i2b X.1 X.2.1 d_M_derive_86 rfl ?_
                    refine t_u (fun z136 l136 u136 => ?_)
                    refine r_bast X Y S (aw_derived _ _ _ _ _ _ _) (sw_derived _ _ _ _ _ _ _) rfl (by omega) (show z111 + z129 < ((32 : Nat) : Int) by omega) (by omega) (by decide) d_M_derive_87 (fun B137 H locs Y S w137 => ?_)
                    refine lv_iinc (v := iI (z129 + 1)) (lv' := [(7, .int (iI (z129 + 1))), (0, .ref h), (2, .int (iI a2)), (5, .ref ((q 23))), (6, .int (iI z111))]) X.1 X.2.1 d_M_derive_88 hl (k := 4) rfl ((iI_add _ _).trans (congrArg iI (by omega))) (by decide) rfl (fun ls hl => ?_)
                    refine lv_goto (tgt := 63) X.1 X.2.1 d_M_derive_91 (by decide) ?_
                    exact ih131 ((16 - (z129 + 1)).toNat) (by omega) (z129 + 1) I128 J128 B137 G128 _ _ _ rfl (by omega) (by omega) Y S (lv_sub hl [1, 2, 3, 4, 0] rfl)
              refine lv_istore (lv' := [(7, .int (iI 0)), (0, .ref h), (2, .int (iI a2)), (5, .ref ((q 23))), (6, .int (iI z111))]) X.1 X.2.1 d_M_derive_61 hl (by decide) rfl (fun ls hl => ?_)
              exact J130 _ 0 I127 J127 B127 G127 _ _ _ rfl (by omega) (by omega) Y S (lv_sub hl [1, 2, 3, 4, 0] rfl)
        refine lv_istore (lv' := [(6, .int (iI 0)), (0, .ref h), (2, .int (iI a2)), (5, .ref ((q 23)))]) X.1 X.2.1 d_M_derive_48 hl (by decide) rfl (fun ls hl => ?_)
        exact J113 _ 0 I103 J103 B103 G103 _ _ _ rfl (by omega) (by omega) (by omega) Y S (lv_sub hl [1, 2, 3, 0] rfl)
      · refine lv_aload_n X.1 X.2.1 d_M_derive_23 rfl (lv_at hl 0 rfl) ?_
        refine m_get X Y 16 (by decide) lk_state (gf_state _ _ _) rfl d_M_derive_24 ?_
        refine lv_iload X.1 X.2.1 d_M_derive_27 (lv_at hl 3 rfl) ?_
        refine lv_aload_n X.1 X.2.1 d_M_derive_29 rfl (lv_at hl 0 rfl) ?_
        refine m_get X Y 19 (by decide) lk_fold (gf_fold _ _ _) rfl d_M_derive_30 ?_
        refine lv_iload X.1 X.2.1 d_M_derive_33 (lv_at hl 3 rfl) ?_
        refine r_bald X Y S (aw_fold _ _ _ _ _ _ _) rfl (by omega) (show z104 < ((16 : Nat) : Int) by omega) (by omega) d_M_derive_35 (fun z138 q138 l138 u138 => ?_)
        refine lv_sipush (v := iI 255) X.1 X.2.1 d_M_derive_36 (by decide) ?_
        refine z_iand X.1 X.2.1 (by omega) (by omega) d_M_derive_39 (fun z139 l139 u139 => ?_)
        refine r_iast X Y S (aw_state _ _ _ _ _ _ _) (sw_state _ _ _ _ _ _ _) rfl ⟨(show (0 : Int) ≤ z139 by omega), (show z139 ≤ (255 : Int) by omega)⟩ ⟨by omega, by omega⟩ (by omega) (show z104 < ((16 : Nat) : Int) by omega) (by omega) (by decide) d_M_derive_40 (fun B140 H locs Y S w140 => ?_)
        refine lv_iinc (v := iI (z104 + 1)) (lv' := [(6, .int (iI (z104 + 1))), (0, .ref h), (2, .int (iI a2)), (5, .ref ((q 23)))]) X.1 X.2.1 d_M_derive_41 hl (k := 3) rfl ((iI_add _ _).trans (congrArg iI (by omega))) (by decide) rfl (fun ls hl => ?_)
        refine lv_goto (tgt := 16) X.1 X.2.1 d_M_derive_44 (by decide) ?_
        exact ih106 ((16 - (z104 + 1)).toNat) (by omega) (z104 + 1) I103 J103 B140 G103 _ _ _ rfl (by omega) (by omega) Y S (lv_sub hl [1, 2, 3, 0] rfl)
  refine lv_istore (lv' := [(6, .int (iI 0)), (0, .ref h), (1, .ref ((q 56))), (2, .int (iI a2)), (3, .ref ((q 22))), (4, .int (iI 5)), (5, .ref ((q 23)))]) X.1 X.2.1 d_M_derive_14 hl (by decide) rfl (fun ls hl => ?_)
  exact J105 _ 0 I102 J102 B102 G102 _ _ _ rfl (by omega) (by omega) Y S (lv_sub hl [1, 3, 6, 0] rfl)
set_option maxHeartbeats 4000000 in
set_option maxRecDepth 100000 in
theorem r_M_useKey_made (l : Launch) (D : mD) (E : mE) (h : Nat) (q : Nat → Nat) (sz : Nat) (I : Nat → Int32) (J : Nat → Int64) (B : Nat → Nat → Int32) (G : Nat → Nat → Int64) (a2 : Int) (l_a2 : 16 ≤ a2) (u_a2 : a2 ≤ 32) (a3 : Int) (l_a3 : (-2147483648) ≤ a3) (u_a3 : a3 ≤ 2147483647) (a4 : Int) (l_a4 : (-2147483648) ≤ a4) (u_a4 : a4 ≤ 2147483647) (hT : rT I B) : Met l y_M_useKey (k_M_useKey :: lw_tg) (mR 6 182) (va_Pc [.ref h, .ref (q 56), .int (iI a2), .int (iI a3), .int (iI a4)] (mPre D E h q (I, J, B, G) sz)) (va_Qv (rPv [14, 18] [12, 13, 15, 16, 17, 19, 20, 21, 22, 23] I B (fun (u : mS) => True)) (mPost D E h q (mA E h q sz)) (mA E h q sz)) 0 0 (mA E h q sz) := by
  refine m_enter (by decide) rfl (Nat.le_of_ble_eq_true rfl) (fun p e s m below meth c ls AV QQ H locs hQQ X Y hZ hA hr hlk hml hl => ?_)
  have Y : mH D E (mA E h q sz) s.heap h q I J B G H locs := Y
  have S : rS [14, 18] [12, 13, 15, 16, 17, 19, 20, 21, 22, 23] I B I B := rS_rf hT
  have hl : lv_has ls 5 [(0, .ref h), (1, .ref ((q 56))), (2, .int (iI a2)), (3, .int (iI a3)), (4, .int (iI a4))] := hl
  refine lv_aload_n X.1 X.2.1 d_M_useKey_0 rfl (lv_at hl 0 rfl) ?_
  refine m_get X Y 22 (by decide) lk_constant (gf_constant _ _ _) rfl d_M_useKey_1 ?_
  refine lv_iconst (v := iI 0) X.1 X.2.1 d_M_useKey_4 (by decide) ?_
  refine lv_iconst (v := iI 0) X.1 X.2.1 d_M_useKey_5 (by decide) ?_
  refine r_bast X Y S (aw_constant _ _ _ _ _ _ _) (sw_constant _ _ _ _ _ _ _) rfl (by omega) (show 0 < ((5 : Nat) : Int) by omega) (by omega) (by decide) d_M_useKey_6 (fun B101 H locs Y S w101 => ?_)
  refine lv_aload_n X.1 X.2.1 d_M_useKey_7 rfl (lv_at hl 0 rfl) ?_
  refine m_get X Y 22 (by decide) lk_constant (gf_constant _ _ _) rfl d_M_useKey_8 ?_
  refine lv_iconst (v := iI 1) X.1 X.2.1 d_M_useKey_11 (by decide) ?_
  refine lv_iconst (v := iI 0) X.1 X.2.1 d_M_useKey_12 (by decide) ?_
  refine r_bast X Y S (aw_constant _ _ _ _ _ _ _) (sw_constant _ _ _ _ _ _ _) rfl (by omega) (show 1 < ((5 : Nat) : Int) by omega) (by omega) (by decide) d_M_useKey_13 (fun B102 H locs Y S w102 => ?_)
  refine lv_aload_n X.1 X.2.1 d_M_useKey_14 rfl (lv_at hl 0 rfl) ?_
  refine m_get X Y 22 (by decide) lk_constant (gf_constant _ _ _) rfl d_M_useKey_15 ?_
  refine lv_iconst (v := iI 2) X.1 X.2.1 d_M_useKey_18 (by decide) ?_
  refine lv_iconst (v := iI 0) X.1 X.2.1 d_M_useKey_19 (by decide) ?_
  refine r_bast X Y S (aw_constant _ _ _ _ _ _ _) (sw_constant _ _ _ _ _ _ _) rfl (by omega) (show 2 < ((5 : Nat) : Int) by omega) (by omega) (by decide) d_M_useKey_20 (fun B103 H locs Y S w103 => ?_)
  refine lv_aload_n X.1 X.2.1 d_M_useKey_21 rfl (lv_at hl 0 rfl) ?_
  refine m_get X Y 22 (by decide) lk_constant (gf_constant _ _ _) rfl d_M_useKey_22 ?_
  refine lv_iconst (v := iI 3) X.1 X.2.1 d_M_useKey_25 (by decide) ?_
  refine lv_iload_n X.1 X.2.1 d_M_useKey_26 rfl (lv_at hl 3 rfl) ?_
  refine lv_i2b X.1 X.2.1 d_M_useKey_27 rfl ?_
  refine t_u (fun z104 l104 u104 => ?_)
  refine r_bast X Y S (aw_constant _ _ _ _ _ _ _) (sw_constant _ _ _ _ _ _ _) rfl (by omega) (show 3 < ((5 : Nat) : Int) by omega) (by omega) (by decide) d_M_useKey_28 (fun B105 H locs Y S w105 => ?_)
  refine lv_aload_n X.1 X.2.1 d_M_useKey_29 rfl (lv_at hl 0 rfl) ?_
  refine m_get X Y 22 (by decide) lk_constant (gf_constant _ _ _) rfl d_M_useKey_30 ?_
  refine lv_iconst (v := iI 4) X.1 X.2.1 d_M_useKey_33 (by decide) ?_
  refine lv_iload X.1 X.2.1 d_M_useKey_34 (lv_at hl 4 rfl) ?_
  refine lv_i2b X.1 X.2.1 d_M_useKey_36 rfl ?_
  refine t_u (fun z106 l106 u106 => ?_)
  refine r_bast X Y S (aw_constant _ _ _ _ _ _ _) (sw_constant _ _ _ _ _ _ _) rfl (by omega) (show 4 < ((5 : Nat) : Int) by omega) (by omega) (by decide) d_M_useKey_37 (fun B107 H locs Y S w107 => ?_)
  refine lv_aload_n X.1 X.2.1 d_M_useKey_38 rfl (lv_at hl 0 rfl) ?_
  refine lv_aload_n X.1 X.2.1 d_M_useKey_39 rfl (lv_at hl 1 rfl) ?_
  refine lv_iload_n X.1 X.2.1 d_M_useKey_40 rfl (lv_at hl 2 rfl) ?_
  refine lv_aload_n X.1 X.2.1 d_M_useKey_41 rfl (lv_at hl 0 rfl) ?_
  refine m_get X Y 22 (by decide) lk_constant (gf_constant _ _ _) rfl d_M_useKey_42 ?_
  refine lv_iconst (v := iI 5) X.1 X.2.1 d_M_useKey_45 (by decide) ?_
  refine lv_aload_n X.1 X.2.1 d_M_useKey_46 rfl (lv_at hl 0 rfl) ?_
  refine m_get X Y 23 (by decide) lk_use (gf_use _ _ _) rfl d_M_useKey_47 ?_
  refine r_nv (m_run (As := [.ref ((q 56)), .int (iI a2), .ref ((q 22)), .int (iI 5), .ref ((q 23))]) (rest := []) (n := 5) X Y hZ hA hml hl.1 (r_M_derive_made_constant_use l D E h q H.size I J B107 G a2 (by omega) (by omega) S.1) kl_M_derive ks_M_derive kx_M_derive ki_M_derive ini_M hd_M_derive ⟨Nat.le_of_ble_eq_true rfl, Nat.le_of_ble_eq_true rfl⟩ rfl (Nat.le_of_ble_eq_true rfl) d_M_useKey_50 ⟨Nat.le_refl _, Nat.le_refl _⟩) X Y hA S (by decide) (by decide) (fun u H locs Y S s108 p108 => ?_)
  obtain ⟨I108, J108, B108, G108⟩ := u
  dsimp only at Y S s108 p108
  exact m_retv hQQ X Y hr hlk ⟨S, trivial⟩ d_M_useKey_53
set_option maxHeartbeats 4000000 in
set_option maxRecDepth 100000 in
theorem r_M_seal_made (l : Launch) (D : mD) (E : mE) (h : Nat) (q : Nat → Nat) (sz : Nat) (I : Nat → Int32) (J : Nat → Int64) (B : Nat → Nat → Int32) (G : Nat → Nat → Int64) (a2 : Int) (l_a2 : (-2147483648) ≤ a2) (u_a2 : a2 ≤ 2147483647) (a3 : Int) (l_a3 : (-2147483648) ≤ a3) (u_a3 : a3 ≤ 2147483647) (a4 : Int) (l_a4 : 0 ≤ a4) (u_a4 : a4 ≤ 60000) (a5 : Int) (l_a5 : 0 ≤ a5) (u_a5 : a5 ≤ 60000) (hT : rT I B) (cn : Int) (gcn : I 33 = iI cn) (lcn : 0 ≤ cn) (ucn : cn ≤ 2000000) (q0 : a4 ≤ a5) (q1 : a5 - a4 ≤ 19000) : Met l y_M_seal (k_M_seal :: lw_tg) (mR 7 206) (va_Pc [.ref h, .ref (q 56), .int (iI a2), .int (iI a3), .int (iI a4), .int (iI a5)] (mPre D E h q (I, J, B, G) sz)) (va_Qv (rPv [8, 14, 18, 33, 36] [5, 6, 7, 9, 10, 11, 12, 13, 15, 16, 17, 19, 20, 21, 22, 23, 34, 35] I B (fun (u : mS) => (u.1 36 = iI (a5 - a4 + 28)) ∧ (u.1 33 = iI (cn + 16)))) (mPost D E h q (mA E h q sz)) (mA E h q sz)) 0 0 (mA E h q sz) := by
  refine m_enter (by decide) rfl (Nat.le_of_ble_eq_true rfl) (fun p e s m below meth c ls AV QQ H locs hQQ X Y hZ hA hr hlk hml hl => ?_)
  have Y : mH D E (mA E h q sz) s.heap h q I J B G H locs := Y
  have S : rS [8, 14, 18, 33, 36] [5, 6, 7, 9, 10, 11, 12, 13, 15, 16, 17, 19, 20, 21, 22, 23, 34, 35] I B I B := rS_rf hT
  have hl : lv_has ls 11 [(0, .ref h), (1, .ref ((q 56))), (2, .int (iI a2)), (3, .int (iI a3)), (4, .int (iI a4)), (5, .int (iI a5))] := hl
  refine lv_bipush (v := iI 16) X.1 X.2.1 d_M_seal_0 (by decide) ?_
  refine lv_iload X.1 X.2.1 d_M_seal_2 (lv_at hl 5 rfl) ?_
  refine z_iadd X.1 X.2.1 d_M_seal_4 ?_
  refine lv_iload X.1 X.2.1 d_M_seal_5 (lv_at hl 4 rfl) ?_
  refine z_isub X.1 X.2.1 d_M_seal_7 ?_
  refine lv_istore (lv' := [(6, .int (iI ((16 + a5) - a4))), (0, .ref h), (1, .ref ((q 56))), (2, .int (iI a2)), (3, .int (iI a3)), (4, .int (iI a4)), (5, .int (iI a5))]) X.1 X.2.1 d_M_seal_8 hl (by decide) rfl (fun ls hl => ?_)
  refine lv_iconst (v := iI 0) X.1 X.2.1 d_M_seal_10 (by decide) ?_
  have J105 : ∀ (n107 : Nat) (z102 : Int) (z103 : Int) (I101 : Nat → Int32) (J101 : Nat → Int64) (B101 : Nat → Nat → Int32) (G101 : Nat → Nat → Int64) (H : Heap) (locs : List Loc) (ls : Array Slot), (16 - z102).toNat = n107 → (0 ≤ z102) → (z102 ≤ 16) → (I101 33 = iI z103) → (0 ≤ z103) → (z103 ≤ 2000100) → (z103 = cn + (z102 - 0)) → mH D E (mA E h q sz) s.heap h q I101 J101 B101 G101 H locs → rS [8, 14, 18, 33, 36] [5, 6, 7, 9, 10, 11, 12, 13, 15, 16, 17, 19, 20, 21, 22, 23, 34, 35] I B I101 B101 → lv_has ls 11 [(0, .ref h), (1, .ref ((q 56))), (2, .int (iI a2)), (3, .int (iI a3)), (4, .int (iI a4)), (5, .int (iI a5)), (6, .int (iI ((16 + a5) - a4))), (7, .int (iI z102))] → W p l e (mR 7 206) s m AV below meth c H locs 0 0 QQ (F0 m 13 ls []) := by
    intro n107
    induction n107 using Nat.strongRecOn with
    | ind n107 ih106 =>
      intro z102 z103 I101 J101 B101 G101 H locs ls hm108 l102 u102 e103 l103 u103 i104 Y S hl
      refine lv_iload X.1 X.2.1 d_M_seal_13 (lv_at hl 7 rfl) ?_
      refine lv_bipush (v := iI 16) X.1 X.2.1 d_M_seal_15 (by decide) ?_
      refine z_icmp_ge (tgt := 38) X.1 X.2.1 d_M_seal_17 (by decide) ⟨by omega, by omega⟩ ⟨by omega, by omega⟩ (fun h109 => ?_) (fun h109 => ?_)
      · refine lv_iload X.1 X.2.1 d_M_seal_38 (lv_at hl 4 rfl) ?_
        have J114 : ∀ (n116 : Nat) (z111 : Int) (I110 : Nat → Int32) (J110 : Nat → Int64) (B110 : Nat → Nat → Int32) (G110 : Nat → Nat → Int64) (H : Heap) (locs : List Loc) (ls : Array Slot), (60000 - z111).toNat = n116 → (0 ≤ z111) → (z111 ≤ 60000) → (I110 33 = iI z103) → (a4 ≤ z111) → mH D E (mA E h q sz) s.heap h q I110 J110 B110 G110 H locs → rS [8, 14, 18, 33, 36] [5, 6, 7, 9, 10, 11, 12, 13, 15, 16, 17, 19, 20, 21, 22, 23, 34, 35] I B I110 B110 → lv_has ls 11 [(0, .ref h), (1, .ref ((q 56))), (2, .int (iI a2)), (3, .int (iI a3)), (4, .int (iI a4)), (5, .int (iI a5)), (6, .int (iI ((16 + a5) - a4))), (7, .int (iI z111))] → W p l e (mR 7 206) s m AV below meth c H locs 0 0 QQ (F0 m 42 ls []) := by
          intro n116
          induction n116 using Nat.strongRecOn with
          | ind n116 ih115 =>
            intro z111 I110 J110 B110 G110 H locs ls hm117 l111 u111 e112 i113 Y S hl
            refine lv_iload X.1 X.2.1 d_M_seal_42 (lv_at hl 7 rfl) ?_
            refine lv_iload X.1 X.2.1 d_M_seal_44 (lv_at hl 5 rfl) ?_
            refine z_icmp_ge (tgt := 75) X.1 X.2.1 d_M_seal_46 (by decide) ⟨by omega, by omega⟩ ⟨by omega, by omega⟩ (fun h118 => ?_) (fun h118 => ?_)
            · refine lv_aload_n X.1 X.2.1 d_M_seal_75 rfl (lv_at hl 0 rfl) ?_
              refine lv_aload_n X.1 X.2.1 d_M_seal_76 rfl (lv_at hl 1 rfl) ?_
              refine lv_iload_n X.1 X.2.1 d_M_seal_77 rfl (lv_at hl 2 rfl) ?_
              refine p_calli (As := [.int (iI a2)]) (rest := [.ref ((q 56)), .ref h]) (n := 1) X Y hml hl.1 (r_M_size l a2 (by omega) (by omega)) kl_M_size ks_M_size ki_M_size ini_M hd_M_size ⟨Nat.le_of_ble_eq_true rfl, Nat.le_of_ble_eq_true rfl⟩ rfl (Nat.le_of_ble_eq_true rfl) d_M_seal_78 ⟨Nat.le_refl _, Nat.le_refl _⟩ (fun r119 H locs p119 Y => ?_)
              obtain ⟨z119, e119, p119⟩ := p119
              subst e119
              obtain ⟨l119, u119, x119⟩ := p119
              refine lv_iload_n X.1 X.2.1 d_M_seal_81 rfl (lv_at hl 3 rfl) ?_
              refine lv_bipush (v := iI 85) X.1 X.2.1 d_M_seal_82 (by decide) ?_
              refine r_nv (m_run (As := [.ref ((q 56)), .int (iI z119), .int (iI a3), .int (iI 85)]) (rest := []) (n := 4) X Y hZ hA hml hl.1 (r_M_useKey_made l D E h q H.size I110 J110 B110 G110 z119 (by omega) (by omega) a3 (by omega) (by omega) 85 (by omega) (by omega) S.1) kl_M_useKey ks_M_useKey kx_M_useKey ki_M_useKey ini_M hd_M_useKey ⟨Nat.le_of_ble_eq_true rfl, Nat.le_of_ble_eq_true rfl⟩ rfl (Nat.le_of_ble_eq_true rfl) d_M_seal_84 ⟨Nat.le_refl _, Nat.le_refl _⟩) X Y hA S (by decide) (by decide) (fun u H locs Y S s120 p120 => ?_)
              obtain ⟨I120, J120, B120, G120⟩ := u
              dsimp only at Y S s120 p120
              refine lv_aload_n X.1 X.2.1 d_M_seal_87 rfl (lv_at hl 0 rfl) ?_
              refine lv_aload_n X.1 X.2.1 d_M_seal_88 rfl (lv_at hl 0 rfl) ?_
              refine m_get X Y 23 (by decide) lk_use (gf_use _ _ _) rfl d_M_seal_89 ?_
              refine lv_iload_n X.1 X.2.1 d_M_seal_92 rfl (lv_at hl 2 rfl) ?_
              refine p_calli (As := [.int (iI a2)]) (rest := [.ref ((q 23)), .ref h]) (n := 1) X Y hml hl.1 (r_M_size l a2 (by omega) (by omega)) kl_M_size ks_M_size ki_M_size ini_M hd_M_size ⟨Nat.le_of_ble_eq_true rfl, Nat.le_of_ble_eq_true rfl⟩ rfl (Nat.le_of_ble_eq_true rfl) d_M_seal_93 ⟨Nat.le_refl _, Nat.le_refl _⟩ (fun r121 H locs p121 Y => ?_)
              obtain ⟨z121, e121, p121⟩ := p121
              subst e121
              obtain ⟨l121, u121, x121⟩ := p121
              refine r_nv (m_run (As := [.ref ((q 23)), .int (iI z121)]) (rest := []) (n := 2) X Y hZ hA hml hl.1 (r_M_macKey_use l D E h q H.size I120 J120 B120 G120 z121 (by omega) (by omega) S.1) kl_M_macKey ks_M_macKey kx_M_macKey ki_M_macKey ini_M hd_M_macKey ⟨Nat.le_of_ble_eq_true rfl, Nat.le_of_ble_eq_true rfl⟩ rfl (Nat.le_of_ble_eq_true rfl) d_M_seal_96 ⟨Nat.le_refl _, Nat.le_refl _⟩) X Y hA S (by decide) (by decide) (fun u H locs Y S s122 p122 => ?_)
              obtain ⟨I122, J122, B122, G122⟩ := u
              dsimp only at Y S s122 p122
              refine lv_aload_n X.1 X.2.1 d_M_seal_99 rfl (lv_at hl 0 rfl) ?_
              refine r_nv (m_run (As := []) (rest := []) (n := 0) X Y hZ hA hml hl.1 (r_M_macBegin l D E h q H.size I122 J122 B122 G122 S.1) kl_M_macBegin ks_M_macBegin kx_M_macBegin ki_M_macBegin ini_M hd_M_macBegin ⟨Nat.le_of_ble_eq_true rfl, Nat.le_of_ble_eq_true rfl⟩ rfl (Nat.le_of_ble_eq_true rfl) d_M_seal_100 ⟨Nat.le_refl _, Nat.le_refl _⟩) X Y hA S (by decide) (by decide) (fun u H locs Y S s123 p123 => ?_)
              obtain ⟨I123, J123, B123, G123⟩ := u
              dsimp only at Y S s123 p123
              have x123 := p123
              refine lv_iconst (v := iI 0) X.1 X.2.1 d_M_seal_103 (by decide) ?_
              have J129 : ∀ (n131 : Nat) (z125 : Int) (z127 : Int) (I124 : Nat → Int32) (J124 : Nat → Int64) (B124 : Nat → Nat → Int32) (G124 : Nat → Nat → Int64) (H : Heap) (locs : List Loc) (ls : Array Slot), (60016 - z125).toNat = n131 → (0 ≤ z125) → (z125 ≤ 60016) → (I124 33 = iI z103) → (I124 8 = iI z127) → (0 ≤ z127) → (z127 ≤ 1000000) → (z127 = 64 + (z125 - 0)) → mH D E (mA E h q sz) s.heap h q I124 J124 B124 G124 H locs → rS [8, 14, 18, 33, 36] [5, 6, 7, 9, 10, 11, 12, 13, 15, 16, 17, 19, 20, 21, 22, 23, 34, 35] I B I124 B124 → lv_has ls 11 [(0, .ref h), (1, .ref ((q 56))), (2, .int (iI a2)), (3, .int (iI a3)), (6, .int (iI ((16 + a5) - a4))), (7, .int (iI z125))] → W p l e (mR 7 206) s m AV below meth c H locs 0 0 QQ (F0 m 106 ls []) := by
                intro n131
                induction n131 using Nat.strongRecOn with
                | ind n131 ih130 =>
                  intro z125 z127 I124 J124 B124 G124 H locs ls hm132 l125 u125 e126 e127 l127 u127 i128 Y S hl
                  refine lv_iload X.1 X.2.1 d_M_seal_106 (lv_at hl 5 rfl) ?_
                  refine lv_iload X.1 X.2.1 d_M_seal_108 (lv_at hl 4 rfl) ?_
                  refine z_icmp_ge (tgt := 130) X.1 X.2.1 d_M_seal_110 (by decide) ⟨by omega, by omega⟩ ⟨by omega, by omega⟩ (fun h133 => ?_) (fun h133 => ?_)
                  · refine lv_aload_n X.1 X.2.1 d_M_seal_130 rfl (lv_at hl 0 rfl) ?_
                    refine r_nv (m_run (As := []) (rest := []) (n := 0) X Y hZ hA hml hl.1 (r_M_macEnd l D E h q H.size I124 J124 B124 G124 S.1 z127 e127 (by omega) (by omega)) kl_M_macEnd ks_M_macEnd kx_M_macEnd ki_M_macEnd ini_M hd_M_macEnd ⟨Nat.le_of_ble_eq_true rfl, Nat.le_of_ble_eq_true rfl⟩ rfl (Nat.le_of_ble_eq_true rfl) d_M_seal_131 ⟨Nat.le_refl _, Nat.le_refl _⟩) X Y hA S (by decide) (by decide) (fun u H locs Y S s134 p134 => ?_)
                    obtain ⟨I134, J134, B134, G134⟩ := u
                    dsimp only at Y S s134 p134
                    refine lv_iconst (v := iI 0) X.1 X.2.1 d_M_seal_134 (by decide) ?_
                    have J138 : ∀ (n140 : Nat) (z136 : Int) (I135 : Nat → Int32) (J135 : Nat → Int64) (B135 : Nat → Nat → Int32) (G135 : Nat → Nat → Int64) (H : Heap) (locs : List Loc) (ls : Array Slot), (12 - z136).toNat = n140 → (0 ≤ z136) → (z136 ≤ 12) → (I135 33 = iI z103) → mH D E (mA E h q sz) s.heap h q I135 J135 B135 G135 H locs → rS [8, 14, 18, 33, 36] [5, 6, 7, 9, 10, 11, 12, 13, 15, 16, 17, 19, 20, 21, 22, 23, 34, 35] I B I135 B135 → lv_has ls 11 [(0, .ref h), (1, .ref ((q 56))), (2, .int (iI a2)), (3, .int (iI a3)), (6, .int (iI ((16 + a5) - a4))), (7, .int (iI z136))] → W p l e (mR 7 206) s m AV below meth c H locs 0 0 QQ (F0 m 137 ls []) := by
                      intro n140
                      induction n140 using Nat.strongRecOn with
                      | ind n140 ih139 =>
                        intro z136 I135 J135 B135 G135 H locs ls hm141 l136 u136 e137 Y S hl
                        refine lv_iload X.1 X.2.1 d_M_seal_137 (lv_at hl 5 rfl) ?_
                        refine lv_bipush (v := iI 12) X.1 X.2.1 d_M_seal_139 (by decide) ?_
                        refine z_icmp_ge (tgt := 167) X.1 X.2.1 d_M_seal_141 (by decide) ⟨by omega, by omega⟩ ⟨by omega, by omega⟩ (fun h142 => ?_) (fun h142 => ?_)
                        · refine lv_aload_n X.1 X.2.1 d_M_seal_167 rfl (lv_at hl 0 rfl) ?_
                          refine lv_aload_n X.1 X.2.1 d_M_seal_168 rfl (lv_at hl 1 rfl) ?_
                          refine lv_iload_n X.1 X.2.1 d_M_seal_169 rfl (lv_at hl 2 rfl) ?_
                          refine p_calli (As := [.int (iI a2)]) (rest := [.ref ((q 56)), .ref h]) (n := 1) X Y hml hl.1 (r_M_size l a2 (by omega) (by omega)) kl_M_size ks_M_size ki_M_size ini_M hd_M_size ⟨Nat.le_of_ble_eq_true rfl, Nat.le_of_ble_eq_true rfl⟩ rfl (Nat.le_of_ble_eq_true rfl) d_M_seal_170 ⟨Nat.le_refl _, Nat.le_refl _⟩ (fun r143 H locs p143 Y => ?_)
                          obtain ⟨z143, e143, p143⟩ := p143
                          subst e143
                          obtain ⟨l143, u143, x143⟩ := p143
                          refine lv_iload_n X.1 X.2.1 d_M_seal_173 rfl (lv_at hl 3 rfl) ?_
                          refine lv_sipush (v := iI 170) X.1 X.2.1 d_M_seal_174 (by decide) ?_
                          refine r_nv (m_run (As := [.ref ((q 56)), .int (iI z143), .int (iI a3), .int (iI 170)]) (rest := []) (n := 4) X Y hZ hA hml hl.1 (r_M_useKey_made l D E h q H.size I135 J135 B135 G135 z143 (by omega) (by omega) a3 (by omega) (by omega) 170 (by omega) (by omega) S.1) kl_M_useKey ks_M_useKey kx_M_useKey ki_M_useKey ini_M hd_M_useKey ⟨Nat.le_of_ble_eq_true rfl, Nat.le_of_ble_eq_true rfl⟩ rfl (Nat.le_of_ble_eq_true rfl) d_M_seal_177 ⟨Nat.le_refl _, Nat.le_refl _⟩) X Y hA S (by decide) (by decide) (fun u H locs Y S s144 p144 => ?_)
                          obtain ⟨I144, J144, B144, G144⟩ := u
                          dsimp only at Y S s144 p144
                          refine lv_aload_n X.1 X.2.1 d_M_seal_180 rfl (lv_at hl 0 rfl) ?_
                          refine lv_aload_n X.1 X.2.1 d_M_seal_181 rfl (lv_at hl 0 rfl) ?_
                          refine m_get X Y 23 (by decide) lk_use (gf_use _ _ _) rfl d_M_seal_182 ?_
                          refine lv_iload_n X.1 X.2.1 d_M_seal_185 rfl (lv_at hl 2 rfl) ?_
                          refine p_calli (As := [.int (iI a2)]) (rest := [.ref ((q 23)), .ref h]) (n := 1) X Y hml hl.1 (r_M_size l a2 (by omega) (by omega)) kl_M_size ks_M_size ki_M_size ini_M hd_M_size ⟨Nat.le_of_ble_eq_true rfl, Nat.le_of_ble_eq_true rfl⟩ rfl (Nat.le_of_ble_eq_true rfl) d_M_seal_186 ⟨Nat.le_refl _, Nat.le_refl _⟩ (fun r145 H locs p145 Y => ?_)
                          obtain ⟨z145, e145, p145⟩ := p145
                          subst e145
                          obtain ⟨l145, u145, x145⟩ := p145
                          refine r_nv (m_run (As := [.ref ((q 23)), .int (iI z145)]) (rest := []) (n := 2) X Y hZ hA hml hl.1 (r_M_aesKey_use l D E h q H.size I144 J144 B144 G144 z145 (by omega) (by omega) S.1) kl_M_aesKey ks_M_aesKey kx_M_aesKey ki_M_aesKey ini_M hd_M_aesKey ⟨Nat.le_of_ble_eq_true rfl, Nat.le_of_ble_eq_true rfl⟩ rfl (Nat.le_of_ble_eq_true rfl) d_M_seal_189 ⟨Nat.le_refl _, Nat.le_refl _⟩) X Y hA S (by decide) (by decide) (fun u H locs Y S s146 p146 => ?_)
                          obtain ⟨I146, J146, B146, G146⟩ := u
                          dsimp only at Y S s146 p146
                          refine lv_iload X.1 X.2.1 d_M_seal_192 (lv_at hl 4 rfl) ?_
                          refine lv_bipush (v := iI 15) X.1 X.2.1 d_M_seal_194 (by decide) ?_
                          refine z_iadd X.1 X.2.1 d_M_seal_196 ?_
                          refine lv_bipush (v := iI 16) X.1 X.2.1 d_M_seal_197 (by decide) ?_
                          refine z_idivg X.1 X.2.1 ⟨by omega, by omega⟩ ⟨by decide, by decide⟩ d_M_seal_199 (fun z147 l147 u147 x147 y147 => ?_)
                          refine lv_istore (lv' := [(7, .int (iI z147)), (0, .ref h), (1, .ref ((q 56))), (2, .int (iI a2)), (3, .int (iI a3)), (6, .int (iI ((16 + a5) - a4)))]) X.1 X.2.1 d_M_seal_200 hl (by decide) rfl (fun ls hl => ?_)
                          refine lv_iconst (v := iI 0) X.1 X.2.1 d_M_seal_202 (by decide) ?_
                          have J151 : ∀ (n153 : Nat) (z149 : Int) (I148 : Nat → Int32) (J148 : Nat → Int64) (B148 : Nat → Nat → Int32) (G148 : Nat → Nat → Int64) (H : Heap) (locs : List Loc) (ls : Array Slot), (16 - z149).toNat = n153 → (0 ≤ z149) → (z149 ≤ 16) → (I148 33 = iI z103) → mH D E (mA E h q sz) s.heap h q I148 J148 B148 G148 H locs → rS [8, 14, 18, 33, 36] [5, 6, 7, 9, 10, 11, 12, 13, 15, 16, 17, 19, 20, 21, 22, 23, 34, 35] I B I148 B148 → lv_has ls 11 [(0, .ref h), (6, .int (iI ((16 + a5) - a4))), (7, .int (iI z147)), (8, .int (iI z149))] → W p l e (mR 7 206) s m AV below meth c H locs 0 0 QQ (F0 m 205 ls []) := by
                            intro n153
                            induction n153 using Nat.strongRecOn with
                            | ind n153 ih152 =>
                              intro z149 I148 J148 B148 G148 H locs ls hm154 l149 u149 e150 Y S hl
                              refine lv_iload X.1 X.2.1 d_M_seal_205 (lv_at hl 3 rfl) ?_
                              refine lv_bipush (v := iI 16) X.1 X.2.1 d_M_seal_207 (by decide) ?_
                              refine z_icmp_ge (tgt := 226) X.1 X.2.1 d_M_seal_209 (by decide) ⟨by omega, by omega⟩ ⟨by omega, by omega⟩ (fun h155 => ?_) (fun h155 => ?_)
                              · refine lv_iconst (v := iI 0) X.1 X.2.1 d_M_seal_226 (by decide) ?_
                                have J159 : ∀ (n161 : Nat) (z157 : Int) (I156 : Nat → Int32) (J156 : Nat → Int64) (B156 : Nat → Nat → Int32) (G156 : Nat → Nat → Int64) (H : Heap) (locs : List Loc) (ls : Array Slot), (3751 - z157).toNat = n161 → (0 ≤ z157) → (z157 ≤ 3751) → (I156 33 = iI z103) → mH D E (mA E h q sz) s.heap h q I156 J156 B156 G156 H locs → rS [8, 14, 18, 33, 36] [5, 6, 7, 9, 10, 11, 12, 13, 15, 16, 17, 19, 20, 21, 22, 23, 34, 35] I B I156 B156 → lv_has ls 11 [(0, .ref h), (6, .int (iI ((16 + a5) - a4))), (7, .int (iI z147)), (8, .int (iI z157))] → W p l e (mR 7 206) s m AV below meth c H locs 0 0 QQ (F0 m 229 ls []) := by
                                  intro n161
                                  induction n161 using Nat.strongRecOn with
                                  | ind n161 ih160 =>
                                    intro z157 I156 J156 B156 G156 H locs ls hm162 l157 u157 e158 Y S hl
                                    refine lv_iload X.1 X.2.1 d_M_seal_229 (lv_at hl 3 rfl) ?_
                                    refine lv_iload X.1 X.2.1 d_M_seal_231 (lv_at hl 2 rfl) ?_
                                    refine z_icmp_ge (tgt := 403) X.1 X.2.1 d_M_seal_233 (by decide) ⟨by omega, by omega⟩ ⟨by omega, by omega⟩ (fun h163 => ?_) (fun h163 => ?_)
                                    · refine lv_aload_n X.1 X.2.1 d_M_seal_403 rfl (lv_at hl 0 rfl) ?_
                                      refine lv_iload X.1 X.2.1 d_M_seal_404 (lv_at hl 1 rfl) ?_
                                      refine lv_bipush (v := iI 12) X.1 X.2.1 d_M_seal_406 (by decide) ?_
                                      refine z_iadd X.1 X.2.1 d_M_seal_408 ?_
                                      refine r_puti (k := 36) X Y S (by decide) lk_secretMany rfl rfl (t_M_ok 36 (by decide)) rfl rfl (sf_secretMany _ _ _ _) (Nat.le_of_ble_eq_true rfl) rfl (show (0 : Int) ≤ ((16 + a5) - a4) + 12 by omega) (show ((16 + a5) - a4) + 12 ≤ (20000 : Int) by omega) ⟨by omega, by omega⟩ (by decide) d_M_seal_409 (fun I164 H locs Y S w164 => ?_)
                                      exact m_retv hQQ X Y hr hlk ⟨S, ⟨((w164.1).trans (congrArg iI (show (((16 + a5) - a4) + 12 : Int) = a5 - a4 + 28 by omega))), ((((w164.2 33 (by decide)).trans e158)).trans (congrArg iI (show (z103 : Int) = cn + 16 by omega)))⟩⟩ d_M_seal_412
                                    · refine lv_iconst (v := iI 0) X.1 X.2.1 d_M_seal_236 (by decide) ?_
                                      have J168 : ∀ (n170 : Nat) (z166 : Int) (I165 : Nat → Int32) (J165 : Nat → Int64) (B165 : Nat → Nat → Int32) (G165 : Nat → Nat → Int64) (H : Heap) (locs : List Loc) (ls : Array Slot), (16 - z166).toNat = n170 → (0 ≤ z166) → (z166 ≤ 16) → (I165 33 = iI z103) → mH D E (mA E h q sz) s.heap h q I165 J165 B165 G165 H locs → rS [8, 14, 18, 33, 36] [5, 6, 7, 9, 10, 11, 12, 13, 15, 16, 17, 19, 20, 21, 22, 23, 34, 35] I B I165 B165 → lv_has ls 11 [(0, .ref h), (6, .int (iI ((16 + a5) - a4))), (7, .int (iI z147)), (8, .int (iI z157)), (9, .int (iI z166))] → W p l e (mR 7 206) s m AV below meth c H locs 0 0 QQ (F0 m 239 ls []) := by
                                        intro n170
                                        induction n170 using Nat.strongRecOn with
                                        | ind n170 ih169 =>
                                          intro z166 I165 J165 B165 G165 H locs ls hm171 l166 u166 e167 Y S hl
                                          refine lv_iload X.1 X.2.1 d_M_seal_239 (lv_at hl 4 rfl) ?_
                                          refine lv_bipush (v := iI 16) X.1 X.2.1 d_M_seal_241 (by decide) ?_
                                          refine z_icmp_ge (tgt := 292) X.1 X.2.1 d_M_seal_243 (by decide) ⟨by omega, by omega⟩ ⟨by omega, by omega⟩ (fun h172 => ?_) (fun h172 => ?_)
                                          · refine lv_aload_n X.1 X.2.1 d_M_seal_292 rfl (lv_at hl 0 rfl) ?_
                                            refine r_nv (m_run (As := []) (rest := []) (n := 0) X Y hZ hA hml hl.1 (r_M_cover l D E h q H.size I165 J165 B165 G165 S.1) kl_M_cover ks_M_cover kx_M_cover ki_M_cover ini_M hd_M_cover ⟨Nat.le_of_ble_eq_true rfl, Nat.le_of_ble_eq_true rfl⟩ rfl (Nat.le_of_ble_eq_true rfl) d_M_seal_293 ⟨Nat.le_refl _, Nat.le_refl _⟩) X Y hA S (by decide) (by decide) (fun u H locs Y S s173 p173 => ?_)
                                            obtain ⟨I173, J173, B173, G173⟩ := u
                                            dsimp only at Y S s173 p173
                                            refine lv_iload X.1 X.2.1 d_M_seal_296 (lv_at hl 2 rfl) ?_
                                            refine lv_iconst (v := iI 1) X.1 X.2.1 d_M_seal_298 (by decide) ?_
                                            have J175 : ∀ (z174 : Int) (H : Heap) (locs : List Loc) (ls : Array Slot), (0 ≤ z174) → (z174 ≤ 60000) → mH D E (mA E h q sz) s.heap h q I173 J173 B173 G173 H locs → rS [8, 14, 18, 33, 36] [5, 6, 7, 9, 10, 11, 12, 13, 15, 16, 17, 19, 20, 21, 22, 23, 34, 35] I B I173 B173 → lv_has ls 11 [(0, .ref h), (6, .int (iI ((16 + a5) - a4))), (7, .int (iI z147)), (8, .int (iI z157))] → W p l e (mR 7 206) s m AV below meth c H locs 0 0 QQ (F0 m 351 ls [.int (iI z174)]) := by
                                              intro z174 H locs ls l174 u174 Y S hl
                                              refine lv_istore (lv' := [(9, .int (iI z174)), (0, .ref h), (6, .int (iI ((16 + a5) - a4))), (7, .int (iI z147)), (8, .int (iI z157))]) X.1 X.2.1 d_M_seal_351 hl (by decide) rfl (fun ls hl => ?_)
                                              refine lv_iconst (v := iI 0) X.1 X.2.1 d_M_seal_353 (by decide) ?_
                                              have J182 : ∀ (n184 : Nat) (z180 : Int) (I179 : Nat → Int32) (J179 : Nat → Int64) (B179 : Nat → Nat → Int32) (G179 : Nat → Nat → Int64) (H : Heap) (locs : List Loc) (ls : Array Slot), (16 - z180).toNat = n184 → (0 ≤ z180) → (z180 ≤ 16) → (I179 33 = iI z103) → mH D E (mA E h q sz) s.heap h q I179 J179 B179 G179 H locs → rS [8, 14, 18, 33, 36] [5, 6, 7, 9, 10, 11, 12, 13, 15, 16, 17, 19, 20, 21, 22, 23, 34, 35] I B I179 B179 → lv_has ls 11 [(0, .ref h), (6, .int (iI ((16 + a5) - a4))), (7, .int (iI z147)), (8, .int (iI z157)), (9, .int (iI z174)), (10, .int (iI z180))] → W p l e (mR 7 206) s m AV below meth c H locs 0 0 QQ (F0 m 356 ls []) := by
                                                intro n184
                                                induction n184 using Nat.strongRecOn with
                                                | ind n184 ih183 =>
                                                  intro z180 I179 J179 B179 G179 H locs ls hm185 l180 u180 e181 Y S hl
                                                  refine lv_iload X.1 X.2.1 d_M_seal_356 (lv_at hl 5 rfl) ?_
                                                  refine lv_bipush (v := iI 16) X.1 X.2.1 d_M_seal_358 (by decide) ?_
                                                  refine z_icmp_ge (tgt := 397) X.1 X.2.1 d_M_seal_360 (by decide) ⟨by omega, by omega⟩ ⟨by omega, by omega⟩ (fun h186 => ?_) (fun h186 => ?_)
                                                  · refine lv_iinc (v := iI (z157 + 1)) (lv' := [(8, .int (iI (z157 + 1))), (0, .ref h), (6, .int (iI ((16 + a5) - a4))), (7, .int (iI z147)), (9, .int (iI z174)), (10, .int (iI z180))]) X.1 X.2.1 d_M_seal_397 hl (k := 3) rfl ((iI_add _ _).trans (congrArg iI (by omega))) (by decide) rfl (fun ls hl => ?_)
                                                    refine lv_goto (tgt := 229) X.1 X.2.1 d_M_seal_400 (by decide) ?_
                                                    exact ih160 ((3751 - (z157 + 1)).toNat) (by omega) (z157 + 1) I179 J179 B179 G179 _ _ _ rfl (by omega) (by omega) e181 Y S (lv_sub hl [1, 2, 3, 0] rfl)
                                                  · refine lv_iload X.1 X.2.1 d_M_seal_363 (lv_at hl 4 rfl) ?_
                                                    refine lv_iload X.1 X.2.1 d_M_seal_365 (lv_at hl 5 rfl) ?_
                                                    refine z_iadd X.1 X.2.1 d_M_seal_367 ?_
                                                    refine lv_iload X.1 X.2.1 d_M_seal_368 (lv_at hl 1 rfl) ?_
                                                    have J189 : ∀ (I187 : Nat → Int32) (J187 : Nat → Int64) (B187 : Nat → Nat → Int32) (G187 : Nat → Nat → Int64) (H : Heap) (locs : List Loc) (ls : Array Slot), (I187 33 = iI z103) → mH D E (mA E h q sz) s.heap h q I187 J187 B187 G187 H locs → rS [8, 14, 18, 33, 36] [5, 6, 7, 9, 10, 11, 12, 13, 15, 16, 17, 19, 20, 21, 22, 23, 34, 35] I B I187 B187 → lv_has ls 11 [(0, .ref h), (6, .int (iI ((16 + a5) - a4))), (7, .int (iI z147)), (8, .int (iI z157)), (9, .int (iI z174)), (10, .int (iI z180))] → W p l e (mR 7 206) s m AV below meth c H locs 0 0 QQ (F0 m 391 ls []) := by
                                                      intro I187 J187 B187 G187 H locs ls e188 Y S hl
                                                      refine lv_iinc (v := iI (z180 + 1)) (lv' := [(10, .int (iI (z180 + 1))), (0, .ref h), (6, .int (iI ((16 + a5) - a4))), (7, .int (iI z147)), (8, .int (iI z157)), (9, .int (iI z174))]) X.1 X.2.1 d_M_seal_391 hl (k := 5) rfl ((iI_add _ _).trans (congrArg iI (by omega))) (by decide) rfl (fun ls hl => ?_)
                                                      refine lv_goto (tgt := 356) X.1 X.2.1 d_M_seal_394 (by decide) ?_
                                                      exact ih183 ((16 - (z180 + 1)).toNat) (by omega) (z180 + 1) I187 J187 B187 G187 _ _ _ rfl (by omega) (by omega) e188 Y S (lv_sub hl [1, 2, 3, 4, 5, 0] rfl)
                                                    refine z_icmp_ge (tgt := 391) X.1 X.2.1 d_M_seal_370 (by decide) ⟨by omega, by omega⟩ ⟨by omega, by omega⟩ (fun h193 => ?_) (fun h193 => ?_)
                                                    · exact J189 I179 J179 B179 G179 _ _ _ e181 Y S (lv_sub hl [0, 1, 2, 3, 4, 5] rfl)
                                                    · refine lv_aload_n X.1 X.2.1 d_M_seal_373 rfl (lv_at hl 0 rfl) ?_
                                                      refine m_get X Y 35 (by decide) lk_secret (gf_secret _ _ _) rfl d_M_seal_374 ?_
                                                      refine lv_iload X.1 X.2.1 d_M_seal_377 (lv_at hl 4 rfl) ?_
                                                      refine lv_iload X.1 X.2.1 d_M_seal_379 (lv_at hl 5 rfl) ?_
                                                      refine z_iadd X.1 X.2.1 d_M_seal_381 ?_
                                                      refine lv_aload_n X.1 X.2.1 d_M_seal_382 rfl (lv_at hl 0 rfl) ?_
                                                      refine m_get X Y 16 (by decide) lk_state (gf_state _ _ _) rfl d_M_seal_383 ?_
                                                      refine lv_iload X.1 X.2.1 d_M_seal_386 (lv_at hl 5 rfl) ?_
                                                      refine r_iald X Y S (aw_state _ _ _ _ _ _ _) rfl (by omega) (show z180 < ((16 : Nat) : Int) by omega) (by omega) d_M_seal_388 (fun z194 q194 l194 u194 => ?_)
                                                      refine lv_i2b X.1 X.2.1 d_M_seal_389 rfl ?_
                                                      refine t_u (fun z195 l195 u195 => ?_)
                                                      refine r_bast X Y S (aw_secret _ _ _ _ _ _ _) (sw_secret _ _ _ _ _ _ _) rfl (by omega) (show z174 + z180 < ((20000 : Nat) : Int) by omega) (by omega) (by decide) d_M_seal_390 (fun B196 H locs Y S w196 => ?_)
                                                      exact J189 I179 J179 B196 G179 _ _ _ e181 Y S (lv_sub hl [0, 1, 2, 3, 4, 5] rfl)
                                              refine lv_istore (lv' := [(10, .int (iI 0)), (9, .int (iI z174)), (0, .ref h), (6, .int (iI ((16 + a5) - a4))), (7, .int (iI z147)), (8, .int (iI z157))]) X.1 X.2.1 d_M_seal_354 hl (by decide) rfl (fun ls hl => ?_)
                                              exact J182 _ 0 I173 J173 B173 G173 _ _ _ rfl (by omega) (by omega) ((s173.2.1 33 (by decide)).trans e167) Y S (lv_sub hl [2, 3, 4, 5, 1, 0] rfl)
                                            have J197 : ∀  (H : Heap) (locs : List Loc) (ls : Array Slot), mH D E (mA E h q sz) s.heap h q I173 J173 B173 G173 H locs → rS [8, 14, 18, 33, 36] [5, 6, 7, 9, 10, 11, 12, 13, 15, 16, 17, 19, 20, 21, 22, 23, 34, 35] I B I173 B173 → lv_has ls 11 [(0, .ref h), (6, .int (iI ((16 + a5) - a4))), (7, .int (iI z147)), (8, .int (iI z157))] → W p l e (mR 7 206) s m AV below meth c H locs 0 0 QQ (F0 m 321 ls []) := by
                                              intro  H locs ls  Y S hl
                                              refine lv_iload X.1 X.2.1 d_M_seal_321 (lv_at hl 2 rfl) ?_
                                              refine lv_iconst (v := iI 1) X.1 X.2.1 d_M_seal_323 (by decide) ?_
                                              have J201 : ∀  (H : Heap) (locs : List Loc) (ls : Array Slot), mH D E (mA E h q sz) s.heap h q I173 J173 B173 G173 H locs → rS [8, 14, 18, 33, 36] [5, 6, 7, 9, 10, 11, 12, 13, 15, 16, 17, 19, 20, 21, 22, 23, 34, 35] I B I173 B173 → lv_has ls 11 [(0, .ref h), (6, .int (iI ((16 + a5) - a4))), (7, .int (iI z147)), (8, .int (iI z157))] → W p l e (mR 7 206) s m AV below meth c H locs 0 0 QQ (F0 m 346 ls []) := by
                                                intro  H locs ls  Y S hl
                                                refine lv_bipush (v := iI 16) X.1 X.2.1 d_M_seal_346 (by decide) ?_
                                                refine lv_iload X.1 X.2.1 d_M_seal_348 (lv_at hl 3 rfl) ?_
                                                refine z_imul X.1 X.2.1 d_M_seal_350 ?_
                                                exact J175 (16 * z157) _ _ _ (by omega) (by omega) Y S (lv_sub hl [0, 1, 2, 3] rfl)
                                              refine z_icmp_le (tgt := 346) X.1 X.2.1 d_M_seal_324 (by decide) ⟨by omega, by omega⟩ ⟨by omega, by omega⟩ (fun h205 => ?_) (fun h205 => ?_)
                                              · exact J201  _ _ _  Y S (lv_sub hl [0, 1, 2, 3] rfl)
                                              · refine lv_iload X.1 X.2.1 d_M_seal_327 (lv_at hl 3 rfl) ?_
                                                refine lv_iload X.1 X.2.1 d_M_seal_329 (lv_at hl 2 rfl) ?_
                                                refine lv_iconst (v := iI 2) X.1 X.2.1 d_M_seal_331 (by decide) ?_
                                                refine z_isub X.1 X.2.1 d_M_seal_332 ?_
                                                refine z_icmp_ne (tgt := 346) X.1 X.2.1 d_M_seal_333 (by decide) ⟨by omega, by omega⟩ ⟨by omega, by omega⟩ (fun h206 => ?_) (fun h206 => ?_)
                                                · exact J201  _ _ _  Y S (lv_sub hl [0, 1, 2, 3] rfl)
                                                · refine lv_bipush (v := iI 16) X.1 X.2.1 d_M_seal_336 (by decide) ?_
                                                  refine lv_iload X.1 X.2.1 d_M_seal_338 (lv_at hl 3 rfl) ?_
                                                  refine lv_iconst (v := iI 1) X.1 X.2.1 d_M_seal_340 (by decide) ?_
                                                  refine z_iadd X.1 X.2.1 d_M_seal_341 ?_
                                                  refine z_imul X.1 X.2.1 d_M_seal_342 ?_
                                                  refine lv_goto (tgt := 351) X.1 X.2.1 d_M_seal_343 (by decide) ?_
                                                  exact J175 (16 * (z157 + 1)) _ _ _ (by omega) (by omega) Y S (lv_sub hl [0, 1, 2, 3] rfl)
                                            refine z_icmp_le (tgt := 321) X.1 X.2.1 d_M_seal_299 (by decide) ⟨by omega, by omega⟩ ⟨by omega, by omega⟩ (fun h207 => ?_) (fun h207 => ?_)
                                            · exact J197  _ _ _  Y S (lv_sub hl [0, 1, 2, 3] rfl)
                                            · refine lv_iload X.1 X.2.1 d_M_seal_302 (lv_at hl 3 rfl) ?_
                                              refine lv_iload X.1 X.2.1 d_M_seal_304 (lv_at hl 2 rfl) ?_
                                              refine lv_iconst (v := iI 1) X.1 X.2.1 d_M_seal_306 (by decide) ?_
                                              refine z_isub X.1 X.2.1 d_M_seal_307 ?_
                                              refine z_icmp_ne (tgt := 321) X.1 X.2.1 d_M_seal_308 (by decide) ⟨by omega, by omega⟩ ⟨by omega, by omega⟩ (fun h208 => ?_) (fun h208 => ?_)
                                              · exact J197  _ _ _  Y S (lv_sub hl [0, 1, 2, 3] rfl)
                                              · refine lv_bipush (v := iI 16) X.1 X.2.1 d_M_seal_311 (by decide) ?_
                                                refine lv_iload X.1 X.2.1 d_M_seal_313 (lv_at hl 3 rfl) ?_
                                                refine lv_iconst (v := iI 1) X.1 X.2.1 d_M_seal_315 (by decide) ?_
                                                refine z_isub X.1 X.2.1 d_M_seal_316 ?_
                                                refine z_imul X.1 X.2.1 d_M_seal_317 ?_
                                                refine lv_goto (tgt := 351) X.1 X.2.1 d_M_seal_318 (by decide) ?_
                                                exact J175 (16 * (z157 - 1)) _ _ _ (by omega) (by omega) Y S (lv_sub hl [0, 1, 2, 3] rfl)
                                          · refine lv_bipush (v := iI 16) X.1 X.2.1 d_M_seal_246 (by decide) ?_
                                            refine lv_iload X.1 X.2.1 d_M_seal_248 (lv_at hl 3 rfl) ?_
                                            refine z_imul X.1 X.2.1 d_M_seal_250 ?_
                                            refine lv_iload X.1 X.2.1 d_M_seal_251 (lv_at hl 4 rfl) ?_
                                            refine z_iadd X.1 X.2.1 d_M_seal_253 ?_
                                            refine lv_iload X.1 X.2.1 d_M_seal_254 (lv_at hl 1 rfl) ?_
                                            have J211 : ∀ (I209 : Nat → Int32) (J209 : Nat → Int64) (B209 : Nat → Nat → Int32) (G209 : Nat → Nat → Int64) (H : Heap) (locs : List Loc) (ls : Array Slot), (I209 33 = iI z103) → mH D E (mA E h q sz) s.heap h q I209 J209 B209 G209 H locs → rS [8, 14, 18, 33, 36] [5, 6, 7, 9, 10, 11, 12, 13, 15, 16, 17, 19, 20, 21, 22, 23, 34, 35] I B I209 B209 → lv_has ls 11 [(0, .ref h), (6, .int (iI ((16 + a5) - a4))), (7, .int (iI z147)), (8, .int (iI z157)), (9, .int (iI z166))] → W p l e (mR 7 206) s m AV below meth c H locs 0 0 QQ (F0 m 286 ls []) := by
                                              intro I209 J209 B209 G209 H locs ls e210 Y S hl
                                              refine lv_iinc (v := iI (z166 + 1)) (lv' := [(9, .int (iI (z166 + 1))), (0, .ref h), (6, .int (iI ((16 + a5) - a4))), (7, .int (iI z147)), (8, .int (iI z157))]) X.1 X.2.1 d_M_seal_286 hl (k := 4) rfl ((iI_add _ _).trans (congrArg iI (by omega))) (by decide) rfl (fun ls hl => ?_)
                                              refine lv_goto (tgt := 239) X.1 X.2.1 d_M_seal_289 (by decide) ?_
                                              exact ih169 ((16 - (z166 + 1)).toNat) (by omega) (z166 + 1) I209 J209 B209 G209 _ _ _ rfl (by omega) (by omega) e210 Y S (lv_sub hl [1, 2, 3, 4, 0] rfl)
                                            refine z_icmp_ge (tgt := 286) X.1 X.2.1 d_M_seal_256 (by decide) ⟨by omega, by omega⟩ ⟨by omega, by omega⟩ (fun h215 => ?_) (fun h215 => ?_)
                                            · exact J211 I165 J165 B165 G165 _ _ _ e167 Y S (lv_sub hl [0, 1, 2, 3, 4] rfl)
                                            · refine lv_aload_n X.1 X.2.1 d_M_seal_259 rfl (lv_at hl 0 rfl) ?_
                                              refine m_get X Y 16 (by decide) lk_state (gf_state _ _ _) rfl d_M_seal_260 ?_
                                              refine lv_iload X.1 X.2.1 d_M_seal_263 (lv_at hl 4 rfl) ?_
                                              refine lv_dup2_11 X.1 X.2.1 d_M_seal_265 rfl rfl ?_
                                              refine r_iald X Y S (aw_state _ _ _ _ _ _ _) rfl (by omega) (show z166 < ((16 : Nat) : Int) by omega) (by omega) d_M_seal_266 (fun z216 q216 l216 u216 => ?_)
                                              refine lv_aload_n X.1 X.2.1 d_M_seal_267 rfl (lv_at hl 0 rfl) ?_
                                              refine m_get X Y 34 (by decide) lk_text (gf_text _ _ _) rfl d_M_seal_268 ?_
                                              refine lv_bipush (v := iI 16) X.1 X.2.1 d_M_seal_271 (by decide) ?_
                                              refine lv_iload X.1 X.2.1 d_M_seal_273 (lv_at hl 3 rfl) ?_
                                              refine z_imul X.1 X.2.1 d_M_seal_275 ?_
                                              refine lv_iload X.1 X.2.1 d_M_seal_276 (lv_at hl 4 rfl) ?_
                                              refine z_iadd X.1 X.2.1 d_M_seal_278 ?_
                                              refine r_bald X Y S (aw_text _ _ _ _ _ _ _) rfl (by omega) (show (16 * z157) + z166 < ((20000 : Nat) : Int) by omega) (by omega) d_M_seal_279 (fun z217 q217 l217 u217 => ?_)
                                              refine lv_sipush (v := iI 255) X.1 X.2.1 d_M_seal_280 (by decide) ?_
                                              refine z_iand X.1 X.2.1 (by omega) (by omega) d_M_seal_283 (fun z218 l218 u218 => ?_)
                                              refine z_ixor X.1 X.2.1 ⟨by omega, by omega⟩ ⟨by omega, by omega⟩ d_M_seal_284 (fun z219 l219 u219 => ?_)
                                              refine r_iast X Y S (aw_state _ _ _ _ _ _ _) (sw_state _ _ _ _ _ _ _) rfl ⟨(show (0 : Int) ≤ z219 by omega), (show z219 ≤ (255 : Int) by omega)⟩ ⟨by omega, by omega⟩ (by omega) (show z166 < ((16 : Nat) : Int) by omega) (by omega) (by decide) d_M_seal_285 (fun B220 H locs Y S w220 => ?_)
                                              exact J211 I165 J165 B220 G165 _ _ _ e167 Y S (lv_sub hl [0, 1, 2, 3, 4] rfl)
                                      refine lv_istore (lv' := [(9, .int (iI 0)), (0, .ref h), (6, .int (iI ((16 + a5) - a4))), (7, .int (iI z147)), (8, .int (iI z157))]) X.1 X.2.1 d_M_seal_237 hl (by decide) rfl (fun ls hl => ?_)
                                      exact J168 _ 0 I156 J156 B156 G156 _ _ _ rfl (by omega) (by omega) e158 Y S (lv_sub hl [1, 2, 3, 4, 0] rfl)
                                refine lv_istore (lv' := [(8, .int (iI 0)), (0, .ref h), (6, .int (iI ((16 + a5) - a4))), (7, .int (iI z147))]) X.1 X.2.1 d_M_seal_227 hl (by decide) rfl (fun ls hl => ?_)
                                exact J159 _ 0 I148 J148 B148 G148 _ _ _ rfl (by omega) (by omega) e150 Y S (lv_sub hl [1, 2, 3, 0] rfl)
                              · refine lv_aload_n X.1 X.2.1 d_M_seal_212 rfl (lv_at hl 0 rfl) ?_
                                refine m_get X Y 16 (by decide) lk_state (gf_state _ _ _) rfl d_M_seal_213 ?_
                                refine lv_iload X.1 X.2.1 d_M_seal_216 (lv_at hl 3 rfl) ?_
                                refine lv_iconst (v := iI 0) X.1 X.2.1 d_M_seal_218 (by decide) ?_
                                refine r_iast X Y S (aw_state _ _ _ _ _ _ _) (sw_state _ _ _ _ _ _ _) rfl ⟨(show (0 : Int) ≤ 0 by omega), (show 0 ≤ (255 : Int) by omega)⟩ ⟨by omega, by omega⟩ (by omega) (show z149 < ((16 : Nat) : Int) by omega) (by omega) (by decide) d_M_seal_219 (fun B221 H locs Y S w221 => ?_)
                                refine lv_iinc (v := iI (z149 + 1)) (lv' := [(8, .int (iI (z149 + 1))), (0, .ref h), (6, .int (iI ((16 + a5) - a4))), (7, .int (iI z147))]) X.1 X.2.1 d_M_seal_220 hl (k := 3) rfl ((iI_add _ _).trans (congrArg iI (by omega))) (by decide) rfl (fun ls hl => ?_)
                                refine lv_goto (tgt := 205) X.1 X.2.1 d_M_seal_223 (by decide) ?_
                                exact ih152 ((16 - (z149 + 1)).toNat) (by omega) (z149 + 1) I148 J148 B221 G148 _ _ _ rfl (by omega) (by omega) e150 Y S (lv_sub hl [1, 2, 3, 0] rfl)
                          refine lv_istore (lv' := [(8, .int (iI 0)), (7, .int (iI z147)), (0, .ref h), (1, .ref ((q 56))), (2, .int (iI a2)), (3, .int (iI a3)), (6, .int (iI ((16 + a5) - a4)))]) X.1 X.2.1 d_M_seal_203 hl (by decide) rfl (fun ls hl => ?_)
                          exact J151 _ 0 I146 J146 B146 G146 _ _ _ rfl (by omega) (by omega) ((s146.2.1 33 (by decide)).trans ((s144.2.1 33 (by decide)).trans e137)) Y S (lv_sub hl [2, 6, 1, 0] rfl)
                        · refine lv_aload_n X.1 X.2.1 d_M_seal_144 rfl (lv_at hl 0 rfl) ?_
                          refine m_get X Y 35 (by decide) lk_secret (gf_secret _ _ _) rfl d_M_seal_145 ?_
                          refine lv_iload X.1 X.2.1 d_M_seal_148 (lv_at hl 4 rfl) ?_
                          refine lv_iload X.1 X.2.1 d_M_seal_150 (lv_at hl 5 rfl) ?_
                          refine z_iadd X.1 X.2.1 d_M_seal_152 ?_
                          refine lv_aload_n X.1 X.2.1 d_M_seal_153 rfl (lv_at hl 0 rfl) ?_
                          refine m_get X Y 10 (by decide) lk_mac (gf_mac _ _ _) rfl d_M_seal_154 ?_
                          refine lv_iload X.1 X.2.1 d_M_seal_157 (lv_at hl 5 rfl) ?_
                          refine r_bald X Y S (aw_mac _ _ _ _ _ _ _) rfl (by omega) (show z136 < ((20 : Nat) : Int) by omega) (by omega) d_M_seal_159 (fun z222 q222 l222 u222 => ?_)
                          refine r_bast X Y S (aw_secret _ _ _ _ _ _ _) (sw_secret _ _ _ _ _ _ _) rfl (by omega) (show ((16 + a5) - a4) + z136 < ((20000 : Nat) : Int) by omega) (by omega) (by decide) d_M_seal_160 (fun B223 H locs Y S w223 => ?_)
                          refine lv_iinc (v := iI (z136 + 1)) (lv' := [(7, .int (iI (z136 + 1))), (0, .ref h), (1, .ref ((q 56))), (2, .int (iI a2)), (3, .int (iI a3)), (6, .int (iI ((16 + a5) - a4)))]) X.1 X.2.1 d_M_seal_161 hl (k := 5) rfl ((iI_add _ _).trans (congrArg iI (by omega))) (by decide) rfl (fun ls hl => ?_)
                          refine lv_goto (tgt := 137) X.1 X.2.1 d_M_seal_164 (by decide) ?_
                          exact ih139 ((12 - (z136 + 1)).toNat) (by omega) (z136 + 1) I135 J135 B223 G135 _ _ _ rfl (by omega) (by omega) e137 Y S (lv_sub hl [1, 2, 3, 4, 5, 0] rfl)
                    refine lv_istore (lv' := [(7, .int (iI 0)), (0, .ref h), (1, .ref ((q 56))), (2, .int (iI a2)), (3, .int (iI a3)), (6, .int (iI ((16 + a5) - a4)))]) X.1 X.2.1 d_M_seal_135 hl (by decide) rfl (fun ls hl => ?_)
                    exact J138 _ 0 I134 J134 B134 G134 _ _ _ rfl (by omega) (by omega) ((s134.2.1 33 (by decide)).trans e126) Y S (lv_sub hl [1, 2, 3, 4, 5, 0] rfl)
                  · refine lv_aload_n X.1 X.2.1 d_M_seal_113 rfl (lv_at hl 0 rfl) ?_
                    refine lv_aload_n X.1 X.2.1 d_M_seal_114 rfl (lv_at hl 0 rfl) ?_
                    refine m_get X Y 34 (by decide) lk_text (gf_text _ _ _) rfl d_M_seal_115 ?_
                    refine lv_iload X.1 X.2.1 d_M_seal_118 (lv_at hl 5 rfl) ?_
                    refine r_bald X Y S (aw_text _ _ _ _ _ _ _) rfl (by omega) (show z125 < ((20000 : Nat) : Int) by omega) (by omega) d_M_seal_120 (fun z224 q224 l224 u224 => ?_)
                    refine r_nv (m_run (As := [.int (iI z224)]) (rest := []) (n := 1) X Y hZ hA hml hl.1 (r_M_hash l D E h q H.size I124 J124 B124 G124 z224 (by omega) (by omega) S.1 z127 e127 (by omega) (by omega)) kl_M_hash ks_M_hash kx_M_hash ki_M_hash ini_M hd_M_hash ⟨Nat.le_of_ble_eq_true rfl, Nat.le_of_ble_eq_true rfl⟩ rfl (Nat.le_of_ble_eq_true rfl) d_M_seal_121 ⟨Nat.le_refl _, Nat.le_refl _⟩) X Y hA S (by decide) (by decide) (fun u H locs Y S s225 p225 => ?_)
                    obtain ⟨I225, J225, B225, G225⟩ := u
                    dsimp only at Y S s225 p225
                    have x225 := p225
                    refine lv_iinc (v := iI (z125 + 1)) (lv' := [(7, .int (iI (z125 + 1))), (0, .ref h), (1, .ref ((q 56))), (2, .int (iI a2)), (3, .int (iI a3)), (6, .int (iI ((16 + a5) - a4)))]) X.1 X.2.1 d_M_seal_124 hl (k := 5) rfl ((iI_add _ _).trans (congrArg iI (by omega))) (by decide) rfl (fun ls hl => ?_)
                    refine lv_goto (tgt := 106) X.1 X.2.1 d_M_seal_127 (by decide) ?_
                    exact ih130 ((60016 - (z125 + 1)).toNat) (by omega) (z125 + 1) (z127 + 1) I225 J225 B225 G225 _ _ _ rfl (by omega) (by omega) ((s225.2.1 33 (by decide)).trans e126) (x225.trans (congrArg iI (show (z127 + 1 : Int) = z127 + 1 by omega))) (by omega) (by omega) (by omega) Y S (lv_sub hl [1, 2, 3, 4, 5, 0] rfl)
              refine lv_istore (lv' := [(7, .int (iI 0)), (0, .ref h), (1, .ref ((q 56))), (2, .int (iI a2)), (3, .int (iI a3)), (4, .int (iI a4)), (5, .int (iI a5)), (6, .int (iI ((16 + a5) - a4)))]) X.1 X.2.1 d_M_seal_104 hl (by decide) rfl (fun ls hl => ?_)
              exact J129 _ 0 64 I123 J123 B123 G123 _ _ _ rfl (by omega) (by omega) ((s123.2.1 33 (by decide)).trans ((s122.2.1 33 (by decide)).trans ((s120.2.1 33 (by decide)).trans e112))) (x123.trans (congrArg iI (show (64 : Int) = 64 by omega))) (by omega) (by omega) (by omega) Y S (lv_sub hl [1, 2, 3, 4, 7, 0] rfl)
            · refine lv_aload_n X.1 X.2.1 d_M_seal_49 rfl (lv_at hl 0 rfl) ?_
              refine m_get X Y 34 (by decide) lk_text (gf_text _ _ _) rfl d_M_seal_50 ?_
              refine lv_bipush (v := iI 16) X.1 X.2.1 d_M_seal_53 (by decide) ?_
              refine lv_iload X.1 X.2.1 d_M_seal_55 (lv_at hl 7 rfl) ?_
              refine z_iadd X.1 X.2.1 d_M_seal_57 ?_
              refine lv_iload X.1 X.2.1 d_M_seal_58 (lv_at hl 4 rfl) ?_
              refine z_isub X.1 X.2.1 d_M_seal_60 ?_
              refine lv_aload_n X.1 X.2.1 d_M_seal_61 rfl (lv_at hl 0 rfl) ?_
              refine m_get X Y 0 (by decide) lk_mem (gf_mem _ _ _) rfl d_M_seal_62 ?_
              refine lv_iload X.1 X.2.1 d_M_seal_65 (lv_at hl 7 rfl) ?_
              refine r_bald X Y S (aw_mem _ _ _ _ _ _ _) rfl (by omega) (show z111 < ((60000 : Nat) : Int) by omega) (by omega) d_M_seal_67 (fun z226 q226 l226 u226 => ?_)
              refine r_bast X Y S (aw_text _ _ _ _ _ _ _) (sw_text _ _ _ _ _ _ _) rfl (by omega) (show (16 + z111) - a4 < ((20000 : Nat) : Int) by omega) (by omega) (by decide) d_M_seal_68 (fun B227 H locs Y S w227 => ?_)
              refine lv_iinc (v := iI (z111 + 1)) (lv' := [(7, .int (iI (z111 + 1))), (0, .ref h), (1, .ref ((q 56))), (2, .int (iI a2)), (3, .int (iI a3)), (4, .int (iI a4)), (5, .int (iI a5)), (6, .int (iI ((16 + a5) - a4)))]) X.1 X.2.1 d_M_seal_69 hl (k := 7) rfl ((iI_add _ _).trans (congrArg iI (by omega))) (by decide) rfl (fun ls hl => ?_)
              refine lv_goto (tgt := 42) X.1 X.2.1 d_M_seal_72 (by decide) ?_
              exact ih115 ((60000 - (z111 + 1)).toNat) (by omega) (z111 + 1) I110 J110 B227 G110 _ _ _ rfl (by omega) (by omega) e112 (by omega) Y S (lv_sub hl [1, 2, 3, 4, 5, 6, 7, 0] rfl)
        refine lv_istore (lv' := [(7, .int (iI a4)), (0, .ref h), (1, .ref ((q 56))), (2, .int (iI a2)), (3, .int (iI a3)), (4, .int (iI a4)), (5, .int (iI a5)), (6, .int (iI ((16 + a5) - a4)))]) X.1 X.2.1 d_M_seal_40 hl (by decide) rfl (fun ls hl => ?_)
        exact J114 _ a4 I101 J101 B101 G101 _ _ _ rfl (by omega) (by omega) e103 (by omega) Y S (lv_sub hl [1, 2, 3, 4, 5, 6, 7, 0] rfl)
      · refine lv_aload_n X.1 X.2.1 d_M_seal_20 rfl (lv_at hl 0 rfl) ?_
        refine m_get X Y 34 (by decide) lk_text (gf_text _ _ _) rfl d_M_seal_21 ?_
        refine lv_iload X.1 X.2.1 d_M_seal_24 (lv_at hl 7 rfl) ?_
        refine lv_aload_n X.1 X.2.1 d_M_seal_26 rfl (lv_at hl 0 rfl) ?_
        refine r_ni (m_run (As := []) (rest := [.int (iI z102), .ref ((q 34))]) (n := 0) X Y hZ hA hml hl.1 (r_M_coin l D E h q H.size I101 J101 B101 G101 S.1 z103 e103 (by omega) (by omega)) kl_M_coin ks_M_coin kx_M_coin ki_M_coin ini_M hd_M_coin ⟨Nat.le_of_ble_eq_true rfl, Nat.le_of_ble_eq_true rfl⟩ rfl (Nat.le_of_ble_eq_true rfl) d_M_seal_27 ⟨Nat.le_refl _, Nat.le_refl _⟩) X Y hA S (by decide) (by decide) (fun z228 u H locs Y S s228 p228 => ?_)
        obtain ⟨I228, J228, B228, G228⟩ := u
        dsimp only at Y S s228 p228
        obtain ⟨l228, u228, x228⟩ := p228
        refine lv_i2b X.1 X.2.1 d_M_seal_30 rfl ?_
        refine t_u (fun z229 l229 u229 => ?_)
        refine r_bast X Y S (aw_text _ _ _ _ _ _ _) (sw_text _ _ _ _ _ _ _) rfl (by omega) (show z102 < ((20000 : Nat) : Int) by omega) (by omega) (by decide) d_M_seal_31 (fun B230 H locs Y S w230 => ?_)
        refine lv_iinc (v := iI (z102 + 1)) (lv' := [(7, .int (iI (z102 + 1))), (0, .ref h), (1, .ref ((q 56))), (2, .int (iI a2)), (3, .int (iI a3)), (4, .int (iI a4)), (5, .int (iI a5)), (6, .int (iI ((16 + a5) - a4)))]) X.1 X.2.1 d_M_seal_32 hl (k := 7) rfl ((iI_add _ _).trans (congrArg iI (by omega))) (by decide) rfl (fun ls hl => ?_)
        refine lv_goto (tgt := 13) X.1 X.2.1 d_M_seal_35 (by decide) ?_
        exact ih106 ((16 - (z102 + 1)).toNat) (by omega) (z102 + 1) (z103 + 1) I228 J228 B230 G228 _ _ _ rfl (by omega) (by omega) (x228.trans (congrArg iI (show (z103 + 1 : Int) = z103 + 1 by omega))) (by omega) (by omega) (by omega) Y S (lv_sub hl [1, 2, 3, 4, 5, 6, 7, 0] rfl)
  refine lv_istore (lv' := [(7, .int (iI 0)), (6, .int (iI ((16 + a5) - a4))), (0, .ref h), (1, .ref ((q 56))), (2, .int (iI a2)), (3, .int (iI a3)), (4, .int (iI a4)), (5, .int (iI a5))]) X.1 X.2.1 d_M_seal_11 hl (by decide) rfl (fun ls hl => ?_)
  exact J105 _ 0 cn I J B G _ _ _ rfl (by omega) (by omega) gcn (by omega) (by omega) (by omega) Y S (lv_sub hl [2, 3, 4, 5, 6, 7, 1, 0] rfl)
set_option maxHeartbeats 4000000 in
set_option maxRecDepth 100000 in
theorem r_M_reply (l : Launch) (D : mD) (E : mE) (h : Nat) (q : Nat → Nat) (sz : Nat) (I : Nat → Int32) (J : Nat → Int64) (B : Nat → Nat → Int32) (G : Nat → Nat → Int64) (a1 : Int) (l_a1 : 0 ≤ a1) (u_a1 : a1 ≤ 20000) (hT : rT I B) (cl : Int) (gcl : I 75 = iI cl) (lcl : 0 ≤ cl) (ucl : cl ≤ 11) (ty : Int) (gty : I 77 = iI ty) (lty : 17 ≤ ty) (uty : ty ≤ 18) (cn : Int) (gcn : I 33 = iI cn) (lcn : 0 ≤ cn) (ucn : cn ≤ 1900000) (aa : Int) (gaa : I 86 = iI aa) (laa : (-1) ≤ aa) (uaa : aa ≤ 30000) (ae : Int) (gae : I 87 = iI ae) (lae : (-1) ≤ ae) (uae : ae ≤ 30000) (ca : Int) (gca : I 88 = iI ca) (lca : (-1) ≤ ca) (uca : ca ≤ 30000) (ce : Int) (gce : I 89 = iI ce) (lce : (-1) ≤ ce) (uce : ce ≤ 30000) (ia : Int) (gia : I 69 = iI ia) (lia : 0 ≤ ia) (uia : ia ≤ 1) (rr ss : Int) (f_P1 : pG1 I) (f_P2 : pG2 (B 37) (B 38)) (f_RR : rrP rr (I 69) (B 37) (B 38)) (f_SS : ssP ss (B 37) (B 38)) (q0 : aa ≤ ae) (q1 : 0 ≤ aa ∨ aa = ae) (q2 : ae - aa ≤ 4200) (q3 : ca ≤ ce) (q4 : 0 ≤ ca ∨ ca = ce) (q5 : ce - ca ≤ 4200) (q6 : a1 ≤ (ae - aa) + (ce - ca) + rr + ss + 720) (q7 : (ae - aa) + (ce - ca) + rr + ss ≤ 8400) (q8 : 0 ≤ ss) : Met l y_M_reply (k_M_reply :: lw_tg) (mR 44 2018) (va_Pc [.ref h, .int (iI a1)] (mPre D E h q (I, J, B, G) sz)) (va_Qv (rPv [3, 8, 14, 18, 29, 33, 36, 39, 40, 42, 80] [0, 1, 5, 6, 7, 9, 10, 11, 12, 13, 15, 16, 17, 19, 20, 21, 22, 23, 24, 34, 35, 37, 38, 56, 59, 90] I B (fun (u : mS) => ((∃ V2 : Int, u.1 33 = iI V2 ∧ cn ≤ V2 ∧ V2 ≤ cn + 100)) ∧ pG1 u.1 ∧ pG2 (u.2.2.1 37) (u.2.2.1 38) ∧ thF [7] (B 37) (B 38) (u.2.2.1 37) (u.2.2.1 38))) (mPost D E h q (mA E h q sz)) (mA E h q sz)) 0 0 (mA E h q sz) := by
  refine m_enter (by decide) rfl (Nat.le_of_ble_eq_true rfl) (fun p e s m below meth c ls AV QQ H locs hQQ X Y hZ hA hr hlk hml hl => ?_)
  have Y : mH D E (mA E h q sz) s.heap h q I J B G H locs := Y
  have S : rS [3, 8, 14, 18, 29, 33, 36, 39, 40, 42, 80] [0, 1, 5, 6, 7, 9, 10, 11, 12, 13, 15, 16, 17, 19, 20, 21, 22, 23, 24, 34, 35, 37, 38, 56, 59, 90] I B I B := rS_rf hT
  have hl : lv_has ls 9 [(0, .ref h), (1, .int (iI a1))] := hl
  have rr9 := f_RR.2
  refine lv_aload_n X.1 X.2.1 d_M_reply_0 rfl (lv_at hl 0 rfl) ?_
  refine r_nv (m_run (As := []) (rest := []) (n := 0) X Y hZ hA hml hl.1 (r_M_start l D E h q H.size I J B G S.1) kl_M_start ks_M_start kx_M_start ki_M_start ini_M hd_M_start ⟨Nat.le_of_ble_eq_true rfl, Nat.le_of_ble_eq_true rfl⟩ rfl (Nat.le_of_ble_eq_true rfl) d_M_reply_1 ⟨Nat.le_refl _, Nat.le_refl _⟩) X Y hA S (by decide) (by decide) (fun u H locs Y S s101 p101 => ?_)
  obtain ⟨I101, J101, B101, G101⟩ := u
  dsimp only at Y S s101 p101
  have b101 : B = B101 := (funext (fun j => s101.2.2 j (by simp))).symm
  subst b101
  have x101 := p101
  refine lv_aload_n X.1 X.2.1 d_M_reply_4 rfl (lv_at hl 0 rfl) ?_
  refine r_geti (k := 85) X Y S (by decide) lk_hasAddress (gf_hasAddress _ _ _) rfl rfl d_M_reply_5 (fun z102 e102 l102 u102 => ?_)
  have J120 : ∀ (z117 : Int) (I103 : Nat → Int32) (J103 : Nat → Int64) (B103 : Nat → Nat → Int32) (G103 : Nat → Nat → Int64) (H : Heap) (locs : List Loc) (ls : Array Slot), (pG1 I103) → (pG2 (B103 37) (B103 38)) → (rrP rr (I103 69) (B103 37) (B103 38)) → (ssP ss (B103 37) (B103 38)) → (thF [7] (B 37) (B 38) (B103 37) (B103 38)) → (I103 69 = iI ia) → (I103 86 = iI aa) → (I103 87 = iI ae) → (I103 88 = iI ca) → (I103 89 = iI ce) → (I103 77 = iI ty) → (I103 75 = iI cl) → (I103 33 = iI cn) → (I103 42 = iI z117) → (0 ≤ z117) → (z117 ≤ 60000) → (60000 - ((ae - aa) + 4) ≤ z117) → (z117 ≤ 60000) → mH D E (mA E h q sz) s.heap h q I103 J103 B103 G103 H locs → rS [3, 8, 14, 18, 29, 33, 36, 39, 40, 42, 80] [0, 1, 5, 6, 7, 9, 10, 11, 12, 13, 15, 16, 17, 19, 20, 21, 22, 23, 24, 34, 35, 37, 38, 56, 59, 90] I B I103 B103 → lv_has ls 9 [(0, .ref h), (1, .int (iI a1))] → W p l e (mR 44 2018) s m AV below meth c H locs 0 0 QQ (F0 m 25 ls []) := by
    intro z117 I103 J103 B103 G103 H locs ls f104 f105 f106 f107 f108 e109 e110 e111 e112 e113 e114 e115 e116 e117 l117 u117 i118 i119 Y S hl
    refine lv_aload_n X.1 X.2.1 d_M_reply_25 rfl (lv_at hl 0 rfl) ?_
    refine lv_bipush (v := iI 10) X.1 X.2.1 d_M_reply_26 (by decide) ?_
    refine lv_aload_n X.1 X.2.1 d_M_reply_28 rfl (lv_at hl 0 rfl) ?_
    refine lv_iconst (v := iI 1) X.1 X.2.1 d_M_reply_29 (by decide) ?_
    refine lv_iconst (v := iI 3) X.1 X.2.1 d_M_reply_30 (by decide) ?_
    refine r_ni (m_run (As := [.int (iI 1), .int (iI 3)]) (rest := [.int (iI 10), .ref h]) (n := 2) X Y hZ hA hml hl.1 (r_M_a l D E h q H.size I103 J103 B103 G103 1 (by omega) (by omega) 3 (by omega) (by omega) S.1) kl_M_a ks_M_a kx_M_a ki_M_a ini_M hd_M_a ⟨Nat.le_of_ble_eq_true rfl, Nat.le_of_ble_eq_true rfl⟩ rfl (Nat.le_of_ble_eq_true rfl) d_M_reply_31 ⟨Nat.le_refl _, Nat.le_refl _⟩) X Y hA S (by decide) (by decide) (fun z124 u H locs Y S s124 p124 => ?_)
    obtain ⟨I124, J124, B124, G124⟩ := u
    dsimp only at Y S s124 p124
    have i124 : I103 = I124 := (funext (fun j => s124.2.1 j (by simp))).symm
    subst i124
    have b124 : B103 = B124 := (funext (fun j => s124.2.2 j (by simp))).symm
    subst b124
    obtain ⟨l124, u124, x124⟩ := p124
    refine lv_aload_n X.1 X.2.1 d_M_reply_34 rfl (lv_at hl 0 rfl) ?_
    refine lv_iconst (v := iI 1) X.1 X.2.1 d_M_reply_35 (by decide) ?_
    refine lv_iconst (v := iI 3) X.1 X.2.1 d_M_reply_36 (by decide) ?_
    refine r_ni (m_run (As := [.int (iI 1), .int (iI 3)]) (rest := [.int (iI z124), .int (iI 10), .ref h]) (n := 2) X Y hZ hA hml hl.1 (r_M_b l D E h q H.size I103 J124 B103 G124 1 (by omega) (by omega) 3 (by omega) (by omega) S.1) kl_M_b ks_M_b kx_M_b ki_M_b ini_M hd_M_b ⟨Nat.le_of_ble_eq_true rfl, Nat.le_of_ble_eq_true rfl⟩ rfl (Nat.le_of_ble_eq_true rfl) d_M_reply_37 ⟨Nat.le_refl _, Nat.le_refl _⟩) X Y hA S (by decide) (by decide) (fun z125 u H locs Y S s125 p125 => ?_)
    obtain ⟨I125, J125, B125, G125⟩ := u
    dsimp only at Y S s125 p125
    have i125 : I103 = I125 := (funext (fun j => s125.2.1 j (by simp))).symm
    subst i125
    have b125 : B103 = B125 := (funext (fun j => s125.2.2 j (by simp))).symm
    subst b125
    obtain ⟨l125, u125, x125⟩ := p125
    have p126 : pr z124 z125 := by rw [x124, x125]; exact (pG2_cg rfl rfl (pG2_cg rfl rfl f105)) (16 * 1 + 3 : Int).toNat (by omega)
    unfold pr at p126
    have s9 : ss = _ := (ssP_cg rfl rfl (ssP_cg rfl rfl f107))
    refine r_nv (m_run (As := [.int (iI 10), .int (iI z124), .int (iI z125)]) (rest := []) (n := 3) X Y hZ hA hml hl.1 (r_M_copyField l D E h q H.size I103 J125 B103 G125 10 (by omega) (by omega) z124 (by omega) (by omega) z125 (by omega) (by omega) S.1 z117 e117 (by omega) (by omega) (by omega) (by omega) (by omega) (by omega)) kl_M_copyField ks_M_copyField kx_M_copyField ki_M_copyField ini_M hd_M_copyField ⟨Nat.le_of_ble_eq_true rfl, Nat.le_of_ble_eq_true rfl⟩ rfl (Nat.le_of_ble_eq_true rfl) d_M_reply_40 ⟨Nat.le_refl _, Nat.le_refl _⟩) X Y hA S (by decide) (by decide) (fun u H locs Y S s127 p127 => ?_)
    obtain ⟨I127, J127, B127, G127⟩ := u
    dsimp only at Y S s127 p127
    obtain ⟨x127, g127_MF⟩ := p127
    obtain ⟨z128, e128, l128, u128⟩ := x127
    refine lv_aload_n X.1 X.2.1 d_M_reply_43 rfl (lv_at hl 0 rfl) ?_
    refine lv_bipush (v := iI 9) X.1 X.2.1 d_M_reply_44 (by decide) ?_
    refine m_ldcSW (i := 2) X (by decide) (by decide) d_M_reply_46 ?_
    refine r_nv (m_run (As := [.int (iI 9), .ref ((D.2.1 2))]) (rest := []) (n := 2) X Y hZ hA hml hl.1 (r_M_wordField l D E h q H.size I127 J127 B127 G127 9 (by omega) (by omega) 2 (show 2 < nZ by decide) S.1 z128 e128 (by omega) (by omega)) kl_M_wordField ks_M_wordField kx_M_wordField ki_M_wordField ini_M hd_M_wordField ⟨Nat.le_of_ble_eq_true rfl, Nat.le_of_ble_eq_true rfl⟩ rfl (Nat.le_of_ble_eq_true rfl) d_M_reply_49 ⟨Nat.le_refl _, Nat.le_refl _⟩) X Y hA S (by decide) (by decide) (fun u H locs Y S s129 p129 => ?_)
    obtain ⟨I129, J129, B129, G129⟩ := u
    dsimp only at Y S s129 p129
    obtain ⟨x129, g129_MF⟩ := p129
    obtain ⟨z130, e130, l130, u130⟩ := x129
    refine lv_aload_n X.1 X.2.1 d_M_reply_52 rfl (lv_at hl 0 rfl) ?_
    refine r_geti (k := 84) X Y S (by decide) lk_hasRenew (gf_hasRenew _ _ _) rfl rfl d_M_reply_53 (fun z131 e131 l131 u131 => ?_)
    have J149 : ∀ (z146 : Int) (I132 : Nat → Int32) (J132 : Nat → Int64) (B132 : Nat → Nat → Int32) (G132 : Nat → Nat → Int64) (H : Heap) (locs : List Loc) (ls : Array Slot), (pG1 I132) → (pG2 (B132 37) (B132 38)) → (rrP rr (I132 69) (B132 37) (B132 38)) → (ssP ss (B132 37) (B132 38)) → (thF [7] (B 37) (B 38) (B132 37) (B132 38)) → (I132 69 = iI ia) → (I132 86 = iI aa) → (I132 87 = iI ae) → (I132 88 = iI ca) → (I132 89 = iI ce) → (I132 77 = iI ty) → (I132 75 = iI cl) → (I132 33 = iI cn) → (I132 42 = iI z146) → (0 ≤ z146) → (z146 ≤ 60000) → (60000 - ((ae - aa) + ss + 112) ≤ z146) → (z146 ≤ 60000) → mH D E (mA E h q sz) s.heap h q I132 J132 B132 G132 H locs → rS [3, 8, 14, 18, 29, 33, 36, 39, 40, 42, 80] [0, 1, 5, 6, 7, 9, 10, 11, 12, 13, 15, 16, 17, 19, 20, 21, 22, 23, 24, 34, 35, 37, 38, 56, 59, 90] I B I132 B132 → lv_has ls 9 [(0, .ref h), (1, .int (iI a1))] → W p l e (mR 44 2018) s m AV below meth c H locs 0 0 QQ (F0 m 69 ls []) := by
      intro z146 I132 J132 B132 G132 H locs ls f133 f134 f135 f136 f137 e138 e139 e140 e141 e142 e143 e144 e145 e146 l146 u146 i147 i148 Y S hl
      refine lv_aload_n X.1 X.2.1 d_M_reply_69 rfl (lv_at hl 0 rfl) ?_
      refine lv_bipush (v := iI 7) X.1 X.2.1 d_M_reply_70 (by decide) ?_
      refine lv_aload_n X.1 X.2.1 d_M_reply_72 rfl (lv_at hl 0 rfl) ?_
      refine m_get X Y 82 (by decide) lk_newEnd (gf_newEnd _ _ _) rfl d_M_reply_73 ?_
      refine r_nv (m_run (As := [.int (iI 7), .long ((J132 82))]) (rest := []) (n := 2) X Y hZ hA hml hl.1 (r_M_timeField l D E h q H.size I132 J132 B132 G132 7 (by omega) (by omega) ((J132 82)) S.1 z146 e146 (by omega) (by omega)) kl_M_timeField ks_M_timeField kx_M_timeField ki_M_timeField ini_M hd_M_timeField ⟨Nat.le_of_ble_eq_true rfl, Nat.le_of_ble_eq_true rfl⟩ rfl (Nat.le_of_ble_eq_true rfl) d_M_reply_76 ⟨Nat.le_refl _, Nat.le_refl _⟩) X Y hA S (by decide) (by decide) (fun u H locs Y S s153 p153 => ?_)
      obtain ⟨I153, J153, B153, G153⟩ := u
      dsimp only at Y S s153 p153
      obtain ⟨x153, g153_MF⟩ := p153
      obtain ⟨z154, e154, l154, u154⟩ := x153
      refine lv_aload_n X.1 X.2.1 d_M_reply_79 rfl (lv_at hl 0 rfl) ?_
      refine lv_bipush (v := iI 6) X.1 X.2.1 d_M_reply_80 (by decide) ?_
      refine lv_aload_n X.1 X.2.1 d_M_reply_82 rfl (lv_at hl 0 rfl) ?_
      refine r_geti (k := 4) X Y S (by decide) lk_now (gf_now _ _ _) rfl rfl d_M_reply_83 (fun z155 e155 l155 u155 => ?_)
      refine lv_i2l X.1 X.2.1 d_M_reply_86 rfl ?_
      refine t_anyl (fun v156 => ?_)
      refine r_nv (m_run (As := [.int (iI 6), .long v156]) (rest := []) (n := 2) X Y hZ hA hml hl.1 (r_M_timeField l D E h q H.size I153 J153 B153 G153 6 (by omega) (by omega) v156 S.1 z154 e154 (by omega) (by omega)) kl_M_timeField ks_M_timeField kx_M_timeField ki_M_timeField ini_M hd_M_timeField ⟨Nat.le_of_ble_eq_true rfl, Nat.le_of_ble_eq_true rfl⟩ rfl (Nat.le_of_ble_eq_true rfl) d_M_reply_87 ⟨Nat.le_refl _, Nat.le_refl _⟩) X Y hA S (by decide) (by decide) (fun u H locs Y S s157 p157 => ?_)
      obtain ⟨I157, J157, B157, G157⟩ := u
      dsimp only at Y S s157 p157
      obtain ⟨x157, g157_MF⟩ := p157
      obtain ⟨z158, e158, l158, u158⟩ := x157
      refine lv_aload_n X.1 X.2.1 d_M_reply_90 rfl (lv_at hl 0 rfl) ?_
      refine lv_iconst (v := iI 5) X.1 X.2.1 d_M_reply_91 (by decide) ?_
      refine lv_aload_n X.1 X.2.1 d_M_reply_92 rfl (lv_at hl 0 rfl) ?_
      refine r_get0 X Y (by decide) lk_isAs (gf_isAs _ _ _) rfl ((s157.2.1 69 (by decide)).trans ((s153.2.1 69 (by decide)).trans e138)) d_M_reply_93 ?_
      have J178 : ∀ (v160 : Int64) (z175 : Int) (I159 : Nat → Int32) (J159 : Nat → Int64) (B159 : Nat → Nat → Int32) (G159 : Nat → Nat → Int64) (H : Heap) (locs : List Loc) (ls : Array Slot), (pG1 I159) → (pG2 (B159 37) (B159 38)) → (rrP rr (I159 69) (B159 37) (B159 38)) → (ssP ss (B159 37) (B159 38)) → (thF [7] (B 37) (B 38) (B159 37) (B159 38)) → (I159 69 = iI ia) → (I159 86 = iI aa) → (I159 87 = iI ae) → (I159 88 = iI ca) → (I159 89 = iI ce) → (I159 77 = iI ty) → (I159 75 = iI cl) → (I159 42 = iI z158) → (I159 33 = iI cn) → (I159 42 = iI z175) → (0 ≤ z175) → (z175 ≤ 60000) → (60000 - ((ae - aa) + ss + 160) ≤ z175) → (z175 ≤ 60000) → mH D E (mA E h q sz) s.heap h q I159 J159 B159 G159 H locs → rS [3, 8, 14, 18, 29, 33, 36, 39, 40, 42, 80] [0, 1, 5, 6, 7, 9, 10, 11, 12, 13, 15, 16, 17, 19, 20, 21, 22, 23, 24, 34, 35, 37, 38, 56, 59, 90] I B I159 B159 → lv_has ls 9 [(0, .ref h), (1, .int (iI a1))] → W p l e (mR 44 2018) s m AV below meth c H locs 0 0 QQ (F0 m 113 ls [.long v160, .int (iI 5), .ref h]) := by
        intro v160 z175 I159 J159 B159 G159 H locs ls f161 f162 f163 f164 f165 e166 e167 e168 e169 e170 e171 e172 e173 e174 e175 l175 u175 i176 i177 Y S hl
        refine r_nv (m_run (As := [.int (iI 5), .long v160]) (rest := []) (n := 2) X Y hZ hA hml hl.1 (r_M_timeField l D E h q H.size I159 J159 B159 G159 5 (by omega) (by omega) v160 S.1 z175 e175 (by omega) (by omega)) kl_M_timeField ks_M_timeField kx_M_timeField ki_M_timeField ini_M hd_M_timeField ⟨Nat.le_of_ble_eq_true rfl, Nat.le_of_ble_eq_true rfl⟩ rfl (Nat.le_of_ble_eq_true rfl) d_M_reply_113 ⟨Nat.le_refl _, Nat.le_refl _⟩) X Y hA S (by decide) (by decide) (fun u H locs Y S s182 p182 => ?_)
        obtain ⟨I182, J182, B182, G182⟩ := u
        dsimp only at Y S s182 p182
        obtain ⟨x182, g182_MF⟩ := p182
        obtain ⟨z183, e183, l183, u183⟩ := x182
        refine lv_aload_n X.1 X.2.1 d_M_reply_116 rfl (lv_at hl 0 rfl) ?_
        refine lv_iconst (v := iI 4) X.1 X.2.1 d_M_reply_117 (by decide) ?_
        refine lv_aload_n X.1 X.2.1 d_M_reply_118 rfl (lv_at hl 0 rfl) ?_
        refine r_geti (k := 81) X Y S (by decide) lk_newFlags (gf_newFlags _ _ _) rfl rfl d_M_reply_119 (fun z184 e184 l184 u184 => ?_)
        refine r_nv (m_run (As := [.int (iI 4), .int (iI z184)]) (rest := []) (n := 2) X Y hZ hA hml hl.1 (r_M_flagsField l D E h q H.size I182 J182 B182 G182 4 (by omega) (by omega) z184 (by omega) (by omega) S.1 z183 e183 (by omega) (by omega)) kl_M_flagsField ks_M_flagsField kx_M_flagsField ki_M_flagsField ini_M hd_M_flagsField ⟨Nat.le_of_ble_eq_true rfl, Nat.le_of_ble_eq_true rfl⟩ rfl (Nat.le_of_ble_eq_true rfl) d_M_reply_122 ⟨Nat.le_refl _, Nat.le_refl _⟩) X Y hA S (by decide) (by decide) (fun u H locs Y S s185 p185 => ?_)
        obtain ⟨I185, J185, B185, G185⟩ := u
        dsimp only at Y S s185 p185
        obtain ⟨x185, g185_MF⟩ := p185
        obtain ⟨z186, e186, l186, u186⟩ := x185
        refine lv_aload_n X.1 X.2.1 d_M_reply_125 rfl (lv_at hl 0 rfl) ?_
        refine lv_iconst (v := iI 2) X.1 X.2.1 d_M_reply_126 (by decide) ?_
        refine lv_aload_n X.1 X.2.1 d_M_reply_127 rfl (lv_at hl 0 rfl) ?_
        refine lv_iconst (v := iI 1) X.1 X.2.1 d_M_reply_128 (by decide) ?_
        refine lv_bipush (v := iI 7) X.1 X.2.1 d_M_reply_129 (by decide) ?_
        refine r_nl (m_run (As := [.int (iI 1), .int (iI 7)]) (rest := [.int (iI 2), .ref h]) (n := 2) X Y hZ hA hml hl.1 (r_M_numberAt l D E h q H.size I185 J185 B185 G185 1 (by omega) (by omega) 7 (by omega) (by omega) S.1 (pG1_cg (s185.2.1 39 (by decide)) (s185.2.1 40 (by decide)) (pG1_cg (s182.2.1 39 (by decide)) (s182.2.1 40 (by decide)) f161)) (pG2_cg (s185.2.2 37 (by decide)) (s185.2.2 38 (by decide)) (pG2_cg (s182.2.2 37 (by decide)) (s182.2.2 38 (by decide)) f162))) kl_M_numberAt ks_M_numberAt kx_M_numberAt ki_M_numberAt ini_M hd_M_numberAt ⟨Nat.le_of_ble_eq_true rfl, Nat.le_of_ble_eq_true rfl⟩ rfl (Nat.le_of_ble_eq_true rfl) d_M_reply_131 ⟨Nat.le_refl _, Nat.le_refl _⟩) X Y hA S (by decide) (by decide) (fun v187 u H locs Y S s187 p187 => ?_)
        obtain ⟨I187, J187, B187, G187⟩ := u
        dsimp only at Y S s187 p187
        have b187 : B185 = B187 := (funext (fun j => s187.2.2 j (by simp))).symm
        subst b187
        have g187_P1 := p187
        refine r_nv (m_run (As := [.int (iI 2), .long v187]) (rest := []) (n := 2) X Y hZ hA hml hl.1 (r_M_numberField l D E h q H.size I187 J187 B185 G187 2 (by omega) (by omega) v187 S.1 z186 ((s187.2.1 42 (by decide)).trans e186) (by omega) (by omega)) kl_M_numberField ks_M_numberField kx_M_numberField ki_M_numberField ini_M hd_M_numberField ⟨Nat.le_of_ble_eq_true rfl, Nat.le_of_ble_eq_true rfl⟩ rfl (Nat.le_of_ble_eq_true rfl) d_M_reply_134 ⟨Nat.le_refl _, Nat.le_refl _⟩) X Y hA S (by decide) (by decide) (fun u H locs Y S s188 p188 => ?_)
        obtain ⟨I188, J188, B188, G188⟩ := u
        dsimp only at Y S s188 p188
        have f189 : rrP rr (I188 69) (B188 37) (B188 38) := (rrP_cg (s188.2.1 69 (by decide)) (s188.2.2 37 (by decide)) (s188.2.2 38 (by decide)) (rrP_cg (s187.2.1 69 (by decide)) rfl rfl (rrP_cg (s185.2.1 69 (by decide)) (s185.2.2 37 (by decide)) (s185.2.2 38 (by decide)) (rrP_cg (s182.2.1 69 (by decide)) (s182.2.2 37 (by decide)) (s182.2.2 38 (by decide)) f163))))
        obtain ⟨x188, g188_MF⟩ := p188
        obtain ⟨z190, e190, l190, u190⟩ := x188
        refine lv_aload_n X.1 X.2.1 d_M_reply_137 rfl (lv_at hl 0 rfl) ?_
        refine r_get0 X Y (by decide) lk_w0 (gf_w0 _ _ _) rfl e190 d_M_reply_138 ?_
        refine lv_istore_n (lv' := [(2, .int (iI z190)), (0, .ref h), (1, .int (iI a1))]) X.1 X.2.1 d_M_reply_141 rfl hl (by decide) rfl (fun ls hl => ?_)
        refine lv_aload_n X.1 X.2.1 d_M_reply_142 rfl (lv_at hl 1 rfl) ?_
        refine lv_iconst (v := iI 1) X.1 X.2.1 d_M_reply_143 (by decide) ?_
        refine lv_aload_n X.1 X.2.1 d_M_reply_144 rfl (lv_at hl 1 rfl) ?_
        refine r_geti (k := 4) X Y S (by decide) lk_now (gf_now _ _ _) rfl rfl d_M_reply_145 (fun z191 e191 l191 u191 => ?_)
        refine lv_i2l X.1 X.2.1 d_M_reply_148 rfl ?_
        refine t_anyl (fun v192 => ?_)
        refine r_nv (m_run (As := [.int (iI 1), .long v192]) (rest := []) (n := 2) X Y hZ hA hml hl.1 (r_M_timeField l D E h q H.size I188 J188 B188 G188 1 (by omega) (by omega) v192 S.1 z190 e190 (by omega) (by omega)) kl_M_timeField ks_M_timeField kx_M_timeField ki_M_timeField ini_M hd_M_timeField ⟨Nat.le_of_ble_eq_true rfl, Nat.le_of_ble_eq_true rfl⟩ rfl (Nat.le_of_ble_eq_true rfl) d_M_reply_149 ⟨Nat.le_refl _, Nat.le_refl _⟩) X Y hA S (by decide) (by decide) (fun u H locs Y S s193 p193 => ?_)
        obtain ⟨I193, J193, B193, G193⟩ := u
        dsimp only at Y S s193 p193
        have f194 : pG2 (B193 37) (B193 38) := (pG2_cg (s193.2.2 37 (by decide)) (s193.2.2 38 (by decide)) (pG2_cg (s188.2.2 37 (by decide)) (s188.2.2 38 (by decide)) (pG2_cg rfl rfl (pG2_cg (s185.2.2 37 (by decide)) (s185.2.2 38 (by decide)) (pG2_cg (s182.2.2 37 (by decide)) (s182.2.2 38 (by decide)) f162)))))
        have f195 : ssP ss (B193 37) (B193 38) := (ssP_cg (s193.2.2 37 (by decide)) (s193.2.2 38 (by decide)) (ssP_cg (s188.2.2 37 (by decide)) (s188.2.2 38 (by decide)) (ssP_cg rfl rfl (ssP_cg (s185.2.2 37 (by decide)) (s185.2.2 38 (by decide)) (ssP_cg (s182.2.2 37 (by decide)) (s182.2.2 38 (by decide)) f164)))))
        have f196 : thF [7] (B 37) (B 38) (B193 37) (B193 38) := (thF_cg (s193.2.2 37 (by decide)) (s193.2.2 38 (by decide)) (thF_cg (s188.2.2 37 (by decide)) (s188.2.2 38 (by decide)) (thF_cg rfl rfl (thF_cg (s185.2.2 37 (by decide)) (s185.2.2 38 (by decide)) (thF_cg (s182.2.2 37 (by decide)) (s182.2.2 38 (by decide)) f165)))))
        obtain ⟨x193, g193_MF⟩ := p193
        obtain ⟨z197, e197, l197, u197⟩ := x193
        refine lv_aload_n X.1 X.2.1 d_M_reply_152 rfl (lv_at hl 1 rfl) ?_
        refine lv_iconst (v := iI 0) X.1 X.2.1 d_M_reply_153 (by decide) ?_
        refine lv_lconst (v := 0) X.1 X.2.1 d_M_reply_154 rfl ?_
        refine r_nv (m_run (As := [.int (iI 0), .long 0]) (rest := []) (n := 2) X Y hZ hA hml hl.1 (r_M_numberField l D E h q H.size I193 J193 B193 G193 0 (by omega) (by omega) 0 S.1 z197 e197 (by omega) (by omega)) kl_M_numberField ks_M_numberField kx_M_numberField ki_M_numberField ini_M hd_M_numberField ⟨Nat.le_of_ble_eq_true rfl, Nat.le_of_ble_eq_true rfl⟩ rfl (Nat.le_of_ble_eq_true rfl) d_M_reply_155 ⟨Nat.le_refl _, Nat.le_refl _⟩) X Y hA S (by decide) (by decide) (fun u H locs Y S s198 p198 => ?_)
        obtain ⟨I198, J198, B198, G198⟩ := u
        dsimp only at Y S s198 p198
        obtain ⟨x198, g198_MF⟩ := p198
        obtain ⟨z199, e199, l199, u199⟩ := x198
        refine lv_aload_n X.1 X.2.1 d_M_reply_158 rfl (lv_at hl 1 rfl) ?_
        refine lv_bipush (v := iI 48) X.1 X.2.1 d_M_reply_159 (by decide) ?_
        refine lv_iload_n X.1 X.2.1 d_M_reply_161 rfl (lv_at hl 0 rfl) ?_
        refine r_nv (m_run (As := [.int (iI 48), .int (iI z190)]) (rest := []) (n := 2) X Y hZ hA hml hl.1 (r_M_head l D E h q H.size I198 J198 B198 G198 48 (by omega) (by omega) z190 (by omega) (by omega) S.1 z199 e199 (by omega) (by omega)) kl_M_head ks_M_head kx_M_head ki_M_head ini_M hd_M_head ⟨Nat.le_of_ble_eq_true rfl, Nat.le_of_ble_eq_true rfl⟩ rfl (Nat.le_of_ble_eq_true rfl) d_M_reply_162 ⟨Nat.le_refl _, Nat.le_refl _⟩) X Y hA S (by decide) (by decide) (fun u H locs Y S s200 p200 => ?_)
        obtain ⟨I200, J200, B200, G200⟩ := u
        dsimp only at Y S s200 p200
        have f201 : rrP rr (I200 69) (B200 37) (B200 38) := (rrP_cg (s200.2.1 69 (by decide)) (s200.2.2 37 (by decide)) (s200.2.2 38 (by decide)) (rrP_cg (s198.2.1 69 (by decide)) (s198.2.2 37 (by decide)) (s198.2.2 38 (by decide)) (rrP_cg (s193.2.1 69 (by decide)) (s193.2.2 37 (by decide)) (s193.2.2 38 (by decide)) f189)))
        have f202 : pG1 I200 := (pG1_cg (s200.2.1 39 (by decide)) (s200.2.1 40 (by decide)) (pG1_cg (s198.2.1 39 (by decide)) (s198.2.1 40 (by decide)) (pG1_cg (s193.2.1 39 (by decide)) (s193.2.1 40 (by decide)) (pG1_cg (s188.2.1 39 (by decide)) (s188.2.1 40 (by decide)) g187_P1))))
        obtain ⟨x200, g200_MF⟩ := p200
        obtain ⟨z203, e203, l203, u203⟩ := x200
        refine lv_aload_n X.1 X.2.1 d_M_reply_165 rfl (lv_at hl 1 rfl) ?_
        refine lv_bipush (v := iI 48) X.1 X.2.1 d_M_reply_166 (by decide) ?_
        refine lv_iload_n X.1 X.2.1 d_M_reply_168 rfl (lv_at hl 0 rfl) ?_
        refine r_nv (m_run (As := [.int (iI 48), .int (iI z190)]) (rest := []) (n := 2) X Y hZ hA hml hl.1 (r_M_head l D E h q H.size I200 J200 B200 G200 48 (by omega) (by omega) z190 (by omega) (by omega) S.1 z203 e203 (by omega) (by omega)) kl_M_head ks_M_head kx_M_head ki_M_head ini_M hd_M_head ⟨Nat.le_of_ble_eq_true rfl, Nat.le_of_ble_eq_true rfl⟩ rfl (Nat.le_of_ble_eq_true rfl) d_M_reply_169 ⟨Nat.le_refl _, Nat.le_refl _⟩) X Y hA S (by decide) (by decide) (fun u H locs Y S s204 p204 => ?_)
        obtain ⟨I204, J204, B204, G204⟩ := u
        dsimp only at Y S s204 p204
        obtain ⟨x204, g204_MF⟩ := p204
        obtain ⟨z205, e205, l205, u205⟩ := x204
        refine lv_aload_n X.1 X.2.1 d_M_reply_172 rfl (lv_at hl 1 rfl) ?_
        refine lv_iconst (v := iI 1) X.1 X.2.1 d_M_reply_173 (by decide) ?_
        refine lv_iload_n X.1 X.2.1 d_M_reply_174 rfl (lv_at hl 0 rfl) ?_
        refine r_nv (m_run (As := [.int (iI 1), .int (iI z190)]) (rest := []) (n := 2) X Y hZ hA hml hl.1 (r_M_field l D E h q H.size I204 J204 B204 G204 1 (by omega) (by omega) z190 (by omega) (by omega) S.1 z205 e205 (by omega) (by omega)) kl_M_field ks_M_field kx_M_field ki_M_field ini_M hd_M_field ⟨Nat.le_of_ble_eq_true rfl, Nat.le_of_ble_eq_true rfl⟩ rfl (Nat.le_of_ble_eq_true rfl) d_M_reply_175 ⟨Nat.le_refl _, Nat.le_refl _⟩) X Y hA S (by decide) (by decide) (fun u H locs Y S s206 p206 => ?_)
        obtain ⟨I206, J206, B206, G206⟩ := u
        dsimp only at Y S s206 p206
        obtain ⟨x206, g206_MF⟩ := p206
        obtain ⟨z207, e207, l207, u207⟩ := x206
        refine lv_aload_n X.1 X.2.1 d_M_reply_178 rfl (lv_at hl 1 rfl) ?_
        refine lv_iconst (v := iI 0) X.1 X.2.1 d_M_reply_179 (by decide) ?_
        refine lv_aload_n X.1 X.2.1 d_M_reply_180 rfl (lv_at hl 1 rfl) ?_
        refine r_get0 X Y (by decide) lk_type (gf_type _ _ _) rfl ((s206.2.1 77 (by decide)).trans ((s204.2.1 77 (by decide)).trans ((s200.2.1 77 (by decide)).trans ((s198.2.1 77 (by decide)).trans ((s193.2.1 77 (by decide)).trans ((s188.2.1 77 (by decide)).trans ((s187.2.1 77 (by decide)).trans ((s185.2.1 77 (by decide)).trans ((s182.2.1 77 (by decide)).trans e171))))))))) d_M_reply_181 ?_
        refine lv_aload_n X.1 X.2.1 d_M_reply_184 rfl (lv_at hl 1 rfl) ?_
        refine m_get X Y 60 (by decide) lk_fresh (gf_fresh _ _ _) rfl d_M_reply_185 ?_
        refine r_nv (m_run (As := [.int (iI 0), .int (iI ty), .ref ((q 60))]) (rest := []) (n := 3) X Y hZ hA hml hl.1 (r_M_keyField_fresh l D E h q H.size I206 J206 B206 G206 0 (by omega) (by omega) ty (by omega) (by omega) S.1 z207 e207 (by omega) (by omega)) kl_M_keyField ks_M_keyField kx_M_keyField ki_M_keyField ini_M hd_M_keyField ⟨Nat.le_of_ble_eq_true rfl, Nat.le_of_ble_eq_true rfl⟩ rfl (Nat.le_of_ble_eq_true rfl) d_M_reply_188 ⟨Nat.le_refl _, Nat.le_refl _⟩) X Y hA S (by decide) (by decide) (fun u H locs Y S s208 p208 => ?_)
        obtain ⟨I208, J208, B208, G208⟩ := u
        dsimp only at Y S s208 p208
        have f209 : pG2 (B208 37) (B208 38) := (pG2_cg (s208.2.2 37 (by decide)) (s208.2.2 38 (by decide)) (pG2_cg (s206.2.2 37 (by decide)) (s206.2.2 38 (by decide)) (pG2_cg (s204.2.2 37 (by decide)) (s204.2.2 38 (by decide)) (pG2_cg (s200.2.2 37 (by decide)) (s200.2.2 38 (by decide)) (pG2_cg (s198.2.2 37 (by decide)) (s198.2.2 38 (by decide)) f194)))))
        have f210 : rrP rr (I208 69) (B208 37) (B208 38) := (rrP_cg (s208.2.1 69 (by decide)) (s208.2.2 37 (by decide)) (s208.2.2 38 (by decide)) (rrP_cg (s206.2.1 69 (by decide)) (s206.2.2 37 (by decide)) (s206.2.2 38 (by decide)) (rrP_cg (s204.2.1 69 (by decide)) (s204.2.2 37 (by decide)) (s204.2.2 38 (by decide)) f201)))
        have f211 : ssP ss (B208 37) (B208 38) := (ssP_cg (s208.2.2 37 (by decide)) (s208.2.2 38 (by decide)) (ssP_cg (s206.2.2 37 (by decide)) (s206.2.2 38 (by decide)) (ssP_cg (s204.2.2 37 (by decide)) (s204.2.2 38 (by decide)) (ssP_cg (s200.2.2 37 (by decide)) (s200.2.2 38 (by decide)) (ssP_cg (s198.2.2 37 (by decide)) (s198.2.2 38 (by decide)) f195)))))
        have f212 : thF [7] (B 37) (B 38) (B208 37) (B208 38) := (thF_cg (s208.2.2 37 (by decide)) (s208.2.2 38 (by decide)) (thF_cg (s206.2.2 37 (by decide)) (s206.2.2 38 (by decide)) (thF_cg (s204.2.2 37 (by decide)) (s204.2.2 38 (by decide)) (thF_cg (s200.2.2 37 (by decide)) (s200.2.2 38 (by decide)) (thF_cg (s198.2.2 37 (by decide)) (s198.2.2 38 (by decide)) f196)))))
        obtain ⟨x208, g208_MF⟩ := p208
        obtain ⟨z213, e213, l213, u213⟩ := x208
        refine lv_aload_n X.1 X.2.1 d_M_reply_191 rfl (lv_at hl 1 rfl) ?_
        refine lv_bipush (v := iI 48) X.1 X.2.1 d_M_reply_192 (by decide) ?_
        refine lv_ldc (v := (60000)) X.1 X.2.1 X.2.2.2.1 (X.2.2.1 _ cn_M_9) d_M_reply_194 ?_
        refine t_eq (y := iI 60000) (by decide) ?_
        refine r_nv (m_run (As := [.int (iI 48), .int (iI 60000)]) (rest := []) (n := 2) X Y hZ hA hml hl.1 (r_M_head l D E h q H.size I208 J208 B208 G208 48 (by omega) (by omega) 60000 (by omega) (by omega) S.1 z213 e213 (by omega) (by omega)) kl_M_head ks_M_head kx_M_head ki_M_head ini_M hd_M_head ⟨Nat.le_of_ble_eq_true rfl, Nat.le_of_ble_eq_true rfl⟩ rfl (Nat.le_of_ble_eq_true rfl) d_M_reply_196 ⟨Nat.le_refl _, Nat.le_refl _⟩) X Y hA S (by decide) (by decide) (fun u H locs Y S s214 p214 => ?_)
        obtain ⟨I214, J214, B214, G214⟩ := u
        dsimp only at Y S s214 p214
        obtain ⟨x214, g214_MF⟩ := p214
        obtain ⟨z215, e215, l215, u215⟩ := x214
        refine lv_aload_n X.1 X.2.1 d_M_reply_199 rfl (lv_at hl 1 rfl) ?_
        refine lv_aload_n X.1 X.2.1 d_M_reply_200 rfl (lv_at hl 1 rfl) ?_
        refine r_get0 X Y (by decide) lk_isAs (gf_isAs _ _ _) rfl ((s214.2.1 69 (by decide)).trans ((s208.2.1 69 (by decide)).trans ((s206.2.1 69 (by decide)).trans ((s204.2.1 69 (by decide)).trans ((s200.2.1 69 (by decide)).trans ((s198.2.1 69 (by decide)).trans ((s193.2.1 69 (by decide)).trans ((s188.2.1 69 (by decide)).trans ((s187.2.1 69 (by decide)).trans ((s185.2.1 69 (by decide)).trans ((s182.2.1 69 (by decide)).trans e166))))))))))) d_M_reply_201 ?_
        have J219 : ∀ (z216 : Int) (H : Heap) (locs : List Loc) (ls : Array Slot), (121 ≤ z216) → (z216 ≤ 122) → (60000 - ((ae - aa) + ss + 341) ≤ z215) → (z215 ≤ 60000) → mH D E (mA E h q sz) s.heap h q I214 J214 B214 G214 H locs → rS [3, 8, 14, 18, 29, 33, 36, 39, 40, 42, 80] [0, 1, 5, 6, 7, 9, 10, 11, 12, 13, 15, 16, 17, 19, 20, 21, 22, 23, 24, 34, 35, 37, 38, 56, 59, 90] I B I214 B214 → lv_has ls 9 [(0, .ref h), (1, .int (iI a1))] → W p l e (mR 44 2018) s m AV below meth c H locs 0 0 QQ (F0 m 214 ls [.int (iI z216), .ref h]) := by
          intro z216 H locs ls l216 u216 i217 i218 Y S hl
          refine lv_ldc (v := (60000)) X.1 X.2.1 X.2.2.2.1 (X.2.2.1 _ cn_M_9) d_M_reply_214 ?_
          refine t_eq (y := iI 60000) (by decide) ?_
          refine r_nv (m_run (As := [.int (iI z216), .int (iI 60000)]) (rest := []) (n := 2) X Y hZ hA hml hl.1 (r_M_head l D E h q H.size I214 J214 B214 G214 z216 (by omega) (by omega) 60000 (by omega) (by omega) S.1 z215 e215 (by omega) (by omega)) kl_M_head ks_M_head kx_M_head ki_M_head ini_M hd_M_head ⟨Nat.le_of_ble_eq_true rfl, Nat.le_of_ble_eq_true rfl⟩ rfl (Nat.le_of_ble_eq_true rfl) d_M_reply_216 ⟨Nat.le_refl _, Nat.le_refl _⟩) X Y hA S (by decide) (by decide) (fun u H locs Y S s223 p223 => ?_)
          obtain ⟨I223, J223, B223, G223⟩ := u
          dsimp only at Y S s223 p223
          have f224 : pG1 I223 := (pG1_cg (s223.2.1 39 (by decide)) (s223.2.1 40 (by decide)) (pG1_cg (s214.2.1 39 (by decide)) (s214.2.1 40 (by decide)) (pG1_cg (s208.2.1 39 (by decide)) (s208.2.1 40 (by decide)) (pG1_cg (s206.2.1 39 (by decide)) (s206.2.1 40 (by decide)) (pG1_cg (s204.2.1 39 (by decide)) (s204.2.1 40 (by decide)) f202)))))
          obtain ⟨x223, g223_MF⟩ := p223
          obtain ⟨z225, e225, l225, u225⟩ := x223
          refine lv_lconst (v := 0) X.1 X.2.1 d_M_reply_219 rfl ?_
          refine lv_lstore (lv' := [(4, .long 0), (0, .ref h), (1, .int (iI a1))]) X.1 X.2.1 d_M_reply_220 hl (by decide) rfl (fun ls hl => ?_)
          refine lv_aload_n X.1 X.2.1 d_M_reply_222 rfl (lv_at hl 1 rfl) ?_
          refine r_get0 X Y (by decide) lk_isAs (gf_isAs _ _ _) rfl ((s223.2.1 69 (by decide)).trans ((s214.2.1 69 (by decide)).trans ((s208.2.1 69 (by decide)).trans ((s206.2.1 69 (by decide)).trans ((s204.2.1 69 (by decide)).trans ((s200.2.1 69 (by decide)).trans ((s198.2.1 69 (by decide)).trans ((s193.2.1 69 (by decide)).trans ((s188.2.1 69 (by decide)).trans ((s187.2.1 69 (by decide)).trans ((s185.2.1 69 (by decide)).trans ((s182.2.1 69 (by decide)).trans e166)))))))))))) d_M_reply_223 ?_
          have J244 : ∀ (z227 : Int) (v228 : Int64) (z229 : Int) (I226 : Nat → Int32) (J226 : Nat → Int64) (B226 : Nat → Nat → Int32) (G226 : Nat → Nat → Int64) (H : Heap) (locs : List Loc) (ls : Array Slot), ((-2147483648) ≤ z227) → (z227 ≤ 2147483647) → (3 ≤ z229) → (z229 ≤ 9) → (pG1 I226) → (pG2 (B226 37) (B226 38)) → (rrP rr (I226 69) (B226 37) (B226 38)) → (ssP ss (B226 37) (B226 38)) → (thF [7] (B 37) (B 38) (B226 37) (B226 38)) → (I226 69 = iI ia) → (I226 86 = iI aa) → (I226 87 = iI ae) → (I226 88 = iI ca) → (I226 89 = iI ce) → (I226 77 = iI ty) → (I226 75 = iI cl) → (I226 42 = iI z225) → (I226 33 = iI cn) → mH D E (mA E h q sz) s.heap h q I226 J226 B226 G226 H locs → rS [3, 8, 14, 18, 29, 33, 36, 39, 40, 42, 80] [0, 1, 5, 6, 7, 9, 10, 11, 12, 13, 15, 16, 17, 19, 20, 21, 22, 23, 24, 34, 35, 37, 38, 56, 59, 90] I B I226 B226 → lv_has ls 9 [(0, .ref h), (1, .int (iI a1)), (3, .int (iI z227)), (4, .long v228), (6, .int (iI z229))] → W p l e (mR 44 2018) s m AV below meth c H locs 0 0 QQ (F0 m 389 ls []) := by
            intro z227 v228 z229 I226 J226 B226 G226 H locs ls l227 u227 l229 u229 f230 f231 f232 f233 f234 e235 e236 e237 e238 e239 e240 e241 e242 e243 Y S hl
            refine lv_aload_n X.1 X.2.1 d_M_reply_389 rfl (lv_at hl 0 rfl) ?_
            refine lv_aload_n X.1 X.2.1 d_M_reply_390 rfl (lv_at hl 0 rfl) ?_
            refine m_get X Y 56 (by decide) lk_made (gf_made _ _ _) rfl d_M_reply_391 ?_
            refine lv_iload_n X.1 X.2.1 d_M_reply_394 rfl (lv_at hl 2 rfl) ?_
            refine lv_iload X.1 X.2.1 d_M_reply_395 (lv_at hl 4 rfl) ?_
            refine lv_aload_n X.1 X.2.1 d_M_reply_397 rfl (lv_at hl 0 rfl) ?_
            refine r_get0 X Y (by decide) lk_w0 (gf_w0 _ _ _) rfl e242 d_M_reply_398 ?_
            refine lv_ldc (v := (60000)) X.1 X.2.1 X.2.2.2.1 (X.2.2.1 _ cn_M_9) d_M_reply_401 ?_
            refine t_eq (y := iI 60000) (by decide) ?_
            refine r_nv (m_run (As := [.ref ((q 56)), .int (iI z227), .int (iI z229), .int (iI z225), .int (iI 60000)]) (rest := []) (n := 5) X Y hZ hA hml hl.1 (r_M_seal_made l D E h q H.size I226 J226 B226 G226 z227 (by omega) (by omega) z229 (by omega) (by omega) z225 (by omega) (by omega) 60000 (by omega) (by omega) S.1 cn e243 (by omega) (by omega) (by omega) (by omega)) kl_M_seal ks_M_seal kx_M_seal ki_M_seal ini_M hd_M_seal ⟨Nat.le_of_ble_eq_true rfl, Nat.le_of_ble_eq_true rfl⟩ rfl (Nat.le_of_ble_eq_true rfl) d_M_reply_403 ⟨Nat.le_refl _, Nat.le_refl _⟩) X Y hA S (by decide) (by decide) (fun u H locs Y S s248 p248 => ?_)
            obtain ⟨I248, J248, B248, G248⟩ := u
            dsimp only at Y S s248 p248
            have x248 := p248
            obtain ⟨x248_0, x248_1⟩ := x248
            refine lv_aload_n X.1 X.2.1 d_M_reply_406 rfl (lv_at hl 0 rfl) ?_
            refine r_nv (m_run (As := []) (rest := []) (n := 0) X Y hZ hA hml hl.1 (r_M_start l D E h q H.size I248 J248 B248 G248 S.1) kl_M_start ks_M_start kx_M_start ki_M_start ini_M hd_M_start ⟨Nat.le_of_ble_eq_true rfl, Nat.le_of_ble_eq_true rfl⟩ rfl (Nat.le_of_ble_eq_true rfl) d_M_reply_407 ⟨Nat.le_refl _, Nat.le_refl _⟩) X Y hA S (by decide) (by decide) (fun u H locs Y S s249 p249 => ?_)
            obtain ⟨I249, J249, B249, G249⟩ := u
            dsimp only at Y S s249 p249
            have b249 : B248 = B249 := (funext (fun j => s249.2.2 j (by simp))).symm
            subst b249
            have x249 := p249
            refine lv_aload_n X.1 X.2.1 d_M_reply_410 rfl (lv_at hl 0 rfl) ?_
            refine lv_bipush (v := iI 6) X.1 X.2.1 d_M_reply_411 (by decide) ?_
            refine lv_iload_n X.1 X.2.1 d_M_reply_413 rfl (lv_at hl 2 rfl) ?_
            refine lv_lload X.1 X.2.1 d_M_reply_414 (lv_at hl 3 rfl) ?_
            refine r_nv (m_run (As := [.int (iI 6), .int (iI z227), .long v228]) (rest := []) (n := 3) X Y hZ hA hml hl.1 (r_M_sealedField l D E h q H.size I249 J249 B248 G249 6 (by omega) (by omega) z227 (by omega) (by omega) v228 S.1 60000 (x249.trans (congrArg iI (show (60000 : Int) = 60000 by omega))) (by omega) (by omega) (60000 - z225 + 28) ((s249.2.1 36 (by decide)).trans (x248_0.trans (congrArg iI (show (60000 - z225 + 28 : Int) = 60000 - z225 + 28 by omega)))) (by omega) (by omega) (by omega)) kl_M_sealedField ks_M_sealedField kx_M_sealedField ki_M_sealedField ini_M hd_M_sealedField ⟨Nat.le_of_ble_eq_true rfl, Nat.le_of_ble_eq_true rfl⟩ rfl (Nat.le_of_ble_eq_true rfl) d_M_reply_416 ⟨Nat.le_refl _, Nat.le_refl _⟩) X Y hA S (by decide) (by decide) (fun u H locs Y S s250 p250 => ?_)
            obtain ⟨I250, J250, B250, G250⟩ := u
            dsimp only at Y S s250 p250
            obtain ⟨x250, g250_MF⟩ := p250
            obtain ⟨z251, e251, l251, u251⟩ := x250
            refine lv_aload_n X.1 X.2.1 d_M_reply_419 rfl (lv_at hl 0 rfl) ?_
            refine lv_iconst (v := iI 5) X.1 X.2.1 d_M_reply_420 (by decide) ?_
            refine lv_sipush (v := iI 22200) X.1 X.2.1 d_M_reply_421 (by decide) ?_
            refine lv_sipush (v := iI 22200) X.1 X.2.1 d_M_reply_424 (by decide) ?_
            refine lv_iload_n X.1 X.2.1 d_M_reply_427 rfl (lv_at hl 1 rfl) ?_
            refine z_iadd X.1 X.2.1 d_M_reply_428 ?_
            refine r_nv (m_run (As := [.int (iI 5), .int (iI 22200), .int (iI (22200 + a1))]) (rest := []) (n := 3) X Y hZ hA hml hl.1 (r_M_copyField l D E h q H.size I250 J250 B250 G250 5 (by omega) (by omega) 22200 (by omega) (by omega) (22200 + a1) (by omega) (by omega) S.1 z251 e251 (by omega) (by omega) (by omega) (by omega) (by omega) (by omega)) kl_M_copyField ks_M_copyField kx_M_copyField ki_M_copyField ini_M hd_M_copyField ⟨Nat.le_of_ble_eq_true rfl, Nat.le_of_ble_eq_true rfl⟩ rfl (Nat.le_of_ble_eq_true rfl) d_M_reply_429 ⟨Nat.le_refl _, Nat.le_refl _⟩) X Y hA S (by decide) (by decide) (fun u H locs Y S s252 p252 => ?_)
            obtain ⟨I252, J252, B252, G252⟩ := u
            dsimp only at Y S s252 p252
            have f253 : rrP rr (I252 69) (B252 37) (B252 38) := (rrP_cg (s252.2.1 69 (by decide)) (s252.2.2 37 (by decide)) (s252.2.2 38 (by decide)) (rrP_cg (s250.2.1 69 (by decide)) (s250.2.2 37 (by decide)) (s250.2.2 38 (by decide)) (rrP_cg (s249.2.1 69 (by decide)) rfl rfl (rrP_cg (s248.2.1 69 (by decide)) (s248.2.2 37 (by decide)) (s248.2.2 38 (by decide)) f232))))
            obtain ⟨x252, g252_MF⟩ := p252
            obtain ⟨z254, e254, l254, u254⟩ := x252
            refine lv_aload_n X.1 X.2.1 d_M_reply_432 rfl (lv_at hl 0 rfl) ?_
            refine lv_iconst (v := iI 4) X.1 X.2.1 d_M_reply_433 (by decide) ?_
            refine lv_aload_n X.1 X.2.1 d_M_reply_434 rfl (lv_at hl 0 rfl) ?_
            refine r_get0 X Y (by decide) lk_clientAt (gf_clientAt _ _ _) rfl ((s252.2.1 88 (by decide)).trans ((s250.2.1 88 (by decide)).trans ((s249.2.1 88 (by decide)).trans ((s248.2.1 88 (by decide)).trans e238)))) d_M_reply_435 ?_
            refine lv_aload_n X.1 X.2.1 d_M_reply_438 rfl (lv_at hl 0 rfl) ?_
            refine r_get0 X Y (by decide) lk_clientEnd (gf_clientEnd _ _ _) rfl ((s252.2.1 89 (by decide)).trans ((s250.2.1 89 (by decide)).trans ((s249.2.1 89 (by decide)).trans ((s248.2.1 89 (by decide)).trans e239)))) d_M_reply_439 ?_
            refine r_nv (m_run (As := [.int (iI 4), .int (iI ca), .int (iI ce)]) (rest := []) (n := 3) X Y hZ hA hml hl.1 (r_M_copyField l D E h q H.size I252 J252 B252 G252 4 (by omega) (by omega) ca (by omega) (by omega) ce (by omega) (by omega) S.1 z254 e254 (by omega) (by omega) (by omega) (by omega) (by omega) (by omega)) kl_M_copyField ks_M_copyField kx_M_copyField ki_M_copyField ini_M hd_M_copyField ⟨Nat.le_of_ble_eq_true rfl, Nat.le_of_ble_eq_true rfl⟩ rfl (Nat.le_of_ble_eq_true rfl) d_M_reply_442 ⟨Nat.le_refl _, Nat.le_refl _⟩) X Y hA S (by decide) (by decide) (fun u H locs Y S s255 p255 => ?_)
            obtain ⟨I255, J255, B255, G255⟩ := u
            dsimp only at Y S s255 p255
            have f256 : pG2 (B255 37) (B255 38) := (pG2_cg (s255.2.2 37 (by decide)) (s255.2.2 38 (by decide)) (pG2_cg (s252.2.2 37 (by decide)) (s252.2.2 38 (by decide)) (pG2_cg (s250.2.2 37 (by decide)) (s250.2.2 38 (by decide)) (pG2_cg rfl rfl (pG2_cg (s248.2.2 37 (by decide)) (s248.2.2 38 (by decide)) f231)))))
            have f257 : ssP ss (B255 37) (B255 38) := (ssP_cg (s255.2.2 37 (by decide)) (s255.2.2 38 (by decide)) (ssP_cg (s252.2.2 37 (by decide)) (s252.2.2 38 (by decide)) (ssP_cg (s250.2.2 37 (by decide)) (s250.2.2 38 (by decide)) (ssP_cg rfl rfl (ssP_cg (s248.2.2 37 (by decide)) (s248.2.2 38 (by decide)) f233)))))
            have f258 : thF [7] (B 37) (B 38) (B255 37) (B255 38) := (thF_cg (s255.2.2 37 (by decide)) (s255.2.2 38 (by decide)) (thF_cg (s252.2.2 37 (by decide)) (s252.2.2 38 (by decide)) (thF_cg (s250.2.2 37 (by decide)) (s250.2.2 38 (by decide)) (thF_cg rfl rfl (thF_cg (s248.2.2 37 (by decide)) (s248.2.2 38 (by decide)) f234)))))
            have f259 : pG1 I255 := (pG1_cg (s255.2.1 39 (by decide)) (s255.2.1 40 (by decide)) (pG1_cg (s252.2.1 39 (by decide)) (s252.2.1 40 (by decide)) (pG1_cg (s250.2.1 39 (by decide)) (s250.2.1 40 (by decide)) (pG1_cg (s249.2.1 39 (by decide)) (s249.2.1 40 (by decide)) (pG1_cg (s248.2.1 39 (by decide)) (s248.2.1 40 (by decide)) f230)))))
            obtain ⟨x255, g255_MF⟩ := p255
            obtain ⟨z260, e260, l260, u260⟩ := x255
            refine lv_aload_n X.1 X.2.1 d_M_reply_445 rfl (lv_at hl 0 rfl) ?_
            refine r_get0 X Y (by decide) lk_isAs (gf_isAs _ _ _) rfl ((s255.2.1 69 (by decide)).trans ((s252.2.1 69 (by decide)).trans ((s250.2.1 69 (by decide)).trans ((s249.2.1 69 (by decide)).trans ((s248.2.1 69 (by decide)).trans e235))))) d_M_reply_446 ?_
            have J279 : ∀ (z276 : Int) (I261 : Nat → Int32) (J261 : Nat → Int64) (B261 : Nat → Nat → Int32) (G261 : Nat → Nat → Int64) (H : Heap) (locs : List Loc) (ls : Array Slot), (pG1 I261) → (pG2 (B261 37) (B261 38)) → (rrP rr (I261 69) (B261 37) (B261 38)) → (ssP ss (B261 37) (B261 38)) → (thF [7] (B 37) (B 38) (B261 37) (B261 38)) → (I261 69 = iI ia) → (I261 86 = iI aa) → (I261 87 = iI ae) → (I261 88 = iI ca) → (I261 89 = iI ce) → (I261 77 = iI ty) → (I261 75 = iI cl) → (I261 33 = iI (cn + 16)) → (I261 36 = iI (60000 - z225 + 28)) → (I261 42 = iI z276) → (0 ≤ z276) → (z276 ≤ 60000) → (60000 - ((ae - aa) + ss + 373 + 70 + a1 + 4 + (ce - ca) + 4 + rr + 84) ≤ z276) → (z276 ≤ 60000) → mH D E (mA E h q sz) s.heap h q I261 J261 B261 G261 H locs → rS [3, 8, 14, 18, 29, 33, 36, 39, 40, 42, 80] [0, 1, 5, 6, 7, 9, 10, 11, 12, 13, 15, 16, 17, 19, 20, 21, 22, 23, 24, 34, 35, 37, 38, 56, 59, 90] I B I261 B261 → lv_has ls 9 [(0, .ref h)] → W p l e (mR 44 2018) s m AV below meth c H locs 0 0 QQ (F0 m 480 ls []) := by
              intro z276 I261 J261 B261 G261 H locs ls f262 f263 f264 f265 f266 e267 e268 e269 e270 e271 e272 e273 e274 e275 e276 l276 u276 i277 i278 Y S hl
              refine lv_aload_n X.1 X.2.1 d_M_reply_480 rfl (lv_at hl 0 rfl) ?_
              refine r_get0 X Y (by decide) lk_isAs (gf_isAs _ _ _) rfl e267 d_M_reply_481 ?_
              have J301 : ∀ (z298 : Int) (I283 : Nat → Int32) (J283 : Nat → Int64) (B283 : Nat → Nat → Int32) (G283 : Nat → Nat → Int64) (H : Heap) (locs : List Loc) (ls : Array Slot), (pG1 I283) → (pG2 (B283 37) (B283 38)) → (rrP rr (I283 69) (B283 37) (B283 38)) → (ssP ss (B283 37) (B283 38)) → (thF [7] (B 37) (B 38) (B283 37) (B283 38)) → (I283 69 = iI ia) → (I283 86 = iI aa) → (I283 87 = iI ae) → (I283 88 = iI ca) → (I283 89 = iI ce) → (I283 77 = iI ty) → (I283 75 = iI cl) → (I283 33 = iI (cn + 16)) → (I283 36 = iI (60000 - z225 + 28)) → (I283 42 = iI z298) → (0 ≤ z298) → (z298 ≤ 60000) → (60000 - ((ae - aa) + ss + 373 + 70 + a1 + 4 + (ce - ca) + 4 + rr + 84 + 460) ≤ z298) → (z298 ≤ 60000) → mH D E (mA E h q sz) s.heap h q I283 J283 B283 G283 H locs → rS [3, 8, 14, 18, 29, 33, 36, 39, 40, 42, 80] [0, 1, 5, 6, 7, 9, 10, 11, 12, 13, 15, 16, 17, 19, 20, 21, 22, 23, 24, 34, 35, 37, 38, 56, 59, 90] I B I283 B283 → lv_has ls 9 [(0, .ref h)] → W p l e (mR 44 2018) s m AV below meth c H locs 0 0 QQ (F0 m 565 ls []) := by
                intro z298 I283 J283 B283 G283 H locs ls f284 f285 f286 f287 f288 e289 e290 e291 e292 e293 e294 e295 e296 e297 e298 l298 u298 i299 i300 Y S hl
                refine lv_aload_n X.1 X.2.1 d_M_reply_565 rfl (lv_at hl 0 rfl) ?_
                refine lv_iconst (v := iI 1) X.1 X.2.1 d_M_reply_566 (by decide) ?_
                refine lv_aload_n X.1 X.2.1 d_M_reply_567 rfl (lv_at hl 0 rfl) ?_
                refine r_get0 X Y (by decide) lk_isAs (gf_isAs _ _ _) rfl e289 d_M_reply_568 ?_
                refine z_if_eq (tgt := 580) X.1 X.2.1 d_M_reply_571 (by decide) ⟨by omega, by omega⟩ (fun h305 => ?_) (fun h305 => ?_)
                · refine lv_ldc2 (v := (13)) X.1 X.2.1 X.2.2.2.1 (X.2.2.1 _ cl_M_903) d_M_reply_580 ?_
                  refine r_nv (m_run (As := [.int (iI 1), .long ((13))]) (rest := []) (n := 2) X Y hZ hA hml hl.1 (r_M_numberField l D E h q H.size I283 J283 B283 G283 1 (by omega) (by omega) ((13)) S.1 z298 e298 (by omega) (by omega)) kl_M_numberField ks_M_numberField kx_M_numberField ki_M_numberField ini_M hd_M_numberField ⟨Nat.le_of_ble_eq_true rfl, Nat.le_of_ble_eq_true rfl⟩ rfl (Nat.le_of_ble_eq_true rfl) d_M_reply_583 ⟨Nat.le_refl _, Nat.le_refl _⟩) X Y hA S (by decide) (by decide) (fun u H locs Y S s306 p306 => ?_)
                  obtain ⟨I306, J306, B306, G306⟩ := u
                  dsimp only at Y S s306 p306
                  obtain ⟨x306, g306_MF⟩ := p306
                  obtain ⟨z307, e307, l307, u307⟩ := x306
                  refine lv_aload_n X.1 X.2.1 d_M_reply_586 rfl (lv_at hl 0 rfl) ?_
                  refine lv_iconst (v := iI 0) X.1 X.2.1 d_M_reply_587 (by decide) ?_
                  refine lv_ldc2 (v := (5)) X.1 X.2.1 X.2.2.2.1 (X.2.2.1 _ cl_M_669) d_M_reply_588 ?_
                  refine r_nv (m_run (As := [.int (iI 0), .long ((5))]) (rest := []) (n := 2) X Y hZ hA hml hl.1 (r_M_numberField l D E h q H.size I306 J306 B306 G306 0 (by omega) (by omega) ((5)) S.1 z307 e307 (by omega) (by omega)) kl_M_numberField ks_M_numberField kx_M_numberField ki_M_numberField ini_M hd_M_numberField ⟨Nat.le_of_ble_eq_true rfl, Nat.le_of_ble_eq_true rfl⟩ rfl (Nat.le_of_ble_eq_true rfl) d_M_reply_591 ⟨Nat.le_refl _, Nat.le_refl _⟩) X Y hA S (by decide) (by decide) (fun u H locs Y S s308 p308 => ?_)
                  obtain ⟨I308, J308, B308, G308⟩ := u
                  dsimp only at Y S s308 p308
                  obtain ⟨x308, g308_MF⟩ := p308
                  obtain ⟨z309, e309, l309, u309⟩ := x308
                  refine lv_aload_n X.1 X.2.1 d_M_reply_594 rfl (lv_at hl 0 rfl) ?_
                  refine lv_bipush (v := iI 48) X.1 X.2.1 d_M_reply_595 (by decide) ?_
                  refine lv_ldc (v := (60000)) X.1 X.2.1 X.2.2.2.1 (X.2.2.1 _ cn_M_9) d_M_reply_597 ?_
                  refine t_eq (y := iI 60000) (by decide) ?_
                  refine r_nv (m_run (As := [.int (iI 48), .int (iI 60000)]) (rest := []) (n := 2) X Y hZ hA hml hl.1 (r_M_head l D E h q H.size I308 J308 B308 G308 48 (by omega) (by omega) 60000 (by omega) (by omega) S.1 z309 e309 (by omega) (by omega)) kl_M_head ks_M_head kx_M_head ki_M_head ini_M hd_M_head ⟨Nat.le_of_ble_eq_true rfl, Nat.le_of_ble_eq_true rfl⟩ rfl (Nat.le_of_ble_eq_true rfl) d_M_reply_599 ⟨Nat.le_refl _, Nat.le_refl _⟩) X Y hA S (by decide) (by decide) (fun u H locs Y S s310 p310 => ?_)
                  obtain ⟨I310, J310, B310, G310⟩ := u
                  dsimp only at Y S s310 p310
                  have f311 : rrP rr (I310 69) (B310 37) (B310 38) := (rrP_cg (s310.2.1 69 (by decide)) (s310.2.2 37 (by decide)) (s310.2.2 38 (by decide)) (rrP_cg (s308.2.1 69 (by decide)) (s308.2.2 37 (by decide)) (s308.2.2 38 (by decide)) (rrP_cg (s306.2.1 69 (by decide)) (s306.2.2 37 (by decide)) (s306.2.2 38 (by decide)) f286)))
                  obtain ⟨x310, g310_MF⟩ := p310
                  obtain ⟨z312, e312, l312, u312⟩ := x310
                  refine lv_aload_n X.1 X.2.1 d_M_reply_602 rfl (lv_at hl 0 rfl) ?_
                  refine lv_aload_n X.1 X.2.1 d_M_reply_603 rfl (lv_at hl 0 rfl) ?_
                  refine r_get0 X Y (by decide) lk_isAs (gf_isAs _ _ _) rfl ((s310.2.1 69 (by decide)).trans ((s308.2.1 69 (by decide)).trans ((s306.2.1 69 (by decide)).trans e289))) d_M_reply_604 ?_
                  refine z_if_eq (tgt := 615) X.1 X.2.1 d_M_reply_607 (by decide) ⟨by omega, by omega⟩ (fun h313 => ?_) (fun h313 => False.elim (by omega))
                  · refine lv_bipush (v := iI 109) X.1 X.2.1 d_M_reply_615 (by decide) ?_
                    refine lv_ldc (v := (60000)) X.1 X.2.1 X.2.2.2.1 (X.2.2.1 _ cn_M_9) d_M_reply_617 ?_
                    refine t_eq (y := iI 60000) (by decide) ?_
                    refine r_nv (m_run (As := [.int (iI 109), .int (iI 60000)]) (rest := []) (n := 2) X Y hZ hA hml hl.1 (r_M_head l D E h q H.size I310 J310 B310 G310 109 (by omega) (by omega) 60000 (by omega) (by omega) S.1 z312 e312 (by omega) (by omega)) kl_M_head ks_M_head kx_M_head ki_M_head ini_M hd_M_head ⟨Nat.le_of_ble_eq_true rfl, Nat.le_of_ble_eq_true rfl⟩ rfl (Nat.le_of_ble_eq_true rfl) d_M_reply_619 ⟨Nat.le_refl _, Nat.le_refl _⟩) X Y hA S (by decide) (by decide) (fun u H locs Y S s314 p314 => ?_)
                    obtain ⟨I314, J314, B314, G314⟩ := u
                    dsimp only at Y S s314 p314
                    obtain ⟨x314, g314_MF⟩ := p314
                    obtain ⟨z315, e315, l315, u315⟩ := x314
                    refine lv_aload_n X.1 X.2.1 d_M_reply_622 rfl (lv_at hl 0 rfl) ?_
                    refine r_nv (m_run (As := []) (rest := []) (n := 0) X Y hZ hA hml hl.1 (r_M_written l D E h q H.size I314 J314 B314 G314 S.1 z315 e315 (by omega) (by omega)) kl_M_written ks_M_written kx_M_written ki_M_written ini_M hd_M_written ⟨Nat.le_of_ble_eq_true rfl, Nat.le_of_ble_eq_true rfl⟩ rfl (Nat.le_of_ble_eq_true rfl) d_M_reply_623 ⟨Nat.le_refl _, Nat.le_refl _⟩) X Y hA S (by decide) (by decide) (fun u H locs Y S s316 p316 => ?_)
                    obtain ⟨I316, J316, B316, G316⟩ := u
                    dsimp only at Y S s316 p316
                    have f317 : pG2 (B316 37) (B316 38) := (pG2_cg (s316.2.2 37 (by decide)) (s316.2.2 38 (by decide)) (pG2_cg (s314.2.2 37 (by decide)) (s314.2.2 38 (by decide)) (pG2_cg (s310.2.2 37 (by decide)) (s310.2.2 38 (by decide)) (pG2_cg (s308.2.2 37 (by decide)) (s308.2.2 38 (by decide)) (pG2_cg (s306.2.2 37 (by decide)) (s306.2.2 38 (by decide)) f285)))))
                    have f318 : ssP ss (B316 37) (B316 38) := (ssP_cg (s316.2.2 37 (by decide)) (s316.2.2 38 (by decide)) (ssP_cg (s314.2.2 37 (by decide)) (s314.2.2 38 (by decide)) (ssP_cg (s310.2.2 37 (by decide)) (s310.2.2 38 (by decide)) (ssP_cg (s308.2.2 37 (by decide)) (s308.2.2 38 (by decide)) (ssP_cg (s306.2.2 37 (by decide)) (s306.2.2 38 (by decide)) f287)))))
                    have f319 : thF [7] (B 37) (B 38) (B316 37) (B316 38) := (thF_cg (s316.2.2 37 (by decide)) (s316.2.2 38 (by decide)) (thF_cg (s314.2.2 37 (by decide)) (s314.2.2 38 (by decide)) (thF_cg (s310.2.2 37 (by decide)) (s310.2.2 38 (by decide)) (thF_cg (s308.2.2 37 (by decide)) (s308.2.2 38 (by decide)) (thF_cg (s306.2.2 37 (by decide)) (s306.2.2 38 (by decide)) f288)))))
                    have f320 : pG1 I316 := (pG1_cg (s316.2.1 39 (by decide)) (s316.2.1 40 (by decide)) (pG1_cg (s314.2.1 39 (by decide)) (s314.2.1 40 (by decide)) (pG1_cg (s310.2.1 39 (by decide)) (s310.2.1 40 (by decide)) (pG1_cg (s308.2.1 39 (by decide)) (s308.2.1 40 (by decide)) (pG1_cg (s306.2.1 39 (by decide)) (s306.2.1 40 (by decide)) f284)))))
                    have g316_MF := p316
                    exact m_retv hQQ X Y hr hlk ⟨S, ⟨⟨⟨cn + 16, ((s316.2.1 33 (by decide)).trans ((s314.2.1 33 (by decide)).trans ((s310.2.1 33 (by decide)).trans ((s308.2.1 33 (by decide)).trans ((s306.2.1 33 (by decide)).trans e296))))), by omega, by omega⟩⟩, f320, f317, f319⟩⟩ d_M_reply_626
                · refine lv_ldc2 (v := (11)) X.1 X.2.1 X.2.2.2.1 (X.2.2.1 _ cl_M_901) d_M_reply_574 ?_
                  refine lv_goto (tgt := 583) X.1 X.2.1 d_M_reply_577 (by decide) ?_
                  refine r_nv (m_run (As := [.int (iI 1), .long ((11))]) (rest := []) (n := 2) X Y hZ hA hml hl.1 (r_M_numberField l D E h q H.size I283 J283 B283 G283 1 (by omega) (by omega) ((11)) S.1 z298 e298 (by omega) (by omega)) kl_M_numberField ks_M_numberField kx_M_numberField ki_M_numberField ini_M hd_M_numberField ⟨Nat.le_of_ble_eq_true rfl, Nat.le_of_ble_eq_true rfl⟩ rfl (Nat.le_of_ble_eq_true rfl) d_M_reply_583 ⟨Nat.le_refl _, Nat.le_refl _⟩) X Y hA S (by decide) (by decide) (fun u H locs Y S s321 p321 => ?_)
                  obtain ⟨I321, J321, B321, G321⟩ := u
                  dsimp only at Y S s321 p321
                  obtain ⟨x321, g321_MF⟩ := p321
                  obtain ⟨z322, e322, l322, u322⟩ := x321
                  refine lv_aload_n X.1 X.2.1 d_M_reply_586 rfl (lv_at hl 0 rfl) ?_
                  refine lv_iconst (v := iI 0) X.1 X.2.1 d_M_reply_587 (by decide) ?_
                  refine lv_ldc2 (v := (5)) X.1 X.2.1 X.2.2.2.1 (X.2.2.1 _ cl_M_669) d_M_reply_588 ?_
                  refine r_nv (m_run (As := [.int (iI 0), .long ((5))]) (rest := []) (n := 2) X Y hZ hA hml hl.1 (r_M_numberField l D E h q H.size I321 J321 B321 G321 0 (by omega) (by omega) ((5)) S.1 z322 e322 (by omega) (by omega)) kl_M_numberField ks_M_numberField kx_M_numberField ki_M_numberField ini_M hd_M_numberField ⟨Nat.le_of_ble_eq_true rfl, Nat.le_of_ble_eq_true rfl⟩ rfl (Nat.le_of_ble_eq_true rfl) d_M_reply_591 ⟨Nat.le_refl _, Nat.le_refl _⟩) X Y hA S (by decide) (by decide) (fun u H locs Y S s323 p323 => ?_)
                  obtain ⟨I323, J323, B323, G323⟩ := u
                  dsimp only at Y S s323 p323
                  obtain ⟨x323, g323_MF⟩ := p323
                  obtain ⟨z324, e324, l324, u324⟩ := x323
                  refine lv_aload_n X.1 X.2.1 d_M_reply_594 rfl (lv_at hl 0 rfl) ?_
                  refine lv_bipush (v := iI 48) X.1 X.2.1 d_M_reply_595 (by decide) ?_
                  refine lv_ldc (v := (60000)) X.1 X.2.1 X.2.2.2.1 (X.2.2.1 _ cn_M_9) d_M_reply_597 ?_
                  refine t_eq (y := iI 60000) (by decide) ?_
                  refine r_nv (m_run (As := [.int (iI 48), .int (iI 60000)]) (rest := []) (n := 2) X Y hZ hA hml hl.1 (r_M_head l D E h q H.size I323 J323 B323 G323 48 (by omega) (by omega) 60000 (by omega) (by omega) S.1 z324 e324 (by omega) (by omega)) kl_M_head ks_M_head kx_M_head ki_M_head ini_M hd_M_head ⟨Nat.le_of_ble_eq_true rfl, Nat.le_of_ble_eq_true rfl⟩ rfl (Nat.le_of_ble_eq_true rfl) d_M_reply_599 ⟨Nat.le_refl _, Nat.le_refl _⟩) X Y hA S (by decide) (by decide) (fun u H locs Y S s325 p325 => ?_)
                  obtain ⟨I325, J325, B325, G325⟩ := u
                  dsimp only at Y S s325 p325
                  have f326 : rrP rr (I325 69) (B325 37) (B325 38) := (rrP_cg (s325.2.1 69 (by decide)) (s325.2.2 37 (by decide)) (s325.2.2 38 (by decide)) (rrP_cg (s323.2.1 69 (by decide)) (s323.2.2 37 (by decide)) (s323.2.2 38 (by decide)) (rrP_cg (s321.2.1 69 (by decide)) (s321.2.2 37 (by decide)) (s321.2.2 38 (by decide)) f286)))
                  obtain ⟨x325, g325_MF⟩ := p325
                  obtain ⟨z327, e327, l327, u327⟩ := x325
                  refine lv_aload_n X.1 X.2.1 d_M_reply_602 rfl (lv_at hl 0 rfl) ?_
                  refine lv_aload_n X.1 X.2.1 d_M_reply_603 rfl (lv_at hl 0 rfl) ?_
                  refine r_get0 X Y (by decide) lk_isAs (gf_isAs _ _ _) rfl ((s325.2.1 69 (by decide)).trans ((s323.2.1 69 (by decide)).trans ((s321.2.1 69 (by decide)).trans e289))) d_M_reply_604 ?_
                  refine z_if_eq (tgt := 615) X.1 X.2.1 d_M_reply_607 (by decide) ⟨by omega, by omega⟩ (fun h328 => False.elim (by omega)) (fun h328 => ?_)
                  · refine lv_bipush (v := iI 107) X.1 X.2.1 d_M_reply_610 (by decide) ?_
                    refine lv_goto (tgt := 617) X.1 X.2.1 d_M_reply_612 (by decide) ?_
                    refine lv_ldc (v := (60000)) X.1 X.2.1 X.2.2.2.1 (X.2.2.1 _ cn_M_9) d_M_reply_617 ?_
                    refine t_eq (y := iI 60000) (by decide) ?_
                    refine r_nv (m_run (As := [.int (iI 107), .int (iI 60000)]) (rest := []) (n := 2) X Y hZ hA hml hl.1 (r_M_head l D E h q H.size I325 J325 B325 G325 107 (by omega) (by omega) 60000 (by omega) (by omega) S.1 z327 e327 (by omega) (by omega)) kl_M_head ks_M_head kx_M_head ki_M_head ini_M hd_M_head ⟨Nat.le_of_ble_eq_true rfl, Nat.le_of_ble_eq_true rfl⟩ rfl (Nat.le_of_ble_eq_true rfl) d_M_reply_619 ⟨Nat.le_refl _, Nat.le_refl _⟩) X Y hA S (by decide) (by decide) (fun u H locs Y S s329 p329 => ?_)
                    obtain ⟨I329, J329, B329, G329⟩ := u
                    dsimp only at Y S s329 p329
                    obtain ⟨x329, g329_MF⟩ := p329
                    obtain ⟨z330, e330, l330, u330⟩ := x329
                    refine lv_aload_n X.1 X.2.1 d_M_reply_622 rfl (lv_at hl 0 rfl) ?_
                    refine r_nv (m_run (As := []) (rest := []) (n := 0) X Y hZ hA hml hl.1 (r_M_written l D E h q H.size I329 J329 B329 G329 S.1 z330 e330 (by omega) (by omega)) kl_M_written ks_M_written kx_M_written ki_M_written ini_M hd_M_written ⟨Nat.le_of_ble_eq_true rfl, Nat.le_of_ble_eq_true rfl⟩ rfl (Nat.le_of_ble_eq_true rfl) d_M_reply_623 ⟨Nat.le_refl _, Nat.le_refl _⟩) X Y hA S (by decide) (by decide) (fun u H locs Y S s331 p331 => ?_)
                    obtain ⟨I331, J331, B331, G331⟩ := u
                    dsimp only at Y S s331 p331
                    have f332 : pG2 (B331 37) (B331 38) := (pG2_cg (s331.2.2 37 (by decide)) (s331.2.2 38 (by decide)) (pG2_cg (s329.2.2 37 (by decide)) (s329.2.2 38 (by decide)) (pG2_cg (s325.2.2 37 (by decide)) (s325.2.2 38 (by decide)) (pG2_cg (s323.2.2 37 (by decide)) (s323.2.2 38 (by decide)) (pG2_cg (s321.2.2 37 (by decide)) (s321.2.2 38 (by decide)) f285)))))
                    have f333 : ssP ss (B331 37) (B331 38) := (ssP_cg (s331.2.2 37 (by decide)) (s331.2.2 38 (by decide)) (ssP_cg (s329.2.2 37 (by decide)) (s329.2.2 38 (by decide)) (ssP_cg (s325.2.2 37 (by decide)) (s325.2.2 38 (by decide)) (ssP_cg (s323.2.2 37 (by decide)) (s323.2.2 38 (by decide)) (ssP_cg (s321.2.2 37 (by decide)) (s321.2.2 38 (by decide)) f287)))))
                    have f334 : thF [7] (B 37) (B 38) (B331 37) (B331 38) := (thF_cg (s331.2.2 37 (by decide)) (s331.2.2 38 (by decide)) (thF_cg (s329.2.2 37 (by decide)) (s329.2.2 38 (by decide)) (thF_cg (s325.2.2 37 (by decide)) (s325.2.2 38 (by decide)) (thF_cg (s323.2.2 37 (by decide)) (s323.2.2 38 (by decide)) (thF_cg (s321.2.2 37 (by decide)) (s321.2.2 38 (by decide)) f288)))))
                    have f335 : pG1 I331 := (pG1_cg (s331.2.1 39 (by decide)) (s331.2.1 40 (by decide)) (pG1_cg (s329.2.1 39 (by decide)) (s329.2.1 40 (by decide)) (pG1_cg (s325.2.1 39 (by decide)) (s325.2.1 40 (by decide)) (pG1_cg (s323.2.1 39 (by decide)) (s323.2.1 40 (by decide)) (pG1_cg (s321.2.1 39 (by decide)) (s321.2.1 40 (by decide)) f284)))))
                    have g331_MF := p331
                    exact m_retv hQQ X Y hr hlk ⟨S, ⟨⟨⟨cn + 16, ((s331.2.1 33 (by decide)).trans ((s329.2.1 33 (by decide)).trans ((s325.2.1 33 (by decide)).trans ((s323.2.1 33 (by decide)).trans ((s321.2.1 33 (by decide)).trans e296))))), by omega, by omega⟩⟩, f335, f332, f334⟩⟩ d_M_reply_626
              refine z_if_eq (tgt := 565) X.1 X.2.1 d_M_reply_484 (by decide) ⟨by omega, by omega⟩ (fun h336 => ?_) (fun h336 => ?_)
              · exact J301 z276 I261 J261 B261 G261 _ _ _ f262 f263 f264 f265 f266 e267 e268 e269 e270 e271 e272 e273 e274 e275 e276 (by omega) (by omega) (by omega) (by omega) Y S (lv_sub hl [0] rfl)
              · refine lv_aload_n X.1 X.2.1 d_M_reply_487 rfl (lv_at hl 0 rfl) ?_
                refine r_get0 X Y (by decide) lk_w0 (gf_w0 _ _ _) rfl e276 d_M_reply_488 ?_
                refine lv_istore (lv' := [(7, .int (iI z276)), (0, .ref h)]) X.1 X.2.1 d_M_reply_491 hl (by decide) rfl (fun ls hl => ?_)
                refine lv_aload_n X.1 X.2.1 d_M_reply_493 rfl (lv_at hl 1 rfl) ?_
                refine r_get0 X Y (by decide) lk_w0 (gf_w0 _ _ _) rfl e276 d_M_reply_494 ?_
                refine lv_istore (lv' := [(8, .int (iI z276)), (7, .int (iI z276)), (0, .ref h)]) X.1 X.2.1 d_M_reply_497 hl (by decide) rfl (fun ls hl => ?_)
                refine lv_aload_n X.1 X.2.1 d_M_reply_499 rfl (lv_at hl 2 rfl) ?_
                refine lv_aload_n X.1 X.2.1 d_M_reply_500 rfl (lv_at hl 2 rfl) ?_
                refine r_get0 X Y (by decide) lk_client (gf_client _ _ _) rfl e273 d_M_reply_501 ?_
                refine lv_aload_n X.1 X.2.1 d_M_reply_504 rfl (lv_at hl 2 rfl) ?_
                refine r_get0 X Y (by decide) lk_type (gf_type _ _ _) rfl e272 d_M_reply_505 ?_
                refine lv_iconst (v := iI 0) X.1 X.2.1 d_M_reply_508 (by decide) ?_
                refine r_nv (m_run (As := [.int (iI cl), .int (iI ty), .int (iI 0)]) (rest := []) (n := 3) X Y hZ hA hml hl.1 (r_M_infoOf l D E h q H.size I261 J261 B261 G261 cl (by omega) (by omega) ty (by omega) (by omega) 0 (by omega) (by omega) S.1 z276 e276 (by omega) (by omega)) kl_M_infoOf ks_M_infoOf kx_M_infoOf ki_M_infoOf ini_M hd_M_infoOf ⟨Nat.le_of_ble_eq_true rfl, Nat.le_of_ble_eq_true rfl⟩ rfl (Nat.le_of_ble_eq_true rfl) d_M_reply_509 ⟨Nat.le_refl _, Nat.le_refl _⟩) X Y hA S (by decide) (by decide) (fun u H locs Y S s337 p337 => ?_)
                obtain ⟨I337, J337, B337, G337⟩ := u
                dsimp only at Y S s337 p337
                obtain ⟨x337, g337_MF⟩ := p337
                obtain ⟨z338, e338, l338, u338⟩ := x337
                refine lv_aload_n X.1 X.2.1 d_M_reply_512 rfl (lv_at hl 2 rfl) ?_
                refine lv_bipush (v := iI 48) X.1 X.2.1 d_M_reply_513 (by decide) ?_
                refine lv_iload X.1 X.2.1 d_M_reply_515 (lv_at hl 0 rfl) ?_
                refine r_nv (m_run (As := [.int (iI 48), .int (iI z276)]) (rest := []) (n := 2) X Y hZ hA hml hl.1 (r_M_head l D E h q H.size I337 J337 B337 G337 48 (by omega) (by omega) z276 (by omega) (by omega) S.1 z338 e338 (by omega) (by omega)) kl_M_head ks_M_head kx_M_head ki_M_head ini_M hd_M_head ⟨Nat.le_of_ble_eq_true rfl, Nat.le_of_ble_eq_true rfl⟩ rfl (Nat.le_of_ble_eq_true rfl) d_M_reply_517 ⟨Nat.le_refl _, Nat.le_refl _⟩) X Y hA S (by decide) (by decide) (fun u H locs Y S s339 p339 => ?_)
                obtain ⟨I339, J339, B339, G339⟩ := u
                dsimp only at Y S s339 p339
                obtain ⟨x339, g339_MF⟩ := p339
                obtain ⟨z340, e340, l340, u340⟩ := x339
                refine lv_aload_n X.1 X.2.1 d_M_reply_520 rfl (lv_at hl 2 rfl) ?_
                refine lv_iconst (v := iI 4) X.1 X.2.1 d_M_reply_521 (by decide) ?_
                refine lv_iload X.1 X.2.1 d_M_reply_522 (lv_at hl 0 rfl) ?_
                refine r_nv (m_run (As := [.int (iI 4), .int (iI z276)]) (rest := []) (n := 2) X Y hZ hA hml hl.1 (r_M_head l D E h q H.size I339 J339 B339 G339 4 (by omega) (by omega) z276 (by omega) (by omega) S.1 z340 e340 (by omega) (by omega)) kl_M_head ks_M_head kx_M_head ki_M_head ini_M hd_M_head ⟨Nat.le_of_ble_eq_true rfl, Nat.le_of_ble_eq_true rfl⟩ rfl (Nat.le_of_ble_eq_true rfl) d_M_reply_524 ⟨Nat.le_refl _, Nat.le_refl _⟩) X Y hA S (by decide) (by decide) (fun u H locs Y S s341 p341 => ?_)
                obtain ⟨I341, J341, B341, G341⟩ := u
                dsimp only at Y S s341 p341
                have f342 : rrP rr (I341 69) (B341 37) (B341 38) := (rrP_cg (s341.2.1 69 (by decide)) (s341.2.2 37 (by decide)) (s341.2.2 38 (by decide)) (rrP_cg (s339.2.1 69 (by decide)) (s339.2.2 37 (by decide)) (s339.2.2 38 (by decide)) (rrP_cg (s337.2.1 69 (by decide)) (s337.2.2 37 (by decide)) (s337.2.2 38 (by decide)) f264)))
                obtain ⟨x341, g341_MF⟩ := p341
                obtain ⟨z343, e343, l343, u343⟩ := x341
                refine lv_aload_n X.1 X.2.1 d_M_reply_527 rfl (lv_at hl 2 rfl) ?_
                refine lv_iconst (v := iI 2) X.1 X.2.1 d_M_reply_528 (by decide) ?_
                refine lv_iload X.1 X.2.1 d_M_reply_529 (lv_at hl 0 rfl) ?_
                refine r_nv (m_run (As := [.int (iI 2), .int (iI z276)]) (rest := []) (n := 2) X Y hZ hA hml hl.1 (r_M_field l D E h q H.size I341 J341 B341 G341 2 (by omega) (by omega) z276 (by omega) (by omega) S.1 z343 e343 (by omega) (by omega)) kl_M_field ks_M_field kx_M_field ki_M_field ini_M hd_M_field ⟨Nat.le_of_ble_eq_true rfl, Nat.le_of_ble_eq_true rfl⟩ rfl (Nat.le_of_ble_eq_true rfl) d_M_reply_531 ⟨Nat.le_refl _, Nat.le_refl _⟩) X Y hA S (by decide) (by decide) (fun u H locs Y S s344 p344 => ?_)
                obtain ⟨I344, J344, B344, G344⟩ := u
                dsimp only at Y S s344 p344
                obtain ⟨x344, g344_MF⟩ := p344
                obtain ⟨z345, e345, l345, u345⟩ := x344
                refine lv_aload_n X.1 X.2.1 d_M_reply_534 rfl (lv_at hl 2 rfl) ?_
                refine lv_iconst (v := iI 1) X.1 X.2.1 d_M_reply_535 (by decide) ?_
                refine lv_ldc2 (v := (19)) X.1 X.2.1 X.2.2.2.1 (X.2.2.1 _ cl_M_899) d_M_reply_536 ?_
                refine r_nv (m_run (As := [.int (iI 1), .long ((19))]) (rest := []) (n := 2) X Y hZ hA hml hl.1 (r_M_numberField l D E h q H.size I344 J344 B344 G344 1 (by omega) (by omega) ((19)) S.1 z345 e345 (by omega) (by omega)) kl_M_numberField ks_M_numberField kx_M_numberField ki_M_numberField ini_M hd_M_numberField ⟨Nat.le_of_ble_eq_true rfl, Nat.le_of_ble_eq_true rfl⟩ rfl (Nat.le_of_ble_eq_true rfl) d_M_reply_539 ⟨Nat.le_refl _, Nat.le_refl _⟩) X Y hA S (by decide) (by decide) (fun u H locs Y S s346 p346 => ?_)
                obtain ⟨I346, J346, B346, G346⟩ := u
                dsimp only at Y S s346 p346
                have f347 : pG2 (B346 37) (B346 38) := (pG2_cg (s346.2.2 37 (by decide)) (s346.2.2 38 (by decide)) (pG2_cg (s344.2.2 37 (by decide)) (s344.2.2 38 (by decide)) (pG2_cg (s341.2.2 37 (by decide)) (s341.2.2 38 (by decide)) (pG2_cg (s339.2.2 37 (by decide)) (s339.2.2 38 (by decide)) (pG2_cg (s337.2.2 37 (by decide)) (s337.2.2 38 (by decide)) f263)))))
                have f348 : ssP ss (B346 37) (B346 38) := (ssP_cg (s346.2.2 37 (by decide)) (s346.2.2 38 (by decide)) (ssP_cg (s344.2.2 37 (by decide)) (s344.2.2 38 (by decide)) (ssP_cg (s341.2.2 37 (by decide)) (s341.2.2 38 (by decide)) (ssP_cg (s339.2.2 37 (by decide)) (s339.2.2 38 (by decide)) (ssP_cg (s337.2.2 37 (by decide)) (s337.2.2 38 (by decide)) f265)))))
                have f349 : thF [7] (B 37) (B 38) (B346 37) (B346 38) := (thF_cg (s346.2.2 37 (by decide)) (s346.2.2 38 (by decide)) (thF_cg (s344.2.2 37 (by decide)) (s344.2.2 38 (by decide)) (thF_cg (s341.2.2 37 (by decide)) (s341.2.2 38 (by decide)) (thF_cg (s339.2.2 37 (by decide)) (s339.2.2 38 (by decide)) (thF_cg (s337.2.2 37 (by decide)) (s337.2.2 38 (by decide)) f266)))))
                have f350 : pG1 I346 := (pG1_cg (s346.2.1 39 (by decide)) (s346.2.1 40 (by decide)) (pG1_cg (s344.2.1 39 (by decide)) (s344.2.1 40 (by decide)) (pG1_cg (s341.2.1 39 (by decide)) (s341.2.1 40 (by decide)) (pG1_cg (s339.2.1 39 (by decide)) (s339.2.1 40 (by decide)) (pG1_cg (s337.2.1 39 (by decide)) (s337.2.1 40 (by decide)) f262)))))
                obtain ⟨x346, g346_MF⟩ := p346
                obtain ⟨z351, e351, l351, u351⟩ := x346
                refine lv_aload_n X.1 X.2.1 d_M_reply_542 rfl (lv_at hl 2 rfl) ?_
                refine lv_bipush (v := iI 48) X.1 X.2.1 d_M_reply_543 (by decide) ?_
                refine lv_iload X.1 X.2.1 d_M_reply_545 (lv_at hl 1 rfl) ?_
                refine r_nv (m_run (As := [.int (iI 48), .int (iI z276)]) (rest := []) (n := 2) X Y hZ hA hml hl.1 (r_M_head l D E h q H.size I346 J346 B346 G346 48 (by omega) (by omega) z276 (by omega) (by omega) S.1 z351 e351 (by omega) (by omega)) kl_M_head ks_M_head kx_M_head ki_M_head ini_M hd_M_head ⟨Nat.le_of_ble_eq_true rfl, Nat.le_of_ble_eq_true rfl⟩ rfl (Nat.le_of_ble_eq_true rfl) d_M_reply_547 ⟨Nat.le_refl _, Nat.le_refl _⟩) X Y hA S (by decide) (by decide) (fun u H locs Y S s352 p352 => ?_)
                obtain ⟨I352, J352, B352, G352⟩ := u
                dsimp only at Y S s352 p352
                have f353 : rrP rr (I352 69) (B352 37) (B352 38) := (rrP_cg (s352.2.1 69 (by decide)) (s352.2.2 37 (by decide)) (s352.2.2 38 (by decide)) (rrP_cg (s346.2.1 69 (by decide)) (s346.2.2 37 (by decide)) (s346.2.2 38 (by decide)) (rrP_cg (s344.2.1 69 (by decide)) (s344.2.2 37 (by decide)) (s344.2.2 38 (by decide)) f342)))
                obtain ⟨x352, g352_MF⟩ := p352
                obtain ⟨z354, e354, l354, u354⟩ := x352
                refine lv_aload_n X.1 X.2.1 d_M_reply_550 rfl (lv_at hl 2 rfl) ?_
                refine lv_bipush (v := iI 48) X.1 X.2.1 d_M_reply_551 (by decide) ?_
                refine lv_iload X.1 X.2.1 d_M_reply_553 (lv_at hl 1 rfl) ?_
                refine r_nv (m_run (As := [.int (iI 48), .int (iI z276)]) (rest := []) (n := 2) X Y hZ hA hml hl.1 (r_M_head l D E h q H.size I352 J352 B352 G352 48 (by omega) (by omega) z276 (by omega) (by omega) S.1 z354 e354 (by omega) (by omega)) kl_M_head ks_M_head kx_M_head ki_M_head ini_M hd_M_head ⟨Nat.le_of_ble_eq_true rfl, Nat.le_of_ble_eq_true rfl⟩ rfl (Nat.le_of_ble_eq_true rfl) d_M_reply_555 ⟨Nat.le_refl _, Nat.le_refl _⟩) X Y hA S (by decide) (by decide) (fun u H locs Y S s355 p355 => ?_)
                obtain ⟨I355, J355, B355, G355⟩ := u
                dsimp only at Y S s355 p355
                obtain ⟨x355, g355_MF⟩ := p355
                obtain ⟨z356, e356, l356, u356⟩ := x355
                refine lv_aload_n X.1 X.2.1 d_M_reply_558 rfl (lv_at hl 2 rfl) ?_
                refine lv_iconst (v := iI 2) X.1 X.2.1 d_M_reply_559 (by decide) ?_
                refine lv_iload X.1 X.2.1 d_M_reply_560 (lv_at hl 1 rfl) ?_
                refine r_nv (m_run (As := [.int (iI 2), .int (iI z276)]) (rest := []) (n := 2) X Y hZ hA hml hl.1 (r_M_field l D E h q H.size I355 J355 B355 G355 2 (by omega) (by omega) z276 (by omega) (by omega) S.1 z356 e356 (by omega) (by omega)) kl_M_field ks_M_field kx_M_field ki_M_field ini_M hd_M_field ⟨Nat.le_of_ble_eq_true rfl, Nat.le_of_ble_eq_true rfl⟩ rfl (Nat.le_of_ble_eq_true rfl) d_M_reply_562 ⟨Nat.le_refl _, Nat.le_refl _⟩) X Y hA S (by decide) (by decide) (fun u H locs Y S s357 p357 => ?_)
                obtain ⟨I357, J357, B357, G357⟩ := u
                dsimp only at Y S s357 p357
                obtain ⟨x357, g357_MF⟩ := p357
                obtain ⟨z358, e358, l358, u358⟩ := x357
                exact J301 z358 I357 J357 B357 G357 _ _ _ (pG1_cg (s357.2.1 39 (by decide)) (s357.2.1 40 (by decide)) (pG1_cg (s355.2.1 39 (by decide)) (s355.2.1 40 (by decide)) (pG1_cg (s352.2.1 39 (by decide)) (s352.2.1 40 (by decide)) f350))) (pG2_cg (s357.2.2 37 (by decide)) (s357.2.2 38 (by decide)) (pG2_cg (s355.2.2 37 (by decide)) (s355.2.2 38 (by decide)) (pG2_cg (s352.2.2 37 (by decide)) (s352.2.2 38 (by decide)) f347))) (rrP_cg (s357.2.1 69 (by decide)) (s357.2.2 37 (by decide)) (s357.2.2 38 (by decide)) (rrP_cg (s355.2.1 69 (by decide)) (s355.2.2 37 (by decide)) (s355.2.2 38 (by decide)) f353)) (ssP_cg (s357.2.2 37 (by decide)) (s357.2.2 38 (by decide)) (ssP_cg (s355.2.2 37 (by decide)) (s355.2.2 38 (by decide)) (ssP_cg (s352.2.2 37 (by decide)) (s352.2.2 38 (by decide)) f348))) (thF_cg (s357.2.2 37 (by decide)) (s357.2.2 38 (by decide)) (thF_cg (s355.2.2 37 (by decide)) (s355.2.2 38 (by decide)) (thF_cg (s352.2.2 37 (by decide)) (s352.2.2 38 (by decide)) f349))) ((s357.2.1 69 (by decide)).trans ((s355.2.1 69 (by decide)).trans ((s352.2.1 69 (by decide)).trans ((s346.2.1 69 (by decide)).trans ((s344.2.1 69 (by decide)).trans ((s341.2.1 69 (by decide)).trans ((s339.2.1 69 (by decide)).trans ((s337.2.1 69 (by decide)).trans e267)))))))) ((s357.2.1 86 (by decide)).trans ((s355.2.1 86 (by decide)).trans ((s352.2.1 86 (by decide)).trans ((s346.2.1 86 (by decide)).trans ((s344.2.1 86 (by decide)).trans ((s341.2.1 86 (by decide)).trans ((s339.2.1 86 (by decide)).trans ((s337.2.1 86 (by decide)).trans e268)))))))) ((s357.2.1 87 (by decide)).trans ((s355.2.1 87 (by decide)).trans ((s352.2.1 87 (by decide)).trans ((s346.2.1 87 (by decide)).trans ((s344.2.1 87 (by decide)).trans ((s341.2.1 87 (by decide)).trans ((s339.2.1 87 (by decide)).trans ((s337.2.1 87 (by decide)).trans e269)))))))) ((s357.2.1 88 (by decide)).trans ((s355.2.1 88 (by decide)).trans ((s352.2.1 88 (by decide)).trans ((s346.2.1 88 (by decide)).trans ((s344.2.1 88 (by decide)).trans ((s341.2.1 88 (by decide)).trans ((s339.2.1 88 (by decide)).trans ((s337.2.1 88 (by decide)).trans e270)))))))) ((s357.2.1 89 (by decide)).trans ((s355.2.1 89 (by decide)).trans ((s352.2.1 89 (by decide)).trans ((s346.2.1 89 (by decide)).trans ((s344.2.1 89 (by decide)).trans ((s341.2.1 89 (by decide)).trans ((s339.2.1 89 (by decide)).trans ((s337.2.1 89 (by decide)).trans e271)))))))) ((s357.2.1 77 (by decide)).trans ((s355.2.1 77 (by decide)).trans ((s352.2.1 77 (by decide)).trans ((s346.2.1 77 (by decide)).trans ((s344.2.1 77 (by decide)).trans ((s341.2.1 77 (by decide)).trans ((s339.2.1 77 (by decide)).trans ((s337.2.1 77 (by decide)).trans e272)))))))) ((s357.2.1 75 (by decide)).trans ((s355.2.1 75 (by decide)).trans ((s352.2.1 75 (by decide)).trans ((s346.2.1 75 (by decide)).trans ((s344.2.1 75 (by decide)).trans ((s341.2.1 75 (by decide)).trans ((s339.2.1 75 (by decide)).trans ((s337.2.1 75 (by decide)).trans e273)))))))) ((s357.2.1 33 (by decide)).trans ((s355.2.1 33 (by decide)).trans ((s352.2.1 33 (by decide)).trans ((s346.2.1 33 (by decide)).trans ((s344.2.1 33 (by decide)).trans ((s341.2.1 33 (by decide)).trans ((s339.2.1 33 (by decide)).trans ((s337.2.1 33 (by decide)).trans e274)))))))) ((s357.2.1 36 (by decide)).trans ((s355.2.1 36 (by decide)).trans ((s352.2.1 36 (by decide)).trans ((s346.2.1 36 (by decide)).trans ((s344.2.1 36 (by decide)).trans ((s341.2.1 36 (by decide)).trans ((s339.2.1 36 (by decide)).trans ((s337.2.1 36 (by decide)).trans e275)))))))) e358 (by omega) (by omega) (by omega) (by omega) Y S (lv_sub hl [2] rfl)
            refine z_if_eq (tgt := 463) X.1 X.2.1 d_M_reply_449 (by decide) ⟨by omega, by omega⟩ (fun h359 => ?_) (fun h359 => ?_)
            · refine lv_aload_n X.1 X.2.1 d_M_reply_463 rfl (lv_at hl 0 rfl) ?_
              refine lv_iconst (v := iI 3) X.1 X.2.1 d_M_reply_464 (by decide) ?_
              refine lv_aload_n X.1 X.2.1 d_M_reply_465 rfl (lv_at hl 0 rfl) ?_
              refine lv_iconst (v := iI 4) X.1 X.2.1 d_M_reply_466 (by decide) ?_
              refine lv_iconst (v := iI 2) X.1 X.2.1 d_M_reply_467 (by decide) ?_
              refine r_ni (m_run (As := [.int (iI 4), .int (iI 2)]) (rest := [.int (iI 3), .ref h]) (n := 2) X Y hZ hA hml hl.1 (r_M_a l D E h q H.size I255 J255 B255 G255 4 (by omega) (by omega) 2 (by omega) (by omega) S.1) kl_M_a ks_M_a kx_M_a ki_M_a ini_M hd_M_a ⟨Nat.le_of_ble_eq_true rfl, Nat.le_of_ble_eq_true rfl⟩ rfl (Nat.le_of_ble_eq_true rfl) d_M_reply_468 ⟨Nat.le_refl _, Nat.le_refl _⟩) X Y hA S (by decide) (by decide) (fun z360 u H locs Y S s360 p360 => ?_)
              obtain ⟨I360, J360, B360, G360⟩ := u
              dsimp only at Y S s360 p360
              have i360 : I255 = I360 := (funext (fun j => s360.2.1 j (by simp))).symm
              subst i360
              have b360 : B255 = B360 := (funext (fun j => s360.2.2 j (by simp))).symm
              subst b360
              obtain ⟨l360, u360, x360⟩ := p360
              refine lv_aload_n X.1 X.2.1 d_M_reply_471 rfl (lv_at hl 0 rfl) ?_
              refine lv_iconst (v := iI 4) X.1 X.2.1 d_M_reply_472 (by decide) ?_
              refine lv_iconst (v := iI 2) X.1 X.2.1 d_M_reply_473 (by decide) ?_
              refine r_ni (m_run (As := [.int (iI 4), .int (iI 2)]) (rest := [.int (iI z360), .int (iI 3), .ref h]) (n := 2) X Y hZ hA hml hl.1 (r_M_b l D E h q H.size I255 J360 B255 G360 4 (by omega) (by omega) 2 (by omega) (by omega) S.1) kl_M_b ks_M_b kx_M_b ki_M_b ini_M hd_M_b ⟨Nat.le_of_ble_eq_true rfl, Nat.le_of_ble_eq_true rfl⟩ rfl (Nat.le_of_ble_eq_true rfl) d_M_reply_474 ⟨Nat.le_refl _, Nat.le_refl _⟩) X Y hA S (by decide) (by decide) (fun z361 u H locs Y S s361 p361 => ?_)
              obtain ⟨I361, J361, B361, G361⟩ := u
              dsimp only at Y S s361 p361
              have i361 : I255 = I361 := (funext (fun j => s361.2.1 j (by simp))).symm
              subst i361
              have b361 : B255 = B361 := (funext (fun j => s361.2.2 j (by simp))).symm
              subst b361
              obtain ⟨l361, u361, x361⟩ := p361
              have p362 : pr z360 z361 := by rw [x360, x361]; exact (pG2_cg rfl rfl (pG2_cg rfl rfl f256)) (16 * 4 + 2 : Int).toNat (by omega)
              unfold pr at p362
              have r9 := rr_0 (rrP_cg rfl rfl rfl (rrP_cg rfl rfl rfl (rrP_cg (s255.2.1 69 (by decide)) (s255.2.2 37 (by decide)) (s255.2.2 38 (by decide)) f253))) ((s255.2.1 69 (by decide)).trans ((s252.2.1 69 (by decide)).trans ((s250.2.1 69 (by decide)).trans ((s249.2.1 69 (by decide)).trans ((s248.2.1 69 (by decide)).trans e235))))) (by omega)
              refine r_nv (m_run (As := [.int (iI 3), .int (iI z360), .int (iI z361)]) (rest := []) (n := 3) X Y hZ hA hml hl.1 (r_M_copyField l D E h q H.size I255 J361 B255 G361 3 (by omega) (by omega) z360 (by omega) (by omega) z361 (by omega) (by omega) S.1 z260 e260 (by omega) (by omega) (by omega) (by omega) (by omega) (by omega)) kl_M_copyField ks_M_copyField kx_M_copyField ki_M_copyField ini_M hd_M_copyField ⟨Nat.le_of_ble_eq_true rfl, Nat.le_of_ble_eq_true rfl⟩ rfl (Nat.le_of_ble_eq_true rfl) d_M_reply_477 ⟨Nat.le_refl _, Nat.le_refl _⟩) X Y hA S (by decide) (by decide) (fun u H locs Y S s363 p363 => ?_)
              obtain ⟨I363, J363, B363, G363⟩ := u
              dsimp only at Y S s363 p363
              obtain ⟨x363, g363_MF⟩ := p363
              obtain ⟨z364, e364, l364, u364⟩ := x363
              exact J279 z364 I363 J363 B363 G363 _ _ _ (pG1_cg (s363.2.1 39 (by decide)) (s363.2.1 40 (by decide)) (pG1_cg rfl rfl (pG1_cg rfl rfl f259))) (pG2_cg (s363.2.2 37 (by decide)) (s363.2.2 38 (by decide)) (pG2_cg rfl rfl (pG2_cg rfl rfl f256))) (rrP_cg (s363.2.1 69 (by decide)) (s363.2.2 37 (by decide)) (s363.2.2 38 (by decide)) (rrP_cg rfl rfl rfl (rrP_cg rfl rfl rfl (rrP_cg (s255.2.1 69 (by decide)) (s255.2.2 37 (by decide)) (s255.2.2 38 (by decide)) f253)))) (ssP_cg (s363.2.2 37 (by decide)) (s363.2.2 38 (by decide)) (ssP_cg rfl rfl (ssP_cg rfl rfl f257))) (thF_cg (s363.2.2 37 (by decide)) (s363.2.2 38 (by decide)) (thF_cg rfl rfl (thF_cg rfl rfl f258))) ((s363.2.1 69 (by decide)).trans ((s255.2.1 69 (by decide)).trans ((s252.2.1 69 (by decide)).trans ((s250.2.1 69 (by decide)).trans ((s249.2.1 69 (by decide)).trans ((s248.2.1 69 (by decide)).trans e235)))))) ((s363.2.1 86 (by decide)).trans ((s255.2.1 86 (by decide)).trans ((s252.2.1 86 (by decide)).trans ((s250.2.1 86 (by decide)).trans ((s249.2.1 86 (by decide)).trans ((s248.2.1 86 (by decide)).trans e236)))))) ((s363.2.1 87 (by decide)).trans ((s255.2.1 87 (by decide)).trans ((s252.2.1 87 (by decide)).trans ((s250.2.1 87 (by decide)).trans ((s249.2.1 87 (by decide)).trans ((s248.2.1 87 (by decide)).trans e237)))))) ((s363.2.1 88 (by decide)).trans ((s255.2.1 88 (by decide)).trans ((s252.2.1 88 (by decide)).trans ((s250.2.1 88 (by decide)).trans ((s249.2.1 88 (by decide)).trans ((s248.2.1 88 (by decide)).trans e238)))))) ((s363.2.1 89 (by decide)).trans ((s255.2.1 89 (by decide)).trans ((s252.2.1 89 (by decide)).trans ((s250.2.1 89 (by decide)).trans ((s249.2.1 89 (by decide)).trans ((s248.2.1 89 (by decide)).trans e239)))))) ((s363.2.1 77 (by decide)).trans ((s255.2.1 77 (by decide)).trans ((s252.2.1 77 (by decide)).trans ((s250.2.1 77 (by decide)).trans ((s249.2.1 77 (by decide)).trans ((s248.2.1 77 (by decide)).trans e240)))))) ((s363.2.1 75 (by decide)).trans ((s255.2.1 75 (by decide)).trans ((s252.2.1 75 (by decide)).trans ((s250.2.1 75 (by decide)).trans ((s249.2.1 75 (by decide)).trans ((s248.2.1 75 (by decide)).trans e241)))))) ((s363.2.1 33 (by decide)).trans ((s255.2.1 33 (by decide)).trans ((s252.2.1 33 (by decide)).trans ((s250.2.1 33 (by decide)).trans ((s249.2.1 33 (by decide)).trans (x248_1.trans (congrArg iI (show (cn + 16 : Int) = cn + 16 by omega)))))))) ((s363.2.1 36 (by decide)).trans ((s255.2.1 36 (by decide)).trans ((s252.2.1 36 (by decide)).trans ((s250.2.1 36 (by decide)).trans ((s249.2.1 36 (by decide)).trans (x248_0.trans (congrArg iI (show (60000 - z225 + 28 : Int) = 60000 - z225 + 28 by omega)))))))) e364 (by omega) (by omega) (by omega) (by omega) Y S (lv_sub hl [0] rfl)
            · refine lv_aload_n X.1 X.2.1 d_M_reply_452 rfl (lv_at hl 0 rfl) ?_
              refine lv_iconst (v := iI 3) X.1 X.2.1 d_M_reply_453 (by decide) ?_
              refine m_ldcSW (i := 2) X (by decide) (by decide) d_M_reply_454 ?_
              refine r_nv (m_run (As := [.int (iI 3), .ref ((D.2.1 2))]) (rest := []) (n := 2) X Y hZ hA hml hl.1 (r_M_wordField l D E h q H.size I255 J255 B255 G255 3 (by omega) (by omega) 2 (show 2 < nZ by decide) S.1 z260 e260 (by omega) (by omega)) kl_M_wordField ks_M_wordField kx_M_wordField ki_M_wordField ini_M hd_M_wordField ⟨Nat.le_of_ble_eq_true rfl, Nat.le_of_ble_eq_true rfl⟩ rfl (Nat.le_of_ble_eq_true rfl) d_M_reply_457 ⟨Nat.le_refl _, Nat.le_refl _⟩) X Y hA S (by decide) (by decide) (fun u H locs Y S s365 p365 => ?_)
              obtain ⟨I365, J365, B365, G365⟩ := u
              dsimp only at Y S s365 p365
              obtain ⟨x365, g365_MF⟩ := p365
              obtain ⟨z366, e366, l366, u366⟩ := x365
              refine lv_goto (tgt := 480) X.1 X.2.1 d_M_reply_460 (by decide) ?_
              exact J279 z366 I365 J365 B365 G365 _ _ _ (pG1_cg (s365.2.1 39 (by decide)) (s365.2.1 40 (by decide)) f259) (pG2_cg (s365.2.2 37 (by decide)) (s365.2.2 38 (by decide)) f256) (rrP_cg (s365.2.1 69 (by decide)) (s365.2.2 37 (by decide)) (s365.2.2 38 (by decide)) (rrP_cg (s255.2.1 69 (by decide)) (s255.2.2 37 (by decide)) (s255.2.2 38 (by decide)) f253)) (ssP_cg (s365.2.2 37 (by decide)) (s365.2.2 38 (by decide)) f257) (thF_cg (s365.2.2 37 (by decide)) (s365.2.2 38 (by decide)) f258) ((s365.2.1 69 (by decide)).trans ((s255.2.1 69 (by decide)).trans ((s252.2.1 69 (by decide)).trans ((s250.2.1 69 (by decide)).trans ((s249.2.1 69 (by decide)).trans ((s248.2.1 69 (by decide)).trans e235)))))) ((s365.2.1 86 (by decide)).trans ((s255.2.1 86 (by decide)).trans ((s252.2.1 86 (by decide)).trans ((s250.2.1 86 (by decide)).trans ((s249.2.1 86 (by decide)).trans ((s248.2.1 86 (by decide)).trans e236)))))) ((s365.2.1 87 (by decide)).trans ((s255.2.1 87 (by decide)).trans ((s252.2.1 87 (by decide)).trans ((s250.2.1 87 (by decide)).trans ((s249.2.1 87 (by decide)).trans ((s248.2.1 87 (by decide)).trans e237)))))) ((s365.2.1 88 (by decide)).trans ((s255.2.1 88 (by decide)).trans ((s252.2.1 88 (by decide)).trans ((s250.2.1 88 (by decide)).trans ((s249.2.1 88 (by decide)).trans ((s248.2.1 88 (by decide)).trans e238)))))) ((s365.2.1 89 (by decide)).trans ((s255.2.1 89 (by decide)).trans ((s252.2.1 89 (by decide)).trans ((s250.2.1 89 (by decide)).trans ((s249.2.1 89 (by decide)).trans ((s248.2.1 89 (by decide)).trans e239)))))) ((s365.2.1 77 (by decide)).trans ((s255.2.1 77 (by decide)).trans ((s252.2.1 77 (by decide)).trans ((s250.2.1 77 (by decide)).trans ((s249.2.1 77 (by decide)).trans ((s248.2.1 77 (by decide)).trans e240)))))) ((s365.2.1 75 (by decide)).trans ((s255.2.1 75 (by decide)).trans ((s252.2.1 75 (by decide)).trans ((s250.2.1 75 (by decide)).trans ((s249.2.1 75 (by decide)).trans ((s248.2.1 75 (by decide)).trans e241)))))) ((s365.2.1 33 (by decide)).trans ((s255.2.1 33 (by decide)).trans ((s252.2.1 33 (by decide)).trans ((s250.2.1 33 (by decide)).trans ((s249.2.1 33 (by decide)).trans (x248_1.trans (congrArg iI (show (cn + 16 : Int) = cn + 16 by omega)))))))) ((s365.2.1 36 (by decide)).trans ((s255.2.1 36 (by decide)).trans ((s252.2.1 36 (by decide)).trans ((s250.2.1 36 (by decide)).trans ((s249.2.1 36 (by decide)).trans (x248_0.trans (congrArg iI (show (60000 - z225 + 28 : Int) = 60000 - z225 + 28 by omega)))))))) e366 (by omega) (by omega) (by omega) (by omega) Y S (lv_sub hl [0] rfl)
          refine z_if_eq (tgt := 277) X.1 X.2.1 d_M_reply_226 (by decide) ⟨by omega, by omega⟩ (fun h367 => ?_) (fun h367 => ?_)
          · refine lv_aload_n X.1 X.2.1 d_M_reply_277 rfl (lv_at hl 1 rfl) ?_
            refine lv_aload_n X.1 X.2.1 d_M_reply_278 rfl (lv_at hl 1 rfl) ?_
            refine lv_iconst (v := iI 5) X.1 X.2.1 d_M_reply_279 (by decide) ?_
            refine lv_bipush (v := iI 6) X.1 X.2.1 d_M_reply_280 (by decide) ?_
            refine r_ni (m_run (As := [.int (iI 5), .int (iI 6)]) (rest := [.ref h]) (n := 2) X Y hZ hA hml hl.1 (r_M_has l D E h q H.size I223 J223 B223 G223 5 (by omega) (by omega) 6 (by omega) (by omega) S.1) kl_M_has ks_M_has kx_M_has ki_M_has ini_M hd_M_has ⟨Nat.le_of_ble_eq_true rfl, Nat.le_of_ble_eq_true rfl⟩ rfl (Nat.le_of_ble_eq_true rfl) d_M_reply_282 ⟨Nat.le_refl _, Nat.le_refl _⟩) X Y hA S (by decide) (by decide) (fun z368 u H locs Y S s368 p368 => ?_)
            obtain ⟨I368, J368, B368, G368⟩ := u
            dsimp only at Y S s368 p368
            have i368 : I223 = I368 := (funext (fun j => s368.2.1 j (by simp))).symm
            subst i368
            have b368 : B223 = B368 := (funext (fun j => s368.2.2 j (by simp))).symm
            subst b368
            obtain ⟨l368, u368, x368⟩ := p368
            refine z_if_eq (tgt := 302) X.1 X.2.1 d_M_reply_285 (by decide) ⟨by omega, by omega⟩ (fun h369 => ?_) (fun h369 => ?_)
            · refine lv_iconst (v := iI 0) X.1 X.2.1 d_M_reply_302 (by decide) ?_
              refine r_puti (k := 80) X Y S (by decide) lk_subType rfl rfl (t_M_ok 80 (by decide)) rfl rfl (sf_subType _ _ _ _) (Nat.le_of_ble_eq_true rfl) rfl (show ((-2147483648) : Int) ≤ 0 by omega) (show 0 ≤ (2147483647 : Int) by omega) ⟨by omega, by omega⟩ (by decide) d_M_reply_303 (fun I370 H locs Y S w370 => ?_)
              refine lv_aload_n X.1 X.2.1 d_M_reply_306 rfl (lv_at hl 1 rfl) ?_
              refine r_get0 X Y (by decide) lk_subType (gf_subType _ _ _) rfl w370.1 d_M_reply_307 ?_
              refine z_if_eq (tgt := 320) X.1 X.2.1 d_M_reply_310 (by decide) ⟨by omega, by omega⟩ (fun h371 => ?_) (fun h371 => False.elim (by omega))
              · refine lv_aload_n X.1 X.2.1 d_M_reply_320 rfl (lv_at hl 1 rfl) ?_
                refine r_geti (k := 79) X Y S (by decide) lk_ticketType (gf_ticketType _ _ _) rfl rfl d_M_reply_321 (fun z372 e372 l372 u372 => ?_)
                refine lv_istore_n (lv' := [(3, .int (iI z372)), (4, .long 0), (0, .ref h), (1, .int (iI a1))]) X.1 X.2.1 d_M_reply_324 rfl hl (by decide) rfl (fun ls hl => ?_)
                refine lv_aload_n X.1 X.2.1 d_M_reply_325 rfl (lv_at hl 2 rfl) ?_
                refine r_get0 X Y (by decide) lk_subType (gf_subType _ _ _) rfl w370.1 d_M_reply_326 ?_
                have J388 : ∀ (I373 : Nat → Int32) (J373 : Nat → Int64) (B373 : Nat → Nat → Int32) (G373 : Nat → Nat → Int64) (H : Heap) (locs : List Loc) (ls : Array Slot), (pG1 I373) → (pG2 (B373 37) (B373 38)) → (rrP rr (I373 69) (B373 37) (B373 38)) → (ssP ss (B373 37) (B373 38)) → (thF [7] (B 37) (B 38) (B373 37) (B373 38)) → (I373 69 = iI ia) → (I373 86 = iI aa) → (I373 87 = iI ae) → (I373 88 = iI ca) → (I373 89 = iI ce) → (I373 77 = iI ty) → (I373 75 = iI cl) → (I373 42 = iI z225) → (I373 33 = iI cn) → mH D E (mA E h q sz) s.heap h q I373 J373 B373 G373 H locs → rS [3, 8, 14, 18, 29, 33, 36, 39, 40, 42, 80] [0, 1, 5, 6, 7, 9, 10, 11, 12, 13, 15, 16, 17, 19, 20, 21, 22, 23, 24, 34, 35, 37, 38, 56, 59, 90] I B I373 B373 → lv_has ls 9 [(0, .ref h), (1, .int (iI a1)), (3, .int (iI z372)), (4, .long 0)] → W p l e (mR 44 2018) s m AV below meth c H locs 0 0 QQ (F0 m 343 ls []) := by
                  intro I373 J373 B373 G373 H locs ls f374 f375 f376 f377 f378 e379 e380 e381 e382 e383 e384 e385 e386 e387 Y S hl
                  refine lv_iconst (v := iI 0) X.1 X.2.1 d_M_reply_343 (by decide) ?_
                  have J408 : ∀ (n410 : Nat) (z393 : Int) (I392 : Nat → Int32) (J392 : Nat → Int64) (B392 : Nat → Nat → Int32) (G392 : Nat → Nat → Int64) (H : Heap) (locs : List Loc) (ls : Array Slot), (32 - z393).toNat = n410 → (0 ≤ z393) → (z393 ≤ 32) → (pG1 I392) → (pG2 (B392 37) (B392 38)) → (rrP rr (I392 69) (B392 37) (B392 38)) → (ssP ss (B392 37) (B392 38)) → (thF [7] (B 37) (B 38) (B392 37) (B392 38)) → (I392 69 = iI ia) → (I392 86 = iI aa) → (I392 87 = iI ae) → (I392 88 = iI ca) → (I392 89 = iI ce) → (I392 77 = iI ty) → (I392 75 = iI cl) → (I392 42 = iI z225) → (I392 33 = iI cn) → mH D E (mA E h q sz) s.heap h q I392 J392 B392 G392 H locs → rS [3, 8, 14, 18, 29, 33, 36, 39, 40, 42, 80] [0, 1, 5, 6, 7, 9, 10, 11, 12, 13, 15, 16, 17, 19, 20, 21, 22, 23, 24, 34, 35, 37, 38, 56, 59, 90] I B I392 B392 → lv_has ls 9 [(0, .ref h), (1, .int (iI a1)), (3, .int (iI z372)), (4, .long 0), (7, .int (iI z393))] → W p l e (mR 44 2018) s m AV below meth c H locs 0 0 QQ (F0 m 346 ls []) := by
                    intro n410
                    induction n410 using Nat.strongRecOn with
                    | ind n410 ih409 =>
                      intro z393 I392 J392 B392 G392 H locs ls hm411 l393 u393 f394 f395 f396 f397 f398 e399 e400 e401 e402 e403 e404 e405 e406 e407 Y S hl
                      refine lv_iload X.1 X.2.1 d_M_reply_346 (lv_at hl 4 rfl) ?_
                      refine lv_bipush (v := iI 32) X.1 X.2.1 d_M_reply_348 (by decide) ?_
                      refine z_icmp_ge (tgt := 373) X.1 X.2.1 d_M_reply_350 (by decide) ⟨by omega, by omega⟩ ⟨by omega, by omega⟩ (fun h412 => ?_) (fun h412 => ?_)
                      · refine lv_aload_n X.1 X.2.1 d_M_reply_373 rfl (lv_at hl 0 rfl) ?_
                        refine r_geti (k := 80) X Y S (by decide) lk_subType (gf_subType _ _ _) rfl rfl d_M_reply_374 (fun z413 e413 l413 u413 => ?_)
                        refine z_if_eq (tgt := 385) X.1 X.2.1 d_M_reply_377 (by decide) ⟨by omega, by omega⟩ (fun h414 => ?_) (fun h414 => ?_)
                        · refine lv_bipush (v := iI 8) X.1 X.2.1 d_M_reply_385 (by decide) ?_
                          refine lv_istore (lv' := [(6, .int (iI 8)), (0, .ref h), (1, .int (iI a1)), (3, .int (iI z372)), (4, .long 0), (7, .int (iI z393))]) X.1 X.2.1 d_M_reply_387 hl (by decide) rfl (fun ls hl => ?_)
                          exact J244 z372 0 8 I392 J392 B392 G392 _ _ _ (by omega) (by omega) (by omega) (by omega) f394 f395 f396 f397 f398 e399 e400 e401 e402 e403 e404 e405 e406 e407 Y S (lv_sub hl [1, 2, 3, 4, 0] rfl)
                        · refine lv_bipush (v := iI 9) X.1 X.2.1 d_M_reply_380 (by decide) ?_
                          refine lv_goto (tgt := 387) X.1 X.2.1 d_M_reply_382 (by decide) ?_
                          refine lv_istore (lv' := [(6, .int (iI 9)), (0, .ref h), (1, .int (iI a1)), (3, .int (iI z372)), (4, .long 0), (7, .int (iI z393))]) X.1 X.2.1 d_M_reply_387 hl (by decide) rfl (fun ls hl => ?_)
                          exact J244 z372 0 9 I392 J392 B392 G392 _ _ _ (by omega) (by omega) (by omega) (by omega) f394 f395 f396 f397 f398 e399 e400 e401 e402 e403 e404 e405 e406 e407 Y S (lv_sub hl [1, 2, 3, 4, 0] rfl)
                      · refine lv_aload_n X.1 X.2.1 d_M_reply_353 rfl (lv_at hl 0 rfl) ?_
                        refine m_get X Y 56 (by decide) lk_made (gf_made _ _ _) rfl d_M_reply_354 ?_
                        refine lv_iload X.1 X.2.1 d_M_reply_357 (lv_at hl 4 rfl) ?_
                        refine lv_aload_n X.1 X.2.1 d_M_reply_359 rfl (lv_at hl 0 rfl) ?_
                        refine m_get X Y 59 (by decide) lk_sub (gf_sub _ _ _) rfl d_M_reply_360 ?_
                        refine lv_iload X.1 X.2.1 d_M_reply_363 (lv_at hl 4 rfl) ?_
                        refine r_bald X Y S (aw_sub _ _ _ _ _ _ _) rfl (by omega) (show z393 < ((32 : Nat) : Int) by omega) (by omega) d_M_reply_365 (fun z415 q415 l415 u415 => ?_)
                        refine r_bast X Y S (aw_made _ _ _ _ _ _ _) (sw_made _ _ _ _ _ _ _) rfl (by omega) (show z393 < ((32 : Nat) : Int) by omega) (by omega) (by decide) d_M_reply_366 (fun B416 H locs Y S w416 => ?_)
                        refine lv_iinc (v := iI (z393 + 1)) (lv' := [(7, .int (iI (z393 + 1))), (0, .ref h), (1, .int (iI a1)), (3, .int (iI z372)), (4, .long 0)]) X.1 X.2.1 d_M_reply_367 hl (k := 4) rfl ((iI_add _ _).trans (congrArg iI (by omega))) (by decide) rfl (fun ls hl => ?_)
                        refine lv_goto (tgt := 346) X.1 X.2.1 d_M_reply_370 (by decide) ?_
                        exact ih409 ((32 - (z393 + 1)).toNat) (by omega) (z393 + 1) I392 J392 B416 G392 _ _ _ rfl (by omega) (by omega) (pG1_cg rfl rfl f394) (pG2_cg (w416.2 37 (by decide)) (w416.2 38 (by decide)) f395) (rrP_cg rfl (w416.2 37 (by decide)) (w416.2 38 (by decide)) f396) (ssP_cg (w416.2 37 (by decide)) (w416.2 38 (by decide)) f397) (thF_cg (w416.2 37 (by decide)) (w416.2 38 (by decide)) f398) e399 e400 e401 e402 e403 e404 e405 e406 e407 Y S (lv_sub hl [1, 2, 3, 4, 0] rfl)
                  refine lv_istore (lv' := [(7, .int (iI 0)), (0, .ref h), (1, .int (iI a1)), (3, .int (iI z372)), (4, .long 0)]) X.1 X.2.1 d_M_reply_344 hl (by decide) rfl (fun ls hl => ?_)
                  exact J408 _ 0 I373 J373 B373 G373 _ _ _ rfl (by omega) (by omega) f374 f375 f376 f377 f378 e379 e380 e381 e382 e383 e384 e385 e386 e387 Y S (lv_sub hl [1, 2, 3, 4, 0] rfl)
                refine z_if_ne (tgt := 343) X.1 X.2.1 d_M_reply_329 (by decide) ⟨by omega, by omega⟩ (fun h417 => False.elim (by omega)) (fun h417 => ?_)
                · refine lv_aload_n X.1 X.2.1 d_M_reply_332 rfl (lv_at hl 2 rfl) ?_
                  refine lv_iconst (v := iI 4) X.1 X.2.1 d_M_reply_333 (by decide) ?_
                  refine lv_iconst (v := iI 1) X.1 X.2.1 d_M_reply_334 (by decide) ?_
                  refine lv_aload_n X.1 X.2.1 d_M_reply_335 rfl (lv_at hl 2 rfl) ?_
                  refine m_get X Y 59 (by decide) lk_sub (gf_sub _ _ _) rfl d_M_reply_336 ?_
                  refine r_ni (m_run (As := [.int (iI 4), .int (iI 1), .ref ((q 59))]) (rest := []) (n := 3) X Y hZ hA hml hl.1 (r_M_keyIn_sub l D E h q H.size I370 J368 B223 G368 4 (by omega) (by omega) 1 (by omega) (by omega) S.1 (pG1_cg (w370.2 39 (by decide)) (w370.2 40 (by decide)) (pG1_cg rfl rfl f224)) (pG2_cg rfl rfl (pG2_cg rfl rfl (pG2_cg (s223.2.2 37 (by decide)) (s223.2.2 38 (by decide)) (pG2_cg (s214.2.2 37 (by decide)) (s214.2.2 38 (by decide)) f209))))) kl_M_keyIn ks_M_keyIn kx_M_keyIn ki_M_keyIn ini_M hd_M_keyIn ⟨Nat.le_of_ble_eq_true rfl, Nat.le_of_ble_eq_true rfl⟩ rfl (Nat.le_of_ble_eq_true rfl) d_M_reply_339 ⟨Nat.le_refl _, Nat.le_refl _⟩) X Y hA S (by decide) (by decide) (fun z418 u H locs Y S s418 p418 => ?_)
                  obtain ⟨I418, J418, B418, G418⟩ := u
                  dsimp only at Y S s418 p418
                  obtain ⟨l418, u418, x418, g418_P1, g418_P2, g418_TF⟩ := p418
                  have f419 : rrP rr (I418 69) (B418 37) (B418 38) := rrP_T g418_TF (by decide) (rrP_cg (w370.2 69 (by decide)) rfl rfl (rrP_cg rfl rfl rfl (rrP_cg (s223.2.1 69 (by decide)) (s223.2.2 37 (by decide)) (s223.2.2 38 (by decide)) (rrP_cg (s214.2.1 69 (by decide)) (s214.2.2 37 (by decide)) (s214.2.2 38 (by decide)) f210))))
                  have f420 : ssP ss (B418 37) (B418 38) := ssP_T g418_TF (by decide) (ssP_cg rfl rfl (ssP_cg rfl rfl (ssP_cg (s223.2.2 37 (by decide)) (s223.2.2 38 (by decide)) (ssP_cg (s214.2.2 37 (by decide)) (s214.2.2 38 (by decide)) f211))))
                  refine lv_pop X.1 X.2.1 d_M_reply_342 rfl ?_
                  exact J388 I418 J418 B418 G418 _ _ _ g418_P1 g418_P2 f419 f420 (thF_tr (thF_cg rfl rfl (thF_cg rfl rfl (thF_cg (s223.2.2 37 (by decide)) (s223.2.2 38 (by decide)) (thF_cg (s214.2.2 37 (by decide)) (s214.2.2 38 (by decide)) f212)))) g418_TF (by decide)) ((s418.2.1 69 (by decide)).trans ((w370.2 69 (by decide)).trans ((s223.2.1 69 (by decide)).trans ((s214.2.1 69 (by decide)).trans ((s208.2.1 69 (by decide)).trans ((s206.2.1 69 (by decide)).trans ((s204.2.1 69 (by decide)).trans ((s200.2.1 69 (by decide)).trans ((s198.2.1 69 (by decide)).trans ((s193.2.1 69 (by decide)).trans ((s188.2.1 69 (by decide)).trans ((s187.2.1 69 (by decide)).trans ((s185.2.1 69 (by decide)).trans ((s182.2.1 69 (by decide)).trans e166)))))))))))))) ((s418.2.1 86 (by decide)).trans ((w370.2 86 (by decide)).trans ((s223.2.1 86 (by decide)).trans ((s214.2.1 86 (by decide)).trans ((s208.2.1 86 (by decide)).trans ((s206.2.1 86 (by decide)).trans ((s204.2.1 86 (by decide)).trans ((s200.2.1 86 (by decide)).trans ((s198.2.1 86 (by decide)).trans ((s193.2.1 86 (by decide)).trans ((s188.2.1 86 (by decide)).trans ((s187.2.1 86 (by decide)).trans ((s185.2.1 86 (by decide)).trans ((s182.2.1 86 (by decide)).trans e167)))))))))))))) ((s418.2.1 87 (by decide)).trans ((w370.2 87 (by decide)).trans ((s223.2.1 87 (by decide)).trans ((s214.2.1 87 (by decide)).trans ((s208.2.1 87 (by decide)).trans ((s206.2.1 87 (by decide)).trans ((s204.2.1 87 (by decide)).trans ((s200.2.1 87 (by decide)).trans ((s198.2.1 87 (by decide)).trans ((s193.2.1 87 (by decide)).trans ((s188.2.1 87 (by decide)).trans ((s187.2.1 87 (by decide)).trans ((s185.2.1 87 (by decide)).trans ((s182.2.1 87 (by decide)).trans e168)))))))))))))) ((s418.2.1 88 (by decide)).trans ((w370.2 88 (by decide)).trans ((s223.2.1 88 (by decide)).trans ((s214.2.1 88 (by decide)).trans ((s208.2.1 88 (by decide)).trans ((s206.2.1 88 (by decide)).trans ((s204.2.1 88 (by decide)).trans ((s200.2.1 88 (by decide)).trans ((s198.2.1 88 (by decide)).trans ((s193.2.1 88 (by decide)).trans ((s188.2.1 88 (by decide)).trans ((s187.2.1 88 (by decide)).trans ((s185.2.1 88 (by decide)).trans ((s182.2.1 88 (by decide)).trans e169)))))))))))))) ((s418.2.1 89 (by decide)).trans ((w370.2 89 (by decide)).trans ((s223.2.1 89 (by decide)).trans ((s214.2.1 89 (by decide)).trans ((s208.2.1 89 (by decide)).trans ((s206.2.1 89 (by decide)).trans ((s204.2.1 89 (by decide)).trans ((s200.2.1 89 (by decide)).trans ((s198.2.1 89 (by decide)).trans ((s193.2.1 89 (by decide)).trans ((s188.2.1 89 (by decide)).trans ((s187.2.1 89 (by decide)).trans ((s185.2.1 89 (by decide)).trans ((s182.2.1 89 (by decide)).trans e170)))))))))))))) ((s418.2.1 77 (by decide)).trans ((w370.2 77 (by decide)).trans ((s223.2.1 77 (by decide)).trans ((s214.2.1 77 (by decide)).trans ((s208.2.1 77 (by decide)).trans ((s206.2.1 77 (by decide)).trans ((s204.2.1 77 (by decide)).trans ((s200.2.1 77 (by decide)).trans ((s198.2.1 77 (by decide)).trans ((s193.2.1 77 (by decide)).trans ((s188.2.1 77 (by decide)).trans ((s187.2.1 77 (by decide)).trans ((s185.2.1 77 (by decide)).trans ((s182.2.1 77 (by decide)).trans e171)))))))))))))) ((s418.2.1 75 (by decide)).trans ((w370.2 75 (by decide)).trans ((s223.2.1 75 (by decide)).trans ((s214.2.1 75 (by decide)).trans ((s208.2.1 75 (by decide)).trans ((s206.2.1 75 (by decide)).trans ((s204.2.1 75 (by decide)).trans ((s200.2.1 75 (by decide)).trans ((s198.2.1 75 (by decide)).trans ((s193.2.1 75 (by decide)).trans ((s188.2.1 75 (by decide)).trans ((s187.2.1 75 (by decide)).trans ((s185.2.1 75 (by decide)).trans ((s182.2.1 75 (by decide)).trans e172)))))))))))))) ((s418.2.1 42 (by decide)).trans ((w370.2 42 (by decide)).trans e225)) ((s418.2.1 33 (by decide)).trans ((w370.2 33 (by decide)).trans ((s223.2.1 33 (by decide)).trans ((s214.2.1 33 (by decide)).trans ((s208.2.1 33 (by decide)).trans ((s206.2.1 33 (by decide)).trans ((s204.2.1 33 (by decide)).trans ((s200.2.1 33 (by decide)).trans ((s198.2.1 33 (by decide)).trans ((s193.2.1 33 (by decide)).trans ((s188.2.1 33 (by decide)).trans ((s187.2.1 33 (by decide)).trans ((s185.2.1 33 (by decide)).trans ((s182.2.1 33 (by decide)).trans e174)))))))))))))) Y S (lv_sub hl [2, 3, 0, 1] rfl)
            · refine lv_aload_n X.1 X.2.1 d_M_reply_288 rfl (lv_at hl 1 rfl) ?_
              refine lv_iconst (v := iI 5) X.1 X.2.1 d_M_reply_289 (by decide) ?_
              refine lv_bipush (v := iI 6) X.1 X.2.1 d_M_reply_290 (by decide) ?_
              refine lv_aload_n X.1 X.2.1 d_M_reply_292 rfl (lv_at hl 1 rfl) ?_
              refine m_get X Y 59 (by decide) lk_sub (gf_sub _ _ _) rfl d_M_reply_293 ?_
              refine r_ni (m_run (As := [.int (iI 5), .int (iI 6), .ref ((q 59))]) (rest := [.ref h]) (n := 3) X Y hZ hA hml hl.1 (r_M_keyIn_sub l D E h q H.size I223 J368 B223 G368 5 (by omega) (by omega) 6 (by omega) (by omega) S.1 (pG1_cg rfl rfl f224) (pG2_cg rfl rfl (pG2_cg (s223.2.2 37 (by decide)) (s223.2.2 38 (by decide)) (pG2_cg (s214.2.2 37 (by decide)) (s214.2.2 38 (by decide)) f209)))) kl_M_keyIn ks_M_keyIn kx_M_keyIn ki_M_keyIn ini_M hd_M_keyIn ⟨Nat.le_of_ble_eq_true rfl, Nat.le_of_ble_eq_true rfl⟩ rfl (Nat.le_of_ble_eq_true rfl) d_M_reply_296 ⟨Nat.le_refl _, Nat.le_refl _⟩) X Y hA S (by decide) (by decide) (fun z421 u H locs Y S s421 p421 => ?_)
              obtain ⟨I421, J421, B421, G421⟩ := u
              dsimp only at Y S s421 p421
              obtain ⟨l421, u421, x421, g421_P1, g421_P2, g421_TF⟩ := p421
              have f422 : rrP rr (I421 69) (B421 37) (B421 38) := rrP_T g421_TF (by decide) (rrP_cg rfl rfl rfl (rrP_cg (s223.2.1 69 (by decide)) (s223.2.2 37 (by decide)) (s223.2.2 38 (by decide)) (rrP_cg (s214.2.1 69 (by decide)) (s214.2.2 37 (by decide)) (s214.2.2 38 (by decide)) f210)))
              have f423 : ssP ss (B421 37) (B421 38) := ssP_T g421_TF (by decide) (ssP_cg rfl rfl (ssP_cg (s223.2.2 37 (by decide)) (s223.2.2 38 (by decide)) (ssP_cg (s214.2.2 37 (by decide)) (s214.2.2 38 (by decide)) f211)))
              refine lv_goto (tgt := 303) X.1 X.2.1 d_M_reply_299 (by decide) ?_
              refine r_puti (k := 80) X Y S (by decide) lk_subType rfl rfl (t_M_ok 80 (by decide)) rfl rfl (sf_subType _ _ _ _) (Nat.le_of_ble_eq_true rfl) rfl (show ((-2147483648) : Int) ≤ z421 by omega) (show z421 ≤ (2147483647 : Int) by omega) ⟨by omega, by omega⟩ (by decide) d_M_reply_303 (fun I424 H locs Y S w424 => ?_)
              refine lv_aload_n X.1 X.2.1 d_M_reply_306 rfl (lv_at hl 1 rfl) ?_
              refine r_get0 X Y (by decide) lk_subType (gf_subType _ _ _) rfl w424.1 d_M_reply_307 ?_
              refine z_if_eq (tgt := 320) X.1 X.2.1 d_M_reply_310 (by decide) ⟨by omega, by omega⟩ (fun h425 => ?_) (fun h425 => ?_)
              · refine lv_aload_n X.1 X.2.1 d_M_reply_320 rfl (lv_at hl 1 rfl) ?_
                refine r_geti (k := 79) X Y S (by decide) lk_ticketType (gf_ticketType _ _ _) rfl rfl d_M_reply_321 (fun z426 e426 l426 u426 => ?_)
                refine lv_istore_n (lv' := [(3, .int (iI z426)), (4, .long 0), (0, .ref h), (1, .int (iI a1))]) X.1 X.2.1 d_M_reply_324 rfl hl (by decide) rfl (fun ls hl => ?_)
                refine lv_aload_n X.1 X.2.1 d_M_reply_325 rfl (lv_at hl 2 rfl) ?_
                refine r_get0 X Y (by decide) lk_subType (gf_subType _ _ _) rfl w424.1 d_M_reply_326 ?_
                have J442 : ∀ (I427 : Nat → Int32) (J427 : Nat → Int64) (B427 : Nat → Nat → Int32) (G427 : Nat → Nat → Int64) (H : Heap) (locs : List Loc) (ls : Array Slot), (pG1 I427) → (pG2 (B427 37) (B427 38)) → (rrP rr (I427 69) (B427 37) (B427 38)) → (ssP ss (B427 37) (B427 38)) → (thF [7] (B 37) (B 38) (B427 37) (B427 38)) → (I427 69 = iI ia) → (I427 86 = iI aa) → (I427 87 = iI ae) → (I427 88 = iI ca) → (I427 89 = iI ce) → (I427 77 = iI ty) → (I427 75 = iI cl) → (I427 42 = iI z225) → (I427 33 = iI cn) → mH D E (mA E h q sz) s.heap h q I427 J427 B427 G427 H locs → rS [3, 8, 14, 18, 29, 33, 36, 39, 40, 42, 80] [0, 1, 5, 6, 7, 9, 10, 11, 12, 13, 15, 16, 17, 19, 20, 21, 22, 23, 24, 34, 35, 37, 38, 56, 59, 90] I B I427 B427 → lv_has ls 9 [(0, .ref h), (1, .int (iI a1)), (3, .int (iI z426)), (4, .long 0)] → W p l e (mR 44 2018) s m AV below meth c H locs 0 0 QQ (F0 m 343 ls []) := by
                  intro I427 J427 B427 G427 H locs ls f428 f429 f430 f431 f432 e433 e434 e435 e436 e437 e438 e439 e440 e441 Y S hl
                  refine lv_iconst (v := iI 0) X.1 X.2.1 d_M_reply_343 (by decide) ?_
                  have J462 : ∀ (n464 : Nat) (z447 : Int) (I446 : Nat → Int32) (J446 : Nat → Int64) (B446 : Nat → Nat → Int32) (G446 : Nat → Nat → Int64) (H : Heap) (locs : List Loc) (ls : Array Slot), (32 - z447).toNat = n464 → (0 ≤ z447) → (z447 ≤ 32) → (pG1 I446) → (pG2 (B446 37) (B446 38)) → (rrP rr (I446 69) (B446 37) (B446 38)) → (ssP ss (B446 37) (B446 38)) → (thF [7] (B 37) (B 38) (B446 37) (B446 38)) → (I446 69 = iI ia) → (I446 86 = iI aa) → (I446 87 = iI ae) → (I446 88 = iI ca) → (I446 89 = iI ce) → (I446 77 = iI ty) → (I446 75 = iI cl) → (I446 42 = iI z225) → (I446 33 = iI cn) → mH D E (mA E h q sz) s.heap h q I446 J446 B446 G446 H locs → rS [3, 8, 14, 18, 29, 33, 36, 39, 40, 42, 80] [0, 1, 5, 6, 7, 9, 10, 11, 12, 13, 15, 16, 17, 19, 20, 21, 22, 23, 24, 34, 35, 37, 38, 56, 59, 90] I B I446 B446 → lv_has ls 9 [(0, .ref h), (1, .int (iI a1)), (3, .int (iI z426)), (4, .long 0), (7, .int (iI z447))] → W p l e (mR 44 2018) s m AV below meth c H locs 0 0 QQ (F0 m 346 ls []) := by
                    intro n464
                    induction n464 using Nat.strongRecOn with
                    | ind n464 ih463 =>
                      intro z447 I446 J446 B446 G446 H locs ls hm465 l447 u447 f448 f449 f450 f451 f452 e453 e454 e455 e456 e457 e458 e459 e460 e461 Y S hl
                      refine lv_iload X.1 X.2.1 d_M_reply_346 (lv_at hl 4 rfl) ?_
                      refine lv_bipush (v := iI 32) X.1 X.2.1 d_M_reply_348 (by decide) ?_
                      refine z_icmp_ge (tgt := 373) X.1 X.2.1 d_M_reply_350 (by decide) ⟨by omega, by omega⟩ ⟨by omega, by omega⟩ (fun h466 => ?_) (fun h466 => ?_)
                      · refine lv_aload_n X.1 X.2.1 d_M_reply_373 rfl (lv_at hl 0 rfl) ?_
                        refine r_geti (k := 80) X Y S (by decide) lk_subType (gf_subType _ _ _) rfl rfl d_M_reply_374 (fun z467 e467 l467 u467 => ?_)
                        refine z_if_eq (tgt := 385) X.1 X.2.1 d_M_reply_377 (by decide) ⟨by omega, by omega⟩ (fun h468 => ?_) (fun h468 => ?_)
                        · refine lv_bipush (v := iI 8) X.1 X.2.1 d_M_reply_385 (by decide) ?_
                          refine lv_istore (lv' := [(6, .int (iI 8)), (0, .ref h), (1, .int (iI a1)), (3, .int (iI z426)), (4, .long 0), (7, .int (iI z447))]) X.1 X.2.1 d_M_reply_387 hl (by decide) rfl (fun ls hl => ?_)
                          exact J244 z426 0 8 I446 J446 B446 G446 _ _ _ (by omega) (by omega) (by omega) (by omega) f448 f449 f450 f451 f452 e453 e454 e455 e456 e457 e458 e459 e460 e461 Y S (lv_sub hl [1, 2, 3, 4, 0] rfl)
                        · refine lv_bipush (v := iI 9) X.1 X.2.1 d_M_reply_380 (by decide) ?_
                          refine lv_goto (tgt := 387) X.1 X.2.1 d_M_reply_382 (by decide) ?_
                          refine lv_istore (lv' := [(6, .int (iI 9)), (0, .ref h), (1, .int (iI a1)), (3, .int (iI z426)), (4, .long 0), (7, .int (iI z447))]) X.1 X.2.1 d_M_reply_387 hl (by decide) rfl (fun ls hl => ?_)
                          exact J244 z426 0 9 I446 J446 B446 G446 _ _ _ (by omega) (by omega) (by omega) (by omega) f448 f449 f450 f451 f452 e453 e454 e455 e456 e457 e458 e459 e460 e461 Y S (lv_sub hl [1, 2, 3, 4, 0] rfl)
                      · refine lv_aload_n X.1 X.2.1 d_M_reply_353 rfl (lv_at hl 0 rfl) ?_
                        refine m_get X Y 56 (by decide) lk_made (gf_made _ _ _) rfl d_M_reply_354 ?_
                        refine lv_iload X.1 X.2.1 d_M_reply_357 (lv_at hl 4 rfl) ?_
                        refine lv_aload_n X.1 X.2.1 d_M_reply_359 rfl (lv_at hl 0 rfl) ?_
                        refine m_get X Y 59 (by decide) lk_sub (gf_sub _ _ _) rfl d_M_reply_360 ?_
                        refine lv_iload X.1 X.2.1 d_M_reply_363 (lv_at hl 4 rfl) ?_
                        refine r_bald X Y S (aw_sub _ _ _ _ _ _ _) rfl (by omega) (show z447 < ((32 : Nat) : Int) by omega) (by omega) d_M_reply_365 (fun z469 q469 l469 u469 => ?_)
                        refine r_bast X Y S (aw_made _ _ _ _ _ _ _) (sw_made _ _ _ _ _ _ _) rfl (by omega) (show z447 < ((32 : Nat) : Int) by omega) (by omega) (by decide) d_M_reply_366 (fun B470 H locs Y S w470 => ?_)
                        refine lv_iinc (v := iI (z447 + 1)) (lv' := [(7, .int (iI (z447 + 1))), (0, .ref h), (1, .int (iI a1)), (3, .int (iI z426)), (4, .long 0)]) X.1 X.2.1 d_M_reply_367 hl (k := 4) rfl ((iI_add _ _).trans (congrArg iI (by omega))) (by decide) rfl (fun ls hl => ?_)
                        refine lv_goto (tgt := 346) X.1 X.2.1 d_M_reply_370 (by decide) ?_
                        exact ih463 ((32 - (z447 + 1)).toNat) (by omega) (z447 + 1) I446 J446 B470 G446 _ _ _ rfl (by omega) (by omega) (pG1_cg rfl rfl f448) (pG2_cg (w470.2 37 (by decide)) (w470.2 38 (by decide)) f449) (rrP_cg rfl (w470.2 37 (by decide)) (w470.2 38 (by decide)) f450) (ssP_cg (w470.2 37 (by decide)) (w470.2 38 (by decide)) f451) (thF_cg (w470.2 37 (by decide)) (w470.2 38 (by decide)) f452) e453 e454 e455 e456 e457 e458 e459 e460 e461 Y S (lv_sub hl [1, 2, 3, 4, 0] rfl)
                  refine lv_istore (lv' := [(7, .int (iI 0)), (0, .ref h), (1, .int (iI a1)), (3, .int (iI z426)), (4, .long 0)]) X.1 X.2.1 d_M_reply_344 hl (by decide) rfl (fun ls hl => ?_)
                  exact J462 _ 0 I427 J427 B427 G427 _ _ _ rfl (by omega) (by omega) f428 f429 f430 f431 f432 e433 e434 e435 e436 e437 e438 e439 e440 e441 Y S (lv_sub hl [1, 2, 3, 4, 0] rfl)
                refine z_if_ne (tgt := 343) X.1 X.2.1 d_M_reply_329 (by decide) ⟨by omega, by omega⟩ (fun h471 => False.elim (by omega)) (fun h471 => ?_)
                · refine lv_aload_n X.1 X.2.1 d_M_reply_332 rfl (lv_at hl 2 rfl) ?_
                  refine lv_iconst (v := iI 4) X.1 X.2.1 d_M_reply_333 (by decide) ?_
                  refine lv_iconst (v := iI 1) X.1 X.2.1 d_M_reply_334 (by decide) ?_
                  refine lv_aload_n X.1 X.2.1 d_M_reply_335 rfl (lv_at hl 2 rfl) ?_
                  refine m_get X Y 59 (by decide) lk_sub (gf_sub _ _ _) rfl d_M_reply_336 ?_
                  refine r_ni (m_run (As := [.int (iI 4), .int (iI 1), .ref ((q 59))]) (rest := []) (n := 3) X Y hZ hA hml hl.1 (r_M_keyIn_sub l D E h q H.size I424 J421 B421 G421 4 (by omega) (by omega) 1 (by omega) (by omega) S.1 (pG1_cg (w424.2 39 (by decide)) (w424.2 40 (by decide)) g421_P1) (pG2_cg rfl rfl g421_P2)) kl_M_keyIn ks_M_keyIn kx_M_keyIn ki_M_keyIn ini_M hd_M_keyIn ⟨Nat.le_of_ble_eq_true rfl, Nat.le_of_ble_eq_true rfl⟩ rfl (Nat.le_of_ble_eq_true rfl) d_M_reply_339 ⟨Nat.le_refl _, Nat.le_refl _⟩) X Y hA S (by decide) (by decide) (fun z472 u H locs Y S s472 p472 => ?_)
                  obtain ⟨I472, J472, B472, G472⟩ := u
                  dsimp only at Y S s472 p472
                  obtain ⟨l472, u472, x472, g472_P1, g472_P2, g472_TF⟩ := p472
                  have f473 : rrP rr (I472 69) (B472 37) (B472 38) := rrP_T g472_TF (by decide) (rrP_cg (w424.2 69 (by decide)) rfl rfl f422)
                  have f474 : ssP ss (B472 37) (B472 38) := ssP_T g472_TF (by decide) (ssP_cg rfl rfl f423)
                  refine lv_pop X.1 X.2.1 d_M_reply_342 rfl ?_
                  exact J442 I472 J472 B472 G472 _ _ _ g472_P1 g472_P2 f473 f474 (thF_tr (thF_cg rfl rfl (thF_tr (thF_cg rfl rfl (thF_cg (s223.2.2 37 (by decide)) (s223.2.2 38 (by decide)) (thF_cg (s214.2.2 37 (by decide)) (s214.2.2 38 (by decide)) f212))) g421_TF (by decide))) g472_TF (by decide)) ((s472.2.1 69 (by decide)).trans ((w424.2 69 (by decide)).trans ((s421.2.1 69 (by decide)).trans ((s223.2.1 69 (by decide)).trans ((s214.2.1 69 (by decide)).trans ((s208.2.1 69 (by decide)).trans ((s206.2.1 69 (by decide)).trans ((s204.2.1 69 (by decide)).trans ((s200.2.1 69 (by decide)).trans ((s198.2.1 69 (by decide)).trans ((s193.2.1 69 (by decide)).trans ((s188.2.1 69 (by decide)).trans ((s187.2.1 69 (by decide)).trans ((s185.2.1 69 (by decide)).trans ((s182.2.1 69 (by decide)).trans e166))))))))))))))) ((s472.2.1 86 (by decide)).trans ((w424.2 86 (by decide)).trans ((s421.2.1 86 (by decide)).trans ((s223.2.1 86 (by decide)).trans ((s214.2.1 86 (by decide)).trans ((s208.2.1 86 (by decide)).trans ((s206.2.1 86 (by decide)).trans ((s204.2.1 86 (by decide)).trans ((s200.2.1 86 (by decide)).trans ((s198.2.1 86 (by decide)).trans ((s193.2.1 86 (by decide)).trans ((s188.2.1 86 (by decide)).trans ((s187.2.1 86 (by decide)).trans ((s185.2.1 86 (by decide)).trans ((s182.2.1 86 (by decide)).trans e167))))))))))))))) ((s472.2.1 87 (by decide)).trans ((w424.2 87 (by decide)).trans ((s421.2.1 87 (by decide)).trans ((s223.2.1 87 (by decide)).trans ((s214.2.1 87 (by decide)).trans ((s208.2.1 87 (by decide)).trans ((s206.2.1 87 (by decide)).trans ((s204.2.1 87 (by decide)).trans ((s200.2.1 87 (by decide)).trans ((s198.2.1 87 (by decide)).trans ((s193.2.1 87 (by decide)).trans ((s188.2.1 87 (by decide)).trans ((s187.2.1 87 (by decide)).trans ((s185.2.1 87 (by decide)).trans ((s182.2.1 87 (by decide)).trans e168))))))))))))))) ((s472.2.1 88 (by decide)).trans ((w424.2 88 (by decide)).trans ((s421.2.1 88 (by decide)).trans ((s223.2.1 88 (by decide)).trans ((s214.2.1 88 (by decide)).trans ((s208.2.1 88 (by decide)).trans ((s206.2.1 88 (by decide)).trans ((s204.2.1 88 (by decide)).trans ((s200.2.1 88 (by decide)).trans ((s198.2.1 88 (by decide)).trans ((s193.2.1 88 (by decide)).trans ((s188.2.1 88 (by decide)).trans ((s187.2.1 88 (by decide)).trans ((s185.2.1 88 (by decide)).trans ((s182.2.1 88 (by decide)).trans e169))))))))))))))) ((s472.2.1 89 (by decide)).trans ((w424.2 89 (by decide)).trans ((s421.2.1 89 (by decide)).trans ((s223.2.1 89 (by decide)).trans ((s214.2.1 89 (by decide)).trans ((s208.2.1 89 (by decide)).trans ((s206.2.1 89 (by decide)).trans ((s204.2.1 89 (by decide)).trans ((s200.2.1 89 (by decide)).trans ((s198.2.1 89 (by decide)).trans ((s193.2.1 89 (by decide)).trans ((s188.2.1 89 (by decide)).trans ((s187.2.1 89 (by decide)).trans ((s185.2.1 89 (by decide)).trans ((s182.2.1 89 (by decide)).trans e170))))))))))))))) ((s472.2.1 77 (by decide)).trans ((w424.2 77 (by decide)).trans ((s421.2.1 77 (by decide)).trans ((s223.2.1 77 (by decide)).trans ((s214.2.1 77 (by decide)).trans ((s208.2.1 77 (by decide)).trans ((s206.2.1 77 (by decide)).trans ((s204.2.1 77 (by decide)).trans ((s200.2.1 77 (by decide)).trans ((s198.2.1 77 (by decide)).trans ((s193.2.1 77 (by decide)).trans ((s188.2.1 77 (by decide)).trans ((s187.2.1 77 (by decide)).trans ((s185.2.1 77 (by decide)).trans ((s182.2.1 77 (by decide)).trans e171))))))))))))))) ((s472.2.1 75 (by decide)).trans ((w424.2 75 (by decide)).trans ((s421.2.1 75 (by decide)).trans ((s223.2.1 75 (by decide)).trans ((s214.2.1 75 (by decide)).trans ((s208.2.1 75 (by decide)).trans ((s206.2.1 75 (by decide)).trans ((s204.2.1 75 (by decide)).trans ((s200.2.1 75 (by decide)).trans ((s198.2.1 75 (by decide)).trans ((s193.2.1 75 (by decide)).trans ((s188.2.1 75 (by decide)).trans ((s187.2.1 75 (by decide)).trans ((s185.2.1 75 (by decide)).trans ((s182.2.1 75 (by decide)).trans e172))))))))))))))) ((s472.2.1 42 (by decide)).trans ((w424.2 42 (by decide)).trans ((s421.2.1 42 (by decide)).trans e225))) ((s472.2.1 33 (by decide)).trans ((w424.2 33 (by decide)).trans ((s421.2.1 33 (by decide)).trans ((s223.2.1 33 (by decide)).trans ((s214.2.1 33 (by decide)).trans ((s208.2.1 33 (by decide)).trans ((s206.2.1 33 (by decide)).trans ((s204.2.1 33 (by decide)).trans ((s200.2.1 33 (by decide)).trans ((s198.2.1 33 (by decide)).trans ((s193.2.1 33 (by decide)).trans ((s188.2.1 33 (by decide)).trans ((s187.2.1 33 (by decide)).trans ((s185.2.1 33 (by decide)).trans ((s182.2.1 33 (by decide)).trans e174))))))))))))))) Y S (lv_sub hl [2, 3, 0, 1] rfl)
              · refine lv_aload_n X.1 X.2.1 d_M_reply_313 rfl (lv_at hl 1 rfl) ?_
                refine r_get0 X Y (by decide) lk_subType (gf_subType _ _ _) rfl w424.1 d_M_reply_314 ?_
                refine lv_goto (tgt := 324) X.1 X.2.1 d_M_reply_317 (by decide) ?_
                refine lv_istore_n (lv' := [(3, .int (iI z421)), (4, .long 0), (0, .ref h), (1, .int (iI a1))]) X.1 X.2.1 d_M_reply_324 rfl hl (by decide) rfl (fun ls hl => ?_)
                refine lv_aload_n X.1 X.2.1 d_M_reply_325 rfl (lv_at hl 2 rfl) ?_
                refine r_get0 X Y (by decide) lk_subType (gf_subType _ _ _) rfl w424.1 d_M_reply_326 ?_
                have J475 : ∀  (H : Heap) (locs : List Loc) (ls : Array Slot), mH D E (mA E h q sz) s.heap h q I424 J421 B421 G421 H locs → rS [3, 8, 14, 18, 29, 33, 36, 39, 40, 42, 80] [0, 1, 5, 6, 7, 9, 10, 11, 12, 13, 15, 16, 17, 19, 20, 21, 22, 23, 24, 34, 35, 37, 38, 56, 59, 90] I B I424 B421 → lv_has ls 9 [(0, .ref h), (1, .int (iI a1)), (3, .int (iI z421)), (4, .long 0)] → W p l e (mR 44 2018) s m AV below meth c H locs 0 0 QQ (F0 m 343 ls []) := by
                  intro  H locs ls  Y S hl
                  refine lv_iconst (v := iI 0) X.1 X.2.1 d_M_reply_343 (by decide) ?_
                  have J495 : ∀ (n497 : Nat) (z480 : Int) (I479 : Nat → Int32) (J479 : Nat → Int64) (B479 : Nat → Nat → Int32) (G479 : Nat → Nat → Int64) (H : Heap) (locs : List Loc) (ls : Array Slot), (32 - z480).toNat = n497 → (0 ≤ z480) → (z480 ≤ 32) → (pG1 I479) → (pG2 (B479 37) (B479 38)) → (rrP rr (I479 69) (B479 37) (B479 38)) → (ssP ss (B479 37) (B479 38)) → (thF [7] (B 37) (B 38) (B479 37) (B479 38)) → (I479 69 = iI ia) → (I479 86 = iI aa) → (I479 87 = iI ae) → (I479 88 = iI ca) → (I479 89 = iI ce) → (I479 77 = iI ty) → (I479 75 = iI cl) → (I479 42 = iI z225) → (I479 33 = iI cn) → mH D E (mA E h q sz) s.heap h q I479 J479 B479 G479 H locs → rS [3, 8, 14, 18, 29, 33, 36, 39, 40, 42, 80] [0, 1, 5, 6, 7, 9, 10, 11, 12, 13, 15, 16, 17, 19, 20, 21, 22, 23, 24, 34, 35, 37, 38, 56, 59, 90] I B I479 B479 → lv_has ls 9 [(0, .ref h), (1, .int (iI a1)), (3, .int (iI z421)), (4, .long 0), (7, .int (iI z480))] → W p l e (mR 44 2018) s m AV below meth c H locs 0 0 QQ (F0 m 346 ls []) := by
                    intro n497
                    induction n497 using Nat.strongRecOn with
                    | ind n497 ih496 =>
                      intro z480 I479 J479 B479 G479 H locs ls hm498 l480 u480 f481 f482 f483 f484 f485 e486 e487 e488 e489 e490 e491 e492 e493 e494 Y S hl
                      refine lv_iload X.1 X.2.1 d_M_reply_346 (lv_at hl 4 rfl) ?_
                      refine lv_bipush (v := iI 32) X.1 X.2.1 d_M_reply_348 (by decide) ?_
                      refine z_icmp_ge (tgt := 373) X.1 X.2.1 d_M_reply_350 (by decide) ⟨by omega, by omega⟩ ⟨by omega, by omega⟩ (fun h499 => ?_) (fun h499 => ?_)
                      · refine lv_aload_n X.1 X.2.1 d_M_reply_373 rfl (lv_at hl 0 rfl) ?_
                        refine r_geti (k := 80) X Y S (by decide) lk_subType (gf_subType _ _ _) rfl rfl d_M_reply_374 (fun z500 e500 l500 u500 => ?_)
                        refine z_if_eq (tgt := 385) X.1 X.2.1 d_M_reply_377 (by decide) ⟨by omega, by omega⟩ (fun h501 => ?_) (fun h501 => ?_)
                        · refine lv_bipush (v := iI 8) X.1 X.2.1 d_M_reply_385 (by decide) ?_
                          refine lv_istore (lv' := [(6, .int (iI 8)), (0, .ref h), (1, .int (iI a1)), (3, .int (iI z421)), (4, .long 0), (7, .int (iI z480))]) X.1 X.2.1 d_M_reply_387 hl (by decide) rfl (fun ls hl => ?_)
                          exact J244 z421 0 8 I479 J479 B479 G479 _ _ _ (by omega) (by omega) (by omega) (by omega) f481 f482 f483 f484 f485 e486 e487 e488 e489 e490 e491 e492 e493 e494 Y S (lv_sub hl [1, 2, 3, 4, 0] rfl)
                        · refine lv_bipush (v := iI 9) X.1 X.2.1 d_M_reply_380 (by decide) ?_
                          refine lv_goto (tgt := 387) X.1 X.2.1 d_M_reply_382 (by decide) ?_
                          refine lv_istore (lv' := [(6, .int (iI 9)), (0, .ref h), (1, .int (iI a1)), (3, .int (iI z421)), (4, .long 0), (7, .int (iI z480))]) X.1 X.2.1 d_M_reply_387 hl (by decide) rfl (fun ls hl => ?_)
                          exact J244 z421 0 9 I479 J479 B479 G479 _ _ _ (by omega) (by omega) (by omega) (by omega) f481 f482 f483 f484 f485 e486 e487 e488 e489 e490 e491 e492 e493 e494 Y S (lv_sub hl [1, 2, 3, 4, 0] rfl)
                      · refine lv_aload_n X.1 X.2.1 d_M_reply_353 rfl (lv_at hl 0 rfl) ?_
                        refine m_get X Y 56 (by decide) lk_made (gf_made _ _ _) rfl d_M_reply_354 ?_
                        refine lv_iload X.1 X.2.1 d_M_reply_357 (lv_at hl 4 rfl) ?_
                        refine lv_aload_n X.1 X.2.1 d_M_reply_359 rfl (lv_at hl 0 rfl) ?_
                        refine m_get X Y 59 (by decide) lk_sub (gf_sub _ _ _) rfl d_M_reply_360 ?_
                        refine lv_iload X.1 X.2.1 d_M_reply_363 (lv_at hl 4 rfl) ?_
                        refine r_bald X Y S (aw_sub _ _ _ _ _ _ _) rfl (by omega) (show z480 < ((32 : Nat) : Int) by omega) (by omega) d_M_reply_365 (fun z502 q502 l502 u502 => ?_)
                        refine r_bast X Y S (aw_made _ _ _ _ _ _ _) (sw_made _ _ _ _ _ _ _) rfl (by omega) (show z480 < ((32 : Nat) : Int) by omega) (by omega) (by decide) d_M_reply_366 (fun B503 H locs Y S w503 => ?_)
                        refine lv_iinc (v := iI (z480 + 1)) (lv' := [(7, .int (iI (z480 + 1))), (0, .ref h), (1, .int (iI a1)), (3, .int (iI z421)), (4, .long 0)]) X.1 X.2.1 d_M_reply_367 hl (k := 4) rfl ((iI_add _ _).trans (congrArg iI (by omega))) (by decide) rfl (fun ls hl => ?_)
                        refine lv_goto (tgt := 346) X.1 X.2.1 d_M_reply_370 (by decide) ?_
                        exact ih496 ((32 - (z480 + 1)).toNat) (by omega) (z480 + 1) I479 J479 B503 G479 _ _ _ rfl (by omega) (by omega) (pG1_cg rfl rfl f481) (pG2_cg (w503.2 37 (by decide)) (w503.2 38 (by decide)) f482) (rrP_cg rfl (w503.2 37 (by decide)) (w503.2 38 (by decide)) f483) (ssP_cg (w503.2 37 (by decide)) (w503.2 38 (by decide)) f484) (thF_cg (w503.2 37 (by decide)) (w503.2 38 (by decide)) f485) e486 e487 e488 e489 e490 e491 e492 e493 e494 Y S (lv_sub hl [1, 2, 3, 4, 0] rfl)
                  refine lv_istore (lv' := [(7, .int (iI 0)), (0, .ref h), (1, .int (iI a1)), (3, .int (iI z421)), (4, .long 0)]) X.1 X.2.1 d_M_reply_344 hl (by decide) rfl (fun ls hl => ?_)
                  exact J495 _ 0 I424 J421 B421 G421 _ _ _ rfl (by omega) (by omega) (pG1_cg (w424.2 39 (by decide)) (w424.2 40 (by decide)) g421_P1) (pG2_cg rfl rfl g421_P2) (rrP_cg (w424.2 69 (by decide)) rfl rfl f422) (ssP_cg rfl rfl f423) (thF_cg rfl rfl (thF_tr (thF_cg rfl rfl (thF_cg (s223.2.2 37 (by decide)) (s223.2.2 38 (by decide)) (thF_cg (s214.2.2 37 (by decide)) (s214.2.2 38 (by decide)) f212))) g421_TF (by decide))) ((w424.2 69 (by decide)).trans ((s421.2.1 69 (by decide)).trans ((s223.2.1 69 (by decide)).trans ((s214.2.1 69 (by decide)).trans ((s208.2.1 69 (by decide)).trans ((s206.2.1 69 (by decide)).trans ((s204.2.1 69 (by decide)).trans ((s200.2.1 69 (by decide)).trans ((s198.2.1 69 (by decide)).trans ((s193.2.1 69 (by decide)).trans ((s188.2.1 69 (by decide)).trans ((s187.2.1 69 (by decide)).trans ((s185.2.1 69 (by decide)).trans ((s182.2.1 69 (by decide)).trans e166)))))))))))))) ((w424.2 86 (by decide)).trans ((s421.2.1 86 (by decide)).trans ((s223.2.1 86 (by decide)).trans ((s214.2.1 86 (by decide)).trans ((s208.2.1 86 (by decide)).trans ((s206.2.1 86 (by decide)).trans ((s204.2.1 86 (by decide)).trans ((s200.2.1 86 (by decide)).trans ((s198.2.1 86 (by decide)).trans ((s193.2.1 86 (by decide)).trans ((s188.2.1 86 (by decide)).trans ((s187.2.1 86 (by decide)).trans ((s185.2.1 86 (by decide)).trans ((s182.2.1 86 (by decide)).trans e167)))))))))))))) ((w424.2 87 (by decide)).trans ((s421.2.1 87 (by decide)).trans ((s223.2.1 87 (by decide)).trans ((s214.2.1 87 (by decide)).trans ((s208.2.1 87 (by decide)).trans ((s206.2.1 87 (by decide)).trans ((s204.2.1 87 (by decide)).trans ((s200.2.1 87 (by decide)).trans ((s198.2.1 87 (by decide)).trans ((s193.2.1 87 (by decide)).trans ((s188.2.1 87 (by decide)).trans ((s187.2.1 87 (by decide)).trans ((s185.2.1 87 (by decide)).trans ((s182.2.1 87 (by decide)).trans e168)))))))))))))) ((w424.2 88 (by decide)).trans ((s421.2.1 88 (by decide)).trans ((s223.2.1 88 (by decide)).trans ((s214.2.1 88 (by decide)).trans ((s208.2.1 88 (by decide)).trans ((s206.2.1 88 (by decide)).trans ((s204.2.1 88 (by decide)).trans ((s200.2.1 88 (by decide)).trans ((s198.2.1 88 (by decide)).trans ((s193.2.1 88 (by decide)).trans ((s188.2.1 88 (by decide)).trans ((s187.2.1 88 (by decide)).trans ((s185.2.1 88 (by decide)).trans ((s182.2.1 88 (by decide)).trans e169)))))))))))))) ((w424.2 89 (by decide)).trans ((s421.2.1 89 (by decide)).trans ((s223.2.1 89 (by decide)).trans ((s214.2.1 89 (by decide)).trans ((s208.2.1 89 (by decide)).trans ((s206.2.1 89 (by decide)).trans ((s204.2.1 89 (by decide)).trans ((s200.2.1 89 (by decide)).trans ((s198.2.1 89 (by decide)).trans ((s193.2.1 89 (by decide)).trans ((s188.2.1 89 (by decide)).trans ((s187.2.1 89 (by decide)).trans ((s185.2.1 89 (by decide)).trans ((s182.2.1 89 (by decide)).trans e170)))))))))))))) ((w424.2 77 (by decide)).trans ((s421.2.1 77 (by decide)).trans ((s223.2.1 77 (by decide)).trans ((s214.2.1 77 (by decide)).trans ((s208.2.1 77 (by decide)).trans ((s206.2.1 77 (by decide)).trans ((s204.2.1 77 (by decide)).trans ((s200.2.1 77 (by decide)).trans ((s198.2.1 77 (by decide)).trans ((s193.2.1 77 (by decide)).trans ((s188.2.1 77 (by decide)).trans ((s187.2.1 77 (by decide)).trans ((s185.2.1 77 (by decide)).trans ((s182.2.1 77 (by decide)).trans e171)))))))))))))) ((w424.2 75 (by decide)).trans ((s421.2.1 75 (by decide)).trans ((s223.2.1 75 (by decide)).trans ((s214.2.1 75 (by decide)).trans ((s208.2.1 75 (by decide)).trans ((s206.2.1 75 (by decide)).trans ((s204.2.1 75 (by decide)).trans ((s200.2.1 75 (by decide)).trans ((s198.2.1 75 (by decide)).trans ((s193.2.1 75 (by decide)).trans ((s188.2.1 75 (by decide)).trans ((s187.2.1 75 (by decide)).trans ((s185.2.1 75 (by decide)).trans ((s182.2.1 75 (by decide)).trans e172)))))))))))))) ((w424.2 42 (by decide)).trans ((s421.2.1 42 (by decide)).trans e225)) ((w424.2 33 (by decide)).trans ((s421.2.1 33 (by decide)).trans ((s223.2.1 33 (by decide)).trans ((s214.2.1 33 (by decide)).trans ((s208.2.1 33 (by decide)).trans ((s206.2.1 33 (by decide)).trans ((s204.2.1 33 (by decide)).trans ((s200.2.1 33 (by decide)).trans ((s198.2.1 33 (by decide)).trans ((s193.2.1 33 (by decide)).trans ((s188.2.1 33 (by decide)).trans ((s187.2.1 33 (by decide)).trans ((s185.2.1 33 (by decide)).trans ((s182.2.1 33 (by decide)).trans e174)))))))))))))) Y S (lv_sub hl [1, 2, 3, 4, 0] rfl)
                refine z_if_ne (tgt := 343) X.1 X.2.1 d_M_reply_329 (by decide) ⟨by omega, by omega⟩ (fun h504 => ?_) (fun h504 => False.elim (by omega))
                · exact J475  _ _ _  Y S (lv_sub hl [2, 3, 0, 1] rfl)
          · refine lv_aload_n X.1 X.2.1 d_M_reply_229 rfl (lv_at hl 1 rfl) ?_
            refine r_get0 X Y (by decide) lk_type (gf_type _ _ _) rfl ((s223.2.1 77 (by decide)).trans ((s214.2.1 77 (by decide)).trans ((s208.2.1 77 (by decide)).trans ((s206.2.1 77 (by decide)).trans ((s204.2.1 77 (by decide)).trans ((s200.2.1 77 (by decide)).trans ((s198.2.1 77 (by decide)).trans ((s193.2.1 77 (by decide)).trans ((s188.2.1 77 (by decide)).trans ((s187.2.1 77 (by decide)).trans ((s185.2.1 77 (by decide)).trans ((s182.2.1 77 (by decide)).trans e171)))))))))))) d_M_reply_230 ?_
            refine lv_istore_n (lv' := [(3, .int (iI ty)), (4, .long 0), (0, .ref h), (1, .int (iI a1))]) X.1 X.2.1 d_M_reply_233 rfl hl (by decide) rfl (fun ls hl => ?_)
            refine lv_aload_n X.1 X.2.1 d_M_reply_234 rfl (lv_at hl 2 rfl) ?_
            refine m_get X Y 46 (by decide) lk_versions (gf_versions _ _ _) rfl d_M_reply_235 ?_
            refine lv_aload_n X.1 X.2.1 d_M_reply_238 rfl (lv_at hl 2 rfl) ?_
            refine r_get0 X Y (by decide) lk_client (gf_client _ _ _) rfl ((s223.2.1 75 (by decide)).trans ((s214.2.1 75 (by decide)).trans ((s208.2.1 75 (by decide)).trans ((s206.2.1 75 (by decide)).trans ((s204.2.1 75 (by decide)).trans ((s200.2.1 75 (by decide)).trans ((s198.2.1 75 (by decide)).trans ((s193.2.1 75 (by decide)).trans ((s188.2.1 75 (by decide)).trans ((s187.2.1 75 (by decide)).trans ((s185.2.1 75 (by decide)).trans ((s182.2.1 75 (by decide)).trans e172)))))))))))) d_M_reply_239 ?_
            refine r_iald X Y S (aw_versions _ _ _ _ _ _ _) rfl (by omega) (show cl < ((12 : Nat) : Int) by omega) (by omega) d_M_reply_242 (fun z505 q505 l505 u505 => ?_)
            refine lv_i2l X.1 X.2.1 d_M_reply_243 rfl ?_
            refine t_anyl (fun v506 => ?_)
            refine lv_lstore (lv' := [(4, .long v506), (3, .int (iI ty)), (0, .ref h), (1, .int (iI a1))]) X.1 X.2.1 d_M_reply_244 hl (by decide) rfl (fun ls hl => ?_)
            refine lv_aload_n X.1 X.2.1 d_M_reply_246 rfl (lv_at hl 2 rfl) ?_
            refine lv_aload_n X.1 X.2.1 d_M_reply_247 rfl (lv_at hl 2 rfl) ?_
            refine r_get0 X Y (by decide) lk_client (gf_client _ _ _) rfl ((s223.2.1 75 (by decide)).trans ((s214.2.1 75 (by decide)).trans ((s208.2.1 75 (by decide)).trans ((s206.2.1 75 (by decide)).trans ((s204.2.1 75 (by decide)).trans ((s200.2.1 75 (by decide)).trans ((s198.2.1 75 (by decide)).trans ((s193.2.1 75 (by decide)).trans ((s188.2.1 75 (by decide)).trans ((s187.2.1 75 (by decide)).trans ((s185.2.1 75 (by decide)).trans ((s182.2.1 75 (by decide)).trans e172)))))))))))) d_M_reply_248 ?_
            refine lv_aload_n X.1 X.2.1 d_M_reply_251 rfl (lv_at hl 2 rfl) ?_
            refine m_get X Y 46 (by decide) lk_versions (gf_versions _ _ _) rfl d_M_reply_252 ?_
            refine lv_aload_n X.1 X.2.1 d_M_reply_255 rfl (lv_at hl 2 rfl) ?_
            refine r_get0 X Y (by decide) lk_client (gf_client _ _ _) rfl ((s223.2.1 75 (by decide)).trans ((s214.2.1 75 (by decide)).trans ((s208.2.1 75 (by decide)).trans ((s206.2.1 75 (by decide)).trans ((s204.2.1 75 (by decide)).trans ((s200.2.1 75 (by decide)).trans ((s198.2.1 75 (by decide)).trans ((s193.2.1 75 (by decide)).trans ((s188.2.1 75 (by decide)).trans ((s187.2.1 75 (by decide)).trans ((s185.2.1 75 (by decide)).trans ((s182.2.1 75 (by decide)).trans e172)))))))))))) d_M_reply_256 ?_
            refine r_iald X Y S (aw_versions _ _ _ _ _ _ _) rfl (by omega) (show cl < ((12 : Nat) : Int) by omega) (by omega) d_M_reply_259 (fun z507 q507 l507 u507 => ?_)
            refine lv_aload_n X.1 X.2.1 d_M_reply_260 rfl (lv_at hl 2 rfl) ?_
            refine r_get0 X Y (by decide) lk_type (gf_type _ _ _) rfl ((s223.2.1 77 (by decide)).trans ((s214.2.1 77 (by decide)).trans ((s208.2.1 77 (by decide)).trans ((s206.2.1 77 (by decide)).trans ((s204.2.1 77 (by decide)).trans ((s200.2.1 77 (by decide)).trans ((s198.2.1 77 (by decide)).trans ((s193.2.1 77 (by decide)).trans ((s188.2.1 77 (by decide)).trans ((s187.2.1 77 (by decide)).trans ((s185.2.1 77 (by decide)).trans ((s182.2.1 77 (by decide)).trans e171)))))))))))) d_M_reply_261 ?_
            refine lv_aload_n X.1 X.2.1 d_M_reply_264 rfl (lv_at hl 2 rfl) ?_
            refine m_get X Y 56 (by decide) lk_made (gf_made _ _ _) rfl d_M_reply_265 ?_
            refine r_nv (m_run (As := [.int (iI cl), .int (iI z507), .int (iI ty), .ref ((q 56))]) (rest := []) (n := 4) X Y hZ hA hml hl.1 (r_M_keyOf_made l D E h q H.size I223 J223 B223 G223 cl (by omega) (by omega) z507 (by omega) (by omega) ty (by omega) (by omega) S.1) kl_M_keyOf ks_M_keyOf kx_M_keyOf ki_M_keyOf ini_M hd_M_keyOf ⟨Nat.le_of_ble_eq_true rfl, Nat.le_of_ble_eq_true rfl⟩ rfl (Nat.le_of_ble_eq_true rfl) d_M_reply_268 ⟨Nat.le_refl _, Nat.le_refl _⟩) X Y hA S (by decide) (by decide) (fun u H locs Y S s508 p508 => ?_)
            obtain ⟨I508, J508, B508, G508⟩ := u
            dsimp only at Y S s508 p508
            have i508 : I223 = I508 := (funext (fun j => s508.2.1 j (by simp))).symm
            subst i508
            refine lv_iconst (v := iI 3) X.1 X.2.1 d_M_reply_271 (by decide) ?_
            refine lv_istore (lv' := [(6, .int (iI 3)), (4, .long v506), (3, .int (iI ty)), (0, .ref h), (1, .int (iI a1))]) X.1 X.2.1 d_M_reply_272 hl (by decide) rfl (fun ls hl => ?_)
            refine lv_goto (tgt := 389) X.1 X.2.1 d_M_reply_274 (by decide) ?_
            exact J244 ty v506 3 I223 J508 B508 G508 _ _ _ (by omega) (by omega) (by omega) (by omega) (pG1_cg rfl rfl f224) (pG2_cg (s508.2.2 37 (by decide)) (s508.2.2 38 (by decide)) (pG2_cg (s223.2.2 37 (by decide)) (s223.2.2 38 (by decide)) (pG2_cg (s214.2.2 37 (by decide)) (s214.2.2 38 (by decide)) f209))) (rrP_cg rfl (s508.2.2 37 (by decide)) (s508.2.2 38 (by decide)) (rrP_cg (s223.2.1 69 (by decide)) (s223.2.2 37 (by decide)) (s223.2.2 38 (by decide)) (rrP_cg (s214.2.1 69 (by decide)) (s214.2.2 37 (by decide)) (s214.2.2 38 (by decide)) f210))) (ssP_cg (s508.2.2 37 (by decide)) (s508.2.2 38 (by decide)) (ssP_cg (s223.2.2 37 (by decide)) (s223.2.2 38 (by decide)) (ssP_cg (s214.2.2 37 (by decide)) (s214.2.2 38 (by decide)) f211))) (thF_cg (s508.2.2 37 (by decide)) (s508.2.2 38 (by decide)) (thF_cg (s223.2.2 37 (by decide)) (s223.2.2 38 (by decide)) (thF_cg (s214.2.2 37 (by decide)) (s214.2.2 38 (by decide)) f212))) ((s223.2.1 69 (by decide)).trans ((s214.2.1 69 (by decide)).trans ((s208.2.1 69 (by decide)).trans ((s206.2.1 69 (by decide)).trans ((s204.2.1 69 (by decide)).trans ((s200.2.1 69 (by decide)).trans ((s198.2.1 69 (by decide)).trans ((s193.2.1 69 (by decide)).trans ((s188.2.1 69 (by decide)).trans ((s187.2.1 69 (by decide)).trans ((s185.2.1 69 (by decide)).trans ((s182.2.1 69 (by decide)).trans e166)))))))))))) ((s223.2.1 86 (by decide)).trans ((s214.2.1 86 (by decide)).trans ((s208.2.1 86 (by decide)).trans ((s206.2.1 86 (by decide)).trans ((s204.2.1 86 (by decide)).trans ((s200.2.1 86 (by decide)).trans ((s198.2.1 86 (by decide)).trans ((s193.2.1 86 (by decide)).trans ((s188.2.1 86 (by decide)).trans ((s187.2.1 86 (by decide)).trans ((s185.2.1 86 (by decide)).trans ((s182.2.1 86 (by decide)).trans e167)))))))))))) ((s223.2.1 87 (by decide)).trans ((s214.2.1 87 (by decide)).trans ((s208.2.1 87 (by decide)).trans ((s206.2.1 87 (by decide)).trans ((s204.2.1 87 (by decide)).trans ((s200.2.1 87 (by decide)).trans ((s198.2.1 87 (by decide)).trans ((s193.2.1 87 (by decide)).trans ((s188.2.1 87 (by decide)).trans ((s187.2.1 87 (by decide)).trans ((s185.2.1 87 (by decide)).trans ((s182.2.1 87 (by decide)).trans e168)))))))))))) ((s223.2.1 88 (by decide)).trans ((s214.2.1 88 (by decide)).trans ((s208.2.1 88 (by decide)).trans ((s206.2.1 88 (by decide)).trans ((s204.2.1 88 (by decide)).trans ((s200.2.1 88 (by decide)).trans ((s198.2.1 88 (by decide)).trans ((s193.2.1 88 (by decide)).trans ((s188.2.1 88 (by decide)).trans ((s187.2.1 88 (by decide)).trans ((s185.2.1 88 (by decide)).trans ((s182.2.1 88 (by decide)).trans e169)))))))))))) ((s223.2.1 89 (by decide)).trans ((s214.2.1 89 (by decide)).trans ((s208.2.1 89 (by decide)).trans ((s206.2.1 89 (by decide)).trans ((s204.2.1 89 (by decide)).trans ((s200.2.1 89 (by decide)).trans ((s198.2.1 89 (by decide)).trans ((s193.2.1 89 (by decide)).trans ((s188.2.1 89 (by decide)).trans ((s187.2.1 89 (by decide)).trans ((s185.2.1 89 (by decide)).trans ((s182.2.1 89 (by decide)).trans e170)))))))))))) ((s223.2.1 77 (by decide)).trans ((s214.2.1 77 (by decide)).trans ((s208.2.1 77 (by decide)).trans ((s206.2.1 77 (by decide)).trans ((s204.2.1 77 (by decide)).trans ((s200.2.1 77 (by decide)).trans ((s198.2.1 77 (by decide)).trans ((s193.2.1 77 (by decide)).trans ((s188.2.1 77 (by decide)).trans ((s187.2.1 77 (by decide)).trans ((s185.2.1 77 (by decide)).trans ((s182.2.1 77 (by decide)).trans e171)))))))))))) ((s223.2.1 75 (by decide)).trans ((s214.2.1 75 (by decide)).trans ((s208.2.1 75 (by decide)).trans ((s206.2.1 75 (by decide)).trans ((s204.2.1 75 (by decide)).trans ((s200.2.1 75 (by decide)).trans ((s198.2.1 75 (by decide)).trans ((s193.2.1 75 (by decide)).trans ((s188.2.1 75 (by decide)).trans ((s187.2.1 75 (by decide)).trans ((s185.2.1 75 (by decide)).trans ((s182.2.1 75 (by decide)).trans e172)))))))))))) e225 ((s223.2.1 33 (by decide)).trans ((s214.2.1 33 (by decide)).trans ((s208.2.1 33 (by decide)).trans ((s206.2.1 33 (by decide)).trans ((s204.2.1 33 (by decide)).trans ((s200.2.1 33 (by decide)).trans ((s198.2.1 33 (by decide)).trans ((s193.2.1 33 (by decide)).trans ((s188.2.1 33 (by decide)).trans ((s187.2.1 33 (by decide)).trans ((s185.2.1 33 (by decide)).trans ((s182.2.1 33 (by decide)).trans e174)))))))))))) Y S (lv_sub hl [3, 4, 2, 1, 0] rfl)
        refine z_if_eq (tgt := 212) X.1 X.2.1 d_M_reply_204 (by decide) ⟨by omega, by omega⟩ (fun h509 => ?_) (fun h509 => ?_)
        · refine lv_bipush (v := iI 122) X.1 X.2.1 d_M_reply_212 (by decide) ?_
          exact J219 122 _ _ _ (by omega) (by omega) (by omega) (by omega) Y S (lv_sub hl [1, 2] rfl)
        · refine lv_bipush (v := iI 121) X.1 X.2.1 d_M_reply_207 (by decide) ?_
          refine lv_goto (tgt := 214) X.1 X.2.1 d_M_reply_209 (by decide) ?_
          exact J219 121 _ _ _ (by omega) (by omega) (by omega) (by omega) Y S (lv_sub hl [1, 2] rfl)
      refine z_if_eq (tgt := 107) X.1 X.2.1 d_M_reply_96 (by decide) ⟨by omega, by omega⟩ (fun h510 => ?_) (fun h510 => ?_)
      · refine lv_aload_n X.1 X.2.1 d_M_reply_107 rfl (lv_at hl 0 rfl) ?_
        refine lv_iconst (v := iI 4) X.1 X.2.1 d_M_reply_108 (by decide) ?_
        refine lv_iconst (v := iI 5) X.1 X.2.1 d_M_reply_109 (by decide) ?_
        refine r_nl (m_run (As := [.int (iI 4), .int (iI 5)]) (rest := [.int (iI 5), .ref h]) (n := 2) X Y hZ hA hml hl.1 (r_M_timeOf l D E h q H.size I157 J157 B157 G157 4 (by omega) (by omega) 5 (by omega) (by omega) S.1 (pG1_cg (s157.2.1 39 (by decide)) (s157.2.1 40 (by decide)) (pG1_cg (s153.2.1 39 (by decide)) (s153.2.1 40 (by decide)) f133)) (pG2_cg (s157.2.2 37 (by decide)) (s157.2.2 38 (by decide)) (pG2_cg (s153.2.2 37 (by decide)) (s153.2.2 38 (by decide)) f134))) kl_M_timeOf ks_M_timeOf kx_M_timeOf ki_M_timeOf ini_M hd_M_timeOf ⟨Nat.le_of_ble_eq_true rfl, Nat.le_of_ble_eq_true rfl⟩ rfl (Nat.le_of_ble_eq_true rfl) d_M_reply_110 ⟨Nat.le_refl _, Nat.le_refl _⟩) X Y hA S (by decide) (by decide) (fun v511 u H locs Y S s511 p511 => ?_)
        obtain ⟨I511, J511, B511, G511⟩ := u
        dsimp only at Y S s511 p511
        have b511 : B157 = B511 := (funext (fun j => s511.2.2 j (by simp))).symm
        subst b511
        have g511_P1 := p511
        exact J178 v511 z158 I511 J511 B157 G511 _ _ _ g511_P1 (pG2_cg rfl rfl (pG2_cg (s157.2.2 37 (by decide)) (s157.2.2 38 (by decide)) (pG2_cg (s153.2.2 37 (by decide)) (s153.2.2 38 (by decide)) f134))) (rrP_cg (s511.2.1 69 (by decide)) rfl rfl (rrP_cg (s157.2.1 69 (by decide)) (s157.2.2 37 (by decide)) (s157.2.2 38 (by decide)) (rrP_cg (s153.2.1 69 (by decide)) (s153.2.2 37 (by decide)) (s153.2.2 38 (by decide)) f135))) (ssP_cg rfl rfl (ssP_cg (s157.2.2 37 (by decide)) (s157.2.2 38 (by decide)) (ssP_cg (s153.2.2 37 (by decide)) (s153.2.2 38 (by decide)) f136))) (thF_cg rfl rfl (thF_cg (s157.2.2 37 (by decide)) (s157.2.2 38 (by decide)) (thF_cg (s153.2.2 37 (by decide)) (s153.2.2 38 (by decide)) f137))) ((s511.2.1 69 (by decide)).trans ((s157.2.1 69 (by decide)).trans ((s153.2.1 69 (by decide)).trans e138))) ((s511.2.1 86 (by decide)).trans ((s157.2.1 86 (by decide)).trans ((s153.2.1 86 (by decide)).trans e139))) ((s511.2.1 87 (by decide)).trans ((s157.2.1 87 (by decide)).trans ((s153.2.1 87 (by decide)).trans e140))) ((s511.2.1 88 (by decide)).trans ((s157.2.1 88 (by decide)).trans ((s153.2.1 88 (by decide)).trans e141))) ((s511.2.1 89 (by decide)).trans ((s157.2.1 89 (by decide)).trans ((s153.2.1 89 (by decide)).trans e142))) ((s511.2.1 77 (by decide)).trans ((s157.2.1 77 (by decide)).trans ((s153.2.1 77 (by decide)).trans e143))) ((s511.2.1 75 (by decide)).trans ((s157.2.1 75 (by decide)).trans ((s153.2.1 75 (by decide)).trans e144))) ((s511.2.1 42 (by decide)).trans e158) ((s511.2.1 33 (by decide)).trans ((s157.2.1 33 (by decide)).trans ((s153.2.1 33 (by decide)).trans e145))) ((s511.2.1 42 (by decide)).trans e158) (by omega) (by omega) (by omega) (by omega) Y S (lv_sub hl [0, 1] rfl)
      · refine lv_aload_n X.1 X.2.1 d_M_reply_99 rfl (lv_at hl 0 rfl) ?_
        refine r_get0 X Y (by decide) lk_now (gf_now _ _ _) rfl ((s157.2.1 4 (by decide)).trans e155) d_M_reply_100 ?_
        refine lv_i2l X.1 X.2.1 d_M_reply_103 rfl ?_
        refine t_anyl (fun v512 => ?_)
        refine lv_goto (tgt := 113) X.1 X.2.1 d_M_reply_104 (by decide) ?_
        exact J178 v512 z158 I157 J157 B157 G157 _ _ _ (pG1_cg (s157.2.1 39 (by decide)) (s157.2.1 40 (by decide)) (pG1_cg (s153.2.1 39 (by decide)) (s153.2.1 40 (by decide)) f133)) (pG2_cg (s157.2.2 37 (by decide)) (s157.2.2 38 (by decide)) (pG2_cg (s153.2.2 37 (by decide)) (s153.2.2 38 (by decide)) f134)) (rrP_cg (s157.2.1 69 (by decide)) (s157.2.2 37 (by decide)) (s157.2.2 38 (by decide)) (rrP_cg (s153.2.1 69 (by decide)) (s153.2.2 37 (by decide)) (s153.2.2 38 (by decide)) f135)) (ssP_cg (s157.2.2 37 (by decide)) (s157.2.2 38 (by decide)) (ssP_cg (s153.2.2 37 (by decide)) (s153.2.2 38 (by decide)) f136)) (thF_cg (s157.2.2 37 (by decide)) (s157.2.2 38 (by decide)) (thF_cg (s153.2.2 37 (by decide)) (s153.2.2 38 (by decide)) f137)) ((s157.2.1 69 (by decide)).trans ((s153.2.1 69 (by decide)).trans e138)) ((s157.2.1 86 (by decide)).trans ((s153.2.1 86 (by decide)).trans e139)) ((s157.2.1 87 (by decide)).trans ((s153.2.1 87 (by decide)).trans e140)) ((s157.2.1 88 (by decide)).trans ((s153.2.1 88 (by decide)).trans e141)) ((s157.2.1 89 (by decide)).trans ((s153.2.1 89 (by decide)).trans e142)) ((s157.2.1 77 (by decide)).trans ((s153.2.1 77 (by decide)).trans e143)) ((s157.2.1 75 (by decide)).trans ((s153.2.1 75 (by decide)).trans e144)) e158 ((s157.2.1 33 (by decide)).trans ((s153.2.1 33 (by decide)).trans e145)) e158 (by omega) (by omega) (by omega) (by omega) Y S (lv_sub hl [0, 1] rfl)
    refine z_if_eq (tgt := 69) X.1 X.2.1 d_M_reply_56 (by decide) ⟨by omega, by omega⟩ (fun h513 => ?_) (fun h513 => ?_)
    · exact J149 z130 I129 J129 B129 G129 _ _ _ (pG1_cg (s129.2.1 39 (by decide)) (s129.2.1 40 (by decide)) (pG1_cg (s127.2.1 39 (by decide)) (s127.2.1 40 (by decide)) (pG1_cg rfl rfl (pG1_cg rfl rfl f104)))) (pG2_cg (s129.2.2 37 (by decide)) (s129.2.2 38 (by decide)) (pG2_cg (s127.2.2 37 (by decide)) (s127.2.2 38 (by decide)) (pG2_cg rfl rfl (pG2_cg rfl rfl f105)))) (rrP_cg (s129.2.1 69 (by decide)) (s129.2.2 37 (by decide)) (s129.2.2 38 (by decide)) (rrP_cg (s127.2.1 69 (by decide)) (s127.2.2 37 (by decide)) (s127.2.2 38 (by decide)) (rrP_cg rfl rfl rfl (rrP_cg rfl rfl rfl f106)))) (ssP_cg (s129.2.2 37 (by decide)) (s129.2.2 38 (by decide)) (ssP_cg (s127.2.2 37 (by decide)) (s127.2.2 38 (by decide)) (ssP_cg rfl rfl (ssP_cg rfl rfl f107)))) (thF_cg (s129.2.2 37 (by decide)) (s129.2.2 38 (by decide)) (thF_cg (s127.2.2 37 (by decide)) (s127.2.2 38 (by decide)) (thF_cg rfl rfl (thF_cg rfl rfl f108)))) ((s129.2.1 69 (by decide)).trans ((s127.2.1 69 (by decide)).trans e109)) ((s129.2.1 86 (by decide)).trans ((s127.2.1 86 (by decide)).trans e110)) ((s129.2.1 87 (by decide)).trans ((s127.2.1 87 (by decide)).trans e111)) ((s129.2.1 88 (by decide)).trans ((s127.2.1 88 (by decide)).trans e112)) ((s129.2.1 89 (by decide)).trans ((s127.2.1 89 (by decide)).trans e113)) ((s129.2.1 77 (by decide)).trans ((s127.2.1 77 (by decide)).trans e114)) ((s129.2.1 75 (by decide)).trans ((s127.2.1 75 (by decide)).trans e115)) ((s129.2.1 33 (by decide)).trans ((s127.2.1 33 (by decide)).trans e116)) e130 (by omega) (by omega) (by omega) (by omega) Y S (lv_sub hl [0, 1] rfl)
    · refine lv_aload_n X.1 X.2.1 d_M_reply_59 rfl (lv_at hl 0 rfl) ?_
      refine lv_bipush (v := iI 8) X.1 X.2.1 d_M_reply_60 (by decide) ?_
      refine lv_aload_n X.1 X.2.1 d_M_reply_62 rfl (lv_at hl 0 rfl) ?_
      refine m_get X Y 83 (by decide) lk_newRenew (gf_newRenew _ _ _) rfl d_M_reply_63 ?_
      refine r_nv (m_run (As := [.int (iI 8), .long ((J129 83))]) (rest := []) (n := 2) X Y hZ hA hml hl.1 (r_M_timeField l D E h q H.size I129 J129 B129 G129 8 (by omega) (by omega) ((J129 83)) S.1 z130 e130 (by omega) (by omega)) kl_M_timeField ks_M_timeField kx_M_timeField ki_M_timeField ini_M hd_M_timeField ⟨Nat.le_of_ble_eq_true rfl, Nat.le_of_ble_eq_true rfl⟩ rfl (Nat.le_of_ble_eq_true rfl) d_M_reply_66 ⟨Nat.le_refl _, Nat.le_refl _⟩) X Y hA S (by decide) (by decide) (fun u H locs Y S s514 p514 => ?_)
      obtain ⟨I514, J514, B514, G514⟩ := u
      dsimp only at Y S s514 p514
      have f515 : rrP rr (I514 69) (B514 37) (B514 38) := (rrP_cg (s514.2.1 69 (by decide)) (s514.2.2 37 (by decide)) (s514.2.2 38 (by decide)) (rrP_cg (s129.2.1 69 (by decide)) (s129.2.2 37 (by decide)) (s129.2.2 38 (by decide)) (rrP_cg (s127.2.1 69 (by decide)) (s127.2.2 37 (by decide)) (s127.2.2 38 (by decide)) (rrP_cg rfl rfl rfl (rrP_cg rfl rfl rfl f106)))))
      obtain ⟨x514, g514_MF⟩ := p514
      obtain ⟨z516, e516, l516, u516⟩ := x514
      exact J149 z516 I514 J514 B514 G514 _ _ _ (pG1_cg (s514.2.1 39 (by decide)) (s514.2.1 40 (by decide)) (pG1_cg (s129.2.1 39 (by decide)) (s129.2.1 40 (by decide)) (pG1_cg (s127.2.1 39 (by decide)) (s127.2.1 40 (by decide)) (pG1_cg rfl rfl (pG1_cg rfl rfl f104))))) (pG2_cg (s514.2.2 37 (by decide)) (s514.2.2 38 (by decide)) (pG2_cg (s129.2.2 37 (by decide)) (s129.2.2 38 (by decide)) (pG2_cg (s127.2.2 37 (by decide)) (s127.2.2 38 (by decide)) (pG2_cg rfl rfl (pG2_cg rfl rfl f105))))) f515 (ssP_cg (s514.2.2 37 (by decide)) (s514.2.2 38 (by decide)) (ssP_cg (s129.2.2 37 (by decide)) (s129.2.2 38 (by decide)) (ssP_cg (s127.2.2 37 (by decide)) (s127.2.2 38 (by decide)) (ssP_cg rfl rfl (ssP_cg rfl rfl f107))))) (thF_cg (s514.2.2 37 (by decide)) (s514.2.2 38 (by decide)) (thF_cg (s129.2.2 37 (by decide)) (s129.2.2 38 (by decide)) (thF_cg (s127.2.2 37 (by decide)) (s127.2.2 38 (by decide)) (thF_cg rfl rfl (thF_cg rfl rfl f108))))) ((s514.2.1 69 (by decide)).trans ((s129.2.1 69 (by decide)).trans ((s127.2.1 69 (by decide)).trans e109))) ((s514.2.1 86 (by decide)).trans ((s129.2.1 86 (by decide)).trans ((s127.2.1 86 (by decide)).trans e110))) ((s514.2.1 87 (by decide)).trans ((s129.2.1 87 (by decide)).trans ((s127.2.1 87 (by decide)).trans e111))) ((s514.2.1 88 (by decide)).trans ((s129.2.1 88 (by decide)).trans ((s127.2.1 88 (by decide)).trans e112))) ((s514.2.1 89 (by decide)).trans ((s129.2.1 89 (by decide)).trans ((s127.2.1 89 (by decide)).trans e113))) ((s514.2.1 77 (by decide)).trans ((s129.2.1 77 (by decide)).trans ((s127.2.1 77 (by decide)).trans e114))) ((s514.2.1 75 (by decide)).trans ((s129.2.1 75 (by decide)).trans ((s127.2.1 75 (by decide)).trans e115))) ((s514.2.1 33 (by decide)).trans ((s129.2.1 33 (by decide)).trans ((s127.2.1 33 (by decide)).trans e116))) e516 (by omega) (by omega) (by omega) (by omega) Y S (lv_sub hl [0, 1] rfl)
  refine z_if_eq (tgt := 25) X.1 X.2.1 d_M_reply_8 (by decide) ⟨by omega, by omega⟩ (fun h517 => ?_) (fun h517 => ?_)
  · exact J120 60000 I101 J101 B G101 _ _ _ (pG1_cg (s101.2.1 39 (by decide)) (s101.2.1 40 (by decide)) f_P1) (pG2_cg rfl rfl f_P2) (rrP_cg (s101.2.1 69 (by decide)) rfl rfl f_RR) (ssP_cg rfl rfl f_SS) (thF_cg rfl rfl thF_rf) ((s101.2.1 69 (by decide)).trans gia) ((s101.2.1 86 (by decide)).trans gaa) ((s101.2.1 87 (by decide)).trans gae) ((s101.2.1 88 (by decide)).trans gca) ((s101.2.1 89 (by decide)).trans gce) ((s101.2.1 77 (by decide)).trans gty) ((s101.2.1 75 (by decide)).trans gcl) ((s101.2.1 33 (by decide)).trans gcn) (x101.trans (congrArg iI (show (60000 : Int) = 60000 by omega))) (by omega) (by omega) (by omega) (by omega) Y S (lv_sub hl [0, 1] rfl)
  · refine lv_aload_n X.1 X.2.1 d_M_reply_11 rfl (lv_at hl 0 rfl) ?_
    refine lv_bipush (v := iI 11) X.1 X.2.1 d_M_reply_12 (by decide) ?_
    refine lv_aload_n X.1 X.2.1 d_M_reply_14 rfl (lv_at hl 0 rfl) ?_
    refine r_get0 X Y (by decide) lk_addressAt (gf_addressAt _ _ _) rfl ((s101.2.1 86 (by decide)).trans gaa) d_M_reply_15 ?_
    refine lv_aload_n X.1 X.2.1 d_M_reply_18 rfl (lv_at hl 0 rfl) ?_
    refine r_get0 X Y (by decide) lk_addressEnd (gf_addressEnd _ _ _) rfl ((s101.2.1 87 (by decide)).trans gae) d_M_reply_19 ?_
    refine r_nv (m_run (As := [.int (iI 11), .int (iI aa), .int (iI ae)]) (rest := []) (n := 3) X Y hZ hA hml hl.1 (r_M_copyField l D E h q H.size I101 J101 B G101 11 (by omega) (by omega) aa (by omega) (by omega) ae (by omega) (by omega) S.1 60000 (x101.trans (congrArg iI (show (60000 : Int) = 60000 by omega))) (by omega) (by omega) (by omega) (by omega) (by omega) (by omega)) kl_M_copyField ks_M_copyField kx_M_copyField ki_M_copyField ini_M hd_M_copyField ⟨Nat.le_of_ble_eq_true rfl, Nat.le_of_ble_eq_true rfl⟩ rfl (Nat.le_of_ble_eq_true rfl) d_M_reply_22 ⟨Nat.le_refl _, Nat.le_refl _⟩) X Y hA S (by decide) (by decide) (fun u H locs Y S s518 p518 => ?_)
    obtain ⟨I518, J518, B518, G518⟩ := u
    dsimp only at Y S s518 p518
    obtain ⟨x518, g518_MF⟩ := p518
    obtain ⟨z519, e519, l519, u519⟩ := x518
    exact J120 z519 I518 J518 B518 G518 _ _ _ (pG1_cg (s518.2.1 39 (by decide)) (s518.2.1 40 (by decide)) (pG1_cg (s101.2.1 39 (by decide)) (s101.2.1 40 (by decide)) f_P1)) (pG2_cg (s518.2.2 37 (by decide)) (s518.2.2 38 (by decide)) (pG2_cg rfl rfl f_P2)) (rrP_cg (s518.2.1 69 (by decide)) (s518.2.2 37 (by decide)) (s518.2.2 38 (by decide)) (rrP_cg (s101.2.1 69 (by decide)) rfl rfl f_RR)) (ssP_cg (s518.2.2 37 (by decide)) (s518.2.2 38 (by decide)) (ssP_cg rfl rfl f_SS)) (thF_cg (s518.2.2 37 (by decide)) (s518.2.2 38 (by decide)) (thF_cg rfl rfl thF_rf)) ((s518.2.1 69 (by decide)).trans ((s101.2.1 69 (by decide)).trans gia)) ((s518.2.1 86 (by decide)).trans ((s101.2.1 86 (by decide)).trans gaa)) ((s518.2.1 87 (by decide)).trans ((s101.2.1 87 (by decide)).trans gae)) ((s518.2.1 88 (by decide)).trans ((s101.2.1 88 (by decide)).trans gca)) ((s518.2.1 89 (by decide)).trans ((s101.2.1 89 (by decide)).trans gce)) ((s518.2.1 77 (by decide)).trans ((s101.2.1 77 (by decide)).trans gty)) ((s518.2.1 75 (by decide)).trans ((s101.2.1 75 (by decide)).trans gcl)) ((s518.2.1 33 (by decide)).trans ((s101.2.1 33 (by decide)).trans gcn)) e519 (by omega) (by omega) (by omega) (by omega) Y S (lv_sub hl [0, 1] rfl)
