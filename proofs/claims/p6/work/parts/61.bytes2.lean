set_option maxHeartbeats 4000000 in
set_option maxRecDepth 100000 in
theorem c_By_stop (l : Launch) (D : va_G) (E : cE) (T : cT) (κ : tK) (L : List Nat) (f : pF) (sz : Nat) (h n0 : Nat) (k0 : κ h = (13, n0)) (x0 : n0 ≤ 12288) (a1 : Int) (l_a1 : (-1) ≤ a1) (u_a1 : a1 ≤ 20200) (a2 : Int) (l_a2 : (-1) ≤ a2) (u_a2 : a2 ≤ 20200) (hw : tW E T κ L f) (sz0 : Int) (g0 : gF f h 1 = .int (iI sz0)) (g1 : 0 ≤ sz0) (g2 : sz0 ≤ (n0 : Int)) : Met l y_By_stop (k_By_stop :: lw_tg) (kRm 1 60 0 0) (va_Pc [.ref h, .int (iI a1), .int (iI a2)] (kPre D E T L f sz)) (va_Qi (uPi L f (fun (z : Int) => (-1) ≤ z ∧ z ≤ 12288 ∧ (z = -1 ∨ 0 ≤ a1 ∧ a1 + 2 ≤ z ∧ z ≤ a2 ∧ a2 ≤ sz0))) (cPost D E (pA L sz)) (pA L sz)) 0 0 (pA L sz) := by
  refine k_enter (own := R_By) (by decide) rfl (Nat.le_of_ble_eq_true rfl) (fun p e s m below meth c ls AV QQ H locs hQQ X Y hA hin hr hlk hml hl KS KR => ?_)
  have hl : lv_has ls 6 [(0, .ref h), (1, .int (iI a1)), (2, .int (iI a2))] := hl
  have S : tS E T (tFr κ L [] []) κ L f κ L f := tS_rf hw
  refine lv_iload_n X.1 X.2.1 d_By_stop_0 rfl (lv_at hl 1 rfl) ?_
  refine z_if_lt (tgt := 19) X.1 X.2.1 d_By_stop_1 (by decide) ⟨by omega, by omega⟩ (fun h1 => ?_) (fun h1 => ?_)
  · refine lv_iconst (v := iI (-1)) X.1 X.2.1 d_By_stop_19 (by decide) ?_
    exact c_reti hQQ X Y hr hlk ⟨rfl, rfl, (-1), rfl, ⟨by omega, by omega, by omega⟩⟩ d_By_stop_20
  · refine lv_iload_n X.1 X.2.1 d_By_stop_4 rfl (lv_at hl 2 rfl) ?_
    refine lv_aload_n X.1 X.2.1 d_By_stop_5 rfl (lv_at hl 0 rfl) ?_
    refine t_get0 (ci := 3) X Y S k0 rfl i_By 1 (by decide) rfl lk_By_21 (fun _ h9 => h9) d_By_stop_6 g0 ?_
    refine z_icmp_gt (tgt := 19) X.1 X.2.1 d_By_stop_9 (by decide) ⟨by omega, by omega⟩ ⟨by omega, by omega⟩ (fun h2 => ?_) (fun h2 => ?_)
    · refine lv_iconst (v := iI (-1)) X.1 X.2.1 d_By_stop_19 (by decide) ?_
      exact c_reti hQQ X Y hr hlk ⟨rfl, rfl, (-1), rfl, ⟨by omega, by omega, by omega⟩⟩ d_By_stop_20
    · refine lv_iload_n X.1 X.2.1 d_By_stop_12 rfl (lv_at hl 2 rfl) ?_
      refine lv_iload_n X.1 X.2.1 d_By_stop_13 rfl (lv_at hl 1 rfl) ?_
      refine z_isub X.1 X.2.1 d_By_stop_14 ?_
      refine lv_iconst (v := iI 2) X.1 X.2.1 d_By_stop_15 (by decide) ?_
      refine z_icmp_ge (tgt := 21) X.1 X.2.1 d_By_stop_16 (by decide) ⟨by omega, by omega⟩ ⟨by omega, by omega⟩ (fun h3 => ?_) (fun h3 => ?_)
      · refine lv_aload_n X.1 X.2.1 d_By_stop_21 rfl (lv_at hl 0 rfl) ?_
        refine t_getrow (ci := 3) X Y S k0 rfl i_By 0 (by decide) rfl lk_By_15 (fun _ h9 => h9) d_By_stop_22 (fun b4 e4 k4 => ?_)
        refine lv_iload_n X.1 X.2.1 d_By_stop_25 rfl (lv_at hl 1 rfl) ?_
        refine lv_iconst (v := iI 1) X.1 X.2.1 d_By_stop_26 (by decide) ?_
        refine z_iadd X.1 X.2.1 d_By_stop_27 ?_
        refine t_bald X Y S (Or.inl k4) (by omega) (by omega) (by omega) d_By_stop_28 (fun z5 l5 u5 => ?_)
        refine lv_sipush (v := iI 255) X.1 X.2.1 d_By_stop_29 (by decide) ?_
        refine z_iand X.1 X.2.1 (by omega) (by omega) d_By_stop_32 (fun z6 l6 u6 => ?_)
        refine lv_istore_n (lv' := [(3, .int (iI z6)), (0, .ref h), (1, .int (iI a1)), (2, .int (iI a2))]) X.1 X.2.1 d_By_stop_33 rfl hl (by decide) rfl (fun ls hl => ?_)
        refine lv_iload_n X.1 X.2.1 d_By_stop_34 rfl (lv_at hl 2 rfl) ?_
        refine lv_iconst (v := iI 2) X.1 X.2.1 d_By_stop_35 (by decide) ?_
        refine z_iadd X.1 X.2.1 d_By_stop_36 ?_
        refine lv_istore (lv' := [(4, .int (iI (a1 + 2))), (3, .int (iI z6)), (0, .ref h), (1, .int (iI a1)), (2, .int (iI a2))]) X.1 X.2.1 d_By_stop_37 hl (by decide) rfl (fun ls hl => ?_)
        refine lv_iload_n X.1 X.2.1 d_By_stop_39 rfl (lv_at hl 1 rfl) ?_
        refine lv_sipush (v := iI 128) X.1 X.2.1 d_By_stop_40 (by decide) ?_
        refine z_icmp_lt (tgt := 154) X.1 X.2.1 d_By_stop_43 (by decide) ⟨by omega, by omega⟩ ⟨by omega, by omega⟩ (fun h7 => ?_) (fun h7 => ?_)
        · refine lv_iload_n X.1 X.2.1 d_By_stop_154 rfl (lv_at hl 1 rfl) ?_
          refine lv_iload_n X.1 X.2.1 d_By_stop_155 rfl (lv_at hl 4 rfl) ?_
          refine lv_iload X.1 X.2.1 d_By_stop_156 (lv_at hl 0 rfl) ?_
          refine z_isub X.1 X.2.1 d_By_stop_158 ?_
          refine z_icmp_gt (tgt := 169) X.1 X.2.1 d_By_stop_159 (by decide) ⟨by omega, by omega⟩ ⟨by omega, by omega⟩ (fun h8 => ?_) (fun h8 => ?_)
          · refine lv_iconst (v := iI (-1)) X.1 X.2.1 d_By_stop_169 (by decide) ?_
            exact c_reti hQQ X Y hr hlk ⟨rfl, rfl, (-1), rfl, ⟨by omega, by omega, by omega⟩⟩ d_By_stop_170
          · refine lv_iload X.1 X.2.1 d_By_stop_162 (lv_at hl 0 rfl) ?_
            refine lv_iload_n X.1 X.2.1 d_By_stop_164 rfl (lv_at hl 1 rfl) ?_
            refine z_iadd X.1 X.2.1 d_By_stop_165 ?_
            refine lv_goto (tgt := 170) X.1 X.2.1 d_By_stop_166 (by decide) ?_
            exact c_reti hQQ X Y hr hlk ⟨rfl, rfl, (a1 + 2) + z6, rfl, ⟨by omega, by omega, by omega⟩⟩ d_By_stop_170
        · refine lv_iload_n X.1 X.2.1 d_By_stop_46 rfl (lv_at hl 1 rfl) ?_
          refine lv_sipush (v := iI 128) X.1 X.2.1 d_By_stop_47 (by decide) ?_
          refine z_isub X.1 X.2.1 d_By_stop_50 ?_
          refine lv_istore (lv' := [(5, .int (iI (z6 - 128))), (4, .int (iI (a1 + 2))), (3, .int (iI z6)), (0, .ref h), (1, .int (iI a1)), (2, .int (iI a2))]) X.1 X.2.1 d_By_stop_51 hl (by decide) rfl (fun ls hl => ?_)
          refine lv_iload X.1 X.2.1 d_By_stop_53 (lv_at hl 0 rfl) ?_
          refine lv_iconst (v := iI 1) X.1 X.2.1 d_By_stop_55 (by decide) ?_
          refine z_icmp_lt (tgt := 74) X.1 X.2.1 d_By_stop_56 (by decide) ⟨by omega, by omega⟩ ⟨by omega, by omega⟩ (fun h9 => ?_) (fun h9 => ?_)
          · refine lv_iconst (v := iI (-1)) X.1 X.2.1 d_By_stop_74 (by decide) ?_
            exact c_reti hQQ X Y hr hlk ⟨rfl, rfl, (-1), rfl, ⟨by omega, by omega, by omega⟩⟩ d_By_stop_75
          · refine lv_iload X.1 X.2.1 d_By_stop_59 (lv_at hl 0 rfl) ?_
            refine lv_iconst (v := iI 2) X.1 X.2.1 d_By_stop_61 (by decide) ?_
            refine z_icmp_gt (tgt := 74) X.1 X.2.1 d_By_stop_62 (by decide) ⟨by omega, by omega⟩ ⟨by omega, by omega⟩ (fun h10 => ?_) (fun h10 => ?_)
            · refine lv_iconst (v := iI (-1)) X.1 X.2.1 d_By_stop_74 (by decide) ?_
              exact c_reti hQQ X Y hr hlk ⟨rfl, rfl, (-1), rfl, ⟨by omega, by omega, by omega⟩⟩ d_By_stop_75
            · refine lv_iload X.1 X.2.1 d_By_stop_65 (lv_at hl 0 rfl) ?_
              refine lv_iload_n X.1 X.2.1 d_By_stop_67 rfl (lv_at hl 5 rfl) ?_
              refine lv_iload X.1 X.2.1 d_By_stop_68 (lv_at hl 1 rfl) ?_
              refine z_isub X.1 X.2.1 d_By_stop_70 ?_
              refine z_icmp_le (tgt := 76) X.1 X.2.1 d_By_stop_71 (by decide) ⟨by omega, by omega⟩ ⟨by omega, by omega⟩ (fun h11 => ?_) (fun h11 => ?_)
              · refine lv_iload X.1 X.2.1 d_By_stop_76 (lv_at hl 0 rfl) ?_
                refine lv_iconst (v := iI 1) X.1 X.2.1 d_By_stop_78 (by decide) ?_
                refine z_icmp_ne (tgt := 96) X.1 X.2.1 d_By_stop_79 (by decide) ⟨by omega, by omega⟩ ⟨by omega, by omega⟩ (fun h12 => ?_) (fun h12 => ?_)
                · refine lv_aload_n X.1 X.2.1 d_By_stop_96 rfl (lv_at hl 3 rfl) ?_
                  refine t_get0 (ci := 3) X Y S k0 rfl i_By 0 (by decide) rfl lk_By_15 (fun _ h9 => h9) d_By_stop_97 e4 ?_
                  refine lv_iload X.1 X.2.1 d_By_stop_100 (lv_at hl 1 rfl) ?_
                  refine t_bald X Y S (Or.inl k4) (by omega) (by omega) (by omega) d_By_stop_102 (fun z13 l13 u13 => ?_)
                  refine lv_sipush (v := iI 255) X.1 X.2.1 d_By_stop_103 (by decide) ?_
                  refine z_iand X.1 X.2.1 (by omega) (by omega) d_By_stop_106 (fun z14 l14 u14 => ?_)
                  refine lv_sipush (v := iI 256) X.1 X.2.1 d_By_stop_107 (by decide) ?_
                  refine z_imul X.1 X.2.1 d_By_stop_110 ?_
                  refine lv_aload_n X.1 X.2.1 d_By_stop_111 rfl (lv_at hl 3 rfl) ?_
                  refine t_get0 (ci := 3) X Y S k0 rfl i_By 0 (by decide) rfl lk_By_15 (fun _ h9 => h9) d_By_stop_112 e4 ?_
                  refine lv_iload X.1 X.2.1 d_By_stop_115 (lv_at hl 1 rfl) ?_
                  refine lv_iconst (v := iI 1) X.1 X.2.1 d_By_stop_117 (by decide) ?_
                  refine z_iadd X.1 X.2.1 d_By_stop_118 ?_
                  refine t_bald X Y S (Or.inl k4) (by omega) (by omega) (by omega) d_By_stop_119 (fun z15 l15 u15 => ?_)
                  refine lv_sipush (v := iI 255) X.1 X.2.1 d_By_stop_120 (by decide) ?_
                  refine z_iand X.1 X.2.1 (by omega) (by omega) d_By_stop_123 (fun z16 l16 u16 => ?_)
                  refine z_iadd X.1 X.2.1 d_By_stop_124 ?_
                  refine lv_istore_n (lv' := [(3, .int (iI ((z14 * 256) + z16))), (5, .int (iI (z6 - 128))), (4, .int (iI (a1 + 2))), (0, .ref h), (1, .int (iI a1)), (2, .int (iI a2))]) X.1 X.2.1 d_By_stop_125 rfl hl (by decide) rfl (fun ls hl => ?_)
                  refine lv_iload X.1 X.2.1 d_By_stop_126 (lv_at hl 2 rfl) ?_
                  refine lv_iload X.1 X.2.1 d_By_stop_128 (lv_at hl 1 rfl) ?_
                  refine z_iadd X.1 X.2.1 d_By_stop_130 ?_
                  refine lv_istore (lv' := [(4, .int (iI ((a1 + 2) + (z6 - 128)))), (3, .int (iI ((z14 * 256) + z16))), (5, .int (iI (z6 - 128))), (0, .ref h), (1, .int (iI a1)), (2, .int (iI a2))]) X.1 X.2.1 d_By_stop_131 hl (by decide) rfl (fun ls hl => ?_)
                  refine lv_iload_n X.1 X.2.1 d_By_stop_133 rfl (lv_at hl 1 rfl) ?_
                  refine lv_iload X.1 X.2.1 d_By_stop_134 (lv_at hl 2 rfl) ?_
                  refine lv_iconst (v := iI 1) X.1 X.2.1 d_By_stop_136 (by decide) ?_
                  refine z_icmp_ne (tgt := 146) X.1 X.2.1 d_By_stop_137 (by decide) ⟨by omega, by omega⟩ ⟨by omega, by omega⟩ (fun h17 => ?_) (fun h17 => False.elim (by omega))
                  · refine lv_sipush (v := iI 256) X.1 X.2.1 d_By_stop_146 (by decide) ?_
                    refine z_icmp_ge (tgt := 154) X.1 X.2.1 d_By_stop_149 (by decide) ⟨by omega, by omega⟩ ⟨by omega, by omega⟩ (fun h18 => ?_) (fun h18 => ?_)
                    · refine lv_iload_n X.1 X.2.1 d_By_stop_154 rfl (lv_at hl 1 rfl) ?_
                      refine lv_iload_n X.1 X.2.1 d_By_stop_155 rfl (lv_at hl 5 rfl) ?_
                      refine lv_iload X.1 X.2.1 d_By_stop_156 (lv_at hl 0 rfl) ?_
                      refine z_isub X.1 X.2.1 d_By_stop_158 ?_
                      refine z_icmp_gt (tgt := 169) X.1 X.2.1 d_By_stop_159 (by decide) ⟨by omega, by omega⟩ ⟨by omega, by omega⟩ (fun h19 => ?_) (fun h19 => ?_)
                      · refine lv_iconst (v := iI (-1)) X.1 X.2.1 d_By_stop_169 (by decide) ?_
                        exact c_reti hQQ X Y hr hlk ⟨rfl, rfl, (-1), rfl, ⟨by omega, by omega, by omega⟩⟩ d_By_stop_170
                      · refine lv_iload X.1 X.2.1 d_By_stop_162 (lv_at hl 0 rfl) ?_
                        refine lv_iload_n X.1 X.2.1 d_By_stop_164 rfl (lv_at hl 1 rfl) ?_
                        refine z_iadd X.1 X.2.1 d_By_stop_165 ?_
                        refine lv_goto (tgt := 170) X.1 X.2.1 d_By_stop_166 (by decide) ?_
                        exact c_reti hQQ X Y hr hlk ⟨rfl, rfl, ((a1 + 2) + (z6 - 128)) + ((z14 * 256) + z16), rfl, ⟨by omega, by omega, by omega⟩⟩ d_By_stop_170
                    · refine lv_iconst (v := iI (-1)) X.1 X.2.1 d_By_stop_152 (by decide) ?_
                      exact c_reti hQQ X Y hr hlk ⟨rfl, rfl, (-1), rfl, ⟨by omega, by omega, by omega⟩⟩ d_By_stop_153
                · refine lv_aload_n X.1 X.2.1 d_By_stop_82 rfl (lv_at hl 3 rfl) ?_
                  refine t_get0 (ci := 3) X Y S k0 rfl i_By 0 (by decide) rfl lk_By_15 (fun _ h9 => h9) d_By_stop_83 e4 ?_
                  refine lv_iload X.1 X.2.1 d_By_stop_86 (lv_at hl 1 rfl) ?_
                  refine t_bald X Y S (Or.inl k4) (by omega) (by omega) (by omega) d_By_stop_88 (fun z20 l20 u20 => ?_)
                  refine lv_sipush (v := iI 255) X.1 X.2.1 d_By_stop_89 (by decide) ?_
                  refine z_iand X.1 X.2.1 (by omega) (by omega) d_By_stop_92 (fun z21 l21 u21 => ?_)
                  refine lv_goto (tgt := 125) X.1 X.2.1 d_By_stop_93 (by decide) ?_
                  refine lv_istore_n (lv' := [(3, .int (iI z21)), (5, .int (iI (z6 - 128))), (4, .int (iI (a1 + 2))), (0, .ref h), (1, .int (iI a1)), (2, .int (iI a2))]) X.1 X.2.1 d_By_stop_125 rfl hl (by decide) rfl (fun ls hl => ?_)
                  refine lv_iload X.1 X.2.1 d_By_stop_126 (lv_at hl 2 rfl) ?_
                  refine lv_iload X.1 X.2.1 d_By_stop_128 (lv_at hl 1 rfl) ?_
                  refine z_iadd X.1 X.2.1 d_By_stop_130 ?_
                  refine lv_istore (lv' := [(4, .int (iI ((a1 + 2) + (z6 - 128)))), (3, .int (iI z21)), (5, .int (iI (z6 - 128))), (0, .ref h), (1, .int (iI a1)), (2, .int (iI a2))]) X.1 X.2.1 d_By_stop_131 hl (by decide) rfl (fun ls hl => ?_)
                  refine lv_iload_n X.1 X.2.1 d_By_stop_133 rfl (lv_at hl 1 rfl) ?_
                  refine lv_iload X.1 X.2.1 d_By_stop_134 (lv_at hl 2 rfl) ?_
                  refine lv_iconst (v := iI 1) X.1 X.2.1 d_By_stop_136 (by decide) ?_
                  refine z_icmp_ne (tgt := 146) X.1 X.2.1 d_By_stop_137 (by decide) ⟨by omega, by omega⟩ ⟨by omega, by omega⟩ (fun h22 => False.elim (by omega)) (fun h22 => ?_)
                  · refine lv_sipush (v := iI 128) X.1 X.2.1 d_By_stop_140 (by decide) ?_
                    refine lv_goto (tgt := 149) X.1 X.2.1 d_By_stop_143 (by decide) ?_
                    refine z_icmp_ge (tgt := 154) X.1 X.2.1 d_By_stop_149 (by decide) ⟨by omega, by omega⟩ ⟨by omega, by omega⟩ (fun h23 => ?_) (fun h23 => ?_)
                    · refine lv_iload_n X.1 X.2.1 d_By_stop_154 rfl (lv_at hl 1 rfl) ?_
                      refine lv_iload_n X.1 X.2.1 d_By_stop_155 rfl (lv_at hl 5 rfl) ?_
                      refine lv_iload X.1 X.2.1 d_By_stop_156 (lv_at hl 0 rfl) ?_
                      refine z_isub X.1 X.2.1 d_By_stop_158 ?_
                      refine z_icmp_gt (tgt := 169) X.1 X.2.1 d_By_stop_159 (by decide) ⟨by omega, by omega⟩ ⟨by omega, by omega⟩ (fun h24 => ?_) (fun h24 => ?_)
                      · refine lv_iconst (v := iI (-1)) X.1 X.2.1 d_By_stop_169 (by decide) ?_
                        exact c_reti hQQ X Y hr hlk ⟨rfl, rfl, (-1), rfl, ⟨by omega, by omega, by omega⟩⟩ d_By_stop_170
                      · refine lv_iload X.1 X.2.1 d_By_stop_162 (lv_at hl 0 rfl) ?_
                        refine lv_iload_n X.1 X.2.1 d_By_stop_164 rfl (lv_at hl 1 rfl) ?_
                        refine z_iadd X.1 X.2.1 d_By_stop_165 ?_
                        refine lv_goto (tgt := 170) X.1 X.2.1 d_By_stop_166 (by decide) ?_
                        exact c_reti hQQ X Y hr hlk ⟨rfl, rfl, ((a1 + 2) + (z6 - 128)) + z21, rfl, ⟨by omega, by omega, by omega⟩⟩ d_By_stop_170
                    · refine lv_iconst (v := iI (-1)) X.1 X.2.1 d_By_stop_152 (by decide) ?_
                      exact c_reti hQQ X Y hr hlk ⟨rfl, rfl, (-1), rfl, ⟨by omega, by omega, by omega⟩⟩ d_By_stop_153
              · refine lv_iconst (v := iI (-1)) X.1 X.2.1 d_By_stop_74 (by decide) ?_
                exact c_reti hQQ X Y hr hlk ⟨rfl, rfl, (-1), rfl, ⟨by omega, by omega, by omega⟩⟩ d_By_stop_75
      · refine lv_iconst (v := iI (-1)) X.1 X.2.1 d_By_stop_19 (by decide) ?_
        exact c_reti hQQ X Y hr hlk ⟨rfl, rfl, (-1), rfl, ⟨by omega, by omega, by omega⟩⟩ d_By_stop_20
set_option maxHeartbeats 4000000 in
set_option maxRecDepth 100000 in
theorem c_By_body (l : Launch) (D : va_G) (E : cE) (T : cT) (κ : tK) (L : List Nat) (f : pF) (sz : Nat) (h n0 : Nat) (k0 : κ h = (13, n0)) (x0 : n0 ≤ 12288) (a1 : Int) (l_a1 : (-1) ≤ a1) (u_a1 : a1 ≤ 20200) (hw : tW E T κ L f) (sz0 : Int) (g0 : gF f h 1 = .int (iI sz0)) (g1 : 0 ≤ sz0) (g2 : sz0 ≤ (n0 : Int)) : Met l y_By_body (k_By_body :: lw_tg) (kRm 1 60 0 0) (va_Pc [.ref h, .int (iI a1)] (kPre D E T L f sz)) (va_Qi (uPi L f (fun (z : Int) => (-1) ≤ z ∧ z ≤ 12420 ∧ (z = -1 ∧ (a1 < 0 ∨ sz0 ≤ a1 + 1) ∨ 0 ≤ a1 ∧ a1 + 1 < sz0 ∧ a1 + 2 ≤ z ∧ z ≤ a1 + 129))) (cPost D E (pA L sz)) (pA L sz)) 0 0 (pA L sz) := by
  refine k_enter (own := R_By) (by decide) rfl (Nat.le_of_ble_eq_true rfl) (fun p e s m below meth c ls AV QQ H locs hQQ X Y hA hin hr hlk hml hl KS KR => ?_)
  have hl : lv_has ls 3 [(0, .ref h), (1, .int (iI a1))] := hl
  have S : tS E T (tFr κ L [] []) κ L f κ L f := tS_rf hw
  refine lv_iload_n X.1 X.2.1 d_By_body_0 rfl (lv_at hl 1 rfl) ?_
  refine z_if_lt (tgt := 14) X.1 X.2.1 d_By_body_1 (by decide) ⟨by omega, by omega⟩ (fun h1 => ?_) (fun h1 => ?_)
  · refine lv_iconst (v := iI (-1)) X.1 X.2.1 d_By_body_14 (by decide) ?_
    exact c_reti hQQ X Y hr hlk ⟨rfl, rfl, (-1), rfl, ⟨by omega, by omega, by omega⟩⟩ d_By_body_15
  · refine lv_iload_n X.1 X.2.1 d_By_body_4 rfl (lv_at hl 1 rfl) ?_
    refine lv_iconst (v := iI 1) X.1 X.2.1 d_By_body_5 (by decide) ?_
    refine z_iadd X.1 X.2.1 d_By_body_6 ?_
    refine lv_aload_n X.1 X.2.1 d_By_body_7 rfl (lv_at hl 0 rfl) ?_
    refine t_get0 (ci := 3) X Y S k0 rfl i_By 1 (by decide) rfl lk_By_21 (fun _ h9 => h9) d_By_body_8 g0 ?_
    refine z_icmp_lt (tgt := 16) X.1 X.2.1 d_By_body_11 (by decide) ⟨by omega, by omega⟩ ⟨by omega, by omega⟩ (fun h2 => ?_) (fun h2 => ?_)
    · refine lv_aload_n X.1 X.2.1 d_By_body_16 rfl (lv_at hl 0 rfl) ?_
      refine t_getrow (ci := 3) X Y S k0 rfl i_By 0 (by decide) rfl lk_By_15 (fun _ h9 => h9) d_By_body_17 (fun b3 e3 k3 => ?_)
      refine lv_iload_n X.1 X.2.1 d_By_body_20 rfl (lv_at hl 1 rfl) ?_
      refine lv_iconst (v := iI 1) X.1 X.2.1 d_By_body_21 (by decide) ?_
      refine z_iadd X.1 X.2.1 d_By_body_22 ?_
      refine t_bald X Y S (Or.inl k3) (by omega) (by omega) (by omega) d_By_body_23 (fun z4 l4 u4 => ?_)
      refine lv_sipush (v := iI 255) X.1 X.2.1 d_By_body_24 (by decide) ?_
      refine z_iand X.1 X.2.1 (by omega) (by omega) d_By_body_27 (fun z5 l5 u5 => ?_)
      refine lv_istore_n (lv' := [(2, .int (iI z5)), (0, .ref h), (1, .int (iI a1))]) X.1 X.2.1 d_By_body_28 rfl hl (by decide) rfl (fun ls hl => ?_)
      refine lv_iload_n X.1 X.2.1 d_By_body_29 rfl (lv_at hl 0 rfl) ?_
      refine lv_sipush (v := iI 128) X.1 X.2.1 d_By_body_30 (by decide) ?_
      refine z_icmp_ge (tgt := 42) X.1 X.2.1 d_By_body_33 (by decide) ⟨by omega, by omega⟩ ⟨by omega, by omega⟩ (fun h6 => ?_) (fun h6 => ?_)
      · refine lv_iload_n X.1 X.2.1 d_By_body_42 rfl (lv_at hl 2 rfl) ?_
        refine lv_iconst (v := iI 2) X.1 X.2.1 d_By_body_43 (by decide) ?_
        refine z_iadd X.1 X.2.1 d_By_body_44 ?_
        refine lv_iload_n X.1 X.2.1 d_By_body_45 rfl (lv_at hl 0 rfl) ?_
        refine z_iadd X.1 X.2.1 d_By_body_46 ?_
        refine lv_sipush (v := iI 128) X.1 X.2.1 d_By_body_47 (by decide) ?_
        refine z_isub X.1 X.2.1 d_By_body_50 ?_
        exact c_reti hQQ X Y hr hlk ⟨rfl, rfl, ((a1 + 2) + z5) - 128, rfl, ⟨by omega, by omega, by omega⟩⟩ d_By_body_51
      · refine lv_iload_n X.1 X.2.1 d_By_body_36 rfl (lv_at hl 2 rfl) ?_
        refine lv_iconst (v := iI 2) X.1 X.2.1 d_By_body_37 (by decide) ?_
        refine z_iadd X.1 X.2.1 d_By_body_38 ?_
        refine lv_goto (tgt := 51) X.1 X.2.1 d_By_body_39 (by decide) ?_
        exact c_reti hQQ X Y hr hlk ⟨rfl, rfl, a1 + 2, rfl, ⟨by omega, by omega, by omega⟩⟩ d_By_body_51
    · refine lv_iconst (v := iI (-1)) X.1 X.2.1 d_By_body_14 (by decide) ?_
      exact c_reti hQQ X Y hr hlk ⟨rfl, rfl, (-1), rfl, ⟨by omega, by omega, by omega⟩⟩ d_By_body_15
set_option maxHeartbeats 4000000 in
set_option maxRecDepth 100000 in
theorem c_By_putCopy (l : Launch) (D : va_G) (E : cE) (T : cT) (κ : tK) (L : List Nat) (f : pF) (sz : Nat) (h n0 : Nat) (k0 : κ h = (13, n0)) (x0 : n0 ≤ 12288) (a1 : Int) (l_a1 : 0 ≤ a1) (u_a1 : a1 ≤ 64) (a2 n2 : Nat) (k2 : κ a2 = (13, n2)) (x2 : n2 ≤ 12288) (a3 : Int) (l_a3 : (-1) ≤ a3) (u_a3 : a3 ≤ 20200) (hw : tW E T κ L f) : Met l y_By_putCopy (k_By_putCopy :: lw_tg) (kRm 3 102 0 0) (va_Pc [.ref h, .int (iI a1), .ref a2, .int (iI a3)] (kPre D E T L f sz)) (va_Qv (nPv E T [1, 13] κ L f (fun (g : pF) => True)) (cPost D E (pA L sz)) (pA L sz)) 0 0 (pA L sz) := by
  refine k_enter (own := R_By) (by decide) rfl (Nat.le_of_ble_eq_true rfl) (fun p e s m below meth c ls AV QQ H locs hQQ X Y hA hin hr hlk hml hl KS KR => ?_)
  have hl : lv_has ls 6 [(0, .ref h), (1, .int (iI a1)), (2, .ref a2), (3, .int (iI a3))] := hl
  have S : tS E T (tFr κ L [1, 13] []) κ L f κ L f := tS_rf hw
  refine lv_aload_n X.1 X.2.1 d_By_putCopy_0 rfl (lv_at hl 2 rfl) ?_
  refine lv_iload_n X.1 X.2.1 d_By_putCopy_1 rfl (lv_at hl 3 rfl) ?_
  refine lv_aload_n X.1 X.2.1 d_By_putCopy_2 rfl (lv_at hl 2 rfl) ?_
  refine t_gets (ci := 3) X Y S k2 rfl i_By 1 (by decide) rfl lk_By_21 (fun _ h9 => h9) d_By_putCopy_3 (fun z1 e1 l1 u1 => ?_)
  refine t_ui (t_runV (As := [.int (iI a3), .int (iI z1)]) (rest := []) (n := 2) X Y S k2 hml hl.1 (c_By_stop l D E T κ L f H.size a2 n2 k2 (by omega) a3 (by omega) (by omega) z1 (by omega) (by omega) S.1 z1 e1 (by omega) (by omega)) (ok_k X Y hA KS KR) rfl kl_By_By_stop ks_By_stop kx_By_stop ki_By_stop ini_By ⟨rfl, rfl⟩ hd_By_stop ⟨Nat.le_of_ble_eq_true rfl, Nat.le_of_ble_eq_true rfl⟩ rfl (Nat.le_of_ble_eq_true rfl) d_By_putCopy_6 ⟨Nat.le_of_ble_eq_true rfl, Nat.le_of_ble_eq_true rfl⟩) X Y hA (fun z2 H locs Y p2 => ?_)
  obtain ⟨l2, u2, x2⟩ := p2
  refine lv_istore (lv' := [(4, .int (iI z2)), (0, .ref h), (1, .int (iI a1)), (2, .ref a2), (3, .int (iI a3))]) X.1 X.2.1 d_By_putCopy_9 hl (by decide) rfl (fun ls hl => ?_)
  refine lv_iload X.1 X.2.1 d_By_putCopy_11 (lv_at hl 0 rfl) ?_
  refine z_if_ge (tgt := 17) X.1 X.2.1 d_By_putCopy_13 (by decide) ⟨by omega, by omega⟩ (fun h3 => ?_) (fun h3 => ?_)
  · refine lv_aload_n X.1 X.2.1 d_By_putCopy_17 rfl (lv_at hl 1 rfl) ?_
    refine lv_iload_n X.1 X.2.1 d_By_putCopy_18 rfl (lv_at hl 2 rfl) ?_
    refine t_ni (t_runV (As := [.int (iI a1)]) (rest := []) (n := 1) X Y S k0 hml hl.1 (c_By_openField l D E T κ L f H.size h n0 k0 (by omega) a1 (by omega) (by omega) S.1) (ok_k X Y hA KS KR) rfl kl_By_By_openField ks_By_openField kx_By_openField ki_By_openField ini_By ⟨rfl, rfl⟩ hd_By_openField ⟨Nat.le_of_ble_eq_true rfl, Nat.le_of_ble_eq_true rfl⟩ rfl (Nat.le_of_ble_eq_true rfl) d_By_putCopy_19 ⟨Nat.le_of_ble_eq_true rfl, Nat.le_of_ble_eq_true rfl⟩) X Y hA S (by decide) (fun z4 f4 H locs Y S s4 p4 => ?_)
    obtain ⟨l4, u4⟩ := p4
    refine lv_istore (lv' := [(5, .int (iI z4)), (4, .int (iI z2)), (0, .ref h), (1, .int (iI a1)), (2, .ref a2), (3, .int (iI a3))]) X.1 X.2.1 d_By_putCopy_22 hl (by decide) rfl (fun ls hl => ?_)
    refine lv_aload_n X.1 X.2.1 d_By_putCopy_24 rfl (lv_at hl 2 rfl) ?_
    refine lv_aload_n X.1 X.2.1 d_By_putCopy_25 rfl (lv_at hl 4 rfl) ?_
    refine t_getrow (ci := 3) X Y S k2 rfl i_By 0 (by decide) rfl lk_By_15 (fun _ h9 => h9) d_By_putCopy_26 (fun b5 e5 k5 => ?_)
    refine lv_iload_n X.1 X.2.1 d_By_putCopy_29 rfl (lv_at hl 5 rfl) ?_
    refine lv_iload X.1 X.2.1 d_By_putCopy_30 (lv_at hl 1 rfl) ?_
    refine lv_iload_n X.1 X.2.1 d_By_putCopy_32 rfl (lv_at hl 5 rfl) ?_
    refine z_isub X.1 X.2.1 d_By_putCopy_33 ?_
    refine t_nv (t_runV (As := [.ref b5, .int (iI a3), .int (iI (z2 - a3))]) (rest := []) (n := 3) X Y S k0 hml hl.1 (c_By_append l D E T κ L f4 H.size h n0 k0 (by omega) b5 n2 (Or.inl k5) (by omega) a3 (by omega) (by omega) (z2 - a3) (by omega) (by omega) S.1) (ok_k X Y hA KS KR) rfl kl_By_By_append ks_By_append kx_By_append ki_By_append ini_By ⟨rfl, rfl⟩ hd_By_append ⟨Nat.le_of_ble_eq_true rfl, Nat.le_of_ble_eq_true rfl⟩ rfl (Nat.le_of_ble_eq_true rfl) d_By_putCopy_34 ⟨Nat.le_of_ble_eq_true rfl, Nat.le_of_ble_eq_true rfl⟩) X Y hA S (by decide) (fun f6 H locs Y S s6 p6 => ?_)
    refine lv_aload_n X.1 X.2.1 d_By_putCopy_37 rfl (lv_at hl 2 rfl) ?_
    refine lv_iload X.1 X.2.1 d_By_putCopy_38 (lv_at hl 0 rfl) ?_
    refine t_nv (t_runV (As := [.int (iI z4)]) (rest := []) (n := 1) X Y S k0 hml hl.1 (c_By_close l D E T κ L f6 H.size h n0 k0 (by omega) z4 (by omega) (by omega) S.1) (ok_k X Y hA KS KR) rfl kl_By_By_close ks_By_close kx_By_close ki_By_close ini_By ⟨rfl, rfl⟩ hd_By_close ⟨Nat.le_of_ble_eq_true rfl, Nat.le_of_ble_eq_true rfl⟩ rfl (Nat.le_of_ble_eq_true rfl) d_By_putCopy_40 ⟨Nat.le_of_ble_eq_true rfl, Nat.le_of_ble_eq_true rfl⟩) X Y hA S (by decide) (fun f7 H locs Y S s7 p7 => ?_)
    exact c_retv hQQ X Y hr hlk ⟨rfl, S, trivial⟩ d_By_putCopy_43
  · exact c_retv hQQ X Y hr hlk ⟨rfl, S, trivial⟩ d_By_putCopy_16
set_option maxHeartbeats 4000000 in
set_option maxRecDepth 100000 in
theorem c_By_putDigits (l : Launch) (D : va_G) (E : cE) (T : cT) (κ : tK) (L : List Nat) (f : pF) (sz : Nat) (h n0 : Nat) (k0 : κ h = (13, n0)) (x0 : n0 ≤ 12288) (a1 : Int) (l_a1 : (-2147483648) ≤ a1) (u_a1 : a1 ≤ 2147483647) (hw : tW E T κ L f) : Met l y_By_putDigits (k_By_putDigits :: lw_tg) (kRm 2 81 0 0) (va_Pc [.ref h, .int (iI a1)] (kPre D E T L f sz)) (va_Qv (nPv E T [1, 13] κ L f (fun (g : pF) => True)) (cPost D E (pA L sz)) (pA L sz)) 0 0 (pA L sz) := by
  refine k_enter (own := R_By) (by decide) rfl (Nat.le_of_ble_eq_true rfl) (fun p e s m below meth c ls AV QQ H locs hQQ X Y hA hin hr hlk hml hl KS KR => ?_)
  have hl : lv_has ls 2 [(0, .ref h), (1, .int (iI a1))] := hl
  have S : tS E T (tFr κ L [1, 13] []) κ L f κ L f := tS_rf hw
  refine lv_aload_n X.1 X.2.1 d_By_putDigits_0 rfl (lv_at hl 0 rfl) ?_
  refine lv_bipush (v := iI 48) X.1 X.2.1 d_By_putDigits_1 (by decide) ?_
  refine lv_iload_n X.1 X.2.1 d_By_putDigits_3 rfl (lv_at hl 1 rfl) ?_
  refine lv_bipush (v := iI 10) X.1 X.2.1 d_By_putDigits_4 (by decide) ?_
  refine z_idivg X.1 X.2.1 ⟨by omega, by omega⟩ ⟨by decide, by decide⟩ d_By_putDigits_6 (fun z1 l1 u1 x1 y1 => ?_)
  refine lv_bipush (v := iI 10) X.1 X.2.1 d_By_putDigits_7 (by decide) ?_
  refine z_iremg X.1 X.2.1 ⟨by omega, by omega⟩ ⟨by decide, by decide⟩ d_By_putDigits_9 (fun z2 l2 u2 x2 => ?_)
  refine z_iadd X.1 X.2.1 d_By_putDigits_10 ?_
  refine t_nv (t_runV (As := [.int (iI (48 + z2))]) (rest := []) (n := 1) X Y S k0 hml hl.1 (c_By_put l D E T κ L f H.size h n0 k0 (by omega) (48 + z2) (by omega) (by omega) S.1) (ok_k X Y hA KS KR) rfl kl_By_By_put ks_By_put kx_By_put ki_By_put ini_By ⟨rfl, rfl⟩ hd_By_put ⟨Nat.le_of_ble_eq_true rfl, Nat.le_of_ble_eq_true rfl⟩ rfl (Nat.le_of_ble_eq_true rfl) d_By_putDigits_11 ⟨Nat.le_of_ble_eq_true rfl, Nat.le_of_ble_eq_true rfl⟩) X Y hA S (by decide) (fun f3 H locs Y S s3 p3 => ?_)
  refine lv_aload_n X.1 X.2.1 d_By_putDigits_14 rfl (lv_at hl 0 rfl) ?_
  refine lv_bipush (v := iI 48) X.1 X.2.1 d_By_putDigits_15 (by decide) ?_
  refine lv_iload_n X.1 X.2.1 d_By_putDigits_17 rfl (lv_at hl 1 rfl) ?_
  refine lv_bipush (v := iI 10) X.1 X.2.1 d_By_putDigits_18 (by decide) ?_
  refine z_iremg X.1 X.2.1 ⟨by omega, by omega⟩ ⟨by decide, by decide⟩ d_By_putDigits_20 (fun z4 l4 u4 x4 => ?_)
  refine z_iadd X.1 X.2.1 d_By_putDigits_21 ?_
  refine t_nv (t_runV (As := [.int (iI (48 + z4))]) (rest := []) (n := 1) X Y S k0 hml hl.1 (c_By_put l D E T κ L f3 H.size h n0 k0 (by omega) (48 + z4) (by omega) (by omega) S.1) (ok_k X Y hA KS KR) rfl kl_By_By_put ks_By_put kx_By_put ki_By_put ini_By ⟨rfl, rfl⟩ hd_By_put ⟨Nat.le_of_ble_eq_true rfl, Nat.le_of_ble_eq_true rfl⟩ rfl (Nat.le_of_ble_eq_true rfl) d_By_putDigits_22 ⟨Nat.le_of_ble_eq_true rfl, Nat.le_of_ble_eq_true rfl⟩) X Y hA S (by decide) (fun f5 H locs Y S s5 p5 => ?_)
  exact c_retv hQQ X Y hr hlk ⟨rfl, S, trivial⟩ d_By_putDigits_25
set_option maxHeartbeats 4000000 in
set_option maxRecDepth 100000 in
theorem c_By_daysBefore (l : Launch) (D : va_G) (E : cE) (T : cT) (κ : tK) (L : List Nat) (f : pF) (sz : Nat) (a1 : Int) (l_a1 : (-2147483648) ≤ a1) (u_a1 : a1 ≤ 2147483647) (a2 : Int) (l_a2 : (-2147483648) ≤ a2) (u_a2 : a2 ≤ 2147483647) (hw : tW E T κ L f) : Met l y_By_daysBefore (k_By_daysBefore :: lw_tg) (kRm 1 60 0 0) (va_Pc [.int (iI a1), .int (iI a2)] (kPre D E T L f sz)) (va_Qi (uPi L f (fun (z : Int) => (-2147483648) ≤ z ∧ z ≤ 2147483647)) (cPost D E (pA L sz)) (pA L sz)) 0 0 (pA L sz) := by
  refine k_enter (own := R_By) (by decide) rfl (Nat.le_of_ble_eq_true rfl) (fun p e s m below meth c ls AV QQ H locs hQQ X Y hA hin hr hlk hml hl KS KR => ?_)
  have hl : lv_has ls 4 [(0, .int (iI a1)), (1, .int (iI a2))] := hl
  have S : tS E T (tFr κ L [] []) κ L f κ L f := tS_rf hw
  refine lv_iconst (v := iI 1) X.1 X.2.1 d_By_daysBefore_0 (by decide) ?_
  refine lv_bipush (v := iI 13) X.1 X.2.1 d_By_daysBefore_1 (by decide) ?_
  refine lv_iload_n X.1 X.2.1 d_By_daysBefore_3 rfl (lv_at hl 1 rfl) ?_
  refine z_min X.1 X.2.1 (hml.trans hl.1.symm) X.2.2.2.1 (X.2.2.1 _ kl_By_mmin) (X.2.2.1 _ ks_mmin) (X.2.2.1 _ ini_Math) (X.2.2.1 _ ki_mmin) (Nat.le_of_ble_eq_true rfl) (Nat.le_of_ble_eq_true rfl) (Nat.le_of_ble_eq_true rfl) (Nat.le_of_ble_eq_true rfl) ⟨by omega, by omega⟩ ⟨by omega, by omega⟩ d_By_daysBefore_4 (fun z1 l1 u1 x1 => ?_)
  refine z_max X.1 X.2.1 (hml.trans hl.1.symm) X.2.2.2.1 (X.2.2.1 _ kl_By_mmax) (X.2.2.1 _ ks_mmax) (X.2.2.1 _ ini_Math) (X.2.2.1 _ ki_mmax) (Nat.le_of_ble_eq_true rfl) (Nat.le_of_ble_eq_true rfl) (Nat.le_of_ble_eq_true rfl) (Nat.le_of_ble_eq_true rfl) ⟨by omega, by omega⟩ ⟨by omega, by omega⟩ d_By_daysBefore_7 (fun z2 l2 u2 x2 => ?_)
  refine lv_istore_n (lv' := [(2, .int (iI z2)), (0, .int (iI a1)), (1, .int (iI a2))]) X.1 X.2.1 d_By_daysBefore_10 rfl hl (by decide) rfl (fun ls hl => ?_)
  refine lv_iload_n X.1 X.2.1 d_By_daysBefore_11 rfl (lv_at hl 1 rfl) ?_
  refine lv_iconst (v := iI 4) X.1 X.2.1 d_By_daysBefore_12 (by decide) ?_
  refine z_iremg X.1 X.2.1 ⟨by omega, by omega⟩ ⟨by decide, by decide⟩ d_By_daysBefore_13 (fun z3 l3 u3 x3 => ?_)
  have J4 : ∀  (H : Heap) (locs : List Loc) (ls : Array Slot), pH D cCl (pA L sz) s.heap L f H locs → tS E T (tFr κ L [] []) κ L f κ L f → lv_has ls 4 [(0, .int (iI a1)), (2, .int (iI z2))] → W p l e (kRm 1 60 0 0) s m AV below meth c H locs 0 0 QQ (F0 m 26 ls []) := by
    intro  H locs ls  Y S hl
    refine lv_iconst (v := iI 0) X.1 X.2.1 d_By_daysBefore_26 (by decide) ?_
    refine lv_istore_n (lv' := [(3, .int (iI 0)), (0, .int (iI a1)), (2, .int (iI z2))]) X.1 X.2.1 d_By_daysBefore_27 rfl hl (by decide) rfl (fun ls hl => ?_)
    refine lv_iload_n X.1 X.2.1 d_By_daysBefore_28 rfl (lv_at hl 1 rfl) ?_
    refine lv_sipush (v := iI 1970) X.1 X.2.1 d_By_daysBefore_29 (by decide) ?_
    refine lv_isub X.1 X.2.1 d_By_daysBefore_32 ?_
    refine t_u (fun z8 l8 u8 => ?_)
    refine lv_sipush (v := iI 365) X.1 X.2.1 d_By_daysBefore_33 (by decide) ?_
    refine lv_imul X.1 X.2.1 d_By_daysBefore_36 ?_
    refine t_u (fun z9 l9 u9 => ?_)
    refine lv_iload_n X.1 X.2.1 d_By_daysBefore_37 rfl (lv_at hl 1 rfl) ?_
    refine lv_sipush (v := iI 1969) X.1 X.2.1 d_By_daysBefore_38 (by decide) ?_
    refine lv_isub X.1 X.2.1 d_By_daysBefore_41 ?_
    refine t_u (fun z10 l10 u10 => ?_)
    refine lv_iconst (v := iI 4) X.1 X.2.1 d_By_daysBefore_42 (by decide) ?_
    refine z_idivg X.1 X.2.1 ⟨by omega, by omega⟩ ⟨by decide, by decide⟩ d_By_daysBefore_43 (fun z11 l11 u11 x11 y11 => ?_)
    refine lv_iadd X.1 X.2.1 d_By_daysBefore_44 ?_
    refine t_u (fun z12 l12 u12 => ?_)
    refine k_gets 3 (by decide) X Y KS sk_By_119 d_By_daysBefore_45 ?_
    refine lv_iload_n X.1 X.2.1 d_By_daysBefore_48 rfl (lv_at hl 2 rfl) ?_
    refine lv_iconst (v := iI 1) X.1 X.2.1 d_By_daysBefore_49 (by decide) ?_
    refine z_isub X.1 X.2.1 d_By_daysBefore_50 ?_
    refine t_sald 3 (by decide) rfl X Y KS (by omega) (show z2 - 1 < ((13 : Nat) : Int) by omega) (by omega) d_By_daysBefore_51 (fun z13 l13 u13 => ?_)
    refine lv_iadd X.1 X.2.1 d_By_daysBefore_52 ?_
    refine t_u (fun z14 l14 u14 => ?_)
    refine lv_iload_n X.1 X.2.1 d_By_daysBefore_53 rfl (lv_at hl 0 rfl) ?_
    refine z_iadd X.1 X.2.1 d_By_daysBefore_54 ?_
    exact c_reti hQQ X Y hr hlk ⟨rfl, rfl, z14 + 0, rfl, ⟨by omega, by omega⟩⟩ d_By_daysBefore_55
  refine z_if_ne (tgt := 26) X.1 X.2.1 d_By_daysBefore_14 (by decide) ⟨by omega, by omega⟩ (fun h15 => ?_) (fun h15 => ?_)
  · exact J4  _ _ _  Y S (lv_sub hl [1, 0] rfl)
  · refine lv_iload_n X.1 X.2.1 d_By_daysBefore_17 rfl (lv_at hl 0 rfl) ?_
    refine lv_iconst (v := iI 2) X.1 X.2.1 d_By_daysBefore_18 (by decide) ?_
    refine z_icmp_le (tgt := 26) X.1 X.2.1 d_By_daysBefore_19 (by decide) ⟨by omega, by omega⟩ ⟨by omega, by omega⟩ (fun h16 => ?_) (fun h16 => ?_)
    · exact J4  _ _ _  Y S (lv_sub hl [1, 0] rfl)
    · refine lv_iconst (v := iI 1) X.1 X.2.1 d_By_daysBefore_22 (by decide) ?_
      refine lv_goto (tgt := 27) X.1 X.2.1 d_By_daysBefore_23 (by decide) ?_
      refine lv_istore_n (lv' := [(3, .int (iI 1)), (2, .int (iI z2)), (0, .int (iI a1)), (1, .int (iI a2))]) X.1 X.2.1 d_By_daysBefore_27 rfl hl (by decide) rfl (fun ls hl => ?_)
      refine lv_iload_n X.1 X.2.1 d_By_daysBefore_28 rfl (lv_at hl 2 rfl) ?_
      refine lv_sipush (v := iI 1970) X.1 X.2.1 d_By_daysBefore_29 (by decide) ?_
      refine lv_isub X.1 X.2.1 d_By_daysBefore_32 ?_
      refine t_u (fun z17 l17 u17 => ?_)
      refine lv_sipush (v := iI 365) X.1 X.2.1 d_By_daysBefore_33 (by decide) ?_
      refine lv_imul X.1 X.2.1 d_By_daysBefore_36 ?_
      refine t_u (fun z18 l18 u18 => ?_)
      refine lv_iload_n X.1 X.2.1 d_By_daysBefore_37 rfl (lv_at hl 2 rfl) ?_
      refine lv_sipush (v := iI 1969) X.1 X.2.1 d_By_daysBefore_38 (by decide) ?_
      refine lv_isub X.1 X.2.1 d_By_daysBefore_41 ?_
      refine t_u (fun z19 l19 u19 => ?_)
      refine lv_iconst (v := iI 4) X.1 X.2.1 d_By_daysBefore_42 (by decide) ?_
      refine z_idivg X.1 X.2.1 ⟨by omega, by omega⟩ ⟨by decide, by decide⟩ d_By_daysBefore_43 (fun z20 l20 u20 x20 y20 => ?_)
      refine lv_iadd X.1 X.2.1 d_By_daysBefore_44 ?_
      refine t_u (fun z21 l21 u21 => ?_)
      refine k_gets 3 (by decide) X Y KS sk_By_119 d_By_daysBefore_45 ?_
      refine lv_iload_n X.1 X.2.1 d_By_daysBefore_48 rfl (lv_at hl 1 rfl) ?_
      refine lv_iconst (v := iI 1) X.1 X.2.1 d_By_daysBefore_49 (by decide) ?_
      refine z_isub X.1 X.2.1 d_By_daysBefore_50 ?_
      refine t_sald 3 (by decide) rfl X Y KS (by omega) (show z2 - 1 < ((13 : Nat) : Int) by omega) (by omega) d_By_daysBefore_51 (fun z22 l22 u22 => ?_)
      refine lv_iadd X.1 X.2.1 d_By_daysBefore_52 ?_
      refine t_u (fun z23 l23 u23 => ?_)
      refine lv_iload_n X.1 X.2.1 d_By_daysBefore_53 rfl (lv_at hl 0 rfl) ?_
      refine lv_iadd X.1 X.2.1 d_By_daysBefore_54 ?_
      refine t_u (fun z24 l24 u24 => ?_)
      exact c_reti hQQ X Y hr hlk ⟨rfl, rfl, z24, rfl, ⟨by omega, by omega⟩⟩ d_By_daysBefore_55
set_option maxHeartbeats 4000000 in
set_option maxRecDepth 100000 in
theorem c_By_putTime (l : Launch) (D : va_G) (E : cE) (T : cT) (κ : tK) (L : List Nat) (f : pF) (sz : Nat) (h n0 : Nat) (k0 : κ h = (13, n0)) (x0 : n0 ≤ 12288) (a1 : Int) (l_a1 : 0 ≤ a1) (u_a1 : a1 ≤ 64) (a2 : Int) (l_a2 : (-2147483648) ≤ a2) (u_a2 : a2 ≤ 2147483647) (hw : tW E T κ L f) : Met l y_By_putTime (k_By_putTime :: lw_tg) (kRm 3 102 0 0) (va_Pc [.ref h, .int (iI a1), .int (iI a2)] (kPre D E T L f sz)) (va_Qv (nPv E T [1, 13] κ L f (fun (g : pF) => True)) (cPost D E (pA L sz)) (pA L sz)) 0 0 (pA L sz) := by
  refine k_enter (own := R_By) (by decide) rfl (Nat.le_of_ble_eq_true rfl) (fun p e s m below meth c ls AV QQ H locs hQQ X Y hA hin hr hlk hml hl KS KR => ?_)
  have hl : lv_has ls 8 [(0, .ref h), (1, .int (iI a1)), (2, .int (iI a2))] := hl
  have S : tS E T (tFr κ L [1, 13] []) κ L f κ L f := tS_rf hw
  refine lv_aload_n X.1 X.2.1 d_By_putTime_0 rfl (lv_at hl 0 rfl) ?_
  refine lv_iload_n X.1 X.2.1 d_By_putTime_1 rfl (lv_at hl 1 rfl) ?_
  refine t_ni (t_runV (As := [.int (iI a1)]) (rest := []) (n := 1) X Y S k0 hml hl.1 (c_By_openField l D E T κ L f H.size h n0 k0 (by omega) a1 (by omega) (by omega) S.1) (ok_k X Y hA KS KR) rfl kl_By_By_openField ks_By_openField kx_By_openField ki_By_openField ini_By ⟨rfl, rfl⟩ hd_By_openField ⟨Nat.le_of_ble_eq_true rfl, Nat.le_of_ble_eq_true rfl⟩ rfl (Nat.le_of_ble_eq_true rfl) d_By_putTime_2 ⟨Nat.le_of_ble_eq_true rfl, Nat.le_of_ble_eq_true rfl⟩) X Y hA S (by decide) (fun z1 f1 H locs Y S s1 p1 => ?_)
  obtain ⟨l1, u1⟩ := p1
  refine lv_istore_n (lv' := [(3, .int (iI z1)), (0, .ref h), (1, .int (iI a1)), (2, .int (iI a2))]) X.1 X.2.1 d_By_putTime_5 rfl hl (by decide) rfl (fun ls hl => ?_)
  refine lv_aload_n X.1 X.2.1 d_By_putTime_6 rfl (lv_at hl 1 rfl) ?_
  refine lv_bipush (v := iI 24) X.1 X.2.1 d_By_putTime_7 (by decide) ?_
  refine t_nv (t_runV (As := [.int (iI 24)]) (rest := []) (n := 1) X Y S k0 hml hl.1 (c_By_put l D E T κ L f1 H.size h n0 k0 (by omega) 24 (by omega) (by omega) S.1) (ok_k X Y hA KS KR) rfl kl_By_By_put ks_By_put kx_By_put ki_By_put ini_By ⟨rfl, rfl⟩ hd_By_put ⟨Nat.le_of_ble_eq_true rfl, Nat.le_of_ble_eq_true rfl⟩ rfl (Nat.le_of_ble_eq_true rfl) d_By_putTime_9 ⟨Nat.le_of_ble_eq_true rfl, Nat.le_of_ble_eq_true rfl⟩) X Y hA S (by decide) (fun f2 H locs Y S s2 p2 => ?_)
  refine lv_aload_n X.1 X.2.1 d_By_putTime_12 rfl (lv_at hl 1 rfl) ?_
  refine lv_bipush (v := iI 15) X.1 X.2.1 d_By_putTime_13 (by decide) ?_
  refine t_nv (t_runV (As := [.int (iI 15)]) (rest := []) (n := 1) X Y S k0 hml hl.1 (c_By_put l D E T κ L f2 H.size h n0 k0 (by omega) 15 (by omega) (by omega) S.1) (ok_k X Y hA KS KR) rfl kl_By_By_put ks_By_put kx_By_put ki_By_put ini_By ⟨rfl, rfl⟩ hd_By_put ⟨Nat.le_of_ble_eq_true rfl, Nat.le_of_ble_eq_true rfl⟩ rfl (Nat.le_of_ble_eq_true rfl) d_By_putTime_15 ⟨Nat.le_of_ble_eq_true rfl, Nat.le_of_ble_eq_true rfl⟩) X Y hA S (by decide) (fun f3 H locs Y S s3 p3 => ?_)
  refine lv_iload_n X.1 X.2.1 d_By_putTime_18 rfl (lv_at hl 3 rfl) ?_
  refine lv_ldc (v := (86400)) X.1 X.2.1 X.2.2.2.1 (X.2.2.1 _ cn_By_101) d_By_putTime_19 ?_
  refine t_eq (y := iI 86400) (by decide) ?_
  refine z_idivg X.1 X.2.1 ⟨by omega, by omega⟩ ⟨by decide, by decide⟩ d_By_putTime_21 (fun z4 l4 u4 x4 y4 => ?_)
  refine lv_istore (lv' := [(4, .int (iI z4)), (3, .int (iI z1)), (0, .ref h), (1, .int (iI a1)), (2, .int (iI a2))]) X.1 X.2.1 d_By_putTime_22 hl (by decide) rfl (fun ls hl => ?_)
  refine lv_iload_n X.1 X.2.1 d_By_putTime_24 rfl (lv_at hl 4 rfl) ?_
  refine lv_ldc (v := (86400)) X.1 X.2.1 X.2.2.2.1 (X.2.2.1 _ cn_By_101) d_By_putTime_25 ?_
  refine t_eq (y := iI 86400) (by decide) ?_
  refine z_iremg X.1 X.2.1 ⟨by omega, by omega⟩ ⟨by decide, by decide⟩ d_By_putTime_27 (fun z5 l5 u5 x5 => ?_)
  refine lv_istore (lv' := [(5, .int (iI z5)), (4, .int (iI z4)), (3, .int (iI z1)), (0, .ref h), (1, .int (iI a1)), (2, .int (iI a2))]) X.1 X.2.1 d_By_putTime_28 hl (by decide) rfl (fun ls hl => ?_)
  refine lv_sipush (v := iI 1970) X.1 X.2.1 d_By_putTime_30 (by decide) ?_
  have J7 : ∀ (n9 : Nat) (z6 : Int) (H : Heap) (locs : List Loc) (ls : Array Slot), (2037 - z6).toNat = n9 → (1970 ≤ z6) → (z6 ≤ 2037) → pH D cCl (pA L sz) s.heap L f3 H locs → tS E T (tFr κ L [1, 13] []) κ L f κ L f3 → lv_has ls 8 [(0, .ref h), (3, .int (iI z1)), (4, .int (iI z4)), (5, .int (iI z5)), (6, .int (iI z6))] → W p l e (kRm 3 102 0 0) s m AV below meth c H locs 0 0 QQ (F0 m 35 ls []) := by
    intro n9
    induction n9 using Nat.strongRecOn with
    | ind n9 ih8 =>
      intro z6 H locs ls hm10 l6 u6 Y S hl
      refine lv_iload X.1 X.2.1 d_By_putTime_35 (lv_at hl 4 rfl) ?_
      refine lv_sipush (v := iI 2037) X.1 X.2.1 d_By_putTime_37 (by decide) ?_
      have J11 : ∀  (H : Heap) (locs : List Loc) (ls : Array Slot), pH D cCl (pA L sz) s.heap L f3 H locs → tS E T (tFr κ L [1, 13] []) κ L f κ L f3 → lv_has ls 8 [(0, .ref h), (3, .int (iI z1)), (4, .int (iI z4)), (5, .int (iI z5)), (6, .int (iI z6))] → W p l e (kRm 3 102 0 0) s m AV below meth c H locs 0 0 QQ (F0 m 62 ls []) := by
        intro  H locs ls  Y S hl
        refine lv_iconst (v := iI 1) X.1 X.2.1 d_By_putTime_62 (by decide) ?_
        have J16 : ∀ (n18 : Nat) (z15 : Int) (H : Heap) (locs : List Loc) (ls : Array Slot), (12 - z15).toNat = n18 → (1 ≤ z15) → (z15 ≤ 12) → pH D cCl (pA L sz) s.heap L f3 H locs → tS E T (tFr κ L [1, 13] []) κ L f κ L f3 → lv_has ls 8 [(0, .ref h), (3, .int (iI z1)), (4, .int (iI z4)), (5, .int (iI z5)), (6, .int (iI z6)), (7, .int (iI z15))] → W p l e (kRm 3 102 0 0) s m AV below meth c H locs 0 0 QQ (F0 m 65 ls []) := by
          intro n18
          induction n18 using Nat.strongRecOn with
          | ind n18 ih17 =>
            intro z15 H locs ls hm19 l15 u15 Y S hl
            refine lv_iload X.1 X.2.1 d_By_putTime_65 (lv_at hl 5 rfl) ?_
            refine lv_bipush (v := iI 12) X.1 X.2.1 d_By_putTime_67 (by decide) ?_
            have J20 : ∀  (H : Heap) (locs : List Loc) (ls : Array Slot), pH D cCl (pA L sz) s.heap L f3 H locs → tS E T (tFr κ L [1, 13] []) κ L f κ L f3 → lv_has ls 8 [(0, .ref h), (3, .int (iI z1)), (4, .int (iI z4)), (5, .int (iI z5)), (6, .int (iI z6)), (7, .int (iI z15))] → W p l e (kRm 3 102 0 0) s m AV below meth c H locs 0 0 QQ (F0 m 92 ls []) := by
              intro  H locs ls  Y S hl
              refine lv_aload_n X.1 X.2.1 d_By_putTime_92 rfl (lv_at hl 0 rfl) ?_
              refine lv_iload X.1 X.2.1 d_By_putTime_93 (lv_at hl 4 rfl) ?_
              refine lv_bipush (v := iI 100) X.1 X.2.1 d_By_putTime_95 (by decide) ?_
              refine z_idiv X.1 X.2.1 (by omega) (by omega) ⟨by decide, by decide⟩ d_By_putTime_97 ?_
              refine t_nv (t_runV (As := [.int (iI (z6 / 100))]) (rest := []) (n := 1) X Y S k0 hml hl.1 (c_By_putDigits l D E T κ L f3 H.size h n0 k0 (by omega) (z6 / 100) (by omega) (by omega) S.1) (ok_k X Y hA KS KR) rfl kl_By_By_putDigits ks_By_putDigits kx_By_putDigits ki_By_putDigits ini_By ⟨rfl, rfl⟩ hd_By_putDigits ⟨Nat.le_of_ble_eq_true rfl, Nat.le_of_ble_eq_true rfl⟩ rfl (Nat.le_of_ble_eq_true rfl) d_By_putTime_98 ⟨Nat.le_of_ble_eq_true rfl, Nat.le_of_ble_eq_true rfl⟩) X Y hA S (by decide) (fun f24 H locs Y S s24 p24 => ?_)
              refine lv_aload_n X.1 X.2.1 d_By_putTime_101 rfl (lv_at hl 0 rfl) ?_
              refine lv_iload X.1 X.2.1 d_By_putTime_102 (lv_at hl 4 rfl) ?_
              refine lv_bipush (v := iI 100) X.1 X.2.1 d_By_putTime_104 (by decide) ?_
              refine z_irem X.1 X.2.1 (by omega) (by omega) ⟨by decide, by decide⟩ d_By_putTime_106 ?_
              refine t_nv (t_runV (As := [.int (iI (z6 % 100))]) (rest := []) (n := 1) X Y S k0 hml hl.1 (c_By_putDigits l D E T κ L f24 H.size h n0 k0 (by omega) (z6 % 100) (by omega) (by omega) S.1) (ok_k X Y hA KS KR) rfl kl_By_By_putDigits ks_By_putDigits kx_By_putDigits ki_By_putDigits ini_By ⟨rfl, rfl⟩ hd_By_putDigits ⟨Nat.le_of_ble_eq_true rfl, Nat.le_of_ble_eq_true rfl⟩ rfl (Nat.le_of_ble_eq_true rfl) d_By_putTime_107 ⟨Nat.le_of_ble_eq_true rfl, Nat.le_of_ble_eq_true rfl⟩) X Y hA S (by decide) (fun f25 H locs Y S s25 p25 => ?_)
              refine lv_aload_n X.1 X.2.1 d_By_putTime_110 rfl (lv_at hl 0 rfl) ?_
              refine lv_iload X.1 X.2.1 d_By_putTime_111 (lv_at hl 5 rfl) ?_
              refine t_nv (t_runV (As := [.int (iI z15)]) (rest := []) (n := 1) X Y S k0 hml hl.1 (c_By_putDigits l D E T κ L f25 H.size h n0 k0 (by omega) z15 (by omega) (by omega) S.1) (ok_k X Y hA KS KR) rfl kl_By_By_putDigits ks_By_putDigits kx_By_putDigits ki_By_putDigits ini_By ⟨rfl, rfl⟩ hd_By_putDigits ⟨Nat.le_of_ble_eq_true rfl, Nat.le_of_ble_eq_true rfl⟩ rfl (Nat.le_of_ble_eq_true rfl) d_By_putTime_113 ⟨Nat.le_of_ble_eq_true rfl, Nat.le_of_ble_eq_true rfl⟩) X Y hA S (by decide) (fun f26 H locs Y S s26 p26 => ?_)
              refine lv_aload_n X.1 X.2.1 d_By_putTime_116 rfl (lv_at hl 0 rfl) ?_
              refine lv_iload X.1 X.2.1 d_By_putTime_117 (lv_at hl 2 rfl) ?_
              refine lv_iload X.1 X.2.1 d_By_putTime_119 (lv_at hl 4 rfl) ?_
              refine lv_iload X.1 X.2.1 d_By_putTime_121 (lv_at hl 5 rfl) ?_
              refine t_ui (x_runS (As := [.int (iI z6), .int (iI z15)]) (rest := [.int (iI z4), .ref h]) (n := 2) X hml hl.1 (c_By_daysBefore l D E T κ L f26 H.size z6 (by omega) (by omega) z15 (by omega) (by omega) S.1) (ok_k X Y hA KS KR) kl_By_By_daysBefore ks_By_daysBefore ki_By_daysBefore ini_By ⟨rfl, rfl⟩ hd_By_daysBefore.2 ⟨Nat.le_of_ble_eq_true rfl, Nat.le_of_ble_eq_true rfl⟩ rfl (Nat.le_of_ble_eq_true rfl) d_By_putTime_123 ⟨Nat.le_of_ble_eq_true rfl, Nat.le_of_ble_eq_true rfl⟩) X Y hA (fun z27 H locs Y p27 => ?_)
              obtain ⟨l27, u27⟩ := p27
              refine lv_isub X.1 X.2.1 d_By_putTime_126 ?_
              refine t_u (fun z28 l28 u28 => ?_)
              refine lv_iconst (v := iI 1) X.1 X.2.1 d_By_putTime_127 (by decide) ?_
              refine lv_iadd X.1 X.2.1 d_By_putTime_128 ?_
              refine t_u (fun z29 l29 u29 => ?_)
              refine t_nv (t_runV (As := [.int (iI z29)]) (rest := []) (n := 1) X Y S k0 hml hl.1 (c_By_putDigits l D E T κ L f26 H.size h n0 k0 (by omega) z29 (by omega) (by omega) S.1) (ok_k X Y hA KS KR) rfl kl_By_By_putDigits ks_By_putDigits kx_By_putDigits ki_By_putDigits ini_By ⟨rfl, rfl⟩ hd_By_putDigits ⟨Nat.le_of_ble_eq_true rfl, Nat.le_of_ble_eq_true rfl⟩ rfl (Nat.le_of_ble_eq_true rfl) d_By_putTime_129 ⟨Nat.le_of_ble_eq_true rfl, Nat.le_of_ble_eq_true rfl⟩) X Y hA S (by decide) (fun f30 H locs Y S s30 p30 => ?_)
              refine lv_aload_n X.1 X.2.1 d_By_putTime_132 rfl (lv_at hl 0 rfl) ?_
              refine lv_iload X.1 X.2.1 d_By_putTime_133 (lv_at hl 3 rfl) ?_
              refine lv_sipush (v := iI 3600) X.1 X.2.1 d_By_putTime_135 (by decide) ?_
              refine z_idivg X.1 X.2.1 ⟨by omega, by omega⟩ ⟨by decide, by decide⟩ d_By_putTime_138 (fun z31 l31 u31 x31 y31 => ?_)
              refine t_nv (t_runV (As := [.int (iI z31)]) (rest := []) (n := 1) X Y S k0 hml hl.1 (c_By_putDigits l D E T κ L f30 H.size h n0 k0 (by omega) z31 (by omega) (by omega) S.1) (ok_k X Y hA KS KR) rfl kl_By_By_putDigits ks_By_putDigits kx_By_putDigits ki_By_putDigits ini_By ⟨rfl, rfl⟩ hd_By_putDigits ⟨Nat.le_of_ble_eq_true rfl, Nat.le_of_ble_eq_true rfl⟩ rfl (Nat.le_of_ble_eq_true rfl) d_By_putTime_139 ⟨Nat.le_of_ble_eq_true rfl, Nat.le_of_ble_eq_true rfl⟩) X Y hA S (by decide) (fun f32 H locs Y S s32 p32 => ?_)
              refine lv_aload_n X.1 X.2.1 d_By_putTime_142 rfl (lv_at hl 0 rfl) ?_
              refine lv_iload X.1 X.2.1 d_By_putTime_143 (lv_at hl 3 rfl) ?_
              refine lv_bipush (v := iI 60) X.1 X.2.1 d_By_putTime_145 (by decide) ?_
              refine z_idivg X.1 X.2.1 ⟨by omega, by omega⟩ ⟨by decide, by decide⟩ d_By_putTime_147 (fun z33 l33 u33 x33 y33 => ?_)
              refine lv_bipush (v := iI 60) X.1 X.2.1 d_By_putTime_148 (by decide) ?_
              refine z_iremg X.1 X.2.1 ⟨by omega, by omega⟩ ⟨by decide, by decide⟩ d_By_putTime_150 (fun z34 l34 u34 x34 => ?_)
              refine t_nv (t_runV (As := [.int (iI z34)]) (rest := []) (n := 1) X Y S k0 hml hl.1 (c_By_putDigits l D E T κ L f32 H.size h n0 k0 (by omega) z34 (by omega) (by omega) S.1) (ok_k X Y hA KS KR) rfl kl_By_By_putDigits ks_By_putDigits kx_By_putDigits ki_By_putDigits ini_By ⟨rfl, rfl⟩ hd_By_putDigits ⟨Nat.le_of_ble_eq_true rfl, Nat.le_of_ble_eq_true rfl⟩ rfl (Nat.le_of_ble_eq_true rfl) d_By_putTime_151 ⟨Nat.le_of_ble_eq_true rfl, Nat.le_of_ble_eq_true rfl⟩) X Y hA S (by decide) (fun f35 H locs Y S s35 p35 => ?_)
              refine lv_aload_n X.1 X.2.1 d_By_putTime_154 rfl (lv_at hl 0 rfl) ?_
              refine lv_iload X.1 X.2.1 d_By_putTime_155 (lv_at hl 3 rfl) ?_
              refine lv_bipush (v := iI 60) X.1 X.2.1 d_By_putTime_157 (by decide) ?_
              refine z_iremg X.1 X.2.1 ⟨by omega, by omega⟩ ⟨by decide, by decide⟩ d_By_putTime_159 (fun z36 l36 u36 x36 => ?_)
              refine t_nv (t_runV (As := [.int (iI z36)]) (rest := []) (n := 1) X Y S k0 hml hl.1 (c_By_putDigits l D E T κ L f35 H.size h n0 k0 (by omega) z36 (by omega) (by omega) S.1) (ok_k X Y hA KS KR) rfl kl_By_By_putDigits ks_By_putDigits kx_By_putDigits ki_By_putDigits ini_By ⟨rfl, rfl⟩ hd_By_putDigits ⟨Nat.le_of_ble_eq_true rfl, Nat.le_of_ble_eq_true rfl⟩ rfl (Nat.le_of_ble_eq_true rfl) d_By_putTime_160 ⟨Nat.le_of_ble_eq_true rfl, Nat.le_of_ble_eq_true rfl⟩) X Y hA S (by decide) (fun f37 H locs Y S s37 p37 => ?_)
              refine lv_aload_n X.1 X.2.1 d_By_putTime_163 rfl (lv_at hl 0 rfl) ?_
              refine lv_bipush (v := iI 90) X.1 X.2.1 d_By_putTime_164 (by decide) ?_
              refine t_nv (t_runV (As := [.int (iI 90)]) (rest := []) (n := 1) X Y S k0 hml hl.1 (c_By_put l D E T κ L f37 H.size h n0 k0 (by omega) 90 (by omega) (by omega) S.1) (ok_k X Y hA KS KR) rfl kl_By_By_put ks_By_put kx_By_put ki_By_put ini_By ⟨rfl, rfl⟩ hd_By_put ⟨Nat.le_of_ble_eq_true rfl, Nat.le_of_ble_eq_true rfl⟩ rfl (Nat.le_of_ble_eq_true rfl) d_By_putTime_166 ⟨Nat.le_of_ble_eq_true rfl, Nat.le_of_ble_eq_true rfl⟩) X Y hA S (by decide) (fun f38 H locs Y S s38 p38 => ?_)
              refine lv_aload_n X.1 X.2.1 d_By_putTime_169 rfl (lv_at hl 0 rfl) ?_
              refine lv_iload_n X.1 X.2.1 d_By_putTime_170 rfl (lv_at hl 1 rfl) ?_
              refine t_nv (t_runV (As := [.int (iI z1)]) (rest := []) (n := 1) X Y S k0 hml hl.1 (c_By_close l D E T κ L f38 H.size h n0 k0 (by omega) z1 (by omega) (by omega) S.1) (ok_k X Y hA KS KR) rfl kl_By_By_close ks_By_close kx_By_close ki_By_close ini_By ⟨rfl, rfl⟩ hd_By_close ⟨Nat.le_of_ble_eq_true rfl, Nat.le_of_ble_eq_true rfl⟩ rfl (Nat.le_of_ble_eq_true rfl) d_By_putTime_171 ⟨Nat.le_of_ble_eq_true rfl, Nat.le_of_ble_eq_true rfl⟩) X Y hA S (by decide) (fun f39 H locs Y S s39 p39 => ?_)
              exact c_retv hQQ X Y hr hlk ⟨rfl, S, trivial⟩ d_By_putTime_174
            refine z_icmp_ge (tgt := 92) X.1 X.2.1 d_By_putTime_69 (by decide) ⟨by omega, by omega⟩ ⟨by omega, by omega⟩ (fun h40 => ?_) (fun h40 => ?_)
            · exact J20  _ _ _  Y S (lv_sub hl [0, 1, 2, 3, 4, 5] rfl)
            · refine lv_iload X.1 X.2.1 d_By_putTime_72 (lv_at hl 4 rfl) ?_
              refine lv_iload X.1 X.2.1 d_By_putTime_74 (lv_at hl 5 rfl) ?_
              refine lv_iconst (v := iI 1) X.1 X.2.1 d_By_putTime_76 (by decide) ?_
              refine z_iadd X.1 X.2.1 d_By_putTime_77 ?_
              refine t_ui (x_runS (As := [.int (iI z6), .int (iI (z15 + 1))]) (rest := []) (n := 2) X hml hl.1 (c_By_daysBefore l D E T κ L f3 H.size z6 (by omega) (by omega) (z15 + 1) (by omega) (by omega) S.1) (ok_k X Y hA KS KR) kl_By_By_daysBefore ks_By_daysBefore ki_By_daysBefore ini_By ⟨rfl, rfl⟩ hd_By_daysBefore.2 ⟨Nat.le_of_ble_eq_true rfl, Nat.le_of_ble_eq_true rfl⟩ rfl (Nat.le_of_ble_eq_true rfl) d_By_putTime_78 ⟨Nat.le_of_ble_eq_true rfl, Nat.le_of_ble_eq_true rfl⟩) X Y hA (fun z41 H locs Y p41 => ?_)
              obtain ⟨l41, u41⟩ := p41
              refine lv_iload X.1 X.2.1 d_By_putTime_81 (lv_at hl 2 rfl) ?_
              refine z_icmp_gt (tgt := 92) X.1 X.2.1 d_By_putTime_83 (by decide) ⟨by omega, by omega⟩ ⟨by omega, by omega⟩ (fun h42 => ?_) (fun h42 => ?_)
              · exact J20  _ _ _  Y S (lv_sub hl [0, 1, 2, 3, 4, 5] rfl)
              · refine lv_iinc (v := iI (z15 + 1)) (lv' := [(7, .int (iI (z15 + 1))), (0, .ref h), (3, .int (iI z1)), (4, .int (iI z4)), (5, .int (iI z5)), (6, .int (iI z6))]) X.1 X.2.1 d_By_putTime_86 hl (k := 5) rfl ((iI_add _ _).trans (congrArg iI (by omega))) (by decide) rfl (fun ls hl => ?_)
                refine lv_goto (tgt := 65) X.1 X.2.1 d_By_putTime_89 (by decide) ?_
                exact ih17 ((12 - (z15 + 1)).toNat) (by omega) (z15 + 1) _ _ _ rfl (by omega) (by omega) Y S (lv_sub hl [1, 2, 3, 4, 5, 0] rfl)
        refine lv_istore (lv' := [(7, .int (iI 1)), (0, .ref h), (3, .int (iI z1)), (4, .int (iI z4)), (5, .int (iI z5)), (6, .int (iI z6))]) X.1 X.2.1 d_By_putTime_63 hl (by decide) rfl (fun ls hl => ?_)
        exact J16 _ 1 _ _ _ rfl (by omega) (by omega) Y S (lv_sub hl [1, 2, 3, 4, 5, 0] rfl)
      refine z_icmp_ge (tgt := 62) X.1 X.2.1 d_By_putTime_40 (by decide) ⟨by omega, by omega⟩ ⟨by omega, by omega⟩ (fun h43 => ?_) (fun h43 => ?_)
      · exact J11  _ _ _  Y S (lv_sub hl [0, 1, 2, 3, 4] rfl)
      · refine lv_iload X.1 X.2.1 d_By_putTime_43 (lv_at hl 4 rfl) ?_
        refine lv_iconst (v := iI 1) X.1 X.2.1 d_By_putTime_45 (by decide) ?_
        refine z_iadd X.1 X.2.1 d_By_putTime_46 ?_
        refine lv_iconst (v := iI 1) X.1 X.2.1 d_By_putTime_47 (by decide) ?_
        refine t_ui (x_runS (As := [.int (iI (z6 + 1)), .int (iI 1)]) (rest := []) (n := 2) X hml hl.1 (c_By_daysBefore l D E T κ L f3 H.size (z6 + 1) (by omega) (by omega) 1 (by omega) (by omega) S.1) (ok_k X Y hA KS KR) kl_By_By_daysBefore ks_By_daysBefore ki_By_daysBefore ini_By ⟨rfl, rfl⟩ hd_By_daysBefore.2 ⟨Nat.le_of_ble_eq_true rfl, Nat.le_of_ble_eq_true rfl⟩ rfl (Nat.le_of_ble_eq_true rfl) d_By_putTime_48 ⟨Nat.le_of_ble_eq_true rfl, Nat.le_of_ble_eq_true rfl⟩) X Y hA (fun z44 H locs Y p44 => ?_)
        obtain ⟨l44, u44⟩ := p44
        refine lv_iload X.1 X.2.1 d_By_putTime_51 (lv_at hl 2 rfl) ?_
        refine z_icmp_gt (tgt := 62) X.1 X.2.1 d_By_putTime_53 (by decide) ⟨by omega, by omega⟩ ⟨by omega, by omega⟩ (fun h45 => ?_) (fun h45 => ?_)
        · exact J11  _ _ _  Y S (lv_sub hl [0, 1, 2, 3, 4] rfl)
        · refine lv_iinc (v := iI (z6 + 1)) (lv' := [(6, .int (iI (z6 + 1))), (0, .ref h), (3, .int (iI z1)), (4, .int (iI z4)), (5, .int (iI z5))]) X.1 X.2.1 d_By_putTime_56 hl (k := 4) rfl ((iI_add _ _).trans (congrArg iI (by omega))) (by decide) rfl (fun ls hl => ?_)
          refine lv_goto (tgt := 35) X.1 X.2.1 d_By_putTime_59 (by decide) ?_
          exact ih8 ((2037 - (z6 + 1)).toNat) (by omega) (z6 + 1) _ _ _ rfl (by omega) (by omega) Y S (lv_sub hl [1, 2, 3, 4, 0] rfl)
  refine lv_istore (lv' := [(6, .int (iI 1970)), (5, .int (iI z5)), (4, .int (iI z4)), (3, .int (iI z1)), (0, .ref h), (1, .int (iI a1)), (2, .int (iI a2))]) X.1 X.2.1 d_By_putTime_33 hl (by decide) rfl (fun ls hl => ?_)
  exact J7 _ 1970 _ _ _ rfl (by omega) (by omega) Y S (lv_sub hl [4, 3, 2, 1, 0] rfl)
set_option maxHeartbeats 4000000 in
set_option maxRecDepth 100000 in
theorem c_By_putErrorHead (l : Launch) (D : va_G) (E : cE) (T : cT) (κ : tK) (L : List Nat) (f : pF) (sz : Nat) (h n0 : Nat) (k0 : κ h = (13, n0)) (x0 : n0 ≤ 12288) (a1 : Int) (l_a1 : (-2147483648) ≤ a1) (u_a1 : a1 ≤ 2147483647) (a2 : Int) (l_a2 : (-2147483648) ≤ a2) (u_a2 : a2 ≤ 2147483647) (hw : tW E T κ L f) : Met l y_By_putErrorHead (k_By_putErrorHead :: lw_tg) (kRm 4 129 0 0) (va_Pc [.ref h, .int (iI a1), .int (iI a2)] (kPre D E T L f sz)) (va_Qv (nPv E T [1, 13] κ L f (fun (g : pF) => True)) (cPost D E (pA L sz)) (pA L sz)) 0 0 (pA L sz) := by
  refine k_enter (own := R_By) (by decide) rfl (Nat.le_of_ble_eq_true rfl) (fun p e s m below meth c ls AV QQ H locs hQQ X Y hA hin hr hlk hml hl KS KR => ?_)
  have hl : lv_has ls 3 [(0, .ref h), (1, .int (iI a1)), (2, .int (iI a2))] := hl
  have S : tS E T (tFr κ L [1, 13] []) κ L f κ L f := tS_rf hw
  refine lv_aload_n X.1 X.2.1 d_By_putErrorHead_0 rfl (lv_at hl 0 rfl) ?_
  refine lv_iconst (v := iI 0) X.1 X.2.1 d_By_putErrorHead_1 (by decide) ?_
  refine lv_ldc2 (v := (5)) X.1 X.2.1 X.2.2.2.1 (X.2.2.1 _ cl_By_108) d_By_putErrorHead_2 ?_
  refine t_nv (t_runV (As := [.int (iI 0), .long ((5))]) (rest := []) (n := 2) X Y S k0 hml hl.1 (c_By_putNumber l D E T κ L f H.size h n0 k0 (by omega) 0 (by omega) (by omega) ((5)) S.1) (ok_k X Y hA KS KR) rfl kl_By_By_putNumber ks_By_putNumber kx_By_putNumber ki_By_putNumber ini_By ⟨rfl, rfl⟩ hd_By_putNumber ⟨Nat.le_of_ble_eq_true rfl, Nat.le_of_ble_eq_true rfl⟩ rfl (Nat.le_of_ble_eq_true rfl) d_By_putErrorHead_5 ⟨Nat.le_of_ble_eq_true rfl, Nat.le_of_ble_eq_true rfl⟩) X Y hA S (by decide) (fun f1 H locs Y S s1 p1 => ?_)
  refine lv_aload_n X.1 X.2.1 d_By_putErrorHead_8 rfl (lv_at hl 0 rfl) ?_
  refine lv_iconst (v := iI 1) X.1 X.2.1 d_By_putErrorHead_9 (by decide) ?_
  refine lv_ldc2 (v := (30)) X.1 X.2.1 X.2.2.2.1 (X.2.2.1 _ cl_By_110) d_By_putErrorHead_10 ?_
  refine t_nv (t_runV (As := [.int (iI 1), .long ((30))]) (rest := []) (n := 2) X Y S k0 hml hl.1 (c_By_putNumber l D E T κ L f1 H.size h n0 k0 (by omega) 1 (by omega) (by omega) ((30)) S.1) (ok_k X Y hA KS KR) rfl kl_By_By_putNumber ks_By_putNumber kx_By_putNumber ki_By_putNumber ini_By ⟨rfl, rfl⟩ hd_By_putNumber ⟨Nat.le_of_ble_eq_true rfl, Nat.le_of_ble_eq_true rfl⟩ rfl (Nat.le_of_ble_eq_true rfl) d_By_putErrorHead_13 ⟨Nat.le_of_ble_eq_true rfl, Nat.le_of_ble_eq_true rfl⟩) X Y hA S (by decide) (fun f2 H locs Y S s2 p2 => ?_)
  refine lv_aload_n X.1 X.2.1 d_By_putErrorHead_16 rfl (lv_at hl 0 rfl) ?_
  refine lv_iconst (v := iI 4) X.1 X.2.1 d_By_putErrorHead_17 (by decide) ?_
  refine lv_iload_n X.1 X.2.1 d_By_putErrorHead_18 rfl (lv_at hl 1 rfl) ?_
  refine t_nv (t_runV (As := [.int (iI 4), .int (iI a1)]) (rest := []) (n := 2) X Y S k0 hml hl.1 (c_By_putTime l D E T κ L f2 H.size h n0 k0 (by omega) 4 (by omega) (by omega) a1 (by omega) (by omega) S.1) (ok_k X Y hA KS KR) rfl kl_By_By_putTime ks_By_putTime kx_By_putTime ki_By_putTime ini_By ⟨rfl, rfl⟩ hd_By_putTime ⟨Nat.le_of_ble_eq_true rfl, Nat.le_of_ble_eq_true rfl⟩ rfl (Nat.le_of_ble_eq_true rfl) d_By_putErrorHead_19 ⟨Nat.le_of_ble_eq_true rfl, Nat.le_of_ble_eq_true rfl⟩) X Y hA S (by decide) (fun f3 H locs Y S s3 p3 => ?_)
  refine lv_aload_n X.1 X.2.1 d_By_putErrorHead_22 rfl (lv_at hl 0 rfl) ?_
  refine lv_iconst (v := iI 5) X.1 X.2.1 d_By_putErrorHead_23 (by decide) ?_
  refine lv_lconst (v := 0) X.1 X.2.1 d_By_putErrorHead_24 rfl ?_
  refine t_nv (t_runV (As := [.int (iI 5), .long 0]) (rest := []) (n := 2) X Y S k0 hml hl.1 (c_By_putNumber l D E T κ L f3 H.size h n0 k0 (by omega) 5 (by omega) (by omega) 0 S.1) (ok_k X Y hA KS KR) rfl kl_By_By_putNumber ks_By_putNumber kx_By_putNumber ki_By_putNumber ini_By ⟨rfl, rfl⟩ hd_By_putNumber ⟨Nat.le_of_ble_eq_true rfl, Nat.le_of_ble_eq_true rfl⟩ rfl (Nat.le_of_ble_eq_true rfl) d_By_putErrorHead_25 ⟨Nat.le_of_ble_eq_true rfl, Nat.le_of_ble_eq_true rfl⟩) X Y hA S (by decide) (fun f4 H locs Y S s4 p4 => ?_)
  refine lv_aload_n X.1 X.2.1 d_By_putErrorHead_28 rfl (lv_at hl 0 rfl) ?_
  refine lv_bipush (v := iI 6) X.1 X.2.1 d_By_putErrorHead_29 (by decide) ?_
  refine lv_iload_n X.1 X.2.1 d_By_putErrorHead_31 rfl (lv_at hl 2 rfl) ?_
  refine lv_i2l X.1 X.2.1 d_By_putErrorHead_32 rfl ?_
  refine t_anyl (fun v5 => ?_)
  refine t_nv (t_runV (As := [.int (iI 6), .long v5]) (rest := []) (n := 2) X Y S k0 hml hl.1 (c_By_putNumber l D E T κ L f4 H.size h n0 k0 (by omega) 6 (by omega) (by omega) v5 S.1) (ok_k X Y hA KS KR) rfl kl_By_By_putNumber ks_By_putNumber kx_By_putNumber ki_By_putNumber ini_By ⟨rfl, rfl⟩ hd_By_putNumber ⟨Nat.le_of_ble_eq_true rfl, Nat.le_of_ble_eq_true rfl⟩ rfl (Nat.le_of_ble_eq_true rfl) d_By_putErrorHead_33 ⟨Nat.le_of_ble_eq_true rfl, Nat.le_of_ble_eq_true rfl⟩) X Y hA S (by decide) (fun f6 H locs Y S s6 p6 => ?_)
  exact c_retv hQQ X Y hr hlk ⟨rfl, S, trivial⟩ d_By_putErrorHead_36
set_option maxHeartbeats 4000000 in
set_option maxRecDepth 100000 in
theorem c_By_putName (l : Launch) (D : va_G) (E : cE) (T : cT) (κ : tK) (L : List Nat) (f : pF) (sz : Nat) (h n0 : Nat) (k0 : κ h = (13, n0)) (x0 : n0 ≤ 12288) (a1 : Int) (l_a1 : 0 ≤ a1) (u_a1 : a1 ≤ 64) (a2 : Int) (l_a2 : (-2147483648) ≤ a2) (u_a2 : a2 ≤ 2147483647) (a3 n3 : Nat) (k3 : κ a3 = (13, n3)) (x3 : n3 ≤ 12288) (hw : tW E T κ L f) : Met l y_By_putName (k_By_putName :: lw_tg) (kRm 4 129 0 0) (va_Pc [.ref h, .int (iI a1), .int (iI a2), .ref a3] (kPre D E T L f sz)) (va_Qv (nPv E T [1, 13] κ L f (fun (g : pF) => True)) (cPost D E (pA L sz)) (pA L sz)) 0 0 (pA L sz) := by
  refine k_enter (own := R_By) (by decide) rfl (Nat.le_of_ble_eq_true rfl) (fun p e s m below meth c ls AV QQ H locs hQQ X Y hA hin hr hlk hml hl KS KR => ?_)
  have hl : lv_has ls 7 [(0, .ref h), (1, .int (iI a1)), (2, .int (iI a2)), (3, .ref a3)] := hl
  have S : tS E T (tFr κ L [1, 13] []) κ L f κ L f := tS_rf hw
  refine lv_aload_n X.1 X.2.1 d_By_putName_0 rfl (lv_at hl 0 rfl) ?_
  refine lv_iload_n X.1 X.2.1 d_By_putName_1 rfl (lv_at hl 1 rfl) ?_
  refine t_ni (t_runV (As := [.int (iI a1)]) (rest := []) (n := 1) X Y S k0 hml hl.1 (c_By_openField l D E T κ L f H.size h n0 k0 (by omega) a1 (by omega) (by omega) S.1) (ok_k X Y hA KS KR) rfl kl_By_By_openField ks_By_openField kx_By_openField ki_By_openField ini_By ⟨rfl, rfl⟩ hd_By_openField ⟨Nat.le_of_ble_eq_true rfl, Nat.le_of_ble_eq_true rfl⟩ rfl (Nat.le_of_ble_eq_true rfl) d_By_putName_2 ⟨Nat.le_of_ble_eq_true rfl, Nat.le_of_ble_eq_true rfl⟩) X Y hA S (by decide) (fun z1 f1 H locs Y S s1 p1 => ?_)
  obtain ⟨l1, u1⟩ := p1
  refine lv_istore (lv' := [(4, .int (iI z1)), (0, .ref h), (1, .int (iI a1)), (2, .int (iI a2)), (3, .ref a3)]) X.1 X.2.1 d_By_putName_5 hl (by decide) rfl (fun ls hl => ?_)
  refine lv_aload_n X.1 X.2.1 d_By_putName_7 rfl (lv_at hl 1 rfl) ?_
  refine lv_bipush (v := iI 48) X.1 X.2.1 d_By_putName_8 (by decide) ?_
  refine t_ni (t_runV (As := [.int (iI 48)]) (rest := []) (n := 1) X Y S k0 hml hl.1 (c_By_open l D E T κ L f1 H.size h n0 k0 (by omega) 48 (by omega) (by omega) S.1) (ok_k X Y hA KS KR) rfl kl_By_By_open ks_By_open kx_By_open ki_By_open ini_By ⟨rfl, rfl⟩ hd_By_open ⟨Nat.le_of_ble_eq_true rfl, Nat.le_of_ble_eq_true rfl⟩ rfl (Nat.le_of_ble_eq_true rfl) d_By_putName_10 ⟨Nat.le_of_ble_eq_true rfl, Nat.le_of_ble_eq_true rfl⟩) X Y hA S (by decide) (fun z2 f2 H locs Y S s2 p2 => ?_)
  obtain ⟨l2, u2⟩ := p2
  refine lv_istore (lv' := [(5, .int (iI z2)), (4, .int (iI z1)), (0, .ref h), (1, .int (iI a1)), (2, .int (iI a2)), (3, .ref a3)]) X.1 X.2.1 d_By_putName_13 hl (by decide) rfl (fun ls hl => ?_)
  refine lv_aload_n X.1 X.2.1 d_By_putName_15 rfl (lv_at hl 2 rfl) ?_
  refine lv_iconst (v := iI 0) X.1 X.2.1 d_By_putName_16 (by decide) ?_
  refine lv_iload_n X.1 X.2.1 d_By_putName_17 rfl (lv_at hl 4 rfl) ?_
  refine lv_i2l X.1 X.2.1 d_By_putName_18 rfl ?_
  refine t_anyl (fun v3 => ?_)
  refine t_nv (t_runV (As := [.int (iI 0), .long v3]) (rest := []) (n := 2) X Y S k0 hml hl.1 (c_By_putNumber l D E T κ L f2 H.size h n0 k0 (by omega) 0 (by omega) (by omega) v3 S.1) (ok_k X Y hA KS KR) rfl kl_By_By_putNumber ks_By_putNumber kx_By_putNumber ki_By_putNumber ini_By ⟨rfl, rfl⟩ hd_By_putNumber ⟨Nat.le_of_ble_eq_true rfl, Nat.le_of_ble_eq_true rfl⟩ rfl (Nat.le_of_ble_eq_true rfl) d_By_putName_19 ⟨Nat.le_of_ble_eq_true rfl, Nat.le_of_ble_eq_true rfl⟩) X Y hA S (by decide) (fun f4 H locs Y S s4 p4 => ?_)
  refine lv_aload_n X.1 X.2.1 d_By_putName_22 rfl (lv_at hl 2 rfl) ?_
  refine lv_iconst (v := iI 1) X.1 X.2.1 d_By_putName_23 (by decide) ?_
  refine t_ni (t_runV (As := [.int (iI 1)]) (rest := []) (n := 1) X Y S k0 hml hl.1 (c_By_openField l D E T κ L f4 H.size h n0 k0 (by omega) 1 (by omega) (by omega) S.1) (ok_k X Y hA KS KR) rfl kl_By_By_openField ks_By_openField kx_By_openField ki_By_openField ini_By ⟨rfl, rfl⟩ hd_By_openField ⟨Nat.le_of_ble_eq_true rfl, Nat.le_of_ble_eq_true rfl⟩ rfl (Nat.le_of_ble_eq_true rfl) d_By_putName_24 ⟨Nat.le_of_ble_eq_true rfl, Nat.le_of_ble_eq_true rfl⟩) X Y hA S (by decide) (fun z5 f5 H locs Y S s5 p5 => ?_)
  obtain ⟨l5, u5⟩ := p5
  refine lv_istore (lv' := [(6, .int (iI z5)), (5, .int (iI z2)), (4, .int (iI z1)), (0, .ref h), (1, .int (iI a1)), (2, .int (iI a2)), (3, .ref a3)]) X.1 X.2.1 d_By_putName_27 hl (by decide) rfl (fun ls hl => ?_)
  refine lv_aload_n X.1 X.2.1 d_By_putName_29 rfl (lv_at hl 3 rfl) ?_
  refine lv_bipush (v := iI 48) X.1 X.2.1 d_By_putName_30 (by decide) ?_
  refine lv_aload_n X.1 X.2.1 d_By_putName_32 rfl (lv_at hl 6 rfl) ?_
  refine t_getrow (ci := 3) X Y S k3 rfl i_By 0 (by decide) rfl lk_By_15 (fun _ h9 => h9) d_By_putName_33 (fun b6 e6 k6 => ?_)
  refine lv_iconst (v := iI 0) X.1 X.2.1 d_By_putName_36 (by decide) ?_
  refine lv_aload_n X.1 X.2.1 d_By_putName_37 rfl (lv_at hl 6 rfl) ?_
  refine t_gets (ci := 3) X Y S k3 rfl i_By 1 (by decide) rfl lk_By_21 (fun _ h9 => h9) d_By_putName_38 (fun z7 e7 l7 u7 => ?_)
  refine t_nv (t_runV (As := [.int (iI 48), .ref b6, .int (iI 0), .int (iI z7)]) (rest := []) (n := 4) X Y S k0 hml hl.1 (c_By_putValue l D E T κ L f5 H.size h n0 k0 (by omega) 48 (by omega) (by omega) b6 n3 (Or.inl k6) (by omega) 0 (by omega) (by omega) z7 (by omega) (by omega) S.1) (ok_k X Y hA KS KR) rfl kl_By_By_putValue ks_By_putValue kx_By_putValue ki_By_putValue ini_By ⟨rfl, rfl⟩ hd_By_putValue ⟨Nat.le_of_ble_eq_true rfl, Nat.le_of_ble_eq_true rfl⟩ rfl (Nat.le_of_ble_eq_true rfl) d_By_putName_41 ⟨Nat.le_of_ble_eq_true rfl, Nat.le_of_ble_eq_true rfl⟩) X Y hA S (by decide) (fun f8 H locs Y S s8 p8 => ?_)
  refine lv_aload_n X.1 X.2.1 d_By_putName_44 rfl (lv_at hl 3 rfl) ?_
  refine lv_iload X.1 X.2.1 d_By_putName_45 (lv_at hl 0 rfl) ?_
  refine t_nv (t_runV (As := [.int (iI z5)]) (rest := []) (n := 1) X Y S k0 hml hl.1 (c_By_close l D E T κ L f8 H.size h n0 k0 (by omega) z5 (by omega) (by omega) S.1) (ok_k X Y hA KS KR) rfl kl_By_By_close ks_By_close kx_By_close ki_By_close ini_By ⟨rfl, rfl⟩ hd_By_close ⟨Nat.le_of_ble_eq_true rfl, Nat.le_of_ble_eq_true rfl⟩ rfl (Nat.le_of_ble_eq_true rfl) d_By_putName_47 ⟨Nat.le_of_ble_eq_true rfl, Nat.le_of_ble_eq_true rfl⟩) X Y hA S (by decide) (fun f9 H locs Y S s9 p9 => ?_)
  refine lv_aload_n X.1 X.2.1 d_By_putName_50 rfl (lv_at hl 3 rfl) ?_
  refine lv_iload X.1 X.2.1 d_By_putName_51 (lv_at hl 1 rfl) ?_
  refine t_nv (t_runV (As := [.int (iI z2)]) (rest := []) (n := 1) X Y S k0 hml hl.1 (c_By_close l D E T κ L f9 H.size h n0 k0 (by omega) z2 (by omega) (by omega) S.1) (ok_k X Y hA KS KR) rfl kl_By_By_close ks_By_close kx_By_close ki_By_close ini_By ⟨rfl, rfl⟩ hd_By_close ⟨Nat.le_of_ble_eq_true rfl, Nat.le_of_ble_eq_true rfl⟩ rfl (Nat.le_of_ble_eq_true rfl) d_By_putName_53 ⟨Nat.le_of_ble_eq_true rfl, Nat.le_of_ble_eq_true rfl⟩) X Y hA S (by decide) (fun f10 H locs Y S s10 p10 => ?_)
  refine lv_aload_n X.1 X.2.1 d_By_putName_56 rfl (lv_at hl 3 rfl) ?_
  refine lv_iload X.1 X.2.1 d_By_putName_57 (lv_at hl 2 rfl) ?_
  refine t_nv (t_runV (As := [.int (iI z1)]) (rest := []) (n := 1) X Y S k0 hml hl.1 (c_By_close l D E T κ L f10 H.size h n0 k0 (by omega) z1 (by omega) (by omega) S.1) (ok_k X Y hA KS KR) rfl kl_By_By_close ks_By_close kx_By_close ki_By_close ini_By ⟨rfl, rfl⟩ hd_By_close ⟨Nat.le_of_ble_eq_true rfl, Nat.le_of_ble_eq_true rfl⟩ rfl (Nat.le_of_ble_eq_true rfl) d_By_putName_59 ⟨Nat.le_of_ble_eq_true rfl, Nat.le_of_ble_eq_true rfl⟩) X Y hA S (by decide) (fun f11 H locs Y S s11 p11 => ?_)
  exact c_retv hQQ X Y hr hlk ⟨rfl, S, trivial⟩ d_By_putName_62
set_option maxHeartbeats 4000000 in
set_option maxRecDepth 100000 in
theorem c_By_isText (l : Launch) (D : va_G) (E : cE) (T : cT) (κ : tK) (L : List Nat) (f : pF) (sz : Nat) (h n0 : Nat) (k0 : κ h = (13, n0)) (x0 : n0 ≤ 12288) (a1 : Int) (l_a1 : (-1) ≤ a1) (u_a1 : a1 ≤ 20200) (a2 : Int) (l_a2 : (-1) ≤ a2) (u_a2 : a2 ≤ 20200) (a3 : Nat) (k3 : a3 < nY) (hw : tW E T κ L f) : Met l y_By_isText (k_By_isText :: lw_tg) (kRm 4 90 0 0) (va_Pc [.ref h, .int (iI a1), .int (iI a2), .ref (T.2.1 a3)] (kPre D E T L f sz)) (va_Qi (uPi L f (fun (z : Int) => 0 ≤ z ∧ z ≤ 1)) (cPost D E (pA L sz)) (pA L sz)) 0 0 (pA L sz) := by
  refine k_enter (own := R_By) (by decide) rfl (Nat.le_of_ble_eq_true rfl) (fun p e s m below meth c ls AV QQ H locs hQQ X Y hA hin hr hlk hml hl KS KR => ?_)
  have hl : lv_has ls 5 [(0, .ref h), (1, .int (iI a1)), (2, .int (iI a2)), (3, .ref ((T.2.1 a3)))] := hl
  have S : tS E T (tFr κ L [] []) κ L f κ L f := tS_rf hw
  refine lv_iload_n X.1 X.2.1 d_By_isText_0 rfl (lv_at hl 2 rfl) ?_
  refine lv_iload_n X.1 X.2.1 d_By_isText_1 rfl (lv_at hl 1 rfl) ?_
  refine z_isub X.1 X.2.1 d_By_isText_2 ?_
  refine lv_aload_n X.1 X.2.1 d_By_isText_3 rfl (lv_at hl 3 rfl) ?_
  refine t_length (i := a3) X Y KS k3 hml hl.1 kl_By_length ⟨Nat.le_of_ble_eq_true rfl, Nat.le_of_ble_eq_true rfl⟩ (Nat.le_of_ble_eq_true rfl) d_By_isText_4 ⟨Nat.le_of_ble_eq_true rfl, Nat.le_of_ble_eq_true rfl⟩ (fun H locs Y => ?_)
  have y1 := yn_40 a3 k3
  refine z_icmp_eq (tgt := 12) X.1 X.2.1 d_By_isText_7 (by decide) ⟨by omega, by omega⟩ ⟨by omega, by omega⟩ (fun h2 => ?_) (fun h2 => ?_)
  · refine lv_iconst (v := iI 0) X.1 X.2.1 d_By_isText_12 (by decide) ?_
    have J4 : ∀ (n6 : Nat) (z3 : Int) (H : Heap) (locs : List Loc) (ls : Array Slot), (64 - z3).toNat = n6 → (0 ≤ z3) → (z3 ≤ 64) → pH D cCl (pA L sz) s.heap L f H locs → tS E T (tFr κ L [] []) κ L f κ L f → lv_has ls 5 [(0, .ref h), (1, .int (iI a1)), (3, .ref ((T.2.1 a3))), (4, .int (iI z3))] → W p l e (kRm 4 90 0 0) s m AV below meth c H locs 0 0 QQ (F0 m 15 ls []) := by
      intro n6
      induction n6 using Nat.strongRecOn with
      | ind n6 ih5 =>
        intro z3 H locs ls hm7 l3 u3 Y S hl
        refine lv_iload X.1 X.2.1 d_By_isText_15 (lv_at hl 3 rfl) ?_
        refine lv_aload_n X.1 X.2.1 d_By_isText_17 rfl (lv_at hl 2 rfl) ?_
        refine t_length (i := a3) X Y KS k3 hml hl.1 kl_By_length ⟨Nat.le_of_ble_eq_true rfl, Nat.le_of_ble_eq_true rfl⟩ (Nat.le_of_ble_eq_true rfl) d_By_isText_18 ⟨Nat.le_of_ble_eq_true rfl, Nat.le_of_ble_eq_true rfl⟩ (fun H locs Y => ?_)
        have y8 := yn_40 a3 k3
        refine z_icmp_ge (tgt := 49) X.1 X.2.1 d_By_isText_21 (by decide) ⟨by omega, by omega⟩ ⟨by omega, by omega⟩ (fun h9 => ?_) (fun h9 => ?_)
        · refine lv_iconst (v := iI 1) X.1 X.2.1 d_By_isText_49 (by decide) ?_
          exact c_retz hQQ X Y hr hlk (iI_bool (by omega) (by omega)).1 ⟨rfl, rfl, 1, rfl, ⟨by omega, by omega⟩⟩ d_By_isText_50
        · refine lv_aload_n X.1 X.2.1 d_By_isText_24 rfl (lv_at hl 0 rfl) ?_
          refine lv_iload_n X.1 X.2.1 d_By_isText_25 rfl (lv_at hl 1 rfl) ?_
          refine lv_iload X.1 X.2.1 d_By_isText_26 (lv_at hl 3 rfl) ?_
          refine z_iadd X.1 X.2.1 d_By_isText_28 ?_
          refine t_ui (t_runV (As := [.int (iI (a1 + z3))]) (rest := []) (n := 1) X Y S k0 hml hl.1 (c_By_at l D E T κ L f H.size h n0 k0 (by omega) (a1 + z3) (by omega) (by omega) S.1) (ok_k X Y hA KS KR) rfl kl_By_By_at ks_By_at kx_By_at ki_By_at ini_By ⟨rfl, rfl⟩ hd_By_at ⟨Nat.le_of_ble_eq_true rfl, Nat.le_of_ble_eq_true rfl⟩ rfl (Nat.le_of_ble_eq_true rfl) d_By_isText_29 ⟨Nat.le_of_ble_eq_true rfl, Nat.le_of_ble_eq_true rfl⟩) X Y hA (fun z10 H locs Y p10 => ?_)
          obtain ⟨l10, u10⟩ := p10
          refine lv_aload_n X.1 X.2.1 d_By_isText_32 rfl (lv_at hl 2 rfl) ?_
          refine lv_iload X.1 X.2.1 d_By_isText_33 (lv_at hl 3 rfl) ?_
          refine t_charAt (i := a3) X Y KS k3 (by omega) (by omega) hml hl.1 kl_By_charAt ⟨Nat.le_of_ble_eq_true rfl, Nat.le_of_ble_eq_true rfl⟩ (Nat.le_of_ble_eq_true rfl) d_By_isText_35 ⟨Nat.le_of_ble_eq_true rfl, Nat.le_of_ble_eq_true rfl⟩ (fun H locs z11 Y e11 l11 u11 => ?_)
          refine z_icmp_eq (tgt := 43) X.1 X.2.1 d_By_isText_38 (by decide) ⟨by omega, by omega⟩ ⟨by omega, by omega⟩ (fun h12 => ?_) (fun h12 => ?_)
          · refine lv_iinc (v := iI (z3 + 1)) (lv' := [(4, .int (iI (z3 + 1))), (0, .ref h), (1, .int (iI a1)), (3, .ref ((T.2.1 a3)))]) X.1 X.2.1 d_By_isText_43 hl (k := 3) rfl ((iI_add _ _).trans (congrArg iI (by omega))) (by decide) rfl (fun ls hl => ?_)
            refine lv_goto (tgt := 15) X.1 X.2.1 d_By_isText_46 (by decide) ?_
            exact ih5 ((64 - (z3 + 1)).toNat) (by omega) (z3 + 1) _ _ _ rfl (by omega) (by omega) Y S (lv_sub hl [1, 2, 3, 0] rfl)
          · refine lv_iconst (v := iI 0) X.1 X.2.1 d_By_isText_41 (by decide) ?_
            exact c_retz hQQ X Y hr hlk (iI_bool (by omega) (by omega)).1 ⟨rfl, rfl, 0, rfl, ⟨by omega, by omega⟩⟩ d_By_isText_42
    refine lv_istore (lv' := [(4, .int (iI 0)), (0, .ref h), (1, .int (iI a1)), (2, .int (iI a2)), (3, .ref ((T.2.1 a3)))]) X.1 X.2.1 d_By_isText_13 hl (by decide) rfl (fun ls hl => ?_)
    exact J4 _ 0 _ _ _ rfl (by omega) (by omega) Y S (lv_sub hl [1, 2, 4, 0] rfl)
  · refine lv_iconst (v := iI 0) X.1 X.2.1 d_By_isText_10 (by decide) ?_
    exact c_retz hQQ X Y hr hlk (iI_bool (by omega) (by omega)).1 ⟨rfl, rfl, 0, rfl, ⟨by omega, by omega⟩⟩ d_By_isText_11
set_option maxHeartbeats 4000000 in
set_option maxRecDepth 100000 in
theorem c_By_isPrintable (l : Launch) (D : va_G) (E : cE) (T : cT) (κ : tK) (L : List Nat) (f : pF) (sz : Nat) (h n0 : Nat) (k0 : κ h = (13, n0)) (x0 : n0 ≤ 12288) (a1 : Int) (l_a1 : (-1) ≤ a1) (u_a1 : a1 ≤ 20200) (a2 : Int) (l_a2 : (-1) ≤ a2) (u_a2 : a2 ≤ 20200) (hw : tW E T κ L f) : Met l y_By_isPrintable (k_By_isPrintable :: lw_tg) (kRm 2 81 0 0) (va_Pc [.ref h, .int (iI a1), .int (iI a2)] (kPre D E T L f sz)) (va_Qi (uPi L f (fun (z : Int) => 0 ≤ z ∧ z ≤ 1)) (cPost D E (pA L sz)) (pA L sz)) 0 0 (pA L sz) := by
  refine k_enter (own := R_By) (by decide) rfl (Nat.le_of_ble_eq_true rfl) (fun p e s m below meth c ls AV QQ H locs hQQ X Y hA hin hr hlk hml hl KS KR => ?_)
  have hl : lv_has ls 5 [(0, .ref h), (1, .int (iI a1)), (2, .int (iI a2))] := hl
  have S : tS E T (tFr κ L [] []) κ L f κ L f := tS_rf hw
  refine lv_iload_n X.1 X.2.1 d_By_isPrintable_0 rfl (lv_at hl 1 rfl) ?_
  have J2 : ∀ (n4 : Nat) (z1 : Int) (H : Heap) (locs : List Loc) (ls : Array Slot), (20200 - z1).toNat = n4 → ((-1) ≤ z1) → (z1 ≤ 20200) → pH D cCl (pA L sz) s.heap L f H locs → tS E T (tFr κ L [] []) κ L f κ L f → lv_has ls 5 [(0, .ref h), (2, .int (iI a2)), (3, .int (iI z1))] → W p l e (kRm 2 81 0 0) s m AV below meth c H locs 0 0 QQ (F0 m 2 ls []) := by
    intro n4
    induction n4 using Nat.strongRecOn with
    | ind n4 ih3 =>
      intro z1 H locs ls hm5 l1 u1 Y S hl
      refine lv_iload_n X.1 X.2.1 d_By_isPrintable_2 rfl (lv_at hl 2 rfl) ?_
      refine lv_iload_n X.1 X.2.1 d_By_isPrintable_3 rfl (lv_at hl 1 rfl) ?_
      refine z_icmp_ge (tgt := 36) X.1 X.2.1 d_By_isPrintable_4 (by decide) ⟨by omega, by omega⟩ ⟨by omega, by omega⟩ (fun h6 => ?_) (fun h6 => ?_)
      · refine lv_iconst (v := iI 1) X.1 X.2.1 d_By_isPrintable_36 (by decide) ?_
        exact c_retz hQQ X Y hr hlk (iI_bool (by omega) (by omega)).1 ⟨rfl, rfl, 1, rfl, ⟨by omega, by omega⟩⟩ d_By_isPrintable_37
      · refine lv_aload_n X.1 X.2.1 d_By_isPrintable_7 rfl (lv_at hl 0 rfl) ?_
        refine lv_iload_n X.1 X.2.1 d_By_isPrintable_8 rfl (lv_at hl 2 rfl) ?_
        refine t_ui (t_runV (As := [.int (iI z1)]) (rest := []) (n := 1) X Y S k0 hml hl.1 (c_By_at l D E T κ L f H.size h n0 k0 (by omega) z1 (by omega) (by omega) S.1) (ok_k X Y hA KS KR) rfl kl_By_By_at ks_By_at kx_By_at ki_By_at ini_By ⟨rfl, rfl⟩ hd_By_at ⟨Nat.le_of_ble_eq_true rfl, Nat.le_of_ble_eq_true rfl⟩ rfl (Nat.le_of_ble_eq_true rfl) d_By_isPrintable_9 ⟨Nat.le_of_ble_eq_true rfl, Nat.le_of_ble_eq_true rfl⟩) X Y hA (fun z7 H locs Y p7 => ?_)
        obtain ⟨l7, u7⟩ := p7
        refine lv_istore (lv' := [(4, .int (iI z7)), (0, .ref h), (2, .int (iI a2)), (3, .int (iI z1))]) X.1 X.2.1 d_By_isPrintable_12 hl (by decide) rfl (fun ls hl => ?_)
        refine lv_iload X.1 X.2.1 d_By_isPrintable_14 (lv_at hl 0 rfl) ?_
        refine lv_bipush (v := iI 32) X.1 X.2.1 d_By_isPrintable_16 (by decide) ?_
        refine z_icmp_lt (tgt := 28) X.1 X.2.1 d_By_isPrintable_18 (by decide) ⟨by omega, by omega⟩ ⟨by omega, by omega⟩ (fun h8 => ?_) (fun h8 => ?_)
        · refine lv_iconst (v := iI 0) X.1 X.2.1 d_By_isPrintable_28 (by decide) ?_
          exact c_retz hQQ X Y hr hlk (iI_bool (by omega) (by omega)).1 ⟨rfl, rfl, 0, rfl, ⟨by omega, by omega⟩⟩ d_By_isPrintable_29
        · refine lv_iload X.1 X.2.1 d_By_isPrintable_21 (lv_at hl 0 rfl) ?_
          refine lv_bipush (v := iI 126) X.1 X.2.1 d_By_isPrintable_23 (by decide) ?_
          refine z_icmp_le (tgt := 30) X.1 X.2.1 d_By_isPrintable_25 (by decide) ⟨by omega, by omega⟩ ⟨by omega, by omega⟩ (fun h9 => ?_) (fun h9 => ?_)
          · refine lv_iinc (v := iI (z1 + 1)) (lv' := [(3, .int (iI (z1 + 1))), (4, .int (iI z7)), (0, .ref h), (2, .int (iI a2))]) X.1 X.2.1 d_By_isPrintable_30 hl (k := 3) rfl ((iI_add _ _).trans (congrArg iI (by omega))) (by decide) rfl (fun ls hl => ?_)
            refine lv_goto (tgt := 2) X.1 X.2.1 d_By_isPrintable_33 (by decide) ?_
            exact ih3 ((20200 - (z1 + 1)).toNat) (by omega) (z1 + 1) _ _ _ rfl (by omega) (by omega) Y S (lv_sub hl [2, 3, 0] rfl)
          · refine lv_iconst (v := iI 0) X.1 X.2.1 d_By_isPrintable_28 (by decide) ?_
            exact c_retz hQQ X Y hr hlk (iI_bool (by omega) (by omega)).1 ⟨rfl, rfl, 0, rfl, ⟨by omega, by omega⟩⟩ d_By_isPrintable_29
  refine lv_istore_n (lv' := [(3, .int (iI a1)), (0, .ref h), (1, .int (iI a1)), (2, .int (iI a2))]) X.1 X.2.1 d_By_isPrintable_1 rfl hl (by decide) rfl (fun ls hl => ?_)
  exact J2 _ a1 _ _ _ rfl (by omega) (by omega) Y S (lv_sub hl [1, 3, 0] rfl)
set_option maxHeartbeats 4000000 in
set_option maxRecDepth 100000 in
theorem c_By_sameAs (l : Launch) (D : va_G) (E : cE) (T : cT) (κ : tK) (L : List Nat) (f : pF) (sz : Nat) (h n0 : Nat) (k0 : κ h = (13, n0)) (x0 : n0 ≤ 12288) (a1 : Int) (l_a1 : (-1) ≤ a1) (u_a1 : a1 ≤ 20200) (a2 : Int) (l_a2 : (-1) ≤ a2) (u_a2 : a2 ≤ 20200) (a3 n3 : Nat) (k3 : κ a3 = (13, n3)) (x3 : n3 ≤ 12288) (a4 : Int) (l_a4 : (-1) ≤ a4) (u_a4 : a4 ≤ 20200) (a5 : Int) (l_a5 : (-1) ≤ a5) (u_a5 : a5 ≤ 20200) (hw : tW E T κ L f) : Met l y_By_sameAs (k_By_sameAs :: lw_tg) (kRm 1 60 0 0) (va_Pc [.ref h, .int (iI a1), .int (iI a2), .ref a3, .int (iI a4), .int (iI a5)] (kPre D E T L f sz)) (va_Qi (uPi L f (fun (z : Int) => 0 ≤ z ∧ z ≤ 1)) (cPost D E (pA L sz)) (pA L sz)) 0 0 (pA L sz) := by
  refine k_enter (own := R_By) (by decide) rfl (Nat.le_of_ble_eq_true rfl) (fun p e s m below meth c ls AV QQ H locs hQQ X Y hA hin hr hlk hml hl KS KR => ?_)
  have hl : lv_has ls 7 [(0, .ref h), (1, .int (iI a1)), (2, .int (iI a2)), (3, .ref a3), (4, .int (iI a4)), (5, .int (iI a5))] := hl
  have S : tS E T (tFr κ L [] []) κ L f κ L f := tS_rf hw
  refine lv_iload_n X.1 X.2.1 d_By_sameAs_0 rfl (lv_at hl 1 rfl) ?_
  refine z_if_lt (tgt := 37) X.1 X.2.1 d_By_sameAs_1 (by decide) ⟨by omega, by omega⟩ (fun h1 => ?_) (fun h1 => ?_)
  · refine lv_iconst (v := iI 0) X.1 X.2.1 d_By_sameAs_37 (by decide) ?_
    exact c_retz hQQ X Y hr hlk (iI_bool (by omega) (by omega)).1 ⟨rfl, rfl, 0, rfl, ⟨by omega, by omega⟩⟩ d_By_sameAs_38
  · refine lv_iload X.1 X.2.1 d_By_sameAs_4 (lv_at hl 4 rfl) ?_
    refine z_if_lt (tgt := 37) X.1 X.2.1 d_By_sameAs_6 (by decide) ⟨by omega, by omega⟩ (fun h2 => ?_) (fun h2 => ?_)
    · refine lv_iconst (v := iI 0) X.1 X.2.1 d_By_sameAs_37 (by decide) ?_
      exact c_retz hQQ X Y hr hlk (iI_bool (by omega) (by omega)).1 ⟨rfl, rfl, 0, rfl, ⟨by omega, by omega⟩⟩ d_By_sameAs_38
    · refine lv_iload_n X.1 X.2.1 d_By_sameAs_9 rfl (lv_at hl 2 rfl) ?_
      refine lv_aload_n X.1 X.2.1 d_By_sameAs_10 rfl (lv_at hl 0 rfl) ?_
      refine t_gets (ci := 3) X Y S k0 rfl i_By 1 (by decide) rfl lk_By_21 (fun _ h9 => h9) d_By_sameAs_11 (fun z3 e3 l3 u3 => ?_)
      refine z_icmp_gt (tgt := 37) X.1 X.2.1 d_By_sameAs_14 (by decide) ⟨by omega, by omega⟩ ⟨by omega, by omega⟩ (fun h4 => ?_) (fun h4 => ?_)
      · refine lv_iconst (v := iI 0) X.1 X.2.1 d_By_sameAs_37 (by decide) ?_
        exact c_retz hQQ X Y hr hlk (iI_bool (by omega) (by omega)).1 ⟨rfl, rfl, 0, rfl, ⟨by omega, by omega⟩⟩ d_By_sameAs_38
      · refine lv_iload X.1 X.2.1 d_By_sameAs_17 (lv_at hl 5 rfl) ?_
        refine lv_aload_n X.1 X.2.1 d_By_sameAs_19 rfl (lv_at hl 3 rfl) ?_
        refine t_gets (ci := 3) X Y S k3 rfl i_By 1 (by decide) rfl lk_By_21 (fun _ h9 => h9) d_By_sameAs_20 (fun z5 e5 l5 u5 => ?_)
        refine z_icmp_gt (tgt := 37) X.1 X.2.1 d_By_sameAs_23 (by decide) ⟨by omega, by omega⟩ ⟨by omega, by omega⟩ (fun h6 => ?_) (fun h6 => ?_)
        · refine lv_iconst (v := iI 0) X.1 X.2.1 d_By_sameAs_37 (by decide) ?_
          exact c_retz hQQ X Y hr hlk (iI_bool (by omega) (by omega)).1 ⟨rfl, rfl, 0, rfl, ⟨by omega, by omega⟩⟩ d_By_sameAs_38
        · refine lv_iload_n X.1 X.2.1 d_By_sameAs_26 rfl (lv_at hl 2 rfl) ?_
          refine lv_iload_n X.1 X.2.1 d_By_sameAs_27 rfl (lv_at hl 1 rfl) ?_
          refine z_isub X.1 X.2.1 d_By_sameAs_28 ?_
          refine lv_iload X.1 X.2.1 d_By_sameAs_29 (lv_at hl 5 rfl) ?_
          refine lv_iload X.1 X.2.1 d_By_sameAs_31 (lv_at hl 4 rfl) ?_
          refine z_isub X.1 X.2.1 d_By_sameAs_33 ?_
          refine z_icmp_eq (tgt := 39) X.1 X.2.1 d_By_sameAs_34 (by decide) ⟨by omega, by omega⟩ ⟨by omega, by omega⟩ (fun h7 => ?_) (fun h7 => ?_)
          · refine lv_iconst (v := iI 0) X.1 X.2.1 d_By_sameAs_39 (by decide) ?_
            have J9 : ∀ (n11 : Nat) (z8 : Int) (H : Heap) (locs : List Loc) (ls : Array Slot), (12288 - z8).toNat = n11 → (0 ≤ z8) → (z8 ≤ 12288) → pH D cCl (pA L sz) s.heap L f H locs → tS E T (tFr κ L [] []) κ L f κ L f → lv_has ls 7 [(0, .ref h), (1, .int (iI a1)), (2, .int (iI a2)), (3, .ref a3), (4, .int (iI a4)), (6, .int (iI z8))] → W p l e (kRm 1 60 0 0) s m AV below meth c H locs 0 0 QQ (F0 m 42 ls []) := by
              intro n11
              induction n11 using Nat.strongRecOn with
              | ind n11 ih10 =>
                intro z8 H locs ls hm12 l8 u8 Y S hl
                refine lv_iload X.1 X.2.1 d_By_sameAs_42 (lv_at hl 5 rfl) ?_
                refine lv_iload_n X.1 X.2.1 d_By_sameAs_44 rfl (lv_at hl 2 rfl) ?_
                refine lv_iload_n X.1 X.2.1 d_By_sameAs_45 rfl (lv_at hl 1 rfl) ?_
                refine z_isub X.1 X.2.1 d_By_sameAs_46 ?_
                refine z_icmp_ge (tgt := 80) X.1 X.2.1 d_By_sameAs_47 (by decide) ⟨by omega, by omega⟩ ⟨by omega, by omega⟩ (fun h13 => ?_) (fun h13 => ?_)
                · refine lv_iconst (v := iI 1) X.1 X.2.1 d_By_sameAs_80 (by decide) ?_
                  exact c_retz hQQ X Y hr hlk (iI_bool (by omega) (by omega)).1 ⟨rfl, rfl, 1, rfl, ⟨by omega, by omega⟩⟩ d_By_sameAs_81
                · refine lv_aload_n X.1 X.2.1 d_By_sameAs_50 rfl (lv_at hl 0 rfl) ?_
                  refine t_getrow (ci := 3) X Y S k0 rfl i_By 0 (by decide) rfl lk_By_15 (fun _ h9 => h9) d_By_sameAs_51 (fun b14 e14 k14 => ?_)
                  refine lv_iload_n X.1 X.2.1 d_By_sameAs_54 rfl (lv_at hl 1 rfl) ?_
                  refine lv_iload X.1 X.2.1 d_By_sameAs_55 (lv_at hl 5 rfl) ?_
                  refine z_iadd X.1 X.2.1 d_By_sameAs_57 ?_
                  refine t_bald X Y S (Or.inl k14) (by omega) (by omega) (by omega) d_By_sameAs_58 (fun z15 l15 u15 => ?_)
                  refine lv_aload_n X.1 X.2.1 d_By_sameAs_59 rfl (lv_at hl 3 rfl) ?_
                  refine t_getrow (ci := 3) X Y S k3 rfl i_By 0 (by decide) rfl lk_By_15 (fun _ h9 => h9) d_By_sameAs_60 (fun b16 e16 k16 => ?_)
                  refine lv_iload X.1 X.2.1 d_By_sameAs_63 (lv_at hl 4 rfl) ?_
                  refine lv_iload X.1 X.2.1 d_By_sameAs_65 (lv_at hl 5 rfl) ?_
                  refine z_iadd X.1 X.2.1 d_By_sameAs_67 ?_
                  refine t_bald X Y S (Or.inl k16) (by omega) (by omega) (by omega) d_By_sameAs_68 (fun z17 l17 u17 => ?_)
                  refine z_icmp_eq (tgt := 74) X.1 X.2.1 d_By_sameAs_69 (by decide) ⟨by omega, by omega⟩ ⟨by omega, by omega⟩ (fun h18 => ?_) (fun h18 => ?_)
                  · refine lv_iinc (v := iI (z8 + 1)) (lv' := [(6, .int (iI (z8 + 1))), (0, .ref h), (1, .int (iI a1)), (2, .int (iI a2)), (3, .ref a3), (4, .int (iI a4))]) X.1 X.2.1 d_By_sameAs_74 hl (k := 5) rfl ((iI_add _ _).trans (congrArg iI (by omega))) (by decide) rfl (fun ls hl => ?_)
                    refine lv_goto (tgt := 42) X.1 X.2.1 d_By_sameAs_77 (by decide) ?_
                    exact ih10 ((12288 - (z8 + 1)).toNat) (by omega) (z8 + 1) _ _ _ rfl (by omega) (by omega) Y S (lv_sub hl [1, 2, 3, 4, 5, 0] rfl)
                  · refine lv_iconst (v := iI 0) X.1 X.2.1 d_By_sameAs_72 (by decide) ?_
                    exact c_retz hQQ X Y hr hlk (iI_bool (by omega) (by omega)).1 ⟨rfl, rfl, 0, rfl, ⟨by omega, by omega⟩⟩ d_By_sameAs_73
            refine lv_istore (lv' := [(6, .int (iI 0)), (0, .ref h), (1, .int (iI a1)), (2, .int (iI a2)), (3, .ref a3), (4, .int (iI a4)), (5, .int (iI a5))]) X.1 X.2.1 d_By_sameAs_40 hl (by decide) rfl (fun ls hl => ?_)
            exact J9 _ 0 _ _ _ rfl (by omega) (by omega) Y S (lv_sub hl [1, 2, 3, 4, 5, 0] rfl)
          · refine lv_iconst (v := iI 0) X.1 X.2.1 d_By_sameAs_37 (by decide) ?_
            exact c_retz hQQ X Y hr hlk (iI_bool (by omega) (by omega)).1 ⟨rfl, rfl, 0, rfl, ⟨by omega, by omega⟩⟩ d_By_sameAs_38
set_option maxHeartbeats 4000000 in
set_option maxRecDepth 100000 in
theorem c_By_field (l : Launch) (D : va_G) (E : cE) (T : cT) (κ : tK) (L : List Nat) (f : pF) (sz : Nat) (h n0 : Nat) (k0 : κ h = (13, n0)) (x0 : n0 ≤ 12288) (a1 : Int) (l_a1 : (-1) ≤ a1) (u_a1 : a1 ≤ 20200) (a2 : Int) (l_a2 : 0 ≤ a2) (u_a2 : a2 ≤ 16) (hw : tW E T κ L f) : Met l y_By_field (k_By_field :: lw_tg) (kRm 2 85 0 0) (va_Pc [.ref h, .int (iI a1), .int (iI a2)] (kPre D E T L f sz)) (va_Qi (uPi L f (fun (z : Int) => (-1) ≤ z ∧ z ≤ 12420)) (cPost D E (pA L sz)) (pA L sz)) 0 0 (pA L sz) := by
  refine k_enter (own := R_By) (by decide) rfl (Nat.le_of_ble_eq_true rfl) (fun p e s m below meth c ls AV QQ H locs hQQ X Y hA hin hr hlk hml hl KS KR => ?_)
  have hl : lv_has ls 8 [(0, .ref h), (1, .int (iI a1)), (2, .int (iI a2))] := hl
  have S : tS E T (tFr κ L [] []) κ L f κ L f := tS_rf hw
  refine lv_iload_n X.1 X.2.1 d_By_field_0 rfl (lv_at hl 1 rfl) ?_
  have J2 : ∀ (z1 : Int) (H : Heap) (locs : List Loc) (ls : Array Slot), (0 ≤ z1) → (z1 ≤ 224) → pH D cCl (pA L sz) s.heap L f H locs → tS E T (tFr κ L [] []) κ L f κ L f → lv_has ls 8 [(0, .ref h), (1, .int (iI a1)), (2, .int (iI a2))] → W p l e (kRm 2 85 0 0) s m AV below meth c H locs 0 0 QQ (F0 m 26 ls [.int (iI z1)]) := by
    intro z1 H locs ls l1 u1 Y S hl
    refine lv_istore_n (lv' := [(3, .int (iI z1)), (0, .ref h), (1, .int (iI a1)), (2, .int (iI a2))]) X.1 X.2.1 d_By_field_26 rfl hl (by decide) rfl (fun ls hl => ?_)
    refine lv_iload_n X.1 X.2.1 d_By_field_27 rfl (lv_at hl 0 rfl) ?_
    refine lv_bipush (v := iI 96) X.1 X.2.1 d_By_field_28 (by decide) ?_
    have J7 : ∀ (z6 : Int) (H : Heap) (locs : List Loc) (ls : Array Slot), ((-1) ≤ z6) → (z6 ≤ 20200) → pH D cCl (pA L sz) s.heap L f H locs → tS E T (tFr κ L [] []) κ L f κ L f → lv_has ls 8 [(0, .ref h), (2, .int (iI a2))] → W p l e (kRm 2 85 0 0) s m AV below meth c H locs 0 0 QQ (F0 m 42 ls [.int (iI z6)]) := by
      intro z6 H locs ls l6 u6 Y S hl
      refine lv_istore (lv' := [(4, .int (iI z6)), (0, .ref h), (2, .int (iI a2))]) X.1 X.2.1 d_By_field_42 hl (by decide) rfl (fun ls hl => ?_)
      refine lv_aload_n X.1 X.2.1 d_By_field_44 rfl (lv_at hl 1 rfl) ?_
      refine lv_iload X.1 X.2.1 d_By_field_45 (lv_at hl 0 rfl) ?_
      refine lv_aload_n X.1 X.2.1 d_By_field_47 rfl (lv_at hl 1 rfl) ?_
      refine t_gets (ci := 3) X Y S k0 rfl i_By 1 (by decide) rfl lk_By_21 (fun _ h9 => h9) d_By_field_48 (fun z11 e11 l11 u11 => ?_)
      refine t_ui (t_runV (As := [.int (iI z6), .int (iI z11)]) (rest := []) (n := 2) X Y S k0 hml hl.1 (c_By_stop l D E T κ L f H.size h n0 k0 (by omega) z6 (by omega) (by omega) z11 (by omega) (by omega) S.1 z11 e11 (by omega) (by omega)) (ok_k X Y hA KS KR) rfl kl_By_By_stop ks_By_stop kx_By_stop ki_By_stop ini_By ⟨rfl, rfl⟩ hd_By_stop ⟨Nat.le_of_ble_eq_true rfl, Nat.le_of_ble_eq_true rfl⟩ rfl (Nat.le_of_ble_eq_true rfl) d_By_field_51 ⟨Nat.le_of_ble_eq_true rfl, Nat.le_of_ble_eq_true rfl⟩) X Y hA (fun z12 H locs Y p12 => ?_)
      obtain ⟨l12, u12, x12⟩ := p12
      refine lv_istore (lv' := [(5, .int (iI z12)), (4, .int (iI z6)), (0, .ref h), (2, .int (iI a2))]) X.1 X.2.1 d_By_field_54 hl (by decide) rfl (fun ls hl => ?_)
      refine lv_aload_n X.1 X.2.1 d_By_field_56 rfl (lv_at hl 2 rfl) ?_
      refine lv_iload X.1 X.2.1 d_By_field_57 (lv_at hl 1 rfl) ?_
      refine t_ui (t_runV (As := [.int (iI z6)]) (rest := []) (n := 1) X Y S k0 hml hl.1 (c_By_body l D E T κ L f H.size h n0 k0 (by omega) z6 (by omega) (by omega) S.1 z11 e11 (by omega) (by omega)) (ok_k X Y hA KS KR) rfl kl_By_By_body ks_By_body kx_By_body ki_By_body ini_By ⟨rfl, rfl⟩ hd_By_body ⟨Nat.le_of_ble_eq_true rfl, Nat.le_of_ble_eq_true rfl⟩ rfl (Nat.le_of_ble_eq_true rfl) d_By_field_59 ⟨Nat.le_of_ble_eq_true rfl, Nat.le_of_ble_eq_true rfl⟩) X Y hA (fun z13 H locs Y p13 => ?_)
      obtain ⟨l13, u13, x13⟩ := p13
      refine lv_istore (lv' := [(6, .int (iI z13)), (5, .int (iI z12)), (4, .int (iI z6)), (0, .ref h), (2, .int (iI a2))]) X.1 X.2.1 d_By_field_62 hl (by decide) rfl (fun ls hl => ?_)
      refine lv_iconst (v := iI 0) X.1 X.2.1 d_By_field_64 (by decide) ?_
      have J16 : ∀ (n18 : Nat) (z14 : Int) (z15 : Int) (H : Heap) (locs : List Loc) (ls : Array Slot), (13 - z15).toNat = n18 → ((-1) ≤ z14) → (z14 ≤ 12420) → (0 ≤ z15) → (z15 ≤ 13) → pH D cCl (pA L sz) s.heap L f H locs → tS E T (tFr κ L [] []) κ L f κ L f → lv_has ls 8 [(0, .ref h), (2, .int (iI a2)), (5, .int (iI z12)), (6, .int (iI z14)), (7, .int (iI z15))] → W p l e (kRm 2 85 0 0) s m AV below meth c H locs 0 0 QQ (F0 m 67 ls []) := by
        intro n18
        induction n18 using Nat.strongRecOn with
        | ind n18 ih17 =>
          intro z14 z15 H locs ls hm19 l14 u14 l15 u15 Y S hl
          refine lv_iload X.1 X.2.1 d_By_field_67 (lv_at hl 4 rfl) ?_
          refine lv_bipush (v := iI 13) X.1 X.2.1 d_By_field_69 (by decide) ?_
          refine z_icmp_ge (tgt := 128) X.1 X.2.1 d_By_field_71 (by decide) ⟨by omega, by omega⟩ ⟨by omega, by omega⟩ (fun h20 => ?_) (fun h20 => ?_)
          · refine lv_iconst (v := iI (-1)) X.1 X.2.1 d_By_field_128 (by decide) ?_
            exact c_reti hQQ X Y hr hlk ⟨rfl, rfl, (-1), rfl, ⟨by omega, by omega⟩⟩ d_By_field_129
          · refine lv_iload X.1 X.2.1 d_By_field_74 (lv_at hl 3 rfl) ?_
            refine z_if_lt (tgt := 128) X.1 X.2.1 d_By_field_76 (by decide) ⟨by omega, by omega⟩ (fun h21 => ?_) (fun h21 => ?_)
            · refine lv_iconst (v := iI (-1)) X.1 X.2.1 d_By_field_128 (by decide) ?_
              exact c_reti hQQ X Y hr hlk ⟨rfl, rfl, (-1), rfl, ⟨by omega, by omega⟩⟩ d_By_field_129
            · refine lv_iload X.1 X.2.1 d_By_field_79 (lv_at hl 3 rfl) ?_
              refine lv_iload X.1 X.2.1 d_By_field_81 (lv_at hl 2 rfl) ?_
              refine z_icmp_ge (tgt := 128) X.1 X.2.1 d_By_field_83 (by decide) ⟨by omega, by omega⟩ ⟨by omega, by omega⟩ (fun h22 => ?_) (fun h22 => ?_)
              · refine lv_iconst (v := iI (-1)) X.1 X.2.1 d_By_field_128 (by decide) ?_
                exact c_reti hQQ X Y hr hlk ⟨rfl, rfl, (-1), rfl, ⟨by omega, by omega⟩⟩ d_By_field_129
              · refine lv_aload_n X.1 X.2.1 d_By_field_86 rfl (lv_at hl 0 rfl) ?_
                refine t_getrow (ci := 3) X Y S k0 rfl i_By 0 (by decide) rfl lk_By_15 (fun _ h9 => h9) d_By_field_87 (fun b23 e23 k23 => ?_)
                refine lv_iload X.1 X.2.1 d_By_field_90 (lv_at hl 3 rfl) ?_
                refine t_bald X Y S (Or.inl k23) (by omega) (by omega) (by omega) d_By_field_92 (fun z24 l24 u24 => ?_)
                refine lv_sipush (v := iI 255) X.1 X.2.1 d_By_field_93 (by decide) ?_
                refine z_iand X.1 X.2.1 (by omega) (by omega) d_By_field_96 (fun z25 l25 u25 => ?_)
                refine lv_sipush (v := iI 160) X.1 X.2.1 d_By_field_97 (by decide) ?_
                refine lv_iload_n X.1 X.2.1 d_By_field_100 rfl (lv_at hl 1 rfl) ?_
                refine z_iadd X.1 X.2.1 d_By_field_101 ?_
                refine z_icmp_ne (tgt := 112) X.1 X.2.1 d_By_field_102 (by decide) ⟨by omega, by omega⟩ ⟨by omega, by omega⟩ (fun h26 => ?_) (fun h26 => ?_)
                · refine lv_aload_n X.1 X.2.1 d_By_field_112 rfl (lv_at hl 0 rfl) ?_
                  refine lv_iload X.1 X.2.1 d_By_field_113 (lv_at hl 3 rfl) ?_
                  refine lv_iload X.1 X.2.1 d_By_field_115 (lv_at hl 2 rfl) ?_
                  refine t_ui (t_runV (As := [.int (iI z14), .int (iI z12)]) (rest := []) (n := 2) X Y S k0 hml hl.1 (c_By_stop l D E T κ L f H.size h n0 k0 (by omega) z14 (by omega) (by omega) z12 (by omega) (by omega) S.1 z11 e11 (by omega) (by omega)) (ok_k X Y hA KS KR) rfl kl_By_By_stop ks_By_stop kx_By_stop ki_By_stop ini_By ⟨rfl, rfl⟩ hd_By_stop ⟨Nat.le_of_ble_eq_true rfl, Nat.le_of_ble_eq_true rfl⟩ rfl (Nat.le_of_ble_eq_true rfl) d_By_field_117 ⟨Nat.le_of_ble_eq_true rfl, Nat.le_of_ble_eq_true rfl⟩) X Y hA (fun z27 H locs Y p27 => ?_)
                  obtain ⟨l27, u27, x27⟩ := p27
                  refine lv_istore (lv' := [(6, .int (iI z27)), (0, .ref h), (2, .int (iI a2)), (5, .int (iI z12)), (7, .int (iI z15))]) X.1 X.2.1 d_By_field_120 hl (by decide) rfl (fun ls hl => ?_)
                  refine lv_iinc (v := iI (z15 + 1)) (lv' := [(7, .int (iI (z15 + 1))), (6, .int (iI z27)), (0, .ref h), (2, .int (iI a2)), (5, .int (iI z12))]) X.1 X.2.1 d_By_field_122 hl (k := 4) rfl ((iI_add _ _).trans (congrArg iI (by omega))) (by decide) rfl (fun ls hl => ?_)
                  refine lv_goto (tgt := 67) X.1 X.2.1 d_By_field_125 (by decide) ?_
                  exact ih17 ((13 - (z15 + 1)).toNat) (by omega) z27 (z15 + 1) _ _ _ rfl (by omega) (by omega) (by omega) (by omega) Y S (lv_sub hl [2, 3, 4, 1, 0] rfl)
                · refine lv_aload_n X.1 X.2.1 d_By_field_105 rfl (lv_at hl 0 rfl) ?_
                  refine lv_iload X.1 X.2.1 d_By_field_106 (lv_at hl 3 rfl) ?_
                  refine t_ui (t_runV (As := [.int (iI z14)]) (rest := []) (n := 1) X Y S k0 hml hl.1 (c_By_body l D E T κ L f H.size h n0 k0 (by omega) z14 (by omega) (by omega) S.1 z11 e11 (by omega) (by omega)) (ok_k X Y hA KS KR) rfl kl_By_By_body ks_By_body kx_By_body ki_By_body ini_By ⟨rfl, rfl⟩ hd_By_body ⟨Nat.le_of_ble_eq_true rfl, Nat.le_of_ble_eq_true rfl⟩ rfl (Nat.le_of_ble_eq_true rfl) d_By_field_108 ⟨Nat.le_of_ble_eq_true rfl, Nat.le_of_ble_eq_true rfl⟩) X Y hA (fun z28 H locs Y p28 => ?_)
                  obtain ⟨l28, u28, x28⟩ := p28
                  exact c_reti hQQ X Y hr hlk ⟨rfl, rfl, z28, rfl, ⟨by omega, by omega⟩⟩ d_By_field_111
      refine lv_istore (lv' := [(7, .int (iI 0)), (6, .int (iI z13)), (5, .int (iI z12)), (4, .int (iI z6)), (0, .ref h), (2, .int (iI a2))]) X.1 X.2.1 d_By_field_65 hl (by decide) rfl (fun ls hl => ?_)
      exact J16 _ z13 0 _ _ _ rfl (by omega) (by omega) (by omega) (by omega) Y S (lv_sub hl [4, 5, 2, 1, 0] rfl)
    refine z_icmp_ne (tgt := 41) X.1 X.2.1 d_By_field_30 (by decide) ⟨by omega, by omega⟩ ⟨by omega, by omega⟩ (fun h29 => ?_) (fun h29 => ?_)
    · refine lv_iload_n X.1 X.2.1 d_By_field_41 rfl (lv_at hl 2 rfl) ?_
      exact J7 a1 _ _ _ (by omega) (by omega) Y S (lv_sub hl [1, 3] rfl)
    · refine lv_aload_n X.1 X.2.1 d_By_field_33 rfl (lv_at hl 1 rfl) ?_
      refine lv_iload_n X.1 X.2.1 d_By_field_34 rfl (lv_at hl 2 rfl) ?_
      obtain ⟨z30, e30, l30, u30⟩ := t_size S k0
      refine t_ui (t_runV (As := [.int (iI a1)]) (rest := []) (n := 1) X Y S k0 hml hl.1 (c_By_body l D E T κ L f H.size h n0 k0 (by omega) a1 (by omega) (by omega) S.1 z30 e30 (by omega) (by omega)) (ok_k X Y hA KS KR) rfl kl_By_By_body ks_By_body kx_By_body ki_By_body ini_By ⟨rfl, rfl⟩ hd_By_body ⟨Nat.le_of_ble_eq_true rfl, Nat.le_of_ble_eq_true rfl⟩ rfl (Nat.le_of_ble_eq_true rfl) d_By_field_35 ⟨Nat.le_of_ble_eq_true rfl, Nat.le_of_ble_eq_true rfl⟩) X Y hA (fun z31 H locs Y p31 => ?_)
      obtain ⟨l31, u31, x31⟩ := p31
      refine lv_goto (tgt := 42) X.1 X.2.1 d_By_field_38 (by decide) ?_
      exact J7 z31 _ _ _ (by omega) (by omega) Y S (lv_sub hl [1, 3] rfl)
  have J32 : ∀  (H : Heap) (locs : List Loc) (ls : Array Slot), pH D cCl (pA L sz) s.heap L f H locs → tS E T (tFr κ L [] []) κ L f κ L f → lv_has ls 8 [(0, .ref h), (1, .int (iI a1)), (2, .int (iI a2))] → W p l e (kRm 2 85 0 0) s m AV below meth c H locs 0 0 QQ (F0 m 25 ls []) := by
    intro  H locs ls  Y S hl
    refine lv_iconst (v := iI 0) X.1 X.2.1 d_By_field_25 (by decide) ?_
    exact J2 0 _ _ _ (by omega) (by omega) Y S (lv_sub hl [0, 1, 2] rfl)
  refine z_if_lt (tgt := 25) X.1 X.2.1 d_By_field_1 (by decide) ⟨by omega, by omega⟩ (fun h36 => ?_) (fun h36 => ?_)
  · exact J32  _ _ _  Y S (lv_sub hl [0, 1, 2] rfl)
  · refine lv_iload_n X.1 X.2.1 d_By_field_4 rfl (lv_at hl 1 rfl) ?_
    refine lv_aload_n X.1 X.2.1 d_By_field_5 rfl (lv_at hl 0 rfl) ?_
    refine t_gets (ci := 3) X Y S k0 rfl i_By 1 (by decide) rfl lk_By_21 (fun _ h9 => h9) d_By_field_6 (fun z37 e37 l37 u37 => ?_)
    refine z_icmp_ge (tgt := 25) X.1 X.2.1 d_By_field_9 (by decide) ⟨by omega, by omega⟩ ⟨by omega, by omega⟩ (fun h38 => ?_) (fun h38 => ?_)
    · exact J32  _ _ _  Y S (lv_sub hl [0, 1, 2] rfl)
    · refine lv_aload_n X.1 X.2.1 d_By_field_12 rfl (lv_at hl 0 rfl) ?_
      refine t_getrow (ci := 3) X Y S k0 rfl i_By 0 (by decide) rfl lk_By_15 (fun _ h9 => h9) d_By_field_13 (fun b39 e39 k39 => ?_)
      refine lv_iload_n X.1 X.2.1 d_By_field_16 rfl (lv_at hl 1 rfl) ?_
      refine t_bald X Y S (Or.inl k39) (by omega) (by omega) (by omega) d_By_field_17 (fun z40 l40 u40 => ?_)
      refine lv_sipush (v := iI 224) X.1 X.2.1 d_By_field_18 (by decide) ?_
      refine z_iand X.1 X.2.1 (by omega) (by omega) d_By_field_21 (fun z41 l41 u41 => ?_)
      refine lv_goto (tgt := 26) X.1 X.2.1 d_By_field_22 (by decide) ?_
      exact J2 z41 _ _ _ (by omega) (by omega) Y S (lv_sub hl [0, 1, 2] rfl)
set_option maxHeartbeats 4000000 in
set_option maxRecDepth 100000 in
theorem c_By_element (l : Launch) (D : va_G) (E : cE) (T : cT) (κ : tK) (L : List Nat) (f : pF) (sz : Nat) (h n0 : Nat) (k0 : κ h = (13, n0)) (x0 : n0 ≤ 12288) (a1 : Int) (l_a1 : (-1) ≤ a1) (u_a1 : a1 ≤ 20200) (a2 : Int) (l_a2 : 0 ≤ a2) (u_a2 : a2 ≤ 16) (hw : tW E T κ L f) : Met l y_By_element (k_By_element :: lw_tg) (kRm 2 85 0 0) (va_Pc [.ref h, .int (iI a1), .int (iI a2)] (kPre D E T L f sz)) (va_Qi (uPi L f (fun (z : Int) => (-1) ≤ z ∧ z ≤ 12420)) (cPost D E (pA L sz)) (pA L sz)) 0 0 (pA L sz) := by
  refine k_enter (own := R_By) (by decide) rfl (Nat.le_of_ble_eq_true rfl) (fun p e s m below meth c ls AV QQ H locs hQQ X Y hA hin hr hlk hml hl KS KR => ?_)
  have hl : lv_has ls 6 [(0, .ref h), (1, .int (iI a1)), (2, .int (iI a2))] := hl
  have S : tS E T (tFr κ L [] []) κ L f κ L f := tS_rf hw
  refine lv_aload_n X.1 X.2.1 d_By_element_0 rfl (lv_at hl 0 rfl) ?_
  refine lv_iload_n X.1 X.2.1 d_By_element_1 rfl (lv_at hl 1 rfl) ?_
  refine lv_aload_n X.1 X.2.1 d_By_element_2 rfl (lv_at hl 0 rfl) ?_
  refine t_gets (ci := 3) X Y S k0 rfl i_By 1 (by decide) rfl lk_By_21 (fun _ h9 => h9) d_By_element_3 (fun z1 e1 l1 u1 => ?_)
  refine t_ui (t_runV (As := [.int (iI a1), .int (iI z1)]) (rest := []) (n := 2) X Y S k0 hml hl.1 (c_By_stop l D E T κ L f H.size h n0 k0 (by omega) a1 (by omega) (by omega) z1 (by omega) (by omega) S.1 z1 e1 (by omega) (by omega)) (ok_k X Y hA KS KR) rfl kl_By_By_stop ks_By_stop kx_By_stop ki_By_stop ini_By ⟨rfl, rfl⟩ hd_By_stop ⟨Nat.le_of_ble_eq_true rfl, Nat.le_of_ble_eq_true rfl⟩ rfl (Nat.le_of_ble_eq_true rfl) d_By_element_6 ⟨Nat.le_of_ble_eq_true rfl, Nat.le_of_ble_eq_true rfl⟩) X Y hA (fun z2 H locs Y p2 => ?_)
  obtain ⟨l2, u2, x2⟩ := p2
  refine lv_istore_n (lv' := [(3, .int (iI z2)), (0, .ref h), (1, .int (iI a1)), (2, .int (iI a2))]) X.1 X.2.1 d_By_element_9 rfl hl (by decide) rfl (fun ls hl => ?_)
  refine lv_aload_n X.1 X.2.1 d_By_element_10 rfl (lv_at hl 1 rfl) ?_
  refine lv_iload_n X.1 X.2.1 d_By_element_11 rfl (lv_at hl 2 rfl) ?_
  refine t_ui (t_runV (As := [.int (iI a1)]) (rest := []) (n := 1) X Y S k0 hml hl.1 (c_By_body l D E T κ L f H.size h n0 k0 (by omega) a1 (by omega) (by omega) S.1 z1 e1 (by omega) (by omega)) (ok_k X Y hA KS KR) rfl kl_By_By_body ks_By_body kx_By_body ki_By_body ini_By ⟨rfl, rfl⟩ hd_By_body ⟨Nat.le_of_ble_eq_true rfl, Nat.le_of_ble_eq_true rfl⟩ rfl (Nat.le_of_ble_eq_true rfl) d_By_element_12 ⟨Nat.le_of_ble_eq_true rfl, Nat.le_of_ble_eq_true rfl⟩) X Y hA (fun z3 H locs Y p3 => ?_)
  obtain ⟨l3, u3, x3⟩ := p3
  refine lv_istore (lv' := [(4, .int (iI z3)), (3, .int (iI z2)), (0, .ref h), (1, .int (iI a1)), (2, .int (iI a2))]) X.1 X.2.1 d_By_element_15 hl (by decide) rfl (fun ls hl => ?_)
  refine lv_iconst (v := iI 0) X.1 X.2.1 d_By_element_17 (by decide) ?_
  have J6 : ∀ (n8 : Nat) (z4 : Int) (z5 : Int) (H : Heap) (locs : List Loc) (ls : Array Slot), (16 - z5).toNat = n8 → ((-1) ≤ z4) → (z4 ≤ 12420) → (0 ≤ z5) → (z5 ≤ 16) → pH D cCl (pA L sz) s.heap L f H locs → tS E T (tFr κ L [] []) κ L f κ L f → lv_has ls 6 [(0, .ref h), (2, .int (iI a2)), (3, .int (iI z2)), (4, .int (iI z4)), (5, .int (iI z5))] → W p l e (kRm 2 85 0 0) s m AV below meth c H locs 0 0 QQ (F0 m 20 ls []) := by
    intro n8
    induction n8 using Nat.strongRecOn with
    | ind n8 ih7 =>
      intro z4 z5 H locs ls hm9 l4 u4 l5 u5 Y S hl
      refine lv_iload X.1 X.2.1 d_By_element_20 (lv_at hl 4 rfl) ?_
      refine lv_bipush (v := iI 16) X.1 X.2.1 d_By_element_22 (by decide) ?_
      refine z_icmp_ge (tgt := 62) X.1 X.2.1 d_By_element_24 (by decide) ⟨by omega, by omega⟩ ⟨by omega, by omega⟩ (fun h10 => ?_) (fun h10 => ?_)
      · refine lv_iconst (v := iI (-1)) X.1 X.2.1 d_By_element_62 (by decide) ?_
        exact c_reti hQQ X Y hr hlk ⟨rfl, rfl, (-1), rfl, ⟨by omega, by omega⟩⟩ d_By_element_63
      · refine lv_iload X.1 X.2.1 d_By_element_27 (lv_at hl 3 rfl) ?_
        refine z_if_lt (tgt := 62) X.1 X.2.1 d_By_element_29 (by decide) ⟨by omega, by omega⟩ (fun h11 => ?_) (fun h11 => ?_)
        · refine lv_iconst (v := iI (-1)) X.1 X.2.1 d_By_element_62 (by decide) ?_
          exact c_reti hQQ X Y hr hlk ⟨rfl, rfl, (-1), rfl, ⟨by omega, by omega⟩⟩ d_By_element_63
        · refine lv_iload X.1 X.2.1 d_By_element_32 (lv_at hl 3 rfl) ?_
          refine lv_iload_n X.1 X.2.1 d_By_element_34 rfl (lv_at hl 2 rfl) ?_
          refine z_icmp_ge (tgt := 62) X.1 X.2.1 d_By_element_35 (by decide) ⟨by omega, by omega⟩ ⟨by omega, by omega⟩ (fun h12 => ?_) (fun h12 => ?_)
          · refine lv_iconst (v := iI (-1)) X.1 X.2.1 d_By_element_62 (by decide) ?_
            exact c_reti hQQ X Y hr hlk ⟨rfl, rfl, (-1), rfl, ⟨by omega, by omega⟩⟩ d_By_element_63
          · refine lv_iload X.1 X.2.1 d_By_element_38 (lv_at hl 4 rfl) ?_
            refine lv_iload_n X.1 X.2.1 d_By_element_40 rfl (lv_at hl 1 rfl) ?_
            refine z_icmp_ne (tgt := 47) X.1 X.2.1 d_By_element_41 (by decide) ⟨by omega, by omega⟩ ⟨by omega, by omega⟩ (fun h13 => ?_) (fun h13 => ?_)
            · refine lv_aload_n X.1 X.2.1 d_By_element_47 rfl (lv_at hl 0 rfl) ?_
              refine lv_iload X.1 X.2.1 d_By_element_48 (lv_at hl 3 rfl) ?_
              refine lv_iload_n X.1 X.2.1 d_By_element_50 rfl (lv_at hl 2 rfl) ?_
              refine t_ui (t_runV (As := [.int (iI z4), .int (iI z2)]) (rest := []) (n := 2) X Y S k0 hml hl.1 (c_By_stop l D E T κ L f H.size h n0 k0 (by omega) z4 (by omega) (by omega) z2 (by omega) (by omega) S.1 z1 e1 (by omega) (by omega)) (ok_k X Y hA KS KR) rfl kl_By_By_stop ks_By_stop kx_By_stop ki_By_stop ini_By ⟨rfl, rfl⟩ hd_By_stop ⟨Nat.le_of_ble_eq_true rfl, Nat.le_of_ble_eq_true rfl⟩ rfl (Nat.le_of_ble_eq_true rfl) d_By_element_51 ⟨Nat.le_of_ble_eq_true rfl, Nat.le_of_ble_eq_true rfl⟩) X Y hA (fun z14 H locs Y p14 => ?_)
              obtain ⟨l14, u14, x14⟩ := p14
              refine lv_istore (lv' := [(4, .int (iI z14)), (0, .ref h), (2, .int (iI a2)), (3, .int (iI z2)), (5, .int (iI z5))]) X.1 X.2.1 d_By_element_54 hl (by decide) rfl (fun ls hl => ?_)
              refine lv_iinc (v := iI (z5 + 1)) (lv' := [(5, .int (iI (z5 + 1))), (4, .int (iI z14)), (0, .ref h), (2, .int (iI a2)), (3, .int (iI z2))]) X.1 X.2.1 d_By_element_56 hl (k := 4) rfl ((iI_add _ _).trans (congrArg iI (by omega))) (by decide) rfl (fun ls hl => ?_)
              refine lv_goto (tgt := 20) X.1 X.2.1 d_By_element_59 (by decide) ?_
              exact ih7 ((16 - (z5 + 1)).toNat) (by omega) z14 (z5 + 1) _ _ _ rfl (by omega) (by omega) (by omega) (by omega) Y S (lv_sub hl [2, 3, 4, 1, 0] rfl)
            · refine lv_iload X.1 X.2.1 d_By_element_44 (lv_at hl 3 rfl) ?_
              exact c_reti hQQ X Y hr hlk ⟨rfl, rfl, z4, rfl, ⟨by omega, by omega⟩⟩ d_By_element_46
  refine lv_istore (lv' := [(5, .int (iI 0)), (4, .int (iI z3)), (3, .int (iI z2)), (0, .ref h), (1, .int (iI a1)), (2, .int (iI a2))]) X.1 X.2.1 d_By_element_18 hl (by decide) rfl (fun ls hl => ?_)
  exact J6 _ z3 0 _ _ _ rfl (by omega) (by omega) (by omega) (by omega) Y S (lv_sub hl [3, 5, 2, 1, 0] rfl)
set_option maxHeartbeats 4000000 in
set_option maxRecDepth 100000 in
theorem c_By_number (l : Launch) (D : va_G) (E : cE) (T : cT) (κ : tK) (L : List Nat) (f : pF) (sz : Nat) (h n0 : Nat) (k0 : κ h = (13, n0)) (x0 : n0 ≤ 12288) (a1 : Int) (l_a1 : 0 ≤ a1) (u_a1 : a1 ≤ 12420) (a2 : Int) (l_a2 : (-1) ≤ a2) (u_a2 : a2 ≤ 20200) (hw : tW E T κ L f) (q0 : a1 < (n0 : Int)) : Met l y_By_number (k_By_number :: lw_tg) (kRm 1 60 0 0) (va_Pc [.ref h, .int (iI a1), .int (iI a2)] (kPre D E T L f sz)) (va_Ql (uPl L f (fun (z : Int64) => True)) (cPost D E (pA L sz)) (pA L sz)) 0 0 (pA L sz) := by
  refine k_enter (own := R_By) (by decide) rfl (Nat.le_of_ble_eq_true rfl) (fun p e s m below meth c ls AV QQ H locs hQQ X Y hA hin hr hlk hml hl KS KR => ?_)
  have hl : lv_has ls 6 [(0, .ref h), (1, .int (iI a1)), (2, .int (iI a2))] := hl
  have S : tS E T (tFr κ L [] []) κ L f κ L f := tS_rf hw
  refine lv_aload_n X.1 X.2.1 d_By_number_0 rfl (lv_at hl 0 rfl) ?_
  refine t_getrow (ci := 3) X Y S k0 rfl i_By 0 (by decide) rfl lk_By_15 (fun _ h9 => h9) d_By_number_1 (fun b1 e1 k1 => ?_)
  refine lv_iload_n X.1 X.2.1 d_By_number_4 rfl (lv_at hl 1 rfl) ?_
  refine t_bald X Y S (Or.inl k1) (by omega) (by omega) (by omega) d_By_number_5 (fun z2 l2 u2 => ?_)
  refine lv_i2l X.1 X.2.1 d_By_number_6 rfl ?_
  refine t_anyl (fun v3 => ?_)
  refine lv_lstore_n (lv' := [(3, .long v3), (0, .ref h), (1, .int (iI a1)), (2, .int (iI a2))]) X.1 X.2.1 d_By_number_7 rfl hl (by decide) rfl (fun ls hl => ?_)
  refine lv_iload_n X.1 X.2.1 d_By_number_8 rfl (lv_at hl 2 rfl) ?_
  refine lv_iconst (v := iI 1) X.1 X.2.1 d_By_number_9 (by decide) ?_
  refine z_iadd X.1 X.2.1 d_By_number_10 ?_
  have J6 : ∀ (n8 : Nat) (v4 : Int64) (z5 : Int) (H : Heap) (locs : List Loc) (ls : Array Slot), (12421 - z5).toNat = n8 → (1 ≤ z5) → (z5 ≤ 12421) → pH D cCl (pA L sz) s.heap L f H locs → tS E T (tFr κ L [] []) κ L f κ L f → lv_has ls 6 [(0, .ref h), (2, .int (iI a2)), (3, .long v4), (5, .int (iI z5))] → W p l e (kRm 1 60 0 0) s m AV below meth c H locs 0 0 QQ (F0 m 13 ls []) := by
    intro n8
    induction n8 using Nat.strongRecOn with
    | ind n8 ih7 =>
      intro v4 z5 H locs ls hm9 l5 u5 Y S hl
      refine lv_iload X.1 X.2.1 d_By_number_13 (lv_at hl 3 rfl) ?_
      refine lv_iload_n X.1 X.2.1 d_By_number_15 rfl (lv_at hl 1 rfl) ?_
      refine z_icmp_ge (tgt := 52) X.1 X.2.1 d_By_number_16 (by decide) ⟨by omega, by omega⟩ ⟨by omega, by omega⟩ (fun h10 => ?_) (fun h10 => ?_)
      · refine lv_lload_n X.1 X.2.1 d_By_number_52 rfl (lv_at hl 2 rfl) ?_
        exact c_retl hQQ X Y hr hlk ⟨rfl, rfl, trivial⟩ d_By_number_53
      · refine lv_iload X.1 X.2.1 d_By_number_19 (lv_at hl 3 rfl) ?_
        refine lv_aload_n X.1 X.2.1 d_By_number_21 rfl (lv_at hl 0 rfl) ?_
        refine t_gets (ci := 3) X Y S k0 rfl i_By 1 (by decide) rfl lk_By_21 (fun _ h9 => h9) d_By_number_22 (fun z11 e11 l11 u11 => ?_)
        refine z_icmp_ge (tgt := 52) X.1 X.2.1 d_By_number_25 (by decide) ⟨by omega, by omega⟩ ⟨by omega, by omega⟩ (fun h12 => ?_) (fun h12 => ?_)
        · refine lv_lload_n X.1 X.2.1 d_By_number_52 rfl (lv_at hl 2 rfl) ?_
          exact c_retl hQQ X Y hr hlk ⟨rfl, rfl, trivial⟩ d_By_number_53
        · refine lv_lload_n X.1 X.2.1 d_By_number_28 rfl (lv_at hl 2 rfl) ?_
          refine lv_bipush (v := iI 8) X.1 X.2.1 d_By_number_29 (by decide) ?_
          refine lv_lshl X.1 X.2.1 d_By_number_31 rfl ?_
          refine t_anyl (fun v13 => ?_)
          refine lv_aload_n X.1 X.2.1 d_By_number_32 rfl (lv_at hl 0 rfl) ?_
          refine t_get0 (ci := 3) X Y S k0 rfl i_By 0 (by decide) rfl lk_By_15 (fun _ h9 => h9) d_By_number_33 e1 ?_
          refine lv_iload X.1 X.2.1 d_By_number_36 (lv_at hl 3 rfl) ?_
          refine t_bald X Y S (Or.inl k1) (by omega) (by omega) (by omega) d_By_number_38 (fun z14 l14 u14 => ?_)
          refine lv_sipush (v := iI 255) X.1 X.2.1 d_By_number_39 (by decide) ?_
          refine z_iand X.1 X.2.1 (by omega) (by omega) d_By_number_42 (fun z15 l15 u15 => ?_)
          refine lv_i2l X.1 X.2.1 d_By_number_43 rfl ?_
          refine t_anyl (fun v16 => ?_)
          refine lv_lor X.1 X.2.1 d_By_number_44 ?_
          refine t_anyl (fun v17 => ?_)
          refine lv_lstore_n (lv' := [(3, .long v17), (0, .ref h), (2, .int (iI a2)), (5, .int (iI z5))]) X.1 X.2.1 d_By_number_45 rfl hl (by decide) rfl (fun ls hl => ?_)
          refine lv_iinc (v := iI (z5 + 1)) (lv' := [(5, .int (iI (z5 + 1))), (3, .long v17), (0, .ref h), (2, .int (iI a2))]) X.1 X.2.1 d_By_number_46 hl (k := 3) rfl ((iI_add _ _).trans (congrArg iI (by omega))) (by decide) rfl (fun ls hl => ?_)
          refine lv_goto (tgt := 13) X.1 X.2.1 d_By_number_49 (by decide) ?_
          exact ih7 ((12421 - (z5 + 1)).toNat) (by omega) v17 (z5 + 1) _ _ _ rfl (by omega) (by omega) Y S (lv_sub hl [2, 3, 1, 0] rfl)
  refine lv_istore (lv' := [(5, .int (iI (a1 + 1))), (3, .long v3), (0, .ref h), (1, .int (iI a1)), (2, .int (iI a2))]) X.1 X.2.1 d_By_number_11 hl (by decide) rfl (fun ls hl => ?_)
  exact J6 _ v3 (a1 + 1) _ _ _ rfl (by omega) (by omega) Y S (lv_sub hl [2, 4, 1, 0] rfl)
set_option maxHeartbeats 4000000 in
set_option maxRecDepth 100000 in
theorem c_By_numberAt (l : Launch) (D : va_G) (E : cE) (T : cT) (κ : tK) (L : List Nat) (f : pF) (sz : Nat) (h n0 : Nat) (k0 : κ h = (13, n0)) (x0 : n0 ≤ 12288) (a1 : Int) (l_a1 : (-1) ≤ a1) (u_a1 : a1 ≤ 20200) (hw : tW E T κ L f) : Met l y_By_numberAt (k_By_numberAt :: lw_tg) (kRm 2 85 0 0) (va_Pc [.ref h, .int (iI a1)] (kPre D E T L f sz)) (va_Ql (uPl L f (fun (z : Int64) => True)) (cPost D E (pA L sz)) (pA L sz)) 0 0 (pA L sz) := by
  refine k_enter (own := R_By) (by decide) rfl (Nat.le_of_ble_eq_true rfl) (fun p e s m below meth c ls AV QQ H locs hQQ X Y hA hin hr hlk hml hl KS KR => ?_)
  have hl : lv_has ls 4 [(0, .ref h), (1, .int (iI a1))] := hl
  have S : tS E T (tFr κ L [] []) κ L f κ L f := tS_rf hw
  refine lv_aload_n X.1 X.2.1 d_By_numberAt_0 rfl (lv_at hl 0 rfl) ?_
  refine lv_iload_n X.1 X.2.1 d_By_numberAt_1 rfl (lv_at hl 1 rfl) ?_
  refine lv_aload_n X.1 X.2.1 d_By_numberAt_2 rfl (lv_at hl 0 rfl) ?_
  refine t_gets (ci := 3) X Y S k0 rfl i_By 1 (by decide) rfl lk_By_21 (fun _ h9 => h9) d_By_numberAt_3 (fun z1 e1 l1 u1 => ?_)
  refine t_ui (t_runV (As := [.int (iI a1), .int (iI z1)]) (rest := []) (n := 2) X Y S k0 hml hl.1 (c_By_stop l D E T κ L f H.size h n0 k0 (by omega) a1 (by omega) (by omega) z1 (by omega) (by omega) S.1 z1 e1 (by omega) (by omega)) (ok_k X Y hA KS KR) rfl kl_By_By_stop ks_By_stop kx_By_stop ki_By_stop ini_By ⟨rfl, rfl⟩ hd_By_stop ⟨Nat.le_of_ble_eq_true rfl, Nat.le_of_ble_eq_true rfl⟩ rfl (Nat.le_of_ble_eq_true rfl) d_By_numberAt_6 ⟨Nat.le_of_ble_eq_true rfl, Nat.le_of_ble_eq_true rfl⟩) X Y hA (fun z2 H locs Y p2 => ?_)
  obtain ⟨l2, u2, x2⟩ := p2
  refine lv_istore_n (lv' := [(2, .int (iI z2)), (0, .ref h), (1, .int (iI a1))]) X.1 X.2.1 d_By_numberAt_9 rfl hl (by decide) rfl (fun ls hl => ?_)
  refine lv_aload_n X.1 X.2.1 d_By_numberAt_10 rfl (lv_at hl 1 rfl) ?_
  refine lv_iload_n X.1 X.2.1 d_By_numberAt_11 rfl (lv_at hl 2 rfl) ?_
  refine t_ui (t_runV (As := [.int (iI a1)]) (rest := []) (n := 1) X Y S k0 hml hl.1 (c_By_body l D E T κ L f H.size h n0 k0 (by omega) a1 (by omega) (by omega) S.1 z1 e1 (by omega) (by omega)) (ok_k X Y hA KS KR) rfl kl_By_By_body ks_By_body kx_By_body ki_By_body ini_By ⟨rfl, rfl⟩ hd_By_body ⟨Nat.le_of_ble_eq_true rfl, Nat.le_of_ble_eq_true rfl⟩ rfl (Nat.le_of_ble_eq_true rfl) d_By_numberAt_12 ⟨Nat.le_of_ble_eq_true rfl, Nat.le_of_ble_eq_true rfl⟩) X Y hA (fun z3 H locs Y p3 => ?_)
  obtain ⟨l3, u3, x3⟩ := p3
  refine lv_istore_n (lv' := [(3, .int (iI z3)), (2, .int (iI z2)), (0, .ref h), (1, .int (iI a1))]) X.1 X.2.1 d_By_numberAt_15 rfl hl (by decide) rfl (fun ls hl => ?_)
  refine lv_iload_n X.1 X.2.1 d_By_numberAt_16 rfl (lv_at hl 1 rfl) ?_
  refine lv_iload_n X.1 X.2.1 d_By_numberAt_17 rfl (lv_at hl 0 rfl) ?_
  refine z_icmp_le (tgt := 34) X.1 X.2.1 d_By_numberAt_18 (by decide) ⟨by omega, by omega⟩ ⟨by omega, by omega⟩ (fun h4 => ?_) (fun h4 => ?_)
  · refine lv_lconst (v := 0) X.1 X.2.1 d_By_numberAt_34 rfl ?_
    exact c_retl hQQ X Y hr hlk ⟨rfl, rfl, trivial⟩ d_By_numberAt_35
  · refine lv_iload_n X.1 X.2.1 d_By_numberAt_21 rfl (lv_at hl 0 rfl) ?_
    refine z_if_lt (tgt := 34) X.1 X.2.1 d_By_numberAt_22 (by decide) ⟨by omega, by omega⟩ (fun h5 => ?_) (fun h5 => ?_)
    · refine lv_lconst (v := 0) X.1 X.2.1 d_By_numberAt_34 rfl ?_
      exact c_retl hQQ X Y hr hlk ⟨rfl, rfl, trivial⟩ d_By_numberAt_35
    · refine lv_aload_n X.1 X.2.1 d_By_numberAt_25 rfl (lv_at hl 2 rfl) ?_
      refine lv_iload_n X.1 X.2.1 d_By_numberAt_26 rfl (lv_at hl 0 rfl) ?_
      refine lv_iload_n X.1 X.2.1 d_By_numberAt_27 rfl (lv_at hl 1 rfl) ?_
      refine t_ul (t_runV (As := [.int (iI z3), .int (iI z2)]) (rest := []) (n := 2) X Y S k0 hml hl.1 (c_By_number l D E T κ L f H.size h n0 k0 (by omega) z3 (by omega) (by omega) z2 (by omega) (by omega) S.1 (by omega)) (ok_k X Y hA KS KR) rfl kl_By_By_number ks_By_number kx_By_number ki_By_number ini_By ⟨rfl, rfl⟩ hd_By_number ⟨Nat.le_of_ble_eq_true rfl, Nat.le_of_ble_eq_true rfl⟩ rfl (Nat.le_of_ble_eq_true rfl) d_By_numberAt_28 ⟨Nat.le_of_ble_eq_true rfl, Nat.le_of_ble_eq_true rfl⟩) X Y hA (fun v6 H locs Y p6 => ?_)
      refine lv_goto (tgt := 35) X.1 X.2.1 d_By_numberAt_31 (by decide) ?_
      exact c_retl hQQ X Y hr hlk ⟨rfl, rfl, trivial⟩ d_By_numberAt_35
set_option maxHeartbeats 4000000 in
set_option maxRecDepth 100000 in
theorem c_By_bitsAt (l : Launch) (D : va_G) (E : cE) (T : cT) (κ : tK) (L : List Nat) (f : pF) (sz : Nat) (h n0 : Nat) (k0 : κ h = (13, n0)) (x0 : n0 ≤ 12288) (a1 : Int) (l_a1 : (-1) ≤ a1) (u_a1 : a1 ≤ 20200) (hw : tW E T κ L f) : Met l y_By_bitsAt (k_By_bitsAt :: lw_tg) (kRm 2 85 0 0) (va_Pc [.ref h, .int (iI a1)] (kPre D E T L f sz)) (va_Qi (uPi L f (fun (z : Int) => (-2147483648) ≤ z ∧ z ≤ 2147483647)) (cPost D E (pA L sz)) (pA L sz)) 0 0 (pA L sz) := by
  refine k_enter (own := R_By) (by decide) rfl (Nat.le_of_ble_eq_true rfl) (fun p e s m below meth c ls AV QQ H locs hQQ X Y hA hin hr hlk hml hl KS KR => ?_)
  have hl : lv_has ls 3 [(0, .ref h), (1, .int (iI a1))] := hl
  have S : tS E T (tFr κ L [] []) κ L f κ L f := tS_rf hw
  refine lv_aload_n X.1 X.2.1 d_By_bitsAt_0 rfl (lv_at hl 0 rfl) ?_
  refine lv_iload_n X.1 X.2.1 d_By_bitsAt_1 rfl (lv_at hl 1 rfl) ?_
  obtain ⟨z1, e1, l1, u1⟩ := t_size S k0
  refine t_ui (t_runV (As := [.int (iI a1)]) (rest := []) (n := 1) X Y S k0 hml hl.1 (c_By_body l D E T κ L f H.size h n0 k0 (by omega) a1 (by omega) (by omega) S.1 z1 e1 (by omega) (by omega)) (ok_k X Y hA KS KR) rfl kl_By_By_body ks_By_body kx_By_body ki_By_body ini_By ⟨rfl, rfl⟩ hd_By_body ⟨Nat.le_of_ble_eq_true rfl, Nat.le_of_ble_eq_true rfl⟩ rfl (Nat.le_of_ble_eq_true rfl) d_By_bitsAt_2 ⟨Nat.le_of_ble_eq_true rfl, Nat.le_of_ble_eq_true rfl⟩) X Y hA (fun z2 H locs Y p2 => ?_)
  obtain ⟨l2, u2, x2⟩ := p2
  refine lv_istore_n (lv' := [(2, .int (iI z2)), (0, .ref h), (1, .int (iI a1))]) X.1 X.2.1 d_By_bitsAt_5 rfl hl (by decide) rfl (fun ls hl => ?_)
  refine lv_iload_n X.1 X.2.1 d_By_bitsAt_6 rfl (lv_at hl 0 rfl) ?_
  refine z_if_lt (tgt := 20) X.1 X.2.1 d_By_bitsAt_7 (by decide) ⟨by omega, by omega⟩ (fun h3 => ?_) (fun h3 => ?_)
  · refine lv_iconst (v := iI 0) X.1 X.2.1 d_By_bitsAt_20 (by decide) ?_
    exact c_reti hQQ X Y hr hlk ⟨rfl, rfl, 0, rfl, ⟨by omega, by omega⟩⟩ d_By_bitsAt_21
  · refine lv_iload_n X.1 X.2.1 d_By_bitsAt_10 rfl (lv_at hl 0 rfl) ?_
    refine lv_iconst (v := iI 5) X.1 X.2.1 d_By_bitsAt_11 (by decide) ?_
    refine z_iadd X.1 X.2.1 d_By_bitsAt_12 ?_
    refine lv_aload_n X.1 X.2.1 d_By_bitsAt_13 rfl (lv_at hl 1 rfl) ?_
    refine t_get0 (ci := 3) X Y S k0 rfl i_By 1 (by decide) rfl lk_By_21 (fun _ h9 => h9) d_By_bitsAt_14 e1 ?_
    refine z_icmp_le (tgt := 22) X.1 X.2.1 d_By_bitsAt_17 (by decide) ⟨by omega, by omega⟩ ⟨by omega, by omega⟩ (fun h4 => ?_) (fun h4 => ?_)
    · refine lv_aload_n X.1 X.2.1 d_By_bitsAt_22 rfl (lv_at hl 1 rfl) ?_
      refine lv_iload_n X.1 X.2.1 d_By_bitsAt_23 rfl (lv_at hl 0 rfl) ?_
      refine lv_iconst (v := iI 1) X.1 X.2.1 d_By_bitsAt_24 (by decide) ?_
      refine z_iadd X.1 X.2.1 d_By_bitsAt_25 ?_
      refine lv_iload_n X.1 X.2.1 d_By_bitsAt_26 rfl (lv_at hl 0 rfl) ?_
      refine lv_iconst (v := iI 5) X.1 X.2.1 d_By_bitsAt_27 (by decide) ?_
      refine z_iadd X.1 X.2.1 d_By_bitsAt_28 ?_
      refine t_ul (t_runV (As := [.int (iI (z2 + 1)), .int (iI (z2 + 5))]) (rest := []) (n := 2) X Y S k0 hml hl.1 (c_By_number l D E T κ L f H.size h n0 k0 (by omega) (z2 + 1) (by omega) (by omega) (z2 + 5) (by omega) (by omega) S.1 (by omega)) (ok_k X Y hA KS KR) rfl kl_By_By_number ks_By_number kx_By_number ki_By_number ini_By ⟨rfl, rfl⟩ hd_By_number ⟨Nat.le_of_ble_eq_true rfl, Nat.le_of_ble_eq_true rfl⟩ rfl (Nat.le_of_ble_eq_true rfl) d_By_bitsAt_29 ⟨Nat.le_of_ble_eq_true rfl, Nat.le_of_ble_eq_true rfl⟩) X Y hA (fun v5 H locs Y p5 => ?_)
      refine lv_l2i X.1 X.2.1 d_By_bitsAt_32 rfl ?_
      refine t_u (fun z6 l6 u6 => ?_)
      exact c_reti hQQ X Y hr hlk ⟨rfl, rfl, z6, rfl, ⟨by omega, by omega⟩⟩ d_By_bitsAt_33
    · refine lv_iconst (v := iI 0) X.1 X.2.1 d_By_bitsAt_20 (by decide) ?_
      exact c_reti hQQ X Y hr hlk ⟨rfl, rfl, 0, rfl, ⟨by omega, by omega⟩⟩ d_By_bitsAt_21
set_option maxHeartbeats 4000000 in
set_option maxRecDepth 100000 in
theorem c_By_hasFarBits (l : Launch) (D : va_G) (E : cE) (T : cT) (κ : tK) (L : List Nat) (f : pF) (sz : Nat) (h n0 : Nat) (k0 : κ h = (13, n0)) (x0 : n0 ≤ 12288) (a1 : Int) (l_a1 : (-1) ≤ a1) (u_a1 : a1 ≤ 20200) (hw : tW E T κ L f) : Met l y_By_hasFarBits (k_By_hasFarBits :: lw_tg) (kRm 2 85 0 0) (va_Pc [.ref h, .int (iI a1)] (kPre D E T L f sz)) (va_Qi (uPi L f (fun (z : Int) => 0 ≤ z ∧ z ≤ 1)) (cPost D E (pA L sz)) (pA L sz)) 0 0 (pA L sz) := by
  refine k_enter (own := R_By) (by decide) rfl (Nat.le_of_ble_eq_true rfl) (fun p e s m below meth c ls AV QQ H locs hQQ X Y hA hin hr hlk hml hl KS KR => ?_)
  have hl : lv_has ls 5 [(0, .ref h), (1, .int (iI a1))] := hl
  have S : tS E T (tFr κ L [] []) κ L f κ L f := tS_rf hw
  refine lv_aload_n X.1 X.2.1 d_By_hasFarBits_0 rfl (lv_at hl 0 rfl) ?_
  refine lv_iload_n X.1 X.2.1 d_By_hasFarBits_1 rfl (lv_at hl 1 rfl) ?_
  refine lv_aload_n X.1 X.2.1 d_By_hasFarBits_2 rfl (lv_at hl 0 rfl) ?_
  refine t_gets (ci := 3) X Y S k0 rfl i_By 1 (by decide) rfl lk_By_21 (fun _ h9 => h9) d_By_hasFarBits_3 (fun z1 e1 l1 u1 => ?_)
  refine t_ui (t_runV (As := [.int (iI a1), .int (iI z1)]) (rest := []) (n := 2) X Y S k0 hml hl.1 (c_By_stop l D E T κ L f H.size h n0 k0 (by omega) a1 (by omega) (by omega) z1 (by omega) (by omega) S.1 z1 e1 (by omega) (by omega)) (ok_k X Y hA KS KR) rfl kl_By_By_stop ks_By_stop kx_By_stop ki_By_stop ini_By ⟨rfl, rfl⟩ hd_By_stop ⟨Nat.le_of_ble_eq_true rfl, Nat.le_of_ble_eq_true rfl⟩ rfl (Nat.le_of_ble_eq_true rfl) d_By_hasFarBits_6 ⟨Nat.le_of_ble_eq_true rfl, Nat.le_of_ble_eq_true rfl⟩) X Y hA (fun z2 H locs Y p2 => ?_)
  obtain ⟨l2, u2, x2⟩ := p2
  refine lv_istore_n (lv' := [(2, .int (iI z2)), (0, .ref h), (1, .int (iI a1))]) X.1 X.2.1 d_By_hasFarBits_9 rfl hl (by decide) rfl (fun ls hl => ?_)
  refine lv_aload_n X.1 X.2.1 d_By_hasFarBits_10 rfl (lv_at hl 1 rfl) ?_
  refine lv_iload_n X.1 X.2.1 d_By_hasFarBits_11 rfl (lv_at hl 2 rfl) ?_
  refine t_ui (t_runV (As := [.int (iI a1)]) (rest := []) (n := 1) X Y S k0 hml hl.1 (c_By_body l D E T κ L f H.size h n0 k0 (by omega) a1 (by omega) (by omega) S.1 z1 e1 (by omega) (by omega)) (ok_k X Y hA KS KR) rfl kl_By_By_body ks_By_body kx_By_body ki_By_body ini_By ⟨rfl, rfl⟩ hd_By_body ⟨Nat.le_of_ble_eq_true rfl, Nat.le_of_ble_eq_true rfl⟩ rfl (Nat.le_of_ble_eq_true rfl) d_By_hasFarBits_12 ⟨Nat.le_of_ble_eq_true rfl, Nat.le_of_ble_eq_true rfl⟩) X Y hA (fun z3 H locs Y p3 => ?_)
  obtain ⟨l3, u3, x3⟩ := p3
  refine lv_istore_n (lv' := [(3, .int (iI z3)), (2, .int (iI z2)), (0, .ref h), (1, .int (iI a1))]) X.1 X.2.1 d_By_hasFarBits_15 rfl hl (by decide) rfl (fun ls hl => ?_)
  refine lv_iload_n X.1 X.2.1 d_By_hasFarBits_16 rfl (lv_at hl 0 rfl) ?_
  refine lv_iconst (v := iI 5) X.1 X.2.1 d_By_hasFarBits_17 (by decide) ?_
  refine z_iadd X.1 X.2.1 d_By_hasFarBits_18 ?_
  have J5 : ∀ (n7 : Nat) (z4 : Int) (H : Heap) (locs : List Loc) (ls : Array Slot), (12425 - z4).toNat = n7 → (4 ≤ z4) → (z4 ≤ 12425) → pH D cCl (pA L sz) s.heap L f H locs → tS E T (tFr κ L [] []) κ L f κ L f → lv_has ls 5 [(0, .ref h), (2, .int (iI z2)), (3, .int (iI z3)), (4, .int (iI z4))] → W p l e (kRm 2 85 0 0) s m AV below meth c H locs 0 0 QQ (F0 m 21 ls []) := by
    intro n7
    induction n7 using Nat.strongRecOn with
    | ind n7 ih6 =>
      intro z4 H locs ls hm8 l4 u4 Y S hl
      refine lv_iload_n X.1 X.2.1 d_By_hasFarBits_21 rfl (lv_at hl 2 rfl) ?_
      refine z_if_lt (tgt := 49) X.1 X.2.1 d_By_hasFarBits_22 (by decide) ⟨by omega, by omega⟩ (fun h9 => ?_) (fun h9 => ?_)
      · refine lv_iconst (v := iI 0) X.1 X.2.1 d_By_hasFarBits_49 (by decide) ?_
        exact c_retz hQQ X Y hr hlk (iI_bool (by omega) (by omega)).1 ⟨rfl, rfl, 0, rfl, ⟨by omega, by omega⟩⟩ d_By_hasFarBits_50
      · refine lv_iload X.1 X.2.1 d_By_hasFarBits_25 (lv_at hl 3 rfl) ?_
        refine lv_iload_n X.1 X.2.1 d_By_hasFarBits_27 rfl (lv_at hl 1 rfl) ?_
        refine z_icmp_ge (tgt := 49) X.1 X.2.1 d_By_hasFarBits_28 (by decide) ⟨by omega, by omega⟩ ⟨by omega, by omega⟩ (fun h10 => ?_) (fun h10 => ?_)
        · refine lv_iconst (v := iI 0) X.1 X.2.1 d_By_hasFarBits_49 (by decide) ?_
          exact c_retz hQQ X Y hr hlk (iI_bool (by omega) (by omega)).1 ⟨rfl, rfl, 0, rfl, ⟨by omega, by omega⟩⟩ d_By_hasFarBits_50
        · refine lv_aload_n X.1 X.2.1 d_By_hasFarBits_31 rfl (lv_at hl 0 rfl) ?_
          refine t_getrow (ci := 3) X Y S k0 rfl i_By 0 (by decide) rfl lk_By_15 (fun _ h9 => h9) d_By_hasFarBits_32 (fun b11 e11 k11 => ?_)
          refine lv_iload X.1 X.2.1 d_By_hasFarBits_35 (lv_at hl 3 rfl) ?_
          refine t_bald X Y S (Or.inl k11) (by omega) (by omega) (by omega) d_By_hasFarBits_37 (fun z12 l12 u12 => ?_)
          refine z_if_eq (tgt := 43) X.1 X.2.1 d_By_hasFarBits_38 (by decide) ⟨by omega, by omega⟩ (fun h13 => ?_) (fun h13 => ?_)
          · refine lv_iinc (v := iI (z4 + 1)) (lv' := [(4, .int (iI (z4 + 1))), (0, .ref h), (2, .int (iI z2)), (3, .int (iI z3))]) X.1 X.2.1 d_By_hasFarBits_43 hl (k := 3) rfl ((iI_add _ _).trans (congrArg iI (by omega))) (by decide) rfl (fun ls hl => ?_)
            refine lv_goto (tgt := 21) X.1 X.2.1 d_By_hasFarBits_46 (by decide) ?_
            exact ih6 ((12425 - (z4 + 1)).toNat) (by omega) (z4 + 1) _ _ _ rfl (by omega) (by omega) Y S (lv_sub hl [1, 2, 3, 0] rfl)
          · refine lv_iconst (v := iI 1) X.1 X.2.1 d_By_hasFarBits_41 (by decide) ?_
            exact c_retz hQQ X Y hr hlk (iI_bool (by omega) (by omega)).1 ⟨rfl, rfl, 1, rfl, ⟨by omega, by omega⟩⟩ d_By_hasFarBits_42
  refine lv_istore (lv' := [(4, .int (iI (z3 + 5))), (3, .int (iI z3)), (2, .int (iI z2)), (0, .ref h), (1, .int (iI a1))]) X.1 X.2.1 d_By_hasFarBits_19 hl (by decide) rfl (fun ls hl => ?_)
  exact J5 _ (z3 + 5) _ _ _ rfl (by omega) (by omega) Y S (lv_sub hl [3, 2, 1, 0] rfl)
set_option maxHeartbeats 4000000 in
set_option maxRecDepth 100000 in
theorem c_By_digits (l : Launch) (D : va_G) (E : cE) (T : cT) (κ : tK) (L : List Nat) (f : pF) (sz : Nat) (h n0 : Nat) (k0 : κ h = (13, n0)) (x0 : n0 ≤ 12288) (a1 : Int) (l_a1 : (-1) ≤ a1) (u_a1 : a1 ≤ 20300) (a2 : Int) (l_a2 : 0 ≤ a2) (u_a2 : a2 ≤ 4) (hw : tW E T κ L f) : Met l y_By_digits (k_By_digits :: lw_tg) (kRm 2 81 0 0) (va_Pc [.ref h, .int (iI a1), .int (iI a2)] (kPre D E T L f sz)) (va_Qi (uPi L f (fun (z : Int) => (-2147483648) ≤ z ∧ z ≤ 2147483647)) (cPost D E (pA L sz)) (pA L sz)) 0 0 (pA L sz) := by
  refine k_enter (own := R_By) (by decide) rfl (Nat.le_of_ble_eq_true rfl) (fun p e s m below meth c ls AV QQ H locs hQQ X Y hA hin hr hlk hml hl KS KR => ?_)
  have hl : lv_has ls 6 [(0, .ref h), (1, .int (iI a1)), (2, .int (iI a2))] := hl
  have S : tS E T (tFr κ L [] []) κ L f κ L f := tS_rf hw
  refine lv_iconst (v := iI 0) X.1 X.2.1 d_By_digits_0 (by decide) ?_
  refine lv_istore_n (lv' := [(3, .int (iI 0)), (0, .ref h), (1, .int (iI a1)), (2, .int (iI a2))]) X.1 X.2.1 d_By_digits_1 rfl hl (by decide) rfl (fun ls hl => ?_)
  refine lv_iload_n X.1 X.2.1 d_By_digits_2 rfl (lv_at hl 2 rfl) ?_
  have J3 : ∀ (n5 : Nat) (z1 : Int) (z2 : Int) (H : Heap) (locs : List Loc) (ls : Array Slot), (20304 - z2).toNat = n5 → ((-2147483648) ≤ z1) → (z1 ≤ 2147483647) → ((-1) ≤ z2) → (z2 ≤ 20304) → pH D cCl (pA L sz) s.heap L f H locs → tS E T (tFr κ L [] []) κ L f κ L f → lv_has ls 6 [(0, .ref h), (1, .int (iI a1)), (2, .int (iI a2)), (3, .int (iI z1)), (4, .int (iI z2))] → W p l e (kRm 2 81 0 0) s m AV below meth c H locs 0 0 QQ (F0 m 5 ls []) := by
    intro n5
    induction n5 using Nat.strongRecOn with
    | ind n5 ih4 =>
      intro z1 z2 H locs ls hm6 l1 u1 l2 u2 Y S hl
      refine lv_iload X.1 X.2.1 d_By_digits_5 (lv_at hl 4 rfl) ?_
      refine lv_iload_n X.1 X.2.1 d_By_digits_7 rfl (lv_at hl 1 rfl) ?_
      refine lv_iload_n X.1 X.2.1 d_By_digits_8 rfl (lv_at hl 2 rfl) ?_
      refine z_iadd X.1 X.2.1 d_By_digits_9 ?_
      refine z_icmp_ge (tgt := 54) X.1 X.2.1 d_By_digits_10 (by decide) ⟨by omega, by omega⟩ ⟨by omega, by omega⟩ (fun h7 => ?_) (fun h7 => ?_)
      · refine lv_iload_n X.1 X.2.1 d_By_digits_54 rfl (lv_at hl 3 rfl) ?_
        exact c_reti hQQ X Y hr hlk ⟨rfl, rfl, z1, rfl, ⟨by omega, by omega⟩⟩ d_By_digits_55
      · refine lv_aload_n X.1 X.2.1 d_By_digits_13 rfl (lv_at hl 0 rfl) ?_
        refine lv_iload X.1 X.2.1 d_By_digits_14 (lv_at hl 4 rfl) ?_
        refine t_ui (t_runV (As := [.int (iI z2)]) (rest := []) (n := 1) X Y S k0 hml hl.1 (c_By_at l D E T κ L f H.size h n0 k0 (by omega) z2 (by omega) (by omega) S.1) (ok_k X Y hA KS KR) rfl kl_By_By_at ks_By_at kx_By_at ki_By_at ini_By ⟨rfl, rfl⟩ hd_By_at ⟨Nat.le_of_ble_eq_true rfl, Nat.le_of_ble_eq_true rfl⟩ rfl (Nat.le_of_ble_eq_true rfl) d_By_digits_16 ⟨Nat.le_of_ble_eq_true rfl, Nat.le_of_ble_eq_true rfl⟩) X Y hA (fun z8 H locs Y p8 => ?_)
        obtain ⟨l8, u8⟩ := p8
        refine lv_istore (lv' := [(5, .int (iI z8)), (0, .ref h), (1, .int (iI a1)), (2, .int (iI a2)), (3, .int (iI z1)), (4, .int (iI z2))]) X.1 X.2.1 d_By_digits_19 hl (by decide) rfl (fun ls hl => ?_)
        refine lv_iload X.1 X.2.1 d_By_digits_21 (lv_at hl 0 rfl) ?_
        refine lv_bipush (v := iI 48) X.1 X.2.1 d_By_digits_23 (by decide) ?_
        refine z_icmp_lt (tgt := 35) X.1 X.2.1 d_By_digits_25 (by decide) ⟨by omega, by omega⟩ ⟨by omega, by omega⟩ (fun h9 => ?_) (fun h9 => ?_)
        · refine lv_iconst (v := iI (-1)) X.1 X.2.1 d_By_digits_35 (by decide) ?_
          exact c_reti hQQ X Y hr hlk ⟨rfl, rfl, (-1), rfl, ⟨by omega, by omega⟩⟩ d_By_digits_36
        · refine lv_iload X.1 X.2.1 d_By_digits_28 (lv_at hl 0 rfl) ?_
          refine lv_bipush (v := iI 57) X.1 X.2.1 d_By_digits_30 (by decide) ?_
          refine z_icmp_le (tgt := 37) X.1 X.2.1 d_By_digits_32 (by decide) ⟨by omega, by omega⟩ ⟨by omega, by omega⟩ (fun h10 => ?_) (fun h10 => ?_)
          · refine lv_iload_n X.1 X.2.1 d_By_digits_37 rfl (lv_at hl 4 rfl) ?_
            refine lv_bipush (v := iI 10) X.1 X.2.1 d_By_digits_38 (by decide) ?_
            refine lv_imul X.1 X.2.1 d_By_digits_40 ?_
            refine t_u (fun z11 l11 u11 => ?_)
            refine lv_iload X.1 X.2.1 d_By_digits_41 (lv_at hl 0 rfl) ?_
            refine lv_iadd X.1 X.2.1 d_By_digits_43 ?_
            refine t_u (fun z12 l12 u12 => ?_)
            refine lv_bipush (v := iI 48) X.1 X.2.1 d_By_digits_44 (by decide) ?_
            refine lv_isub X.1 X.2.1 d_By_digits_46 ?_
            refine t_u (fun z13 l13 u13 => ?_)
            refine lv_istore_n (lv' := [(3, .int (iI z13)), (5, .int (iI z8)), (0, .ref h), (1, .int (iI a1)), (2, .int (iI a2)), (4, .int (iI z2))]) X.1 X.2.1 d_By_digits_47 rfl hl (by decide) rfl (fun ls hl => ?_)
            refine lv_iinc (v := iI (z2 + 1)) (lv' := [(4, .int (iI (z2 + 1))), (3, .int (iI z13)), (5, .int (iI z8)), (0, .ref h), (1, .int (iI a1)), (2, .int (iI a2))]) X.1 X.2.1 d_By_digits_48 hl (k := 5) rfl ((iI_add _ _).trans (congrArg iI (by omega))) (by decide) rfl (fun ls hl => ?_)
            refine lv_goto (tgt := 5) X.1 X.2.1 d_By_digits_51 (by decide) ?_
            exact ih4 ((20304 - (z2 + 1)).toNat) (by omega) z13 (z2 + 1) _ _ _ rfl (by omega) (by omega) (by omega) (by omega) Y S (lv_sub hl [3, 4, 5, 1, 0] rfl)
          · refine lv_iconst (v := iI (-1)) X.1 X.2.1 d_By_digits_35 (by decide) ?_
            exact c_reti hQQ X Y hr hlk ⟨rfl, rfl, (-1), rfl, ⟨by omega, by omega⟩⟩ d_By_digits_36
  refine lv_istore (lv' := [(4, .int (iI a1)), (3, .int (iI 0)), (0, .ref h), (1, .int (iI a1)), (2, .int (iI a2))]) X.1 X.2.1 d_By_digits_3 hl (by decide) rfl (fun ls hl => ?_)
  exact J3 _ 0 a1 _ _ _ rfl (by omega) (by omega) (by omega) (by omega) Y S (lv_sub hl [2, 3, 4, 1, 0] rfl)
set_option maxHeartbeats 4000000 in
set_option maxRecDepth 100000 in
theorem c_By_timeAt (l : Launch) (D : va_G) (E : cE) (T : cT) (κ : tK) (L : List Nat) (f : pF) (sz : Nat) (h n0 : Nat) (k0 : κ h = (13, n0)) (x0 : n0 ≤ 12288) (a1 : Int) (l_a1 : (-1) ≤ a1) (u_a1 : a1 ≤ 20200) (hw : tW E T κ L f) : Met l y_By_timeAt (k_By_timeAt :: lw_tg) (kRm 3 106 0 0) (va_Pc [.ref h, .int (iI a1)] (kPre D E T L f sz)) (va_Qi (uPi L f (fun (z : Int) => (-2147483648) ≤ z ∧ z ≤ 2147483647)) (cPost D E (pA L sz)) (pA L sz)) 0 0 (pA L sz) := by
  refine k_enter (own := R_By) (by decide) rfl (Nat.le_of_ble_eq_true rfl) (fun p e s m below meth c ls AV QQ H locs hQQ X Y hA hin hr hlk hml hl KS KR => ?_)
  have hl : lv_has ls 5 [(0, .ref h), (1, .int (iI a1))] := hl
  have S : tS E T (tFr κ L [] []) κ L f κ L f := tS_rf hw
  refine lv_iload_n X.1 X.2.1 d_By_timeAt_0 rfl (lv_at hl 1 rfl) ?_
  refine z_if_ge (tgt := 6) X.1 X.2.1 d_By_timeAt_1 (by decide) ⟨by omega, by omega⟩ (fun h1 => ?_) (fun h1 => ?_)
  · refine lv_aload_n X.1 X.2.1 d_By_timeAt_6 rfl (lv_at hl 0 rfl) ?_
    refine lv_iload_n X.1 X.2.1 d_By_timeAt_7 rfl (lv_at hl 1 rfl) ?_
    obtain ⟨z2, e2, l2, u2⟩ := t_size S k0
    refine t_ui (t_runV (As := [.int (iI a1)]) (rest := []) (n := 1) X Y S k0 hml hl.1 (c_By_body l D E T κ L f H.size h n0 k0 (by omega) a1 (by omega) (by omega) S.1 z2 e2 (by omega) (by omega)) (ok_k X Y hA KS KR) rfl kl_By_By_body ks_By_body kx_By_body ki_By_body ini_By ⟨rfl, rfl⟩ hd_By_body ⟨Nat.le_of_ble_eq_true rfl, Nat.le_of_ble_eq_true rfl⟩ rfl (Nat.le_of_ble_eq_true rfl) d_By_timeAt_8 ⟨Nat.le_of_ble_eq_true rfl, Nat.le_of_ble_eq_true rfl⟩) X Y hA (fun z3 H locs Y p3 => ?_)
    obtain ⟨l3, u3, x3⟩ := p3
    refine lv_istore_n (lv' := [(2, .int (iI z3)), (0, .ref h), (1, .int (iI a1))]) X.1 X.2.1 d_By_timeAt_11 rfl hl (by decide) rfl (fun ls hl => ?_)
    refine lv_aload_n X.1 X.2.1 d_By_timeAt_12 rfl (lv_at hl 1 rfl) ?_
    refine lv_iload_n X.1 X.2.1 d_By_timeAt_13 rfl (lv_at hl 0 rfl) ?_
    refine lv_iconst (v := iI 4) X.1 X.2.1 d_By_timeAt_14 (by decide) ?_
    refine t_ui (t_runV (As := [.int (iI z3), .int (iI 4)]) (rest := []) (n := 2) X Y S k0 hml hl.1 (c_By_digits l D E T κ L f H.size h n0 k0 (by omega) z3 (by omega) (by omega) 4 (by omega) (by omega) S.1) (ok_k X Y hA KS KR) rfl kl_By_By_digits ks_By_digits kx_By_digits ki_By_digits ini_By ⟨rfl, rfl⟩ hd_By_digits ⟨Nat.le_of_ble_eq_true rfl, Nat.le_of_ble_eq_true rfl⟩ rfl (Nat.le_of_ble_eq_true rfl) d_By_timeAt_15 ⟨Nat.le_of_ble_eq_true rfl, Nat.le_of_ble_eq_true rfl⟩) X Y hA (fun z4 H locs Y p4 => ?_)
    obtain ⟨l4, u4⟩ := p4
    refine lv_aload_n X.1 X.2.1 d_By_timeAt_18 rfl (lv_at hl 1 rfl) ?_
    refine lv_iload_n X.1 X.2.1 d_By_timeAt_19 rfl (lv_at hl 0 rfl) ?_
    refine lv_iconst (v := iI 4) X.1 X.2.1 d_By_timeAt_20 (by decide) ?_
    refine z_iadd X.1 X.2.1 d_By_timeAt_21 ?_
    refine lv_iconst (v := iI 2) X.1 X.2.1 d_By_timeAt_22 (by decide) ?_
    refine t_ui (t_runV (As := [.int (iI (z3 + 4)), .int (iI 2)]) (rest := [.int (iI z4)]) (n := 2) X Y S k0 hml hl.1 (c_By_digits l D E T κ L f H.size h n0 k0 (by omega) (z3 + 4) (by omega) (by omega) 2 (by omega) (by omega) S.1) (ok_k X Y hA KS KR) rfl kl_By_By_digits ks_By_digits kx_By_digits ki_By_digits ini_By ⟨rfl, rfl⟩ hd_By_digits ⟨Nat.le_of_ble_eq_true rfl, Nat.le_of_ble_eq_true rfl⟩ rfl (Nat.le_of_ble_eq_true rfl) d_By_timeAt_23 ⟨Nat.le_of_ble_eq_true rfl, Nat.le_of_ble_eq_true rfl⟩) X Y hA (fun z5 H locs Y p5 => ?_)
    obtain ⟨l5, u5⟩ := p5
    refine t_ui (x_runS (As := [.int (iI z4), .int (iI z5)]) (rest := []) (n := 2) X hml hl.1 (c_By_daysBefore l D E T κ L f H.size z4 (by omega) (by omega) z5 (by omega) (by omega) S.1) (ok_k X Y hA KS KR) kl_By_By_daysBefore ks_By_daysBefore ki_By_daysBefore ini_By ⟨rfl, rfl⟩ hd_By_daysBefore.2 ⟨Nat.le_of_ble_eq_true rfl, Nat.le_of_ble_eq_true rfl⟩ rfl (Nat.le_of_ble_eq_true rfl) d_By_timeAt_26 ⟨Nat.le_of_ble_eq_true rfl, Nat.le_of_ble_eq_true rfl⟩) X Y hA (fun z6 H locs Y p6 => ?_)
    obtain ⟨l6, u6⟩ := p6
    refine lv_aload_n X.1 X.2.1 d_By_timeAt_29 rfl (lv_at hl 1 rfl) ?_
    refine lv_iload_n X.1 X.2.1 d_By_timeAt_30 rfl (lv_at hl 0 rfl) ?_
    refine lv_bipush (v := iI 6) X.1 X.2.1 d_By_timeAt_31 (by decide) ?_
    refine z_iadd X.1 X.2.1 d_By_timeAt_33 ?_
    refine lv_iconst (v := iI 2) X.1 X.2.1 d_By_timeAt_34 (by decide) ?_
    refine t_ui (t_runV (As := [.int (iI (z3 + 6)), .int (iI 2)]) (rest := [.int (iI z6)]) (n := 2) X Y S k0 hml hl.1 (c_By_digits l D E T κ L f H.size h n0 k0 (by omega) (z3 + 6) (by omega) (by omega) 2 (by omega) (by omega) S.1) (ok_k X Y hA KS KR) rfl kl_By_By_digits ks_By_digits kx_By_digits ki_By_digits ini_By ⟨rfl, rfl⟩ hd_By_digits ⟨Nat.le_of_ble_eq_true rfl, Nat.le_of_ble_eq_true rfl⟩ rfl (Nat.le_of_ble_eq_true rfl) d_By_timeAt_35 ⟨Nat.le_of_ble_eq_true rfl, Nat.le_of_ble_eq_true rfl⟩) X Y hA (fun z7 H locs Y p7 => ?_)
    obtain ⟨l7, u7⟩ := p7
    refine lv_iadd X.1 X.2.1 d_By_timeAt_38 ?_
    refine t_u (fun z8 l8 u8 => ?_)
    refine lv_iconst (v := iI 1) X.1 X.2.1 d_By_timeAt_39 (by decide) ?_
    refine lv_isub X.1 X.2.1 d_By_timeAt_40 ?_
    refine t_u (fun z9 l9 u9 => ?_)
    refine lv_istore_n (lv' := [(3, .int (iI z9)), (2, .int (iI z3)), (0, .ref h), (1, .int (iI a1))]) X.1 X.2.1 d_By_timeAt_41 rfl hl (by decide) rfl (fun ls hl => ?_)
    refine lv_aload_n X.1 X.2.1 d_By_timeAt_42 rfl (lv_at hl 2 rfl) ?_
    refine lv_iload_n X.1 X.2.1 d_By_timeAt_43 rfl (lv_at hl 1 rfl) ?_
    refine lv_bipush (v := iI 8) X.1 X.2.1 d_By_timeAt_44 (by decide) ?_
    refine z_iadd X.1 X.2.1 d_By_timeAt_46 ?_
    refine lv_iconst (v := iI 2) X.1 X.2.1 d_By_timeAt_47 (by decide) ?_
    refine t_ui (t_runV (As := [.int (iI (z3 + 8)), .int (iI 2)]) (rest := []) (n := 2) X Y S k0 hml hl.1 (c_By_digits l D E T κ L f H.size h n0 k0 (by omega) (z3 + 8) (by omega) (by omega) 2 (by omega) (by omega) S.1) (ok_k X Y hA KS KR) rfl kl_By_By_digits ks_By_digits kx_By_digits ki_By_digits ini_By ⟨rfl, rfl⟩ hd_By_digits ⟨Nat.le_of_ble_eq_true rfl, Nat.le_of_ble_eq_true rfl⟩ rfl (Nat.le_of_ble_eq_true rfl) d_By_timeAt_48 ⟨Nat.le_of_ble_eq_true rfl, Nat.le_of_ble_eq_true rfl⟩) X Y hA (fun z10 H locs Y p10 => ?_)
    obtain ⟨l10, u10⟩ := p10
    refine lv_bipush (v := iI 60) X.1 X.2.1 d_By_timeAt_51 (by decide) ?_
    refine lv_imul X.1 X.2.1 d_By_timeAt_53 ?_
    refine t_u (fun z11 l11 u11 => ?_)
    refine lv_aload_n X.1 X.2.1 d_By_timeAt_54 rfl (lv_at hl 2 rfl) ?_
    refine lv_iload_n X.1 X.2.1 d_By_timeAt_55 rfl (lv_at hl 1 rfl) ?_
    refine lv_bipush (v := iI 10) X.1 X.2.1 d_By_timeAt_56 (by decide) ?_
    refine z_iadd X.1 X.2.1 d_By_timeAt_58 ?_
    refine lv_iconst (v := iI 2) X.1 X.2.1 d_By_timeAt_59 (by decide) ?_
    refine t_ui (t_runV (As := [.int (iI (z3 + 10)), .int (iI 2)]) (rest := [.int (iI z11)]) (n := 2) X Y S k0 hml hl.1 (c_By_digits l D E T κ L f H.size h n0 k0 (by omega) (z3 + 10) (by omega) (by omega) 2 (by omega) (by omega) S.1) (ok_k X Y hA KS KR) rfl kl_By_By_digits ks_By_digits kx_By_digits ki_By_digits ini_By ⟨rfl, rfl⟩ hd_By_digits ⟨Nat.le_of_ble_eq_true rfl, Nat.le_of_ble_eq_true rfl⟩ rfl (Nat.le_of_ble_eq_true rfl) d_By_timeAt_60 ⟨Nat.le_of_ble_eq_true rfl, Nat.le_of_ble_eq_true rfl⟩) X Y hA (fun z12 H locs Y p12 => ?_)
    obtain ⟨l12, u12⟩ := p12
    refine lv_iadd X.1 X.2.1 d_By_timeAt_63 ?_
    refine t_u (fun z13 l13 u13 => ?_)
    refine lv_istore (lv' := [(4, .int (iI z13)), (3, .int (iI z9)), (2, .int (iI z3)), (0, .ref h), (1, .int (iI a1))]) X.1 X.2.1 d_By_timeAt_64 hl (by decide) rfl (fun ls hl => ?_)
    refine lv_iload_n X.1 X.2.1 d_By_timeAt_66 rfl (lv_at hl 1 rfl) ?_
    refine lv_ldc (v := (86400)) X.1 X.2.1 X.2.2.2.1 (X.2.2.1 _ cn_By_101) d_By_timeAt_67 ?_
    refine t_eq (y := iI 86400) (by decide) ?_
    refine lv_imul X.1 X.2.1 d_By_timeAt_69 ?_
    refine t_u (fun z14 l14 u14 => ?_)
    refine lv_iload X.1 X.2.1 d_By_timeAt_70 (lv_at hl 0 rfl) ?_
    refine lv_bipush (v := iI 60) X.1 X.2.1 d_By_timeAt_72 (by decide) ?_
    refine lv_imul X.1 X.2.1 d_By_timeAt_74 ?_
    refine t_u (fun z15 l15 u15 => ?_)
    refine lv_iadd X.1 X.2.1 d_By_timeAt_75 ?_
    refine t_u (fun z16 l16 u16 => ?_)
    refine lv_aload_n X.1 X.2.1 d_By_timeAt_76 rfl (lv_at hl 3 rfl) ?_
    refine lv_iload_n X.1 X.2.1 d_By_timeAt_77 rfl (lv_at hl 2 rfl) ?_
    refine lv_bipush (v := iI 12) X.1 X.2.1 d_By_timeAt_78 (by decide) ?_
    refine z_iadd X.1 X.2.1 d_By_timeAt_80 ?_
    refine lv_iconst (v := iI 2) X.1 X.2.1 d_By_timeAt_81 (by decide) ?_
    refine t_ui (t_runV (As := [.int (iI (z3 + 12)), .int (iI 2)]) (rest := [.int (iI z16)]) (n := 2) X Y S k0 hml hl.1 (c_By_digits l D E T κ L f H.size h n0 k0 (by omega) (z3 + 12) (by omega) (by omega) 2 (by omega) (by omega) S.1) (ok_k X Y hA KS KR) rfl kl_By_By_digits ks_By_digits kx_By_digits ki_By_digits ini_By ⟨rfl, rfl⟩ hd_By_digits ⟨Nat.le_of_ble_eq_true rfl, Nat.le_of_ble_eq_true rfl⟩ rfl (Nat.le_of_ble_eq_true rfl) d_By_timeAt_82 ⟨Nat.le_of_ble_eq_true rfl, Nat.le_of_ble_eq_true rfl⟩) X Y hA (fun z17 H locs Y p17 => ?_)
    obtain ⟨l17, u17⟩ := p17
    refine lv_iadd X.1 X.2.1 d_By_timeAt_85 ?_
    refine t_u (fun z18 l18 u18 => ?_)
    exact c_reti hQQ X Y hr hlk ⟨rfl, rfl, z18, rfl, ⟨by omega, by omega⟩⟩ d_By_timeAt_86
  · refine lv_iconst (v := iI (-1)) X.1 X.2.1 d_By_timeAt_4 (by decide) ?_
    exact c_reti hQQ X Y hr hlk ⟨rfl, rfl, (-1), rfl, ⟨by omega, by omega⟩⟩ d_By_timeAt_5
set_option maxHeartbeats 4000000 in
set_option maxRecDepth 100000 in
theorem c_By_isRealm (l : Launch) (D : va_G) (E : cE) (T : cT) (κ : tK) (L : List Nat) (f : pF) (sz : Nat) (h n0 : Nat) (k0 : κ h = (13, n0)) (x0 : n0 ≤ 12288) (a1 : Int) (l_a1 : (-1) ≤ a1) (u_a1 : a1 ≤ 20200) (hw : tW E T κ L f) : Met l y_By_isRealm (k_By_isRealm :: lw_tg) (kRm 5 114 0 0) (va_Pc [.ref h, .int (iI a1)] (kPre D E T L f sz)) (va_Qi (uPi L f (fun (z : Int) => 0 ≤ z ∧ z ≤ 1)) (cPost D E (pA L sz)) (pA L sz)) 0 0 (pA L sz) := by
  refine k_enter (own := R_By) (by decide) rfl (Nat.le_of_ble_eq_true rfl) (fun p e s m below meth c ls AV QQ H locs hQQ X Y hA hin hr hlk hml hl KS KR => ?_)
  have hl : lv_has ls 2 [(0, .ref h), (1, .int (iI a1))] := hl
  have S : tS E T (tFr κ L [] []) κ L f κ L f := tS_rf hw
  refine lv_iload_n X.1 X.2.1 d_By_isRealm_0 rfl (lv_at hl 1 rfl) ?_
  refine z_if_lt (tgt := 31) X.1 X.2.1 d_By_isRealm_1 (by decide) ⟨by omega, by omega⟩ (fun h1 => ?_) (fun h1 => ?_)
  · refine lv_iconst (v := iI 0) X.1 X.2.1 d_By_isRealm_31 (by decide) ?_
    exact c_retz hQQ X Y hr hlk (iI_bool (by omega) (by omega)).1 ⟨rfl, rfl, 0, rfl, ⟨by omega, by omega⟩⟩ d_By_isRealm_32
  · refine lv_aload_n X.1 X.2.1 d_By_isRealm_4 rfl (lv_at hl 0 rfl) ?_
    refine lv_aload_n X.1 X.2.1 d_By_isRealm_5 rfl (lv_at hl 0 rfl) ?_
    refine lv_iload_n X.1 X.2.1 d_By_isRealm_6 rfl (lv_at hl 1 rfl) ?_
    obtain ⟨z2, e2, l2, u2⟩ := t_size S k0
    refine t_ui (t_runV (As := [.int (iI a1)]) (rest := [.ref h]) (n := 1) X Y S k0 hml hl.1 (c_By_body l D E T κ L f H.size h n0 k0 (by omega) a1 (by omega) (by omega) S.1 z2 e2 (by omega) (by omega)) (ok_k X Y hA KS KR) rfl kl_By_By_body ks_By_body kx_By_body ki_By_body ini_By ⟨rfl, rfl⟩ hd_By_body ⟨Nat.le_of_ble_eq_true rfl, Nat.le_of_ble_eq_true rfl⟩ rfl (Nat.le_of_ble_eq_true rfl) d_By_isRealm_7 ⟨Nat.le_of_ble_eq_true rfl, Nat.le_of_ble_eq_true rfl⟩) X Y hA (fun z3 H locs Y p3 => ?_)
    obtain ⟨l3, u3, x3⟩ := p3
    refine lv_aload_n X.1 X.2.1 d_By_isRealm_10 rfl (lv_at hl 0 rfl) ?_
    refine lv_iload_n X.1 X.2.1 d_By_isRealm_11 rfl (lv_at hl 1 rfl) ?_
    refine lv_aload_n X.1 X.2.1 d_By_isRealm_12 rfl (lv_at hl 0 rfl) ?_
    refine t_get0 (ci := 3) X Y S k0 rfl i_By 1 (by decide) rfl lk_By_21 (fun _ h9 => h9) d_By_isRealm_13 e2 ?_
    refine t_ui (t_runV (As := [.int (iI a1), .int (iI z2)]) (rest := [.int (iI z3), .ref h]) (n := 2) X Y S k0 hml hl.1 (c_By_stop l D E T κ L f H.size h n0 k0 (by omega) a1 (by omega) (by omega) z2 (by omega) (by omega) S.1 z2 e2 (by omega) (by omega)) (ok_k X Y hA KS KR) rfl kl_By_By_stop ks_By_stop kx_By_stop ki_By_stop ini_By ⟨rfl, rfl⟩ hd_By_stop ⟨Nat.le_of_ble_eq_true rfl, Nat.le_of_ble_eq_true rfl⟩ rfl (Nat.le_of_ble_eq_true rfl) d_By_isRealm_16 ⟨Nat.le_of_ble_eq_true rfl, Nat.le_of_ble_eq_true rfl⟩) X Y hA (fun z4 H locs Y p4 => ?_)
    obtain ⟨l4, u4, x4⟩ := p4
    refine k_ldcS (i := 27) X KR (by decide) ⟨by decide, by decide⟩ d_By_isRealm_19 ?_
    refine t_ui (t_runV (As := [.int (iI z3), .int (iI z4), .ref ((T.2.1 27))]) (rest := []) (n := 3) X Y S k0 hml hl.1 (c_By_isText l D E T κ L f H.size h n0 k0 (by omega) z3 (by omega) (by omega) z4 (by omega) (by omega) 27 (show 27 < nY by decide) S.1) (ok_k X Y hA KS KR) rfl kl_By_By_isText ks_By_isText kx_By_isText ki_By_isText ini_By ⟨rfl, rfl⟩ hd_By_isText ⟨Nat.le_of_ble_eq_true rfl, Nat.le_of_ble_eq_true rfl⟩ rfl (Nat.le_of_ble_eq_true rfl) d_By_isRealm_21 ⟨Nat.le_of_ble_eq_true rfl, Nat.le_of_ble_eq_true rfl⟩) X Y hA (fun z5 H locs Y p5 => ?_)
    obtain ⟨l5, u5⟩ := p5
    refine z_if_eq (tgt := 31) X.1 X.2.1 d_By_isRealm_24 (by decide) ⟨by omega, by omega⟩ (fun h6 => ?_) (fun h6 => ?_)
    · refine lv_iconst (v := iI 0) X.1 X.2.1 d_By_isRealm_31 (by decide) ?_
      exact c_retz hQQ X Y hr hlk (iI_bool (by omega) (by omega)).1 ⟨rfl, rfl, 0, rfl, ⟨by omega, by omega⟩⟩ d_By_isRealm_32
    · refine lv_iconst (v := iI 1) X.1 X.2.1 d_By_isRealm_27 (by decide) ?_
      refine lv_goto (tgt := 32) X.1 X.2.1 d_By_isRealm_28 (by decide) ?_
      exact c_retz hQQ X Y hr hlk (iI_bool (by omega) (by omega)).1 ⟨rfl, rfl, 1, rfl, ⟨by omega, by omega⟩⟩ d_By_isRealm_32
set_option maxHeartbeats 4000000 in
set_option maxRecDepth 100000 in
theorem c_By_isNamed (l : Launch) (D : va_G) (E : cE) (T : cT) (κ : tK) (L : List Nat) (f : pF) (sz : Nat) (h n0 : Nat) (k0 : κ h = (13, n0)) (x0 : n0 ≤ 12288) (a1 : Int) (l_a1 : (-1) ≤ a1) (u_a1 : a1 ≤ 20200) (a2 n2 : Nat) (k2 : κ a2 = (13, n2)) (x2 : n2 ≤ 12288) (hw : tW E T κ L f) : Met l y_By_isNamed (k_By_isNamed :: lw_tg) (kRm 3 112 0 0) (va_Pc [.ref h, .int (iI a1), .ref a2] (kPre D E T L f sz)) (va_Qi (uPi L f (fun (z : Int) => 0 ≤ z ∧ z ≤ 1)) (cPost D E (pA L sz)) (pA L sz)) 0 0 (pA L sz) := by
  refine k_enter (own := R_By) (by decide) rfl (Nat.le_of_ble_eq_true rfl) (fun p e s m below meth c ls AV QQ H locs hQQ X Y hA hin hr hlk hml hl KS KR => ?_)
  have hl : lv_has ls 4 [(0, .ref h), (1, .int (iI a1)), (2, .ref a2)] := hl
  have S : tS E T (tFr κ L [] []) κ L f κ L f := tS_rf hw
  refine lv_aload_n X.1 X.2.1 d_By_isNamed_0 rfl (lv_at hl 0 rfl) ?_
  refine lv_iload_n X.1 X.2.1 d_By_isNamed_1 rfl (lv_at hl 1 rfl) ?_
  refine lv_iconst (v := iI 1) X.1 X.2.1 d_By_isNamed_2 (by decide) ?_
  refine t_ui (t_runV (As := [.int (iI a1), .int (iI 1)]) (rest := []) (n := 2) X Y S k0 hml hl.1 (c_By_field l D E T κ L f H.size h n0 k0 (by omega) a1 (by omega) (by omega) 1 (by omega) (by omega) S.1) (ok_k X Y hA KS KR) rfl kl_By_By_field ks_By_field kx_By_field ki_By_field ini_By ⟨rfl, rfl⟩ hd_By_field ⟨Nat.le_of_ble_eq_true rfl, Nat.le_of_ble_eq_true rfl⟩ rfl (Nat.le_of_ble_eq_true rfl) d_By_isNamed_3 ⟨Nat.le_of_ble_eq_true rfl, Nat.le_of_ble_eq_true rfl⟩) X Y hA (fun z1 H locs Y p1 => ?_)
  obtain ⟨l1, u1⟩ := p1
  refine lv_istore_n (lv' := [(3, .int (iI z1)), (0, .ref h), (1, .int (iI a1)), (2, .ref a2)]) X.1 X.2.1 d_By_isNamed_6 rfl hl (by decide) rfl (fun ls hl => ?_)
  refine lv_iload_n X.1 X.2.1 d_By_isNamed_7 rfl (lv_at hl 0 rfl) ?_
  refine z_if_lt (tgt := 42) X.1 X.2.1 d_By_isNamed_8 (by decide) ⟨by omega, by omega⟩ (fun h2 => ?_) (fun h2 => ?_)
  · refine lv_iconst (v := iI 0) X.1 X.2.1 d_By_isNamed_42 (by decide) ?_
    exact c_retz hQQ X Y hr hlk (iI_bool (by omega) (by omega)).1 ⟨rfl, rfl, 0, rfl, ⟨by omega, by omega⟩⟩ d_By_isNamed_43
  · refine lv_aload_n X.1 X.2.1 d_By_isNamed_11 rfl (lv_at hl 1 rfl) ?_
    refine lv_aload_n X.1 X.2.1 d_By_isNamed_12 rfl (lv_at hl 1 rfl) ?_
    refine lv_iload_n X.1 X.2.1 d_By_isNamed_13 rfl (lv_at hl 0 rfl) ?_
    obtain ⟨z3, e3, l3, u3⟩ := t_size S k0
    refine t_ui (t_runV (As := [.int (iI z1)]) (rest := [.ref h]) (n := 1) X Y S k0 hml hl.1 (c_By_body l D E T κ L f H.size h n0 k0 (by omega) z1 (by omega) (by omega) S.1 z3 e3 (by omega) (by omega)) (ok_k X Y hA KS KR) rfl kl_By_By_body ks_By_body kx_By_body ki_By_body ini_By ⟨rfl, rfl⟩ hd_By_body ⟨Nat.le_of_ble_eq_true rfl, Nat.le_of_ble_eq_true rfl⟩ rfl (Nat.le_of_ble_eq_true rfl) d_By_isNamed_14 ⟨Nat.le_of_ble_eq_true rfl, Nat.le_of_ble_eq_true rfl⟩) X Y hA (fun z4 H locs Y p4 => ?_)
    obtain ⟨l4, u4, x4⟩ := p4
    refine lv_aload_n X.1 X.2.1 d_By_isNamed_17 rfl (lv_at hl 1 rfl) ?_
    refine lv_iload_n X.1 X.2.1 d_By_isNamed_18 rfl (lv_at hl 0 rfl) ?_
    refine lv_aload_n X.1 X.2.1 d_By_isNamed_19 rfl (lv_at hl 1 rfl) ?_
    refine t_get0 (ci := 3) X Y S k0 rfl i_By 1 (by decide) rfl lk_By_21 (fun _ h9 => h9) d_By_isNamed_20 e3 ?_
    refine t_ui (t_runV (As := [.int (iI z1), .int (iI z3)]) (rest := [.int (iI z4), .ref h]) (n := 2) X Y S k0 hml hl.1 (c_By_stop l D E T κ L f H.size h n0 k0 (by omega) z1 (by omega) (by omega) z3 (by omega) (by omega) S.1 z3 e3 (by omega) (by omega)) (ok_k X Y hA KS KR) rfl kl_By_By_stop ks_By_stop kx_By_stop ki_By_stop ini_By ⟨rfl, rfl⟩ hd_By_stop ⟨Nat.le_of_ble_eq_true rfl, Nat.le_of_ble_eq_true rfl⟩ rfl (Nat.le_of_ble_eq_true rfl) d_By_isNamed_23 ⟨Nat.le_of_ble_eq_true rfl, Nat.le_of_ble_eq_true rfl⟩) X Y hA (fun z5 H locs Y p5 => ?_)
    obtain ⟨l5, u5, x5⟩ := p5
    refine lv_aload_n X.1 X.2.1 d_By_isNamed_26 rfl (lv_at hl 3 rfl) ?_
    refine lv_iconst (v := iI 0) X.1 X.2.1 d_By_isNamed_27 (by decide) ?_
    refine lv_aload_n X.1 X.2.1 d_By_isNamed_28 rfl (lv_at hl 3 rfl) ?_
    refine t_gets (ci := 3) X Y S k2 rfl i_By 1 (by decide) rfl lk_By_21 (fun _ h9 => h9) d_By_isNamed_29 (fun z6 e6 l6 u6 => ?_)
    refine t_ui (t_runV (As := [.int (iI z4), .int (iI z5), .ref a2, .int (iI 0), .int (iI z6)]) (rest := []) (n := 5) X Y S k0 hml hl.1 (c_By_sameAs l D E T κ L f H.size h n0 k0 (by omega) z4 (by omega) (by omega) z5 (by omega) (by omega) a2 n2 k2 (by omega) 0 (by omega) (by omega) z6 (by omega) (by omega) S.1) (ok_k X Y hA KS KR) rfl kl_By_By_sameAs ks_By_sameAs kx_By_sameAs ki_By_sameAs ini_By ⟨rfl, rfl⟩ hd_By_sameAs ⟨Nat.le_of_ble_eq_true rfl, Nat.le_of_ble_eq_true rfl⟩ rfl (Nat.le_of_ble_eq_true rfl) d_By_isNamed_32 ⟨Nat.le_of_ble_eq_true rfl, Nat.le_of_ble_eq_true rfl⟩) X Y hA (fun z7 H locs Y p7 => ?_)
    obtain ⟨l7, u7⟩ := p7
    refine z_if_eq (tgt := 42) X.1 X.2.1 d_By_isNamed_35 (by decide) ⟨by omega, by omega⟩ (fun h8 => ?_) (fun h8 => ?_)
    · refine lv_iconst (v := iI 0) X.1 X.2.1 d_By_isNamed_42 (by decide) ?_
      exact c_retz hQQ X Y hr hlk (iI_bool (by omega) (by omega)).1 ⟨rfl, rfl, 0, rfl, ⟨by omega, by omega⟩⟩ d_By_isNamed_43
    · refine lv_iconst (v := iI 1) X.1 X.2.1 d_By_isNamed_38 (by decide) ?_
      refine lv_goto (tgt := 43) X.1 X.2.1 d_By_isNamed_39 (by decide) ?_
      exact c_retz hQQ X Y hr hlk (iI_bool (by omega) (by omega)).1 ⟨rfl, rfl, 1, rfl, ⟨by omega, by omega⟩⟩ d_By_isNamed_43
set_option maxHeartbeats 4000000 in
set_option maxRecDepth 100000 in
theorem c_By_sameParts (l : Launch) (D : va_G) (E : cE) (T : cT) (κ : tK) (L : List Nat) (f : pF) (sz : Nat) (h n0 : Nat) (k0 : κ h = (13, n0)) (x0 : n0 ≤ 12288) (a1 : Int) (l_a1 : (-1) ≤ a1) (u_a1 : a1 ≤ 20200) (a2 n2 : Nat) (k2 : κ a2 = (13, n2)) (x2 : n2 ≤ 12288) (a3 : Int) (l_a3 : (-1) ≤ a3) (u_a3 : a3 ≤ 20200) (hw : tW E T κ L f) : Met l y_By_sameParts (k_By_sameParts :: lw_tg) (kRm 3 112 0 0) (va_Pc [.ref h, .int (iI a1), .ref a2, .int (iI a3)] (kPre D E T L f sz)) (va_Qi (uPi L f (fun (z : Int) => 0 ≤ z ∧ z ≤ 1)) (cPost D E (pA L sz)) (pA L sz)) 0 0 (pA L sz) := by
  refine k_enter (own := R_By) (by decide) rfl (Nat.le_of_ble_eq_true rfl) (fun p e s m below meth c ls AV QQ H locs hQQ X Y hA hin hr hlk hml hl KS KR => ?_)
  have hl : lv_has ls 6 [(0, .ref h), (1, .int (iI a1)), (2, .ref a2), (3, .int (iI a3))] := hl
  have S : tS E T (tFr κ L [] []) κ L f κ L f := tS_rf hw
  refine lv_aload_n X.1 X.2.1 d_By_sameParts_0 rfl (lv_at hl 0 rfl) ?_
  refine lv_iload_n X.1 X.2.1 d_By_sameParts_1 rfl (lv_at hl 1 rfl) ?_
  refine lv_iconst (v := iI 1) X.1 X.2.1 d_By_sameParts_2 (by decide) ?_
  refine t_ui (t_runV (As := [.int (iI a1), .int (iI 1)]) (rest := []) (n := 2) X Y S k0 hml hl.1 (c_By_field l D E T κ L f H.size h n0 k0 (by omega) a1 (by omega) (by omega) 1 (by omega) (by omega) S.1) (ok_k X Y hA KS KR) rfl kl_By_By_field ks_By_field kx_By_field ki_By_field ini_By ⟨rfl, rfl⟩ hd_By_field ⟨Nat.le_of_ble_eq_true rfl, Nat.le_of_ble_eq_true rfl⟩ rfl (Nat.le_of_ble_eq_true rfl) d_By_sameParts_3 ⟨Nat.le_of_ble_eq_true rfl, Nat.le_of_ble_eq_true rfl⟩) X Y hA (fun z1 H locs Y p1 => ?_)
  obtain ⟨l1, u1⟩ := p1
  refine lv_istore (lv' := [(4, .int (iI z1)), (0, .ref h), (1, .int (iI a1)), (2, .ref a2), (3, .int (iI a3))]) X.1 X.2.1 d_By_sameParts_6 hl (by decide) rfl (fun ls hl => ?_)
  refine lv_aload_n X.1 X.2.1 d_By_sameParts_8 rfl (lv_at hl 3 rfl) ?_
  refine lv_iload_n X.1 X.2.1 d_By_sameParts_9 rfl (lv_at hl 4 rfl) ?_
  refine lv_iconst (v := iI 1) X.1 X.2.1 d_By_sameParts_10 (by decide) ?_
  refine t_ui (t_runV (As := [.int (iI a3), .int (iI 1)]) (rest := []) (n := 2) X Y S k2 hml hl.1 (c_By_field l D E T κ L f H.size a2 n2 k2 (by omega) a3 (by omega) (by omega) 1 (by omega) (by omega) S.1) (ok_k X Y hA KS KR) rfl kl_By_By_field ks_By_field kx_By_field ki_By_field ini_By ⟨rfl, rfl⟩ hd_By_field ⟨Nat.le_of_ble_eq_true rfl, Nat.le_of_ble_eq_true rfl⟩ rfl (Nat.le_of_ble_eq_true rfl) d_By_sameParts_11 ⟨Nat.le_of_ble_eq_true rfl, Nat.le_of_ble_eq_true rfl⟩) X Y hA (fun z2 H locs Y p2 => ?_)
  obtain ⟨l2, u2⟩ := p2
  refine lv_istore (lv' := [(5, .int (iI z2)), (4, .int (iI z1)), (0, .ref h), (1, .int (iI a1)), (2, .ref a2), (3, .int (iI a3))]) X.1 X.2.1 d_By_sameParts_14 hl (by decide) rfl (fun ls hl => ?_)
  refine lv_iload X.1 X.2.1 d_By_sameParts_16 (lv_at hl 1 rfl) ?_
  refine z_if_lt (tgt := 62) X.1 X.2.1 d_By_sameParts_18 (by decide) ⟨by omega, by omega⟩ (fun h3 => ?_) (fun h3 => ?_)
  · refine lv_iconst (v := iI 0) X.1 X.2.1 d_By_sameParts_62 (by decide) ?_
    exact c_retz hQQ X Y hr hlk (iI_bool (by omega) (by omega)).1 ⟨rfl, rfl, 0, rfl, ⟨by omega, by omega⟩⟩ d_By_sameParts_63
  · refine lv_iload X.1 X.2.1 d_By_sameParts_21 (lv_at hl 0 rfl) ?_
    refine z_if_lt (tgt := 62) X.1 X.2.1 d_By_sameParts_23 (by decide) ⟨by omega, by omega⟩ (fun h4 => ?_) (fun h4 => ?_)
    · refine lv_iconst (v := iI 0) X.1 X.2.1 d_By_sameParts_62 (by decide) ?_
      exact c_retz hQQ X Y hr hlk (iI_bool (by omega) (by omega)).1 ⟨rfl, rfl, 0, rfl, ⟨by omega, by omega⟩⟩ d_By_sameParts_63
    · refine lv_aload_n X.1 X.2.1 d_By_sameParts_26 rfl (lv_at hl 2 rfl) ?_
      refine lv_iload X.1 X.2.1 d_By_sameParts_27 (lv_at hl 1 rfl) ?_
      refine lv_aload_n X.1 X.2.1 d_By_sameParts_29 rfl (lv_at hl 2 rfl) ?_
      refine lv_iload X.1 X.2.1 d_By_sameParts_30 (lv_at hl 1 rfl) ?_
      refine lv_aload_n X.1 X.2.1 d_By_sameParts_32 rfl (lv_at hl 2 rfl) ?_
      refine t_gets (ci := 3) X Y S k0 rfl i_By 1 (by decide) rfl lk_By_21 (fun _ h9 => h9) d_By_sameParts_33 (fun z5 e5 l5 u5 => ?_)
      refine t_ui (t_runV (As := [.int (iI z1), .int (iI z5)]) (rest := [.int (iI z1), .ref h]) (n := 2) X Y S k0 hml hl.1 (c_By_stop l D E T κ L f H.size h n0 k0 (by omega) z1 (by omega) (by omega) z5 (by omega) (by omega) S.1 z5 e5 (by omega) (by omega)) (ok_k X Y hA KS KR) rfl kl_By_By_stop ks_By_stop kx_By_stop ki_By_stop ini_By ⟨rfl, rfl⟩ hd_By_stop ⟨Nat.le_of_ble_eq_true rfl, Nat.le_of_ble_eq_true rfl⟩ rfl (Nat.le_of_ble_eq_true rfl) d_By_sameParts_36 ⟨Nat.le_of_ble_eq_true rfl, Nat.le_of_ble_eq_true rfl⟩) X Y hA (fun z6 H locs Y p6 => ?_)
      obtain ⟨l6, u6, x6⟩ := p6
      refine lv_aload_n X.1 X.2.1 d_By_sameParts_39 rfl (lv_at hl 4 rfl) ?_
      refine lv_iload X.1 X.2.1 d_By_sameParts_40 (lv_at hl 0 rfl) ?_
      refine lv_aload_n X.1 X.2.1 d_By_sameParts_42 rfl (lv_at hl 4 rfl) ?_
      refine lv_iload X.1 X.2.1 d_By_sameParts_43 (lv_at hl 0 rfl) ?_
      refine lv_aload_n X.1 X.2.1 d_By_sameParts_45 rfl (lv_at hl 4 rfl) ?_
      refine t_gets (ci := 3) X Y S k2 rfl i_By 1 (by decide) rfl lk_By_21 (fun _ h9 => h9) d_By_sameParts_46 (fun z7 e7 l7 u7 => ?_)
      refine t_ui (t_runV (As := [.int (iI z2), .int (iI z7)]) (rest := [.int (iI z2), .ref a2, .int (iI z6), .int (iI z1), .ref h]) (n := 2) X Y S k2 hml hl.1 (c_By_stop l D E T κ L f H.size a2 n2 k2 (by omega) z2 (by omega) (by omega) z7 (by omega) (by omega) S.1 z7 e7 (by omega) (by omega)) (ok_k X Y hA KS KR) rfl kl_By_By_stop ks_By_stop kx_By_stop ki_By_stop ini_By ⟨rfl, rfl⟩ hd_By_stop ⟨Nat.le_of_ble_eq_true rfl, Nat.le_of_ble_eq_true rfl⟩ rfl (Nat.le_of_ble_eq_true rfl) d_By_sameParts_49 ⟨Nat.le_of_ble_eq_true rfl, Nat.le_of_ble_eq_true rfl⟩) X Y hA (fun z8 H locs Y p8 => ?_)
      obtain ⟨l8, u8, x8⟩ := p8
      refine t_ui (t_runV (As := [.int (iI z1), .int (iI z6), .ref a2, .int (iI z2), .int (iI z8)]) (rest := []) (n := 5) X Y S k0 hml hl.1 (c_By_sameAs l D E T κ L f H.size h n0 k0 (by omega) z1 (by omega) (by omega) z6 (by omega) (by omega) a2 n2 k2 (by omega) z2 (by omega) (by omega) z8 (by omega) (by omega) S.1) (ok_k X Y hA KS KR) rfl kl_By_By_sameAs ks_By_sameAs kx_By_sameAs ki_By_sameAs ini_By ⟨rfl, rfl⟩ hd_By_sameAs ⟨Nat.le_of_ble_eq_true rfl, Nat.le_of_ble_eq_true rfl⟩ rfl (Nat.le_of_ble_eq_true rfl) d_By_sameParts_52 ⟨Nat.le_of_ble_eq_true rfl, Nat.le_of_ble_eq_true rfl⟩) X Y hA (fun z9 H locs Y p9 => ?_)
      obtain ⟨l9, u9⟩ := p9
      refine z_if_eq (tgt := 62) X.1 X.2.1 d_By_sameParts_55 (by decide) ⟨by omega, by omega⟩ (fun h10 => ?_) (fun h10 => ?_)
      · refine lv_iconst (v := iI 0) X.1 X.2.1 d_By_sameParts_62 (by decide) ?_
        exact c_retz hQQ X Y hr hlk (iI_bool (by omega) (by omega)).1 ⟨rfl, rfl, 0, rfl, ⟨by omega, by omega⟩⟩ d_By_sameParts_63
      · refine lv_iconst (v := iI 1) X.1 X.2.1 d_By_sameParts_58 (by decide) ?_
        refine lv_goto (tgt := 63) X.1 X.2.1 d_By_sameParts_59 (by decide) ?_
        exact c_retz hQQ X Y hr hlk (iI_bool (by omega) (by omega)).1 ⟨rfl, rfl, 1, rfl, ⟨by omega, by omega⟩⟩ d_By_sameParts_63
set_option maxHeartbeats 4000000 in
set_option maxRecDepth 100000 in
theorem c_By_partsSize (l : Launch) (D : va_G) (E : cE) (T : cT) (κ : tK) (L : List Nat) (f : pF) (sz : Nat) (h n0 : Nat) (k0 : κ h = (13, n0)) (x0 : n0 ≤ 12288) (a1 : Int) (l_a1 : (-1) ≤ a1) (u_a1 : a1 ≤ 20200) (hw : tW E T κ L f) : Met l y_By_partsSize (k_By_partsSize :: lw_tg) (kRm 3 112 0 0) (va_Pc [.ref h, .int (iI a1)] (kPre D E T L f sz)) (va_Qi (uPi L f (fun (z : Int) => (-12430) ≤ z ∧ z ≤ 12430)) (cPost D E (pA L sz)) (pA L sz)) 0 0 (pA L sz) := by
  refine k_enter (own := R_By) (by decide) rfl (Nat.le_of_ble_eq_true rfl) (fun p e s m below meth c ls AV QQ H locs hQQ X Y hA hin hr hlk hml hl KS KR => ?_)
  have hl : lv_has ls 3 [(0, .ref h), (1, .int (iI a1))] := hl
  have S : tS E T (tFr κ L [] []) κ L f κ L f := tS_rf hw
  refine lv_aload_n X.1 X.2.1 d_By_partsSize_0 rfl (lv_at hl 0 rfl) ?_
  refine lv_iload_n X.1 X.2.1 d_By_partsSize_1 rfl (lv_at hl 1 rfl) ?_
  refine lv_iconst (v := iI 1) X.1 X.2.1 d_By_partsSize_2 (by decide) ?_
  refine t_ui (t_runV (As := [.int (iI a1), .int (iI 1)]) (rest := []) (n := 2) X Y S k0 hml hl.1 (c_By_field l D E T κ L f H.size h n0 k0 (by omega) a1 (by omega) (by omega) 1 (by omega) (by omega) S.1) (ok_k X Y hA KS KR) rfl kl_By_By_field ks_By_field kx_By_field ki_By_field ini_By ⟨rfl, rfl⟩ hd_By_field ⟨Nat.le_of_ble_eq_true rfl, Nat.le_of_ble_eq_true rfl⟩ rfl (Nat.le_of_ble_eq_true rfl) d_By_partsSize_3 ⟨Nat.le_of_ble_eq_true rfl, Nat.le_of_ble_eq_true rfl⟩) X Y hA (fun z1 H locs Y p1 => ?_)
  obtain ⟨l1, u1⟩ := p1
  refine lv_istore_n (lv' := [(2, .int (iI z1)), (0, .ref h), (1, .int (iI a1))]) X.1 X.2.1 d_By_partsSize_6 rfl hl (by decide) rfl (fun ls hl => ?_)
  refine lv_aload_n X.1 X.2.1 d_By_partsSize_7 rfl (lv_at hl 1 rfl) ?_
  refine lv_iload_n X.1 X.2.1 d_By_partsSize_8 rfl (lv_at hl 0 rfl) ?_
  refine lv_aload_n X.1 X.2.1 d_By_partsSize_9 rfl (lv_at hl 1 rfl) ?_
  refine t_gets (ci := 3) X Y S k0 rfl i_By 1 (by decide) rfl lk_By_21 (fun _ h9 => h9) d_By_partsSize_10 (fun z2 e2 l2 u2 => ?_)
  refine t_ui (t_runV (As := [.int (iI z1), .int (iI z2)]) (rest := []) (n := 2) X Y S k0 hml hl.1 (c_By_stop l D E T κ L f H.size h n0 k0 (by omega) z1 (by omega) (by omega) z2 (by omega) (by omega) S.1 z2 e2 (by omega) (by omega)) (ok_k X Y hA KS KR) rfl kl_By_By_stop ks_By_stop kx_By_stop ki_By_stop ini_By ⟨rfl, rfl⟩ hd_By_stop ⟨Nat.le_of_ble_eq_true rfl, Nat.le_of_ble_eq_true rfl⟩ rfl (Nat.le_of_ble_eq_true rfl) d_By_partsSize_13 ⟨Nat.le_of_ble_eq_true rfl, Nat.le_of_ble_eq_true rfl⟩) X Y hA (fun z3 H locs Y p3 => ?_)
  obtain ⟨l3, u3, x3⟩ := p3
  refine lv_aload_n X.1 X.2.1 d_By_partsSize_16 rfl (lv_at hl 1 rfl) ?_
  refine lv_iload_n X.1 X.2.1 d_By_partsSize_17 rfl (lv_at hl 0 rfl) ?_
  refine t_ui (t_runV (As := [.int (iI z1)]) (rest := [.int (iI z3)]) (n := 1) X Y S k0 hml hl.1 (c_By_body l D E T κ L f H.size h n0 k0 (by omega) z1 (by omega) (by omega) S.1 z2 e2 (by omega) (by omega)) (ok_k X Y hA KS KR) rfl kl_By_By_body ks_By_body kx_By_body ki_By_body ini_By ⟨rfl, rfl⟩ hd_By_body ⟨Nat.le_of_ble_eq_true rfl, Nat.le_of_ble_eq_true rfl⟩ rfl (Nat.le_of_ble_eq_true rfl) d_By_partsSize_18 ⟨Nat.le_of_ble_eq_true rfl, Nat.le_of_ble_eq_true rfl⟩) X Y hA (fun z4 H locs Y p4 => ?_)
  obtain ⟨l4, u4, x4⟩ := p4
  refine z_isub X.1 X.2.1 d_By_partsSize_21 ?_
  exact c_reti hQQ X Y hr hlk ⟨rfl, rfl, z3 - z4, rfl, ⟨by omega, by omega⟩⟩ d_By_partsSize_22
set_option maxHeartbeats 4000000 in
set_option maxRecDepth 100000 in
theorem c_By_isNumber (l : Launch) (D : va_G) (E : cE) (T : cT) (κ : tK) (L : List Nat) (f : pF) (sz : Nat) (h n0 : Nat) (k0 : κ h = (13, n0)) (x0 : n0 ≤ 12288) (a1 : Int) (l_a1 : (-1) ≤ a1) (u_a1 : a1 ≤ 20200) (a2 : Int) (l_a2 : (-1) ≤ a2) (u_a2 : a2 ≤ 20200) (a3 : Int64) (a4 : Int64) (hw : tW E T κ L f) : Met l y_By_isNumber (k_By_isNumber :: lw_tg) (kRm 2 85 0 0) (va_Pc [.ref h, .int (iI a1), .int (iI a2), .long a3, .long a4] (kPre D E T L f sz)) (va_Qi (uPi L f (fun (z : Int) => 0 ≤ z ∧ z ≤ 1)) (cPost D E (pA L sz)) (pA L sz)) 0 0 (pA L sz) := by
  refine k_enter (own := R_By) (by decide) rfl (Nat.le_of_ble_eq_true rfl) (fun p e s m below meth c ls AV QQ H locs hQQ X Y hA hin hr hlk hml hl KS KR => ?_)
  have hl : lv_has ls 9 [(0, .ref h), (1, .int (iI a1)), (2, .int (iI a2)), (3, .long a3), (5, .long a4)] := hl
  have S : tS E T (tFr κ L [] []) κ L f κ L f := tS_rf hw
  refine lv_iload_n X.1 X.2.1 d_By_isNumber_0 rfl (lv_at hl 1 rfl) ?_
  refine z_if_lt (tgt := 24) X.1 X.2.1 d_By_isNumber_1 (by decide) ⟨by omega, by omega⟩ (fun h1 => ?_) (fun h1 => ?_)
  · refine lv_iconst (v := iI 0) X.1 X.2.1 d_By_isNumber_24 (by decide) ?_
    exact c_retz hQQ X Y hr hlk (iI_bool (by omega) (by omega)).1 ⟨rfl, rfl, 0, rfl, ⟨by omega, by omega⟩⟩ d_By_isNumber_25
  · refine lv_iload_n X.1 X.2.1 d_By_isNumber_4 rfl (lv_at hl 2 rfl) ?_
    refine lv_iload_n X.1 X.2.1 d_By_isNumber_5 rfl (lv_at hl 1 rfl) ?_
    refine z_icmp_le (tgt := 24) X.1 X.2.1 d_By_isNumber_6 (by decide) ⟨by omega, by omega⟩ ⟨by omega, by omega⟩ (fun h2 => ?_) (fun h2 => ?_)
    · refine lv_iconst (v := iI 0) X.1 X.2.1 d_By_isNumber_24 (by decide) ?_
      exact c_retz hQQ X Y hr hlk (iI_bool (by omega) (by omega)).1 ⟨rfl, rfl, 0, rfl, ⟨by omega, by omega⟩⟩ d_By_isNumber_25
    · refine lv_iload_n X.1 X.2.1 d_By_isNumber_9 rfl (lv_at hl 2 rfl) ?_
      refine lv_iload_n X.1 X.2.1 d_By_isNumber_10 rfl (lv_at hl 1 rfl) ?_
      refine z_isub X.1 X.2.1 d_By_isNumber_11 ?_
      refine lv_iconst (v := iI 5) X.1 X.2.1 d_By_isNumber_12 (by decide) ?_
      refine z_icmp_gt (tgt := 24) X.1 X.2.1 d_By_isNumber_13 (by decide) ⟨by omega, by omega⟩ ⟨by omega, by omega⟩ (fun h3 => ?_) (fun h3 => ?_)
      · refine lv_iconst (v := iI 0) X.1 X.2.1 d_By_isNumber_24 (by decide) ?_
        exact c_retz hQQ X Y hr hlk (iI_bool (by omega) (by omega)).1 ⟨rfl, rfl, 0, rfl, ⟨by omega, by omega⟩⟩ d_By_isNumber_25
      · refine lv_iload_n X.1 X.2.1 d_By_isNumber_16 rfl (lv_at hl 2 rfl) ?_
        refine lv_aload_n X.1 X.2.1 d_By_isNumber_17 rfl (lv_at hl 0 rfl) ?_
        refine t_gets (ci := 3) X Y S k0 rfl i_By 1 (by decide) rfl lk_By_21 (fun _ h9 => h9) d_By_isNumber_18 (fun z4 e4 l4 u4 => ?_)
        refine z_icmp_le (tgt := 26) X.1 X.2.1 d_By_isNumber_21 (by decide) ⟨by omega, by omega⟩ ⟨by omega, by omega⟩ (fun h5 => ?_) (fun h5 => ?_)
        · refine lv_iload_n X.1 X.2.1 d_By_isNumber_26 rfl (lv_at hl 2 rfl) ?_
          refine lv_iload_n X.1 X.2.1 d_By_isNumber_27 rfl (lv_at hl 1 rfl) ?_
          refine z_isub X.1 X.2.1 d_By_isNumber_28 ?_
          refine lv_iconst (v := iI 1) X.1 X.2.1 d_By_isNumber_29 (by decide) ?_
          have J6 : ∀  (H : Heap) (locs : List Loc) (ls : Array Slot), pH D cCl (pA L sz) s.heap L f H locs → tS E T (tFr κ L [] []) κ L f κ L f → lv_has ls 9 [(0, .ref h), (1, .int (iI a1)), (2, .int (iI a2)), (3, .long a3), (5, .long a4)] → W p l e (kRm 2 85 0 0) s m AV below meth c H locs 0 0 QQ (F0 m 76 ls []) := by
            intro  H locs ls  Y S hl
            refine lv_aload_n X.1 X.2.1 d_By_isNumber_76 rfl (lv_at hl 0 rfl) ?_
            refine lv_iload_n X.1 X.2.1 d_By_isNumber_77 rfl (lv_at hl 1 rfl) ?_
            refine lv_iload_n X.1 X.2.1 d_By_isNumber_78 rfl (lv_at hl 2 rfl) ?_
            refine t_ul (t_runV (As := [.int (iI a1), .int (iI a2)]) (rest := []) (n := 2) X Y S k0 hml hl.1 (c_By_number l D E T κ L f H.size h n0 k0 (by omega) a1 (by omega) (by omega) a2 (by omega) (by omega) S.1 (by omega)) (ok_k X Y hA KS KR) rfl kl_By_By_number ks_By_number kx_By_number ki_By_number ini_By ⟨rfl, rfl⟩ hd_By_number ⟨Nat.le_of_ble_eq_true rfl, Nat.le_of_ble_eq_true rfl⟩ rfl (Nat.le_of_ble_eq_true rfl) d_By_isNumber_79 ⟨Nat.le_of_ble_eq_true rfl, Nat.le_of_ble_eq_true rfl⟩) X Y hA (fun v10 H locs Y p10 => ?_)
            refine lv_lstore (lv' := [(7, .long v10), (0, .ref h), (1, .int (iI a1)), (2, .int (iI a2)), (3, .long a3), (5, .long a4)]) X.1 X.2.1 d_By_isNumber_82 hl (by decide) rfl (fun ls hl => ?_)
            refine lv_lload X.1 X.2.1 d_By_isNumber_84 (lv_at hl 0 rfl) ?_
            refine lv_lload_n X.1 X.2.1 d_By_isNumber_86 rfl (lv_at hl 4 rfl) ?_
            refine W.lcmp X.1 X.2.1 d_By_isNumber_87 ?_
            refine t_u (fun z11 l11 u11 => ?_)
            refine z_if_lt (tgt := 103) X.1 X.2.1 d_By_isNumber_88 (by decide) ⟨by omega, by omega⟩ (fun h12 => ?_) (fun h12 => ?_)
            · refine lv_iconst (v := iI 0) X.1 X.2.1 d_By_isNumber_103 (by decide) ?_
              exact c_retz hQQ X Y hr hlk (iI_bool (by omega) (by omega)).1 ⟨rfl, rfl, 0, rfl, ⟨by omega, by omega⟩⟩ d_By_isNumber_104
            · refine lv_lload X.1 X.2.1 d_By_isNumber_91 (lv_at hl 0 rfl) ?_
              refine lv_lload X.1 X.2.1 d_By_isNumber_93 (lv_at hl 5 rfl) ?_
              refine W.lcmp X.1 X.2.1 d_By_isNumber_95 ?_
              refine t_u (fun z13 l13 u13 => ?_)
              refine z_if_gt (tgt := 103) X.1 X.2.1 d_By_isNumber_96 (by decide) ⟨by omega, by omega⟩ (fun h14 => ?_) (fun h14 => ?_)
              · refine lv_iconst (v := iI 0) X.1 X.2.1 d_By_isNumber_103 (by decide) ?_
                exact c_retz hQQ X Y hr hlk (iI_bool (by omega) (by omega)).1 ⟨rfl, rfl, 0, rfl, ⟨by omega, by omega⟩⟩ d_By_isNumber_104
              · refine lv_iconst (v := iI 1) X.1 X.2.1 d_By_isNumber_99 (by decide) ?_
                refine lv_goto (tgt := 104) X.1 X.2.1 d_By_isNumber_100 (by decide) ?_
                exact c_retz hQQ X Y hr hlk (iI_bool (by omega) (by omega)).1 ⟨rfl, rfl, 1, rfl, ⟨by omega, by omega⟩⟩ d_By_isNumber_104
          refine z_icmp_le (tgt := 76) X.1 X.2.1 d_By_isNumber_30 (by decide) ⟨by omega, by omega⟩ ⟨by omega, by omega⟩ (fun h15 => ?_) (fun h15 => ?_)
          · exact J6  _ _ _  Y S (lv_sub hl [0, 1, 2, 3, 4] rfl)
          · refine lv_aload_n X.1 X.2.1 d_By_isNumber_33 rfl (lv_at hl 0 rfl) ?_
            refine t_getrow (ci := 3) X Y S k0 rfl i_By 0 (by decide) rfl lk_By_15 (fun _ h9 => h9) d_By_isNumber_34 (fun b16 e16 k16 => ?_)
            refine lv_iload_n X.1 X.2.1 d_By_isNumber_37 rfl (lv_at hl 1 rfl) ?_
            refine t_bald X Y S (Or.inl k16) (by omega) (by omega) (by omega) d_By_isNumber_38 (fun z17 l17 u17 => ?_)
            have J18 : ∀  (H : Heap) (locs : List Loc) (ls : Array Slot), pH D cCl (pA L sz) s.heap L f H locs → tS E T (tFr κ L [] []) κ L f κ L f → lv_has ls 9 [(0, .ref h), (1, .int (iI a1)), (2, .int (iI a2)), (3, .long a3), (5, .long a4)] → W p l e (kRm 2 85 0 0) s m AV below meth c H locs 0 0 QQ (F0 m 53 ls []) := by
              intro  H locs ls  Y S hl
              refine lv_aload_n X.1 X.2.1 d_By_isNumber_53 rfl (lv_at hl 0 rfl) ?_
              refine t_get0 (ci := 3) X Y S k0 rfl i_By 0 (by decide) rfl lk_By_15 (fun _ h9 => h9) d_By_isNumber_54 e16 ?_
              refine lv_iload_n X.1 X.2.1 d_By_isNumber_57 rfl (lv_at hl 1 rfl) ?_
              refine t_bald X Y S (Or.inl k16) (by omega) (by omega) (by omega) d_By_isNumber_58 (fun z22 l22 u22 => ?_)
              refine lv_iconst (v := iI (-1)) X.1 X.2.1 d_By_isNumber_59 (by decide) ?_
              refine z_icmp_ne (tgt := 76) X.1 X.2.1 d_By_isNumber_60 (by decide) ⟨by omega, by omega⟩ ⟨by omega, by omega⟩ (fun h23 => ?_) (fun h23 => ?_)
              · exact J6  _ _ _  Y S (lv_sub hl [0, 1, 2, 3, 4] rfl)
              · refine lv_aload_n X.1 X.2.1 d_By_isNumber_63 rfl (lv_at hl 0 rfl) ?_
                refine t_get0 (ci := 3) X Y S k0 rfl i_By 0 (by decide) rfl lk_By_15 (fun _ h9 => h9) d_By_isNumber_64 e16 ?_
                refine lv_iload_n X.1 X.2.1 d_By_isNumber_67 rfl (lv_at hl 1 rfl) ?_
                refine lv_iconst (v := iI 1) X.1 X.2.1 d_By_isNumber_68 (by decide) ?_
                refine z_iadd X.1 X.2.1 d_By_isNumber_69 ?_
                refine t_bald X Y S (Or.inl k16) (by omega) (by omega) (by omega) d_By_isNumber_70 (fun z24 l24 u24 => ?_)
                refine z_if_ge (tgt := 76) X.1 X.2.1 d_By_isNumber_71 (by decide) ⟨by omega, by omega⟩ (fun h25 => ?_) (fun h25 => ?_)
                · exact J6  _ _ _  Y S (lv_sub hl [0, 1, 2, 3, 4] rfl)
                · refine lv_iconst (v := iI 0) X.1 X.2.1 d_By_isNumber_74 (by decide) ?_
                  exact c_retz hQQ X Y hr hlk (iI_bool (by omega) (by omega)).1 ⟨rfl, rfl, 0, rfl, ⟨by omega, by omega⟩⟩ d_By_isNumber_75
            refine z_if_ne (tgt := 53) X.1 X.2.1 d_By_isNumber_39 (by decide) ⟨by omega, by omega⟩ (fun h26 => ?_) (fun h26 => ?_)
            · exact J18  _ _ _  Y S (lv_sub hl [0, 1, 2, 3, 4] rfl)
            · refine lv_aload_n X.1 X.2.1 d_By_isNumber_42 rfl (lv_at hl 0 rfl) ?_
              refine t_get0 (ci := 3) X Y S k0 rfl i_By 0 (by decide) rfl lk_By_15 (fun _ h9 => h9) d_By_isNumber_43 e16 ?_
              refine lv_iload_n X.1 X.2.1 d_By_isNumber_46 rfl (lv_at hl 1 rfl) ?_
              refine lv_iconst (v := iI 1) X.1 X.2.1 d_By_isNumber_47 (by decide) ?_
              refine z_iadd X.1 X.2.1 d_By_isNumber_48 ?_
              refine t_bald X Y S (Or.inl k16) (by omega) (by omega) (by omega) d_By_isNumber_49 (fun z27 l27 u27 => ?_)
              refine z_if_ge (tgt := 74) X.1 X.2.1 d_By_isNumber_50 (by decide) ⟨by omega, by omega⟩ (fun h28 => ?_) (fun h28 => ?_)
              · refine lv_iconst (v := iI 0) X.1 X.2.1 d_By_isNumber_74 (by decide) ?_
                exact c_retz hQQ X Y hr hlk (iI_bool (by omega) (by omega)).1 ⟨rfl, rfl, 0, rfl, ⟨by omega, by omega⟩⟩ d_By_isNumber_75
              · exact J18  _ _ _  Y S (lv_sub hl [0, 1, 2, 3, 4] rfl)
        · refine lv_iconst (v := iI 0) X.1 X.2.1 d_By_isNumber_24 (by decide) ?_
          exact c_retz hQQ X Y hr hlk (iI_bool (by omega) (by omega)).1 ⟨rfl, rfl, 0, rfl, ⟨by omega, by omega⟩⟩ d_By_isNumber_25
set_option maxHeartbeats 4000000 in
set_option maxRecDepth 100000 in
theorem c_By_isTime (l : Launch) (D : va_G) (E : cE) (T : cT) (κ : tK) (L : List Nat) (f : pF) (sz : Nat) (h n0 : Nat) (k0 : κ h = (13, n0)) (x0 : n0 ≤ 12288) (a1 : Int) (l_a1 : (-1) ≤ a1) (u_a1 : a1 ≤ 20200) (a2 : Int) (l_a2 : (-1) ≤ a2) (u_a2 : a2 ≤ 20200) (hw : tW E T κ L f) : Met l y_By_isTime (k_By_isTime :: lw_tg) (kRm 3 106 0 0) (va_Pc [.ref h, .int (iI a1), .int (iI a2)] (kPre D E T L f sz)) (va_Qi (uPi L f (fun (z : Int) => 0 ≤ z ∧ z ≤ 1)) (cPost D E (pA L sz)) (pA L sz)) 0 0 (pA L sz) := by
  refine k_enter (own := R_By) (by decide) rfl (Nat.le_of_ble_eq_true rfl) (fun p e s m below meth c ls AV QQ H locs hQQ X Y hA hin hr hlk hml hl KS KR => ?_)
  have hl : lv_has ls 9 [(0, .ref h), (1, .int (iI a1)), (2, .int (iI a2))] := hl
  have S : tS E T (tFr κ L [] []) κ L f κ L f := tS_rf hw
  refine lv_iload_n X.1 X.2.1 d_By_isTime_0 rfl (lv_at hl 2 rfl) ?_
  refine lv_iload_n X.1 X.2.1 d_By_isTime_1 rfl (lv_at hl 1 rfl) ?_
  refine z_isub X.1 X.2.1 d_By_isTime_2 ?_
  refine lv_bipush (v := iI 15) X.1 X.2.1 d_By_isTime_3 (by decide) ?_
  refine z_icmp_ne (tgt := 21) X.1 X.2.1 d_By_isTime_5 (by decide) ⟨by omega, by omega⟩ ⟨by omega, by omega⟩ (fun h1 => ?_) (fun h1 => ?_)
  · refine lv_iconst (v := iI 0) X.1 X.2.1 d_By_isTime_21 (by decide) ?_
    exact c_retz hQQ X Y hr hlk (iI_bool (by omega) (by omega)).1 ⟨rfl, rfl, 0, rfl, ⟨by omega, by omega⟩⟩ d_By_isTime_22
  · refine lv_aload_n X.1 X.2.1 d_By_isTime_8 rfl (lv_at hl 0 rfl) ?_
    refine lv_iload_n X.1 X.2.1 d_By_isTime_9 rfl (lv_at hl 1 rfl) ?_
    refine lv_bipush (v := iI 14) X.1 X.2.1 d_By_isTime_10 (by decide) ?_
    refine z_iadd X.1 X.2.1 d_By_isTime_12 ?_
    refine t_ui (t_runV (As := [.int (iI (a1 + 14))]) (rest := []) (n := 1) X Y S k0 hml hl.1 (c_By_at l D E T κ L f H.size h n0 k0 (by omega) (a1 + 14) (by omega) (by omega) S.1) (ok_k X Y hA KS KR) rfl kl_By_By_at ks_By_at kx_By_at ki_By_at ini_By ⟨rfl, rfl⟩ hd_By_at ⟨Nat.le_of_ble_eq_true rfl, Nat.le_of_ble_eq_true rfl⟩ rfl (Nat.le_of_ble_eq_true rfl) d_By_isTime_13 ⟨Nat.le_of_ble_eq_true rfl, Nat.le_of_ble_eq_true rfl⟩) X Y hA (fun z2 H locs Y p2 => ?_)
    obtain ⟨l2, u2⟩ := p2
    refine lv_bipush (v := iI 90) X.1 X.2.1 d_By_isTime_16 (by decide) ?_
    refine z_icmp_eq (tgt := 23) X.1 X.2.1 d_By_isTime_18 (by decide) ⟨by omega, by omega⟩ ⟨by omega, by omega⟩ (fun h3 => ?_) (fun h3 => ?_)
    · refine lv_aload_n X.1 X.2.1 d_By_isTime_23 rfl (lv_at hl 0 rfl) ?_
      refine lv_iload_n X.1 X.2.1 d_By_isTime_24 rfl (lv_at hl 1 rfl) ?_
      refine lv_iconst (v := iI 4) X.1 X.2.1 d_By_isTime_25 (by decide) ?_
      refine t_ui (t_runV (As := [.int (iI a1), .int (iI 4)]) (rest := []) (n := 2) X Y S k0 hml hl.1 (c_By_digits l D E T κ L f H.size h n0 k0 (by omega) a1 (by omega) (by omega) 4 (by omega) (by omega) S.1) (ok_k X Y hA KS KR) rfl kl_By_By_digits ks_By_digits kx_By_digits ki_By_digits ini_By ⟨rfl, rfl⟩ hd_By_digits ⟨Nat.le_of_ble_eq_true rfl, Nat.le_of_ble_eq_true rfl⟩ rfl (Nat.le_of_ble_eq_true rfl) d_By_isTime_26 ⟨Nat.le_of_ble_eq_true rfl, Nat.le_of_ble_eq_true rfl⟩) X Y hA (fun z4 H locs Y p4 => ?_)
      obtain ⟨l4, u4⟩ := p4
      refine lv_istore_n (lv' := [(3, .int (iI z4)), (0, .ref h), (1, .int (iI a1)), (2, .int (iI a2))]) X.1 X.2.1 d_By_isTime_29 rfl hl (by decide) rfl (fun ls hl => ?_)
      refine lv_aload_n X.1 X.2.1 d_By_isTime_30 rfl (lv_at hl 1 rfl) ?_
      refine lv_iload_n X.1 X.2.1 d_By_isTime_31 rfl (lv_at hl 2 rfl) ?_
      refine lv_iconst (v := iI 4) X.1 X.2.1 d_By_isTime_32 (by decide) ?_
      refine z_iadd X.1 X.2.1 d_By_isTime_33 ?_
      refine lv_iconst (v := iI 2) X.1 X.2.1 d_By_isTime_34 (by decide) ?_
      refine t_ui (t_runV (As := [.int (iI (a1 + 4)), .int (iI 2)]) (rest := []) (n := 2) X Y S k0 hml hl.1 (c_By_digits l D E T κ L f H.size h n0 k0 (by omega) (a1 + 4) (by omega) (by omega) 2 (by omega) (by omega) S.1) (ok_k X Y hA KS KR) rfl kl_By_By_digits ks_By_digits kx_By_digits ki_By_digits ini_By ⟨rfl, rfl⟩ hd_By_digits ⟨Nat.le_of_ble_eq_true rfl, Nat.le_of_ble_eq_true rfl⟩ rfl (Nat.le_of_ble_eq_true rfl) d_By_isTime_35 ⟨Nat.le_of_ble_eq_true rfl, Nat.le_of_ble_eq_true rfl⟩) X Y hA (fun z5 H locs Y p5 => ?_)
      obtain ⟨l5, u5⟩ := p5
      refine lv_istore (lv' := [(4, .int (iI z5)), (3, .int (iI z4)), (0, .ref h), (1, .int (iI a1)), (2, .int (iI a2))]) X.1 X.2.1 d_By_isTime_38 hl (by decide) rfl (fun ls hl => ?_)
      refine lv_aload_n X.1 X.2.1 d_By_isTime_40 rfl (lv_at hl 2 rfl) ?_
      refine lv_iload_n X.1 X.2.1 d_By_isTime_41 rfl (lv_at hl 3 rfl) ?_
      refine lv_bipush (v := iI 6) X.1 X.2.1 d_By_isTime_42 (by decide) ?_
      refine z_iadd X.1 X.2.1 d_By_isTime_44 ?_
      refine lv_iconst (v := iI 2) X.1 X.2.1 d_By_isTime_45 (by decide) ?_
      refine t_ui (t_runV (As := [.int (iI (a1 + 6)), .int (iI 2)]) (rest := []) (n := 2) X Y S k0 hml hl.1 (c_By_digits l D E T κ L f H.size h n0 k0 (by omega) (a1 + 6) (by omega) (by omega) 2 (by omega) (by omega) S.1) (ok_k X Y hA KS KR) rfl kl_By_By_digits ks_By_digits kx_By_digits ki_By_digits ini_By ⟨rfl, rfl⟩ hd_By_digits ⟨Nat.le_of_ble_eq_true rfl, Nat.le_of_ble_eq_true rfl⟩ rfl (Nat.le_of_ble_eq_true rfl) d_By_isTime_46 ⟨Nat.le_of_ble_eq_true rfl, Nat.le_of_ble_eq_true rfl⟩) X Y hA (fun z6 H locs Y p6 => ?_)
      obtain ⟨l6, u6⟩ := p6
      refine lv_istore (lv' := [(5, .int (iI z6)), (4, .int (iI z5)), (3, .int (iI z4)), (0, .ref h), (1, .int (iI a1)), (2, .int (iI a2))]) X.1 X.2.1 d_By_isTime_49 hl (by decide) rfl (fun ls hl => ?_)
      refine lv_aload_n X.1 X.2.1 d_By_isTime_51 rfl (lv_at hl 3 rfl) ?_
      refine lv_iload_n X.1 X.2.1 d_By_isTime_52 rfl (lv_at hl 4 rfl) ?_
      refine lv_bipush (v := iI 8) X.1 X.2.1 d_By_isTime_53 (by decide) ?_
      refine z_iadd X.1 X.2.1 d_By_isTime_55 ?_
      refine lv_iconst (v := iI 2) X.1 X.2.1 d_By_isTime_56 (by decide) ?_
      refine t_ui (t_runV (As := [.int (iI (a1 + 8)), .int (iI 2)]) (rest := []) (n := 2) X Y S k0 hml hl.1 (c_By_digits l D E T κ L f H.size h n0 k0 (by omega) (a1 + 8) (by omega) (by omega) 2 (by omega) (by omega) S.1) (ok_k X Y hA KS KR) rfl kl_By_By_digits ks_By_digits kx_By_digits ki_By_digits ini_By ⟨rfl, rfl⟩ hd_By_digits ⟨Nat.le_of_ble_eq_true rfl, Nat.le_of_ble_eq_true rfl⟩ rfl (Nat.le_of_ble_eq_true rfl) d_By_isTime_57 ⟨Nat.le_of_ble_eq_true rfl, Nat.le_of_ble_eq_true rfl⟩) X Y hA (fun z7 H locs Y p7 => ?_)
      obtain ⟨l7, u7⟩ := p7
      refine lv_istore (lv' := [(6, .int (iI z7)), (5, .int (iI z6)), (4, .int (iI z5)), (3, .int (iI z4)), (0, .ref h), (1, .int (iI a1)), (2, .int (iI a2))]) X.1 X.2.1 d_By_isTime_60 hl (by decide) rfl (fun ls hl => ?_)
      refine lv_aload_n X.1 X.2.1 d_By_isTime_62 rfl (lv_at hl 4 rfl) ?_
      refine lv_iload_n X.1 X.2.1 d_By_isTime_63 rfl (lv_at hl 5 rfl) ?_
      refine lv_bipush (v := iI 10) X.1 X.2.1 d_By_isTime_64 (by decide) ?_
      refine z_iadd X.1 X.2.1 d_By_isTime_66 ?_
      refine lv_iconst (v := iI 2) X.1 X.2.1 d_By_isTime_67 (by decide) ?_
      refine t_ui (t_runV (As := [.int (iI (a1 + 10)), .int (iI 2)]) (rest := []) (n := 2) X Y S k0 hml hl.1 (c_By_digits l D E T κ L f H.size h n0 k0 (by omega) (a1 + 10) (by omega) (by omega) 2 (by omega) (by omega) S.1) (ok_k X Y hA KS KR) rfl kl_By_By_digits ks_By_digits kx_By_digits ki_By_digits ini_By ⟨rfl, rfl⟩ hd_By_digits ⟨Nat.le_of_ble_eq_true rfl, Nat.le_of_ble_eq_true rfl⟩ rfl (Nat.le_of_ble_eq_true rfl) d_By_isTime_68 ⟨Nat.le_of_ble_eq_true rfl, Nat.le_of_ble_eq_true rfl⟩) X Y hA (fun z8 H locs Y p8 => ?_)
      obtain ⟨l8, u8⟩ := p8
      refine lv_istore (lv' := [(7, .int (iI z8)), (6, .int (iI z7)), (5, .int (iI z6)), (4, .int (iI z5)), (3, .int (iI z4)), (0, .ref h), (1, .int (iI a1)), (2, .int (iI a2))]) X.1 X.2.1 d_By_isTime_71 hl (by decide) rfl (fun ls hl => ?_)
      refine lv_aload_n X.1 X.2.1 d_By_isTime_73 rfl (lv_at hl 5 rfl) ?_
      refine lv_iload_n X.1 X.2.1 d_By_isTime_74 rfl (lv_at hl 6 rfl) ?_
      refine lv_bipush (v := iI 12) X.1 X.2.1 d_By_isTime_75 (by decide) ?_
      refine z_iadd X.1 X.2.1 d_By_isTime_77 ?_
      refine lv_iconst (v := iI 2) X.1 X.2.1 d_By_isTime_78 (by decide) ?_
      refine t_ui (t_runV (As := [.int (iI (a1 + 12)), .int (iI 2)]) (rest := []) (n := 2) X Y S k0 hml hl.1 (c_By_digits l D E T κ L f H.size h n0 k0 (by omega) (a1 + 12) (by omega) (by omega) 2 (by omega) (by omega) S.1) (ok_k X Y hA KS KR) rfl kl_By_By_digits ks_By_digits kx_By_digits ki_By_digits ini_By ⟨rfl, rfl⟩ hd_By_digits ⟨Nat.le_of_ble_eq_true rfl, Nat.le_of_ble_eq_true rfl⟩ rfl (Nat.le_of_ble_eq_true rfl) d_By_isTime_79 ⟨Nat.le_of_ble_eq_true rfl, Nat.le_of_ble_eq_true rfl⟩) X Y hA (fun z9 H locs Y p9 => ?_)
      obtain ⟨l9, u9⟩ := p9
      refine lv_istore (lv' := [(8, .int (iI z9)), (7, .int (iI z8)), (6, .int (iI z7)), (5, .int (iI z6)), (4, .int (iI z5)), (3, .int (iI z4)), (0, .ref h), (1, .int (iI a1)), (2, .int (iI a2))]) X.1 X.2.1 d_By_isTime_82 hl (by decide) rfl (fun ls hl => ?_)
      refine lv_iload_n X.1 X.2.1 d_By_isTime_84 rfl (lv_at hl 5 rfl) ?_
      refine lv_sipush (v := iI 1970) X.1 X.2.1 d_By_isTime_85 (by decide) ?_
      refine z_icmp_lt (tgt := 177) X.1 X.2.1 d_By_isTime_88 (by decide) ⟨by omega, by omega⟩ ⟨by omega, by omega⟩ (fun h10 => ?_) (fun h10 => ?_)
      · refine lv_iconst (v := iI 0) X.1 X.2.1 d_By_isTime_177 (by decide) ?_
        exact c_retz hQQ X Y hr hlk (iI_bool (by omega) (by omega)).1 ⟨rfl, rfl, 0, rfl, ⟨by omega, by omega⟩⟩ d_By_isTime_178
      · refine lv_iload_n X.1 X.2.1 d_By_isTime_91 rfl (lv_at hl 5 rfl) ?_
        refine lv_sipush (v := iI 2037) X.1 X.2.1 d_By_isTime_92 (by decide) ?_
        refine z_icmp_gt (tgt := 177) X.1 X.2.1 d_By_isTime_95 (by decide) ⟨by omega, by omega⟩ ⟨by omega, by omega⟩ (fun h11 => ?_) (fun h11 => ?_)
        · refine lv_iconst (v := iI 0) X.1 X.2.1 d_By_isTime_177 (by decide) ?_
          exact c_retz hQQ X Y hr hlk (iI_bool (by omega) (by omega)).1 ⟨rfl, rfl, 0, rfl, ⟨by omega, by omega⟩⟩ d_By_isTime_178
        · refine lv_iload X.1 X.2.1 d_By_isTime_98 (lv_at hl 4 rfl) ?_
          refine lv_iconst (v := iI 1) X.1 X.2.1 d_By_isTime_100 (by decide) ?_
          refine z_icmp_lt (tgt := 177) X.1 X.2.1 d_By_isTime_101 (by decide) ⟨by omega, by omega⟩ ⟨by omega, by omega⟩ (fun h12 => ?_) (fun h12 => ?_)
          · refine lv_iconst (v := iI 0) X.1 X.2.1 d_By_isTime_177 (by decide) ?_
            exact c_retz hQQ X Y hr hlk (iI_bool (by omega) (by omega)).1 ⟨rfl, rfl, 0, rfl, ⟨by omega, by omega⟩⟩ d_By_isTime_178
          · refine lv_iload X.1 X.2.1 d_By_isTime_104 (lv_at hl 4 rfl) ?_
            refine lv_bipush (v := iI 12) X.1 X.2.1 d_By_isTime_106 (by decide) ?_
            refine z_icmp_gt (tgt := 177) X.1 X.2.1 d_By_isTime_108 (by decide) ⟨by omega, by omega⟩ ⟨by omega, by omega⟩ (fun h13 => ?_) (fun h13 => ?_)
            · refine lv_iconst (v := iI 0) X.1 X.2.1 d_By_isTime_177 (by decide) ?_
              exact c_retz hQQ X Y hr hlk (iI_bool (by omega) (by omega)).1 ⟨rfl, rfl, 0, rfl, ⟨by omega, by omega⟩⟩ d_By_isTime_178
            · refine lv_iload X.1 X.2.1 d_By_isTime_111 (lv_at hl 3 rfl) ?_
              refine lv_iconst (v := iI 1) X.1 X.2.1 d_By_isTime_113 (by decide) ?_
              refine z_icmp_lt (tgt := 177) X.1 X.2.1 d_By_isTime_114 (by decide) ⟨by omega, by omega⟩ ⟨by omega, by omega⟩ (fun h14 => ?_) (fun h14 => ?_)
              · refine lv_iconst (v := iI 0) X.1 X.2.1 d_By_isTime_177 (by decide) ?_
                exact c_retz hQQ X Y hr hlk (iI_bool (by omega) (by omega)).1 ⟨rfl, rfl, 0, rfl, ⟨by omega, by omega⟩⟩ d_By_isTime_178
              · refine lv_iload X.1 X.2.1 d_By_isTime_117 (lv_at hl 3 rfl) ?_
                refine lv_iload_n X.1 X.2.1 d_By_isTime_119 rfl (lv_at hl 5 rfl) ?_
                refine lv_iload X.1 X.2.1 d_By_isTime_120 (lv_at hl 4 rfl) ?_
                refine lv_iconst (v := iI 1) X.1 X.2.1 d_By_isTime_122 (by decide) ?_
                refine z_iadd X.1 X.2.1 d_By_isTime_123 ?_
                refine t_ui (x_runS (As := [.int (iI z4), .int (iI (z5 + 1))]) (rest := [.int (iI z6)]) (n := 2) X hml hl.1 (c_By_daysBefore l D E T κ L f H.size z4 (by omega) (by omega) (z5 + 1) (by omega) (by omega) S.1) (ok_k X Y hA KS KR) kl_By_By_daysBefore ks_By_daysBefore ki_By_daysBefore ini_By ⟨rfl, rfl⟩ hd_By_daysBefore.2 ⟨Nat.le_of_ble_eq_true rfl, Nat.le_of_ble_eq_true rfl⟩ rfl (Nat.le_of_ble_eq_true rfl) d_By_isTime_124 ⟨Nat.le_of_ble_eq_true rfl, Nat.le_of_ble_eq_true rfl⟩) X Y hA (fun z15 H locs Y p15 => ?_)
                obtain ⟨l15, u15⟩ := p15
                refine lv_iload_n X.1 X.2.1 d_By_isTime_127 rfl (lv_at hl 5 rfl) ?_
                refine lv_iload X.1 X.2.1 d_By_isTime_128 (lv_at hl 4 rfl) ?_
                refine t_ui (x_runS (As := [.int (iI z4), .int (iI z5)]) (rest := [.int (iI z15), .int (iI z6)]) (n := 2) X hml hl.1 (c_By_daysBefore l D E T κ L f H.size z4 (by omega) (by omega) z5 (by omega) (by omega) S.1) (ok_k X Y hA KS KR) kl_By_By_daysBefore ks_By_daysBefore ki_By_daysBefore ini_By ⟨rfl, rfl⟩ hd_By_daysBefore.2 ⟨Nat.le_of_ble_eq_true rfl, Nat.le_of_ble_eq_true rfl⟩ rfl (Nat.le_of_ble_eq_true rfl) d_By_isTime_130 ⟨Nat.le_of_ble_eq_true rfl, Nat.le_of_ble_eq_true rfl⟩) X Y hA (fun z16 H locs Y p16 => ?_)
                obtain ⟨l16, u16⟩ := p16
                refine lv_isub X.1 X.2.1 d_By_isTime_133 ?_
                refine t_u (fun z17 l17 u17 => ?_)
                refine z_icmp_gt (tgt := 177) X.1 X.2.1 d_By_isTime_134 (by decide) ⟨by omega, by omega⟩ ⟨by omega, by omega⟩ (fun h18 => ?_) (fun h18 => ?_)
                · refine lv_iconst (v := iI 0) X.1 X.2.1 d_By_isTime_177 (by decide) ?_
                  exact c_retz hQQ X Y hr hlk (iI_bool (by omega) (by omega)).1 ⟨rfl, rfl, 0, rfl, ⟨by omega, by omega⟩⟩ d_By_isTime_178
                · refine lv_iload X.1 X.2.1 d_By_isTime_137 (lv_at hl 2 rfl) ?_
                  refine z_if_lt (tgt := 177) X.1 X.2.1 d_By_isTime_139 (by decide) ⟨by omega, by omega⟩ (fun h19 => ?_) (fun h19 => ?_)
                  · refine lv_iconst (v := iI 0) X.1 X.2.1 d_By_isTime_177 (by decide) ?_
                    exact c_retz hQQ X Y hr hlk (iI_bool (by omega) (by omega)).1 ⟨rfl, rfl, 0, rfl, ⟨by omega, by omega⟩⟩ d_By_isTime_178
                  · refine lv_iload X.1 X.2.1 d_By_isTime_142 (lv_at hl 2 rfl) ?_
                    refine lv_bipush (v := iI 23) X.1 X.2.1 d_By_isTime_144 (by decide) ?_
                    refine z_icmp_gt (tgt := 177) X.1 X.2.1 d_By_isTime_146 (by decide) ⟨by omega, by omega⟩ ⟨by omega, by omega⟩ (fun h20 => ?_) (fun h20 => ?_)
                    · refine lv_iconst (v := iI 0) X.1 X.2.1 d_By_isTime_177 (by decide) ?_
                      exact c_retz hQQ X Y hr hlk (iI_bool (by omega) (by omega)).1 ⟨rfl, rfl, 0, rfl, ⟨by omega, by omega⟩⟩ d_By_isTime_178
                    · refine lv_iload X.1 X.2.1 d_By_isTime_149 (lv_at hl 1 rfl) ?_
                      refine z_if_lt (tgt := 177) X.1 X.2.1 d_By_isTime_151 (by decide) ⟨by omega, by omega⟩ (fun h21 => ?_) (fun h21 => ?_)
                      · refine lv_iconst (v := iI 0) X.1 X.2.1 d_By_isTime_177 (by decide) ?_
                        exact c_retz hQQ X Y hr hlk (iI_bool (by omega) (by omega)).1 ⟨rfl, rfl, 0, rfl, ⟨by omega, by omega⟩⟩ d_By_isTime_178
                      · refine lv_iload X.1 X.2.1 d_By_isTime_154 (lv_at hl 1 rfl) ?_
                        refine lv_bipush (v := iI 59) X.1 X.2.1 d_By_isTime_156 (by decide) ?_
                        refine z_icmp_gt (tgt := 177) X.1 X.2.1 d_By_isTime_158 (by decide) ⟨by omega, by omega⟩ ⟨by omega, by omega⟩ (fun h22 => ?_) (fun h22 => ?_)
                        · refine lv_iconst (v := iI 0) X.1 X.2.1 d_By_isTime_177 (by decide) ?_
                          exact c_retz hQQ X Y hr hlk (iI_bool (by omega) (by omega)).1 ⟨rfl, rfl, 0, rfl, ⟨by omega, by omega⟩⟩ d_By_isTime_178
                        · refine lv_iload X.1 X.2.1 d_By_isTime_161 (lv_at hl 0 rfl) ?_
                          refine z_if_lt (tgt := 177) X.1 X.2.1 d_By_isTime_163 (by decide) ⟨by omega, by omega⟩ (fun h23 => ?_) (fun h23 => ?_)
                          · refine lv_iconst (v := iI 0) X.1 X.2.1 d_By_isTime_177 (by decide) ?_
                            exact c_retz hQQ X Y hr hlk (iI_bool (by omega) (by omega)).1 ⟨rfl, rfl, 0, rfl, ⟨by omega, by omega⟩⟩ d_By_isTime_178
                          · refine lv_iload X.1 X.2.1 d_By_isTime_166 (lv_at hl 0 rfl) ?_
                            refine lv_bipush (v := iI 59) X.1 X.2.1 d_By_isTime_168 (by decide) ?_
                            refine z_icmp_gt (tgt := 177) X.1 X.2.1 d_By_isTime_170 (by decide) ⟨by omega, by omega⟩ ⟨by omega, by omega⟩ (fun h24 => ?_) (fun h24 => ?_)
                            · refine lv_iconst (v := iI 0) X.1 X.2.1 d_By_isTime_177 (by decide) ?_
                              exact c_retz hQQ X Y hr hlk (iI_bool (by omega) (by omega)).1 ⟨rfl, rfl, 0, rfl, ⟨by omega, by omega⟩⟩ d_By_isTime_178
                            · refine lv_iconst (v := iI 1) X.1 X.2.1 d_By_isTime_173 (by decide) ?_
                              refine lv_goto (tgt := 178) X.1 X.2.1 d_By_isTime_174 (by decide) ?_
                              exact c_retz hQQ X Y hr hlk (iI_bool (by omega) (by omega)).1 ⟨rfl, rfl, 1, rfl, ⟨by omega, by omega⟩⟩ d_By_isTime_178
    · refine lv_iconst (v := iI 0) X.1 X.2.1 d_By_isTime_21 (by decide) ?_
      exact c_retz hQQ X Y hr hlk (iI_bool (by omega) (by omega)).1 ⟨rfl, rfl, 0, rfl, ⟨by omega, by omega⟩⟩ d_By_isTime_22
set_option maxHeartbeats 4000000 in
set_option maxRecDepth 100000 in
theorem c_By_tagOf (l : Launch) (D : va_G) (E : cE) (T : cT) (κ : tK) (L : List Nat) (f : pF) (sz : Nat) (a1 : Int) (l_a1 : (-2147483648) ≤ a1) (u_a1 : a1 ≤ 2147483647) (hw : tW E T κ L f) : Met l y_By_tagOf (k_By_tagOf :: lw_tg) (kRm 1 60 0 0) (va_Pc [.int (iI a1)] (kPre D E T L f sz)) (va_Qi (uPi L f (fun (z : Int) => (-2147483648) ≤ z ∧ z ≤ 2147483647)) (cPost D E (pA L sz)) (pA L sz)) 0 0 (pA L sz) := by
  refine k_enter (own := R_By) (by decide) rfl (Nat.le_of_ble_eq_true rfl) (fun p e s m below meth c ls AV QQ H locs hQQ X Y hA hin hr hlk hml hl KS KR => ?_)
  have hl : lv_has ls 1 [(0, .int (iI a1))] := hl
  have S : tS E T (tFr κ L [] []) κ L f κ L f := tS_rf hw
  refine lv_iload_n X.1 X.2.1 d_By_tagOf_0 rfl (lv_at hl 0 rfl) ?_
  refine lv_sipush (v := iI 256) X.1 X.2.1 d_By_tagOf_1 (by decide) ?_
  refine z_icmp_lt (tgt := 15) X.1 X.2.1 d_By_tagOf_4 (by decide) ⟨by omega, by omega⟩ ⟨by omega, by omega⟩ (fun h1 => ?_) (fun h1 => ?_)
  · refine lv_iload_n X.1 X.2.1 d_By_tagOf_15 rfl (lv_at hl 0 rfl) ?_
    refine lv_bipush (v := iI 107) X.1 X.2.1 d_By_tagOf_16 (by decide) ?_
    refine z_icmp_ne (tgt := 26) X.1 X.2.1 d_By_tagOf_18 (by decide) ⟨by omega, by omega⟩ ⟨by omega, by omega⟩ (fun h2 => ?_) (fun h2 => ?_)
    · refine lv_bipush (v := iI 48) X.1 X.2.1 d_By_tagOf_26 (by decide) ?_
      exact c_reti hQQ X Y hr hlk ⟨rfl, rfl, 48, rfl, ⟨by omega, by omega⟩⟩ d_By_tagOf_28
    · refine lv_bipush (v := iI 97) X.1 X.2.1 d_By_tagOf_21 (by decide) ?_
      refine lv_goto (tgt := 28) X.1 X.2.1 d_By_tagOf_23 (by decide) ?_
      exact c_reti hQQ X Y hr hlk ⟨rfl, rfl, 97, rfl, ⟨by omega, by omega⟩⟩ d_By_tagOf_28
  · refine lv_iload_n X.1 X.2.1 d_By_tagOf_7 rfl (lv_at hl 0 rfl) ?_
    refine lv_sipush (v := iI 256) X.1 X.2.1 d_By_tagOf_8 (by decide) ?_
    refine z_isub X.1 X.2.1 d_By_tagOf_11 ?_
    refine lv_goto (tgt := 28) X.1 X.2.1 d_By_tagOf_12 (by decide) ?_
    exact c_reti hQQ X Y hr hlk ⟨rfl, rfl, a1 - 256, rfl, ⟨by omega, by omega⟩⟩ d_By_tagOf_28
set_option maxHeartbeats 4000000 in
set_option maxRecDepth 100000 in
theorem c_By_messageShape (l : Launch) (D : va_G) (E : cE) (T : cT) (κ : tK) (L : List Nat) (f : pF) (sz : Nat) (a1 : Int) (l_a1 : (-2147483648) ≤ a1) (u_a1 : a1 ≤ 2147483647) (hw : tW E T κ L f) : Met l y_By_messageShape (k_By_messageShape :: lw_tg) (kRm 1 60 0 0) (va_Pc [.int (iI a1)] (kPre D E T L f sz)) (va_Qr (fun _ : cU => True) (fun u r t => uPr L f (fun (z : Nat) => (∃ i : Nat, i < nY ∧ z = T.2.1 i)) r u ∧ cPost D E (pA L sz) u t) (pA L sz)) 0 0 (pA L sz) := by
  refine k_enter (own := R_By) (by decide) rfl (Nat.le_of_ble_eq_true rfl) (fun p e s m below meth c ls AV QQ H locs hQQ X Y hA hin hr hlk hml hl KS KR => ?_)
  have hl : lv_has ls 1 [(0, .int (iI a1))] := hl
  have S : tS E T (tFr κ L [] []) κ L f κ L f := tS_rf hw
  refine lv_iload_n X.1 X.2.1 d_By_messageShape_0 rfl (lv_at hl 0 rfl) ?_
  by_cases h1 : a1 = 354
  · rw [h1]
    refine lv_tableIn (off := 152) (tgt := 153) X.1 X.2.1 d_By_messageShape_1 (by decide) (by decide) (by decide) (by decide) ?_
    refine k_ldcS (i := 20) X KR (by decide) ⟨by decide, by decide⟩ d_By_messageShape_153 ?_
    exact k_retr hQQ X Y hr (Or.inl ⟨_, rfl⟩) hlk ⟨rfl, rfl, ⟨20, (show 20 < nY by decide), rfl⟩⟩ d_By_messageShape_155
  by_cases h2 : a1 = 355
  · rw [h2]
    refine lv_tableIn (off := 155) (tgt := 156) X.1 X.2.1 d_By_messageShape_1 (by decide) (by decide) (by decide) (by decide) ?_
    refine k_ldcS (i := 21) X KR (by decide) ⟨by decide, by decide⟩ d_By_messageShape_156 ?_
    exact k_retr hQQ X Y hr (Or.inl ⟨_, rfl⟩) hlk ⟨rfl, rfl, ⟨21, (show 21 < nY by decide), rfl⟩⟩ d_By_messageShape_158
  by_cases h3 : a1 = 356
  · rw [h3]
    refine lv_tableIn (off := 170) (tgt := 171) X.1 X.2.1 d_By_messageShape_1 (by decide) (by decide) (by decide) (by decide) ?_
    refine k_ldcS (i := 26) X KR (by decide) ⟨by decide, by decide⟩ d_By_messageShape_171 ?_
    exact k_retr hQQ X Y hr (Or.inl ⟨_, rfl⟩) hlk ⟨rfl, rfl, ⟨26, (show 26 < nY by decide), rfl⟩⟩ d_By_messageShape_173
  by_cases h4 : a1 = 357
  · rw [h4]
    refine lv_tableIn (off := 170) (tgt := 171) X.1 X.2.1 d_By_messageShape_1 (by decide) (by decide) (by decide) (by decide) ?_
    refine k_ldcS (i := 26) X KR (by decide) ⟨by decide, by decide⟩ d_By_messageShape_171 ?_
    exact k_retr hQQ X Y hr (Or.inl ⟨_, rfl⟩) hlk ⟨rfl, rfl, ⟨26, (show 26 < nY by decide), rfl⟩⟩ d_By_messageShape_173
  by_cases h5 : a1 = 358
  · rw [h5]
    refine lv_tableIn (off := 170) (tgt := 171) X.1 X.2.1 d_By_messageShape_1 (by decide) (by decide) (by decide) (by decide) ?_
    refine k_ldcS (i := 26) X KR (by decide) ⟨by decide, by decide⟩ d_By_messageShape_171 ?_
    exact k_retr hQQ X Y hr (Or.inl ⟨_, rfl⟩) hlk ⟨rfl, rfl, ⟨26, (show 26 < nY by decide), rfl⟩⟩ d_By_messageShape_173
  by_cases h6 : a1 = 359
  · rw [h6]
    refine lv_tableIn (off := 170) (tgt := 171) X.1 X.2.1 d_By_messageShape_1 (by decide) (by decide) (by decide) (by decide) ?_
    refine k_ldcS (i := 26) X KR (by decide) ⟨by decide, by decide⟩ d_By_messageShape_171 ?_
    exact k_retr hQQ X Y hr (Or.inl ⟨_, rfl⟩) hlk ⟨rfl, rfl, ⟨26, (show 26 < nY by decide), rfl⟩⟩ d_By_messageShape_173
  by_cases h7 : a1 = 360
  · rw [h7]
    refine lv_tableIn (off := 170) (tgt := 171) X.1 X.2.1 d_By_messageShape_1 (by decide) (by decide) (by decide) (by decide) ?_
    refine k_ldcS (i := 26) X KR (by decide) ⟨by decide, by decide⟩ d_By_messageShape_171 ?_
    exact k_retr hQQ X Y hr (Or.inl ⟨_, rfl⟩) hlk ⟨rfl, rfl, ⟨26, (show 26 < nY by decide), rfl⟩⟩ d_By_messageShape_173
  by_cases h8 : a1 = 361
  · rw [h8]
    refine lv_tableIn (off := 170) (tgt := 171) X.1 X.2.1 d_By_messageShape_1 (by decide) (by decide) (by decide) (by decide) ?_
    refine k_ldcS (i := 26) X KR (by decide) ⟨by decide, by decide⟩ d_By_messageShape_171 ?_
    exact k_retr hQQ X Y hr (Or.inl ⟨_, rfl⟩) hlk ⟨rfl, rfl, ⟨26, (show 26 < nY by decide), rfl⟩⟩ d_By_messageShape_173
  by_cases h9 : a1 = 362
  · rw [h9]
    refine lv_tableIn (off := 131) (tgt := 132) X.1 X.2.1 d_By_messageShape_1 (by decide) (by decide) (by decide) (by decide) ?_
    refine k_ldcS (i := 13) X KR (by decide) ⟨by decide, by decide⟩ d_By_messageShape_132 ?_
    exact k_retr hQQ X Y hr (Or.inl ⟨_, rfl⟩) hlk ⟨rfl, rfl, ⟨13, (show 13 < nY by decide), rfl⟩⟩ d_By_messageShape_134
  by_cases h10 : a1 = 363
  · rw [h10]
    refine lv_tableIn (off := 134) (tgt := 135) X.1 X.2.1 d_By_messageShape_1 (by decide) (by decide) (by decide) (by decide) ?_
    refine k_ldcS (i := 14) X KR (by decide) ⟨by decide, by decide⟩ d_By_messageShape_135 ?_
    exact k_retr hQQ X Y hr (Or.inl ⟨_, rfl⟩) hlk ⟨rfl, rfl, ⟨14, (show 14 < nY by decide), rfl⟩⟩ d_By_messageShape_137
  by_cases h11 : a1 = 364
  · rw [h11]
    refine lv_tableIn (off := 131) (tgt := 132) X.1 X.2.1 d_By_messageShape_1 (by decide) (by decide) (by decide) (by decide) ?_
    refine k_ldcS (i := 13) X KR (by decide) ⟨by decide, by decide⟩ d_By_messageShape_132 ?_
    exact k_retr hQQ X Y hr (Or.inl ⟨_, rfl⟩) hlk ⟨rfl, rfl, ⟨13, (show 13 < nY by decide), rfl⟩⟩ d_By_messageShape_134
  by_cases h12 : a1 = 365
  · rw [h12]
    refine lv_tableIn (off := 134) (tgt := 135) X.1 X.2.1 d_By_messageShape_1 (by decide) (by decide) (by decide) (by decide) ?_
    refine k_ldcS (i := 14) X KR (by decide) ⟨by decide, by decide⟩ d_By_messageShape_135 ?_
    exact k_retr hQQ X Y hr (Or.inl ⟨_, rfl⟩) hlk ⟨rfl, rfl, ⟨14, (show 14 < nY by decide), rfl⟩⟩ d_By_messageShape_137
  by_cases h13 : a1 = 366
  · rw [h13]
    refine lv_tableIn (off := 137) (tgt := 138) X.1 X.2.1 d_By_messageShape_1 (by decide) (by decide) (by decide) (by decide) ?_
    refine k_ldcS (i := 15) X KR (by decide) ⟨by decide, by decide⟩ d_By_messageShape_138 ?_
    exact k_retr hQQ X Y hr (Or.inl ⟨_, rfl⟩) hlk ⟨rfl, rfl, ⟨15, (show 15 < nY by decide), rfl⟩⟩ d_By_messageShape_140
  by_cases h14 : a1 = 367
  · rw [h14]
    refine lv_tableIn (off := 140) (tgt := 141) X.1 X.2.1 d_By_messageShape_1 (by decide) (by decide) (by decide) (by decide) ?_
    refine k_ldcS (i := 16) X KR (by decide) ⟨by decide, by decide⟩ d_By_messageShape_141 ?_
    exact k_retr hQQ X Y hr (Or.inl ⟨_, rfl⟩) hlk ⟨rfl, rfl, ⟨16, (show 16 < nY by decide), rfl⟩⟩ d_By_messageShape_143
  by_cases h15 : a1 = 368
  · rw [h15]
    refine lv_tableIn (off := 170) (tgt := 171) X.1 X.2.1 d_By_messageShape_1 (by decide) (by decide) (by decide) (by decide) ?_
    refine k_ldcS (i := 26) X KR (by decide) ⟨by decide, by decide⟩ d_By_messageShape_171 ?_
    exact k_retr hQQ X Y hr (Or.inl ⟨_, rfl⟩) hlk ⟨rfl, rfl, ⟨26, (show 26 < nY by decide), rfl⟩⟩ d_By_messageShape_173
  by_cases h16 : a1 = 369
  · rw [h16]
    refine lv_tableIn (off := 170) (tgt := 171) X.1 X.2.1 d_By_messageShape_1 (by decide) (by decide) (by decide) (by decide) ?_
    refine k_ldcS (i := 26) X KR (by decide) ⟨by decide, by decide⟩ d_By_messageShape_171 ?_
    exact k_retr hQQ X Y hr (Or.inl ⟨_, rfl⟩) hlk ⟨rfl, rfl, ⟨26, (show 26 < nY by decide), rfl⟩⟩ d_By_messageShape_173
  by_cases h17 : a1 = 370
  · rw [h17]
    refine lv_tableIn (off := 170) (tgt := 171) X.1 X.2.1 d_By_messageShape_1 (by decide) (by decide) (by decide) (by decide) ?_
    refine k_ldcS (i := 26) X KR (by decide) ⟨by decide, by decide⟩ d_By_messageShape_171 ?_
    exact k_retr hQQ X Y hr (Or.inl ⟨_, rfl⟩) hlk ⟨rfl, rfl, ⟨26, (show 26 < nY by decide), rfl⟩⟩ d_By_messageShape_173
  by_cases h18 : a1 = 371
  · rw [h18]
    refine lv_tableIn (off := 170) (tgt := 171) X.1 X.2.1 d_By_messageShape_1 (by decide) (by decide) (by decide) (by decide) ?_
    refine k_ldcS (i := 26) X KR (by decide) ⟨by decide, by decide⟩ d_By_messageShape_171 ?_
    exact k_retr hQQ X Y hr (Or.inl ⟨_, rfl⟩) hlk ⟨rfl, rfl, ⟨26, (show 26 < nY by decide), rfl⟩⟩ d_By_messageShape_173
  by_cases h19 : a1 = 372
  · rw [h19]
    refine lv_tableIn (off := 143) (tgt := 144) X.1 X.2.1 d_By_messageShape_1 (by decide) (by decide) (by decide) (by decide) ?_
    refine k_ldcS (i := 17) X KR (by decide) ⟨by decide, by decide⟩ d_By_messageShape_144 ?_
    exact k_retr hQQ X Y hr (Or.inl ⟨_, rfl⟩) hlk ⟨rfl, rfl, ⟨17, (show 17 < nY by decide), rfl⟩⟩ d_By_messageShape_146
  by_cases h20 : a1 = 373
  · rw [h20]
    refine lv_tableIn (off := 146) (tgt := 147) X.1 X.2.1 d_By_messageShape_1 (by decide) (by decide) (by decide) (by decide) ?_
    refine k_ldcS (i := 18) X KR (by decide) ⟨by decide, by decide⟩ d_By_messageShape_147 ?_
    exact k_retr hQQ X Y hr (Or.inl ⟨_, rfl⟩) hlk ⟨rfl, rfl, ⟨18, (show 18 < nY by decide), rfl⟩⟩ d_By_messageShape_149
  by_cases h21 : a1 = 374
  · rw [h21]
    refine lv_tableIn (off := 149) (tgt := 150) X.1 X.2.1 d_By_messageShape_1 (by decide) (by decide) (by decide) (by decide) ?_
    refine k_ldcS (i := 19) X KR (by decide) ⟨by decide, by decide⟩ d_By_messageShape_150 ?_
    exact k_retr hQQ X Y hr (Or.inl ⟨_, rfl⟩) hlk ⟨rfl, rfl, ⟨19, (show 19 < nY by decide), rfl⟩⟩ d_By_messageShape_152
  by_cases h22 : a1 = 375
  · rw [h22]
    refine lv_tableIn (off := 170) (tgt := 171) X.1 X.2.1 d_By_messageShape_1 (by decide) (by decide) (by decide) (by decide) ?_
    refine k_ldcS (i := 26) X KR (by decide) ⟨by decide, by decide⟩ d_By_messageShape_171 ?_
    exact k_retr hQQ X Y hr (Or.inl ⟨_, rfl⟩) hlk ⟨rfl, rfl, ⟨26, (show 26 < nY by decide), rfl⟩⟩ d_By_messageShape_173
  by_cases h23 : a1 = 376
  · rw [h23]
    refine lv_tableIn (off := 170) (tgt := 171) X.1 X.2.1 d_By_messageShape_1 (by decide) (by decide) (by decide) (by decide) ?_
    refine k_ldcS (i := 26) X KR (by decide) ⟨by decide, by decide⟩ d_By_messageShape_171 ?_
    exact k_retr hQQ X Y hr (Or.inl ⟨_, rfl⟩) hlk ⟨rfl, rfl, ⟨26, (show 26 < nY by decide), rfl⟩⟩ d_By_messageShape_173
  by_cases h24 : a1 = 377
  · rw [h24]
    refine lv_tableIn (off := 158) (tgt := 159) X.1 X.2.1 d_By_messageShape_1 (by decide) (by decide) (by decide) (by decide) ?_
    refine k_ldcS (i := 22) X KR (by decide) ⟨by decide, by decide⟩ d_By_messageShape_159 ?_
    exact k_retr hQQ X Y hr (Or.inl ⟨_, rfl⟩) hlk ⟨rfl, rfl, ⟨22, (show 22 < nY by decide), rfl⟩⟩ d_By_messageShape_161
  by_cases h25 : a1 = 378
  · rw [h25]
    refine lv_tableIn (off := 158) (tgt := 159) X.1 X.2.1 d_By_messageShape_1 (by decide) (by decide) (by decide) (by decide) ?_
    refine k_ldcS (i := 22) X KR (by decide) ⟨by decide, by decide⟩ d_By_messageShape_159 ?_
    exact k_retr hQQ X Y hr (Or.inl ⟨_, rfl⟩) hlk ⟨rfl, rfl, ⟨22, (show 22 < nY by decide), rfl⟩⟩ d_By_messageShape_161
  by_cases h26 : a1 = 379
  · rw [h26]
    refine lv_tableIn (off := 161) (tgt := 162) X.1 X.2.1 d_By_messageShape_1 (by decide) (by decide) (by decide) (by decide) ?_
    refine k_ldcS (i := 23) X KR (by decide) ⟨by decide, by decide⟩ d_By_messageShape_162 ?_
    exact k_retr hQQ X Y hr (Or.inl ⟨_, rfl⟩) hlk ⟨rfl, rfl, ⟨23, (show 23 < nY by decide), rfl⟩⟩ d_By_messageShape_164
  by_cases h27 : a1 = 380
  · rw [h27]
    refine lv_tableIn (off := 170) (tgt := 171) X.1 X.2.1 d_By_messageShape_1 (by decide) (by decide) (by decide) (by decide) ?_
    refine k_ldcS (i := 26) X KR (by decide) ⟨by decide, by decide⟩ d_By_messageShape_171 ?_
    exact k_retr hQQ X Y hr (Or.inl ⟨_, rfl⟩) hlk ⟨rfl, rfl, ⟨26, (show 26 < nY by decide), rfl⟩⟩ d_By_messageShape_173
  by_cases h28 : a1 = 381
  · rw [h28]
    refine lv_tableIn (off := 164) (tgt := 165) X.1 X.2.1 d_By_messageShape_1 (by decide) (by decide) (by decide) (by decide) ?_
    refine k_ldcS (i := 24) X KR (by decide) ⟨by decide, by decide⟩ d_By_messageShape_165 ?_
    exact k_retr hQQ X Y hr (Or.inl ⟨_, rfl⟩) hlk ⟨rfl, rfl, ⟨24, (show 24 < nY by decide), rfl⟩⟩ d_By_messageShape_167
  by_cases h29 : a1 = 382
  · rw [h29]
    refine lv_tableIn (off := 167) (tgt := 168) X.1 X.2.1 d_By_messageShape_1 (by decide) (by decide) (by decide) (by decide) ?_
    refine k_ldcS (i := 25) X KR (by decide) ⟨by decide, by decide⟩ d_By_messageShape_168 ?_
    exact k_retr hQQ X Y hr (Or.inl ⟨_, rfl⟩) hlk ⟨rfl, rfl, ⟨25, (show 25 < nY by decide), rfl⟩⟩ d_By_messageShape_170
  refine lv_tableOut (tgt := 171) X.1 X.2.1 d_By_messageShape_1 (by rw [iI_toInt ⟨by omega, by omega⟩]; omega) (by decide) ?_
  refine k_ldcS (i := 26) X KR (by decide) ⟨by decide, by decide⟩ d_By_messageShape_171 ?_
  exact k_retr hQQ X Y hr (Or.inl ⟨_, rfl⟩) hlk ⟨rfl, rfl, ⟨26, (show 26 < nY by decide), rfl⟩⟩ d_By_messageShape_173
set_option maxHeartbeats 4000000 in
set_option maxRecDepth 100000 in
theorem c_By_shapeOf (l : Launch) (D : va_G) (E : cE) (T : cT) (κ : tK) (L : List Nat) (f : pF) (sz : Nat) (a1 : Int) (l_a1 : (-2147483648) ≤ a1) (u_a1 : a1 ≤ 2147483647) (hw : tW E T κ L f) : Met l y_By_shapeOf (k_By_shapeOf :: lw_tg) (kRm 2 80 0 0) (va_Pc [.int (iI a1)] (kPre D E T L f sz)) (va_Qr (fun _ : cU => True) (fun u r t => uPr L f (fun (z : Nat) => (∃ i : Nat, i < nY ∧ z = T.2.1 i)) r u ∧ cPost D E (pA L sz) u t) (pA L sz)) 0 0 (pA L sz) := by
  refine k_enter (own := R_By) (by decide) rfl (Nat.le_of_ble_eq_true rfl) (fun p e s m below meth c ls AV QQ H locs hQQ X Y hA hin hr hlk hml hl KS KR => ?_)
  have hl : lv_has ls 1 [(0, .int (iI a1))] := hl
  have S : tS E T (tFr κ L [] []) κ L f κ L f := tS_rf hw
  refine lv_iload_n X.1 X.2.1 d_By_shapeOf_0 rfl (lv_at hl 0 rfl) ?_
  by_cases h1 : a1 = 97
  · rw [h1]
    refine lv_lookup (off := 102) (tgt := 103) X.1 X.2.1 d_By_shapeOf_1 (by decide) (by decide) (by decide) ?_
    refine k_ldcS (i := 4) X KR (by decide) ⟨by decide, by decide⟩ d_By_shapeOf_103 ?_
    exact k_retr hQQ X Y hr (Or.inl ⟨_, rfl⟩) hlk ⟨rfl, rfl, ⟨4, (show 4 < nY by decide), rfl⟩⟩ d_By_shapeOf_105
  by_cases h2 : a1 = 99
  · rw [h2]
    refine lv_lookup (off := 123) (tgt := 124) X.1 X.2.1 d_By_shapeOf_1 (by decide) (by decide) (by decide) ?_
    refine k_ldcS (i := 11) X KR (by decide) ⟨by decide, by decide⟩ d_By_shapeOf_124 ?_
    exact k_retr hQQ X Y hr (Or.inl ⟨_, rfl⟩) hlk ⟨rfl, rfl, ⟨11, (show 11 < nY by decide), rfl⟩⟩ d_By_shapeOf_126
  by_cases h3 : a1 = 101
  · rw [h3]
    refine lv_lookup (off := 111) (tgt := 112) X.1 X.2.1 d_By_shapeOf_1 (by decide) (by decide) (by decide) ?_
    refine k_ldcS (i := 7) X KR (by decide) ⟨by decide, by decide⟩ d_By_shapeOf_112 ?_
    exact k_retr hQQ X Y hr (Or.inl ⟨_, rfl⟩) hlk ⟨rfl, rfl, ⟨7, (show 7 < nY by decide), rfl⟩⟩ d_By_shapeOf_114
  by_cases h4 : a1 = 102
  · rw [h4]
    refine lv_lookup (off := 120) (tgt := 121) X.1 X.2.1 d_By_shapeOf_1 (by decide) (by decide) (by decide) ?_
    refine k_ldcS (i := 10) X KR (by decide) ⟨by decide, by decide⟩ d_By_shapeOf_121 ?_
    exact k_retr hQQ X Y hr (Or.inl ⟨_, rfl⟩) hlk ⟨rfl, rfl, ⟨10, (show 10 < nY by decide), rfl⟩⟩ d_By_shapeOf_123
  by_cases h5 : a1 = 107
  · rw [h5]
    refine lv_lookup (off := 126) (tgt := 127) X.1 X.2.1 d_By_shapeOf_1 (by decide) (by decide) (by decide) ?_
    refine k_ldcS (i := 12) X KR (by decide) ⟨by decide, by decide⟩ d_By_shapeOf_127 ?_
    exact k_retr hQQ X Y hr (Or.inl ⟨_, rfl⟩) hlk ⟨rfl, rfl, ⟨12, (show 12 < nY by decide), rfl⟩⟩ d_By_shapeOf_129
  by_cases h6 : a1 = 108
  · rw [h6]
    refine lv_lookup (off := 105) (tgt := 106) X.1 X.2.1 d_By_shapeOf_1 (by decide) (by decide) (by decide) ?_
    refine k_ldcS (i := 5) X KR (by decide) ⟨by decide, by decide⟩ d_By_shapeOf_106 ?_
    exact k_retr hQQ X Y hr (Or.inl ⟨_, rfl⟩) hlk ⟨rfl, rfl, ⟨5, (show 5 < nY by decide), rfl⟩⟩ d_By_shapeOf_108
  by_cases h7 : a1 = 110
  · rw [h7]
    refine lv_lookup (off := 99) (tgt := 100) X.1 X.2.1 d_By_shapeOf_1 (by decide) (by decide) (by decide) ?_
    refine k_ldcS (i := 3) X KR (by decide) ⟨by decide, by decide⟩ d_By_shapeOf_100 ?_
    exact k_retr hQQ X Y hr (Or.inl ⟨_, rfl⟩) hlk ⟨rfl, rfl, ⟨3, (show 3 < nY by decide), rfl⟩⟩ d_By_shapeOf_102
  by_cases h8 : a1 = 112
  · rw [h8]
    refine lv_lookup (off := 108) (tgt := 109) X.1 X.2.1 d_By_shapeOf_1 (by decide) (by decide) (by decide) ?_
    refine k_ldcS (i := 6) X KR (by decide) ⟨by decide, by decide⟩ d_By_shapeOf_109 ?_
    exact k_retr hQQ X Y hr (Or.inl ⟨_, rfl⟩) hlk ⟨rfl, rfl, ⟨6, (show 6 < nY by decide), rfl⟩⟩ d_By_shapeOf_111
  by_cases h9 : a1 = 113
  · rw [h9]
    refine lv_lookup (off := 117) (tgt := 118) X.1 X.2.1 d_By_shapeOf_1 (by decide) (by decide) (by decide) ?_
    refine k_ldcS (i := 9) X KR (by decide) ⟨by decide, by decide⟩ d_By_shapeOf_118 ?_
    exact k_retr hQQ X Y hr (Or.inl ⟨_, rfl⟩) hlk ⟨rfl, rfl, ⟨9, (show 9 < nY by decide), rfl⟩⟩ d_By_shapeOf_120
  by_cases h10 : a1 = 120
  · rw [h10]
    refine lv_lookup (off := 114) (tgt := 115) X.1 X.2.1 d_By_shapeOf_1 (by decide) (by decide) (by decide) ?_
    refine k_ldcS (i := 8) X KR (by decide) ⟨by decide, by decide⟩ d_By_shapeOf_115 ?_
    exact k_retr hQQ X Y hr (Or.inl ⟨_, rfl⟩) hlk ⟨rfl, rfl, ⟨8, (show 8 < nY by decide), rfl⟩⟩ d_By_shapeOf_117
  by_cases h11 : a1 = 380
  · rw [h11]
    refine lv_lookup (off := 120) (tgt := 121) X.1 X.2.1 d_By_shapeOf_1 (by decide) (by decide) (by decide) ?_
    refine k_ldcS (i := 10) X KR (by decide) ⟨by decide, by decide⟩ d_By_shapeOf_121 ?_
    exact k_retr hQQ X Y hr (Or.inl ⟨_, rfl⟩) hlk ⟨rfl, rfl, ⟨10, (show 10 < nY by decide), rfl⟩⟩ d_By_shapeOf_123
  refine lv_lookup (off := 129) (tgt := 130) X.1 X.2.1 d_By_shapeOf_1 (by decide) ((z_osw ⟨by omega, by omega⟩ (show a1 ≠ 97 by omega)).trans ((z_osw ⟨by omega, by omega⟩ (show a1 ≠ 99 by omega)).trans ((z_osw ⟨by omega, by omega⟩ (show a1 ≠ 101 by omega)).trans ((z_osw ⟨by omega, by omega⟩ (show a1 ≠ 102 by omega)).trans ((z_osw ⟨by omega, by omega⟩ (show a1 ≠ 107 by omega)).trans ((z_osw ⟨by omega, by omega⟩ (show a1 ≠ 108 by omega)).trans ((z_osw ⟨by omega, by omega⟩ (show a1 ≠ 110 by omega)).trans ((z_osw ⟨by omega, by omega⟩ (show a1 ≠ 112 by omega)).trans ((z_osw ⟨by omega, by omega⟩ (show a1 ≠ 113 by omega)).trans ((z_osw ⟨by omega, by omega⟩ (show a1 ≠ 120 by omega)).trans ((z_osw ⟨by omega, by omega⟩ (show a1 ≠ 380 by omega)).trans rfl))))))))))) (by decide) ?_
  refine lv_iload_n X.1 X.2.1 d_By_shapeOf_130 rfl (lv_at hl 0 rfl) ?_
  refine t_ur (x_runS (As := [.int (iI a1)]) (rest := []) (n := 1) X hml hl.1 (c_By_messageShape l D E T κ L f H.size a1 (by omega) (by omega) S.1) (ok_k X Y hA KS KR) kl_By_By_messageShape ks_By_messageShape ki_By_messageShape ini_By ⟨rfl, rfl⟩ hd_By_messageShape.2 ⟨Nat.le_of_ble_eq_true rfl, Nat.le_of_ble_eq_true rfl⟩ rfl (Nat.le_of_ble_eq_true rfl) d_By_shapeOf_131 ⟨Nat.le_of_ble_eq_true rfl, Nat.le_of_ble_eq_true rfl⟩) X Y hA (fun b12 H locs Y p12 => ?_)
  obtain ⟨y12, k12, q12⟩ := p12
  subst q12
  exact k_retr hQQ X Y hr (Or.inl ⟨_, rfl⟩) hlk ⟨rfl, rfl, ⟨y12, k12, rfl⟩⟩ d_By_shapeOf_134
set_option maxHeartbeats 4000000 in
theorem c_By_init (l : Launch) (D : va_G) (E : cE) (T : cT) (κ : tK) (L : List Nat) (f : pF) (sz : Nat) (h : Nat) (m_h : h ∈ L) (r_h : (κ h).1 = 0) (e_h : f h = .inr (3, [.null, .int (iI 0)])) (a1 : Int) (l_a1 : (-2147483648) ≤ a1) (u_a1 : a1 ≤ 12288) (hw : tW E T κ L f) (N mx : Nat) (q0 : N = a1.toNat) (q1 : N ≤ mx) (q2 : mx ≤ 12288) : Met l y_By_init (k_By_init :: lw_tg) (kRm 1 60 1 mx) (va_Pc [.ref h, .int (iI a1)] (kPre D E T L f sz)) (va_Qv (aPv E T [1, 2, 3, 4, 5, 6, 7, 8, 9, 10, 11, 12, 13, 14, 15, 16, 17, 18, 19, 20, 21] [h] κ L f (fun (k : tK) (g : pF) => k h = (13, N))) (cPost D E (pA L sz)) (pA L sz)) 1 mx (pA L sz) := by
  refine k_enter (own := R_By) (by decide) rfl (Nat.le_of_ble_eq_true rfl) (fun p e s m below meth c ls AV QQ H locs hQQ X Y hA hin hr hlk hml hl KS KR => ?_)
  have hl : lv_has ls 2 [(0, .ref h), (1, .int (iI a1))] := hl
  have S : tS E T (tFr κ L [1, 2, 3, 4, 5, 6, 7, 8, 9, 10, 11, 12, 13, 14, 15, 16, 17, 18, 19, 20, 21] [h]) κ L f κ L f := tS_rf hw
  refine lv_aload_n X.1 X.2.1 d_By_init_0 rfl (lv_at hl 0 rfl) ?_
  refine W.objInit X.1 X.2.1 X.2.2.2.1 (X.2.2.1 _ ol_By) (X.2.2.1 _ o_inst) (X.2.2.1 _ o_code) rfl (by rw [hml]; exact hl.1) rfl d_By_init_1 (Nat.le_of_ble_eq_true rfl) (Nat.le_of_ble_eq_true rfl) ?_
  refine W.eq (g2 := F0 m 4 ls []) rfl ?_
  refine lv_aload_n X.1 X.2.1 d_By_init_4 rfl (lv_at hl 0 rfl) ?_
  refine lv_iconst (v := iI 0) X.1 X.2.1 d_By_init_5 (by decide) ?_
  refine lv_iload_n X.1 X.2.1 d_By_init_6 rfl (lv_at hl 1 rfl) ?_
  refine z_max X.1 X.2.1 (hml.trans hl.1.symm) X.2.2.2.1 (X.2.2.1 _ kl_By_mmax) (X.2.2.1 _ ks_mmax) (X.2.2.1 _ ini_Math) (X.2.2.1 _ ki_mmax) (Nat.le_of_ble_eq_true rfl) (Nat.le_of_ble_eq_true rfl) (Nat.zero_le _) (Nat.zero_le _) ⟨by omega, by omega⟩ ⟨by omega, by omega⟩ d_By_init_7 (fun z l1 l2 l3 => ?_)
  refine t_newB X Y S hA (fun b h9 => h9.1) (N := N) (mx := mx) (by omega) q1 (by omega) (Nat.le_refl _) (by show 0 + mx ≤ mx; omega) d_By_init_10 (fun q κ1 L1 f1 H Y S s1 k1 => ?_)
  have pr := s1.2.2.2 h ⟨m_h, by simp, by simp⟩
  have e1 : f1 h = .inr (3, [.null, .int (iI 0)]) := pr.1.trans e_h
  have m1 : h ∈ L1 := s1.2.1 _ m_h
  have r1 : (κ1 h).1 = 0 := by rw [pr.2]; exact r_h
  refine q_putF X.1 X.2.1 X.2.2.1 i_By t_By t_By_ok n_By X.2.2.2.1 X.2.2.2.2 Y m1 e1 rfl 0 (by decide) (X.2.2.1 _ lk_By_15) (fun _ h9 => h9) rfl hin rfl (t_By_ok 0 (by decide)) rfl rfl (Nat.le_of_ble_eq_true rfl) d_By_init_12 (fun H locs Y => ?_)
  have Y : pH D cCl (pA L sz) s.heap L1 (va_up f1 h (.inr (3, [.ref q, .int (iI 0)]))) H locs := Y
  have S := tS_up (x := .inr (3, [.ref q, .int (iI 0)])) S (fun h9 => h9.2.2 (List.mem_singleton.mpr rfl)) (fun h9 => absurd r1 h9)
  have hle : tLe κ1 (va_up κ1 h (13, N)) := tLe_raw r1
  have S := (tS_kind (k := (13, N)) S m1 r1 r_h (fun h9 => h9.2.2 (List.mem_singleton.mpr rfl)) (by rw [q_up]; exact ⟨_, rfl, okO_of ⟨⟨_, rfl, tLe_k hle k1⟩, ⟨_, rfl, by omega, by omega⟩, trivial⟩⟩)).1
  refine W.cs (cells' := 1) (slots' := mx) (by omega) (by omega) ?_
  exact c_retv hQQ X Y hr hlk ⟨_, S, va_up_self _ _ _⟩ d_By_init_15
set_option maxHeartbeats 4000000 in
set_option maxRecDepth 100000 in
theorem c_By_putKey (l : Launch) (D : va_G) (E : cE) (T : cT) (κ : tK) (L : List Nat) (f : pF) (sz : Nat) (h n0 : Nat) (k0 : κ h = (13, n0)) (x0 : n0 ≤ 12288) (a1 : Int) (l_a1 : 0 ≤ a1) (u_a1 : a1 ≤ 64) (a2 n2 : Nat) (k2 : tKey T κ a2 n2) (x2 : n2 = 0 ∨ n2 = 16 ∨ n2 = 32) (hw : tW E T κ L f) : Met l y_By_putKey (k_By_putKey :: lw_tg) (kRm 5 159 0 0) (va_Pc [.ref h, .int (iI a1), .ref a2] (kPre D E T L f sz)) (va_Qv (nPv E T [1, 13] κ L f (fun (g : pF) => True)) (cPost D E (pA L sz)) (pA L sz)) 0 0 (pA L sz) := by
  refine k_enter (own := R_By) (by decide) rfl (Nat.le_of_ble_eq_true rfl) (fun p e s m below meth c ls AV QQ H locs hQQ X Y hA hin hr hlk hml hl KS KR => ?_)
  have hl : lv_has ls 3 [(0, .ref h), (1, .int (iI a1)), (2, .ref a2)] := hl
  have S : tS E T (tFr κ L [1, 13] []) κ L f κ L f := tS_rf hw
  refine lv_aload_n X.1 X.2.1 d_By_putKey_0 rfl (lv_at hl 0 rfl) ?_
  refine lv_iload_n X.1 X.2.1 d_By_putKey_1 rfl (lv_at hl 1 rfl) ?_
  refine lv_aload_n X.1 X.2.1 d_By_putKey_2 rfl (lv_at hl 2 rfl) ?_
  refine t_ui (x_runS (As := [.ref a2]) (rest := [.int (iI a1), .ref h]) (n := 1) X hml hl.1 (c_Va_typeOf l D E T κ L f H.size a2 n2 k2 (by omega) S.1) (ok_k X Y hA KS KR) kl_By_Va_typeOf ks_Va_typeOf ki_Va_typeOf ini_Va ⟨rfl, rfl⟩ hd_Va_typeOf.2 ⟨Nat.le_of_ble_eq_true rfl, Nat.le_of_ble_eq_true rfl⟩ rfl (Nat.le_of_ble_eq_true rfl) d_By_putKey_3 ⟨Nat.le_of_ble_eq_true rfl, Nat.le_of_ble_eq_true rfl⟩) X Y hA (fun z1 H locs Y p1 => ?_)
  obtain ⟨l1, u1⟩ := p1
  refine lv_aload_n X.1 X.2.1 d_By_putKey_6 rfl (lv_at hl 2 rfl) ?_
  refine lv_aload_n X.1 X.2.1 d_By_putKey_7 rfl (lv_at hl 2 rfl) ?_
  refine t_alen X Y S KS (tKey_src k2) (by omega) d_By_putKey_8 ?_
  refine t_nv (t_runV (As := [.int (iI a1), .int (iI z1), .ref a2, .int (iI ((n2 : Int)))]) (rest := []) (n := 4) X Y S k0 hml hl.1 (c_By_putPair l D E T κ L f H.size h n0 k0 (by omega) a1 (by omega) (by omega) z1 (by omega) (by omega) a2 n2 (tKey_src k2) (by omega) ((n2 : Int)) (by omega) (by omega) S.1) (ok_k X Y hA KS KR) rfl kl_By_By_putPair ks_By_putPair kx_By_putPair ki_By_putPair ini_By ⟨rfl, rfl⟩ hd_By_putPair ⟨Nat.le_of_ble_eq_true rfl, Nat.le_of_ble_eq_true rfl⟩ rfl (Nat.le_of_ble_eq_true rfl) d_By_putKey_9 ⟨Nat.le_of_ble_eq_true rfl, Nat.le_of_ble_eq_true rfl⟩) X Y hA S (by decide) (fun f2 H locs Y S s2 p2 => ?_)
  exact c_retv hQQ X Y hr hlk ⟨rfl, S, trivial⟩ d_By_putKey_12
