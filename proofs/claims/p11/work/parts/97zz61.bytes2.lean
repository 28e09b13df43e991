set_option maxHeartbeats 4000000 in
set_option maxRecDepth 100000 in
theorem c_By_stop (l : Launch) (D : va_G) (E : cE) (T : cT) (κ : tK) (L : List Nat) (f : pF) (sz : Nat) (h n0 : Nat) (k0 : κ h = (13, n0)) (x0 : n0 ≤ 12288) (a1 : Int) (l_a1 : (-1) ≤ a1) (u_a1 : a1 ≤ 20200) (a2 : Int) (l_a2 : (-1) ≤ a2) (u_a2 : a2 ≤ 20200) (hw : tW E T κ L f) (sz0 : Int) (g0 : gF f h 1 = .int (iI sz0)) (g1 : 0 ≤ sz0) (g2 : sz0 ≤ (n0 : Int)) : Met l y_By_stop (k_By_stop :: lw_tg) (kRm 1 60 0 0) (va_Pc [.ref h, .int (iI a1), .int (iI a2)] (kPre D E T L f sz)) (va_Qi (uPi L f (fun (z : Int) => (-1) ≤ z ∧ z ≤ 12288 ∧ (z = -1 ∨ 0 ≤ a1 ∧ a1 + 2 ≤ z ∧ z ≤ a2 ∧ a2 ≤ sz0))) (cPost D E (pA L sz)) (pA L sz)) 0 0 (pA L sz) := by
  refine k_enter (own := R_By) (by decide) rfl (Nat.le_of_ble_eq_true rfl) (fun p e s m below meth c ls AV QQ H locs hQQ X Y hA hin hr hlk hml hl KS KR => ?_)
  have hl : lv_has ls 6 [(0, .ref h), (1, .int (iI a1)), (2, .int (iI a2))] := hl
  have S : tS E T (tFr κ L [] []) κ L f κ L f := tS_rf hw
  refine lv_iload_n X.1 X.2.1 d_By_stop_0 rfl (lv_at hl 1 rfl) ?_
  refine z_if_lt (tgt := 19) X.1 X.2.1 d_By_stop_1 (by decide) ⟨by omega, by omega⟩ (fun h101 => ?_) (fun h101 => ?_)
  · refine lv_iconst (v := iI (-1)) X.1 X.2.1 d_By_stop_19 (by decide) ?_
    exact c_reti hQQ X Y hr hlk ⟨rfl, rfl, (-1), rfl, ⟨by omega, by omega, by omega⟩⟩ d_By_stop_20
  · refine lv_iload_n X.1 X.2.1 d_By_stop_4 rfl (lv_at hl 2 rfl) ?_
    refine lv_aload_n X.1 X.2.1 d_By_stop_5 rfl (lv_at hl 0 rfl) ?_
    refine t_get0 (ci := 3) X Y S k0 rfl i_By 1 (by decide) rfl lk_By_21 (fun _ h9 => h9) d_By_stop_6 g0 ?_
    refine z_icmp_gt (tgt := 19) X.1 X.2.1 d_By_stop_9 (by decide) ⟨by omega, by omega⟩ ⟨by omega, by omega⟩ (fun h102 => ?_) (fun h102 => ?_)
    · refine lv_iconst (v := iI (-1)) X.1 X.2.1 d_By_stop_19 (by decide) ?_
      exact c_reti hQQ X Y hr hlk ⟨rfl, rfl, (-1), rfl, ⟨by omega, by omega, by omega⟩⟩ d_By_stop_20
    · refine lv_iload_n X.1 X.2.1 d_By_stop_12 rfl (lv_at hl 2 rfl) ?_
      refine lv_iload_n X.1 X.2.1 d_By_stop_13 rfl (lv_at hl 1 rfl) ?_
      refine z_isub X.1 X.2.1 d_By_stop_14 ?_
      refine lv_iconst (v := iI 2) X.1 X.2.1 d_By_stop_15 (by decide) ?_
      refine z_icmp_ge (tgt := 21) X.1 X.2.1 d_By_stop_16 (by decide) ⟨by omega, by omega⟩ ⟨by omega, by omega⟩ (fun h103 => ?_) (fun h103 => ?_)
      · refine lv_aload_n X.1 X.2.1 d_By_stop_21 rfl (lv_at hl 0 rfl) ?_
        refine t_getrow (ci := 3) X Y S k0 rfl i_By 0 (by decide) rfl lk_By_15 (fun _ h9 => h9) d_By_stop_22 (fun b104 e104 k104 => ?_)
        refine lv_iload_n X.1 X.2.1 d_By_stop_25 rfl (lv_at hl 1 rfl) ?_
        refine lv_iconst (v := iI 1) X.1 X.2.1 d_By_stop_26 (by decide) ?_
        refine z_iadd X.1 X.2.1 d_By_stop_27 ?_
        refine t_bald X Y S (Or.inl k104) (by omega) (by omega) (by omega) d_By_stop_28 (fun z105 l105 u105 => ?_)
        refine lv_sipush (v := iI 255) X.1 X.2.1 d_By_stop_29 (by decide) ?_
        refine z_iand X.1 X.2.1 (by omega) (by omega) d_By_stop_32 (fun z106 l106 u106 => ?_)
        refine lv_istore_n (lv' := [(3, .int (iI z106)), (0, .ref h), (1, .int (iI a1)), (2, .int (iI a2))]) X.1 X.2.1 d_By_stop_33 rfl hl (by decide) rfl (fun ls hl => ?_)
        refine lv_iload_n X.1 X.2.1 d_By_stop_34 rfl (lv_at hl 2 rfl) ?_
        refine lv_iconst (v := iI 2) X.1 X.2.1 d_By_stop_35 (by decide) ?_
        refine z_iadd X.1 X.2.1 d_By_stop_36 ?_
        refine lv_istore (lv' := [(4, .int (iI (a1 + 2))), (3, .int (iI z106)), (0, .ref h), (1, .int (iI a1)), (2, .int (iI a2))]) X.1 X.2.1 d_By_stop_37 hl (by decide) rfl (fun ls hl => ?_)
        refine lv_iload_n X.1 X.2.1 d_By_stop_39 rfl (lv_at hl 1 rfl) ?_
        refine lv_sipush (v := iI 128) X.1 X.2.1 d_By_stop_40 (by decide) ?_
        refine z_icmp_lt (tgt := 154) X.1 X.2.1 d_By_stop_43 (by decide) ⟨by omega, by omega⟩ ⟨by omega, by omega⟩ (fun h107 => ?_) (fun h107 => ?_)
        · refine lv_iload_n X.1 X.2.1 d_By_stop_154 rfl (lv_at hl 1 rfl) ?_
          refine lv_iload_n X.1 X.2.1 d_By_stop_155 rfl (lv_at hl 4 rfl) ?_
          refine lv_iload X.1 X.2.1 d_By_stop_156 (lv_at hl 0 rfl) ?_
          refine z_isub X.1 X.2.1 d_By_stop_158 ?_
          refine z_icmp_gt (tgt := 169) X.1 X.2.1 d_By_stop_159 (by decide) ⟨by omega, by omega⟩ ⟨by omega, by omega⟩ (fun h108 => ?_) (fun h108 => ?_)
          · refine lv_iconst (v := iI (-1)) X.1 X.2.1 d_By_stop_169 (by decide) ?_
            exact c_reti hQQ X Y hr hlk ⟨rfl, rfl, (-1), rfl, ⟨by omega, by omega, by omega⟩⟩ d_By_stop_170
          · refine lv_iload X.1 X.2.1 d_By_stop_162 (lv_at hl 0 rfl) ?_
            refine lv_iload_n X.1 X.2.1 d_By_stop_164 rfl (lv_at hl 1 rfl) ?_
            refine z_iadd X.1 X.2.1 d_By_stop_165 ?_
            refine lv_goto (tgt := 170) X.1 X.2.1 d_By_stop_166 (by decide) ?_
            exact c_reti hQQ X Y hr hlk ⟨rfl, rfl, (a1 + 2) + z106, rfl, ⟨by omega, by omega, by omega⟩⟩ d_By_stop_170
        · refine lv_iload_n X.1 X.2.1 d_By_stop_46 rfl (lv_at hl 1 rfl) ?_
          refine lv_sipush (v := iI 128) X.1 X.2.1 d_By_stop_47 (by decide) ?_
          refine z_isub X.1 X.2.1 d_By_stop_50 ?_
          refine lv_istore (lv' := [(5, .int (iI (z106 - 128))), (4, .int (iI (a1 + 2))), (3, .int (iI z106)), (0, .ref h), (1, .int (iI a1)), (2, .int (iI a2))]) X.1 X.2.1 d_By_stop_51 hl (by decide) rfl (fun ls hl => ?_)
          refine lv_iload X.1 X.2.1 d_By_stop_53 (lv_at hl 0 rfl) ?_
          refine lv_iconst (v := iI 1) X.1 X.2.1 d_By_stop_55 (by decide) ?_
          refine z_icmp_lt (tgt := 74) X.1 X.2.1 d_By_stop_56 (by decide) ⟨by omega, by omega⟩ ⟨by omega, by omega⟩ (fun h109 => ?_) (fun h109 => ?_)
          · refine lv_iconst (v := iI (-1)) X.1 X.2.1 d_By_stop_74 (by decide) ?_
            exact c_reti hQQ X Y hr hlk ⟨rfl, rfl, (-1), rfl, ⟨by omega, by omega, by omega⟩⟩ d_By_stop_75
          · refine lv_iload X.1 X.2.1 d_By_stop_59 (lv_at hl 0 rfl) ?_
            refine lv_iconst (v := iI 2) X.1 X.2.1 d_By_stop_61 (by decide) ?_
            refine z_icmp_gt (tgt := 74) X.1 X.2.1 d_By_stop_62 (by decide) ⟨by omega, by omega⟩ ⟨by omega, by omega⟩ (fun h110 => ?_) (fun h110 => ?_)
            · refine lv_iconst (v := iI (-1)) X.1 X.2.1 d_By_stop_74 (by decide) ?_
              exact c_reti hQQ X Y hr hlk ⟨rfl, rfl, (-1), rfl, ⟨by omega, by omega, by omega⟩⟩ d_By_stop_75
            · refine lv_iload X.1 X.2.1 d_By_stop_65 (lv_at hl 0 rfl) ?_
              refine lv_iload_n X.1 X.2.1 d_By_stop_67 rfl (lv_at hl 5 rfl) ?_
              refine lv_iload X.1 X.2.1 d_By_stop_68 (lv_at hl 1 rfl) ?_
              refine z_isub X.1 X.2.1 d_By_stop_70 ?_
              refine z_icmp_le (tgt := 76) X.1 X.2.1 d_By_stop_71 (by decide) ⟨by omega, by omega⟩ ⟨by omega, by omega⟩ (fun h111 => ?_) (fun h111 => ?_)
              · refine lv_iload X.1 X.2.1 d_By_stop_76 (lv_at hl 0 rfl) ?_
                refine lv_iconst (v := iI 1) X.1 X.2.1 d_By_stop_78 (by decide) ?_
                refine z_icmp_ne (tgt := 96) X.1 X.2.1 d_By_stop_79 (by decide) ⟨by omega, by omega⟩ ⟨by omega, by omega⟩ (fun h112 => ?_) (fun h112 => ?_)
                · refine lv_aload_n X.1 X.2.1 d_By_stop_96 rfl (lv_at hl 3 rfl) ?_
                  refine t_get0 (ci := 3) X Y S k0 rfl i_By 0 (by decide) rfl lk_By_15 (fun _ h9 => h9) d_By_stop_97 e104 ?_
                  refine lv_iload X.1 X.2.1 d_By_stop_100 (lv_at hl 1 rfl) ?_
                  refine t_bald X Y S (Or.inl k104) (by omega) (by omega) (by omega) d_By_stop_102 (fun z113 l113 u113 => ?_)
                  refine lv_sipush (v := iI 255) X.1 X.2.1 d_By_stop_103 (by decide) ?_
                  refine z_iand X.1 X.2.1 (by omega) (by omega) d_By_stop_106 (fun z114 l114 u114 => ?_)
                  refine lv_sipush (v := iI 256) X.1 X.2.1 d_By_stop_107 (by decide) ?_
                  refine z_imul X.1 X.2.1 d_By_stop_110 ?_
                  refine lv_aload_n X.1 X.2.1 d_By_stop_111 rfl (lv_at hl 3 rfl) ?_
                  refine t_get0 (ci := 3) X Y S k0 rfl i_By 0 (by decide) rfl lk_By_15 (fun _ h9 => h9) d_By_stop_112 e104 ?_
                  refine lv_iload X.1 X.2.1 d_By_stop_115 (lv_at hl 1 rfl) ?_
                  refine lv_iconst (v := iI 1) X.1 X.2.1 d_By_stop_117 (by decide) ?_
                  refine z_iadd X.1 X.2.1 d_By_stop_118 ?_
                  refine t_bald X Y S (Or.inl k104) (by omega) (by omega) (by omega) d_By_stop_119 (fun z115 l115 u115 => ?_)
                  refine lv_sipush (v := iI 255) X.1 X.2.1 d_By_stop_120 (by decide) ?_
                  refine z_iand X.1 X.2.1 (by omega) (by omega) d_By_stop_123 (fun z116 l116 u116 => ?_)
                  refine z_iadd X.1 X.2.1 d_By_stop_124 ?_
                  refine lv_istore_n (lv' := [(3, .int (iI ((z114 * 256) + z116))), (5, .int (iI (z106 - 128))), (4, .int (iI (a1 + 2))), (0, .ref h), (1, .int (iI a1)), (2, .int (iI a2))]) X.1 X.2.1 d_By_stop_125 rfl hl (by decide) rfl (fun ls hl => ?_)
                  refine lv_iload X.1 X.2.1 d_By_stop_126 (lv_at hl 2 rfl) ?_
                  refine lv_iload X.1 X.2.1 d_By_stop_128 (lv_at hl 1 rfl) ?_
                  refine z_iadd X.1 X.2.1 d_By_stop_130 ?_
                  refine lv_istore (lv' := [(4, .int (iI ((a1 + 2) + (z106 - 128)))), (3, .int (iI ((z114 * 256) + z116))), (5, .int (iI (z106 - 128))), (0, .ref h), (1, .int (iI a1)), (2, .int (iI a2))]) X.1 X.2.1 d_By_stop_131 hl (by decide) rfl (fun ls hl => ?_)
                  refine lv_iload_n X.1 X.2.1 d_By_stop_133 rfl (lv_at hl 1 rfl) ?_
                  refine lv_iload X.1 X.2.1 d_By_stop_134 (lv_at hl 2 rfl) ?_
                  refine lv_iconst (v := iI 1) X.1 X.2.1 d_By_stop_136 (by decide) ?_
                  refine z_icmp_ne (tgt := 146) X.1 X.2.1 d_By_stop_137 (by decide) ⟨by omega, by omega⟩ ⟨by omega, by omega⟩ (fun h117 => ?_) (fun h117 => False.elim (by omega))
                  · refine lv_sipush (v := iI 256) X.1 X.2.1 d_By_stop_146 (by decide) ?_
                    refine z_icmp_ge (tgt := 154) X.1 X.2.1 d_By_stop_149 (by decide) ⟨by omega, by omega⟩ ⟨by omega, by omega⟩ (fun h118 => ?_) (fun h118 => ?_)
                    · refine lv_iload_n X.1 X.2.1 d_By_stop_154 rfl (lv_at hl 1 rfl) ?_
                      refine lv_iload_n X.1 X.2.1 d_By_stop_155 rfl (lv_at hl 5 rfl) ?_
                      refine lv_iload X.1 X.2.1 d_By_stop_156 (lv_at hl 0 rfl) ?_
                      refine z_isub X.1 X.2.1 d_By_stop_158 ?_
                      refine z_icmp_gt (tgt := 169) X.1 X.2.1 d_By_stop_159 (by decide) ⟨by omega, by omega⟩ ⟨by omega, by omega⟩ (fun h119 => ?_) (fun h119 => ?_)
                      · refine lv_iconst (v := iI (-1)) X.1 X.2.1 d_By_stop_169 (by decide) ?_
                        exact c_reti hQQ X Y hr hlk ⟨rfl, rfl, (-1), rfl, ⟨by omega, by omega, by omega⟩⟩ d_By_stop_170
                      · refine lv_iload X.1 X.2.1 d_By_stop_162 (lv_at hl 0 rfl) ?_
                        refine lv_iload_n X.1 X.2.1 d_By_stop_164 rfl (lv_at hl 1 rfl) ?_
                        refine z_iadd X.1 X.2.1 d_By_stop_165 ?_
                        refine lv_goto (tgt := 170) X.1 X.2.1 d_By_stop_166 (by decide) ?_
                        exact c_reti hQQ X Y hr hlk ⟨rfl, rfl, ((a1 + 2) + (z106 - 128)) + ((z114 * 256) + z116), rfl, ⟨by omega, by omega, by omega⟩⟩ d_By_stop_170
                    · refine lv_iconst (v := iI (-1)) X.1 X.2.1 d_By_stop_152 (by decide) ?_
                      exact c_reti hQQ X Y hr hlk ⟨rfl, rfl, (-1), rfl, ⟨by omega, by omega, by omega⟩⟩ d_By_stop_153
                · refine lv_aload_n X.1 X.2.1 d_By_stop_82 rfl (lv_at hl 3 rfl) ?_
                  refine t_get0 (ci := 3) X Y S k0 rfl i_By 0 (by decide) rfl lk_By_15 (fun _ h9 => h9) d_By_stop_83 e104 ?_
                  refine lv_iload X.1 X.2.1 d_By_stop_86 (lv_at hl 1 rfl) ?_
                  refine t_bald X Y S (Or.inl k104) (by omega) (by omega) (by omega) d_By_stop_88 (fun z120 l120 u120 => ?_)
                  refine lv_sipush (v := iI 255) X.1 X.2.1 d_By_stop_89 (by decide) ?_
                  refine z_iand X.1 X.2.1 (by omega) (by omega) d_By_stop_92 (fun z121 l121 u121 => ?_)
                  refine lv_goto (tgt := 125) X.1 X.2.1 d_By_stop_93 (by decide) ?_
                  refine lv_istore_n (lv' := [(3, .int (iI z121)), (5, .int (iI (z106 - 128))), (4, .int (iI (a1 + 2))), (0, .ref h), (1, .int (iI a1)), (2, .int (iI a2))]) X.1 X.2.1 d_By_stop_125 rfl hl (by decide) rfl (fun ls hl => ?_)
                  refine lv_iload X.1 X.2.1 d_By_stop_126 (lv_at hl 2 rfl) ?_
                  refine lv_iload X.1 X.2.1 d_By_stop_128 (lv_at hl 1 rfl) ?_
                  refine z_iadd X.1 X.2.1 d_By_stop_130 ?_
                  refine lv_istore (lv' := [(4, .int (iI ((a1 + 2) + (z106 - 128)))), (3, .int (iI z121)), (5, .int (iI (z106 - 128))), (0, .ref h), (1, .int (iI a1)), (2, .int (iI a2))]) X.1 X.2.1 d_By_stop_131 hl (by decide) rfl (fun ls hl => ?_)
                  refine lv_iload_n X.1 X.2.1 d_By_stop_133 rfl (lv_at hl 1 rfl) ?_
                  refine lv_iload X.1 X.2.1 d_By_stop_134 (lv_at hl 2 rfl) ?_
                  refine lv_iconst (v := iI 1) X.1 X.2.1 d_By_stop_136 (by decide) ?_
                  refine z_icmp_ne (tgt := 146) X.1 X.2.1 d_By_stop_137 (by decide) ⟨by omega, by omega⟩ ⟨by omega, by omega⟩ (fun h122 => False.elim (by omega)) (fun h122 => ?_)
                  · refine lv_sipush (v := iI 128) X.1 X.2.1 d_By_stop_140 (by decide) ?_
                    refine lv_goto (tgt := 149) X.1 X.2.1 d_By_stop_143 (by decide) ?_
                    refine z_icmp_ge (tgt := 154) X.1 X.2.1 d_By_stop_149 (by decide) ⟨by omega, by omega⟩ ⟨by omega, by omega⟩ (fun h123 => ?_) (fun h123 => ?_)
                    · refine lv_iload_n X.1 X.2.1 d_By_stop_154 rfl (lv_at hl 1 rfl) ?_
                      refine lv_iload_n X.1 X.2.1 d_By_stop_155 rfl (lv_at hl 5 rfl) ?_
                      refine lv_iload X.1 X.2.1 d_By_stop_156 (lv_at hl 0 rfl) ?_
                      refine z_isub X.1 X.2.1 d_By_stop_158 ?_
                      refine z_icmp_gt (tgt := 169) X.1 X.2.1 d_By_stop_159 (by decide) ⟨by omega, by omega⟩ ⟨by omega, by omega⟩ (fun h124 => ?_) (fun h124 => ?_)
                      · refine lv_iconst (v := iI (-1)) X.1 X.2.1 d_By_stop_169 (by decide) ?_
                        exact c_reti hQQ X Y hr hlk ⟨rfl, rfl, (-1), rfl, ⟨by omega, by omega, by omega⟩⟩ d_By_stop_170
                      · refine lv_iload X.1 X.2.1 d_By_stop_162 (lv_at hl 0 rfl) ?_
                        refine lv_iload_n X.1 X.2.1 d_By_stop_164 rfl (lv_at hl 1 rfl) ?_
                        refine z_iadd X.1 X.2.1 d_By_stop_165 ?_
                        refine lv_goto (tgt := 170) X.1 X.2.1 d_By_stop_166 (by decide) ?_
                        exact c_reti hQQ X Y hr hlk ⟨rfl, rfl, ((a1 + 2) + (z106 - 128)) + z121, rfl, ⟨by omega, by omega, by omega⟩⟩ d_By_stop_170
                    · refine lv_iconst (v := iI (-1)) X.1 X.2.1 d_By_stop_152 (by decide) ?_
                      exact c_reti hQQ X Y hr hlk ⟨rfl, rfl, (-1), rfl, ⟨by omega, by omega, by omega⟩⟩ d_By_stop_153
              · refine lv_iconst (v := iI (-1)) X.1 X.2.1 d_By_stop_74 (by decide) ?_
                exact c_reti hQQ X Y hr hlk ⟨rfl, rfl, (-1), rfl, ⟨by omega, by omega, by omega⟩⟩ d_By_stop_75
      · refine lv_iconst (v := iI (-1)) X.1 X.2.1 d_By_stop_19 (by decide) ?_
        exact c_reti hQQ X Y hr hlk ⟨rfl, rfl, (-1), rfl, ⟨by omega, by omega, by omega⟩⟩ d_By_stop_20
set_option maxHeartbeats 4000000 in
set_option maxRecDepth 100000 in
theorem c_By_body (l : Launch) (D : va_G) (E : cE) (T : cT) (κ : tK) (L : List Nat) (f : pF) (sz : Nat) (h n0 : Nat) (k0 : κ h = (13, n0)) (x0 : n0 ≤ 12288) (a1 : Int) (l_a1 : (-1) ≤ a1) (u_a1 : a1 ≤ 20200) (hw : tW E T κ L f) (sz0 : Int) (g0 : gF f h 1 = .int (iI sz0)) (g1 : 0 ≤ sz0) (g2 : sz0 ≤ (n0 : Int)) : Met l y_By_body (k_By_body :: lw_tg) (kRm 1 60 0 0) (va_Pc [.ref h, .int (iI a1)] (kPre D E T L f sz)) (va_Qi (uPi L f (fun (z : Int) => (-1) ≤ z ∧ z ≤ 12420 ∧ (z = -1 ∧ (a1 < 0 ∨ sz0 ≤ a1 + 1) ∨ 0 ≤ a1 ∧ a1 + 1 < sz0 ∧ a1 + 2 ≤ z ∧ z ≤ a1 + 129))) (cPost D E (pA L sz)) (pA L sz)) 0 0 (pA L sz) := by
  refine k_enter (own := R_By) (by decide) rfl (Nat.le_of_ble_eq_true rfl) (fun p e s m below meth c ls AV QQ H locs hQQ X Y hA hin hr hlk hml hl KS KR => ?_)
  have hl : lv_has ls 3 [(0, .ref h), (1, .int (iI a1))] := hl
  have S : tS E T (tFr κ L [] []) κ L f κ L f := tS_rf hw
  refine lv_iload_n X.1 X.2.1 d_By_body_0 rfl (lv_at hl 1 rfl) ?_
  refine z_if_lt (tgt := 14) X.1 X.2.1 d_By_body_1 (by decide) ⟨by omega, by omega⟩ (fun h101 => ?_) (fun h101 => ?_)
  · refine lv_iconst (v := iI (-1)) X.1 X.2.1 d_By_body_14 (by decide) ?_
    exact c_reti hQQ X Y hr hlk ⟨rfl, rfl, (-1), rfl, ⟨by omega, by omega, by omega⟩⟩ d_By_body_15
  · refine lv_iload_n X.1 X.2.1 d_By_body_4 rfl (lv_at hl 1 rfl) ?_
    refine lv_iconst (v := iI 1) X.1 X.2.1 d_By_body_5 (by decide) ?_
    refine z_iadd X.1 X.2.1 d_By_body_6 ?_
    refine lv_aload_n X.1 X.2.1 d_By_body_7 rfl (lv_at hl 0 rfl) ?_
    refine t_get0 (ci := 3) X Y S k0 rfl i_By 1 (by decide) rfl lk_By_21 (fun _ h9 => h9) d_By_body_8 g0 ?_
    refine z_icmp_lt (tgt := 16) X.1 X.2.1 d_By_body_11 (by decide) ⟨by omega, by omega⟩ ⟨by omega, by omega⟩ (fun h102 => ?_) (fun h102 => ?_)
    · refine lv_aload_n X.1 X.2.1 d_By_body_16 rfl (lv_at hl 0 rfl) ?_
      refine t_getrow (ci := 3) X Y S k0 rfl i_By 0 (by decide) rfl lk_By_15 (fun _ h9 => h9) d_By_body_17 (fun b103 e103 k103 => ?_)
      refine lv_iload_n X.1 X.2.1 d_By_body_20 rfl (lv_at hl 1 rfl) ?_
      refine lv_iconst (v := iI 1) X.1 X.2.1 d_By_body_21 (by decide) ?_
      refine z_iadd X.1 X.2.1 d_By_body_22 ?_
      refine t_bald X Y S (Or.inl k103) (by omega) (by omega) (by omega) d_By_body_23 (fun z104 l104 u104 => ?_)
      refine lv_sipush (v := iI 255) X.1 X.2.1 d_By_body_24 (by decide) ?_
      refine z_iand X.1 X.2.1 (by omega) (by omega) d_By_body_27 (fun z105 l105 u105 => ?_)
      refine lv_istore_n (lv' := [(2, .int (iI z105)), (0, .ref h), (1, .int (iI a1))]) X.1 X.2.1 d_By_body_28 rfl hl (by decide) rfl (fun ls hl => ?_)
      refine lv_iload_n X.1 X.2.1 d_By_body_29 rfl (lv_at hl 0 rfl) ?_
      refine lv_sipush (v := iI 128) X.1 X.2.1 d_By_body_30 (by decide) ?_
      refine z_icmp_ge (tgt := 42) X.1 X.2.1 d_By_body_33 (by decide) ⟨by omega, by omega⟩ ⟨by omega, by omega⟩ (fun h106 => ?_) (fun h106 => ?_)
      · refine lv_iload_n X.1 X.2.1 d_By_body_42 rfl (lv_at hl 2 rfl) ?_
        refine lv_iconst (v := iI 2) X.1 X.2.1 d_By_body_43 (by decide) ?_
        refine z_iadd X.1 X.2.1 d_By_body_44 ?_
        refine lv_iload_n X.1 X.2.1 d_By_body_45 rfl (lv_at hl 0 rfl) ?_
        refine z_iadd X.1 X.2.1 d_By_body_46 ?_
        refine lv_sipush (v := iI 128) X.1 X.2.1 d_By_body_47 (by decide) ?_
        refine z_isub X.1 X.2.1 d_By_body_50 ?_
        exact c_reti hQQ X Y hr hlk ⟨rfl, rfl, ((a1 + 2) + z105) - 128, rfl, ⟨by omega, by omega, by omega⟩⟩ d_By_body_51
      · refine lv_iload_n X.1 X.2.1 d_By_body_36 rfl (lv_at hl 2 rfl) ?_
        refine lv_iconst (v := iI 2) X.1 X.2.1 d_By_body_37 (by decide) ?_
        refine z_iadd X.1 X.2.1 d_By_body_38 ?_
        refine lv_goto (tgt := 51) X.1 X.2.1 d_By_body_39 (by decide) ?_
        exact c_reti hQQ X Y hr hlk ⟨rfl, rfl, a1 + 2, rfl, ⟨by omega, by omega, by omega⟩⟩ d_By_body_51
    · refine lv_iconst (v := iI (-1)) X.1 X.2.1 d_By_body_14 (by decide) ?_
      exact c_reti hQQ X Y hr hlk ⟨rfl, rfl, (-1), rfl, ⟨by omega, by omega, by omega⟩⟩ d_By_body_15
set_option maxHeartbeats 4000000 in
set_option maxRecDepth 100000 in
theorem c_By_putCopy (l : Launch) (D : va_G) (E : cE) (T : cT) (κ : tK) (L : List Nat) (f : pF) (sz : Nat) (h n0 : Nat) (k0 : κ h = (13, n0)) (x0 : n0 ≤ 12288) (a1 : Int) (l_a1 : 0 ≤ a1) (u_a1 : a1 ≤ 64) (a2 n2 : Nat) (k2 : κ a2 = (13, n2)) (x2 : n2 ≤ 12288) (a3 : Int) (l_a3 : (-1) ≤ a3) (u_a3 : a3 ≤ 20200) (hw : tW E T κ L f) : Met l y_By_putCopy (k_By_putCopy :: lw_tg) (kRm 3 102 0 0) (va_Pc [.ref h, .int (iI a1), .ref a2, .int (iI a3)] (kPre D E T L f sz)) (va_Qv (nPv E T [1, 13] κ L f (fun (g : pF) => True)) (cPost D E (pA L sz)) (pA L sz)) 0 0 (pA L sz) := by
  refine k_enter (own := R_By) (by decide) rfl (Nat.le_of_ble_eq_true rfl) (fun p e s m below meth c ls AV QQ H locs hQQ X Y hA hin hr hlk hml hl KS KR => ?_)
  have hl : lv_has ls 6 [(0, .ref h), (1, .int (iI a1)), (2, .ref a2), (3, .int (iI a3))] := hl
  have S : tS E T (tFr κ L [1, 13] []) κ L f κ L f := tS_rf hw
  refine lv_aload_n X.1 X.2.1 d_By_putCopy_0 rfl (lv_at hl 2 rfl) ?_
  refine lv_iload_n X.1 X.2.1 d_By_putCopy_1 rfl (lv_at hl 3 rfl) ?_
  refine lv_aload_n X.1 X.2.1 d_By_putCopy_2 rfl (lv_at hl 2 rfl) ?_
  refine t_gets (ci := 3) X Y S k2 rfl i_By 1 (by decide) rfl lk_By_21 (fun _ h9 => h9) d_By_putCopy_3 (fun z101 e101 l101 u101 => ?_)
  refine t_ui (t_runV (As := [.int (iI a3), .int (iI z101)]) (rest := []) (n := 2) X Y S k2 hml hl.1 (c_By_stop l D E T κ L f H.size a2 n2 k2 (by omega) a3 (by omega) (by omega) z101 (by omega) (by omega) S.1 z101 e101 (by omega) (by omega)) (ok_k X Y hA KS KR) rfl kl_By_By_stop ks_By_stop kx_By_stop ki_By_stop ini_By ⟨rfl, rfl⟩ hd_By_stop ⟨Nat.le_of_ble_eq_true rfl, Nat.le_of_ble_eq_true rfl⟩ rfl (Nat.le_of_ble_eq_true rfl) d_By_putCopy_6 ⟨Nat.le_of_ble_eq_true rfl, Nat.le_of_ble_eq_true rfl⟩) X Y hA (fun z102 H locs Y p102 => ?_)
  obtain ⟨l102, u102, x102⟩ := p102
  refine lv_istore (lv' := [(4, .int (iI z102)), (0, .ref h), (1, .int (iI a1)), (2, .ref a2), (3, .int (iI a3))]) X.1 X.2.1 d_By_putCopy_9 hl (by decide) rfl (fun ls hl => ?_)
  refine lv_iload X.1 X.2.1 d_By_putCopy_11 (lv_at hl 0 rfl) ?_
  refine z_if_ge (tgt := 17) X.1 X.2.1 d_By_putCopy_13 (by decide) ⟨by omega, by omega⟩ (fun h103 => ?_) (fun h103 => ?_)
  · refine lv_aload_n X.1 X.2.1 d_By_putCopy_17 rfl (lv_at hl 1 rfl) ?_
    refine lv_iload_n X.1 X.2.1 d_By_putCopy_18 rfl (lv_at hl 2 rfl) ?_
    refine t_ni (t_runV (As := [.int (iI a1)]) (rest := []) (n := 1) X Y S k0 hml hl.1 (c_By_openField l D E T κ L f H.size h n0 k0 (by omega) a1 (by omega) (by omega) S.1) (ok_k X Y hA KS KR) rfl kl_By_By_openField ks_By_openField kx_By_openField ki_By_openField ini_By ⟨rfl, rfl⟩ hd_By_openField ⟨Nat.le_of_ble_eq_true rfl, Nat.le_of_ble_eq_true rfl⟩ rfl (Nat.le_of_ble_eq_true rfl) d_By_putCopy_19 ⟨Nat.le_of_ble_eq_true rfl, Nat.le_of_ble_eq_true rfl⟩) X Y hA S (by decide) (fun z104 f104 H locs Y S s104 p104 => ?_)
    obtain ⟨l104, u104⟩ := p104
    refine lv_istore (lv' := [(5, .int (iI z104)), (4, .int (iI z102)), (0, .ref h), (1, .int (iI a1)), (2, .ref a2), (3, .int (iI a3))]) X.1 X.2.1 d_By_putCopy_22 hl (by decide) rfl (fun ls hl => ?_)
    refine lv_aload_n X.1 X.2.1 d_By_putCopy_24 rfl (lv_at hl 2 rfl) ?_
    refine lv_aload_n X.1 X.2.1 d_By_putCopy_25 rfl (lv_at hl 4 rfl) ?_
    refine t_getrow (ci := 3) X Y S k2 rfl i_By 0 (by decide) rfl lk_By_15 (fun _ h9 => h9) d_By_putCopy_26 (fun b105 e105 k105 => ?_)
    refine lv_iload_n X.1 X.2.1 d_By_putCopy_29 rfl (lv_at hl 5 rfl) ?_
    refine lv_iload X.1 X.2.1 d_By_putCopy_30 (lv_at hl 1 rfl) ?_
    refine lv_iload_n X.1 X.2.1 d_By_putCopy_32 rfl (lv_at hl 5 rfl) ?_
    refine z_isub X.1 X.2.1 d_By_putCopy_33 ?_
    refine t_nv (t_runV (As := [.ref b105, .int (iI a3), .int (iI (z102 - a3))]) (rest := []) (n := 3) X Y S k0 hml hl.1 (c_By_append l D E T κ L f104 H.size h n0 k0 (by omega) b105 n2 (Or.inl k105) (by omega) a3 (by omega) (by omega) (z102 - a3) (by omega) (by omega) S.1) (ok_k X Y hA KS KR) rfl kl_By_By_append ks_By_append kx_By_append ki_By_append ini_By ⟨rfl, rfl⟩ hd_By_append ⟨Nat.le_of_ble_eq_true rfl, Nat.le_of_ble_eq_true rfl⟩ rfl (Nat.le_of_ble_eq_true rfl) d_By_putCopy_34 ⟨Nat.le_of_ble_eq_true rfl, Nat.le_of_ble_eq_true rfl⟩) X Y hA S (by decide) (fun f106 H locs Y S s106 p106 => ?_)
    refine lv_aload_n X.1 X.2.1 d_By_putCopy_37 rfl (lv_at hl 2 rfl) ?_
    refine lv_iload X.1 X.2.1 d_By_putCopy_38 (lv_at hl 0 rfl) ?_
    refine t_nv (t_runV (As := [.int (iI z104)]) (rest := []) (n := 1) X Y S k0 hml hl.1 (c_By_close l D E T κ L f106 H.size h n0 k0 (by omega) z104 (by omega) (by omega) S.1) (ok_k X Y hA KS KR) rfl kl_By_By_close ks_By_close kx_By_close ki_By_close ini_By ⟨rfl, rfl⟩ hd_By_close ⟨Nat.le_of_ble_eq_true rfl, Nat.le_of_ble_eq_true rfl⟩ rfl (Nat.le_of_ble_eq_true rfl) d_By_putCopy_40 ⟨Nat.le_of_ble_eq_true rfl, Nat.le_of_ble_eq_true rfl⟩) X Y hA S (by decide) (fun f107 H locs Y S s107 p107 => ?_)
    exact c_retv hQQ X Y hr hlk ⟨rfl, S, trivial⟩ d_By_putCopy_43
  · exact c_retv hQQ X Y hr hlk ⟨rfl, S, trivial⟩ d_By_putCopy_16
set_option maxHeartbeats 4000000 in
set_option maxRecDepth 100000 in
theorem c_By_putDigits (l : Launch) (D : va_G) (E : cE) (T : cT) (κ : tK) (L : List Nat) (f : pF) (sz : Nat) (h n0 : Nat) (k0 : κ h = (13, n0)) (x0 : n0 ≤ 12288) (a1 : Int) (l_a1 : (-2147483648) ≤ a1) (u_a1 : a1 ≤ 2147483647) (hw : tW E T κ L f) : Met l y_By_putDigits (k_By_putDigits :: lw_tg) (kRm 2 81 0 0) (va_Pc [.ref h, .int (iI a1)] (kPre D E T L f sz)) (va_Qv (nPv E T [1, 13] κ L f (fun (g : pF) => True)) (cPost D E (pA L sz)) (pA L sz)) 0 0 (pA L sz) := by
  refine k_enter (own := R_By) (by decide) rfl (Nat.le_of_ble_eq_true rfl) (fun p e s m below meth c ls AV QQ H locs hQQ X Y hA hin hr hlk hml hl KS KR => ?_)
  have hl : lv_has ls 2 [(0, .ref h), (1, .int (iI a1))] := hl
  have S : tS E T (tFr κ L [1, 13] []) κ L f κ L f := tS_rf hw
  refine lv_aload_n X.1 X.2.1 d_By_putDigits_0 rfl (lv_at hl 0 rfl) ?_
  refine lv_bipush (v := iI 48) X.1 X.2.1 d_By_putDigits_1 (by decide) ?_
  refine lv_iload_n X.1 X.2.1 d_By_putDigits_3 rfl (lv_at hl 1 rfl) ?_
  refine lv_bipush (v := iI 10) X.1 X.2.1 d_By_putDigits_4 (by decide) ?_
  refine z_idivg X.1 X.2.1 ⟨by omega, by omega⟩ ⟨by decide, by decide⟩ d_By_putDigits_6 (fun z101 l101 u101 x101 y101 => ?_)
  refine lv_bipush (v := iI 10) X.1 X.2.1 d_By_putDigits_7 (by decide) ?_
  refine z_iremg X.1 X.2.1 ⟨by omega, by omega⟩ ⟨by decide, by decide⟩ d_By_putDigits_9 (fun z102 l102 u102 x102 => ?_)
  refine z_iadd X.1 X.2.1 d_By_putDigits_10 ?_
  refine t_nv (t_runV (As := [.int (iI (48 + z102))]) (rest := []) (n := 1) X Y S k0 hml hl.1 (c_By_put l D E T κ L f H.size h n0 k0 (by omega) (48 + z102) (by omega) (by omega) S.1) (ok_k X Y hA KS KR) rfl kl_By_By_put ks_By_put kx_By_put ki_By_put ini_By ⟨rfl, rfl⟩ hd_By_put ⟨Nat.le_of_ble_eq_true rfl, Nat.le_of_ble_eq_true rfl⟩ rfl (Nat.le_of_ble_eq_true rfl) d_By_putDigits_11 ⟨Nat.le_of_ble_eq_true rfl, Nat.le_of_ble_eq_true rfl⟩) X Y hA S (by decide) (fun f103 H locs Y S s103 p103 => ?_)
  refine lv_aload_n X.1 X.2.1 d_By_putDigits_14 rfl (lv_at hl 0 rfl) ?_
  refine lv_bipush (v := iI 48) X.1 X.2.1 d_By_putDigits_15 (by decide) ?_
  refine lv_iload_n X.1 X.2.1 d_By_putDigits_17 rfl (lv_at hl 1 rfl) ?_
  refine lv_bipush (v := iI 10) X.1 X.2.1 d_By_putDigits_18 (by decide) ?_
  refine z_iremg X.1 X.2.1 ⟨by omega, by omega⟩ ⟨by decide, by decide⟩ d_By_putDigits_20 (fun z104 l104 u104 x104 => ?_)
  refine z_iadd X.1 X.2.1 d_By_putDigits_21 ?_
  refine t_nv (t_runV (As := [.int (iI (48 + z104))]) (rest := []) (n := 1) X Y S k0 hml hl.1 (c_By_put l D E T κ L f103 H.size h n0 k0 (by omega) (48 + z104) (by omega) (by omega) S.1) (ok_k X Y hA KS KR) rfl kl_By_By_put ks_By_put kx_By_put ki_By_put ini_By ⟨rfl, rfl⟩ hd_By_put ⟨Nat.le_of_ble_eq_true rfl, Nat.le_of_ble_eq_true rfl⟩ rfl (Nat.le_of_ble_eq_true rfl) d_By_putDigits_22 ⟨Nat.le_of_ble_eq_true rfl, Nat.le_of_ble_eq_true rfl⟩) X Y hA S (by decide) (fun f105 H locs Y S s105 p105 => ?_)
  exact c_retv hQQ X Y hr hlk ⟨rfl, S, trivial⟩ d_By_putDigits_25
set_option maxHeartbeats 4000000 in
set_option maxRecDepth 100000 in
theorem c_By_daysBefore (l : Launch) (D : va_G) (E : cE) (T : cT) (κ : tK) (L : List Nat) (f : pF) (sz : Nat) (a1 : Int) (l_a1 : (-2147483648) ≤ a1) (u_a1 : a1 ≤ 2147483647) (a2 : Int) (l_a2 : (-2147483648) ≤ a2) (u_a2 : a2 ≤ 2147483647) (hw : tW E T κ L f) : Met l y_By_daysBefore (k_By_daysBefore :: lw_tg) (kRm 1 60 0 0) (va_Pc [.int (iI a1), .int (iI a2)] (kPre D E T L f sz)) (va_Qi (uPi L f (fun (z : Int) => (-2147483648) ≤ z ∧ z ≤ 2147483647)) (cPost D E (pA L sz)) (pA L sz)) 0 0 (pA L sz) := by
  refine k_enter (own := R_By) (by decide) rfl (Nat.le_of_ble_eq_true rfl) (fun p e s m below meth c ls AV QQ H locs hQQ X Y hA hin hr hlk hml hl KS KR => ?_)
  have hl : lv_has ls 4 [(0, .int (iI a1)), (1, .int (iI a2))] := hl
  have S : tS E T (tFr κ L [] []) κ L f κ L f := tS_rf hw
  refine lv_iconst (v := iI 1) X.1 X.2.1 d_By_daysBefore_0 (by decide) ?_
  refine lv_bipush (v := iI 13) X.1 X.2.1 d_By_daysBefore_1 (by decide) ?_
  refine lv_iload_n X.1 X.2.1 d_By_daysBefore_3 rfl (lv_at hl 1 rfl) ?_
  refine z_min X.1 X.2.1 (hml.trans hl.1.symm) X.2.2.2.1 (X.2.2.1 _ kl_By_mmin) (X.2.2.1 _ ks_mmin) (X.2.2.1 _ ini_Math) (X.2.2.1 _ ki_mmin) (Nat.le_of_ble_eq_true rfl) (Nat.le_of_ble_eq_true rfl) (Nat.le_of_ble_eq_true rfl) (Nat.le_of_ble_eq_true rfl) ⟨by omega, by omega⟩ ⟨by omega, by omega⟩ d_By_daysBefore_4 (fun z101 l101 u101 x101 => ?_)
  refine z_max X.1 X.2.1 (hml.trans hl.1.symm) X.2.2.2.1 (X.2.2.1 _ kl_By_mmax) (X.2.2.1 _ ks_mmax) (X.2.2.1 _ ini_Math) (X.2.2.1 _ ki_mmax) (Nat.le_of_ble_eq_true rfl) (Nat.le_of_ble_eq_true rfl) (Nat.le_of_ble_eq_true rfl) (Nat.le_of_ble_eq_true rfl) ⟨by omega, by omega⟩ ⟨by omega, by omega⟩ d_By_daysBefore_7 (fun z102 l102 u102 x102 => ?_)
  refine lv_istore_n (lv' := [(2, .int (iI z102)), (0, .int (iI a1)), (1, .int (iI a2))]) X.1 X.2.1 d_By_daysBefore_10 rfl hl (by decide) rfl (fun ls hl => ?_)
  refine lv_iload_n X.1 X.2.1 d_By_daysBefore_11 rfl (lv_at hl 1 rfl) ?_
  refine lv_iconst (v := iI 4) X.1 X.2.1 d_By_daysBefore_12 (by decide) ?_
  refine z_iremg X.1 X.2.1 ⟨by omega, by omega⟩ ⟨by decide, by decide⟩ d_By_daysBefore_13 (fun z103 l103 u103 x103 => ?_)
  have J104 : ∀  (H : Heap) (locs : List Loc) (ls : Array Slot), pH D cCl (pA L sz) s.heap L f H locs → tS E T (tFr κ L [] []) κ L f κ L f → lv_has ls 4 [(0, .int (iI a1)), (2, .int (iI z102))] → W p l e (kRm 1 60 0 0) s m AV below meth c H locs 0 0 QQ (F0 m 26 ls []) := by
    intro  H locs ls  Y S hl
    refine lv_iconst (v := iI 0) X.1 X.2.1 d_By_daysBefore_26 (by decide) ?_
    refine lv_istore_n (lv' := [(3, .int (iI 0)), (0, .int (iI a1)), (2, .int (iI z102))]) X.1 X.2.1 d_By_daysBefore_27 rfl hl (by decide) rfl (fun ls hl => ?_)
    refine lv_iload_n X.1 X.2.1 d_By_daysBefore_28 rfl (lv_at hl 1 rfl) ?_
    refine lv_sipush (v := iI 1970) X.1 X.2.1 d_By_daysBefore_29 (by decide) ?_
    refine lv_isub X.1 X.2.1 d_By_daysBefore_32 ?_
    refine t_u (fun z108 l108 u108 => ?_)
    refine lv_sipush (v := iI 365) X.1 X.2.1 d_By_daysBefore_33 (by decide) ?_
    refine lv_imul X.1 X.2.1 d_By_daysBefore_36 ?_
    refine t_u (fun z109 l109 u109 => ?_)
    refine lv_iload_n X.1 X.2.1 d_By_daysBefore_37 rfl (lv_at hl 1 rfl) ?_
    refine lv_sipush (v := iI 1969) X.1 X.2.1 d_By_daysBefore_38 (by decide) ?_
    refine lv_isub X.1 X.2.1 d_By_daysBefore_41 ?_
    refine t_u (fun z110 l110 u110 => ?_)
    refine lv_iconst (v := iI 4) X.1 X.2.1 d_By_daysBefore_42 (by decide) ?_
    refine z_idivg X.1 X.2.1 ⟨by omega, by omega⟩ ⟨by decide, by decide⟩ d_By_daysBefore_43 (fun z111 l111 u111 x111 y111 => ?_)
    refine lv_iadd X.1 X.2.1 d_By_daysBefore_44 ?_
    refine t_u (fun z112 l112 u112 => ?_)
    refine k_gets 3 (by decide) X Y KS sk_By_119 d_By_daysBefore_45 ?_
    refine lv_iload_n X.1 X.2.1 d_By_daysBefore_48 rfl (lv_at hl 2 rfl) ?_
    refine lv_iconst (v := iI 1) X.1 X.2.1 d_By_daysBefore_49 (by decide) ?_
    refine z_isub X.1 X.2.1 d_By_daysBefore_50 ?_
    refine t_sald 3 (by decide) rfl X Y KS (by omega) (show z102 - 1 < ((13 : Nat) : Int) by omega) (by omega) d_By_daysBefore_51 (fun z113 l113 u113 => ?_)
    refine lv_iadd X.1 X.2.1 d_By_daysBefore_52 ?_
    refine t_u (fun z114 l114 u114 => ?_)
    refine lv_iload_n X.1 X.2.1 d_By_daysBefore_53 rfl (lv_at hl 0 rfl) ?_
    refine z_iadd X.1 X.2.1 d_By_daysBefore_54 ?_
    exact c_reti hQQ X Y hr hlk ⟨rfl, rfl, z114 + 0, rfl, ⟨by omega, by omega⟩⟩ d_By_daysBefore_55
  refine z_if_ne (tgt := 26) X.1 X.2.1 d_By_daysBefore_14 (by decide) ⟨by omega, by omega⟩ (fun h115 => ?_) (fun h115 => ?_)
  · exact J104  _ _ _  Y S (lv_sub hl [1, 0] rfl)
  · refine lv_iload_n X.1 X.2.1 d_By_daysBefore_17 rfl (lv_at hl 0 rfl) ?_
    refine lv_iconst (v := iI 2) X.1 X.2.1 d_By_daysBefore_18 (by decide) ?_
    refine z_icmp_le (tgt := 26) X.1 X.2.1 d_By_daysBefore_19 (by decide) ⟨by omega, by omega⟩ ⟨by omega, by omega⟩ (fun h116 => ?_) (fun h116 => ?_)
    · exact J104  _ _ _  Y S (lv_sub hl [1, 0] rfl)
    · refine lv_iconst (v := iI 1) X.1 X.2.1 d_By_daysBefore_22 (by decide) ?_
      refine lv_goto (tgt := 27) X.1 X.2.1 d_By_daysBefore_23 (by decide) ?_
      refine lv_istore_n (lv' := [(3, .int (iI 1)), (2, .int (iI z102)), (0, .int (iI a1)), (1, .int (iI a2))]) X.1 X.2.1 d_By_daysBefore_27 rfl hl (by decide) rfl (fun ls hl => ?_)
      refine lv_iload_n X.1 X.2.1 d_By_daysBefore_28 rfl (lv_at hl 2 rfl) ?_
      refine lv_sipush (v := iI 1970) X.1 X.2.1 d_By_daysBefore_29 (by decide) ?_
      refine lv_isub X.1 X.2.1 d_By_daysBefore_32 ?_
      refine t_u (fun z117 l117 u117 => ?_)
      refine lv_sipush (v := iI 365) X.1 X.2.1 d_By_daysBefore_33 (by decide) ?_
      refine lv_imul X.1 X.2.1 d_By_daysBefore_36 ?_
      refine t_u (fun z118 l118 u118 => ?_)
      refine lv_iload_n X.1 X.2.1 d_By_daysBefore_37 rfl (lv_at hl 2 rfl) ?_
      refine lv_sipush (v := iI 1969) X.1 X.2.1 d_By_daysBefore_38 (by decide) ?_
      refine lv_isub X.1 X.2.1 d_By_daysBefore_41 ?_
      refine t_u (fun z119 l119 u119 => ?_)
      refine lv_iconst (v := iI 4) X.1 X.2.1 d_By_daysBefore_42 (by decide) ?_
      refine z_idivg X.1 X.2.1 ⟨by omega, by omega⟩ ⟨by decide, by decide⟩ d_By_daysBefore_43 (fun z120 l120 u120 x120 y120 => ?_)
      refine lv_iadd X.1 X.2.1 d_By_daysBefore_44 ?_
      refine t_u (fun z121 l121 u121 => ?_)
      refine k_gets 3 (by decide) X Y KS sk_By_119 d_By_daysBefore_45 ?_
      refine lv_iload_n X.1 X.2.1 d_By_daysBefore_48 rfl (lv_at hl 1 rfl) ?_
      refine lv_iconst (v := iI 1) X.1 X.2.1 d_By_daysBefore_49 (by decide) ?_
      refine z_isub X.1 X.2.1 d_By_daysBefore_50 ?_
      refine t_sald 3 (by decide) rfl X Y KS (by omega) (show z102 - 1 < ((13 : Nat) : Int) by omega) (by omega) d_By_daysBefore_51 (fun z122 l122 u122 => ?_)
      refine lv_iadd X.1 X.2.1 d_By_daysBefore_52 ?_
      refine t_u (fun z123 l123 u123 => ?_)
      refine lv_iload_n X.1 X.2.1 d_By_daysBefore_53 rfl (lv_at hl 0 rfl) ?_
      refine lv_iadd X.1 X.2.1 d_By_daysBefore_54 ?_
      refine t_u (fun z124 l124 u124 => ?_)
      exact c_reti hQQ X Y hr hlk ⟨rfl, rfl, z124, rfl, ⟨by omega, by omega⟩⟩ d_By_daysBefore_55
set_option maxHeartbeats 4000000 in
set_option maxRecDepth 100000 in
theorem c_By_putTime (l : Launch) (D : va_G) (E : cE) (T : cT) (κ : tK) (L : List Nat) (f : pF) (sz : Nat) (h n0 : Nat) (k0 : κ h = (13, n0)) (x0 : n0 ≤ 12288) (a1 : Int) (l_a1 : 0 ≤ a1) (u_a1 : a1 ≤ 64) (a2 : Int) (l_a2 : (-2147483648) ≤ a2) (u_a2 : a2 ≤ 2147483647) (hw : tW E T κ L f) : Met l y_By_putTime (k_By_putTime :: lw_tg) (kRm 3 102 0 0) (va_Pc [.ref h, .int (iI a1), .int (iI a2)] (kPre D E T L f sz)) (va_Qv (nPv E T [1, 13] κ L f (fun (g : pF) => True)) (cPost D E (pA L sz)) (pA L sz)) 0 0 (pA L sz) := by
  refine k_enter (own := R_By) (by decide) rfl (Nat.le_of_ble_eq_true rfl) (fun p e s m below meth c ls AV QQ H locs hQQ X Y hA hin hr hlk hml hl KS KR => ?_)
  have hl : lv_has ls 8 [(0, .ref h), (1, .int (iI a1)), (2, .int (iI a2))] := hl
  have S : tS E T (tFr κ L [1, 13] []) κ L f κ L f := tS_rf hw
  refine lv_aload_n X.1 X.2.1 d_By_putTime_0 rfl (lv_at hl 0 rfl) ?_
  refine lv_iload_n X.1 X.2.1 d_By_putTime_1 rfl (lv_at hl 1 rfl) ?_
  refine t_ni (t_runV (As := [.int (iI a1)]) (rest := []) (n := 1) X Y S k0 hml hl.1 (c_By_openField l D E T κ L f H.size h n0 k0 (by omega) a1 (by omega) (by omega) S.1) (ok_k X Y hA KS KR) rfl kl_By_By_openField ks_By_openField kx_By_openField ki_By_openField ini_By ⟨rfl, rfl⟩ hd_By_openField ⟨Nat.le_of_ble_eq_true rfl, Nat.le_of_ble_eq_true rfl⟩ rfl (Nat.le_of_ble_eq_true rfl) d_By_putTime_2 ⟨Nat.le_of_ble_eq_true rfl, Nat.le_of_ble_eq_true rfl⟩) X Y hA S (by decide) (fun z101 f101 H locs Y S s101 p101 => ?_)
  obtain ⟨l101, u101⟩ := p101
  refine lv_istore_n (lv' := [(3, .int (iI z101)), (0, .ref h), (1, .int (iI a1)), (2, .int (iI a2))]) X.1 X.2.1 d_By_putTime_5 rfl hl (by decide) rfl (fun ls hl => ?_)
  refine lv_aload_n X.1 X.2.1 d_By_putTime_6 rfl (lv_at hl 1 rfl) ?_
  refine lv_bipush (v := iI 24) X.1 X.2.1 d_By_putTime_7 (by decide) ?_
  refine t_nv (t_runV (As := [.int (iI 24)]) (rest := []) (n := 1) X Y S k0 hml hl.1 (c_By_put l D E T κ L f101 H.size h n0 k0 (by omega) 24 (by omega) (by omega) S.1) (ok_k X Y hA KS KR) rfl kl_By_By_put ks_By_put kx_By_put ki_By_put ini_By ⟨rfl, rfl⟩ hd_By_put ⟨Nat.le_of_ble_eq_true rfl, Nat.le_of_ble_eq_true rfl⟩ rfl (Nat.le_of_ble_eq_true rfl) d_By_putTime_9 ⟨Nat.le_of_ble_eq_true rfl, Nat.le_of_ble_eq_true rfl⟩) X Y hA S (by decide) (fun f102 H locs Y S s102 p102 => ?_)
  refine lv_aload_n X.1 X.2.1 d_By_putTime_12 rfl (lv_at hl 1 rfl) ?_
  refine lv_bipush (v := iI 15) X.1 X.2.1 d_By_putTime_13 (by decide) ?_
  refine t_nv (t_runV (As := [.int (iI 15)]) (rest := []) (n := 1) X Y S k0 hml hl.1 (c_By_put l D E T κ L f102 H.size h n0 k0 (by omega) 15 (by omega) (by omega) S.1) (ok_k X Y hA KS KR) rfl kl_By_By_put ks_By_put kx_By_put ki_By_put ini_By ⟨rfl, rfl⟩ hd_By_put ⟨Nat.le_of_ble_eq_true rfl, Nat.le_of_ble_eq_true rfl⟩ rfl (Nat.le_of_ble_eq_true rfl) d_By_putTime_15 ⟨Nat.le_of_ble_eq_true rfl, Nat.le_of_ble_eq_true rfl⟩) X Y hA S (by decide) (fun f103 H locs Y S s103 p103 => ?_)
  refine lv_iload_n X.1 X.2.1 d_By_putTime_18 rfl (lv_at hl 3 rfl) ?_
  refine lv_ldc (v := (86400)) X.1 X.2.1 X.2.2.2.1 (X.2.2.1 _ cn_By_101) d_By_putTime_19 ?_
  refine t_eq (y := iI 86400) (by decide) ?_
  refine z_idivg X.1 X.2.1 ⟨by omega, by omega⟩ ⟨by decide, by decide⟩ d_By_putTime_21 (fun z104 l104 u104 x104 y104 => ?_)
  refine lv_istore (lv' := [(4, .int (iI z104)), (3, .int (iI z101)), (0, .ref h), (1, .int (iI a1)), (2, .int (iI a2))]) X.1 X.2.1 d_By_putTime_22 hl (by decide) rfl (fun ls hl => ?_)
  refine lv_iload_n X.1 X.2.1 d_By_putTime_24 rfl (lv_at hl 4 rfl) ?_
  refine lv_ldc (v := (86400)) X.1 X.2.1 X.2.2.2.1 (X.2.2.1 _ cn_By_101) d_By_putTime_25 ?_
  refine t_eq (y := iI 86400) (by decide) ?_
  refine z_iremg X.1 X.2.1 ⟨by omega, by omega⟩ ⟨by decide, by decide⟩ d_By_putTime_27 (fun z105 l105 u105 x105 => ?_)
  refine lv_istore (lv' := [(5, .int (iI z105)), (4, .int (iI z104)), (3, .int (iI z101)), (0, .ref h), (1, .int (iI a1)), (2, .int (iI a2))]) X.1 X.2.1 d_By_putTime_28 hl (by decide) rfl (fun ls hl => ?_)
  refine lv_sipush (v := iI 1970) X.1 X.2.1 d_By_putTime_30 (by decide) ?_
  have J107 : ∀ (n109 : Nat) (z106 : Int) (H : Heap) (locs : List Loc) (ls : Array Slot), (2037 - z106).toNat = n109 → (1970 ≤ z106) → (z106 ≤ 2037) → pH D cCl (pA L sz) s.heap L f103 H locs → tS E T (tFr κ L [1, 13] []) κ L f κ L f103 → lv_has ls 8 [(0, .ref h), (3, .int (iI z101)), (4, .int (iI z104)), (5, .int (iI z105)), (6, .int (iI z106))] → W p l e (kRm 3 102 0 0) s m AV below meth c H locs 0 0 QQ (F0 m 35 ls []) := by
    intro n109
    induction n109 using Nat.strongRecOn with
    | ind n109 ih108 =>
      intro z106 H locs ls hm110 l106 u106 Y S hl
      refine lv_iload X.1 X.2.1 d_By_putTime_35 (lv_at hl 4 rfl) ?_
      refine lv_sipush (v := iI 2037) X.1 X.2.1 d_By_putTime_37 (by decide) ?_
      have J111 : ∀  (H : Heap) (locs : List Loc) (ls : Array Slot), pH D cCl (pA L sz) s.heap L f103 H locs → tS E T (tFr κ L [1, 13] []) κ L f κ L f103 → lv_has ls 8 [(0, .ref h), (3, .int (iI z101)), (4, .int (iI z104)), (5, .int (iI z105)), (6, .int (iI z106))] → W p l e (kRm 3 102 0 0) s m AV below meth c H locs 0 0 QQ (F0 m 62 ls []) := by
        intro  H locs ls  Y S hl
        refine lv_iconst (v := iI 1) X.1 X.2.1 d_By_putTime_62 (by decide) ?_
        have J116 : ∀ (n118 : Nat) (z115 : Int) (H : Heap) (locs : List Loc) (ls : Array Slot), (12 - z115).toNat = n118 → (1 ≤ z115) → (z115 ≤ 12) → pH D cCl (pA L sz) s.heap L f103 H locs → tS E T (tFr κ L [1, 13] []) κ L f κ L f103 → lv_has ls 8 [(0, .ref h), (3, .int (iI z101)), (4, .int (iI z104)), (5, .int (iI z105)), (6, .int (iI z106)), (7, .int (iI z115))] → W p l e (kRm 3 102 0 0) s m AV below meth c H locs 0 0 QQ (F0 m 65 ls []) := by
          intro n118
          induction n118 using Nat.strongRecOn with
          | ind n118 ih117 =>
            intro z115 H locs ls hm119 l115 u115 Y S hl
            refine lv_iload X.1 X.2.1 d_By_putTime_65 (lv_at hl 5 rfl) ?_
            refine lv_bipush (v := iI 12) X.1 X.2.1 d_By_putTime_67 (by decide) ?_
            have J120 : ∀  (H : Heap) (locs : List Loc) (ls : Array Slot), pH D cCl (pA L sz) s.heap L f103 H locs → tS E T (tFr κ L [1, 13] []) κ L f κ L f103 → lv_has ls 8 [(0, .ref h), (3, .int (iI z101)), (4, .int (iI z104)), (5, .int (iI z105)), (6, .int (iI z106)), (7, .int (iI z115))] → W p l e (kRm 3 102 0 0) s m AV below meth c H locs 0 0 QQ (F0 m 92 ls []) := by
              intro  H locs ls  Y S hl
              refine lv_aload_n X.1 X.2.1 d_By_putTime_92 rfl (lv_at hl 0 rfl) ?_
              refine lv_iload X.1 X.2.1 d_By_putTime_93 (lv_at hl 4 rfl) ?_
              refine lv_bipush (v := iI 100) X.1 X.2.1 d_By_putTime_95 (by decide) ?_
              refine z_idiv X.1 X.2.1 (by omega) (by omega) ⟨by decide, by decide⟩ d_By_putTime_97 ?_
              refine t_nv (t_runV (As := [.int (iI (z106 / 100))]) (rest := []) (n := 1) X Y S k0 hml hl.1 (c_By_putDigits l D E T κ L f103 H.size h n0 k0 (by omega) (z106 / 100) (by omega) (by omega) S.1) (ok_k X Y hA KS KR) rfl kl_By_By_putDigits ks_By_putDigits kx_By_putDigits ki_By_putDigits ini_By ⟨rfl, rfl⟩ hd_By_putDigits ⟨Nat.le_of_ble_eq_true rfl, Nat.le_of_ble_eq_true rfl⟩ rfl (Nat.le_of_ble_eq_true rfl) d_By_putTime_98 ⟨Nat.le_of_ble_eq_true rfl, Nat.le_of_ble_eq_true rfl⟩) X Y hA S (by decide) (fun f124 H locs Y S s124 p124 => ?_)
              refine lv_aload_n X.1 X.2.1 d_By_putTime_101 rfl (lv_at hl 0 rfl) ?_
              refine lv_iload X.1 X.2.1 d_By_putTime_102 (lv_at hl 4 rfl) ?_
              refine lv_bipush (v := iI 100) X.1 X.2.1 d_By_putTime_104 (by decide) ?_
              refine z_irem X.1 X.2.1 (by omega) (by omega) ⟨by decide, by decide⟩ d_By_putTime_106 ?_
              refine t_nv (t_runV (As := [.int (iI (z106 % 100))]) (rest := []) (n := 1) X Y S k0 hml hl.1 (c_By_putDigits l D E T κ L f124 H.size h n0 k0 (by omega) (z106 % 100) (by omega) (by omega) S.1) (ok_k X Y hA KS KR) rfl kl_By_By_putDigits ks_By_putDigits kx_By_putDigits ki_By_putDigits ini_By ⟨rfl, rfl⟩ hd_By_putDigits ⟨Nat.le_of_ble_eq_true rfl, Nat.le_of_ble_eq_true rfl⟩ rfl (Nat.le_of_ble_eq_true rfl) d_By_putTime_107 ⟨Nat.le_of_ble_eq_true rfl, Nat.le_of_ble_eq_true rfl⟩) X Y hA S (by decide) (fun f125 H locs Y S s125 p125 => ?_)
              refine lv_aload_n X.1 X.2.1 d_By_putTime_110 rfl (lv_at hl 0 rfl) ?_
              refine lv_iload X.1 X.2.1 d_By_putTime_111 (lv_at hl 5 rfl) ?_
              refine t_nv (t_runV (As := [.int (iI z115)]) (rest := []) (n := 1) X Y S k0 hml hl.1 (c_By_putDigits l D E T κ L f125 H.size h n0 k0 (by omega) z115 (by omega) (by omega) S.1) (ok_k X Y hA KS KR) rfl kl_By_By_putDigits ks_By_putDigits kx_By_putDigits ki_By_putDigits ini_By ⟨rfl, rfl⟩ hd_By_putDigits ⟨Nat.le_of_ble_eq_true rfl, Nat.le_of_ble_eq_true rfl⟩ rfl (Nat.le_of_ble_eq_true rfl) d_By_putTime_113 ⟨Nat.le_of_ble_eq_true rfl, Nat.le_of_ble_eq_true rfl⟩) X Y hA S (by decide) (fun f126 H locs Y S s126 p126 => ?_)
              refine lv_aload_n X.1 X.2.1 d_By_putTime_116 rfl (lv_at hl 0 rfl) ?_
              refine lv_iload X.1 X.2.1 d_By_putTime_117 (lv_at hl 2 rfl) ?_
              refine lv_iload X.1 X.2.1 d_By_putTime_119 (lv_at hl 4 rfl) ?_
              refine lv_iload X.1 X.2.1 d_By_putTime_121 (lv_at hl 5 rfl) ?_
              refine t_ui (x_runS (As := [.int (iI z106), .int (iI z115)]) (rest := [.int (iI z104), .ref h]) (n := 2) X hml hl.1 (c_By_daysBefore l D E T κ L f126 H.size z106 (by omega) (by omega) z115 (by omega) (by omega) S.1) (ok_k X Y hA KS KR) kl_By_By_daysBefore ks_By_daysBefore ki_By_daysBefore ini_By ⟨rfl, rfl⟩ hd_By_daysBefore.2 ⟨Nat.le_of_ble_eq_true rfl, Nat.le_of_ble_eq_true rfl⟩ rfl (Nat.le_of_ble_eq_true rfl) d_By_putTime_123 ⟨Nat.le_of_ble_eq_true rfl, Nat.le_of_ble_eq_true rfl⟩) X Y hA (fun z127 H locs Y p127 => ?_)
              obtain ⟨l127, u127⟩ := p127
              refine lv_isub X.1 X.2.1 d_By_putTime_126 ?_
              refine t_u (fun z128 l128 u128 => ?_)
              refine lv_iconst (v := iI 1) X.1 X.2.1 d_By_putTime_127 (by decide) ?_
              refine lv_iadd X.1 X.2.1 d_By_putTime_128 ?_
              refine t_u (fun z129 l129 u129 => ?_)
              refine t_nv (t_runV (As := [.int (iI z129)]) (rest := []) (n := 1) X Y S k0 hml hl.1 (c_By_putDigits l D E T κ L f126 H.size h n0 k0 (by omega) z129 (by omega) (by omega) S.1) (ok_k X Y hA KS KR) rfl kl_By_By_putDigits ks_By_putDigits kx_By_putDigits ki_By_putDigits ini_By ⟨rfl, rfl⟩ hd_By_putDigits ⟨Nat.le_of_ble_eq_true rfl, Nat.le_of_ble_eq_true rfl⟩ rfl (Nat.le_of_ble_eq_true rfl) d_By_putTime_129 ⟨Nat.le_of_ble_eq_true rfl, Nat.le_of_ble_eq_true rfl⟩) X Y hA S (by decide) (fun f130 H locs Y S s130 p130 => ?_)
              refine lv_aload_n X.1 X.2.1 d_By_putTime_132 rfl (lv_at hl 0 rfl) ?_
              refine lv_iload X.1 X.2.1 d_By_putTime_133 (lv_at hl 3 rfl) ?_
              refine lv_sipush (v := iI 3600) X.1 X.2.1 d_By_putTime_135 (by decide) ?_
              refine z_idivg X.1 X.2.1 ⟨by omega, by omega⟩ ⟨by decide, by decide⟩ d_By_putTime_138 (fun z131 l131 u131 x131 y131 => ?_)
              refine t_nv (t_runV (As := [.int (iI z131)]) (rest := []) (n := 1) X Y S k0 hml hl.1 (c_By_putDigits l D E T κ L f130 H.size h n0 k0 (by omega) z131 (by omega) (by omega) S.1) (ok_k X Y hA KS KR) rfl kl_By_By_putDigits ks_By_putDigits kx_By_putDigits ki_By_putDigits ini_By ⟨rfl, rfl⟩ hd_By_putDigits ⟨Nat.le_of_ble_eq_true rfl, Nat.le_of_ble_eq_true rfl⟩ rfl (Nat.le_of_ble_eq_true rfl) d_By_putTime_139 ⟨Nat.le_of_ble_eq_true rfl, Nat.le_of_ble_eq_true rfl⟩) X Y hA S (by decide) (fun f132 H locs Y S s132 p132 => ?_)
              refine lv_aload_n X.1 X.2.1 d_By_putTime_142 rfl (lv_at hl 0 rfl) ?_
              refine lv_iload X.1 X.2.1 d_By_putTime_143 (lv_at hl 3 rfl) ?_
              refine lv_bipush (v := iI 60) X.1 X.2.1 d_By_putTime_145 (by decide) ?_
              refine z_idivg X.1 X.2.1 ⟨by omega, by omega⟩ ⟨by decide, by decide⟩ d_By_putTime_147 (fun z133 l133 u133 x133 y133 => ?_)
              refine lv_bipush (v := iI 60) X.1 X.2.1 d_By_putTime_148 (by decide) ?_
              refine z_iremg X.1 X.2.1 ⟨by omega, by omega⟩ ⟨by decide, by decide⟩ d_By_putTime_150 (fun z134 l134 u134 x134 => ?_)
              refine t_nv (t_runV (As := [.int (iI z134)]) (rest := []) (n := 1) X Y S k0 hml hl.1 (c_By_putDigits l D E T κ L f132 H.size h n0 k0 (by omega) z134 (by omega) (by omega) S.1) (ok_k X Y hA KS KR) rfl kl_By_By_putDigits ks_By_putDigits kx_By_putDigits ki_By_putDigits ini_By ⟨rfl, rfl⟩ hd_By_putDigits ⟨Nat.le_of_ble_eq_true rfl, Nat.le_of_ble_eq_true rfl⟩ rfl (Nat.le_of_ble_eq_true rfl) d_By_putTime_151 ⟨Nat.le_of_ble_eq_true rfl, Nat.le_of_ble_eq_true rfl⟩) X Y hA S (by decide) (fun f135 H locs Y S s135 p135 => ?_)
              refine lv_aload_n X.1 X.2.1 d_By_putTime_154 rfl (lv_at hl 0 rfl) ?_
              refine lv_iload X.1 X.2.1 d_By_putTime_155 (lv_at hl 3 rfl) ?_
              refine lv_bipush (v := iI 60) X.1 X.2.1 d_By_putTime_157 (by decide) ?_
              refine z_iremg X.1 X.2.1 ⟨by omega, by omega⟩ ⟨by decide, by decide⟩ d_By_putTime_159 (fun z136 l136 u136 x136 => ?_)
              refine t_nv (t_runV (As := [.int (iI z136)]) (rest := []) (n := 1) X Y S k0 hml hl.1 (c_By_putDigits l D E T κ L f135 H.size h n0 k0 (by omega) z136 (by omega) (by omega) S.1) (ok_k X Y hA KS KR) rfl kl_By_By_putDigits ks_By_putDigits kx_By_putDigits ki_By_putDigits ini_By ⟨rfl, rfl⟩ hd_By_putDigits ⟨Nat.le_of_ble_eq_true rfl, Nat.le_of_ble_eq_true rfl⟩ rfl (Nat.le_of_ble_eq_true rfl) d_By_putTime_160 ⟨Nat.le_of_ble_eq_true rfl, Nat.le_of_ble_eq_true rfl⟩) X Y hA S (by decide) (fun f137 H locs Y S s137 p137 => ?_)
              refine lv_aload_n X.1 X.2.1 d_By_putTime_163 rfl (lv_at hl 0 rfl) ?_
              refine lv_bipush (v := iI 90) X.1 X.2.1 d_By_putTime_164 (by decide) ?_
              refine t_nv (t_runV (As := [.int (iI 90)]) (rest := []) (n := 1) X Y S k0 hml hl.1 (c_By_put l D E T κ L f137 H.size h n0 k0 (by omega) 90 (by omega) (by omega) S.1) (ok_k X Y hA KS KR) rfl kl_By_By_put ks_By_put kx_By_put ki_By_put ini_By ⟨rfl, rfl⟩ hd_By_put ⟨Nat.le_of_ble_eq_true rfl, Nat.le_of_ble_eq_true rfl⟩ rfl (Nat.le_of_ble_eq_true rfl) d_By_putTime_166 ⟨Nat.le_of_ble_eq_true rfl, Nat.le_of_ble_eq_true rfl⟩) X Y hA S (by decide) (fun f138 H locs Y S s138 p138 => ?_)
              refine lv_aload_n X.1 X.2.1 d_By_putTime_169 rfl (lv_at hl 0 rfl) ?_
              refine lv_iload_n X.1 X.2.1 d_By_putTime_170 rfl (lv_at hl 1 rfl) ?_
              refine t_nv (t_runV (As := [.int (iI z101)]) (rest := []) (n := 1) X Y S k0 hml hl.1 (c_By_close l D E T κ L f138 H.size h n0 k0 (by omega) z101 (by omega) (by omega) S.1) (ok_k X Y hA KS KR) rfl kl_By_By_close ks_By_close kx_By_close ki_By_close ini_By ⟨rfl, rfl⟩ hd_By_close ⟨Nat.le_of_ble_eq_true rfl, Nat.le_of_ble_eq_true rfl⟩ rfl (Nat.le_of_ble_eq_true rfl) d_By_putTime_171 ⟨Nat.le_of_ble_eq_true rfl, Nat.le_of_ble_eq_true rfl⟩) X Y hA S (by decide) (fun f139 H locs Y S s139 p139 => ?_)
              exact c_retv hQQ X Y hr hlk ⟨rfl, S, trivial⟩ d_By_putTime_174
            refine z_icmp_ge (tgt := 92) X.1 X.2.1 d_By_putTime_69 (by decide) ⟨by omega, by omega⟩ ⟨by omega, by omega⟩ (fun h140 => ?_) (fun h140 => ?_)
            · exact J120  _ _ _  Y S (lv_sub hl [0, 1, 2, 3, 4, 5] rfl)
            · refine lv_iload X.1 X.2.1 d_By_putTime_72 (lv_at hl 4 rfl) ?_
              refine lv_iload X.1 X.2.1 d_By_putTime_74 (lv_at hl 5 rfl) ?_
              refine lv_iconst (v := iI 1) X.1 X.2.1 d_By_putTime_76 (by decide) ?_
              refine z_iadd X.1 X.2.1 d_By_putTime_77 ?_
              refine t_ui (x_runS (As := [.int (iI z106), .int (iI (z115 + 1))]) (rest := []) (n := 2) X hml hl.1 (c_By_daysBefore l D E T κ L f103 H.size z106 (by omega) (by omega) (z115 + 1) (by omega) (by omega) S.1) (ok_k X Y hA KS KR) kl_By_By_daysBefore ks_By_daysBefore ki_By_daysBefore ini_By ⟨rfl, rfl⟩ hd_By_daysBefore.2 ⟨Nat.le_of_ble_eq_true rfl, Nat.le_of_ble_eq_true rfl⟩ rfl (Nat.le_of_ble_eq_true rfl) d_By_putTime_78 ⟨Nat.le_of_ble_eq_true rfl, Nat.le_of_ble_eq_true rfl⟩) X Y hA (fun z141 H locs Y p141 => ?_)
              obtain ⟨l141, u141⟩ := p141
              refine lv_iload X.1 X.2.1 d_By_putTime_81 (lv_at hl 2 rfl) ?_
              refine z_icmp_gt (tgt := 92) X.1 X.2.1 d_By_putTime_83 (by decide) ⟨by omega, by omega⟩ ⟨by omega, by omega⟩ (fun h142 => ?_) (fun h142 => ?_)
              · exact J120  _ _ _  Y S (lv_sub hl [0, 1, 2, 3, 4, 5] rfl)
              · refine lv_iinc (v := iI (z115 + 1)) (lv' := [(7, .int (iI (z115 + 1))), (0, .ref h), (3, .int (iI z101)), (4, .int (iI z104)), (5, .int (iI z105)), (6, .int (iI z106))]) X.1 X.2.1 d_By_putTime_86 hl (k := 5) rfl ((iI_add _ _).trans (congrArg iI (by omega))) (by decide) rfl (fun ls hl => ?_)
                refine lv_goto (tgt := 65) X.1 X.2.1 d_By_putTime_89 (by decide) ?_
                exact ih117 ((12 - (z115 + 1)).toNat) (by omega) (z115 + 1) _ _ _ rfl (by omega) (by omega) Y S (lv_sub hl [1, 2, 3, 4, 5, 0] rfl)
        refine lv_istore (lv' := [(7, .int (iI 1)), (0, .ref h), (3, .int (iI z101)), (4, .int (iI z104)), (5, .int (iI z105)), (6, .int (iI z106))]) X.1 X.2.1 d_By_putTime_63 hl (by decide) rfl (fun ls hl => ?_)
        exact J116 _ 1 _ _ _ rfl (by omega) (by omega) Y S (lv_sub hl [1, 2, 3, 4, 5, 0] rfl)
      refine z_icmp_ge (tgt := 62) X.1 X.2.1 d_By_putTime_40 (by decide) ⟨by omega, by omega⟩ ⟨by omega, by omega⟩ (fun h143 => ?_) (fun h143 => ?_)
      · exact J111  _ _ _  Y S (lv_sub hl [0, 1, 2, 3, 4] rfl)
      · refine lv_iload X.1 X.2.1 d_By_putTime_43 (lv_at hl 4 rfl) ?_
        refine lv_iconst (v := iI 1) X.1 X.2.1 d_By_putTime_45 (by decide) ?_
        refine z_iadd X.1 X.2.1 d_By_putTime_46 ?_
        refine lv_iconst (v := iI 1) X.1 X.2.1 d_By_putTime_47 (by decide) ?_
        refine t_ui (x_runS (As := [.int (iI (z106 + 1)), .int (iI 1)]) (rest := []) (n := 2) X hml hl.1 (c_By_daysBefore l D E T κ L f103 H.size (z106 + 1) (by omega) (by omega) 1 (by omega) (by omega) S.1) (ok_k X Y hA KS KR) kl_By_By_daysBefore ks_By_daysBefore ki_By_daysBefore ini_By ⟨rfl, rfl⟩ hd_By_daysBefore.2 ⟨Nat.le_of_ble_eq_true rfl, Nat.le_of_ble_eq_true rfl⟩ rfl (Nat.le_of_ble_eq_true rfl) d_By_putTime_48 ⟨Nat.le_of_ble_eq_true rfl, Nat.le_of_ble_eq_true rfl⟩) X Y hA (fun z144 H locs Y p144 => ?_)
        obtain ⟨l144, u144⟩ := p144
        refine lv_iload X.1 X.2.1 d_By_putTime_51 (lv_at hl 2 rfl) ?_
        refine z_icmp_gt (tgt := 62) X.1 X.2.1 d_By_putTime_53 (by decide) ⟨by omega, by omega⟩ ⟨by omega, by omega⟩ (fun h145 => ?_) (fun h145 => ?_)
        · exact J111  _ _ _  Y S (lv_sub hl [0, 1, 2, 3, 4] rfl)
        · refine lv_iinc (v := iI (z106 + 1)) (lv' := [(6, .int (iI (z106 + 1))), (0, .ref h), (3, .int (iI z101)), (4, .int (iI z104)), (5, .int (iI z105))]) X.1 X.2.1 d_By_putTime_56 hl (k := 4) rfl ((iI_add _ _).trans (congrArg iI (by omega))) (by decide) rfl (fun ls hl => ?_)
          refine lv_goto (tgt := 35) X.1 X.2.1 d_By_putTime_59 (by decide) ?_
          exact ih108 ((2037 - (z106 + 1)).toNat) (by omega) (z106 + 1) _ _ _ rfl (by omega) (by omega) Y S (lv_sub hl [1, 2, 3, 4, 0] rfl)
  refine lv_istore (lv' := [(6, .int (iI 1970)), (5, .int (iI z105)), (4, .int (iI z104)), (3, .int (iI z101)), (0, .ref h), (1, .int (iI a1)), (2, .int (iI a2))]) X.1 X.2.1 d_By_putTime_33 hl (by decide) rfl (fun ls hl => ?_)
  exact J107 _ 1970 _ _ _ rfl (by omega) (by omega) Y S (lv_sub hl [4, 3, 2, 1, 0] rfl)
set_option maxHeartbeats 4000000 in
set_option maxRecDepth 100000 in
theorem c_By_putErrorHead (l : Launch) (D : va_G) (E : cE) (T : cT) (κ : tK) (L : List Nat) (f : pF) (sz : Nat) (h n0 : Nat) (k0 : κ h = (13, n0)) (x0 : n0 ≤ 12288) (a1 : Int) (l_a1 : (-2147483648) ≤ a1) (u_a1 : a1 ≤ 2147483647) (a2 : Int) (l_a2 : (-2147483648) ≤ a2) (u_a2 : a2 ≤ 2147483647) (hw : tW E T κ L f) : Met l y_By_putErrorHead (k_By_putErrorHead :: lw_tg) (kRm 4 129 0 0) (va_Pc [.ref h, .int (iI a1), .int (iI a2)] (kPre D E T L f sz)) (va_Qv (nPv E T [1, 13] κ L f (fun (g : pF) => True)) (cPost D E (pA L sz)) (pA L sz)) 0 0 (pA L sz) := by
  refine k_enter (own := R_By) (by decide) rfl (Nat.le_of_ble_eq_true rfl) (fun p e s m below meth c ls AV QQ H locs hQQ X Y hA hin hr hlk hml hl KS KR => ?_)
  have hl : lv_has ls 3 [(0, .ref h), (1, .int (iI a1)), (2, .int (iI a2))] := hl
  have S : tS E T (tFr κ L [1, 13] []) κ L f κ L f := tS_rf hw
  refine lv_aload_n X.1 X.2.1 d_By_putErrorHead_0 rfl (lv_at hl 0 rfl) ?_
  refine lv_iconst (v := iI 0) X.1 X.2.1 d_By_putErrorHead_1 (by decide) ?_
  refine lv_ldc2 (v := (5)) X.1 X.2.1 X.2.2.2.1 (X.2.2.1 _ cl_By_108) d_By_putErrorHead_2 ?_
  refine t_nv (t_runV (As := [.int (iI 0), .long ((5))]) (rest := []) (n := 2) X Y S k0 hml hl.1 (c_By_putNumber l D E T κ L f H.size h n0 k0 (by omega) 0 (by omega) (by omega) ((5)) S.1) (ok_k X Y hA KS KR) rfl kl_By_By_putNumber ks_By_putNumber kx_By_putNumber ki_By_putNumber ini_By ⟨rfl, rfl⟩ hd_By_putNumber ⟨Nat.le_of_ble_eq_true rfl, Nat.le_of_ble_eq_true rfl⟩ rfl (Nat.le_of_ble_eq_true rfl) d_By_putErrorHead_5 ⟨Nat.le_of_ble_eq_true rfl, Nat.le_of_ble_eq_true rfl⟩) X Y hA S (by decide) (fun f101 H locs Y S s101 p101 => ?_)
  refine lv_aload_n X.1 X.2.1 d_By_putErrorHead_8 rfl (lv_at hl 0 rfl) ?_
  refine lv_iconst (v := iI 1) X.1 X.2.1 d_By_putErrorHead_9 (by decide) ?_
  refine lv_ldc2 (v := (30)) X.1 X.2.1 X.2.2.2.1 (X.2.2.1 _ cl_By_110) d_By_putErrorHead_10 ?_
  refine t_nv (t_runV (As := [.int (iI 1), .long ((30))]) (rest := []) (n := 2) X Y S k0 hml hl.1 (c_By_putNumber l D E T κ L f101 H.size h n0 k0 (by omega) 1 (by omega) (by omega) ((30)) S.1) (ok_k X Y hA KS KR) rfl kl_By_By_putNumber ks_By_putNumber kx_By_putNumber ki_By_putNumber ini_By ⟨rfl, rfl⟩ hd_By_putNumber ⟨Nat.le_of_ble_eq_true rfl, Nat.le_of_ble_eq_true rfl⟩ rfl (Nat.le_of_ble_eq_true rfl) d_By_putErrorHead_13 ⟨Nat.le_of_ble_eq_true rfl, Nat.le_of_ble_eq_true rfl⟩) X Y hA S (by decide) (fun f102 H locs Y S s102 p102 => ?_)
  refine lv_aload_n X.1 X.2.1 d_By_putErrorHead_16 rfl (lv_at hl 0 rfl) ?_
  refine lv_iconst (v := iI 4) X.1 X.2.1 d_By_putErrorHead_17 (by decide) ?_
  refine lv_iload_n X.1 X.2.1 d_By_putErrorHead_18 rfl (lv_at hl 1 rfl) ?_
  refine t_nv (t_runV (As := [.int (iI 4), .int (iI a1)]) (rest := []) (n := 2) X Y S k0 hml hl.1 (c_By_putTime l D E T κ L f102 H.size h n0 k0 (by omega) 4 (by omega) (by omega) a1 (by omega) (by omega) S.1) (ok_k X Y hA KS KR) rfl kl_By_By_putTime ks_By_putTime kx_By_putTime ki_By_putTime ini_By ⟨rfl, rfl⟩ hd_By_putTime ⟨Nat.le_of_ble_eq_true rfl, Nat.le_of_ble_eq_true rfl⟩ rfl (Nat.le_of_ble_eq_true rfl) d_By_putErrorHead_19 ⟨Nat.le_of_ble_eq_true rfl, Nat.le_of_ble_eq_true rfl⟩) X Y hA S (by decide) (fun f103 H locs Y S s103 p103 => ?_)
  refine lv_aload_n X.1 X.2.1 d_By_putErrorHead_22 rfl (lv_at hl 0 rfl) ?_
  refine lv_iconst (v := iI 5) X.1 X.2.1 d_By_putErrorHead_23 (by decide) ?_
  refine lv_lconst (v := 0) X.1 X.2.1 d_By_putErrorHead_24 rfl ?_
  refine t_nv (t_runV (As := [.int (iI 5), .long 0]) (rest := []) (n := 2) X Y S k0 hml hl.1 (c_By_putNumber l D E T κ L f103 H.size h n0 k0 (by omega) 5 (by omega) (by omega) 0 S.1) (ok_k X Y hA KS KR) rfl kl_By_By_putNumber ks_By_putNumber kx_By_putNumber ki_By_putNumber ini_By ⟨rfl, rfl⟩ hd_By_putNumber ⟨Nat.le_of_ble_eq_true rfl, Nat.le_of_ble_eq_true rfl⟩ rfl (Nat.le_of_ble_eq_true rfl) d_By_putErrorHead_25 ⟨Nat.le_of_ble_eq_true rfl, Nat.le_of_ble_eq_true rfl⟩) X Y hA S (by decide) (fun f104 H locs Y S s104 p104 => ?_)
  refine lv_aload_n X.1 X.2.1 d_By_putErrorHead_28 rfl (lv_at hl 0 rfl) ?_
  refine lv_bipush (v := iI 6) X.1 X.2.1 d_By_putErrorHead_29 (by decide) ?_
  refine lv_iload_n X.1 X.2.1 d_By_putErrorHead_31 rfl (lv_at hl 2 rfl) ?_
  refine lv_i2l X.1 X.2.1 d_By_putErrorHead_32 rfl ?_
  refine t_anyl (fun v105 => ?_)
  refine t_nv (t_runV (As := [.int (iI 6), .long v105]) (rest := []) (n := 2) X Y S k0 hml hl.1 (c_By_putNumber l D E T κ L f104 H.size h n0 k0 (by omega) 6 (by omega) (by omega) v105 S.1) (ok_k X Y hA KS KR) rfl kl_By_By_putNumber ks_By_putNumber kx_By_putNumber ki_By_putNumber ini_By ⟨rfl, rfl⟩ hd_By_putNumber ⟨Nat.le_of_ble_eq_true rfl, Nat.le_of_ble_eq_true rfl⟩ rfl (Nat.le_of_ble_eq_true rfl) d_By_putErrorHead_33 ⟨Nat.le_of_ble_eq_true rfl, Nat.le_of_ble_eq_true rfl⟩) X Y hA S (by decide) (fun f106 H locs Y S s106 p106 => ?_)
  exact c_retv hQQ X Y hr hlk ⟨rfl, S, trivial⟩ d_By_putErrorHead_36
set_option maxHeartbeats 4000000 in
set_option maxRecDepth 100000 in
theorem c_By_putName (l : Launch) (D : va_G) (E : cE) (T : cT) (κ : tK) (L : List Nat) (f : pF) (sz : Nat) (h n0 : Nat) (k0 : κ h = (13, n0)) (x0 : n0 ≤ 12288) (a1 : Int) (l_a1 : 0 ≤ a1) (u_a1 : a1 ≤ 64) (a2 : Int) (l_a2 : (-2147483648) ≤ a2) (u_a2 : a2 ≤ 2147483647) (a3 n3 : Nat) (k3 : κ a3 = (13, n3)) (x3 : n3 ≤ 12288) (hw : tW E T κ L f) : Met l y_By_putName (k_By_putName :: lw_tg) (kRm 4 129 0 0) (va_Pc [.ref h, .int (iI a1), .int (iI a2), .ref a3] (kPre D E T L f sz)) (va_Qv (nPv E T [1, 13] κ L f (fun (g : pF) => True)) (cPost D E (pA L sz)) (pA L sz)) 0 0 (pA L sz) := by
  refine k_enter (own := R_By) (by decide) rfl (Nat.le_of_ble_eq_true rfl) (fun p e s m below meth c ls AV QQ H locs hQQ X Y hA hin hr hlk hml hl KS KR => ?_)
  have hl : lv_has ls 7 [(0, .ref h), (1, .int (iI a1)), (2, .int (iI a2)), (3, .ref a3)] := hl
  have S : tS E T (tFr κ L [1, 13] []) κ L f κ L f := tS_rf hw
  refine lv_aload_n X.1 X.2.1 d_By_putName_0 rfl (lv_at hl 0 rfl) ?_
  refine lv_iload_n X.1 X.2.1 d_By_putName_1 rfl (lv_at hl 1 rfl) ?_
  refine t_ni (t_runV (As := [.int (iI a1)]) (rest := []) (n := 1) X Y S k0 hml hl.1 (c_By_openField l D E T κ L f H.size h n0 k0 (by omega) a1 (by omega) (by omega) S.1) (ok_k X Y hA KS KR) rfl kl_By_By_openField ks_By_openField kx_By_openField ki_By_openField ini_By ⟨rfl, rfl⟩ hd_By_openField ⟨Nat.le_of_ble_eq_true rfl, Nat.le_of_ble_eq_true rfl⟩ rfl (Nat.le_of_ble_eq_true rfl) d_By_putName_2 ⟨Nat.le_of_ble_eq_true rfl, Nat.le_of_ble_eq_true rfl⟩) X Y hA S (by decide) (fun z101 f101 H locs Y S s101 p101 => ?_)
  obtain ⟨l101, u101⟩ := p101
  refine lv_istore (lv' := [(4, .int (iI z101)), (0, .ref h), (1, .int (iI a1)), (2, .int (iI a2)), (3, .ref a3)]) X.1 X.2.1 d_By_putName_5 hl (by decide) rfl (fun ls hl => ?_)
  refine lv_aload_n X.1 X.2.1 d_By_putName_7 rfl (lv_at hl 1 rfl) ?_
  refine lv_bipush (v := iI 48) X.1 X.2.1 d_By_putName_8 (by decide) ?_
  refine t_ni (t_runV (As := [.int (iI 48)]) (rest := []) (n := 1) X Y S k0 hml hl.1 (c_By_open l D E T κ L f101 H.size h n0 k0 (by omega) 48 (by omega) (by omega) S.1) (ok_k X Y hA KS KR) rfl kl_By_By_open ks_By_open kx_By_open ki_By_open ini_By ⟨rfl, rfl⟩ hd_By_open ⟨Nat.le_of_ble_eq_true rfl, Nat.le_of_ble_eq_true rfl⟩ rfl (Nat.le_of_ble_eq_true rfl) d_By_putName_10 ⟨Nat.le_of_ble_eq_true rfl, Nat.le_of_ble_eq_true rfl⟩) X Y hA S (by decide) (fun z102 f102 H locs Y S s102 p102 => ?_)
  obtain ⟨l102, u102⟩ := p102
  refine lv_istore (lv' := [(5, .int (iI z102)), (4, .int (iI z101)), (0, .ref h), (1, .int (iI a1)), (2, .int (iI a2)), (3, .ref a3)]) X.1 X.2.1 d_By_putName_13 hl (by decide) rfl (fun ls hl => ?_)
  refine lv_aload_n X.1 X.2.1 d_By_putName_15 rfl (lv_at hl 2 rfl) ?_
  refine lv_iconst (v := iI 0) X.1 X.2.1 d_By_putName_16 (by decide) ?_
  refine lv_iload_n X.1 X.2.1 d_By_putName_17 rfl (lv_at hl 4 rfl) ?_
  refine lv_i2l X.1 X.2.1 d_By_putName_18 rfl ?_
  refine t_anyl (fun v103 => ?_)
  refine t_nv (t_runV (As := [.int (iI 0), .long v103]) (rest := []) (n := 2) X Y S k0 hml hl.1 (c_By_putNumber l D E T κ L f102 H.size h n0 k0 (by omega) 0 (by omega) (by omega) v103 S.1) (ok_k X Y hA KS KR) rfl kl_By_By_putNumber ks_By_putNumber kx_By_putNumber ki_By_putNumber ini_By ⟨rfl, rfl⟩ hd_By_putNumber ⟨Nat.le_of_ble_eq_true rfl, Nat.le_of_ble_eq_true rfl⟩ rfl (Nat.le_of_ble_eq_true rfl) d_By_putName_19 ⟨Nat.le_of_ble_eq_true rfl, Nat.le_of_ble_eq_true rfl⟩) X Y hA S (by decide) (fun f104 H locs Y S s104 p104 => ?_)
  refine lv_aload_n X.1 X.2.1 d_By_putName_22 rfl (lv_at hl 2 rfl) ?_
  refine lv_iconst (v := iI 1) X.1 X.2.1 d_By_putName_23 (by decide) ?_
  refine t_ni (t_runV (As := [.int (iI 1)]) (rest := []) (n := 1) X Y S k0 hml hl.1 (c_By_openField l D E T κ L f104 H.size h n0 k0 (by omega) 1 (by omega) (by omega) S.1) (ok_k X Y hA KS KR) rfl kl_By_By_openField ks_By_openField kx_By_openField ki_By_openField ini_By ⟨rfl, rfl⟩ hd_By_openField ⟨Nat.le_of_ble_eq_true rfl, Nat.le_of_ble_eq_true rfl⟩ rfl (Nat.le_of_ble_eq_true rfl) d_By_putName_24 ⟨Nat.le_of_ble_eq_true rfl, Nat.le_of_ble_eq_true rfl⟩) X Y hA S (by decide) (fun z105 f105 H locs Y S s105 p105 => ?_)
  obtain ⟨l105, u105⟩ := p105
  refine lv_istore (lv' := [(6, .int (iI z105)), (5, .int (iI z102)), (4, .int (iI z101)), (0, .ref h), (1, .int (iI a1)), (2, .int (iI a2)), (3, .ref a3)]) X.1 X.2.1 d_By_putName_27 hl (by decide) rfl (fun ls hl => ?_)
  refine lv_aload_n X.1 X.2.1 d_By_putName_29 rfl (lv_at hl 3 rfl) ?_
  refine lv_bipush (v := iI 48) X.1 X.2.1 d_By_putName_30 (by decide) ?_
  refine lv_aload_n X.1 X.2.1 d_By_putName_32 rfl (lv_at hl 6 rfl) ?_
  refine t_getrow (ci := 3) X Y S k3 rfl i_By 0 (by decide) rfl lk_By_15 (fun _ h9 => h9) d_By_putName_33 (fun b106 e106 k106 => ?_)
  refine lv_iconst (v := iI 0) X.1 X.2.1 d_By_putName_36 (by decide) ?_
  refine lv_aload_n X.1 X.2.1 d_By_putName_37 rfl (lv_at hl 6 rfl) ?_
  refine t_gets (ci := 3) X Y S k3 rfl i_By 1 (by decide) rfl lk_By_21 (fun _ h9 => h9) d_By_putName_38 (fun z107 e107 l107 u107 => ?_)
  refine t_nv (t_runV (As := [.int (iI 48), .ref b106, .int (iI 0), .int (iI z107)]) (rest := []) (n := 4) X Y S k0 hml hl.1 (c_By_putValue l D E T κ L f105 H.size h n0 k0 (by omega) 48 (by omega) (by omega) b106 n3 (Or.inl k106) (by omega) 0 (by omega) (by omega) z107 (by omega) (by omega) S.1) (ok_k X Y hA KS KR) rfl kl_By_By_putValue ks_By_putValue kx_By_putValue ki_By_putValue ini_By ⟨rfl, rfl⟩ hd_By_putValue ⟨Nat.le_of_ble_eq_true rfl, Nat.le_of_ble_eq_true rfl⟩ rfl (Nat.le_of_ble_eq_true rfl) d_By_putName_41 ⟨Nat.le_of_ble_eq_true rfl, Nat.le_of_ble_eq_true rfl⟩) X Y hA S (by decide) (fun f108 H locs Y S s108 p108 => ?_)
  refine lv_aload_n X.1 X.2.1 d_By_putName_44 rfl (lv_at hl 3 rfl) ?_
  refine lv_iload X.1 X.2.1 d_By_putName_45 (lv_at hl 0 rfl) ?_
  refine t_nv (t_runV (As := [.int (iI z105)]) (rest := []) (n := 1) X Y S k0 hml hl.1 (c_By_close l D E T κ L f108 H.size h n0 k0 (by omega) z105 (by omega) (by omega) S.1) (ok_k X Y hA KS KR) rfl kl_By_By_close ks_By_close kx_By_close ki_By_close ini_By ⟨rfl, rfl⟩ hd_By_close ⟨Nat.le_of_ble_eq_true rfl, Nat.le_of_ble_eq_true rfl⟩ rfl (Nat.le_of_ble_eq_true rfl) d_By_putName_47 ⟨Nat.le_of_ble_eq_true rfl, Nat.le_of_ble_eq_true rfl⟩) X Y hA S (by decide) (fun f109 H locs Y S s109 p109 => ?_)
  refine lv_aload_n X.1 X.2.1 d_By_putName_50 rfl (lv_at hl 3 rfl) ?_
  refine lv_iload X.1 X.2.1 d_By_putName_51 (lv_at hl 1 rfl) ?_
  refine t_nv (t_runV (As := [.int (iI z102)]) (rest := []) (n := 1) X Y S k0 hml hl.1 (c_By_close l D E T κ L f109 H.size h n0 k0 (by omega) z102 (by omega) (by omega) S.1) (ok_k X Y hA KS KR) rfl kl_By_By_close ks_By_close kx_By_close ki_By_close ini_By ⟨rfl, rfl⟩ hd_By_close ⟨Nat.le_of_ble_eq_true rfl, Nat.le_of_ble_eq_true rfl⟩ rfl (Nat.le_of_ble_eq_true rfl) d_By_putName_53 ⟨Nat.le_of_ble_eq_true rfl, Nat.le_of_ble_eq_true rfl⟩) X Y hA S (by decide) (fun f110 H locs Y S s110 p110 => ?_)
  refine lv_aload_n X.1 X.2.1 d_By_putName_56 rfl (lv_at hl 3 rfl) ?_
  refine lv_iload X.1 X.2.1 d_By_putName_57 (lv_at hl 2 rfl) ?_
  refine t_nv (t_runV (As := [.int (iI z101)]) (rest := []) (n := 1) X Y S k0 hml hl.1 (c_By_close l D E T κ L f110 H.size h n0 k0 (by omega) z101 (by omega) (by omega) S.1) (ok_k X Y hA KS KR) rfl kl_By_By_close ks_By_close kx_By_close ki_By_close ini_By ⟨rfl, rfl⟩ hd_By_close ⟨Nat.le_of_ble_eq_true rfl, Nat.le_of_ble_eq_true rfl⟩ rfl (Nat.le_of_ble_eq_true rfl) d_By_putName_59 ⟨Nat.le_of_ble_eq_true rfl, Nat.le_of_ble_eq_true rfl⟩) X Y hA S (by decide) (fun f111 H locs Y S s111 p111 => ?_)
  exact c_retv hQQ X Y hr hlk ⟨rfl, S, trivial⟩ d_By_putName_62
set_option maxHeartbeats 4000000 in
set_option maxRecDepth 100000 in
theorem c_By_isText (l : Launch) (D : va_G) (E : cE) (T : cT) (κ : tK) (L : List Nat) (f : pF) (sz : Nat) (h n0 : Nat) (k0 : κ h = (13, n0)) (x0 : n0 ≤ 12288) (a1 : Int) (l_a1 : (-1) ≤ a1) (u_a1 : a1 ≤ 20200) (a2 : Int) (l_a2 : (-1) ≤ a2) (u_a2 : a2 ≤ 20200) (a3 : Nat) (k3 : a3 < nY) (hw : tW E T κ L f) : Met l y_By_isText (k_By_isText :: lw_tg) (kRm 4 90 0 0) (va_Pc [.ref h, .int (iI a1), .int (iI a2), .ref (T.2.1 a3)] (kPre D E T L f sz)) (va_Qi (uPi L f (fun (z : Int) => 0 ≤ z ∧ z ≤ 1)) (cPost D E (pA L sz)) (pA L sz)) 0 0 (pA L sz) := by
  refine k_enter (own := R_By) (by decide) rfl (Nat.le_of_ble_eq_true rfl) (fun p e s m below meth c ls AV QQ H locs hQQ X Y hA hin hr hlk hml hl KS KR => ?_)
  have hl : lv_has ls 5 [(0, .ref h), (1, .int (iI a1)), (2, .int (iI a2)), (3, .ref ((T.2.1 a3)))] := hl
  have S : tS E T (tFr κ L [] []) κ L f κ L f := tS_rf hw
  refine lv_iload_n X.1 X.2.1 d_By_isText_0 rfl (lv_at hl 2 rfl) ?_
  refine lv_iload_n X.1 X.2.1 d_By_isText_1 rfl (lv_at hl 1 rfl) ?_
  refine z_isub X.1 X.2.1 d_By_isText_2 ?_
  refine lv_aload_n X.1 X.2.1 d_By_isText_3 rfl (lv_at hl 3 rfl) ?_
  refine t_length (i := a3) X Y KS k3 hml hl.1 kl_By_length ⟨Nat.le_of_ble_eq_true rfl, Nat.le_of_ble_eq_true rfl⟩ (Nat.le_of_ble_eq_true rfl) d_By_isText_4 ⟨Nat.le_of_ble_eq_true rfl, Nat.le_of_ble_eq_true rfl⟩ (fun H locs Y => ?_)
  have y101 := yn_40 a3 k3
  refine z_icmp_eq (tgt := 12) X.1 X.2.1 d_By_isText_7 (by decide) ⟨by omega, by omega⟩ ⟨by omega, by omega⟩ (fun h102 => ?_) (fun h102 => ?_)
  · refine lv_iconst (v := iI 0) X.1 X.2.1 d_By_isText_12 (by decide) ?_
    have J104 : ∀ (n106 : Nat) (z103 : Int) (H : Heap) (locs : List Loc) (ls : Array Slot), (64 - z103).toNat = n106 → (0 ≤ z103) → (z103 ≤ 64) → pH D cCl (pA L sz) s.heap L f H locs → tS E T (tFr κ L [] []) κ L f κ L f → lv_has ls 5 [(0, .ref h), (1, .int (iI a1)), (3, .ref ((T.2.1 a3))), (4, .int (iI z103))] → W p l e (kRm 4 90 0 0) s m AV below meth c H locs 0 0 QQ (F0 m 15 ls []) := by
      intro n106
      induction n106 using Nat.strongRecOn with
      | ind n106 ih105 =>
        intro z103 H locs ls hm107 l103 u103 Y S hl
        refine lv_iload X.1 X.2.1 d_By_isText_15 (lv_at hl 3 rfl) ?_
        refine lv_aload_n X.1 X.2.1 d_By_isText_17 rfl (lv_at hl 2 rfl) ?_
        refine t_length (i := a3) X Y KS k3 hml hl.1 kl_By_length ⟨Nat.le_of_ble_eq_true rfl, Nat.le_of_ble_eq_true rfl⟩ (Nat.le_of_ble_eq_true rfl) d_By_isText_18 ⟨Nat.le_of_ble_eq_true rfl, Nat.le_of_ble_eq_true rfl⟩ (fun H locs Y => ?_)
        have y108 := yn_40 a3 k3
        refine z_icmp_ge (tgt := 49) X.1 X.2.1 d_By_isText_21 (by decide) ⟨by omega, by omega⟩ ⟨by omega, by omega⟩ (fun h109 => ?_) (fun h109 => ?_)
        · refine lv_iconst (v := iI 1) X.1 X.2.1 d_By_isText_49 (by decide) ?_
          exact c_retz hQQ X Y hr hlk (iI_bool (by omega) (by omega)).1 ⟨rfl, rfl, 1, rfl, ⟨by omega, by omega⟩⟩ d_By_isText_50
        · refine lv_aload_n X.1 X.2.1 d_By_isText_24 rfl (lv_at hl 0 rfl) ?_
          refine lv_iload_n X.1 X.2.1 d_By_isText_25 rfl (lv_at hl 1 rfl) ?_
          refine lv_iload X.1 X.2.1 d_By_isText_26 (lv_at hl 3 rfl) ?_
          refine z_iadd X.1 X.2.1 d_By_isText_28 ?_
          refine t_ui (t_runV (As := [.int (iI (a1 + z103))]) (rest := []) (n := 1) X Y S k0 hml hl.1 (c_By_at l D E T κ L f H.size h n0 k0 (by omega) (a1 + z103) (by omega) (by omega) S.1) (ok_k X Y hA KS KR) rfl kl_By_By_at ks_By_at kx_By_at ki_By_at ini_By ⟨rfl, rfl⟩ hd_By_at ⟨Nat.le_of_ble_eq_true rfl, Nat.le_of_ble_eq_true rfl⟩ rfl (Nat.le_of_ble_eq_true rfl) d_By_isText_29 ⟨Nat.le_of_ble_eq_true rfl, Nat.le_of_ble_eq_true rfl⟩) X Y hA (fun z110 H locs Y p110 => ?_)
          obtain ⟨l110, u110⟩ := p110
          refine lv_aload_n X.1 X.2.1 d_By_isText_32 rfl (lv_at hl 2 rfl) ?_
          refine lv_iload X.1 X.2.1 d_By_isText_33 (lv_at hl 3 rfl) ?_
          refine t_charAt (i := a3) X Y KS k3 (by omega) (by omega) hml hl.1 kl_By_charAt ⟨Nat.le_of_ble_eq_true rfl, Nat.le_of_ble_eq_true rfl⟩ (Nat.le_of_ble_eq_true rfl) d_By_isText_35 ⟨Nat.le_of_ble_eq_true rfl, Nat.le_of_ble_eq_true rfl⟩ (fun H locs z111 Y e111 l111 u111 => ?_)
          refine z_icmp_eq (tgt := 43) X.1 X.2.1 d_By_isText_38 (by decide) ⟨by omega, by omega⟩ ⟨by omega, by omega⟩ (fun h112 => ?_) (fun h112 => ?_)
          · refine lv_iinc (v := iI (z103 + 1)) (lv' := [(4, .int (iI (z103 + 1))), (0, .ref h), (1, .int (iI a1)), (3, .ref ((T.2.1 a3)))]) X.1 X.2.1 d_By_isText_43 hl (k := 3) rfl ((iI_add _ _).trans (congrArg iI (by omega))) (by decide) rfl (fun ls hl => ?_)
            refine lv_goto (tgt := 15) X.1 X.2.1 d_By_isText_46 (by decide) ?_
            exact ih105 ((64 - (z103 + 1)).toNat) (by omega) (z103 + 1) _ _ _ rfl (by omega) (by omega) Y S (lv_sub hl [1, 2, 3, 0] rfl)
          · refine lv_iconst (v := iI 0) X.1 X.2.1 d_By_isText_41 (by decide) ?_
            exact c_retz hQQ X Y hr hlk (iI_bool (by omega) (by omega)).1 ⟨rfl, rfl, 0, rfl, ⟨by omega, by omega⟩⟩ d_By_isText_42
    refine lv_istore (lv' := [(4, .int (iI 0)), (0, .ref h), (1, .int (iI a1)), (2, .int (iI a2)), (3, .ref ((T.2.1 a3)))]) X.1 X.2.1 d_By_isText_13 hl (by decide) rfl (fun ls hl => ?_)
    exact J104 _ 0 _ _ _ rfl (by omega) (by omega) Y S (lv_sub hl [1, 2, 4, 0] rfl)
  · refine lv_iconst (v := iI 0) X.1 X.2.1 d_By_isText_10 (by decide) ?_
    exact c_retz hQQ X Y hr hlk (iI_bool (by omega) (by omega)).1 ⟨rfl, rfl, 0, rfl, ⟨by omega, by omega⟩⟩ d_By_isText_11
set_option maxHeartbeats 4000000 in
set_option maxRecDepth 100000 in
theorem c_By_isPrintable (l : Launch) (D : va_G) (E : cE) (T : cT) (κ : tK) (L : List Nat) (f : pF) (sz : Nat) (h n0 : Nat) (k0 : κ h = (13, n0)) (x0 : n0 ≤ 12288) (a1 : Int) (l_a1 : (-1) ≤ a1) (u_a1 : a1 ≤ 20200) (a2 : Int) (l_a2 : (-1) ≤ a2) (u_a2 : a2 ≤ 20200) (hw : tW E T κ L f) : Met l y_By_isPrintable (k_By_isPrintable :: lw_tg) (kRm 2 81 0 0) (va_Pc [.ref h, .int (iI a1), .int (iI a2)] (kPre D E T L f sz)) (va_Qi (uPi L f (fun (z : Int) => 0 ≤ z ∧ z ≤ 1)) (cPost D E (pA L sz)) (pA L sz)) 0 0 (pA L sz) := by
  refine k_enter (own := R_By) (by decide) rfl (Nat.le_of_ble_eq_true rfl) (fun p e s m below meth c ls AV QQ H locs hQQ X Y hA hin hr hlk hml hl KS KR => ?_)
  have hl : lv_has ls 5 [(0, .ref h), (1, .int (iI a1)), (2, .int (iI a2))] := hl
  have S : tS E T (tFr κ L [] []) κ L f κ L f := tS_rf hw
  refine lv_iload_n X.1 X.2.1 d_By_isPrintable_0 rfl (lv_at hl 1 rfl) ?_
  have J102 : ∀ (n104 : Nat) (z101 : Int) (H : Heap) (locs : List Loc) (ls : Array Slot), (20200 - z101).toNat = n104 → ((-1) ≤ z101) → (z101 ≤ 20200) → pH D cCl (pA L sz) s.heap L f H locs → tS E T (tFr κ L [] []) κ L f κ L f → lv_has ls 5 [(0, .ref h), (2, .int (iI a2)), (3, .int (iI z101))] → W p l e (kRm 2 81 0 0) s m AV below meth c H locs 0 0 QQ (F0 m 2 ls []) := by
    intro n104
    induction n104 using Nat.strongRecOn with
    | ind n104 ih103 =>
      intro z101 H locs ls hm105 l101 u101 Y S hl
      refine lv_iload_n X.1 X.2.1 d_By_isPrintable_2 rfl (lv_at hl 2 rfl) ?_
      refine lv_iload_n X.1 X.2.1 d_By_isPrintable_3 rfl (lv_at hl 1 rfl) ?_
      refine z_icmp_ge (tgt := 36) X.1 X.2.1 d_By_isPrintable_4 (by decide) ⟨by omega, by omega⟩ ⟨by omega, by omega⟩ (fun h106 => ?_) (fun h106 => ?_)
      · refine lv_iconst (v := iI 1) X.1 X.2.1 d_By_isPrintable_36 (by decide) ?_
        exact c_retz hQQ X Y hr hlk (iI_bool (by omega) (by omega)).1 ⟨rfl, rfl, 1, rfl, ⟨by omega, by omega⟩⟩ d_By_isPrintable_37
      · refine lv_aload_n X.1 X.2.1 d_By_isPrintable_7 rfl (lv_at hl 0 rfl) ?_
        refine lv_iload_n X.1 X.2.1 d_By_isPrintable_8 rfl (lv_at hl 2 rfl) ?_
        refine t_ui (t_runV (As := [.int (iI z101)]) (rest := []) (n := 1) X Y S k0 hml hl.1 (c_By_at l D E T κ L f H.size h n0 k0 (by omega) z101 (by omega) (by omega) S.1) (ok_k X Y hA KS KR) rfl kl_By_By_at ks_By_at kx_By_at ki_By_at ini_By ⟨rfl, rfl⟩ hd_By_at ⟨Nat.le_of_ble_eq_true rfl, Nat.le_of_ble_eq_true rfl⟩ rfl (Nat.le_of_ble_eq_true rfl) d_By_isPrintable_9 ⟨Nat.le_of_ble_eq_true rfl, Nat.le_of_ble_eq_true rfl⟩) X Y hA (fun z107 H locs Y p107 => ?_)
        obtain ⟨l107, u107⟩ := p107
        refine lv_istore (lv' := [(4, .int (iI z107)), (0, .ref h), (2, .int (iI a2)), (3, .int (iI z101))]) X.1 X.2.1 d_By_isPrintable_12 hl (by decide) rfl (fun ls hl => ?_)
        refine lv_iload X.1 X.2.1 d_By_isPrintable_14 (lv_at hl 0 rfl) ?_
        refine lv_bipush (v := iI 32) X.1 X.2.1 d_By_isPrintable_16 (by decide) ?_
        refine z_icmp_lt (tgt := 28) X.1 X.2.1 d_By_isPrintable_18 (by decide) ⟨by omega, by omega⟩ ⟨by omega, by omega⟩ (fun h108 => ?_) (fun h108 => ?_)
        · refine lv_iconst (v := iI 0) X.1 X.2.1 d_By_isPrintable_28 (by decide) ?_
          exact c_retz hQQ X Y hr hlk (iI_bool (by omega) (by omega)).1 ⟨rfl, rfl, 0, rfl, ⟨by omega, by omega⟩⟩ d_By_isPrintable_29
        · refine lv_iload X.1 X.2.1 d_By_isPrintable_21 (lv_at hl 0 rfl) ?_
          refine lv_bipush (v := iI 126) X.1 X.2.1 d_By_isPrintable_23 (by decide) ?_
          refine z_icmp_le (tgt := 30) X.1 X.2.1 d_By_isPrintable_25 (by decide) ⟨by omega, by omega⟩ ⟨by omega, by omega⟩ (fun h109 => ?_) (fun h109 => ?_)
          · refine lv_iinc (v := iI (z101 + 1)) (lv' := [(3, .int (iI (z101 + 1))), (4, .int (iI z107)), (0, .ref h), (2, .int (iI a2))]) X.1 X.2.1 d_By_isPrintable_30 hl (k := 3) rfl ((iI_add _ _).trans (congrArg iI (by omega))) (by decide) rfl (fun ls hl => ?_)
            refine lv_goto (tgt := 2) X.1 X.2.1 d_By_isPrintable_33 (by decide) ?_
            exact ih103 ((20200 - (z101 + 1)).toNat) (by omega) (z101 + 1) _ _ _ rfl (by omega) (by omega) Y S (lv_sub hl [2, 3, 0] rfl)
          · refine lv_iconst (v := iI 0) X.1 X.2.1 d_By_isPrintable_28 (by decide) ?_
            exact c_retz hQQ X Y hr hlk (iI_bool (by omega) (by omega)).1 ⟨rfl, rfl, 0, rfl, ⟨by omega, by omega⟩⟩ d_By_isPrintable_29
  refine lv_istore_n (lv' := [(3, .int (iI a1)), (0, .ref h), (1, .int (iI a1)), (2, .int (iI a2))]) X.1 X.2.1 d_By_isPrintable_1 rfl hl (by decide) rfl (fun ls hl => ?_)
  exact J102 _ a1 _ _ _ rfl (by omega) (by omega) Y S (lv_sub hl [1, 3, 0] rfl)
set_option maxHeartbeats 4000000 in
set_option maxRecDepth 100000 in
theorem c_By_sameAs (l : Launch) (D : va_G) (E : cE) (T : cT) (κ : tK) (L : List Nat) (f : pF) (sz : Nat) (h n0 : Nat) (k0 : κ h = (13, n0)) (x0 : n0 ≤ 12288) (a1 : Int) (l_a1 : (-1) ≤ a1) (u_a1 : a1 ≤ 20200) (a2 : Int) (l_a2 : (-1) ≤ a2) (u_a2 : a2 ≤ 20200) (a3 n3 : Nat) (k3 : κ a3 = (13, n3)) (x3 : n3 ≤ 12288) (a4 : Int) (l_a4 : (-1) ≤ a4) (u_a4 : a4 ≤ 20200) (a5 : Int) (l_a5 : (-1) ≤ a5) (u_a5 : a5 ≤ 20200) (hw : tW E T κ L f) : Met l y_By_sameAs (k_By_sameAs :: lw_tg) (kRm 1 60 0 0) (va_Pc [.ref h, .int (iI a1), .int (iI a2), .ref a3, .int (iI a4), .int (iI a5)] (kPre D E T L f sz)) (va_Qi (uPi L f (fun (z : Int) => 0 ≤ z ∧ z ≤ 1)) (cPost D E (pA L sz)) (pA L sz)) 0 0 (pA L sz) := by
  refine k_enter (own := R_By) (by decide) rfl (Nat.le_of_ble_eq_true rfl) (fun p e s m below meth c ls AV QQ H locs hQQ X Y hA hin hr hlk hml hl KS KR => ?_)
  have hl : lv_has ls 7 [(0, .ref h), (1, .int (iI a1)), (2, .int (iI a2)), (3, .ref a3), (4, .int (iI a4)), (5, .int (iI a5))] := hl
  have S : tS E T (tFr κ L [] []) κ L f κ L f := tS_rf hw
  refine lv_iload_n X.1 X.2.1 d_By_sameAs_0 rfl (lv_at hl 1 rfl) ?_
  refine z_if_lt (tgt := 37) X.1 X.2.1 d_By_sameAs_1 (by decide) ⟨by omega, by omega⟩ (fun h101 => ?_) (fun h101 => ?_)
  · refine lv_iconst (v := iI 0) X.1 X.2.1 d_By_sameAs_37 (by decide) ?_
    exact c_retz hQQ X Y hr hlk (iI_bool (by omega) (by omega)).1 ⟨rfl, rfl, 0, rfl, ⟨by omega, by omega⟩⟩ d_By_sameAs_38
  · refine lv_iload X.1 X.2.1 d_By_sameAs_4 (lv_at hl 4 rfl) ?_
    refine z_if_lt (tgt := 37) X.1 X.2.1 d_By_sameAs_6 (by decide) ⟨by omega, by omega⟩ (fun h102 => ?_) (fun h102 => ?_)
    · refine lv_iconst (v := iI 0) X.1 X.2.1 d_By_sameAs_37 (by decide) ?_
      exact c_retz hQQ X Y hr hlk (iI_bool (by omega) (by omega)).1 ⟨rfl, rfl, 0, rfl, ⟨by omega, by omega⟩⟩ d_By_sameAs_38
    · refine lv_iload_n X.1 X.2.1 d_By_sameAs_9 rfl (lv_at hl 2 rfl) ?_
      refine lv_aload_n X.1 X.2.1 d_By_sameAs_10 rfl (lv_at hl 0 rfl) ?_
      refine t_gets (ci := 3) X Y S k0 rfl i_By 1 (by decide) rfl lk_By_21 (fun _ h9 => h9) d_By_sameAs_11 (fun z103 e103 l103 u103 => ?_)
      refine z_icmp_gt (tgt := 37) X.1 X.2.1 d_By_sameAs_14 (by decide) ⟨by omega, by omega⟩ ⟨by omega, by omega⟩ (fun h104 => ?_) (fun h104 => ?_)
      · refine lv_iconst (v := iI 0) X.1 X.2.1 d_By_sameAs_37 (by decide) ?_
        exact c_retz hQQ X Y hr hlk (iI_bool (by omega) (by omega)).1 ⟨rfl, rfl, 0, rfl, ⟨by omega, by omega⟩⟩ d_By_sameAs_38
      · refine lv_iload X.1 X.2.1 d_By_sameAs_17 (lv_at hl 5 rfl) ?_
        refine lv_aload_n X.1 X.2.1 d_By_sameAs_19 rfl (lv_at hl 3 rfl) ?_
        refine t_gets (ci := 3) X Y S k3 rfl i_By 1 (by decide) rfl lk_By_21 (fun _ h9 => h9) d_By_sameAs_20 (fun z105 e105 l105 u105 => ?_)
        refine z_icmp_gt (tgt := 37) X.1 X.2.1 d_By_sameAs_23 (by decide) ⟨by omega, by omega⟩ ⟨by omega, by omega⟩ (fun h106 => ?_) (fun h106 => ?_)
        · refine lv_iconst (v := iI 0) X.1 X.2.1 d_By_sameAs_37 (by decide) ?_
          exact c_retz hQQ X Y hr hlk (iI_bool (by omega) (by omega)).1 ⟨rfl, rfl, 0, rfl, ⟨by omega, by omega⟩⟩ d_By_sameAs_38
        · refine lv_iload_n X.1 X.2.1 d_By_sameAs_26 rfl (lv_at hl 2 rfl) ?_
          refine lv_iload_n X.1 X.2.1 d_By_sameAs_27 rfl (lv_at hl 1 rfl) ?_
          refine z_isub X.1 X.2.1 d_By_sameAs_28 ?_
          refine lv_iload X.1 X.2.1 d_By_sameAs_29 (lv_at hl 5 rfl) ?_
          refine lv_iload X.1 X.2.1 d_By_sameAs_31 (lv_at hl 4 rfl) ?_
          refine z_isub X.1 X.2.1 d_By_sameAs_33 ?_
          refine z_icmp_eq (tgt := 39) X.1 X.2.1 d_By_sameAs_34 (by decide) ⟨by omega, by omega⟩ ⟨by omega, by omega⟩ (fun h107 => ?_) (fun h107 => ?_)
          · refine lv_iconst (v := iI 0) X.1 X.2.1 d_By_sameAs_39 (by decide) ?_
            have J109 : ∀ (n111 : Nat) (z108 : Int) (H : Heap) (locs : List Loc) (ls : Array Slot), (12288 - z108).toNat = n111 → (0 ≤ z108) → (z108 ≤ 12288) → pH D cCl (pA L sz) s.heap L f H locs → tS E T (tFr κ L [] []) κ L f κ L f → lv_has ls 7 [(0, .ref h), (1, .int (iI a1)), (2, .int (iI a2)), (3, .ref a3), (4, .int (iI a4)), (6, .int (iI z108))] → W p l e (kRm 1 60 0 0) s m AV below meth c H locs 0 0 QQ (F0 m 42 ls []) := by
              intro n111
              induction n111 using Nat.strongRecOn with
              | ind n111 ih110 =>
                intro z108 H locs ls hm112 l108 u108 Y S hl
                refine lv_iload X.1 X.2.1 d_By_sameAs_42 (lv_at hl 5 rfl) ?_
                refine lv_iload_n X.1 X.2.1 d_By_sameAs_44 rfl (lv_at hl 2 rfl) ?_
                refine lv_iload_n X.1 X.2.1 d_By_sameAs_45 rfl (lv_at hl 1 rfl) ?_
                refine z_isub X.1 X.2.1 d_By_sameAs_46 ?_
                refine z_icmp_ge (tgt := 80) X.1 X.2.1 d_By_sameAs_47 (by decide) ⟨by omega, by omega⟩ ⟨by omega, by omega⟩ (fun h113 => ?_) (fun h113 => ?_)
                · refine lv_iconst (v := iI 1) X.1 X.2.1 d_By_sameAs_80 (by decide) ?_
                  exact c_retz hQQ X Y hr hlk (iI_bool (by omega) (by omega)).1 ⟨rfl, rfl, 1, rfl, ⟨by omega, by omega⟩⟩ d_By_sameAs_81
                · refine lv_aload_n X.1 X.2.1 d_By_sameAs_50 rfl (lv_at hl 0 rfl) ?_
                  refine t_getrow (ci := 3) X Y S k0 rfl i_By 0 (by decide) rfl lk_By_15 (fun _ h9 => h9) d_By_sameAs_51 (fun b114 e114 k114 => ?_)
                  refine lv_iload_n X.1 X.2.1 d_By_sameAs_54 rfl (lv_at hl 1 rfl) ?_
                  refine lv_iload X.1 X.2.1 d_By_sameAs_55 (lv_at hl 5 rfl) ?_
                  refine z_iadd X.1 X.2.1 d_By_sameAs_57 ?_
                  refine t_bald X Y S (Or.inl k114) (by omega) (by omega) (by omega) d_By_sameAs_58 (fun z115 l115 u115 => ?_)
                  refine lv_aload_n X.1 X.2.1 d_By_sameAs_59 rfl (lv_at hl 3 rfl) ?_
                  refine t_getrow (ci := 3) X Y S k3 rfl i_By 0 (by decide) rfl lk_By_15 (fun _ h9 => h9) d_By_sameAs_60 (fun b116 e116 k116 => ?_)
                  refine lv_iload X.1 X.2.1 d_By_sameAs_63 (lv_at hl 4 rfl) ?_
                  refine lv_iload X.1 X.2.1 d_By_sameAs_65 (lv_at hl 5 rfl) ?_
                  refine z_iadd X.1 X.2.1 d_By_sameAs_67 ?_
                  refine t_bald X Y S (Or.inl k116) (by omega) (by omega) (by omega) d_By_sameAs_68 (fun z117 l117 u117 => ?_)
                  refine z_icmp_eq (tgt := 74) X.1 X.2.1 d_By_sameAs_69 (by decide) ⟨by omega, by omega⟩ ⟨by omega, by omega⟩ (fun h118 => ?_) (fun h118 => ?_)
                  · refine lv_iinc (v := iI (z108 + 1)) (lv' := [(6, .int (iI (z108 + 1))), (0, .ref h), (1, .int (iI a1)), (2, .int (iI a2)), (3, .ref a3), (4, .int (iI a4))]) X.1 X.2.1 d_By_sameAs_74 hl (k := 5) rfl ((iI_add _ _).trans (congrArg iI (by omega))) (by decide) rfl (fun ls hl => ?_)
                    refine lv_goto (tgt := 42) X.1 X.2.1 d_By_sameAs_77 (by decide) ?_
                    exact ih110 ((12288 - (z108 + 1)).toNat) (by omega) (z108 + 1) _ _ _ rfl (by omega) (by omega) Y S (lv_sub hl [1, 2, 3, 4, 5, 0] rfl)
                  · refine lv_iconst (v := iI 0) X.1 X.2.1 d_By_sameAs_72 (by decide) ?_
                    exact c_retz hQQ X Y hr hlk (iI_bool (by omega) (by omega)).1 ⟨rfl, rfl, 0, rfl, ⟨by omega, by omega⟩⟩ d_By_sameAs_73
            refine lv_istore (lv' := [(6, .int (iI 0)), (0, .ref h), (1, .int (iI a1)), (2, .int (iI a2)), (3, .ref a3), (4, .int (iI a4)), (5, .int (iI a5))]) X.1 X.2.1 d_By_sameAs_40 hl (by decide) rfl (fun ls hl => ?_)
            exact J109 _ 0 _ _ _ rfl (by omega) (by omega) Y S (lv_sub hl [1, 2, 3, 4, 5, 0] rfl)
          · refine lv_iconst (v := iI 0) X.1 X.2.1 d_By_sameAs_37 (by decide) ?_
            exact c_retz hQQ X Y hr hlk (iI_bool (by omega) (by omega)).1 ⟨rfl, rfl, 0, rfl, ⟨by omega, by omega⟩⟩ d_By_sameAs_38
set_option maxHeartbeats 4000000 in
set_option maxRecDepth 100000 in
theorem c_By_field (l : Launch) (D : va_G) (E : cE) (T : cT) (κ : tK) (L : List Nat) (f : pF) (sz : Nat) (h n0 : Nat) (k0 : κ h = (13, n0)) (x0 : n0 ≤ 12288) (a1 : Int) (l_a1 : (-1) ≤ a1) (u_a1 : a1 ≤ 20200) (a2 : Int) (l_a2 : 0 ≤ a2) (u_a2 : a2 ≤ 16) (hw : tW E T κ L f) : Met l y_By_field (k_By_field :: lw_tg) (kRm 2 85 0 0) (va_Pc [.ref h, .int (iI a1), .int (iI a2)] (kPre D E T L f sz)) (va_Qi (uPi L f (fun (z : Int) => (-1) ≤ z ∧ z ≤ 12420)) (cPost D E (pA L sz)) (pA L sz)) 0 0 (pA L sz) := by
  refine k_enter (own := R_By) (by decide) rfl (Nat.le_of_ble_eq_true rfl) (fun p e s m below meth c ls AV QQ H locs hQQ X Y hA hin hr hlk hml hl KS KR => ?_)
  have hl : lv_has ls 8 [(0, .ref h), (1, .int (iI a1)), (2, .int (iI a2))] := hl
  have S : tS E T (tFr κ L [] []) κ L f κ L f := tS_rf hw
  refine lv_iload_n X.1 X.2.1 d_By_field_0 rfl (lv_at hl 1 rfl) ?_
  have J102 : ∀ (z101 : Int) (H : Heap) (locs : List Loc) (ls : Array Slot), (0 ≤ z101) → (z101 ≤ 224) → pH D cCl (pA L sz) s.heap L f H locs → tS E T (tFr κ L [] []) κ L f κ L f → lv_has ls 8 [(0, .ref h), (1, .int (iI a1)), (2, .int (iI a2))] → W p l e (kRm 2 85 0 0) s m AV below meth c H locs 0 0 QQ (F0 m 26 ls [.int (iI z101)]) := by
    intro z101 H locs ls l101 u101 Y S hl
    refine lv_istore_n (lv' := [(3, .int (iI z101)), (0, .ref h), (1, .int (iI a1)), (2, .int (iI a2))]) X.1 X.2.1 d_By_field_26 rfl hl (by decide) rfl (fun ls hl => ?_)
    refine lv_iload_n X.1 X.2.1 d_By_field_27 rfl (lv_at hl 0 rfl) ?_
    refine lv_bipush (v := iI 96) X.1 X.2.1 d_By_field_28 (by decide) ?_
    have J107 : ∀ (z106 : Int) (H : Heap) (locs : List Loc) (ls : Array Slot), ((-1) ≤ z106) → (z106 ≤ 20200) → pH D cCl (pA L sz) s.heap L f H locs → tS E T (tFr κ L [] []) κ L f κ L f → lv_has ls 8 [(0, .ref h), (2, .int (iI a2))] → W p l e (kRm 2 85 0 0) s m AV below meth c H locs 0 0 QQ (F0 m 42 ls [.int (iI z106)]) := by
      intro z106 H locs ls l106 u106 Y S hl
      refine lv_istore (lv' := [(4, .int (iI z106)), (0, .ref h), (2, .int (iI a2))]) X.1 X.2.1 d_By_field_42 hl (by decide) rfl (fun ls hl => ?_)
      refine lv_aload_n X.1 X.2.1 d_By_field_44 rfl (lv_at hl 1 rfl) ?_
      refine lv_iload X.1 X.2.1 d_By_field_45 (lv_at hl 0 rfl) ?_
      refine lv_aload_n X.1 X.2.1 d_By_field_47 rfl (lv_at hl 1 rfl) ?_
      refine t_gets (ci := 3) X Y S k0 rfl i_By 1 (by decide) rfl lk_By_21 (fun _ h9 => h9) d_By_field_48 (fun z111 e111 l111 u111 => ?_)
      refine t_ui (t_runV (As := [.int (iI z106), .int (iI z111)]) (rest := []) (n := 2) X Y S k0 hml hl.1 (c_By_stop l D E T κ L f H.size h n0 k0 (by omega) z106 (by omega) (by omega) z111 (by omega) (by omega) S.1 z111 e111 (by omega) (by omega)) (ok_k X Y hA KS KR) rfl kl_By_By_stop ks_By_stop kx_By_stop ki_By_stop ini_By ⟨rfl, rfl⟩ hd_By_stop ⟨Nat.le_of_ble_eq_true rfl, Nat.le_of_ble_eq_true rfl⟩ rfl (Nat.le_of_ble_eq_true rfl) d_By_field_51 ⟨Nat.le_of_ble_eq_true rfl, Nat.le_of_ble_eq_true rfl⟩) X Y hA (fun z112 H locs Y p112 => ?_)
      obtain ⟨l112, u112, x112⟩ := p112
      refine lv_istore (lv' := [(5, .int (iI z112)), (4, .int (iI z106)), (0, .ref h), (2, .int (iI a2))]) X.1 X.2.1 d_By_field_54 hl (by decide) rfl (fun ls hl => ?_)
      refine lv_aload_n X.1 X.2.1 d_By_field_56 rfl (lv_at hl 2 rfl) ?_
      refine lv_iload X.1 X.2.1 d_By_field_57 (lv_at hl 1 rfl) ?_
      refine t_ui (t_runV (As := [.int (iI z106)]) (rest := []) (n := 1) X Y S k0 hml hl.1 (c_By_body l D E T κ L f H.size h n0 k0 (by omega) z106 (by omega) (by omega) S.1 z111 e111 (by omega) (by omega)) (ok_k X Y hA KS KR) rfl kl_By_By_body ks_By_body kx_By_body ki_By_body ini_By ⟨rfl, rfl⟩ hd_By_body ⟨Nat.le_of_ble_eq_true rfl, Nat.le_of_ble_eq_true rfl⟩ rfl (Nat.le_of_ble_eq_true rfl) d_By_field_59 ⟨Nat.le_of_ble_eq_true rfl, Nat.le_of_ble_eq_true rfl⟩) X Y hA (fun z113 H locs Y p113 => ?_)
      obtain ⟨l113, u113, x113⟩ := p113
      refine lv_istore (lv' := [(6, .int (iI z113)), (5, .int (iI z112)), (4, .int (iI z106)), (0, .ref h), (2, .int (iI a2))]) X.1 X.2.1 d_By_field_62 hl (by decide) rfl (fun ls hl => ?_)
      refine lv_iconst (v := iI 0) X.1 X.2.1 d_By_field_64 (by decide) ?_
      have J116 : ∀ (n118 : Nat) (z114 : Int) (z115 : Int) (H : Heap) (locs : List Loc) (ls : Array Slot), (13 - z115).toNat = n118 → ((-1) ≤ z114) → (z114 ≤ 12420) → (0 ≤ z115) → (z115 ≤ 13) → pH D cCl (pA L sz) s.heap L f H locs → tS E T (tFr κ L [] []) κ L f κ L f → lv_has ls 8 [(0, .ref h), (2, .int (iI a2)), (5, .int (iI z112)), (6, .int (iI z114)), (7, .int (iI z115))] → W p l e (kRm 2 85 0 0) s m AV below meth c H locs 0 0 QQ (F0 m 67 ls []) := by
        intro n118
        induction n118 using Nat.strongRecOn with
        | ind n118 ih117 =>
          intro z114 z115 H locs ls hm119 l114 u114 l115 u115 Y S hl
          refine lv_iload X.1 X.2.1 d_By_field_67 (lv_at hl 4 rfl) ?_
          refine lv_bipush (v := iI 13) X.1 X.2.1 d_By_field_69 (by decide) ?_
          refine z_icmp_ge (tgt := 128) X.1 X.2.1 d_By_field_71 (by decide) ⟨by omega, by omega⟩ ⟨by omega, by omega⟩ (fun h120 => ?_) (fun h120 => ?_)
          · refine lv_iconst (v := iI (-1)) X.1 X.2.1 d_By_field_128 (by decide) ?_
            exact c_reti hQQ X Y hr hlk ⟨rfl, rfl, (-1), rfl, ⟨by omega, by omega⟩⟩ d_By_field_129
          · refine lv_iload X.1 X.2.1 d_By_field_74 (lv_at hl 3 rfl) ?_
            refine z_if_lt (tgt := 128) X.1 X.2.1 d_By_field_76 (by decide) ⟨by omega, by omega⟩ (fun h121 => ?_) (fun h121 => ?_)
            · refine lv_iconst (v := iI (-1)) X.1 X.2.1 d_By_field_128 (by decide) ?_
              exact c_reti hQQ X Y hr hlk ⟨rfl, rfl, (-1), rfl, ⟨by omega, by omega⟩⟩ d_By_field_129
            · refine lv_iload X.1 X.2.1 d_By_field_79 (lv_at hl 3 rfl) ?_
              refine lv_iload X.1 X.2.1 d_By_field_81 (lv_at hl 2 rfl) ?_
              refine z_icmp_ge (tgt := 128) X.1 X.2.1 d_By_field_83 (by decide) ⟨by omega, by omega⟩ ⟨by omega, by omega⟩ (fun h122 => ?_) (fun h122 => ?_)
              · refine lv_iconst (v := iI (-1)) X.1 X.2.1 d_By_field_128 (by decide) ?_
                exact c_reti hQQ X Y hr hlk ⟨rfl, rfl, (-1), rfl, ⟨by omega, by omega⟩⟩ d_By_field_129
              · refine lv_aload_n X.1 X.2.1 d_By_field_86 rfl (lv_at hl 0 rfl) ?_
                refine t_getrow (ci := 3) X Y S k0 rfl i_By 0 (by decide) rfl lk_By_15 (fun _ h9 => h9) d_By_field_87 (fun b123 e123 k123 => ?_)
                refine lv_iload X.1 X.2.1 d_By_field_90 (lv_at hl 3 rfl) ?_
                refine t_bald X Y S (Or.inl k123) (by omega) (by omega) (by omega) d_By_field_92 (fun z124 l124 u124 => ?_)
                refine lv_sipush (v := iI 255) X.1 X.2.1 d_By_field_93 (by decide) ?_
                refine z_iand X.1 X.2.1 (by omega) (by omega) d_By_field_96 (fun z125 l125 u125 => ?_)
                refine lv_sipush (v := iI 160) X.1 X.2.1 d_By_field_97 (by decide) ?_
                refine lv_iload_n X.1 X.2.1 d_By_field_100 rfl (lv_at hl 1 rfl) ?_
                refine z_iadd X.1 X.2.1 d_By_field_101 ?_
                refine z_icmp_ne (tgt := 112) X.1 X.2.1 d_By_field_102 (by decide) ⟨by omega, by omega⟩ ⟨by omega, by omega⟩ (fun h126 => ?_) (fun h126 => ?_)
                · refine lv_aload_n X.1 X.2.1 d_By_field_112 rfl (lv_at hl 0 rfl) ?_
                  refine lv_iload X.1 X.2.1 d_By_field_113 (lv_at hl 3 rfl) ?_
                  refine lv_iload X.1 X.2.1 d_By_field_115 (lv_at hl 2 rfl) ?_
                  refine t_ui (t_runV (As := [.int (iI z114), .int (iI z112)]) (rest := []) (n := 2) X Y S k0 hml hl.1 (c_By_stop l D E T κ L f H.size h n0 k0 (by omega) z114 (by omega) (by omega) z112 (by omega) (by omega) S.1 z111 e111 (by omega) (by omega)) (ok_k X Y hA KS KR) rfl kl_By_By_stop ks_By_stop kx_By_stop ki_By_stop ini_By ⟨rfl, rfl⟩ hd_By_stop ⟨Nat.le_of_ble_eq_true rfl, Nat.le_of_ble_eq_true rfl⟩ rfl (Nat.le_of_ble_eq_true rfl) d_By_field_117 ⟨Nat.le_of_ble_eq_true rfl, Nat.le_of_ble_eq_true rfl⟩) X Y hA (fun z127 H locs Y p127 => ?_)
                  obtain ⟨l127, u127, x127⟩ := p127
                  refine lv_istore (lv' := [(6, .int (iI z127)), (0, .ref h), (2, .int (iI a2)), (5, .int (iI z112)), (7, .int (iI z115))]) X.1 X.2.1 d_By_field_120 hl (by decide) rfl (fun ls hl => ?_)
                  refine lv_iinc (v := iI (z115 + 1)) (lv' := [(7, .int (iI (z115 + 1))), (6, .int (iI z127)), (0, .ref h), (2, .int (iI a2)), (5, .int (iI z112))]) X.1 X.2.1 d_By_field_122 hl (k := 4) rfl ((iI_add _ _).trans (congrArg iI (by omega))) (by decide) rfl (fun ls hl => ?_)
                  refine lv_goto (tgt := 67) X.1 X.2.1 d_By_field_125 (by decide) ?_
                  exact ih117 ((13 - (z115 + 1)).toNat) (by omega) z127 (z115 + 1) _ _ _ rfl (by omega) (by omega) (by omega) (by omega) Y S (lv_sub hl [2, 3, 4, 1, 0] rfl)
                · refine lv_aload_n X.1 X.2.1 d_By_field_105 rfl (lv_at hl 0 rfl) ?_
                  refine lv_iload X.1 X.2.1 d_By_field_106 (lv_at hl 3 rfl) ?_
                  refine t_ui (t_runV (As := [.int (iI z114)]) (rest := []) (n := 1) X Y S k0 hml hl.1 (c_By_body l D E T κ L f H.size h n0 k0 (by omega) z114 (by omega) (by omega) S.1 z111 e111 (by omega) (by omega)) (ok_k X Y hA KS KR) rfl kl_By_By_body ks_By_body kx_By_body ki_By_body ini_By ⟨rfl, rfl⟩ hd_By_body ⟨Nat.le_of_ble_eq_true rfl, Nat.le_of_ble_eq_true rfl⟩ rfl (Nat.le_of_ble_eq_true rfl) d_By_field_108 ⟨Nat.le_of_ble_eq_true rfl, Nat.le_of_ble_eq_true rfl⟩) X Y hA (fun z128 H locs Y p128 => ?_)
                  obtain ⟨l128, u128, x128⟩ := p128
                  exact c_reti hQQ X Y hr hlk ⟨rfl, rfl, z128, rfl, ⟨by omega, by omega⟩⟩ d_By_field_111
      refine lv_istore (lv' := [(7, .int (iI 0)), (6, .int (iI z113)), (5, .int (iI z112)), (4, .int (iI z106)), (0, .ref h), (2, .int (iI a2))]) X.1 X.2.1 d_By_field_65 hl (by decide) rfl (fun ls hl => ?_)
      exact J116 _ z113 0 _ _ _ rfl (by omega) (by omega) (by omega) (by omega) Y S (lv_sub hl [4, 5, 2, 1, 0] rfl)
    refine z_icmp_ne (tgt := 41) X.1 X.2.1 d_By_field_30 (by decide) ⟨by omega, by omega⟩ ⟨by omega, by omega⟩ (fun h129 => ?_) (fun h129 => ?_)
    · refine lv_iload_n X.1 X.2.1 d_By_field_41 rfl (lv_at hl 2 rfl) ?_
      exact J107 a1 _ _ _ (by omega) (by omega) Y S (lv_sub hl [1, 3] rfl)
    · refine lv_aload_n X.1 X.2.1 d_By_field_33 rfl (lv_at hl 1 rfl) ?_
      refine lv_iload_n X.1 X.2.1 d_By_field_34 rfl (lv_at hl 2 rfl) ?_
      obtain ⟨z130, e130, l130, u130⟩ := t_size S k0
      refine t_ui (t_runV (As := [.int (iI a1)]) (rest := []) (n := 1) X Y S k0 hml hl.1 (c_By_body l D E T κ L f H.size h n0 k0 (by omega) a1 (by omega) (by omega) S.1 z130 e130 (by omega) (by omega)) (ok_k X Y hA KS KR) rfl kl_By_By_body ks_By_body kx_By_body ki_By_body ini_By ⟨rfl, rfl⟩ hd_By_body ⟨Nat.le_of_ble_eq_true rfl, Nat.le_of_ble_eq_true rfl⟩ rfl (Nat.le_of_ble_eq_true rfl) d_By_field_35 ⟨Nat.le_of_ble_eq_true rfl, Nat.le_of_ble_eq_true rfl⟩) X Y hA (fun z131 H locs Y p131 => ?_)
      obtain ⟨l131, u131, x131⟩ := p131
      refine lv_goto (tgt := 42) X.1 X.2.1 d_By_field_38 (by decide) ?_
      exact J107 z131 _ _ _ (by omega) (by omega) Y S (lv_sub hl [1, 3] rfl)
  have J132 : ∀  (H : Heap) (locs : List Loc) (ls : Array Slot), pH D cCl (pA L sz) s.heap L f H locs → tS E T (tFr κ L [] []) κ L f κ L f → lv_has ls 8 [(0, .ref h), (1, .int (iI a1)), (2, .int (iI a2))] → W p l e (kRm 2 85 0 0) s m AV below meth c H locs 0 0 QQ (F0 m 25 ls []) := by
    intro  H locs ls  Y S hl
    refine lv_iconst (v := iI 0) X.1 X.2.1 d_By_field_25 (by decide) ?_
    exact J102 0 _ _ _ (by omega) (by omega) Y S (lv_sub hl [0, 1, 2] rfl)
  refine z_if_lt (tgt := 25) X.1 X.2.1 d_By_field_1 (by decide) ⟨by omega, by omega⟩ (fun h136 => ?_) (fun h136 => ?_)
  · exact J132  _ _ _  Y S (lv_sub hl [0, 1, 2] rfl)
  · refine lv_iload_n X.1 X.2.1 d_By_field_4 rfl (lv_at hl 1 rfl) ?_
    refine lv_aload_n X.1 X.2.1 d_By_field_5 rfl (lv_at hl 0 rfl) ?_
    refine t_gets (ci := 3) X Y S k0 rfl i_By 1 (by decide) rfl lk_By_21 (fun _ h9 => h9) d_By_field_6 (fun z137 e137 l137 u137 => ?_)
    refine z_icmp_ge (tgt := 25) X.1 X.2.1 d_By_field_9 (by decide) ⟨by omega, by omega⟩ ⟨by omega, by omega⟩ (fun h138 => ?_) (fun h138 => ?_)
    · exact J132  _ _ _  Y S (lv_sub hl [0, 1, 2] rfl)
    · refine lv_aload_n X.1 X.2.1 d_By_field_12 rfl (lv_at hl 0 rfl) ?_
      refine t_getrow (ci := 3) X Y S k0 rfl i_By 0 (by decide) rfl lk_By_15 (fun _ h9 => h9) d_By_field_13 (fun b139 e139 k139 => ?_)
      refine lv_iload_n X.1 X.2.1 d_By_field_16 rfl (lv_at hl 1 rfl) ?_
      refine t_bald X Y S (Or.inl k139) (by omega) (by omega) (by omega) d_By_field_17 (fun z140 l140 u140 => ?_)
      refine lv_sipush (v := iI 224) X.1 X.2.1 d_By_field_18 (by decide) ?_
      refine z_iand X.1 X.2.1 (by omega) (by omega) d_By_field_21 (fun z141 l141 u141 => ?_)
      refine lv_goto (tgt := 26) X.1 X.2.1 d_By_field_22 (by decide) ?_
      exact J102 z141 _ _ _ (by omega) (by omega) Y S (lv_sub hl [0, 1, 2] rfl)
set_option maxHeartbeats 4000000 in
set_option maxRecDepth 100000 in
theorem c_By_element (l : Launch) (D : va_G) (E : cE) (T : cT) (κ : tK) (L : List Nat) (f : pF) (sz : Nat) (h n0 : Nat) (k0 : κ h = (13, n0)) (x0 : n0 ≤ 12288) (a1 : Int) (l_a1 : (-1) ≤ a1) (u_a1 : a1 ≤ 20200) (a2 : Int) (l_a2 : 0 ≤ a2) (u_a2 : a2 ≤ 16) (hw : tW E T κ L f) : Met l y_By_element (k_By_element :: lw_tg) (kRm 2 85 0 0) (va_Pc [.ref h, .int (iI a1), .int (iI a2)] (kPre D E T L f sz)) (va_Qi (uPi L f (fun (z : Int) => (-1) ≤ z ∧ z ≤ 12420)) (cPost D E (pA L sz)) (pA L sz)) 0 0 (pA L sz) := by
  refine k_enter (own := R_By) (by decide) rfl (Nat.le_of_ble_eq_true rfl) (fun p e s m below meth c ls AV QQ H locs hQQ X Y hA hin hr hlk hml hl KS KR => ?_)
  have hl : lv_has ls 6 [(0, .ref h), (1, .int (iI a1)), (2, .int (iI a2))] := hl
  have S : tS E T (tFr κ L [] []) κ L f κ L f := tS_rf hw
  refine lv_aload_n X.1 X.2.1 d_By_element_0 rfl (lv_at hl 0 rfl) ?_
  refine lv_iload_n X.1 X.2.1 d_By_element_1 rfl (lv_at hl 1 rfl) ?_
  refine lv_aload_n X.1 X.2.1 d_By_element_2 rfl (lv_at hl 0 rfl) ?_
  refine t_gets (ci := 3) X Y S k0 rfl i_By 1 (by decide) rfl lk_By_21 (fun _ h9 => h9) d_By_element_3 (fun z101 e101 l101 u101 => ?_)
  refine t_ui (t_runV (As := [.int (iI a1), .int (iI z101)]) (rest := []) (n := 2) X Y S k0 hml hl.1 (c_By_stop l D E T κ L f H.size h n0 k0 (by omega) a1 (by omega) (by omega) z101 (by omega) (by omega) S.1 z101 e101 (by omega) (by omega)) (ok_k X Y hA KS KR) rfl kl_By_By_stop ks_By_stop kx_By_stop ki_By_stop ini_By ⟨rfl, rfl⟩ hd_By_stop ⟨Nat.le_of_ble_eq_true rfl, Nat.le_of_ble_eq_true rfl⟩ rfl (Nat.le_of_ble_eq_true rfl) d_By_element_6 ⟨Nat.le_of_ble_eq_true rfl, Nat.le_of_ble_eq_true rfl⟩) X Y hA (fun z102 H locs Y p102 => ?_)
  obtain ⟨l102, u102, x102⟩ := p102
  refine lv_istore_n (lv' := [(3, .int (iI z102)), (0, .ref h), (1, .int (iI a1)), (2, .int (iI a2))]) X.1 X.2.1 d_By_element_9 rfl hl (by decide) rfl (fun ls hl => ?_)
  refine lv_aload_n X.1 X.2.1 d_By_element_10 rfl (lv_at hl 1 rfl) ?_
  refine lv_iload_n X.1 X.2.1 d_By_element_11 rfl (lv_at hl 2 rfl) ?_
  refine t_ui (t_runV (As := [.int (iI a1)]) (rest := []) (n := 1) X Y S k0 hml hl.1 (c_By_body l D E T κ L f H.size h n0 k0 (by omega) a1 (by omega) (by omega) S.1 z101 e101 (by omega) (by omega)) (ok_k X Y hA KS KR) rfl kl_By_By_body ks_By_body kx_By_body ki_By_body ini_By ⟨rfl, rfl⟩ hd_By_body ⟨Nat.le_of_ble_eq_true rfl, Nat.le_of_ble_eq_true rfl⟩ rfl (Nat.le_of_ble_eq_true rfl) d_By_element_12 ⟨Nat.le_of_ble_eq_true rfl, Nat.le_of_ble_eq_true rfl⟩) X Y hA (fun z103 H locs Y p103 => ?_)
  obtain ⟨l103, u103, x103⟩ := p103
  refine lv_istore (lv' := [(4, .int (iI z103)), (3, .int (iI z102)), (0, .ref h), (1, .int (iI a1)), (2, .int (iI a2))]) X.1 X.2.1 d_By_element_15 hl (by decide) rfl (fun ls hl => ?_)
  refine lv_iconst (v := iI 0) X.1 X.2.1 d_By_element_17 (by decide) ?_
  have J106 : ∀ (n108 : Nat) (z104 : Int) (z105 : Int) (H : Heap) (locs : List Loc) (ls : Array Slot), (16 - z105).toNat = n108 → ((-1) ≤ z104) → (z104 ≤ 12420) → (0 ≤ z105) → (z105 ≤ 16) → pH D cCl (pA L sz) s.heap L f H locs → tS E T (tFr κ L [] []) κ L f κ L f → lv_has ls 6 [(0, .ref h), (2, .int (iI a2)), (3, .int (iI z102)), (4, .int (iI z104)), (5, .int (iI z105))] → W p l e (kRm 2 85 0 0) s m AV below meth c H locs 0 0 QQ (F0 m 20 ls []) := by
    intro n108
    induction n108 using Nat.strongRecOn with
    | ind n108 ih107 =>
      intro z104 z105 H locs ls hm109 l104 u104 l105 u105 Y S hl
      refine lv_iload X.1 X.2.1 d_By_element_20 (lv_at hl 4 rfl) ?_
      refine lv_bipush (v := iI 16) X.1 X.2.1 d_By_element_22 (by decide) ?_
      refine z_icmp_ge (tgt := 62) X.1 X.2.1 d_By_element_24 (by decide) ⟨by omega, by omega⟩ ⟨by omega, by omega⟩ (fun h110 => ?_) (fun h110 => ?_)
      · refine lv_iconst (v := iI (-1)) X.1 X.2.1 d_By_element_62 (by decide) ?_
        exact c_reti hQQ X Y hr hlk ⟨rfl, rfl, (-1), rfl, ⟨by omega, by omega⟩⟩ d_By_element_63
      · refine lv_iload X.1 X.2.1 d_By_element_27 (lv_at hl 3 rfl) ?_
        refine z_if_lt (tgt := 62) X.1 X.2.1 d_By_element_29 (by decide) ⟨by omega, by omega⟩ (fun h111 => ?_) (fun h111 => ?_)
        · refine lv_iconst (v := iI (-1)) X.1 X.2.1 d_By_element_62 (by decide) ?_
          exact c_reti hQQ X Y hr hlk ⟨rfl, rfl, (-1), rfl, ⟨by omega, by omega⟩⟩ d_By_element_63
        · refine lv_iload X.1 X.2.1 d_By_element_32 (lv_at hl 3 rfl) ?_
          refine lv_iload_n X.1 X.2.1 d_By_element_34 rfl (lv_at hl 2 rfl) ?_
          refine z_icmp_ge (tgt := 62) X.1 X.2.1 d_By_element_35 (by decide) ⟨by omega, by omega⟩ ⟨by omega, by omega⟩ (fun h112 => ?_) (fun h112 => ?_)
          · refine lv_iconst (v := iI (-1)) X.1 X.2.1 d_By_element_62 (by decide) ?_
            exact c_reti hQQ X Y hr hlk ⟨rfl, rfl, (-1), rfl, ⟨by omega, by omega⟩⟩ d_By_element_63
          · refine lv_iload X.1 X.2.1 d_By_element_38 (lv_at hl 4 rfl) ?_
            refine lv_iload_n X.1 X.2.1 d_By_element_40 rfl (lv_at hl 1 rfl) ?_
            refine z_icmp_ne (tgt := 47) X.1 X.2.1 d_By_element_41 (by decide) ⟨by omega, by omega⟩ ⟨by omega, by omega⟩ (fun h113 => ?_) (fun h113 => ?_)
            · refine lv_aload_n X.1 X.2.1 d_By_element_47 rfl (lv_at hl 0 rfl) ?_
              refine lv_iload X.1 X.2.1 d_By_element_48 (lv_at hl 3 rfl) ?_
              refine lv_iload_n X.1 X.2.1 d_By_element_50 rfl (lv_at hl 2 rfl) ?_
              refine t_ui (t_runV (As := [.int (iI z104), .int (iI z102)]) (rest := []) (n := 2) X Y S k0 hml hl.1 (c_By_stop l D E T κ L f H.size h n0 k0 (by omega) z104 (by omega) (by omega) z102 (by omega) (by omega) S.1 z101 e101 (by omega) (by omega)) (ok_k X Y hA KS KR) rfl kl_By_By_stop ks_By_stop kx_By_stop ki_By_stop ini_By ⟨rfl, rfl⟩ hd_By_stop ⟨Nat.le_of_ble_eq_true rfl, Nat.le_of_ble_eq_true rfl⟩ rfl (Nat.le_of_ble_eq_true rfl) d_By_element_51 ⟨Nat.le_of_ble_eq_true rfl, Nat.le_of_ble_eq_true rfl⟩) X Y hA (fun z114 H locs Y p114 => ?_)
              obtain ⟨l114, u114, x114⟩ := p114
              refine lv_istore (lv' := [(4, .int (iI z114)), (0, .ref h), (2, .int (iI a2)), (3, .int (iI z102)), (5, .int (iI z105))]) X.1 X.2.1 d_By_element_54 hl (by decide) rfl (fun ls hl => ?_)
              refine lv_iinc (v := iI (z105 + 1)) (lv' := [(5, .int (iI (z105 + 1))), (4, .int (iI z114)), (0, .ref h), (2, .int (iI a2)), (3, .int (iI z102))]) X.1 X.2.1 d_By_element_56 hl (k := 4) rfl ((iI_add _ _).trans (congrArg iI (by omega))) (by decide) rfl (fun ls hl => ?_)
              refine lv_goto (tgt := 20) X.1 X.2.1 d_By_element_59 (by decide) ?_
              exact ih107 ((16 - (z105 + 1)).toNat) (by omega) z114 (z105 + 1) _ _ _ rfl (by omega) (by omega) (by omega) (by omega) Y S (lv_sub hl [2, 3, 4, 1, 0] rfl)
            · refine lv_iload X.1 X.2.1 d_By_element_44 (lv_at hl 3 rfl) ?_
              exact c_reti hQQ X Y hr hlk ⟨rfl, rfl, z104, rfl, ⟨by omega, by omega⟩⟩ d_By_element_46
  refine lv_istore (lv' := [(5, .int (iI 0)), (4, .int (iI z103)), (3, .int (iI z102)), (0, .ref h), (1, .int (iI a1)), (2, .int (iI a2))]) X.1 X.2.1 d_By_element_18 hl (by decide) rfl (fun ls hl => ?_)
  exact J106 _ z103 0 _ _ _ rfl (by omega) (by omega) (by omega) (by omega) Y S (lv_sub hl [3, 5, 2, 1, 0] rfl)
set_option maxHeartbeats 4000000 in
set_option maxRecDepth 100000 in
theorem c_By_number (l : Launch) (D : va_G) (E : cE) (T : cT) (κ : tK) (L : List Nat) (f : pF) (sz : Nat) (h n0 : Nat) (k0 : κ h = (13, n0)) (x0 : n0 ≤ 12288) (a1 : Int) (l_a1 : 0 ≤ a1) (u_a1 : a1 ≤ 12420) (a2 : Int) (l_a2 : (-1) ≤ a2) (u_a2 : a2 ≤ 20200) (hw : tW E T κ L f) (q0 : a1 < (n0 : Int)) : Met l y_By_number (k_By_number :: lw_tg) (kRm 1 60 0 0) (va_Pc [.ref h, .int (iI a1), .int (iI a2)] (kPre D E T L f sz)) (va_Ql (uPl L f (fun (z : Int64) => True)) (cPost D E (pA L sz)) (pA L sz)) 0 0 (pA L sz) := by
  refine k_enter (own := R_By) (by decide) rfl (Nat.le_of_ble_eq_true rfl) (fun p e s m below meth c ls AV QQ H locs hQQ X Y hA hin hr hlk hml hl KS KR => ?_)
  have hl : lv_has ls 6 [(0, .ref h), (1, .int (iI a1)), (2, .int (iI a2))] := hl
  have S : tS E T (tFr κ L [] []) κ L f κ L f := tS_rf hw
  refine lv_aload_n X.1 X.2.1 d_By_number_0 rfl (lv_at hl 0 rfl) ?_
  refine t_getrow (ci := 3) X Y S k0 rfl i_By 0 (by decide) rfl lk_By_15 (fun _ h9 => h9) d_By_number_1 (fun b101 e101 k101 => ?_)
  refine lv_iload_n X.1 X.2.1 d_By_number_4 rfl (lv_at hl 1 rfl) ?_
  refine t_bald X Y S (Or.inl k101) (by omega) (by omega) (by omega) d_By_number_5 (fun z102 l102 u102 => ?_)
  refine lv_i2l X.1 X.2.1 d_By_number_6 rfl ?_
  refine t_anyl (fun v103 => ?_)
  refine lv_lstore_n (lv' := [(3, .long v103), (0, .ref h), (1, .int (iI a1)), (2, .int (iI a2))]) X.1 X.2.1 d_By_number_7 rfl hl (by decide) rfl (fun ls hl => ?_)
  refine lv_iload_n X.1 X.2.1 d_By_number_8 rfl (lv_at hl 2 rfl) ?_
  refine lv_iconst (v := iI 1) X.1 X.2.1 d_By_number_9 (by decide) ?_
  refine z_iadd X.1 X.2.1 d_By_number_10 ?_
  have J106 : ∀ (n108 : Nat) (v104 : Int64) (z105 : Int) (H : Heap) (locs : List Loc) (ls : Array Slot), (12421 - z105).toNat = n108 → (1 ≤ z105) → (z105 ≤ 12421) → pH D cCl (pA L sz) s.heap L f H locs → tS E T (tFr κ L [] []) κ L f κ L f → lv_has ls 6 [(0, .ref h), (2, .int (iI a2)), (3, .long v104), (5, .int (iI z105))] → W p l e (kRm 1 60 0 0) s m AV below meth c H locs 0 0 QQ (F0 m 13 ls []) := by
    intro n108
    induction n108 using Nat.strongRecOn with
    | ind n108 ih107 =>
      intro v104 z105 H locs ls hm109 l105 u105 Y S hl
      refine lv_iload X.1 X.2.1 d_By_number_13 (lv_at hl 3 rfl) ?_
      refine lv_iload_n X.1 X.2.1 d_By_number_15 rfl (lv_at hl 1 rfl) ?_
      refine z_icmp_ge (tgt := 52) X.1 X.2.1 d_By_number_16 (by decide) ⟨by omega, by omega⟩ ⟨by omega, by omega⟩ (fun h110 => ?_) (fun h110 => ?_)
      · refine lv_lload_n X.1 X.2.1 d_By_number_52 rfl (lv_at hl 2 rfl) ?_
        exact c_retl hQQ X Y hr hlk ⟨rfl, rfl, trivial⟩ d_By_number_53
      · refine lv_iload X.1 X.2.1 d_By_number_19 (lv_at hl 3 rfl) ?_
        refine lv_aload_n X.1 X.2.1 d_By_number_21 rfl (lv_at hl 0 rfl) ?_
        refine t_gets (ci := 3) X Y S k0 rfl i_By 1 (by decide) rfl lk_By_21 (fun _ h9 => h9) d_By_number_22 (fun z111 e111 l111 u111 => ?_)
        refine z_icmp_ge (tgt := 52) X.1 X.2.1 d_By_number_25 (by decide) ⟨by omega, by omega⟩ ⟨by omega, by omega⟩ (fun h112 => ?_) (fun h112 => ?_)
        · refine lv_lload_n X.1 X.2.1 d_By_number_52 rfl (lv_at hl 2 rfl) ?_
          exact c_retl hQQ X Y hr hlk ⟨rfl, rfl, trivial⟩ d_By_number_53
        · refine lv_lload_n X.1 X.2.1 d_By_number_28 rfl (lv_at hl 2 rfl) ?_
          refine lv_bipush (v := iI 8) X.1 X.2.1 d_By_number_29 (by decide) ?_
          refine lv_lshl X.1 X.2.1 d_By_number_31 rfl ?_
          refine t_anyl (fun v113 => ?_)
          refine lv_aload_n X.1 X.2.1 d_By_number_32 rfl (lv_at hl 0 rfl) ?_
          refine t_get0 (ci := 3) X Y S k0 rfl i_By 0 (by decide) rfl lk_By_15 (fun _ h9 => h9) d_By_number_33 e101 ?_
          refine lv_iload X.1 X.2.1 d_By_number_36 (lv_at hl 3 rfl) ?_
          refine t_bald X Y S (Or.inl k101) (by omega) (by omega) (by omega) d_By_number_38 (fun z114 l114 u114 => ?_)
          refine lv_sipush (v := iI 255) X.1 X.2.1 d_By_number_39 (by decide) ?_
          refine z_iand X.1 X.2.1 (by omega) (by omega) d_By_number_42 (fun z115 l115 u115 => ?_)
          refine lv_i2l X.1 X.2.1 d_By_number_43 rfl ?_
          refine t_anyl (fun v116 => ?_)
          refine lv_lor X.1 X.2.1 d_By_number_44 ?_
          refine t_anyl (fun v117 => ?_)
          refine lv_lstore_n (lv' := [(3, .long v117), (0, .ref h), (2, .int (iI a2)), (5, .int (iI z105))]) X.1 X.2.1 d_By_number_45 rfl hl (by decide) rfl (fun ls hl => ?_)
          refine lv_iinc (v := iI (z105 + 1)) (lv' := [(5, .int (iI (z105 + 1))), (3, .long v117), (0, .ref h), (2, .int (iI a2))]) X.1 X.2.1 d_By_number_46 hl (k := 3) rfl ((iI_add _ _).trans (congrArg iI (by omega))) (by decide) rfl (fun ls hl => ?_)
          refine lv_goto (tgt := 13) X.1 X.2.1 d_By_number_49 (by decide) ?_
          exact ih107 ((12421 - (z105 + 1)).toNat) (by omega) v117 (z105 + 1) _ _ _ rfl (by omega) (by omega) Y S (lv_sub hl [2, 3, 1, 0] rfl)
  refine lv_istore (lv' := [(5, .int (iI (a1 + 1))), (3, .long v103), (0, .ref h), (1, .int (iI a1)), (2, .int (iI a2))]) X.1 X.2.1 d_By_number_11 hl (by decide) rfl (fun ls hl => ?_)
  exact J106 _ v103 (a1 + 1) _ _ _ rfl (by omega) (by omega) Y S (lv_sub hl [2, 4, 1, 0] rfl)
set_option maxHeartbeats 4000000 in
set_option maxRecDepth 100000 in
theorem c_By_numberAt (l : Launch) (D : va_G) (E : cE) (T : cT) (κ : tK) (L : List Nat) (f : pF) (sz : Nat) (h n0 : Nat) (k0 : κ h = (13, n0)) (x0 : n0 ≤ 12288) (a1 : Int) (l_a1 : (-1) ≤ a1) (u_a1 : a1 ≤ 20200) (hw : tW E T κ L f) : Met l y_By_numberAt (k_By_numberAt :: lw_tg) (kRm 2 85 0 0) (va_Pc [.ref h, .int (iI a1)] (kPre D E T L f sz)) (va_Ql (uPl L f (fun (z : Int64) => True)) (cPost D E (pA L sz)) (pA L sz)) 0 0 (pA L sz) := by
  refine k_enter (own := R_By) (by decide) rfl (Nat.le_of_ble_eq_true rfl) (fun p e s m below meth c ls AV QQ H locs hQQ X Y hA hin hr hlk hml hl KS KR => ?_)
  have hl : lv_has ls 4 [(0, .ref h), (1, .int (iI a1))] := hl
  have S : tS E T (tFr κ L [] []) κ L f κ L f := tS_rf hw
  refine lv_aload_n X.1 X.2.1 d_By_numberAt_0 rfl (lv_at hl 0 rfl) ?_
  refine lv_iload_n X.1 X.2.1 d_By_numberAt_1 rfl (lv_at hl 1 rfl) ?_
  refine lv_aload_n X.1 X.2.1 d_By_numberAt_2 rfl (lv_at hl 0 rfl) ?_
  refine t_gets (ci := 3) X Y S k0 rfl i_By 1 (by decide) rfl lk_By_21 (fun _ h9 => h9) d_By_numberAt_3 (fun z101 e101 l101 u101 => ?_)
  refine t_ui (t_runV (As := [.int (iI a1), .int (iI z101)]) (rest := []) (n := 2) X Y S k0 hml hl.1 (c_By_stop l D E T κ L f H.size h n0 k0 (by omega) a1 (by omega) (by omega) z101 (by omega) (by omega) S.1 z101 e101 (by omega) (by omega)) (ok_k X Y hA KS KR) rfl kl_By_By_stop ks_By_stop kx_By_stop ki_By_stop ini_By ⟨rfl, rfl⟩ hd_By_stop ⟨Nat.le_of_ble_eq_true rfl, Nat.le_of_ble_eq_true rfl⟩ rfl (Nat.le_of_ble_eq_true rfl) d_By_numberAt_6 ⟨Nat.le_of_ble_eq_true rfl, Nat.le_of_ble_eq_true rfl⟩) X Y hA (fun z102 H locs Y p102 => ?_)
  obtain ⟨l102, u102, x102⟩ := p102
  refine lv_istore_n (lv' := [(2, .int (iI z102)), (0, .ref h), (1, .int (iI a1))]) X.1 X.2.1 d_By_numberAt_9 rfl hl (by decide) rfl (fun ls hl => ?_)
  refine lv_aload_n X.1 X.2.1 d_By_numberAt_10 rfl (lv_at hl 1 rfl) ?_
  refine lv_iload_n X.1 X.2.1 d_By_numberAt_11 rfl (lv_at hl 2 rfl) ?_
  refine t_ui (t_runV (As := [.int (iI a1)]) (rest := []) (n := 1) X Y S k0 hml hl.1 (c_By_body l D E T κ L f H.size h n0 k0 (by omega) a1 (by omega) (by omega) S.1 z101 e101 (by omega) (by omega)) (ok_k X Y hA KS KR) rfl kl_By_By_body ks_By_body kx_By_body ki_By_body ini_By ⟨rfl, rfl⟩ hd_By_body ⟨Nat.le_of_ble_eq_true rfl, Nat.le_of_ble_eq_true rfl⟩ rfl (Nat.le_of_ble_eq_true rfl) d_By_numberAt_12 ⟨Nat.le_of_ble_eq_true rfl, Nat.le_of_ble_eq_true rfl⟩) X Y hA (fun z103 H locs Y p103 => ?_)
  obtain ⟨l103, u103, x103⟩ := p103
  refine lv_istore_n (lv' := [(3, .int (iI z103)), (2, .int (iI z102)), (0, .ref h), (1, .int (iI a1))]) X.1 X.2.1 d_By_numberAt_15 rfl hl (by decide) rfl (fun ls hl => ?_)
  refine lv_iload_n X.1 X.2.1 d_By_numberAt_16 rfl (lv_at hl 1 rfl) ?_
  refine lv_iload_n X.1 X.2.1 d_By_numberAt_17 rfl (lv_at hl 0 rfl) ?_
  refine z_icmp_le (tgt := 34) X.1 X.2.1 d_By_numberAt_18 (by decide) ⟨by omega, by omega⟩ ⟨by omega, by omega⟩ (fun h104 => ?_) (fun h104 => ?_)
  · refine lv_lconst (v := 0) X.1 X.2.1 d_By_numberAt_34 rfl ?_
    exact c_retl hQQ X Y hr hlk ⟨rfl, rfl, trivial⟩ d_By_numberAt_35
  · refine lv_iload_n X.1 X.2.1 d_By_numberAt_21 rfl (lv_at hl 0 rfl) ?_
    refine z_if_lt (tgt := 34) X.1 X.2.1 d_By_numberAt_22 (by decide) ⟨by omega, by omega⟩ (fun h105 => ?_) (fun h105 => ?_)
    · refine lv_lconst (v := 0) X.1 X.2.1 d_By_numberAt_34 rfl ?_
      exact c_retl hQQ X Y hr hlk ⟨rfl, rfl, trivial⟩ d_By_numberAt_35
    · refine lv_aload_n X.1 X.2.1 d_By_numberAt_25 rfl (lv_at hl 2 rfl) ?_
      refine lv_iload_n X.1 X.2.1 d_By_numberAt_26 rfl (lv_at hl 0 rfl) ?_
      refine lv_iload_n X.1 X.2.1 d_By_numberAt_27 rfl (lv_at hl 1 rfl) ?_
      refine t_ul (t_runV (As := [.int (iI z103), .int (iI z102)]) (rest := []) (n := 2) X Y S k0 hml hl.1 (c_By_number l D E T κ L f H.size h n0 k0 (by omega) z103 (by omega) (by omega) z102 (by omega) (by omega) S.1 (by omega)) (ok_k X Y hA KS KR) rfl kl_By_By_number ks_By_number kx_By_number ki_By_number ini_By ⟨rfl, rfl⟩ hd_By_number ⟨Nat.le_of_ble_eq_true rfl, Nat.le_of_ble_eq_true rfl⟩ rfl (Nat.le_of_ble_eq_true rfl) d_By_numberAt_28 ⟨Nat.le_of_ble_eq_true rfl, Nat.le_of_ble_eq_true rfl⟩) X Y hA (fun v106 H locs Y p106 => ?_)
      refine lv_goto (tgt := 35) X.1 X.2.1 d_By_numberAt_31 (by decide) ?_
      exact c_retl hQQ X Y hr hlk ⟨rfl, rfl, trivial⟩ d_By_numberAt_35
set_option maxHeartbeats 4000000 in
set_option maxRecDepth 100000 in
theorem c_By_bitsAt (l : Launch) (D : va_G) (E : cE) (T : cT) (κ : tK) (L : List Nat) (f : pF) (sz : Nat) (h n0 : Nat) (k0 : κ h = (13, n0)) (x0 : n0 ≤ 12288) (a1 : Int) (l_a1 : (-1) ≤ a1) (u_a1 : a1 ≤ 20200) (hw : tW E T κ L f) : Met l y_By_bitsAt (k_By_bitsAt :: lw_tg) (kRm 2 85 0 0) (va_Pc [.ref h, .int (iI a1)] (kPre D E T L f sz)) (va_Qi (uPi L f (fun (z : Int) => (-2147483648) ≤ z ∧ z ≤ 2147483647)) (cPost D E (pA L sz)) (pA L sz)) 0 0 (pA L sz) := by
  refine k_enter (own := R_By) (by decide) rfl (Nat.le_of_ble_eq_true rfl) (fun p e s m below meth c ls AV QQ H locs hQQ X Y hA hin hr hlk hml hl KS KR => ?_)
  have hl : lv_has ls 3 [(0, .ref h), (1, .int (iI a1))] := hl
  have S : tS E T (tFr κ L [] []) κ L f κ L f := tS_rf hw
  refine lv_aload_n X.1 X.2.1 d_By_bitsAt_0 rfl (lv_at hl 0 rfl) ?_
  refine lv_iload_n X.1 X.2.1 d_By_bitsAt_1 rfl (lv_at hl 1 rfl) ?_
  obtain ⟨z101, e101, l101, u101⟩ := t_size S k0
  refine t_ui (t_runV (As := [.int (iI a1)]) (rest := []) (n := 1) X Y S k0 hml hl.1 (c_By_body l D E T κ L f H.size h n0 k0 (by omega) a1 (by omega) (by omega) S.1 z101 e101 (by omega) (by omega)) (ok_k X Y hA KS KR) rfl kl_By_By_body ks_By_body kx_By_body ki_By_body ini_By ⟨rfl, rfl⟩ hd_By_body ⟨Nat.le_of_ble_eq_true rfl, Nat.le_of_ble_eq_true rfl⟩ rfl (Nat.le_of_ble_eq_true rfl) d_By_bitsAt_2 ⟨Nat.le_of_ble_eq_true rfl, Nat.le_of_ble_eq_true rfl⟩) X Y hA (fun z102 H locs Y p102 => ?_)
  obtain ⟨l102, u102, x102⟩ := p102
  refine lv_istore_n (lv' := [(2, .int (iI z102)), (0, .ref h), (1, .int (iI a1))]) X.1 X.2.1 d_By_bitsAt_5 rfl hl (by decide) rfl (fun ls hl => ?_)
  refine lv_iload_n X.1 X.2.1 d_By_bitsAt_6 rfl (lv_at hl 0 rfl) ?_
  refine z_if_lt (tgt := 20) X.1 X.2.1 d_By_bitsAt_7 (by decide) ⟨by omega, by omega⟩ (fun h103 => ?_) (fun h103 => ?_)
  · refine lv_iconst (v := iI 0) X.1 X.2.1 d_By_bitsAt_20 (by decide) ?_
    exact c_reti hQQ X Y hr hlk ⟨rfl, rfl, 0, rfl, ⟨by omega, by omega⟩⟩ d_By_bitsAt_21
  · refine lv_iload_n X.1 X.2.1 d_By_bitsAt_10 rfl (lv_at hl 0 rfl) ?_
    refine lv_iconst (v := iI 5) X.1 X.2.1 d_By_bitsAt_11 (by decide) ?_
    refine z_iadd X.1 X.2.1 d_By_bitsAt_12 ?_
    refine lv_aload_n X.1 X.2.1 d_By_bitsAt_13 rfl (lv_at hl 1 rfl) ?_
    refine t_get0 (ci := 3) X Y S k0 rfl i_By 1 (by decide) rfl lk_By_21 (fun _ h9 => h9) d_By_bitsAt_14 e101 ?_
    refine z_icmp_le (tgt := 22) X.1 X.2.1 d_By_bitsAt_17 (by decide) ⟨by omega, by omega⟩ ⟨by omega, by omega⟩ (fun h104 => ?_) (fun h104 => ?_)
    · refine lv_aload_n X.1 X.2.1 d_By_bitsAt_22 rfl (lv_at hl 1 rfl) ?_
      refine lv_iload_n X.1 X.2.1 d_By_bitsAt_23 rfl (lv_at hl 0 rfl) ?_
      refine lv_iconst (v := iI 1) X.1 X.2.1 d_By_bitsAt_24 (by decide) ?_
      refine z_iadd X.1 X.2.1 d_By_bitsAt_25 ?_
      refine lv_iload_n X.1 X.2.1 d_By_bitsAt_26 rfl (lv_at hl 0 rfl) ?_
      refine lv_iconst (v := iI 5) X.1 X.2.1 d_By_bitsAt_27 (by decide) ?_
      refine z_iadd X.1 X.2.1 d_By_bitsAt_28 ?_
      refine t_ul (t_runV (As := [.int (iI (z102 + 1)), .int (iI (z102 + 5))]) (rest := []) (n := 2) X Y S k0 hml hl.1 (c_By_number l D E T κ L f H.size h n0 k0 (by omega) (z102 + 1) (by omega) (by omega) (z102 + 5) (by omega) (by omega) S.1 (by omega)) (ok_k X Y hA KS KR) rfl kl_By_By_number ks_By_number kx_By_number ki_By_number ini_By ⟨rfl, rfl⟩ hd_By_number ⟨Nat.le_of_ble_eq_true rfl, Nat.le_of_ble_eq_true rfl⟩ rfl (Nat.le_of_ble_eq_true rfl) d_By_bitsAt_29 ⟨Nat.le_of_ble_eq_true rfl, Nat.le_of_ble_eq_true rfl⟩) X Y hA (fun v105 H locs Y p105 => ?_)
      refine lv_l2i X.1 X.2.1 d_By_bitsAt_32 rfl ?_
      refine t_u (fun z106 l106 u106 => ?_)
      exact c_reti hQQ X Y hr hlk ⟨rfl, rfl, z106, rfl, ⟨by omega, by omega⟩⟩ d_By_bitsAt_33
    · refine lv_iconst (v := iI 0) X.1 X.2.1 d_By_bitsAt_20 (by decide) ?_
      exact c_reti hQQ X Y hr hlk ⟨rfl, rfl, 0, rfl, ⟨by omega, by omega⟩⟩ d_By_bitsAt_21
set_option maxHeartbeats 4000000 in
set_option maxRecDepth 100000 in
theorem c_By_hasFarBits (l : Launch) (D : va_G) (E : cE) (T : cT) (κ : tK) (L : List Nat) (f : pF) (sz : Nat) (h n0 : Nat) (k0 : κ h = (13, n0)) (x0 : n0 ≤ 12288) (a1 : Int) (l_a1 : (-1) ≤ a1) (u_a1 : a1 ≤ 20200) (hw : tW E T κ L f) : Met l y_By_hasFarBits (k_By_hasFarBits :: lw_tg) (kRm 2 85 0 0) (va_Pc [.ref h, .int (iI a1)] (kPre D E T L f sz)) (va_Qi (uPi L f (fun (z : Int) => 0 ≤ z ∧ z ≤ 1)) (cPost D E (pA L sz)) (pA L sz)) 0 0 (pA L sz) := by
  refine k_enter (own := R_By) (by decide) rfl (Nat.le_of_ble_eq_true rfl) (fun p e s m below meth c ls AV QQ H locs hQQ X Y hA hin hr hlk hml hl KS KR => ?_)
  have hl : lv_has ls 5 [(0, .ref h), (1, .int (iI a1))] := hl
  have S : tS E T (tFr κ L [] []) κ L f κ L f := tS_rf hw
  refine lv_aload_n X.1 X.2.1 d_By_hasFarBits_0 rfl (lv_at hl 0 rfl) ?_
  refine lv_iload_n X.1 X.2.1 d_By_hasFarBits_1 rfl (lv_at hl 1 rfl) ?_
  refine lv_aload_n X.1 X.2.1 d_By_hasFarBits_2 rfl (lv_at hl 0 rfl) ?_
  refine t_gets (ci := 3) X Y S k0 rfl i_By 1 (by decide) rfl lk_By_21 (fun _ h9 => h9) d_By_hasFarBits_3 (fun z101 e101 l101 u101 => ?_)
  refine t_ui (t_runV (As := [.int (iI a1), .int (iI z101)]) (rest := []) (n := 2) X Y S k0 hml hl.1 (c_By_stop l D E T κ L f H.size h n0 k0 (by omega) a1 (by omega) (by omega) z101 (by omega) (by omega) S.1 z101 e101 (by omega) (by omega)) (ok_k X Y hA KS KR) rfl kl_By_By_stop ks_By_stop kx_By_stop ki_By_stop ini_By ⟨rfl, rfl⟩ hd_By_stop ⟨Nat.le_of_ble_eq_true rfl, Nat.le_of_ble_eq_true rfl⟩ rfl (Nat.le_of_ble_eq_true rfl) d_By_hasFarBits_6 ⟨Nat.le_of_ble_eq_true rfl, Nat.le_of_ble_eq_true rfl⟩) X Y hA (fun z102 H locs Y p102 => ?_)
  obtain ⟨l102, u102, x102⟩ := p102
  refine lv_istore_n (lv' := [(2, .int (iI z102)), (0, .ref h), (1, .int (iI a1))]) X.1 X.2.1 d_By_hasFarBits_9 rfl hl (by decide) rfl (fun ls hl => ?_)
  refine lv_aload_n X.1 X.2.1 d_By_hasFarBits_10 rfl (lv_at hl 1 rfl) ?_
  refine lv_iload_n X.1 X.2.1 d_By_hasFarBits_11 rfl (lv_at hl 2 rfl) ?_
  refine t_ui (t_runV (As := [.int (iI a1)]) (rest := []) (n := 1) X Y S k0 hml hl.1 (c_By_body l D E T κ L f H.size h n0 k0 (by omega) a1 (by omega) (by omega) S.1 z101 e101 (by omega) (by omega)) (ok_k X Y hA KS KR) rfl kl_By_By_body ks_By_body kx_By_body ki_By_body ini_By ⟨rfl, rfl⟩ hd_By_body ⟨Nat.le_of_ble_eq_true rfl, Nat.le_of_ble_eq_true rfl⟩ rfl (Nat.le_of_ble_eq_true rfl) d_By_hasFarBits_12 ⟨Nat.le_of_ble_eq_true rfl, Nat.le_of_ble_eq_true rfl⟩) X Y hA (fun z103 H locs Y p103 => ?_)
  obtain ⟨l103, u103, x103⟩ := p103
  refine lv_istore_n (lv' := [(3, .int (iI z103)), (2, .int (iI z102)), (0, .ref h), (1, .int (iI a1))]) X.1 X.2.1 d_By_hasFarBits_15 rfl hl (by decide) rfl (fun ls hl => ?_)
  refine lv_iload_n X.1 X.2.1 d_By_hasFarBits_16 rfl (lv_at hl 0 rfl) ?_
  refine lv_iconst (v := iI 5) X.1 X.2.1 d_By_hasFarBits_17 (by decide) ?_
  refine z_iadd X.1 X.2.1 d_By_hasFarBits_18 ?_
  have J105 : ∀ (n107 : Nat) (z104 : Int) (H : Heap) (locs : List Loc) (ls : Array Slot), (12425 - z104).toNat = n107 → (4 ≤ z104) → (z104 ≤ 12425) → pH D cCl (pA L sz) s.heap L f H locs → tS E T (tFr κ L [] []) κ L f κ L f → lv_has ls 5 [(0, .ref h), (2, .int (iI z102)), (3, .int (iI z103)), (4, .int (iI z104))] → W p l e (kRm 2 85 0 0) s m AV below meth c H locs 0 0 QQ (F0 m 21 ls []) := by
    intro n107
    induction n107 using Nat.strongRecOn with
    | ind n107 ih106 =>
      intro z104 H locs ls hm108 l104 u104 Y S hl
      refine lv_iload_n X.1 X.2.1 d_By_hasFarBits_21 rfl (lv_at hl 2 rfl) ?_
      refine z_if_lt (tgt := 49) X.1 X.2.1 d_By_hasFarBits_22 (by decide) ⟨by omega, by omega⟩ (fun h109 => ?_) (fun h109 => ?_)
      · refine lv_iconst (v := iI 0) X.1 X.2.1 d_By_hasFarBits_49 (by decide) ?_
        exact c_retz hQQ X Y hr hlk (iI_bool (by omega) (by omega)).1 ⟨rfl, rfl, 0, rfl, ⟨by omega, by omega⟩⟩ d_By_hasFarBits_50
      · refine lv_iload X.1 X.2.1 d_By_hasFarBits_25 (lv_at hl 3 rfl) ?_
        refine lv_iload_n X.1 X.2.1 d_By_hasFarBits_27 rfl (lv_at hl 1 rfl) ?_
        refine z_icmp_ge (tgt := 49) X.1 X.2.1 d_By_hasFarBits_28 (by decide) ⟨by omega, by omega⟩ ⟨by omega, by omega⟩ (fun h110 => ?_) (fun h110 => ?_)
        · refine lv_iconst (v := iI 0) X.1 X.2.1 d_By_hasFarBits_49 (by decide) ?_
          exact c_retz hQQ X Y hr hlk (iI_bool (by omega) (by omega)).1 ⟨rfl, rfl, 0, rfl, ⟨by omega, by omega⟩⟩ d_By_hasFarBits_50
        · refine lv_aload_n X.1 X.2.1 d_By_hasFarBits_31 rfl (lv_at hl 0 rfl) ?_
          refine t_getrow (ci := 3) X Y S k0 rfl i_By 0 (by decide) rfl lk_By_15 (fun _ h9 => h9) d_By_hasFarBits_32 (fun b111 e111 k111 => ?_)
          refine lv_iload X.1 X.2.1 d_By_hasFarBits_35 (lv_at hl 3 rfl) ?_
          refine t_bald X Y S (Or.inl k111) (by omega) (by omega) (by omega) d_By_hasFarBits_37 (fun z112 l112 u112 => ?_)
          refine z_if_eq (tgt := 43) X.1 X.2.1 d_By_hasFarBits_38 (by decide) ⟨by omega, by omega⟩ (fun h113 => ?_) (fun h113 => ?_)
          · refine lv_iinc (v := iI (z104 + 1)) (lv' := [(4, .int (iI (z104 + 1))), (0, .ref h), (2, .int (iI z102)), (3, .int (iI z103))]) X.1 X.2.1 d_By_hasFarBits_43 hl (k := 3) rfl ((iI_add _ _).trans (congrArg iI (by omega))) (by decide) rfl (fun ls hl => ?_)
            refine lv_goto (tgt := 21) X.1 X.2.1 d_By_hasFarBits_46 (by decide) ?_
            exact ih106 ((12425 - (z104 + 1)).toNat) (by omega) (z104 + 1) _ _ _ rfl (by omega) (by omega) Y S (lv_sub hl [1, 2, 3, 0] rfl)
          · refine lv_iconst (v := iI 1) X.1 X.2.1 d_By_hasFarBits_41 (by decide) ?_
            exact c_retz hQQ X Y hr hlk (iI_bool (by omega) (by omega)).1 ⟨rfl, rfl, 1, rfl, ⟨by omega, by omega⟩⟩ d_By_hasFarBits_42
  refine lv_istore (lv' := [(4, .int (iI (z103 + 5))), (3, .int (iI z103)), (2, .int (iI z102)), (0, .ref h), (1, .int (iI a1))]) X.1 X.2.1 d_By_hasFarBits_19 hl (by decide) rfl (fun ls hl => ?_)
  exact J105 _ (z103 + 5) _ _ _ rfl (by omega) (by omega) Y S (lv_sub hl [3, 2, 1, 0] rfl)
set_option maxHeartbeats 4000000 in
set_option maxRecDepth 100000 in
theorem c_By_digits (l : Launch) (D : va_G) (E : cE) (T : cT) (κ : tK) (L : List Nat) (f : pF) (sz : Nat) (h n0 : Nat) (k0 : κ h = (13, n0)) (x0 : n0 ≤ 12288) (a1 : Int) (l_a1 : (-1) ≤ a1) (u_a1 : a1 ≤ 20300) (a2 : Int) (l_a2 : 0 ≤ a2) (u_a2 : a2 ≤ 4) (hw : tW E T κ L f) : Met l y_By_digits (k_By_digits :: lw_tg) (kRm 2 81 0 0) (va_Pc [.ref h, .int (iI a1), .int (iI a2)] (kPre D E T L f sz)) (va_Qi (uPi L f (fun (z : Int) => (-2147483648) ≤ z ∧ z ≤ 2147483647)) (cPost D E (pA L sz)) (pA L sz)) 0 0 (pA L sz) := by
  refine k_enter (own := R_By) (by decide) rfl (Nat.le_of_ble_eq_true rfl) (fun p e s m below meth c ls AV QQ H locs hQQ X Y hA hin hr hlk hml hl KS KR => ?_)
  have hl : lv_has ls 6 [(0, .ref h), (1, .int (iI a1)), (2, .int (iI a2))] := hl
  have S : tS E T (tFr κ L [] []) κ L f κ L f := tS_rf hw
  refine lv_iconst (v := iI 0) X.1 X.2.1 d_By_digits_0 (by decide) ?_
  refine lv_istore_n (lv' := [(3, .int (iI 0)), (0, .ref h), (1, .int (iI a1)), (2, .int (iI a2))]) X.1 X.2.1 d_By_digits_1 rfl hl (by decide) rfl (fun ls hl => ?_)
  refine lv_iload_n X.1 X.2.1 d_By_digits_2 rfl (lv_at hl 2 rfl) ?_
  have J103 : ∀ (n105 : Nat) (z101 : Int) (z102 : Int) (H : Heap) (locs : List Loc) (ls : Array Slot), (20304 - z102).toNat = n105 → ((-2147483648) ≤ z101) → (z101 ≤ 2147483647) → ((-1) ≤ z102) → (z102 ≤ 20304) → pH D cCl (pA L sz) s.heap L f H locs → tS E T (tFr κ L [] []) κ L f κ L f → lv_has ls 6 [(0, .ref h), (1, .int (iI a1)), (2, .int (iI a2)), (3, .int (iI z101)), (4, .int (iI z102))] → W p l e (kRm 2 81 0 0) s m AV below meth c H locs 0 0 QQ (F0 m 5 ls []) := by
    intro n105
    induction n105 using Nat.strongRecOn with
    | ind n105 ih104 =>
      intro z101 z102 H locs ls hm106 l101 u101 l102 u102 Y S hl
      refine lv_iload X.1 X.2.1 d_By_digits_5 (lv_at hl 4 rfl) ?_
      refine lv_iload_n X.1 X.2.1 d_By_digits_7 rfl (lv_at hl 1 rfl) ?_
      refine lv_iload_n X.1 X.2.1 d_By_digits_8 rfl (lv_at hl 2 rfl) ?_
      refine z_iadd X.1 X.2.1 d_By_digits_9 ?_
      refine z_icmp_ge (tgt := 54) X.1 X.2.1 d_By_digits_10 (by decide) ⟨by omega, by omega⟩ ⟨by omega, by omega⟩ (fun h107 => ?_) (fun h107 => ?_)
      · refine lv_iload_n X.1 X.2.1 d_By_digits_54 rfl (lv_at hl 3 rfl) ?_
        exact c_reti hQQ X Y hr hlk ⟨rfl, rfl, z101, rfl, ⟨by omega, by omega⟩⟩ d_By_digits_55
      · refine lv_aload_n X.1 X.2.1 d_By_digits_13 rfl (lv_at hl 0 rfl) ?_
        refine lv_iload X.1 X.2.1 d_By_digits_14 (lv_at hl 4 rfl) ?_
        refine t_ui (t_runV (As := [.int (iI z102)]) (rest := []) (n := 1) X Y S k0 hml hl.1 (c_By_at l D E T κ L f H.size h n0 k0 (by omega) z102 (by omega) (by omega) S.1) (ok_k X Y hA KS KR) rfl kl_By_By_at ks_By_at kx_By_at ki_By_at ini_By ⟨rfl, rfl⟩ hd_By_at ⟨Nat.le_of_ble_eq_true rfl, Nat.le_of_ble_eq_true rfl⟩ rfl (Nat.le_of_ble_eq_true rfl) d_By_digits_16 ⟨Nat.le_of_ble_eq_true rfl, Nat.le_of_ble_eq_true rfl⟩) X Y hA (fun z108 H locs Y p108 => ?_)
        obtain ⟨l108, u108⟩ := p108
        refine lv_istore (lv' := [(5, .int (iI z108)), (0, .ref h), (1, .int (iI a1)), (2, .int (iI a2)), (3, .int (iI z101)), (4, .int (iI z102))]) X.1 X.2.1 d_By_digits_19 hl (by decide) rfl (fun ls hl => ?_)
        refine lv_iload X.1 X.2.1 d_By_digits_21 (lv_at hl 0 rfl) ?_
        refine lv_bipush (v := iI 48) X.1 X.2.1 d_By_digits_23 (by decide) ?_
        refine z_icmp_lt (tgt := 35) X.1 X.2.1 d_By_digits_25 (by decide) ⟨by omega, by omega⟩ ⟨by omega, by omega⟩ (fun h109 => ?_) (fun h109 => ?_)
        · refine lv_iconst (v := iI (-1)) X.1 X.2.1 d_By_digits_35 (by decide) ?_
          exact c_reti hQQ X Y hr hlk ⟨rfl, rfl, (-1), rfl, ⟨by omega, by omega⟩⟩ d_By_digits_36
        · refine lv_iload X.1 X.2.1 d_By_digits_28 (lv_at hl 0 rfl) ?_
          refine lv_bipush (v := iI 57) X.1 X.2.1 d_By_digits_30 (by decide) ?_
          refine z_icmp_le (tgt := 37) X.1 X.2.1 d_By_digits_32 (by decide) ⟨by omega, by omega⟩ ⟨by omega, by omega⟩ (fun h110 => ?_) (fun h110 => ?_)
          · refine lv_iload_n X.1 X.2.1 d_By_digits_37 rfl (lv_at hl 4 rfl) ?_
            refine lv_bipush (v := iI 10) X.1 X.2.1 d_By_digits_38 (by decide) ?_
            refine lv_imul X.1 X.2.1 d_By_digits_40 ?_
            refine t_u (fun z111 l111 u111 => ?_)
            refine lv_iload X.1 X.2.1 d_By_digits_41 (lv_at hl 0 rfl) ?_
            refine lv_iadd X.1 X.2.1 d_By_digits_43 ?_
            refine t_u (fun z112 l112 u112 => ?_)
            refine lv_bipush (v := iI 48) X.1 X.2.1 d_By_digits_44 (by decide) ?_
            refine lv_isub X.1 X.2.1 d_By_digits_46 ?_
            refine t_u (fun z113 l113 u113 => ?_)
            refine lv_istore_n (lv' := [(3, .int (iI z113)), (5, .int (iI z108)), (0, .ref h), (1, .int (iI a1)), (2, .int (iI a2)), (4, .int (iI z102))]) X.1 X.2.1 d_By_digits_47 rfl hl (by decide) rfl (fun ls hl => ?_)
            refine lv_iinc (v := iI (z102 + 1)) (lv' := [(4, .int (iI (z102 + 1))), (3, .int (iI z113)), (5, .int (iI z108)), (0, .ref h), (1, .int (iI a1)), (2, .int (iI a2))]) X.1 X.2.1 d_By_digits_48 hl (k := 5) rfl ((iI_add _ _).trans (congrArg iI (by omega))) (by decide) rfl (fun ls hl => ?_)
            refine lv_goto (tgt := 5) X.1 X.2.1 d_By_digits_51 (by decide) ?_
            exact ih104 ((20304 - (z102 + 1)).toNat) (by omega) z113 (z102 + 1) _ _ _ rfl (by omega) (by omega) (by omega) (by omega) Y S (lv_sub hl [3, 4, 5, 1, 0] rfl)
          · refine lv_iconst (v := iI (-1)) X.1 X.2.1 d_By_digits_35 (by decide) ?_
            exact c_reti hQQ X Y hr hlk ⟨rfl, rfl, (-1), rfl, ⟨by omega, by omega⟩⟩ d_By_digits_36
  refine lv_istore (lv' := [(4, .int (iI a1)), (3, .int (iI 0)), (0, .ref h), (1, .int (iI a1)), (2, .int (iI a2))]) X.1 X.2.1 d_By_digits_3 hl (by decide) rfl (fun ls hl => ?_)
  exact J103 _ 0 a1 _ _ _ rfl (by omega) (by omega) (by omega) (by omega) Y S (lv_sub hl [2, 3, 4, 1, 0] rfl)
set_option maxHeartbeats 4000000 in
set_option maxRecDepth 100000 in
theorem c_By_timeAt (l : Launch) (D : va_G) (E : cE) (T : cT) (κ : tK) (L : List Nat) (f : pF) (sz : Nat) (h n0 : Nat) (k0 : κ h = (13, n0)) (x0 : n0 ≤ 12288) (a1 : Int) (l_a1 : (-1) ≤ a1) (u_a1 : a1 ≤ 20200) (hw : tW E T κ L f) : Met l y_By_timeAt (k_By_timeAt :: lw_tg) (kRm 3 106 0 0) (va_Pc [.ref h, .int (iI a1)] (kPre D E T L f sz)) (va_Qi (uPi L f (fun (z : Int) => (-2147483648) ≤ z ∧ z ≤ 2147483647)) (cPost D E (pA L sz)) (pA L sz)) 0 0 (pA L sz) := by
  refine k_enter (own := R_By) (by decide) rfl (Nat.le_of_ble_eq_true rfl) (fun p e s m below meth c ls AV QQ H locs hQQ X Y hA hin hr hlk hml hl KS KR => ?_)
  have hl : lv_has ls 5 [(0, .ref h), (1, .int (iI a1))] := hl
  have S : tS E T (tFr κ L [] []) κ L f κ L f := tS_rf hw
  refine lv_iload_n X.1 X.2.1 d_By_timeAt_0 rfl (lv_at hl 1 rfl) ?_
  refine z_if_ge (tgt := 6) X.1 X.2.1 d_By_timeAt_1 (by decide) ⟨by omega, by omega⟩ (fun h101 => ?_) (fun h101 => ?_)
  · refine lv_aload_n X.1 X.2.1 d_By_timeAt_6 rfl (lv_at hl 0 rfl) ?_
    refine lv_iload_n X.1 X.2.1 d_By_timeAt_7 rfl (lv_at hl 1 rfl) ?_
    obtain ⟨z102, e102, l102, u102⟩ := t_size S k0
    refine t_ui (t_runV (As := [.int (iI a1)]) (rest := []) (n := 1) X Y S k0 hml hl.1 (c_By_body l D E T κ L f H.size h n0 k0 (by omega) a1 (by omega) (by omega) S.1 z102 e102 (by omega) (by omega)) (ok_k X Y hA KS KR) rfl kl_By_By_body ks_By_body kx_By_body ki_By_body ini_By ⟨rfl, rfl⟩ hd_By_body ⟨Nat.le_of_ble_eq_true rfl, Nat.le_of_ble_eq_true rfl⟩ rfl (Nat.le_of_ble_eq_true rfl) d_By_timeAt_8 ⟨Nat.le_of_ble_eq_true rfl, Nat.le_of_ble_eq_true rfl⟩) X Y hA (fun z103 H locs Y p103 => ?_)
    obtain ⟨l103, u103, x103⟩ := p103
    refine lv_istore_n (lv' := [(2, .int (iI z103)), (0, .ref h), (1, .int (iI a1))]) X.1 X.2.1 d_By_timeAt_11 rfl hl (by decide) rfl (fun ls hl => ?_)
    refine lv_aload_n X.1 X.2.1 d_By_timeAt_12 rfl (lv_at hl 1 rfl) ?_
    refine lv_iload_n X.1 X.2.1 d_By_timeAt_13 rfl (lv_at hl 0 rfl) ?_
    refine lv_iconst (v := iI 4) X.1 X.2.1 d_By_timeAt_14 (by decide) ?_
    refine t_ui (t_runV (As := [.int (iI z103), .int (iI 4)]) (rest := []) (n := 2) X Y S k0 hml hl.1 (c_By_digits l D E T κ L f H.size h n0 k0 (by omega) z103 (by omega) (by omega) 4 (by omega) (by omega) S.1) (ok_k X Y hA KS KR) rfl kl_By_By_digits ks_By_digits kx_By_digits ki_By_digits ini_By ⟨rfl, rfl⟩ hd_By_digits ⟨Nat.le_of_ble_eq_true rfl, Nat.le_of_ble_eq_true rfl⟩ rfl (Nat.le_of_ble_eq_true rfl) d_By_timeAt_15 ⟨Nat.le_of_ble_eq_true rfl, Nat.le_of_ble_eq_true rfl⟩) X Y hA (fun z104 H locs Y p104 => ?_)
    obtain ⟨l104, u104⟩ := p104
    refine lv_aload_n X.1 X.2.1 d_By_timeAt_18 rfl (lv_at hl 1 rfl) ?_
    refine lv_iload_n X.1 X.2.1 d_By_timeAt_19 rfl (lv_at hl 0 rfl) ?_
    refine lv_iconst (v := iI 4) X.1 X.2.1 d_By_timeAt_20 (by decide) ?_
    refine z_iadd X.1 X.2.1 d_By_timeAt_21 ?_
    refine lv_iconst (v := iI 2) X.1 X.2.1 d_By_timeAt_22 (by decide) ?_
    refine t_ui (t_runV (As := [.int (iI (z103 + 4)), .int (iI 2)]) (rest := [.int (iI z104)]) (n := 2) X Y S k0 hml hl.1 (c_By_digits l D E T κ L f H.size h n0 k0 (by omega) (z103 + 4) (by omega) (by omega) 2 (by omega) (by omega) S.1) (ok_k X Y hA KS KR) rfl kl_By_By_digits ks_By_digits kx_By_digits ki_By_digits ini_By ⟨rfl, rfl⟩ hd_By_digits ⟨Nat.le_of_ble_eq_true rfl, Nat.le_of_ble_eq_true rfl⟩ rfl (Nat.le_of_ble_eq_true rfl) d_By_timeAt_23 ⟨Nat.le_of_ble_eq_true rfl, Nat.le_of_ble_eq_true rfl⟩) X Y hA (fun z105 H locs Y p105 => ?_)
    obtain ⟨l105, u105⟩ := p105
    refine t_ui (x_runS (As := [.int (iI z104), .int (iI z105)]) (rest := []) (n := 2) X hml hl.1 (c_By_daysBefore l D E T κ L f H.size z104 (by omega) (by omega) z105 (by omega) (by omega) S.1) (ok_k X Y hA KS KR) kl_By_By_daysBefore ks_By_daysBefore ki_By_daysBefore ini_By ⟨rfl, rfl⟩ hd_By_daysBefore.2 ⟨Nat.le_of_ble_eq_true rfl, Nat.le_of_ble_eq_true rfl⟩ rfl (Nat.le_of_ble_eq_true rfl) d_By_timeAt_26 ⟨Nat.le_of_ble_eq_true rfl, Nat.le_of_ble_eq_true rfl⟩) X Y hA (fun z106 H locs Y p106 => ?_)
    obtain ⟨l106, u106⟩ := p106
    refine lv_aload_n X.1 X.2.1 d_By_timeAt_29 rfl (lv_at hl 1 rfl) ?_
    refine lv_iload_n X.1 X.2.1 d_By_timeAt_30 rfl (lv_at hl 0 rfl) ?_
    refine lv_bipush (v := iI 6) X.1 X.2.1 d_By_timeAt_31 (by decide) ?_
    refine z_iadd X.1 X.2.1 d_By_timeAt_33 ?_
    refine lv_iconst (v := iI 2) X.1 X.2.1 d_By_timeAt_34 (by decide) ?_
    refine t_ui (t_runV (As := [.int (iI (z103 + 6)), .int (iI 2)]) (rest := [.int (iI z106)]) (n := 2) X Y S k0 hml hl.1 (c_By_digits l D E T κ L f H.size h n0 k0 (by omega) (z103 + 6) (by omega) (by omega) 2 (by omega) (by omega) S.1) (ok_k X Y hA KS KR) rfl kl_By_By_digits ks_By_digits kx_By_digits ki_By_digits ini_By ⟨rfl, rfl⟩ hd_By_digits ⟨Nat.le_of_ble_eq_true rfl, Nat.le_of_ble_eq_true rfl⟩ rfl (Nat.le_of_ble_eq_true rfl) d_By_timeAt_35 ⟨Nat.le_of_ble_eq_true rfl, Nat.le_of_ble_eq_true rfl⟩) X Y hA (fun z107 H locs Y p107 => ?_)
    obtain ⟨l107, u107⟩ := p107
    refine lv_iadd X.1 X.2.1 d_By_timeAt_38 ?_
    refine t_u (fun z108 l108 u108 => ?_)
    refine lv_iconst (v := iI 1) X.1 X.2.1 d_By_timeAt_39 (by decide) ?_
    refine lv_isub X.1 X.2.1 d_By_timeAt_40 ?_
    refine t_u (fun z109 l109 u109 => ?_)
    refine lv_istore_n (lv' := [(3, .int (iI z109)), (2, .int (iI z103)), (0, .ref h), (1, .int (iI a1))]) X.1 X.2.1 d_By_timeAt_41 rfl hl (by decide) rfl (fun ls hl => ?_)
    refine lv_aload_n X.1 X.2.1 d_By_timeAt_42 rfl (lv_at hl 2 rfl) ?_
    refine lv_iload_n X.1 X.2.1 d_By_timeAt_43 rfl (lv_at hl 1 rfl) ?_
    refine lv_bipush (v := iI 8) X.1 X.2.1 d_By_timeAt_44 (by decide) ?_
    refine z_iadd X.1 X.2.1 d_By_timeAt_46 ?_
    refine lv_iconst (v := iI 2) X.1 X.2.1 d_By_timeAt_47 (by decide) ?_
    refine t_ui (t_runV (As := [.int (iI (z103 + 8)), .int (iI 2)]) (rest := []) (n := 2) X Y S k0 hml hl.1 (c_By_digits l D E T κ L f H.size h n0 k0 (by omega) (z103 + 8) (by omega) (by omega) 2 (by omega) (by omega) S.1) (ok_k X Y hA KS KR) rfl kl_By_By_digits ks_By_digits kx_By_digits ki_By_digits ini_By ⟨rfl, rfl⟩ hd_By_digits ⟨Nat.le_of_ble_eq_true rfl, Nat.le_of_ble_eq_true rfl⟩ rfl (Nat.le_of_ble_eq_true rfl) d_By_timeAt_48 ⟨Nat.le_of_ble_eq_true rfl, Nat.le_of_ble_eq_true rfl⟩) X Y hA (fun z110 H locs Y p110 => ?_)
    obtain ⟨l110, u110⟩ := p110
    refine lv_bipush (v := iI 60) X.1 X.2.1 d_By_timeAt_51 (by decide) ?_
    refine lv_imul X.1 X.2.1 d_By_timeAt_53 ?_
    refine t_u (fun z111 l111 u111 => ?_)
    refine lv_aload_n X.1 X.2.1 d_By_timeAt_54 rfl (lv_at hl 2 rfl) ?_
    refine lv_iload_n X.1 X.2.1 d_By_timeAt_55 rfl (lv_at hl 1 rfl) ?_
    refine lv_bipush (v := iI 10) X.1 X.2.1 d_By_timeAt_56 (by decide) ?_
    refine z_iadd X.1 X.2.1 d_By_timeAt_58 ?_
    refine lv_iconst (v := iI 2) X.1 X.2.1 d_By_timeAt_59 (by decide) ?_
    refine t_ui (t_runV (As := [.int (iI (z103 + 10)), .int (iI 2)]) (rest := [.int (iI z111)]) (n := 2) X Y S k0 hml hl.1 (c_By_digits l D E T κ L f H.size h n0 k0 (by omega) (z103 + 10) (by omega) (by omega) 2 (by omega) (by omega) S.1) (ok_k X Y hA KS KR) rfl kl_By_By_digits ks_By_digits kx_By_digits ki_By_digits ini_By ⟨rfl, rfl⟩ hd_By_digits ⟨Nat.le_of_ble_eq_true rfl, Nat.le_of_ble_eq_true rfl⟩ rfl (Nat.le_of_ble_eq_true rfl) d_By_timeAt_60 ⟨Nat.le_of_ble_eq_true rfl, Nat.le_of_ble_eq_true rfl⟩) X Y hA (fun z112 H locs Y p112 => ?_)
    obtain ⟨l112, u112⟩ := p112
    refine lv_iadd X.1 X.2.1 d_By_timeAt_63 ?_
    refine t_u (fun z113 l113 u113 => ?_)
    refine lv_istore (lv' := [(4, .int (iI z113)), (3, .int (iI z109)), (2, .int (iI z103)), (0, .ref h), (1, .int (iI a1))]) X.1 X.2.1 d_By_timeAt_64 hl (by decide) rfl (fun ls hl => ?_)
    refine lv_iload_n X.1 X.2.1 d_By_timeAt_66 rfl (lv_at hl 1 rfl) ?_
    refine lv_ldc (v := (86400)) X.1 X.2.1 X.2.2.2.1 (X.2.2.1 _ cn_By_101) d_By_timeAt_67 ?_
    refine t_eq (y := iI 86400) (by decide) ?_
    refine lv_imul X.1 X.2.1 d_By_timeAt_69 ?_
    refine t_u (fun z114 l114 u114 => ?_)
    refine lv_iload X.1 X.2.1 d_By_timeAt_70 (lv_at hl 0 rfl) ?_
    refine lv_bipush (v := iI 60) X.1 X.2.1 d_By_timeAt_72 (by decide) ?_
    refine lv_imul X.1 X.2.1 d_By_timeAt_74 ?_
    refine t_u (fun z115 l115 u115 => ?_)
    refine lv_iadd X.1 X.2.1 d_By_timeAt_75 ?_
    refine t_u (fun z116 l116 u116 => ?_)
    refine lv_aload_n X.1 X.2.1 d_By_timeAt_76 rfl (lv_at hl 3 rfl) ?_
    refine lv_iload_n X.1 X.2.1 d_By_timeAt_77 rfl (lv_at hl 2 rfl) ?_
    refine lv_bipush (v := iI 12) X.1 X.2.1 d_By_timeAt_78 (by decide) ?_
    refine z_iadd X.1 X.2.1 d_By_timeAt_80 ?_
    refine lv_iconst (v := iI 2) X.1 X.2.1 d_By_timeAt_81 (by decide) ?_
    refine t_ui (t_runV (As := [.int (iI (z103 + 12)), .int (iI 2)]) (rest := [.int (iI z116)]) (n := 2) X Y S k0 hml hl.1 (c_By_digits l D E T κ L f H.size h n0 k0 (by omega) (z103 + 12) (by omega) (by omega) 2 (by omega) (by omega) S.1) (ok_k X Y hA KS KR) rfl kl_By_By_digits ks_By_digits kx_By_digits ki_By_digits ini_By ⟨rfl, rfl⟩ hd_By_digits ⟨Nat.le_of_ble_eq_true rfl, Nat.le_of_ble_eq_true rfl⟩ rfl (Nat.le_of_ble_eq_true rfl) d_By_timeAt_82 ⟨Nat.le_of_ble_eq_true rfl, Nat.le_of_ble_eq_true rfl⟩) X Y hA (fun z117 H locs Y p117 => ?_)
    obtain ⟨l117, u117⟩ := p117
    refine lv_iadd X.1 X.2.1 d_By_timeAt_85 ?_
    refine t_u (fun z118 l118 u118 => ?_)
    exact c_reti hQQ X Y hr hlk ⟨rfl, rfl, z118, rfl, ⟨by omega, by omega⟩⟩ d_By_timeAt_86
  · refine lv_iconst (v := iI (-1)) X.1 X.2.1 d_By_timeAt_4 (by decide) ?_
    exact c_reti hQQ X Y hr hlk ⟨rfl, rfl, (-1), rfl, ⟨by omega, by omega⟩⟩ d_By_timeAt_5
set_option maxHeartbeats 4000000 in
set_option maxRecDepth 100000 in
theorem c_By_isRealm (l : Launch) (D : va_G) (E : cE) (T : cT) (κ : tK) (L : List Nat) (f : pF) (sz : Nat) (h n0 : Nat) (k0 : κ h = (13, n0)) (x0 : n0 ≤ 12288) (a1 : Int) (l_a1 : (-1) ≤ a1) (u_a1 : a1 ≤ 20200) (hw : tW E T κ L f) : Met l y_By_isRealm (k_By_isRealm :: lw_tg) (kRm 5 114 0 0) (va_Pc [.ref h, .int (iI a1)] (kPre D E T L f sz)) (va_Qi (uPi L f (fun (z : Int) => 0 ≤ z ∧ z ≤ 1)) (cPost D E (pA L sz)) (pA L sz)) 0 0 (pA L sz) := by
  refine k_enter (own := R_By) (by decide) rfl (Nat.le_of_ble_eq_true rfl) (fun p e s m below meth c ls AV QQ H locs hQQ X Y hA hin hr hlk hml hl KS KR => ?_)
  have hl : lv_has ls 2 [(0, .ref h), (1, .int (iI a1))] := hl
  have S : tS E T (tFr κ L [] []) κ L f κ L f := tS_rf hw
  refine lv_iload_n X.1 X.2.1 d_By_isRealm_0 rfl (lv_at hl 1 rfl) ?_
  refine z_if_lt (tgt := 31) X.1 X.2.1 d_By_isRealm_1 (by decide) ⟨by omega, by omega⟩ (fun h101 => ?_) (fun h101 => ?_)
  · refine lv_iconst (v := iI 0) X.1 X.2.1 d_By_isRealm_31 (by decide) ?_
    exact c_retz hQQ X Y hr hlk (iI_bool (by omega) (by omega)).1 ⟨rfl, rfl, 0, rfl, ⟨by omega, by omega⟩⟩ d_By_isRealm_32
  · refine lv_aload_n X.1 X.2.1 d_By_isRealm_4 rfl (lv_at hl 0 rfl) ?_
    refine lv_aload_n X.1 X.2.1 d_By_isRealm_5 rfl (lv_at hl 0 rfl) ?_
    refine lv_iload_n X.1 X.2.1 d_By_isRealm_6 rfl (lv_at hl 1 rfl) ?_
    obtain ⟨z102, e102, l102, u102⟩ := t_size S k0
    refine t_ui (t_runV (As := [.int (iI a1)]) (rest := [.ref h]) (n := 1) X Y S k0 hml hl.1 (c_By_body l D E T κ L f H.size h n0 k0 (by omega) a1 (by omega) (by omega) S.1 z102 e102 (by omega) (by omega)) (ok_k X Y hA KS KR) rfl kl_By_By_body ks_By_body kx_By_body ki_By_body ini_By ⟨rfl, rfl⟩ hd_By_body ⟨Nat.le_of_ble_eq_true rfl, Nat.le_of_ble_eq_true rfl⟩ rfl (Nat.le_of_ble_eq_true rfl) d_By_isRealm_7 ⟨Nat.le_of_ble_eq_true rfl, Nat.le_of_ble_eq_true rfl⟩) X Y hA (fun z103 H locs Y p103 => ?_)
    obtain ⟨l103, u103, x103⟩ := p103
    refine lv_aload_n X.1 X.2.1 d_By_isRealm_10 rfl (lv_at hl 0 rfl) ?_
    refine lv_iload_n X.1 X.2.1 d_By_isRealm_11 rfl (lv_at hl 1 rfl) ?_
    refine lv_aload_n X.1 X.2.1 d_By_isRealm_12 rfl (lv_at hl 0 rfl) ?_
    refine t_get0 (ci := 3) X Y S k0 rfl i_By 1 (by decide) rfl lk_By_21 (fun _ h9 => h9) d_By_isRealm_13 e102 ?_
    refine t_ui (t_runV (As := [.int (iI a1), .int (iI z102)]) (rest := [.int (iI z103), .ref h]) (n := 2) X Y S k0 hml hl.1 (c_By_stop l D E T κ L f H.size h n0 k0 (by omega) a1 (by omega) (by omega) z102 (by omega) (by omega) S.1 z102 e102 (by omega) (by omega)) (ok_k X Y hA KS KR) rfl kl_By_By_stop ks_By_stop kx_By_stop ki_By_stop ini_By ⟨rfl, rfl⟩ hd_By_stop ⟨Nat.le_of_ble_eq_true rfl, Nat.le_of_ble_eq_true rfl⟩ rfl (Nat.le_of_ble_eq_true rfl) d_By_isRealm_16 ⟨Nat.le_of_ble_eq_true rfl, Nat.le_of_ble_eq_true rfl⟩) X Y hA (fun z104 H locs Y p104 => ?_)
    obtain ⟨l104, u104, x104⟩ := p104
    refine k_ldcS (i := 27) X KR (by decide) ⟨by decide, by decide⟩ d_By_isRealm_19 ?_
    refine t_ui (t_runV (As := [.int (iI z103), .int (iI z104), .ref ((T.2.1 27))]) (rest := []) (n := 3) X Y S k0 hml hl.1 (c_By_isText l D E T κ L f H.size h n0 k0 (by omega) z103 (by omega) (by omega) z104 (by omega) (by omega) 27 (show 27 < nY by decide) S.1) (ok_k X Y hA KS KR) rfl kl_By_By_isText ks_By_isText kx_By_isText ki_By_isText ini_By ⟨rfl, rfl⟩ hd_By_isText ⟨Nat.le_of_ble_eq_true rfl, Nat.le_of_ble_eq_true rfl⟩ rfl (Nat.le_of_ble_eq_true rfl) d_By_isRealm_21 ⟨Nat.le_of_ble_eq_true rfl, Nat.le_of_ble_eq_true rfl⟩) X Y hA (fun z105 H locs Y p105 => ?_)
    obtain ⟨l105, u105⟩ := p105
    refine z_if_eq (tgt := 31) X.1 X.2.1 d_By_isRealm_24 (by decide) ⟨by omega, by omega⟩ (fun h106 => ?_) (fun h106 => ?_)
    · refine lv_iconst (v := iI 0) X.1 X.2.1 d_By_isRealm_31 (by decide) ?_
      exact c_retz hQQ X Y hr hlk (iI_bool (by omega) (by omega)).1 ⟨rfl, rfl, 0, rfl, ⟨by omega, by omega⟩⟩ d_By_isRealm_32
    · refine lv_iconst (v := iI 1) X.1 X.2.1 d_By_isRealm_27 (by decide) ?_
      refine lv_goto (tgt := 32) X.1 X.2.1 d_By_isRealm_28 (by decide) ?_
      exact c_retz hQQ X Y hr hlk (iI_bool (by omega) (by omega)).1 ⟨rfl, rfl, 1, rfl, ⟨by omega, by omega⟩⟩ d_By_isRealm_32
set_option maxHeartbeats 4000000 in
set_option maxRecDepth 100000 in
theorem c_By_isNamed (l : Launch) (D : va_G) (E : cE) (T : cT) (κ : tK) (L : List Nat) (f : pF) (sz : Nat) (h n0 : Nat) (k0 : κ h = (13, n0)) (x0 : n0 ≤ 12288) (a1 : Int) (l_a1 : (-1) ≤ a1) (u_a1 : a1 ≤ 20200) (a2 n2 : Nat) (k2 : κ a2 = (13, n2)) (x2 : n2 ≤ 12288) (hw : tW E T κ L f) : Met l y_By_isNamed (k_By_isNamed :: lw_tg) (kRm 3 112 0 0) (va_Pc [.ref h, .int (iI a1), .ref a2] (kPre D E T L f sz)) (va_Qi (uPi L f (fun (z : Int) => 0 ≤ z ∧ z ≤ 1)) (cPost D E (pA L sz)) (pA L sz)) 0 0 (pA L sz) := by
  refine k_enter (own := R_By) (by decide) rfl (Nat.le_of_ble_eq_true rfl) (fun p e s m below meth c ls AV QQ H locs hQQ X Y hA hin hr hlk hml hl KS KR => ?_)
  have hl : lv_has ls 4 [(0, .ref h), (1, .int (iI a1)), (2, .ref a2)] := hl
  have S : tS E T (tFr κ L [] []) κ L f κ L f := tS_rf hw
  refine lv_aload_n X.1 X.2.1 d_By_isNamed_0 rfl (lv_at hl 0 rfl) ?_
  refine lv_iload_n X.1 X.2.1 d_By_isNamed_1 rfl (lv_at hl 1 rfl) ?_
  refine lv_iconst (v := iI 1) X.1 X.2.1 d_By_isNamed_2 (by decide) ?_
  refine t_ui (t_runV (As := [.int (iI a1), .int (iI 1)]) (rest := []) (n := 2) X Y S k0 hml hl.1 (c_By_field l D E T κ L f H.size h n0 k0 (by omega) a1 (by omega) (by omega) 1 (by omega) (by omega) S.1) (ok_k X Y hA KS KR) rfl kl_By_By_field ks_By_field kx_By_field ki_By_field ini_By ⟨rfl, rfl⟩ hd_By_field ⟨Nat.le_of_ble_eq_true rfl, Nat.le_of_ble_eq_true rfl⟩ rfl (Nat.le_of_ble_eq_true rfl) d_By_isNamed_3 ⟨Nat.le_of_ble_eq_true rfl, Nat.le_of_ble_eq_true rfl⟩) X Y hA (fun z101 H locs Y p101 => ?_)
  obtain ⟨l101, u101⟩ := p101
  refine lv_istore_n (lv' := [(3, .int (iI z101)), (0, .ref h), (1, .int (iI a1)), (2, .ref a2)]) X.1 X.2.1 d_By_isNamed_6 rfl hl (by decide) rfl (fun ls hl => ?_)
  refine lv_iload_n X.1 X.2.1 d_By_isNamed_7 rfl (lv_at hl 0 rfl) ?_
  refine z_if_lt (tgt := 42) X.1 X.2.1 d_By_isNamed_8 (by decide) ⟨by omega, by omega⟩ (fun h102 => ?_) (fun h102 => ?_)
  · refine lv_iconst (v := iI 0) X.1 X.2.1 d_By_isNamed_42 (by decide) ?_
    exact c_retz hQQ X Y hr hlk (iI_bool (by omega) (by omega)).1 ⟨rfl, rfl, 0, rfl, ⟨by omega, by omega⟩⟩ d_By_isNamed_43
  · refine lv_aload_n X.1 X.2.1 d_By_isNamed_11 rfl (lv_at hl 1 rfl) ?_
    refine lv_aload_n X.1 X.2.1 d_By_isNamed_12 rfl (lv_at hl 1 rfl) ?_
    refine lv_iload_n X.1 X.2.1 d_By_isNamed_13 rfl (lv_at hl 0 rfl) ?_
    obtain ⟨z103, e103, l103, u103⟩ := t_size S k0
    refine t_ui (t_runV (As := [.int (iI z101)]) (rest := [.ref h]) (n := 1) X Y S k0 hml hl.1 (c_By_body l D E T κ L f H.size h n0 k0 (by omega) z101 (by omega) (by omega) S.1 z103 e103 (by omega) (by omega)) (ok_k X Y hA KS KR) rfl kl_By_By_body ks_By_body kx_By_body ki_By_body ini_By ⟨rfl, rfl⟩ hd_By_body ⟨Nat.le_of_ble_eq_true rfl, Nat.le_of_ble_eq_true rfl⟩ rfl (Nat.le_of_ble_eq_true rfl) d_By_isNamed_14 ⟨Nat.le_of_ble_eq_true rfl, Nat.le_of_ble_eq_true rfl⟩) X Y hA (fun z104 H locs Y p104 => ?_)
    obtain ⟨l104, u104, x104⟩ := p104
    refine lv_aload_n X.1 X.2.1 d_By_isNamed_17 rfl (lv_at hl 1 rfl) ?_
    refine lv_iload_n X.1 X.2.1 d_By_isNamed_18 rfl (lv_at hl 0 rfl) ?_
    refine lv_aload_n X.1 X.2.1 d_By_isNamed_19 rfl (lv_at hl 1 rfl) ?_
    refine t_get0 (ci := 3) X Y S k0 rfl i_By 1 (by decide) rfl lk_By_21 (fun _ h9 => h9) d_By_isNamed_20 e103 ?_
    refine t_ui (t_runV (As := [.int (iI z101), .int (iI z103)]) (rest := [.int (iI z104), .ref h]) (n := 2) X Y S k0 hml hl.1 (c_By_stop l D E T κ L f H.size h n0 k0 (by omega) z101 (by omega) (by omega) z103 (by omega) (by omega) S.1 z103 e103 (by omega) (by omega)) (ok_k X Y hA KS KR) rfl kl_By_By_stop ks_By_stop kx_By_stop ki_By_stop ini_By ⟨rfl, rfl⟩ hd_By_stop ⟨Nat.le_of_ble_eq_true rfl, Nat.le_of_ble_eq_true rfl⟩ rfl (Nat.le_of_ble_eq_true rfl) d_By_isNamed_23 ⟨Nat.le_of_ble_eq_true rfl, Nat.le_of_ble_eq_true rfl⟩) X Y hA (fun z105 H locs Y p105 => ?_)
    obtain ⟨l105, u105, x105⟩ := p105
    refine lv_aload_n X.1 X.2.1 d_By_isNamed_26 rfl (lv_at hl 3 rfl) ?_
    refine lv_iconst (v := iI 0) X.1 X.2.1 d_By_isNamed_27 (by decide) ?_
    refine lv_aload_n X.1 X.2.1 d_By_isNamed_28 rfl (lv_at hl 3 rfl) ?_
    refine t_gets (ci := 3) X Y S k2 rfl i_By 1 (by decide) rfl lk_By_21 (fun _ h9 => h9) d_By_isNamed_29 (fun z106 e106 l106 u106 => ?_)
    refine t_ui (t_runV (As := [.int (iI z104), .int (iI z105), .ref a2, .int (iI 0), .int (iI z106)]) (rest := []) (n := 5) X Y S k0 hml hl.1 (c_By_sameAs l D E T κ L f H.size h n0 k0 (by omega) z104 (by omega) (by omega) z105 (by omega) (by omega) a2 n2 k2 (by omega) 0 (by omega) (by omega) z106 (by omega) (by omega) S.1) (ok_k X Y hA KS KR) rfl kl_By_By_sameAs ks_By_sameAs kx_By_sameAs ki_By_sameAs ini_By ⟨rfl, rfl⟩ hd_By_sameAs ⟨Nat.le_of_ble_eq_true rfl, Nat.le_of_ble_eq_true rfl⟩ rfl (Nat.le_of_ble_eq_true rfl) d_By_isNamed_32 ⟨Nat.le_of_ble_eq_true rfl, Nat.le_of_ble_eq_true rfl⟩) X Y hA (fun z107 H locs Y p107 => ?_)
    obtain ⟨l107, u107⟩ := p107
    refine z_if_eq (tgt := 42) X.1 X.2.1 d_By_isNamed_35 (by decide) ⟨by omega, by omega⟩ (fun h108 => ?_) (fun h108 => ?_)
    · refine lv_iconst (v := iI 0) X.1 X.2.1 d_By_isNamed_42 (by decide) ?_
      exact c_retz hQQ X Y hr hlk (iI_bool (by omega) (by omega)).1 ⟨rfl, rfl, 0, rfl, ⟨by omega, by omega⟩⟩ d_By_isNamed_43
    · refine lv_iconst (v := iI 1) X.1 X.2.1 d_By_isNamed_38 (by decide) ?_
      refine lv_goto (tgt := 43) X.1 X.2.1 d_By_isNamed_39 (by decide) ?_
      exact c_retz hQQ X Y hr hlk (iI_bool (by omega) (by omega)).1 ⟨rfl, rfl, 1, rfl, ⟨by omega, by omega⟩⟩ d_By_isNamed_43
set_option maxHeartbeats 4000000 in
set_option maxRecDepth 100000 in
theorem c_By_sameParts (l : Launch) (D : va_G) (E : cE) (T : cT) (κ : tK) (L : List Nat) (f : pF) (sz : Nat) (h n0 : Nat) (k0 : κ h = (13, n0)) (x0 : n0 ≤ 12288) (a1 : Int) (l_a1 : (-1) ≤ a1) (u_a1 : a1 ≤ 20200) (a2 n2 : Nat) (k2 : κ a2 = (13, n2)) (x2 : n2 ≤ 12288) (a3 : Int) (l_a3 : (-1) ≤ a3) (u_a3 : a3 ≤ 20200) (hw : tW E T κ L f) : Met l y_By_sameParts (k_By_sameParts :: lw_tg) (kRm 3 112 0 0) (va_Pc [.ref h, .int (iI a1), .ref a2, .int (iI a3)] (kPre D E T L f sz)) (va_Qi (uPi L f (fun (z : Int) => 0 ≤ z ∧ z ≤ 1)) (cPost D E (pA L sz)) (pA L sz)) 0 0 (pA L sz) := by
  refine k_enter (own := R_By) (by decide) rfl (Nat.le_of_ble_eq_true rfl) (fun p e s m below meth c ls AV QQ H locs hQQ X Y hA hin hr hlk hml hl KS KR => ?_)
  have hl : lv_has ls 6 [(0, .ref h), (1, .int (iI a1)), (2, .ref a2), (3, .int (iI a3))] := hl
  have S : tS E T (tFr κ L [] []) κ L f κ L f := tS_rf hw
  refine lv_aload_n X.1 X.2.1 d_By_sameParts_0 rfl (lv_at hl 0 rfl) ?_
  refine lv_iload_n X.1 X.2.1 d_By_sameParts_1 rfl (lv_at hl 1 rfl) ?_
  refine lv_iconst (v := iI 1) X.1 X.2.1 d_By_sameParts_2 (by decide) ?_
  refine t_ui (t_runV (As := [.int (iI a1), .int (iI 1)]) (rest := []) (n := 2) X Y S k0 hml hl.1 (c_By_field l D E T κ L f H.size h n0 k0 (by omega) a1 (by omega) (by omega) 1 (by omega) (by omega) S.1) (ok_k X Y hA KS KR) rfl kl_By_By_field ks_By_field kx_By_field ki_By_field ini_By ⟨rfl, rfl⟩ hd_By_field ⟨Nat.le_of_ble_eq_true rfl, Nat.le_of_ble_eq_true rfl⟩ rfl (Nat.le_of_ble_eq_true rfl) d_By_sameParts_3 ⟨Nat.le_of_ble_eq_true rfl, Nat.le_of_ble_eq_true rfl⟩) X Y hA (fun z101 H locs Y p101 => ?_)
  obtain ⟨l101, u101⟩ := p101
  refine lv_istore (lv' := [(4, .int (iI z101)), (0, .ref h), (1, .int (iI a1)), (2, .ref a2), (3, .int (iI a3))]) X.1 X.2.1 d_By_sameParts_6 hl (by decide) rfl (fun ls hl => ?_)
  refine lv_aload_n X.1 X.2.1 d_By_sameParts_8 rfl (lv_at hl 3 rfl) ?_
  refine lv_iload_n X.1 X.2.1 d_By_sameParts_9 rfl (lv_at hl 4 rfl) ?_
  refine lv_iconst (v := iI 1) X.1 X.2.1 d_By_sameParts_10 (by decide) ?_
  refine t_ui (t_runV (As := [.int (iI a3), .int (iI 1)]) (rest := []) (n := 2) X Y S k2 hml hl.1 (c_By_field l D E T κ L f H.size a2 n2 k2 (by omega) a3 (by omega) (by omega) 1 (by omega) (by omega) S.1) (ok_k X Y hA KS KR) rfl kl_By_By_field ks_By_field kx_By_field ki_By_field ini_By ⟨rfl, rfl⟩ hd_By_field ⟨Nat.le_of_ble_eq_true rfl, Nat.le_of_ble_eq_true rfl⟩ rfl (Nat.le_of_ble_eq_true rfl) d_By_sameParts_11 ⟨Nat.le_of_ble_eq_true rfl, Nat.le_of_ble_eq_true rfl⟩) X Y hA (fun z102 H locs Y p102 => ?_)
  obtain ⟨l102, u102⟩ := p102
  refine lv_istore (lv' := [(5, .int (iI z102)), (4, .int (iI z101)), (0, .ref h), (1, .int (iI a1)), (2, .ref a2), (3, .int (iI a3))]) X.1 X.2.1 d_By_sameParts_14 hl (by decide) rfl (fun ls hl => ?_)
  refine lv_iload X.1 X.2.1 d_By_sameParts_16 (lv_at hl 1 rfl) ?_
  refine z_if_lt (tgt := 62) X.1 X.2.1 d_By_sameParts_18 (by decide) ⟨by omega, by omega⟩ (fun h103 => ?_) (fun h103 => ?_)
  · refine lv_iconst (v := iI 0) X.1 X.2.1 d_By_sameParts_62 (by decide) ?_
    exact c_retz hQQ X Y hr hlk (iI_bool (by omega) (by omega)).1 ⟨rfl, rfl, 0, rfl, ⟨by omega, by omega⟩⟩ d_By_sameParts_63
  · refine lv_iload X.1 X.2.1 d_By_sameParts_21 (lv_at hl 0 rfl) ?_
    refine z_if_lt (tgt := 62) X.1 X.2.1 d_By_sameParts_23 (by decide) ⟨by omega, by omega⟩ (fun h104 => ?_) (fun h104 => ?_)
    · refine lv_iconst (v := iI 0) X.1 X.2.1 d_By_sameParts_62 (by decide) ?_
      exact c_retz hQQ X Y hr hlk (iI_bool (by omega) (by omega)).1 ⟨rfl, rfl, 0, rfl, ⟨by omega, by omega⟩⟩ d_By_sameParts_63
    · refine lv_aload_n X.1 X.2.1 d_By_sameParts_26 rfl (lv_at hl 2 rfl) ?_
      refine lv_iload X.1 X.2.1 d_By_sameParts_27 (lv_at hl 1 rfl) ?_
      refine lv_aload_n X.1 X.2.1 d_By_sameParts_29 rfl (lv_at hl 2 rfl) ?_
      refine lv_iload X.1 X.2.1 d_By_sameParts_30 (lv_at hl 1 rfl) ?_
      refine lv_aload_n X.1 X.2.1 d_By_sameParts_32 rfl (lv_at hl 2 rfl) ?_
      refine t_gets (ci := 3) X Y S k0 rfl i_By 1 (by decide) rfl lk_By_21 (fun _ h9 => h9) d_By_sameParts_33 (fun z105 e105 l105 u105 => ?_)
      refine t_ui (t_runV (As := [.int (iI z101), .int (iI z105)]) (rest := [.int (iI z101), .ref h]) (n := 2) X Y S k0 hml hl.1 (c_By_stop l D E T κ L f H.size h n0 k0 (by omega) z101 (by omega) (by omega) z105 (by omega) (by omega) S.1 z105 e105 (by omega) (by omega)) (ok_k X Y hA KS KR) rfl kl_By_By_stop ks_By_stop kx_By_stop ki_By_stop ini_By ⟨rfl, rfl⟩ hd_By_stop ⟨Nat.le_of_ble_eq_true rfl, Nat.le_of_ble_eq_true rfl⟩ rfl (Nat.le_of_ble_eq_true rfl) d_By_sameParts_36 ⟨Nat.le_of_ble_eq_true rfl, Nat.le_of_ble_eq_true rfl⟩) X Y hA (fun z106 H locs Y p106 => ?_)
      obtain ⟨l106, u106, x106⟩ := p106
      refine lv_aload_n X.1 X.2.1 d_By_sameParts_39 rfl (lv_at hl 4 rfl) ?_
      refine lv_iload X.1 X.2.1 d_By_sameParts_40 (lv_at hl 0 rfl) ?_
      refine lv_aload_n X.1 X.2.1 d_By_sameParts_42 rfl (lv_at hl 4 rfl) ?_
      refine lv_iload X.1 X.2.1 d_By_sameParts_43 (lv_at hl 0 rfl) ?_
      refine lv_aload_n X.1 X.2.1 d_By_sameParts_45 rfl (lv_at hl 4 rfl) ?_
      refine t_gets (ci := 3) X Y S k2 rfl i_By 1 (by decide) rfl lk_By_21 (fun _ h9 => h9) d_By_sameParts_46 (fun z107 e107 l107 u107 => ?_)
      refine t_ui (t_runV (As := [.int (iI z102), .int (iI z107)]) (rest := [.int (iI z102), .ref a2, .int (iI z106), .int (iI z101), .ref h]) (n := 2) X Y S k2 hml hl.1 (c_By_stop l D E T κ L f H.size a2 n2 k2 (by omega) z102 (by omega) (by omega) z107 (by omega) (by omega) S.1 z107 e107 (by omega) (by omega)) (ok_k X Y hA KS KR) rfl kl_By_By_stop ks_By_stop kx_By_stop ki_By_stop ini_By ⟨rfl, rfl⟩ hd_By_stop ⟨Nat.le_of_ble_eq_true rfl, Nat.le_of_ble_eq_true rfl⟩ rfl (Nat.le_of_ble_eq_true rfl) d_By_sameParts_49 ⟨Nat.le_of_ble_eq_true rfl, Nat.le_of_ble_eq_true rfl⟩) X Y hA (fun z108 H locs Y p108 => ?_)
      obtain ⟨l108, u108, x108⟩ := p108
      refine t_ui (t_runV (As := [.int (iI z101), .int (iI z106), .ref a2, .int (iI z102), .int (iI z108)]) (rest := []) (n := 5) X Y S k0 hml hl.1 (c_By_sameAs l D E T κ L f H.size h n0 k0 (by omega) z101 (by omega) (by omega) z106 (by omega) (by omega) a2 n2 k2 (by omega) z102 (by omega) (by omega) z108 (by omega) (by omega) S.1) (ok_k X Y hA KS KR) rfl kl_By_By_sameAs ks_By_sameAs kx_By_sameAs ki_By_sameAs ini_By ⟨rfl, rfl⟩ hd_By_sameAs ⟨Nat.le_of_ble_eq_true rfl, Nat.le_of_ble_eq_true rfl⟩ rfl (Nat.le_of_ble_eq_true rfl) d_By_sameParts_52 ⟨Nat.le_of_ble_eq_true rfl, Nat.le_of_ble_eq_true rfl⟩) X Y hA (fun z109 H locs Y p109 => ?_)
      obtain ⟨l109, u109⟩ := p109
      refine z_if_eq (tgt := 62) X.1 X.2.1 d_By_sameParts_55 (by decide) ⟨by omega, by omega⟩ (fun h110 => ?_) (fun h110 => ?_)
      · refine lv_iconst (v := iI 0) X.1 X.2.1 d_By_sameParts_62 (by decide) ?_
        exact c_retz hQQ X Y hr hlk (iI_bool (by omega) (by omega)).1 ⟨rfl, rfl, 0, rfl, ⟨by omega, by omega⟩⟩ d_By_sameParts_63
      · refine lv_iconst (v := iI 1) X.1 X.2.1 d_By_sameParts_58 (by decide) ?_
        refine lv_goto (tgt := 63) X.1 X.2.1 d_By_sameParts_59 (by decide) ?_
        exact c_retz hQQ X Y hr hlk (iI_bool (by omega) (by omega)).1 ⟨rfl, rfl, 1, rfl, ⟨by omega, by omega⟩⟩ d_By_sameParts_63
set_option maxHeartbeats 4000000 in
set_option maxRecDepth 100000 in
theorem c_By_partsSize (l : Launch) (D : va_G) (E : cE) (T : cT) (κ : tK) (L : List Nat) (f : pF) (sz : Nat) (h n0 : Nat) (k0 : κ h = (13, n0)) (x0 : n0 ≤ 12288) (a1 : Int) (l_a1 : (-1) ≤ a1) (u_a1 : a1 ≤ 20200) (hw : tW E T κ L f) : Met l y_By_partsSize (k_By_partsSize :: lw_tg) (kRm 3 112 0 0) (va_Pc [.ref h, .int (iI a1)] (kPre D E T L f sz)) (va_Qi (uPi L f (fun (z : Int) => (-12430) ≤ z ∧ z ≤ 12430)) (cPost D E (pA L sz)) (pA L sz)) 0 0 (pA L sz) := by
  refine k_enter (own := R_By) (by decide) rfl (Nat.le_of_ble_eq_true rfl) (fun p e s m below meth c ls AV QQ H locs hQQ X Y hA hin hr hlk hml hl KS KR => ?_)
  have hl : lv_has ls 3 [(0, .ref h), (1, .int (iI a1))] := hl
  have S : tS E T (tFr κ L [] []) κ L f κ L f := tS_rf hw
  refine lv_aload_n X.1 X.2.1 d_By_partsSize_0 rfl (lv_at hl 0 rfl) ?_
  refine lv_iload_n X.1 X.2.1 d_By_partsSize_1 rfl (lv_at hl 1 rfl) ?_
  refine lv_iconst (v := iI 1) X.1 X.2.1 d_By_partsSize_2 (by decide) ?_
  refine t_ui (t_runV (As := [.int (iI a1), .int (iI 1)]) (rest := []) (n := 2) X Y S k0 hml hl.1 (c_By_field l D E T κ L f H.size h n0 k0 (by omega) a1 (by omega) (by omega) 1 (by omega) (by omega) S.1) (ok_k X Y hA KS KR) rfl kl_By_By_field ks_By_field kx_By_field ki_By_field ini_By ⟨rfl, rfl⟩ hd_By_field ⟨Nat.le_of_ble_eq_true rfl, Nat.le_of_ble_eq_true rfl⟩ rfl (Nat.le_of_ble_eq_true rfl) d_By_partsSize_3 ⟨Nat.le_of_ble_eq_true rfl, Nat.le_of_ble_eq_true rfl⟩) X Y hA (fun z101 H locs Y p101 => ?_)
  obtain ⟨l101, u101⟩ := p101
  refine lv_istore_n (lv' := [(2, .int (iI z101)), (0, .ref h), (1, .int (iI a1))]) X.1 X.2.1 d_By_partsSize_6 rfl hl (by decide) rfl (fun ls hl => ?_)
  refine lv_aload_n X.1 X.2.1 d_By_partsSize_7 rfl (lv_at hl 1 rfl) ?_
  refine lv_iload_n X.1 X.2.1 d_By_partsSize_8 rfl (lv_at hl 0 rfl) ?_
  refine lv_aload_n X.1 X.2.1 d_By_partsSize_9 rfl (lv_at hl 1 rfl) ?_
  refine t_gets (ci := 3) X Y S k0 rfl i_By 1 (by decide) rfl lk_By_21 (fun _ h9 => h9) d_By_partsSize_10 (fun z102 e102 l102 u102 => ?_)
  refine t_ui (t_runV (As := [.int (iI z101), .int (iI z102)]) (rest := []) (n := 2) X Y S k0 hml hl.1 (c_By_stop l D E T κ L f H.size h n0 k0 (by omega) z101 (by omega) (by omega) z102 (by omega) (by omega) S.1 z102 e102 (by omega) (by omega)) (ok_k X Y hA KS KR) rfl kl_By_By_stop ks_By_stop kx_By_stop ki_By_stop ini_By ⟨rfl, rfl⟩ hd_By_stop ⟨Nat.le_of_ble_eq_true rfl, Nat.le_of_ble_eq_true rfl⟩ rfl (Nat.le_of_ble_eq_true rfl) d_By_partsSize_13 ⟨Nat.le_of_ble_eq_true rfl, Nat.le_of_ble_eq_true rfl⟩) X Y hA (fun z103 H locs Y p103 => ?_)
  obtain ⟨l103, u103, x103⟩ := p103
  refine lv_aload_n X.1 X.2.1 d_By_partsSize_16 rfl (lv_at hl 1 rfl) ?_
  refine lv_iload_n X.1 X.2.1 d_By_partsSize_17 rfl (lv_at hl 0 rfl) ?_
  refine t_ui (t_runV (As := [.int (iI z101)]) (rest := [.int (iI z103)]) (n := 1) X Y S k0 hml hl.1 (c_By_body l D E T κ L f H.size h n0 k0 (by omega) z101 (by omega) (by omega) S.1 z102 e102 (by omega) (by omega)) (ok_k X Y hA KS KR) rfl kl_By_By_body ks_By_body kx_By_body ki_By_body ini_By ⟨rfl, rfl⟩ hd_By_body ⟨Nat.le_of_ble_eq_true rfl, Nat.le_of_ble_eq_true rfl⟩ rfl (Nat.le_of_ble_eq_true rfl) d_By_partsSize_18 ⟨Nat.le_of_ble_eq_true rfl, Nat.le_of_ble_eq_true rfl⟩) X Y hA (fun z104 H locs Y p104 => ?_)
  obtain ⟨l104, u104, x104⟩ := p104
  refine z_isub X.1 X.2.1 d_By_partsSize_21 ?_
  exact c_reti hQQ X Y hr hlk ⟨rfl, rfl, z103 - z104, rfl, ⟨by omega, by omega⟩⟩ d_By_partsSize_22
set_option maxHeartbeats 4000000 in
set_option maxRecDepth 100000 in
theorem c_By_isNumber (l : Launch) (D : va_G) (E : cE) (T : cT) (κ : tK) (L : List Nat) (f : pF) (sz : Nat) (h n0 : Nat) (k0 : κ h = (13, n0)) (x0 : n0 ≤ 12288) (a1 : Int) (l_a1 : (-1) ≤ a1) (u_a1 : a1 ≤ 20200) (a2 : Int) (l_a2 : (-1) ≤ a2) (u_a2 : a2 ≤ 20200) (a3 : Int64) (a4 : Int64) (hw : tW E T κ L f) : Met l y_By_isNumber (k_By_isNumber :: lw_tg) (kRm 2 85 0 0) (va_Pc [.ref h, .int (iI a1), .int (iI a2), .long a3, .long a4] (kPre D E T L f sz)) (va_Qi (uPi L f (fun (z : Int) => 0 ≤ z ∧ z ≤ 1)) (cPost D E (pA L sz)) (pA L sz)) 0 0 (pA L sz) := by
  refine k_enter (own := R_By) (by decide) rfl (Nat.le_of_ble_eq_true rfl) (fun p e s m below meth c ls AV QQ H locs hQQ X Y hA hin hr hlk hml hl KS KR => ?_)
  have hl : lv_has ls 9 [(0, .ref h), (1, .int (iI a1)), (2, .int (iI a2)), (3, .long a3), (5, .long a4)] := hl
  have S : tS E T (tFr κ L [] []) κ L f κ L f := tS_rf hw
  refine lv_iload_n X.1 X.2.1 d_By_isNumber_0 rfl (lv_at hl 1 rfl) ?_
  refine z_if_lt (tgt := 24) X.1 X.2.1 d_By_isNumber_1 (by decide) ⟨by omega, by omega⟩ (fun h101 => ?_) (fun h101 => ?_)
  · refine lv_iconst (v := iI 0) X.1 X.2.1 d_By_isNumber_24 (by decide) ?_
    exact c_retz hQQ X Y hr hlk (iI_bool (by omega) (by omega)).1 ⟨rfl, rfl, 0, rfl, ⟨by omega, by omega⟩⟩ d_By_isNumber_25
  · refine lv_iload_n X.1 X.2.1 d_By_isNumber_4 rfl (lv_at hl 2 rfl) ?_
    refine lv_iload_n X.1 X.2.1 d_By_isNumber_5 rfl (lv_at hl 1 rfl) ?_
    refine z_icmp_le (tgt := 24) X.1 X.2.1 d_By_isNumber_6 (by decide) ⟨by omega, by omega⟩ ⟨by omega, by omega⟩ (fun h102 => ?_) (fun h102 => ?_)
    · refine lv_iconst (v := iI 0) X.1 X.2.1 d_By_isNumber_24 (by decide) ?_
      exact c_retz hQQ X Y hr hlk (iI_bool (by omega) (by omega)).1 ⟨rfl, rfl, 0, rfl, ⟨by omega, by omega⟩⟩ d_By_isNumber_25
    · refine lv_iload_n X.1 X.2.1 d_By_isNumber_9 rfl (lv_at hl 2 rfl) ?_
      refine lv_iload_n X.1 X.2.1 d_By_isNumber_10 rfl (lv_at hl 1 rfl) ?_
      refine z_isub X.1 X.2.1 d_By_isNumber_11 ?_
      refine lv_iconst (v := iI 5) X.1 X.2.1 d_By_isNumber_12 (by decide) ?_
      refine z_icmp_gt (tgt := 24) X.1 X.2.1 d_By_isNumber_13 (by decide) ⟨by omega, by omega⟩ ⟨by omega, by omega⟩ (fun h103 => ?_) (fun h103 => ?_)
      · refine lv_iconst (v := iI 0) X.1 X.2.1 d_By_isNumber_24 (by decide) ?_
        exact c_retz hQQ X Y hr hlk (iI_bool (by omega) (by omega)).1 ⟨rfl, rfl, 0, rfl, ⟨by omega, by omega⟩⟩ d_By_isNumber_25
      · refine lv_iload_n X.1 X.2.1 d_By_isNumber_16 rfl (lv_at hl 2 rfl) ?_
        refine lv_aload_n X.1 X.2.1 d_By_isNumber_17 rfl (lv_at hl 0 rfl) ?_
        refine t_gets (ci := 3) X Y S k0 rfl i_By 1 (by decide) rfl lk_By_21 (fun _ h9 => h9) d_By_isNumber_18 (fun z104 e104 l104 u104 => ?_)
        refine z_icmp_le (tgt := 26) X.1 X.2.1 d_By_isNumber_21 (by decide) ⟨by omega, by omega⟩ ⟨by omega, by omega⟩ (fun h105 => ?_) (fun h105 => ?_)
        · refine lv_iload_n X.1 X.2.1 d_By_isNumber_26 rfl (lv_at hl 2 rfl) ?_
          refine lv_iload_n X.1 X.2.1 d_By_isNumber_27 rfl (lv_at hl 1 rfl) ?_
          refine z_isub X.1 X.2.1 d_By_isNumber_28 ?_
          refine lv_iconst (v := iI 1) X.1 X.2.1 d_By_isNumber_29 (by decide) ?_
          have J106 : ∀  (H : Heap) (locs : List Loc) (ls : Array Slot), pH D cCl (pA L sz) s.heap L f H locs → tS E T (tFr κ L [] []) κ L f κ L f → lv_has ls 9 [(0, .ref h), (1, .int (iI a1)), (2, .int (iI a2)), (3, .long a3), (5, .long a4)] → W p l e (kRm 2 85 0 0) s m AV below meth c H locs 0 0 QQ (F0 m 76 ls []) := by
            intro  H locs ls  Y S hl
            refine lv_aload_n X.1 X.2.1 d_By_isNumber_76 rfl (lv_at hl 0 rfl) ?_
            refine lv_iload_n X.1 X.2.1 d_By_isNumber_77 rfl (lv_at hl 1 rfl) ?_
            refine lv_iload_n X.1 X.2.1 d_By_isNumber_78 rfl (lv_at hl 2 rfl) ?_
            refine t_ul (t_runV (As := [.int (iI a1), .int (iI a2)]) (rest := []) (n := 2) X Y S k0 hml hl.1 (c_By_number l D E T κ L f H.size h n0 k0 (by omega) a1 (by omega) (by omega) a2 (by omega) (by omega) S.1 (by omega)) (ok_k X Y hA KS KR) rfl kl_By_By_number ks_By_number kx_By_number ki_By_number ini_By ⟨rfl, rfl⟩ hd_By_number ⟨Nat.le_of_ble_eq_true rfl, Nat.le_of_ble_eq_true rfl⟩ rfl (Nat.le_of_ble_eq_true rfl) d_By_isNumber_79 ⟨Nat.le_of_ble_eq_true rfl, Nat.le_of_ble_eq_true rfl⟩) X Y hA (fun v110 H locs Y p110 => ?_)
            refine lv_lstore (lv' := [(7, .long v110), (0, .ref h), (1, .int (iI a1)), (2, .int (iI a2)), (3, .long a3), (5, .long a4)]) X.1 X.2.1 d_By_isNumber_82 hl (by decide) rfl (fun ls hl => ?_)
            refine lv_lload X.1 X.2.1 d_By_isNumber_84 (lv_at hl 0 rfl) ?_
            refine lv_lload_n X.1 X.2.1 d_By_isNumber_86 rfl (lv_at hl 4 rfl) ?_
            refine W.lcmp X.1 X.2.1 d_By_isNumber_87 ?_
            refine t_u (fun z111 l111 u111 => ?_)
            refine z_if_lt (tgt := 103) X.1 X.2.1 d_By_isNumber_88 (by decide) ⟨by omega, by omega⟩ (fun h112 => ?_) (fun h112 => ?_)
            · refine lv_iconst (v := iI 0) X.1 X.2.1 d_By_isNumber_103 (by decide) ?_
              exact c_retz hQQ X Y hr hlk (iI_bool (by omega) (by omega)).1 ⟨rfl, rfl, 0, rfl, ⟨by omega, by omega⟩⟩ d_By_isNumber_104
            · refine lv_lload X.1 X.2.1 d_By_isNumber_91 (lv_at hl 0 rfl) ?_
              refine lv_lload X.1 X.2.1 d_By_isNumber_93 (lv_at hl 5 rfl) ?_
              refine W.lcmp X.1 X.2.1 d_By_isNumber_95 ?_
              refine t_u (fun z113 l113 u113 => ?_)
              refine z_if_gt (tgt := 103) X.1 X.2.1 d_By_isNumber_96 (by decide) ⟨by omega, by omega⟩ (fun h114 => ?_) (fun h114 => ?_)
              · refine lv_iconst (v := iI 0) X.1 X.2.1 d_By_isNumber_103 (by decide) ?_
                exact c_retz hQQ X Y hr hlk (iI_bool (by omega) (by omega)).1 ⟨rfl, rfl, 0, rfl, ⟨by omega, by omega⟩⟩ d_By_isNumber_104
              · refine lv_iconst (v := iI 1) X.1 X.2.1 d_By_isNumber_99 (by decide) ?_
                refine lv_goto (tgt := 104) X.1 X.2.1 d_By_isNumber_100 (by decide) ?_
                exact c_retz hQQ X Y hr hlk (iI_bool (by omega) (by omega)).1 ⟨rfl, rfl, 1, rfl, ⟨by omega, by omega⟩⟩ d_By_isNumber_104
          refine z_icmp_le (tgt := 76) X.1 X.2.1 d_By_isNumber_30 (by decide) ⟨by omega, by omega⟩ ⟨by omega, by omega⟩ (fun h115 => ?_) (fun h115 => ?_)
          · exact J106  _ _ _  Y S (lv_sub hl [0, 1, 2, 3, 4] rfl)
          · refine lv_aload_n X.1 X.2.1 d_By_isNumber_33 rfl (lv_at hl 0 rfl) ?_
            refine t_getrow (ci := 3) X Y S k0 rfl i_By 0 (by decide) rfl lk_By_15 (fun _ h9 => h9) d_By_isNumber_34 (fun b116 e116 k116 => ?_)
            refine lv_iload_n X.1 X.2.1 d_By_isNumber_37 rfl (lv_at hl 1 rfl) ?_
            refine t_bald X Y S (Or.inl k116) (by omega) (by omega) (by omega) d_By_isNumber_38 (fun z117 l117 u117 => ?_)
            have J118 : ∀  (H : Heap) (locs : List Loc) (ls : Array Slot), pH D cCl (pA L sz) s.heap L f H locs → tS E T (tFr κ L [] []) κ L f κ L f → lv_has ls 9 [(0, .ref h), (1, .int (iI a1)), (2, .int (iI a2)), (3, .long a3), (5, .long a4)] → W p l e (kRm 2 85 0 0) s m AV below meth c H locs 0 0 QQ (F0 m 53 ls []) := by
              intro  H locs ls  Y S hl
              refine lv_aload_n X.1 X.2.1 d_By_isNumber_53 rfl (lv_at hl 0 rfl) ?_
              refine t_get0 (ci := 3) X Y S k0 rfl i_By 0 (by decide) rfl lk_By_15 (fun _ h9 => h9) d_By_isNumber_54 e116 ?_
              refine lv_iload_n X.1 X.2.1 d_By_isNumber_57 rfl (lv_at hl 1 rfl) ?_
              refine t_bald X Y S (Or.inl k116) (by omega) (by omega) (by omega) d_By_isNumber_58 (fun z122 l122 u122 => ?_)
              refine lv_iconst (v := iI (-1)) X.1 X.2.1 d_By_isNumber_59 (by decide) ?_
              refine z_icmp_ne (tgt := 76) X.1 X.2.1 d_By_isNumber_60 (by decide) ⟨by omega, by omega⟩ ⟨by omega, by omega⟩ (fun h123 => ?_) (fun h123 => ?_)
              · exact J106  _ _ _  Y S (lv_sub hl [0, 1, 2, 3, 4] rfl)
              · refine lv_aload_n X.1 X.2.1 d_By_isNumber_63 rfl (lv_at hl 0 rfl) ?_
                refine t_get0 (ci := 3) X Y S k0 rfl i_By 0 (by decide) rfl lk_By_15 (fun _ h9 => h9) d_By_isNumber_64 e116 ?_
                refine lv_iload_n X.1 X.2.1 d_By_isNumber_67 rfl (lv_at hl 1 rfl) ?_
                refine lv_iconst (v := iI 1) X.1 X.2.1 d_By_isNumber_68 (by decide) ?_
                refine z_iadd X.1 X.2.1 d_By_isNumber_69 ?_
                refine t_bald X Y S (Or.inl k116) (by omega) (by omega) (by omega) d_By_isNumber_70 (fun z124 l124 u124 => ?_)
                refine z_if_ge (tgt := 76) X.1 X.2.1 d_By_isNumber_71 (by decide) ⟨by omega, by omega⟩ (fun h125 => ?_) (fun h125 => ?_)
                · exact J106  _ _ _  Y S (lv_sub hl [0, 1, 2, 3, 4] rfl)
                · refine lv_iconst (v := iI 0) X.1 X.2.1 d_By_isNumber_74 (by decide) ?_
                  exact c_retz hQQ X Y hr hlk (iI_bool (by omega) (by omega)).1 ⟨rfl, rfl, 0, rfl, ⟨by omega, by omega⟩⟩ d_By_isNumber_75
            refine z_if_ne (tgt := 53) X.1 X.2.1 d_By_isNumber_39 (by decide) ⟨by omega, by omega⟩ (fun h126 => ?_) (fun h126 => ?_)
            · exact J118  _ _ _  Y S (lv_sub hl [0, 1, 2, 3, 4] rfl)
            · refine lv_aload_n X.1 X.2.1 d_By_isNumber_42 rfl (lv_at hl 0 rfl) ?_
              refine t_get0 (ci := 3) X Y S k0 rfl i_By 0 (by decide) rfl lk_By_15 (fun _ h9 => h9) d_By_isNumber_43 e116 ?_
              refine lv_iload_n X.1 X.2.1 d_By_isNumber_46 rfl (lv_at hl 1 rfl) ?_
              refine lv_iconst (v := iI 1) X.1 X.2.1 d_By_isNumber_47 (by decide) ?_
              refine z_iadd X.1 X.2.1 d_By_isNumber_48 ?_
              refine t_bald X Y S (Or.inl k116) (by omega) (by omega) (by omega) d_By_isNumber_49 (fun z127 l127 u127 => ?_)
              refine z_if_ge (tgt := 74) X.1 X.2.1 d_By_isNumber_50 (by decide) ⟨by omega, by omega⟩ (fun h128 => ?_) (fun h128 => ?_)
              · refine lv_iconst (v := iI 0) X.1 X.2.1 d_By_isNumber_74 (by decide) ?_
                exact c_retz hQQ X Y hr hlk (iI_bool (by omega) (by omega)).1 ⟨rfl, rfl, 0, rfl, ⟨by omega, by omega⟩⟩ d_By_isNumber_75
              · exact J118  _ _ _  Y S (lv_sub hl [0, 1, 2, 3, 4] rfl)
        · refine lv_iconst (v := iI 0) X.1 X.2.1 d_By_isNumber_24 (by decide) ?_
          exact c_retz hQQ X Y hr hlk (iI_bool (by omega) (by omega)).1 ⟨rfl, rfl, 0, rfl, ⟨by omega, by omega⟩⟩ d_By_isNumber_25
set_option maxHeartbeats 4000000 in
set_option maxRecDepth 100000 in
theorem c_By_isTime (l : Launch) (D : va_G) (E : cE) (T : cT) (κ : tK) (L : List Nat) (f : pF) (sz : Nat) (h n0 : Nat) (k0 : κ h = (13, n0)) (x0 : n0 ≤ 12288) (a1 : Int) (l_a1 : (-1) ≤ a1) (u_a1 : a1 ≤ 20200) (a2 : Int) (l_a2 : (-1) ≤ a2) (u_a2 : a2 ≤ 20200) (hw : tW E T κ L f) : Met l y_By_isTime (k_By_isTime :: lw_tg) (kRm 3 106 0 0) (va_Pc [.ref h, .int (iI a1), .int (iI a2)] (kPre D E T L f sz)) (va_Qi (uPi L f (fun (z : Int) => 0 ≤ z ∧ z ≤ 1)) (cPost D E (pA L sz)) (pA L sz)) 0 0 (pA L sz) := by
  refine k_enter (own := R_By) (by decide) rfl (Nat.le_of_ble_eq_true rfl) (fun p e s m below meth c ls AV QQ H locs hQQ X Y hA hin hr hlk hml hl KS KR => ?_)
  have hl : lv_has ls 9 [(0, .ref h), (1, .int (iI a1)), (2, .int (iI a2))] := hl
  have S : tS E T (tFr κ L [] []) κ L f κ L f := tS_rf hw
  refine lv_iload_n X.1 X.2.1 d_By_isTime_0 rfl (lv_at hl 2 rfl) ?_
  refine lv_iload_n X.1 X.2.1 d_By_isTime_1 rfl (lv_at hl 1 rfl) ?_
  refine z_isub X.1 X.2.1 d_By_isTime_2 ?_
  refine lv_bipush (v := iI 15) X.1 X.2.1 d_By_isTime_3 (by decide) ?_
  refine z_icmp_ne (tgt := 21) X.1 X.2.1 d_By_isTime_5 (by decide) ⟨by omega, by omega⟩ ⟨by omega, by omega⟩ (fun h101 => ?_) (fun h101 => ?_)
  · refine lv_iconst (v := iI 0) X.1 X.2.1 d_By_isTime_21 (by decide) ?_
    exact c_retz hQQ X Y hr hlk (iI_bool (by omega) (by omega)).1 ⟨rfl, rfl, 0, rfl, ⟨by omega, by omega⟩⟩ d_By_isTime_22
  · refine lv_aload_n X.1 X.2.1 d_By_isTime_8 rfl (lv_at hl 0 rfl) ?_
    refine lv_iload_n X.1 X.2.1 d_By_isTime_9 rfl (lv_at hl 1 rfl) ?_
    refine lv_bipush (v := iI 14) X.1 X.2.1 d_By_isTime_10 (by decide) ?_
    refine z_iadd X.1 X.2.1 d_By_isTime_12 ?_
    refine t_ui (t_runV (As := [.int (iI (a1 + 14))]) (rest := []) (n := 1) X Y S k0 hml hl.1 (c_By_at l D E T κ L f H.size h n0 k0 (by omega) (a1 + 14) (by omega) (by omega) S.1) (ok_k X Y hA KS KR) rfl kl_By_By_at ks_By_at kx_By_at ki_By_at ini_By ⟨rfl, rfl⟩ hd_By_at ⟨Nat.le_of_ble_eq_true rfl, Nat.le_of_ble_eq_true rfl⟩ rfl (Nat.le_of_ble_eq_true rfl) d_By_isTime_13 ⟨Nat.le_of_ble_eq_true rfl, Nat.le_of_ble_eq_true rfl⟩) X Y hA (fun z102 H locs Y p102 => ?_)
    obtain ⟨l102, u102⟩ := p102
    refine lv_bipush (v := iI 90) X.1 X.2.1 d_By_isTime_16 (by decide) ?_
    refine z_icmp_eq (tgt := 23) X.1 X.2.1 d_By_isTime_18 (by decide) ⟨by omega, by omega⟩ ⟨by omega, by omega⟩ (fun h103 => ?_) (fun h103 => ?_)
    · refine lv_aload_n X.1 X.2.1 d_By_isTime_23 rfl (lv_at hl 0 rfl) ?_
      refine lv_iload_n X.1 X.2.1 d_By_isTime_24 rfl (lv_at hl 1 rfl) ?_
      refine lv_iconst (v := iI 4) X.1 X.2.1 d_By_isTime_25 (by decide) ?_
      refine t_ui (t_runV (As := [.int (iI a1), .int (iI 4)]) (rest := []) (n := 2) X Y S k0 hml hl.1 (c_By_digits l D E T κ L f H.size h n0 k0 (by omega) a1 (by omega) (by omega) 4 (by omega) (by omega) S.1) (ok_k X Y hA KS KR) rfl kl_By_By_digits ks_By_digits kx_By_digits ki_By_digits ini_By ⟨rfl, rfl⟩ hd_By_digits ⟨Nat.le_of_ble_eq_true rfl, Nat.le_of_ble_eq_true rfl⟩ rfl (Nat.le_of_ble_eq_true rfl) d_By_isTime_26 ⟨Nat.le_of_ble_eq_true rfl, Nat.le_of_ble_eq_true rfl⟩) X Y hA (fun z104 H locs Y p104 => ?_)
      obtain ⟨l104, u104⟩ := p104
      refine lv_istore_n (lv' := [(3, .int (iI z104)), (0, .ref h), (1, .int (iI a1)), (2, .int (iI a2))]) X.1 X.2.1 d_By_isTime_29 rfl hl (by decide) rfl (fun ls hl => ?_)
      refine lv_aload_n X.1 X.2.1 d_By_isTime_30 rfl (lv_at hl 1 rfl) ?_
      refine lv_iload_n X.1 X.2.1 d_By_isTime_31 rfl (lv_at hl 2 rfl) ?_
      refine lv_iconst (v := iI 4) X.1 X.2.1 d_By_isTime_32 (by decide) ?_
      refine z_iadd X.1 X.2.1 d_By_isTime_33 ?_
      refine lv_iconst (v := iI 2) X.1 X.2.1 d_By_isTime_34 (by decide) ?_
      refine t_ui (t_runV (As := [.int (iI (a1 + 4)), .int (iI 2)]) (rest := []) (n := 2) X Y S k0 hml hl.1 (c_By_digits l D E T κ L f H.size h n0 k0 (by omega) (a1 + 4) (by omega) (by omega) 2 (by omega) (by omega) S.1) (ok_k X Y hA KS KR) rfl kl_By_By_digits ks_By_digits kx_By_digits ki_By_digits ini_By ⟨rfl, rfl⟩ hd_By_digits ⟨Nat.le_of_ble_eq_true rfl, Nat.le_of_ble_eq_true rfl⟩ rfl (Nat.le_of_ble_eq_true rfl) d_By_isTime_35 ⟨Nat.le_of_ble_eq_true rfl, Nat.le_of_ble_eq_true rfl⟩) X Y hA (fun z105 H locs Y p105 => ?_)
      obtain ⟨l105, u105⟩ := p105
      refine lv_istore (lv' := [(4, .int (iI z105)), (3, .int (iI z104)), (0, .ref h), (1, .int (iI a1)), (2, .int (iI a2))]) X.1 X.2.1 d_By_isTime_38 hl (by decide) rfl (fun ls hl => ?_)
      refine lv_aload_n X.1 X.2.1 d_By_isTime_40 rfl (lv_at hl 2 rfl) ?_
      refine lv_iload_n X.1 X.2.1 d_By_isTime_41 rfl (lv_at hl 3 rfl) ?_
      refine lv_bipush (v := iI 6) X.1 X.2.1 d_By_isTime_42 (by decide) ?_
      refine z_iadd X.1 X.2.1 d_By_isTime_44 ?_
      refine lv_iconst (v := iI 2) X.1 X.2.1 d_By_isTime_45 (by decide) ?_
      refine t_ui (t_runV (As := [.int (iI (a1 + 6)), .int (iI 2)]) (rest := []) (n := 2) X Y S k0 hml hl.1 (c_By_digits l D E T κ L f H.size h n0 k0 (by omega) (a1 + 6) (by omega) (by omega) 2 (by omega) (by omega) S.1) (ok_k X Y hA KS KR) rfl kl_By_By_digits ks_By_digits kx_By_digits ki_By_digits ini_By ⟨rfl, rfl⟩ hd_By_digits ⟨Nat.le_of_ble_eq_true rfl, Nat.le_of_ble_eq_true rfl⟩ rfl (Nat.le_of_ble_eq_true rfl) d_By_isTime_46 ⟨Nat.le_of_ble_eq_true rfl, Nat.le_of_ble_eq_true rfl⟩) X Y hA (fun z106 H locs Y p106 => ?_)
      obtain ⟨l106, u106⟩ := p106
      refine lv_istore (lv' := [(5, .int (iI z106)), (4, .int (iI z105)), (3, .int (iI z104)), (0, .ref h), (1, .int (iI a1)), (2, .int (iI a2))]) X.1 X.2.1 d_By_isTime_49 hl (by decide) rfl (fun ls hl => ?_)
      refine lv_aload_n X.1 X.2.1 d_By_isTime_51 rfl (lv_at hl 3 rfl) ?_
      refine lv_iload_n X.1 X.2.1 d_By_isTime_52 rfl (lv_at hl 4 rfl) ?_
      refine lv_bipush (v := iI 8) X.1 X.2.1 d_By_isTime_53 (by decide) ?_
      refine z_iadd X.1 X.2.1 d_By_isTime_55 ?_
      refine lv_iconst (v := iI 2) X.1 X.2.1 d_By_isTime_56 (by decide) ?_
      refine t_ui (t_runV (As := [.int (iI (a1 + 8)), .int (iI 2)]) (rest := []) (n := 2) X Y S k0 hml hl.1 (c_By_digits l D E T κ L f H.size h n0 k0 (by omega) (a1 + 8) (by omega) (by omega) 2 (by omega) (by omega) S.1) (ok_k X Y hA KS KR) rfl kl_By_By_digits ks_By_digits kx_By_digits ki_By_digits ini_By ⟨rfl, rfl⟩ hd_By_digits ⟨Nat.le_of_ble_eq_true rfl, Nat.le_of_ble_eq_true rfl⟩ rfl (Nat.le_of_ble_eq_true rfl) d_By_isTime_57 ⟨Nat.le_of_ble_eq_true rfl, Nat.le_of_ble_eq_true rfl⟩) X Y hA (fun z107 H locs Y p107 => ?_)
      obtain ⟨l107, u107⟩ := p107
      refine lv_istore (lv' := [(6, .int (iI z107)), (5, .int (iI z106)), (4, .int (iI z105)), (3, .int (iI z104)), (0, .ref h), (1, .int (iI a1)), (2, .int (iI a2))]) X.1 X.2.1 d_By_isTime_60 hl (by decide) rfl (fun ls hl => ?_)
      refine lv_aload_n X.1 X.2.1 d_By_isTime_62 rfl (lv_at hl 4 rfl) ?_
      refine lv_iload_n X.1 X.2.1 d_By_isTime_63 rfl (lv_at hl 5 rfl) ?_
      refine lv_bipush (v := iI 10) X.1 X.2.1 d_By_isTime_64 (by decide) ?_
      refine z_iadd X.1 X.2.1 d_By_isTime_66 ?_
      refine lv_iconst (v := iI 2) X.1 X.2.1 d_By_isTime_67 (by decide) ?_
      refine t_ui (t_runV (As := [.int (iI (a1 + 10)), .int (iI 2)]) (rest := []) (n := 2) X Y S k0 hml hl.1 (c_By_digits l D E T κ L f H.size h n0 k0 (by omega) (a1 + 10) (by omega) (by omega) 2 (by omega) (by omega) S.1) (ok_k X Y hA KS KR) rfl kl_By_By_digits ks_By_digits kx_By_digits ki_By_digits ini_By ⟨rfl, rfl⟩ hd_By_digits ⟨Nat.le_of_ble_eq_true rfl, Nat.le_of_ble_eq_true rfl⟩ rfl (Nat.le_of_ble_eq_true rfl) d_By_isTime_68 ⟨Nat.le_of_ble_eq_true rfl, Nat.le_of_ble_eq_true rfl⟩) X Y hA (fun z108 H locs Y p108 => ?_)
      obtain ⟨l108, u108⟩ := p108
      refine lv_istore (lv' := [(7, .int (iI z108)), (6, .int (iI z107)), (5, .int (iI z106)), (4, .int (iI z105)), (3, .int (iI z104)), (0, .ref h), (1, .int (iI a1)), (2, .int (iI a2))]) X.1 X.2.1 d_By_isTime_71 hl (by decide) rfl (fun ls hl => ?_)
      refine lv_aload_n X.1 X.2.1 d_By_isTime_73 rfl (lv_at hl 5 rfl) ?_
      refine lv_iload_n X.1 X.2.1 d_By_isTime_74 rfl (lv_at hl 6 rfl) ?_
      refine lv_bipush (v := iI 12) X.1 X.2.1 d_By_isTime_75 (by decide) ?_
      refine z_iadd X.1 X.2.1 d_By_isTime_77 ?_
      refine lv_iconst (v := iI 2) X.1 X.2.1 d_By_isTime_78 (by decide) ?_
      refine t_ui (t_runV (As := [.int (iI (a1 + 12)), .int (iI 2)]) (rest := []) (n := 2) X Y S k0 hml hl.1 (c_By_digits l D E T κ L f H.size h n0 k0 (by omega) (a1 + 12) (by omega) (by omega) 2 (by omega) (by omega) S.1) (ok_k X Y hA KS KR) rfl kl_By_By_digits ks_By_digits kx_By_digits ki_By_digits ini_By ⟨rfl, rfl⟩ hd_By_digits ⟨Nat.le_of_ble_eq_true rfl, Nat.le_of_ble_eq_true rfl⟩ rfl (Nat.le_of_ble_eq_true rfl) d_By_isTime_79 ⟨Nat.le_of_ble_eq_true rfl, Nat.le_of_ble_eq_true rfl⟩) X Y hA (fun z109 H locs Y p109 => ?_)
      obtain ⟨l109, u109⟩ := p109
      refine lv_istore (lv' := [(8, .int (iI z109)), (7, .int (iI z108)), (6, .int (iI z107)), (5, .int (iI z106)), (4, .int (iI z105)), (3, .int (iI z104)), (0, .ref h), (1, .int (iI a1)), (2, .int (iI a2))]) X.1 X.2.1 d_By_isTime_82 hl (by decide) rfl (fun ls hl => ?_)
      refine lv_iload_n X.1 X.2.1 d_By_isTime_84 rfl (lv_at hl 5 rfl) ?_
      refine lv_sipush (v := iI 1970) X.1 X.2.1 d_By_isTime_85 (by decide) ?_
      refine z_icmp_lt (tgt := 177) X.1 X.2.1 d_By_isTime_88 (by decide) ⟨by omega, by omega⟩ ⟨by omega, by omega⟩ (fun h110 => ?_) (fun h110 => ?_)
      · refine lv_iconst (v := iI 0) X.1 X.2.1 d_By_isTime_177 (by decide) ?_
        exact c_retz hQQ X Y hr hlk (iI_bool (by omega) (by omega)).1 ⟨rfl, rfl, 0, rfl, ⟨by omega, by omega⟩⟩ d_By_isTime_178
      · refine lv_iload_n X.1 X.2.1 d_By_isTime_91 rfl (lv_at hl 5 rfl) ?_
        refine lv_sipush (v := iI 2037) X.1 X.2.1 d_By_isTime_92 (by decide) ?_
        refine z_icmp_gt (tgt := 177) X.1 X.2.1 d_By_isTime_95 (by decide) ⟨by omega, by omega⟩ ⟨by omega, by omega⟩ (fun h111 => ?_) (fun h111 => ?_)
        · refine lv_iconst (v := iI 0) X.1 X.2.1 d_By_isTime_177 (by decide) ?_
          exact c_retz hQQ X Y hr hlk (iI_bool (by omega) (by omega)).1 ⟨rfl, rfl, 0, rfl, ⟨by omega, by omega⟩⟩ d_By_isTime_178
        · refine lv_iload X.1 X.2.1 d_By_isTime_98 (lv_at hl 4 rfl) ?_
          refine lv_iconst (v := iI 1) X.1 X.2.1 d_By_isTime_100 (by decide) ?_
          refine z_icmp_lt (tgt := 177) X.1 X.2.1 d_By_isTime_101 (by decide) ⟨by omega, by omega⟩ ⟨by omega, by omega⟩ (fun h112 => ?_) (fun h112 => ?_)
          · refine lv_iconst (v := iI 0) X.1 X.2.1 d_By_isTime_177 (by decide) ?_
            exact c_retz hQQ X Y hr hlk (iI_bool (by omega) (by omega)).1 ⟨rfl, rfl, 0, rfl, ⟨by omega, by omega⟩⟩ d_By_isTime_178
          · refine lv_iload X.1 X.2.1 d_By_isTime_104 (lv_at hl 4 rfl) ?_
            refine lv_bipush (v := iI 12) X.1 X.2.1 d_By_isTime_106 (by decide) ?_
            refine z_icmp_gt (tgt := 177) X.1 X.2.1 d_By_isTime_108 (by decide) ⟨by omega, by omega⟩ ⟨by omega, by omega⟩ (fun h113 => ?_) (fun h113 => ?_)
            · refine lv_iconst (v := iI 0) X.1 X.2.1 d_By_isTime_177 (by decide) ?_
              exact c_retz hQQ X Y hr hlk (iI_bool (by omega) (by omega)).1 ⟨rfl, rfl, 0, rfl, ⟨by omega, by omega⟩⟩ d_By_isTime_178
            · refine lv_iload X.1 X.2.1 d_By_isTime_111 (lv_at hl 3 rfl) ?_
              refine lv_iconst (v := iI 1) X.1 X.2.1 d_By_isTime_113 (by decide) ?_
              refine z_icmp_lt (tgt := 177) X.1 X.2.1 d_By_isTime_114 (by decide) ⟨by omega, by omega⟩ ⟨by omega, by omega⟩ (fun h114 => ?_) (fun h114 => ?_)
              · refine lv_iconst (v := iI 0) X.1 X.2.1 d_By_isTime_177 (by decide) ?_
                exact c_retz hQQ X Y hr hlk (iI_bool (by omega) (by omega)).1 ⟨rfl, rfl, 0, rfl, ⟨by omega, by omega⟩⟩ d_By_isTime_178
              · refine lv_iload X.1 X.2.1 d_By_isTime_117 (lv_at hl 3 rfl) ?_
                refine lv_iload_n X.1 X.2.1 d_By_isTime_119 rfl (lv_at hl 5 rfl) ?_
                refine lv_iload X.1 X.2.1 d_By_isTime_120 (lv_at hl 4 rfl) ?_
                refine lv_iconst (v := iI 1) X.1 X.2.1 d_By_isTime_122 (by decide) ?_
                refine z_iadd X.1 X.2.1 d_By_isTime_123 ?_
                refine t_ui (x_runS (As := [.int (iI z104), .int (iI (z105 + 1))]) (rest := [.int (iI z106)]) (n := 2) X hml hl.1 (c_By_daysBefore l D E T κ L f H.size z104 (by omega) (by omega) (z105 + 1) (by omega) (by omega) S.1) (ok_k X Y hA KS KR) kl_By_By_daysBefore ks_By_daysBefore ki_By_daysBefore ini_By ⟨rfl, rfl⟩ hd_By_daysBefore.2 ⟨Nat.le_of_ble_eq_true rfl, Nat.le_of_ble_eq_true rfl⟩ rfl (Nat.le_of_ble_eq_true rfl) d_By_isTime_124 ⟨Nat.le_of_ble_eq_true rfl, Nat.le_of_ble_eq_true rfl⟩) X Y hA (fun z115 H locs Y p115 => ?_)
                obtain ⟨l115, u115⟩ := p115
                refine lv_iload_n X.1 X.2.1 d_By_isTime_127 rfl (lv_at hl 5 rfl) ?_
                refine lv_iload X.1 X.2.1 d_By_isTime_128 (lv_at hl 4 rfl) ?_
                refine t_ui (x_runS (As := [.int (iI z104), .int (iI z105)]) (rest := [.int (iI z115), .int (iI z106)]) (n := 2) X hml hl.1 (c_By_daysBefore l D E T κ L f H.size z104 (by omega) (by omega) z105 (by omega) (by omega) S.1) (ok_k X Y hA KS KR) kl_By_By_daysBefore ks_By_daysBefore ki_By_daysBefore ini_By ⟨rfl, rfl⟩ hd_By_daysBefore.2 ⟨Nat.le_of_ble_eq_true rfl, Nat.le_of_ble_eq_true rfl⟩ rfl (Nat.le_of_ble_eq_true rfl) d_By_isTime_130 ⟨Nat.le_of_ble_eq_true rfl, Nat.le_of_ble_eq_true rfl⟩) X Y hA (fun z116 H locs Y p116 => ?_)
                obtain ⟨l116, u116⟩ := p116
                refine lv_isub X.1 X.2.1 d_By_isTime_133 ?_
                refine t_u (fun z117 l117 u117 => ?_)
                refine z_icmp_gt (tgt := 177) X.1 X.2.1 d_By_isTime_134 (by decide) ⟨by omega, by omega⟩ ⟨by omega, by omega⟩ (fun h118 => ?_) (fun h118 => ?_)
                · refine lv_iconst (v := iI 0) X.1 X.2.1 d_By_isTime_177 (by decide) ?_
                  exact c_retz hQQ X Y hr hlk (iI_bool (by omega) (by omega)).1 ⟨rfl, rfl, 0, rfl, ⟨by omega, by omega⟩⟩ d_By_isTime_178
                · refine lv_iload X.1 X.2.1 d_By_isTime_137 (lv_at hl 2 rfl) ?_
                  refine z_if_lt (tgt := 177) X.1 X.2.1 d_By_isTime_139 (by decide) ⟨by omega, by omega⟩ (fun h119 => ?_) (fun h119 => ?_)
                  · refine lv_iconst (v := iI 0) X.1 X.2.1 d_By_isTime_177 (by decide) ?_
                    exact c_retz hQQ X Y hr hlk (iI_bool (by omega) (by omega)).1 ⟨rfl, rfl, 0, rfl, ⟨by omega, by omega⟩⟩ d_By_isTime_178
                  · refine lv_iload X.1 X.2.1 d_By_isTime_142 (lv_at hl 2 rfl) ?_
                    refine lv_bipush (v := iI 23) X.1 X.2.1 d_By_isTime_144 (by decide) ?_
                    refine z_icmp_gt (tgt := 177) X.1 X.2.1 d_By_isTime_146 (by decide) ⟨by omega, by omega⟩ ⟨by omega, by omega⟩ (fun h120 => ?_) (fun h120 => ?_)
                    · refine lv_iconst (v := iI 0) X.1 X.2.1 d_By_isTime_177 (by decide) ?_
                      exact c_retz hQQ X Y hr hlk (iI_bool (by omega) (by omega)).1 ⟨rfl, rfl, 0, rfl, ⟨by omega, by omega⟩⟩ d_By_isTime_178
                    · refine lv_iload X.1 X.2.1 d_By_isTime_149 (lv_at hl 1 rfl) ?_
                      refine z_if_lt (tgt := 177) X.1 X.2.1 d_By_isTime_151 (by decide) ⟨by omega, by omega⟩ (fun h121 => ?_) (fun h121 => ?_)
                      · refine lv_iconst (v := iI 0) X.1 X.2.1 d_By_isTime_177 (by decide) ?_
                        exact c_retz hQQ X Y hr hlk (iI_bool (by omega) (by omega)).1 ⟨rfl, rfl, 0, rfl, ⟨by omega, by omega⟩⟩ d_By_isTime_178
                      · refine lv_iload X.1 X.2.1 d_By_isTime_154 (lv_at hl 1 rfl) ?_
                        refine lv_bipush (v := iI 59) X.1 X.2.1 d_By_isTime_156 (by decide) ?_
                        refine z_icmp_gt (tgt := 177) X.1 X.2.1 d_By_isTime_158 (by decide) ⟨by omega, by omega⟩ ⟨by omega, by omega⟩ (fun h122 => ?_) (fun h122 => ?_)
                        · refine lv_iconst (v := iI 0) X.1 X.2.1 d_By_isTime_177 (by decide) ?_
                          exact c_retz hQQ X Y hr hlk (iI_bool (by omega) (by omega)).1 ⟨rfl, rfl, 0, rfl, ⟨by omega, by omega⟩⟩ d_By_isTime_178
                        · refine lv_iload X.1 X.2.1 d_By_isTime_161 (lv_at hl 0 rfl) ?_
                          refine z_if_lt (tgt := 177) X.1 X.2.1 d_By_isTime_163 (by decide) ⟨by omega, by omega⟩ (fun h123 => ?_) (fun h123 => ?_)
                          · refine lv_iconst (v := iI 0) X.1 X.2.1 d_By_isTime_177 (by decide) ?_
                            exact c_retz hQQ X Y hr hlk (iI_bool (by omega) (by omega)).1 ⟨rfl, rfl, 0, rfl, ⟨by omega, by omega⟩⟩ d_By_isTime_178
                          · refine lv_iload X.1 X.2.1 d_By_isTime_166 (lv_at hl 0 rfl) ?_
                            refine lv_bipush (v := iI 59) X.1 X.2.1 d_By_isTime_168 (by decide) ?_
                            refine z_icmp_gt (tgt := 177) X.1 X.2.1 d_By_isTime_170 (by decide) ⟨by omega, by omega⟩ ⟨by omega, by omega⟩ (fun h124 => ?_) (fun h124 => ?_)
                            · refine lv_iconst (v := iI 0) X.1 X.2.1 d_By_isTime_177 (by decide) ?_
                              exact c_retz hQQ X Y hr hlk (iI_bool (by omega) (by omega)).1 ⟨rfl, rfl, 0, rfl, ⟨by omega, by omega⟩⟩ d_By_isTime_178
                            · refine lv_iconst (v := iI 1) X.1 X.2.1 d_By_isTime_173 (by decide) ?_
                              refine lv_goto (tgt := 178) X.1 X.2.1 d_By_isTime_174 (by decide) ?_
                              exact c_retz hQQ X Y hr hlk (iI_bool (by omega) (by omega)).1 ⟨rfl, rfl, 1, rfl, ⟨by omega, by omega⟩⟩ d_By_isTime_178
    · refine lv_iconst (v := iI 0) X.1 X.2.1 d_By_isTime_21 (by decide) ?_
      exact c_retz hQQ X Y hr hlk (iI_bool (by omega) (by omega)).1 ⟨rfl, rfl, 0, rfl, ⟨by omega, by omega⟩⟩ d_By_isTime_22
set_option maxHeartbeats 4000000 in
set_option maxRecDepth 100000 in
theorem c_By_tagOf (l : Launch) (D : va_G) (E : cE) (T : cT) (κ : tK) (L : List Nat) (f : pF) (sz : Nat) (a1 : Int) (l_a1 : (-2147483648) ≤ a1) (u_a1 : a1 ≤ 2147483647) (hw : tW E T κ L f) : Met l y_By_tagOf (k_By_tagOf :: lw_tg) (kRm 1 60 0 0) (va_Pc [.int (iI a1)] (kPre D E T L f sz)) (va_Qi (uPi L f (fun (z : Int) => (-2147483648) ≤ z ∧ z ≤ 2147483647)) (cPost D E (pA L sz)) (pA L sz)) 0 0 (pA L sz) := by
  refine k_enter (own := R_By) (by decide) rfl (Nat.le_of_ble_eq_true rfl) (fun p e s m below meth c ls AV QQ H locs hQQ X Y hA hin hr hlk hml hl KS KR => ?_)
  have hl : lv_has ls 1 [(0, .int (iI a1))] := hl
  have S : tS E T (tFr κ L [] []) κ L f κ L f := tS_rf hw
  refine lv_iload_n X.1 X.2.1 d_By_tagOf_0 rfl (lv_at hl 0 rfl) ?_
  refine lv_sipush (v := iI 256) X.1 X.2.1 d_By_tagOf_1 (by decide) ?_
  refine z_icmp_lt (tgt := 15) X.1 X.2.1 d_By_tagOf_4 (by decide) ⟨by omega, by omega⟩ ⟨by omega, by omega⟩ (fun h101 => ?_) (fun h101 => ?_)
  · refine lv_iload_n X.1 X.2.1 d_By_tagOf_15 rfl (lv_at hl 0 rfl) ?_
    refine lv_bipush (v := iI 107) X.1 X.2.1 d_By_tagOf_16 (by decide) ?_
    refine z_icmp_ne (tgt := 26) X.1 X.2.1 d_By_tagOf_18 (by decide) ⟨by omega, by omega⟩ ⟨by omega, by omega⟩ (fun h102 => ?_) (fun h102 => ?_)
    · refine lv_bipush (v := iI 48) X.1 X.2.1 d_By_tagOf_26 (by decide) ?_
      exact c_reti hQQ X Y hr hlk ⟨rfl, rfl, 48, rfl, ⟨by omega, by omega⟩⟩ d_By_tagOf_28
    · refine lv_bipush (v := iI 97) X.1 X.2.1 d_By_tagOf_21 (by decide) ?_
      refine lv_goto (tgt := 28) X.1 X.2.1 d_By_tagOf_23 (by decide) ?_
      exact c_reti hQQ X Y hr hlk ⟨rfl, rfl, 97, rfl, ⟨by omega, by omega⟩⟩ d_By_tagOf_28
  · refine lv_iload_n X.1 X.2.1 d_By_tagOf_7 rfl (lv_at hl 0 rfl) ?_
    refine lv_sipush (v := iI 256) X.1 X.2.1 d_By_tagOf_8 (by decide) ?_
    refine z_isub X.1 X.2.1 d_By_tagOf_11 ?_
    refine lv_goto (tgt := 28) X.1 X.2.1 d_By_tagOf_12 (by decide) ?_
    exact c_reti hQQ X Y hr hlk ⟨rfl, rfl, a1 - 256, rfl, ⟨by omega, by omega⟩⟩ d_By_tagOf_28
set_option maxHeartbeats 4000000 in
set_option maxRecDepth 100000 in
theorem c_By_messageShape (l : Launch) (D : va_G) (E : cE) (T : cT) (κ : tK) (L : List Nat) (f : pF) (sz : Nat) (a1 : Int) (l_a1 : (-2147483648) ≤ a1) (u_a1 : a1 ≤ 2147483647) (hw : tW E T κ L f) : Met l y_By_messageShape (k_By_messageShape :: lw_tg) (kRm 1 60 0 0) (va_Pc [.int (iI a1)] (kPre D E T L f sz)) (va_Qr (fun _ : cU => True) (fun u r t => uPr L f (fun (z : Nat) => (∃ i : Nat, i < nY ∧ z = T.2.1 i)) r u ∧ cPost D E (pA L sz) u t) (pA L sz)) 0 0 (pA L sz) := by
  refine k_enter (own := R_By) (by decide) rfl (Nat.le_of_ble_eq_true rfl) (fun p e s m below meth c ls AV QQ H locs hQQ X Y hA hin hr hlk hml hl KS KR => ?_)
  have hl : lv_has ls 1 [(0, .int (iI a1))] := hl
  have S : tS E T (tFr κ L [] []) κ L f κ L f := tS_rf hw
  refine lv_iload_n X.1 X.2.1 d_By_messageShape_0 rfl (lv_at hl 0 rfl) ?_
  by_cases h101 : a1 = 354
  · rw [h101]
    refine lv_tableIn (off := 152) (tgt := 153) X.1 X.2.1 d_By_messageShape_1 (by decide) (by decide) (by decide) (by decide) ?_
    refine k_ldcS (i := 20) X KR (by decide) ⟨by decide, by decide⟩ d_By_messageShape_153 ?_
    exact k_retr hQQ X Y hr (Or.inl ⟨_, rfl⟩) hlk ⟨rfl, rfl, ⟨20, (show 20 < nY by decide), rfl⟩⟩ d_By_messageShape_155
  by_cases h102 : a1 = 355
  · rw [h102]
    refine lv_tableIn (off := 155) (tgt := 156) X.1 X.2.1 d_By_messageShape_1 (by decide) (by decide) (by decide) (by decide) ?_
    refine k_ldcS (i := 21) X KR (by decide) ⟨by decide, by decide⟩ d_By_messageShape_156 ?_
    exact k_retr hQQ X Y hr (Or.inl ⟨_, rfl⟩) hlk ⟨rfl, rfl, ⟨21, (show 21 < nY by decide), rfl⟩⟩ d_By_messageShape_158
  by_cases h103 : a1 = 356
  · rw [h103]
    refine lv_tableIn (off := 170) (tgt := 171) X.1 X.2.1 d_By_messageShape_1 (by decide) (by decide) (by decide) (by decide) ?_
    refine k_ldcS (i := 26) X KR (by decide) ⟨by decide, by decide⟩ d_By_messageShape_171 ?_
    exact k_retr hQQ X Y hr (Or.inl ⟨_, rfl⟩) hlk ⟨rfl, rfl, ⟨26, (show 26 < nY by decide), rfl⟩⟩ d_By_messageShape_173
  by_cases h104 : a1 = 357
  · rw [h104]
    refine lv_tableIn (off := 170) (tgt := 171) X.1 X.2.1 d_By_messageShape_1 (by decide) (by decide) (by decide) (by decide) ?_
    refine k_ldcS (i := 26) X KR (by decide) ⟨by decide, by decide⟩ d_By_messageShape_171 ?_
    exact k_retr hQQ X Y hr (Or.inl ⟨_, rfl⟩) hlk ⟨rfl, rfl, ⟨26, (show 26 < nY by decide), rfl⟩⟩ d_By_messageShape_173
  by_cases h105 : a1 = 358
  · rw [h105]
    refine lv_tableIn (off := 170) (tgt := 171) X.1 X.2.1 d_By_messageShape_1 (by decide) (by decide) (by decide) (by decide) ?_
    refine k_ldcS (i := 26) X KR (by decide) ⟨by decide, by decide⟩ d_By_messageShape_171 ?_
    exact k_retr hQQ X Y hr (Or.inl ⟨_, rfl⟩) hlk ⟨rfl, rfl, ⟨26, (show 26 < nY by decide), rfl⟩⟩ d_By_messageShape_173
  by_cases h106 : a1 = 359
  · rw [h106]
    refine lv_tableIn (off := 170) (tgt := 171) X.1 X.2.1 d_By_messageShape_1 (by decide) (by decide) (by decide) (by decide) ?_
    refine k_ldcS (i := 26) X KR (by decide) ⟨by decide, by decide⟩ d_By_messageShape_171 ?_
    exact k_retr hQQ X Y hr (Or.inl ⟨_, rfl⟩) hlk ⟨rfl, rfl, ⟨26, (show 26 < nY by decide), rfl⟩⟩ d_By_messageShape_173
  by_cases h107 : a1 = 360
  · rw [h107]
    refine lv_tableIn (off := 170) (tgt := 171) X.1 X.2.1 d_By_messageShape_1 (by decide) (by decide) (by decide) (by decide) ?_
    refine k_ldcS (i := 26) X KR (by decide) ⟨by decide, by decide⟩ d_By_messageShape_171 ?_
    exact k_retr hQQ X Y hr (Or.inl ⟨_, rfl⟩) hlk ⟨rfl, rfl, ⟨26, (show 26 < nY by decide), rfl⟩⟩ d_By_messageShape_173
  by_cases h108 : a1 = 361
  · rw [h108]
    refine lv_tableIn (off := 170) (tgt := 171) X.1 X.2.1 d_By_messageShape_1 (by decide) (by decide) (by decide) (by decide) ?_
    refine k_ldcS (i := 26) X KR (by decide) ⟨by decide, by decide⟩ d_By_messageShape_171 ?_
    exact k_retr hQQ X Y hr (Or.inl ⟨_, rfl⟩) hlk ⟨rfl, rfl, ⟨26, (show 26 < nY by decide), rfl⟩⟩ d_By_messageShape_173
  by_cases h109 : a1 = 362
  · rw [h109]
    refine lv_tableIn (off := 131) (tgt := 132) X.1 X.2.1 d_By_messageShape_1 (by decide) (by decide) (by decide) (by decide) ?_
    refine k_ldcS (i := 13) X KR (by decide) ⟨by decide, by decide⟩ d_By_messageShape_132 ?_
    exact k_retr hQQ X Y hr (Or.inl ⟨_, rfl⟩) hlk ⟨rfl, rfl, ⟨13, (show 13 < nY by decide), rfl⟩⟩ d_By_messageShape_134
  by_cases h110 : a1 = 363
  · rw [h110]
    refine lv_tableIn (off := 134) (tgt := 135) X.1 X.2.1 d_By_messageShape_1 (by decide) (by decide) (by decide) (by decide) ?_
    refine k_ldcS (i := 14) X KR (by decide) ⟨by decide, by decide⟩ d_By_messageShape_135 ?_
    exact k_retr hQQ X Y hr (Or.inl ⟨_, rfl⟩) hlk ⟨rfl, rfl, ⟨14, (show 14 < nY by decide), rfl⟩⟩ d_By_messageShape_137
  by_cases h111 : a1 = 364
  · rw [h111]
    refine lv_tableIn (off := 131) (tgt := 132) X.1 X.2.1 d_By_messageShape_1 (by decide) (by decide) (by decide) (by decide) ?_
    refine k_ldcS (i := 13) X KR (by decide) ⟨by decide, by decide⟩ d_By_messageShape_132 ?_
    exact k_retr hQQ X Y hr (Or.inl ⟨_, rfl⟩) hlk ⟨rfl, rfl, ⟨13, (show 13 < nY by decide), rfl⟩⟩ d_By_messageShape_134
  by_cases h112 : a1 = 365
  · rw [h112]
    refine lv_tableIn (off := 134) (tgt := 135) X.1 X.2.1 d_By_messageShape_1 (by decide) (by decide) (by decide) (by decide) ?_
    refine k_ldcS (i := 14) X KR (by decide) ⟨by decide, by decide⟩ d_By_messageShape_135 ?_
    exact k_retr hQQ X Y hr (Or.inl ⟨_, rfl⟩) hlk ⟨rfl, rfl, ⟨14, (show 14 < nY by decide), rfl⟩⟩ d_By_messageShape_137
  by_cases h113 : a1 = 366
  · rw [h113]
    refine lv_tableIn (off := 137) (tgt := 138) X.1 X.2.1 d_By_messageShape_1 (by decide) (by decide) (by decide) (by decide) ?_
    refine k_ldcS (i := 15) X KR (by decide) ⟨by decide, by decide⟩ d_By_messageShape_138 ?_
    exact k_retr hQQ X Y hr (Or.inl ⟨_, rfl⟩) hlk ⟨rfl, rfl, ⟨15, (show 15 < nY by decide), rfl⟩⟩ d_By_messageShape_140
  by_cases h114 : a1 = 367
  · rw [h114]
    refine lv_tableIn (off := 140) (tgt := 141) X.1 X.2.1 d_By_messageShape_1 (by decide) (by decide) (by decide) (by decide) ?_
    refine k_ldcS (i := 16) X KR (by decide) ⟨by decide, by decide⟩ d_By_messageShape_141 ?_
    exact k_retr hQQ X Y hr (Or.inl ⟨_, rfl⟩) hlk ⟨rfl, rfl, ⟨16, (show 16 < nY by decide), rfl⟩⟩ d_By_messageShape_143
  by_cases h115 : a1 = 368
  · rw [h115]
    refine lv_tableIn (off := 170) (tgt := 171) X.1 X.2.1 d_By_messageShape_1 (by decide) (by decide) (by decide) (by decide) ?_
    refine k_ldcS (i := 26) X KR (by decide) ⟨by decide, by decide⟩ d_By_messageShape_171 ?_
    exact k_retr hQQ X Y hr (Or.inl ⟨_, rfl⟩) hlk ⟨rfl, rfl, ⟨26, (show 26 < nY by decide), rfl⟩⟩ d_By_messageShape_173
  by_cases h116 : a1 = 369
  · rw [h116]
    refine lv_tableIn (off := 170) (tgt := 171) X.1 X.2.1 d_By_messageShape_1 (by decide) (by decide) (by decide) (by decide) ?_
    refine k_ldcS (i := 26) X KR (by decide) ⟨by decide, by decide⟩ d_By_messageShape_171 ?_
    exact k_retr hQQ X Y hr (Or.inl ⟨_, rfl⟩) hlk ⟨rfl, rfl, ⟨26, (show 26 < nY by decide), rfl⟩⟩ d_By_messageShape_173
  by_cases h117 : a1 = 370
  · rw [h117]
    refine lv_tableIn (off := 170) (tgt := 171) X.1 X.2.1 d_By_messageShape_1 (by decide) (by decide) (by decide) (by decide) ?_
    refine k_ldcS (i := 26) X KR (by decide) ⟨by decide, by decide⟩ d_By_messageShape_171 ?_
    exact k_retr hQQ X Y hr (Or.inl ⟨_, rfl⟩) hlk ⟨rfl, rfl, ⟨26, (show 26 < nY by decide), rfl⟩⟩ d_By_messageShape_173
  by_cases h118 : a1 = 371
  · rw [h118]
    refine lv_tableIn (off := 170) (tgt := 171) X.1 X.2.1 d_By_messageShape_1 (by decide) (by decide) (by decide) (by decide) ?_
    refine k_ldcS (i := 26) X KR (by decide) ⟨by decide, by decide⟩ d_By_messageShape_171 ?_
    exact k_retr hQQ X Y hr (Or.inl ⟨_, rfl⟩) hlk ⟨rfl, rfl, ⟨26, (show 26 < nY by decide), rfl⟩⟩ d_By_messageShape_173
  by_cases h119 : a1 = 372
  · rw [h119]
    refine lv_tableIn (off := 143) (tgt := 144) X.1 X.2.1 d_By_messageShape_1 (by decide) (by decide) (by decide) (by decide) ?_
    refine k_ldcS (i := 17) X KR (by decide) ⟨by decide, by decide⟩ d_By_messageShape_144 ?_
    exact k_retr hQQ X Y hr (Or.inl ⟨_, rfl⟩) hlk ⟨rfl, rfl, ⟨17, (show 17 < nY by decide), rfl⟩⟩ d_By_messageShape_146
  by_cases h120 : a1 = 373
  · rw [h120]
    refine lv_tableIn (off := 146) (tgt := 147) X.1 X.2.1 d_By_messageShape_1 (by decide) (by decide) (by decide) (by decide) ?_
    refine k_ldcS (i := 18) X KR (by decide) ⟨by decide, by decide⟩ d_By_messageShape_147 ?_
    exact k_retr hQQ X Y hr (Or.inl ⟨_, rfl⟩) hlk ⟨rfl, rfl, ⟨18, (show 18 < nY by decide), rfl⟩⟩ d_By_messageShape_149
  by_cases h121 : a1 = 374
  · rw [h121]
    refine lv_tableIn (off := 149) (tgt := 150) X.1 X.2.1 d_By_messageShape_1 (by decide) (by decide) (by decide) (by decide) ?_
    refine k_ldcS (i := 19) X KR (by decide) ⟨by decide, by decide⟩ d_By_messageShape_150 ?_
    exact k_retr hQQ X Y hr (Or.inl ⟨_, rfl⟩) hlk ⟨rfl, rfl, ⟨19, (show 19 < nY by decide), rfl⟩⟩ d_By_messageShape_152
  by_cases h122 : a1 = 375
  · rw [h122]
    refine lv_tableIn (off := 170) (tgt := 171) X.1 X.2.1 d_By_messageShape_1 (by decide) (by decide) (by decide) (by decide) ?_
    refine k_ldcS (i := 26) X KR (by decide) ⟨by decide, by decide⟩ d_By_messageShape_171 ?_
    exact k_retr hQQ X Y hr (Or.inl ⟨_, rfl⟩) hlk ⟨rfl, rfl, ⟨26, (show 26 < nY by decide), rfl⟩⟩ d_By_messageShape_173
  by_cases h123 : a1 = 376
  · rw [h123]
    refine lv_tableIn (off := 170) (tgt := 171) X.1 X.2.1 d_By_messageShape_1 (by decide) (by decide) (by decide) (by decide) ?_
    refine k_ldcS (i := 26) X KR (by decide) ⟨by decide, by decide⟩ d_By_messageShape_171 ?_
    exact k_retr hQQ X Y hr (Or.inl ⟨_, rfl⟩) hlk ⟨rfl, rfl, ⟨26, (show 26 < nY by decide), rfl⟩⟩ d_By_messageShape_173
  by_cases h124 : a1 = 377
  · rw [h124]
    refine lv_tableIn (off := 158) (tgt := 159) X.1 X.2.1 d_By_messageShape_1 (by decide) (by decide) (by decide) (by decide) ?_
    refine k_ldcS (i := 22) X KR (by decide) ⟨by decide, by decide⟩ d_By_messageShape_159 ?_
    exact k_retr hQQ X Y hr (Or.inl ⟨_, rfl⟩) hlk ⟨rfl, rfl, ⟨22, (show 22 < nY by decide), rfl⟩⟩ d_By_messageShape_161
  by_cases h125 : a1 = 378
  · rw [h125]
    refine lv_tableIn (off := 158) (tgt := 159) X.1 X.2.1 d_By_messageShape_1 (by decide) (by decide) (by decide) (by decide) ?_
    refine k_ldcS (i := 22) X KR (by decide) ⟨by decide, by decide⟩ d_By_messageShape_159 ?_
    exact k_retr hQQ X Y hr (Or.inl ⟨_, rfl⟩) hlk ⟨rfl, rfl, ⟨22, (show 22 < nY by decide), rfl⟩⟩ d_By_messageShape_161
  by_cases h126 : a1 = 379
  · rw [h126]
    refine lv_tableIn (off := 161) (tgt := 162) X.1 X.2.1 d_By_messageShape_1 (by decide) (by decide) (by decide) (by decide) ?_
    refine k_ldcS (i := 23) X KR (by decide) ⟨by decide, by decide⟩ d_By_messageShape_162 ?_
    exact k_retr hQQ X Y hr (Or.inl ⟨_, rfl⟩) hlk ⟨rfl, rfl, ⟨23, (show 23 < nY by decide), rfl⟩⟩ d_By_messageShape_164
  by_cases h127 : a1 = 380
  · rw [h127]
    refine lv_tableIn (off := 170) (tgt := 171) X.1 X.2.1 d_By_messageShape_1 (by decide) (by decide) (by decide) (by decide) ?_
    refine k_ldcS (i := 26) X KR (by decide) ⟨by decide, by decide⟩ d_By_messageShape_171 ?_
    exact k_retr hQQ X Y hr (Or.inl ⟨_, rfl⟩) hlk ⟨rfl, rfl, ⟨26, (show 26 < nY by decide), rfl⟩⟩ d_By_messageShape_173
  by_cases h128 : a1 = 381
  · rw [h128]
    refine lv_tableIn (off := 164) (tgt := 165) X.1 X.2.1 d_By_messageShape_1 (by decide) (by decide) (by decide) (by decide) ?_
    refine k_ldcS (i := 24) X KR (by decide) ⟨by decide, by decide⟩ d_By_messageShape_165 ?_
    exact k_retr hQQ X Y hr (Or.inl ⟨_, rfl⟩) hlk ⟨rfl, rfl, ⟨24, (show 24 < nY by decide), rfl⟩⟩ d_By_messageShape_167
  by_cases h129 : a1 = 382
  · rw [h129]
    refine lv_tableIn (off := 167) (tgt := 168) X.1 X.2.1 d_By_messageShape_1 (by decide) (by decide) (by decide) (by decide) ?_
    refine k_ldcS (i := 25) X KR (by decide) ⟨by decide, by decide⟩ d_By_messageShape_168 ?_
    exact k_retr hQQ X Y hr (Or.inl ⟨_, rfl⟩) hlk ⟨rfl, rfl, ⟨25, (show 25 < nY by decide), rfl⟩⟩ d_By_messageShape_170
  refine lv_tableOut (tgt := 171) X.1 X.2.1 d_By_messageShape_1 (by rw [iI_toInt ⟨by omega, by omega⟩]; omega) (by decide) ?_
  refine k_ldcS (i := 26) X KR (by decide) ⟨by decide, by decide⟩ d_By_messageShape_171 ?_
  exact k_retr hQQ X Y hr (Or.inl ⟨_, rfl⟩) hlk ⟨rfl, rfl, ⟨26, (show 26 < nY by decide), rfl⟩⟩ d_By_messageShape_173
set_option maxHeartbeats 4000000 in
set_option maxRecDepth 100000 in
theorem c_By_shapeOf (l : Launch) (D : va_G) (E : cE) (T : cT) (κ : tK) (L : List Nat) (f : pF) (sz : Nat) (a1 : Int) (l_a1 : (-2147483648) ≤ a1) (u_a1 : a1 ≤ 2147483647) (hw : tW E T κ L f) : Met l y_By_shapeOf (k_By_shapeOf :: lw_tg) (kRm 2 80 0 0) (va_Pc [.int (iI a1)] (kPre D E T L f sz)) (va_Qr (fun _ : cU => True) (fun u r t => uPr L f (fun (z : Nat) => (∃ i : Nat, i < nY ∧ z = T.2.1 i)) r u ∧ cPost D E (pA L sz) u t) (pA L sz)) 0 0 (pA L sz) := by
  refine k_enter (own := R_By) (by decide) rfl (Nat.le_of_ble_eq_true rfl) (fun p e s m below meth c ls AV QQ H locs hQQ X Y hA hin hr hlk hml hl KS KR => ?_)
  have hl : lv_has ls 1 [(0, .int (iI a1))] := hl
  have S : tS E T (tFr κ L [] []) κ L f κ L f := tS_rf hw
  refine lv_iload_n X.1 X.2.1 d_By_shapeOf_0 rfl (lv_at hl 0 rfl) ?_
  by_cases h101 : a1 = 97
  · rw [h101]
    refine lv_lookup (off := 102) (tgt := 103) X.1 X.2.1 d_By_shapeOf_1 (by decide) (by decide) (by decide) ?_
    refine k_ldcS (i := 4) X KR (by decide) ⟨by decide, by decide⟩ d_By_shapeOf_103 ?_
    exact k_retr hQQ X Y hr (Or.inl ⟨_, rfl⟩) hlk ⟨rfl, rfl, ⟨4, (show 4 < nY by decide), rfl⟩⟩ d_By_shapeOf_105
  by_cases h102 : a1 = 99
  · rw [h102]
    refine lv_lookup (off := 123) (tgt := 124) X.1 X.2.1 d_By_shapeOf_1 (by decide) (by decide) (by decide) ?_
    refine k_ldcS (i := 11) X KR (by decide) ⟨by decide, by decide⟩ d_By_shapeOf_124 ?_
    exact k_retr hQQ X Y hr (Or.inl ⟨_, rfl⟩) hlk ⟨rfl, rfl, ⟨11, (show 11 < nY by decide), rfl⟩⟩ d_By_shapeOf_126
  by_cases h103 : a1 = 101
  · rw [h103]
    refine lv_lookup (off := 111) (tgt := 112) X.1 X.2.1 d_By_shapeOf_1 (by decide) (by decide) (by decide) ?_
    refine k_ldcS (i := 7) X KR (by decide) ⟨by decide, by decide⟩ d_By_shapeOf_112 ?_
    exact k_retr hQQ X Y hr (Or.inl ⟨_, rfl⟩) hlk ⟨rfl, rfl, ⟨7, (show 7 < nY by decide), rfl⟩⟩ d_By_shapeOf_114
  by_cases h104 : a1 = 102
  · rw [h104]
    refine lv_lookup (off := 120) (tgt := 121) X.1 X.2.1 d_By_shapeOf_1 (by decide) (by decide) (by decide) ?_
    refine k_ldcS (i := 10) X KR (by decide) ⟨by decide, by decide⟩ d_By_shapeOf_121 ?_
    exact k_retr hQQ X Y hr (Or.inl ⟨_, rfl⟩) hlk ⟨rfl, rfl, ⟨10, (show 10 < nY by decide), rfl⟩⟩ d_By_shapeOf_123
  by_cases h105 : a1 = 107
  · rw [h105]
    refine lv_lookup (off := 126) (tgt := 127) X.1 X.2.1 d_By_shapeOf_1 (by decide) (by decide) (by decide) ?_
    refine k_ldcS (i := 12) X KR (by decide) ⟨by decide, by decide⟩ d_By_shapeOf_127 ?_
    exact k_retr hQQ X Y hr (Or.inl ⟨_, rfl⟩) hlk ⟨rfl, rfl, ⟨12, (show 12 < nY by decide), rfl⟩⟩ d_By_shapeOf_129
  by_cases h106 : a1 = 108
  · rw [h106]
    refine lv_lookup (off := 105) (tgt := 106) X.1 X.2.1 d_By_shapeOf_1 (by decide) (by decide) (by decide) ?_
    refine k_ldcS (i := 5) X KR (by decide) ⟨by decide, by decide⟩ d_By_shapeOf_106 ?_
    exact k_retr hQQ X Y hr (Or.inl ⟨_, rfl⟩) hlk ⟨rfl, rfl, ⟨5, (show 5 < nY by decide), rfl⟩⟩ d_By_shapeOf_108
  by_cases h107 : a1 = 110
  · rw [h107]
    refine lv_lookup (off := 99) (tgt := 100) X.1 X.2.1 d_By_shapeOf_1 (by decide) (by decide) (by decide) ?_
    refine k_ldcS (i := 3) X KR (by decide) ⟨by decide, by decide⟩ d_By_shapeOf_100 ?_
    exact k_retr hQQ X Y hr (Or.inl ⟨_, rfl⟩) hlk ⟨rfl, rfl, ⟨3, (show 3 < nY by decide), rfl⟩⟩ d_By_shapeOf_102
  by_cases h108 : a1 = 112
  · rw [h108]
    refine lv_lookup (off := 108) (tgt := 109) X.1 X.2.1 d_By_shapeOf_1 (by decide) (by decide) (by decide) ?_
    refine k_ldcS (i := 6) X KR (by decide) ⟨by decide, by decide⟩ d_By_shapeOf_109 ?_
    exact k_retr hQQ X Y hr (Or.inl ⟨_, rfl⟩) hlk ⟨rfl, rfl, ⟨6, (show 6 < nY by decide), rfl⟩⟩ d_By_shapeOf_111
  by_cases h109 : a1 = 113
  · rw [h109]
    refine lv_lookup (off := 117) (tgt := 118) X.1 X.2.1 d_By_shapeOf_1 (by decide) (by decide) (by decide) ?_
    refine k_ldcS (i := 9) X KR (by decide) ⟨by decide, by decide⟩ d_By_shapeOf_118 ?_
    exact k_retr hQQ X Y hr (Or.inl ⟨_, rfl⟩) hlk ⟨rfl, rfl, ⟨9, (show 9 < nY by decide), rfl⟩⟩ d_By_shapeOf_120
  by_cases h110 : a1 = 120
  · rw [h110]
    refine lv_lookup (off := 114) (tgt := 115) X.1 X.2.1 d_By_shapeOf_1 (by decide) (by decide) (by decide) ?_
    refine k_ldcS (i := 8) X KR (by decide) ⟨by decide, by decide⟩ d_By_shapeOf_115 ?_
    exact k_retr hQQ X Y hr (Or.inl ⟨_, rfl⟩) hlk ⟨rfl, rfl, ⟨8, (show 8 < nY by decide), rfl⟩⟩ d_By_shapeOf_117
  by_cases h111 : a1 = 380
  · rw [h111]
    refine lv_lookup (off := 120) (tgt := 121) X.1 X.2.1 d_By_shapeOf_1 (by decide) (by decide) (by decide) ?_
    refine k_ldcS (i := 10) X KR (by decide) ⟨by decide, by decide⟩ d_By_shapeOf_121 ?_
    exact k_retr hQQ X Y hr (Or.inl ⟨_, rfl⟩) hlk ⟨rfl, rfl, ⟨10, (show 10 < nY by decide), rfl⟩⟩ d_By_shapeOf_123
  refine lv_lookup (off := 129) (tgt := 130) X.1 X.2.1 d_By_shapeOf_1 (by decide) ((z_osw ⟨by omega, by omega⟩ (show a1 ≠ 97 by omega)).trans ((z_osw ⟨by omega, by omega⟩ (show a1 ≠ 99 by omega)).trans ((z_osw ⟨by omega, by omega⟩ (show a1 ≠ 101 by omega)).trans ((z_osw ⟨by omega, by omega⟩ (show a1 ≠ 102 by omega)).trans ((z_osw ⟨by omega, by omega⟩ (show a1 ≠ 107 by omega)).trans ((z_osw ⟨by omega, by omega⟩ (show a1 ≠ 108 by omega)).trans ((z_osw ⟨by omega, by omega⟩ (show a1 ≠ 110 by omega)).trans ((z_osw ⟨by omega, by omega⟩ (show a1 ≠ 112 by omega)).trans ((z_osw ⟨by omega, by omega⟩ (show a1 ≠ 113 by omega)).trans ((z_osw ⟨by omega, by omega⟩ (show a1 ≠ 120 by omega)).trans ((z_osw ⟨by omega, by omega⟩ (show a1 ≠ 380 by omega)).trans rfl))))))))))) (by decide) ?_
  refine lv_iload_n X.1 X.2.1 d_By_shapeOf_130 rfl (lv_at hl 0 rfl) ?_
  refine t_ur (x_runS (As := [.int (iI a1)]) (rest := []) (n := 1) X hml hl.1 (c_By_messageShape l D E T κ L f H.size a1 (by omega) (by omega) S.1) (ok_k X Y hA KS KR) kl_By_By_messageShape ks_By_messageShape ki_By_messageShape ini_By ⟨rfl, rfl⟩ hd_By_messageShape.2 ⟨Nat.le_of_ble_eq_true rfl, Nat.le_of_ble_eq_true rfl⟩ rfl (Nat.le_of_ble_eq_true rfl) d_By_shapeOf_131 ⟨Nat.le_of_ble_eq_true rfl, Nat.le_of_ble_eq_true rfl⟩) X Y hA (fun b112 H locs Y p112 => ?_)
  obtain ⟨y112, k112, q112⟩ := p112
  subst q112
  exact k_retr hQQ X Y hr (Or.inl ⟨_, rfl⟩) hlk ⟨rfl, rfl, ⟨y112, k112, rfl⟩⟩ d_By_shapeOf_134
set_option maxHeartbeats 4000000 in
theorem c_By_init (l : Launch) (D : va_G) (E : cE) (T : cT) (κ : tK) (L : List Nat) (f : pF) (sz : Nat) (h : Nat) (m_h : h ∈ L) (r_h : (κ h).1 = 0) (e_h : f h = .inr (3, [.null, .int (iI 0)])) (a1 : Int) (l_a1 : (-2147483648) ≤ a1) (u_a1 : a1 ≤ 12288) (hw : tW E T κ L f) (N mx : Nat) (q0 : N = a1.toNat) (q1 : N ≤ mx) (q2 : mx ≤ 12288) : Met l y_By_init (k_By_init :: lw_tg) (kRm 1 60 1 mx) (va_Pc [.ref h, .int (iI a1)] (kPre D E T L f sz)) (va_Qv (aPv E T [13] [h] κ L f (fun (k : tK) (g : pF) => k h = (13, N))) (cPost D E (pA L sz)) (pA L sz)) 1 mx (pA L sz) := by
  refine k_enter (own := R_By) (by decide) rfl (Nat.le_of_ble_eq_true rfl) (fun p e s m below meth c ls AV QQ H locs hQQ X Y hA hin hr hlk hml hl KS KR => ?_)
  have hl : lv_has ls 2 [(0, .ref h), (1, .int (iI a1))] := hl
  have S : tS E T (tFr κ L [13] [h]) κ L f κ L f := tS_rf hw
  refine lv_aload_n X.1 X.2.1 d_By_init_0 rfl (lv_at hl 0 rfl) ?_
  refine W.objInit X.1 X.2.1 X.2.2.2.1 (X.2.2.1 _ ol_By) (X.2.2.1 _ o_inst) (X.2.2.1 _ o_code) rfl (by rw [hml]; exact hl.1) rfl d_By_init_1 (Nat.le_of_ble_eq_true rfl) (Nat.le_of_ble_eq_true rfl) ?_
  refine W.eq (g2 := F0 m 4 ls []) rfl ?_
  refine lv_aload_n X.1 X.2.1 d_By_init_4 rfl (lv_at hl 0 rfl) ?_
  refine lv_iconst (v := iI 0) X.1 X.2.1 d_By_init_5 (by decide) ?_
  refine lv_iload_n X.1 X.2.1 d_By_init_6 rfl (lv_at hl 1 rfl) ?_
  refine z_max X.1 X.2.1 (hml.trans hl.1.symm) X.2.2.2.1 (X.2.2.1 _ kl_By_mmax) (X.2.2.1 _ ks_mmax) (X.2.2.1 _ ini_Math) (X.2.2.1 _ ki_mmax) (Nat.le_of_ble_eq_true rfl) (Nat.le_of_ble_eq_true rfl) (Nat.zero_le _) (Nat.zero_le _) ⟨by omega, by omega⟩ ⟨by omega, by omega⟩ d_By_init_7 (fun z l1 l2 l3 => ?_)
  refine t_newB X Y S hA (fun b h9 => h9.1) (N := N) (mx := mx) (by omega) q1 (by omega) (Nat.le_refl _) (by show 0 + mx ≤ mx; omega) d_By_init_10 (fun q κ1 L1 f1 H Y S s1 k1 => ?_)
  have pr := s1.2.2.2 h ⟨m_h, by simp, by simp⟩
  have e1 : f1 h = .inr (3, [.null, .int (iI 0)]) := pr.1.trans e_h
  have m1 : h ∈ L1 := s1.2.1 _ m_h
  have r1 : (κ1 h).1 = 0 := by rw [pr.2]; exact r_h
  refine q_putF X.1 X.2.1 X.2.2.1 i_By t_By t_By_ok n_By X.2.2.2.1 X.2.2.2.2 Y m1 e1 rfl 0 (by decide) (X.2.2.1 _ lk_By_15) (fun _ h9 => h9) rfl hin rfl (t_By_ok 0 (by decide)) rfl rfl (Nat.le_of_ble_eq_true rfl) d_By_init_12 (fun H locs Y => ?_)
  have Y : pH D cCl (pA L sz) s.heap L1 (va_up f1 h (.inr (3, [.ref q, .int (iI 0)]))) H locs := Y
  have S := tS_up (x := .inr (3, [.ref q, .int (iI 0)])) S (fun h9 => h9.2.2 (List.mem_singleton.mpr rfl)) (fun h9 => absurd r1 h9)
  have hle : tLe κ1 (va_up κ1 h (13, N)) := tLe_raw r1
  have S := (tS_kind (k := (13, N)) S m1 r1 r_h (fun h9 => h9.2.2 (List.mem_singleton.mpr rfl)) (by rw [q_up]; exact ⟨_, rfl, okO_of ⟨⟨_, rfl, tLe_k hle k1⟩, ⟨_, rfl, by omega, by omega⟩, trivial⟩⟩)).1
  refine W.cs (cells' := 1) (slots' := mx) (by omega) (by omega) ?_
  exact c_retv hQQ X Y hr hlk ⟨_, S, va_up_self _ _ _⟩ d_By_init_15
set_option maxHeartbeats 4000000 in
set_option maxRecDepth 100000 in
theorem c_By_putKey (l : Launch) (D : va_G) (E : cE) (T : cT) (κ : tK) (L : List Nat) (f : pF) (sz : Nat) (h n0 : Nat) (k0 : κ h = (13, n0)) (x0 : n0 ≤ 12288) (a1 : Int) (l_a1 : 0 ≤ a1) (u_a1 : a1 ≤ 64) (a2 n2 : Nat) (k2 : tKey T κ a2 n2) (x2 : n2 = 0 ∨ n2 = 16 ∨ n2 = 32) (hw : tW E T κ L f) : Met l y_By_putKey (k_By_putKey :: lw_tg) (kRm 5 159 0 0) (va_Pc [.ref h, .int (iI a1), .ref a2] (kPre D E T L f sz)) (va_Qv (nPv E T [1, 13] κ L f (fun (g : pF) => True)) (cPost D E (pA L sz)) (pA L sz)) 0 0 (pA L sz) := by
  refine k_enter (own := R_By) (by decide) rfl (Nat.le_of_ble_eq_true rfl) (fun p e s m below meth c ls AV QQ H locs hQQ X Y hA hin hr hlk hml hl KS KR => ?_)
  have hl : lv_has ls 3 [(0, .ref h), (1, .int (iI a1)), (2, .ref a2)] := hl
  have S : tS E T (tFr κ L [1, 13] []) κ L f κ L f := tS_rf hw
  refine lv_aload_n X.1 X.2.1 d_By_putKey_0 rfl (lv_at hl 0 rfl) ?_
  refine lv_iload_n X.1 X.2.1 d_By_putKey_1 rfl (lv_at hl 1 rfl) ?_
  refine lv_aload_n X.1 X.2.1 d_By_putKey_2 rfl (lv_at hl 2 rfl) ?_
  refine t_ui (x_runS (As := [.ref a2]) (rest := [.int (iI a1), .ref h]) (n := 1) X hml hl.1 (c_Va_typeOf l D E T κ L f H.size a2 n2 k2 (by omega) S.1) (ok_k X Y hA KS KR) kl_By_Va_typeOf ks_Va_typeOf ki_Va_typeOf ini_Va ⟨rfl, rfl⟩ hd_Va_typeOf.2 ⟨Nat.le_of_ble_eq_true rfl, Nat.le_of_ble_eq_true rfl⟩ rfl (Nat.le_of_ble_eq_true rfl) d_By_putKey_3 ⟨Nat.le_of_ble_eq_true rfl, Nat.le_of_ble_eq_true rfl⟩) X Y hA (fun z101 H locs Y p101 => ?_)
  obtain ⟨l101, u101⟩ := p101
  refine lv_aload_n X.1 X.2.1 d_By_putKey_6 rfl (lv_at hl 2 rfl) ?_
  refine lv_aload_n X.1 X.2.1 d_By_putKey_7 rfl (lv_at hl 2 rfl) ?_
  refine t_alen X Y S KS (tKey_src k2) (by omega) d_By_putKey_8 ?_
  refine t_nv (t_runV (As := [.int (iI a1), .int (iI z101), .ref a2, .int (iI ((n2 : Int)))]) (rest := []) (n := 4) X Y S k0 hml hl.1 (c_By_putPair l D E T κ L f H.size h n0 k0 (by omega) a1 (by omega) (by omega) z101 (by omega) (by omega) a2 n2 (tKey_src k2) (by omega) ((n2 : Int)) (by omega) (by omega) S.1) (ok_k X Y hA KS KR) rfl kl_By_By_putPair ks_By_putPair kx_By_putPair ki_By_putPair ini_By ⟨rfl, rfl⟩ hd_By_putPair ⟨Nat.le_of_ble_eq_true rfl, Nat.le_of_ble_eq_true rfl⟩ rfl (Nat.le_of_ble_eq_true rfl) d_By_putKey_9 ⟨Nat.le_of_ble_eq_true rfl, Nat.le_of_ble_eq_true rfl⟩) X Y hA S (by decide) (fun f102 H locs Y S s102 p102 => ?_)
  exact c_retv hQQ X Y hr hlk ⟨rfl, S, trivial⟩ d_By_putKey_12
