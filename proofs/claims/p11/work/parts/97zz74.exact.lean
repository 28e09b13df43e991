set_option maxHeartbeats 4000000 in
set_option maxRecDepth 100000 in
theorem c_By_atX (l : Launch) (D : va_G) (E : cE) (T : cT) (κ : tK) (L : List Nat) (f : pF) (sz : Nat) (h n0 : Nat) (k0 : κ h = (13, n0)) (x0 : n0 ≤ 12288) (a1 : Int) (l_a1 : (-2147483648) ≤ a1) (u_a1 : a1 ≤ 2147483647) (hw : tW E T κ L f) (sz0 : Int) (g0 : gF f h 1 = .int (iI sz0)) (g1 : 0 ≤ sz0) (g2 : sz0 ≤ (n0 : Int)) : Met l y_By_at (k_By_at :: lw_tg) (kRm 1 60 0 0) (va_Pc [.ref h, .int (iI a1)] (kPre D E T L f sz)) (va_Qi (uPi L f (fun (z : Int) => (-1) ≤ z ∧ z ≤ 255 ∧ (z = -1 ∧ (a1 < 0 ∨ sz0 ≤ a1) ∨ 0 ≤ a1 ∧ a1 < sz0 ∧ z = rb f h a1))) (cPost D E (pA L sz)) (pA L sz)) 0 0 (pA L sz) := by
  refine k_enter (own := R_By) (by decide) rfl (Nat.le_of_ble_eq_true rfl) (fun p e s m below meth c ls AV QQ H locs hQQ X Y hA hin hr hlk hml hl KS KR => ?_)
  have hl : lv_has ls 2 [(0, .ref h), (1, .int (iI a1))] := hl
  have S : tS E T (tFr κ L [] []) κ L f κ L f := tS_rf hw
  refine lv_iload_n X.1 X.2.1 d_By_at_0 rfl (lv_at hl 1 rfl) ?_
  refine z_if_lt (tgt := 25) X.1 X.2.1 d_By_at_1 (by decide) ⟨by omega, by omega⟩ (fun h101 => ?_) (fun h101 => ?_)
  · refine lv_iconst (v := iI (-1)) X.1 X.2.1 d_By_at_25 (by decide) ?_
    exact c_reti hQQ X Y hr hlk ⟨rfl, rfl, (-1), rfl, ⟨by omega, by omega, by omega⟩⟩ d_By_at_26
  · refine lv_iload_n X.1 X.2.1 d_By_at_4 rfl (lv_at hl 1 rfl) ?_
    refine lv_aload_n X.1 X.2.1 d_By_at_5 rfl (lv_at hl 0 rfl) ?_
    refine t_get0 (ci := 3) X Y S k0 rfl i_By 1 (by decide) rfl lk_By_21 (fun _ h9 => h9) d_By_at_6 g0 ?_
    refine z_icmp_ge (tgt := 25) X.1 X.2.1 d_By_at_9 (by decide) ⟨by omega, by omega⟩ ⟨by omega, by omega⟩ (fun h102 => ?_) (fun h102 => ?_)
    · refine lv_iconst (v := iI (-1)) X.1 X.2.1 d_By_at_25 (by decide) ?_
      exact c_reti hQQ X Y hr hlk ⟨rfl, rfl, (-1), rfl, ⟨by omega, by omega, by omega⟩⟩ d_By_at_26
    · refine lv_aload_n X.1 X.2.1 d_By_at_12 rfl (lv_at hl 0 rfl) ?_
      refine t_getrow (ci := 3) X Y S k0 rfl i_By 0 (by decide) rfl lk_By_15 (fun _ h9 => h9) d_By_at_13 (fun b103 e103 k103 => ?_)
      refine lv_iload_n X.1 X.2.1 d_By_at_16 rfl (lv_at hl 1 rfl) ?_
      refine t_baldx X Y S k103 (by omega) (by omega) (by omega) d_By_at_17 (fun z104 q104 l104 u104 => ?_)
      refine lv_sipush (v := iI 255) X.1 X.2.1 d_By_at_18 (by decide) ?_
      refine z_iand255 X.1 X.2.1 d_By_at_21 ?_
      have r105 : z104 % 256 = rb f h a1 := by rw [rb_of e103, q104, show (a1 : Int) = a1 by omega]
      refine lv_goto (tgt := 26) X.1 X.2.1 d_By_at_22 (by decide) ?_
      exact c_reti hQQ X Y hr hlk ⟨rfl, rfl, z104 % 256, rfl, ⟨by omega, by omega, by omega⟩⟩ d_By_at_26
set_option maxHeartbeats 4000000 in
set_option maxRecDepth 100000 in
theorem c_By_stopX (l : Launch) (D : va_G) (E : cE) (T : cT) (κ : tK) (L : List Nat) (f : pF) (sz : Nat) (h n0 : Nat) (k0 : κ h = (13, n0)) (x0 : n0 ≤ 12288) (a1 : Int) (l_a1 : (-1) ≤ a1) (u_a1 : a1 ≤ 20200) (a2 : Int) (l_a2 : (-1) ≤ a2) (u_a2 : a2 ≤ 20200) (hw : tW E T κ L f) (sz0 : Int) (g0 : gF f h 1 = .int (iI sz0)) (g1 : 0 ≤ sz0) (g2 : sz0 ≤ (n0 : Int)) : Met l y_By_stop (k_By_stop :: lw_tg) (kRm 1 60 0 0) (va_Pc [.ref h, .int (iI a1), .int (iI a2)] (kPre D E T L f sz)) (va_Qi (uPi L f (fun (z : Int) => (-1) ≤ z ∧ z ≤ 12288 ∧ (z = -1 ∨ 0 ≤ a1 ∧ a1 + 2 ≤ z ∧ z ≤ a2 ∧ a2 ≤ sz0) ∧ StR (rb f h) sz0 a1 a2 z)) (cPost D E (pA L sz)) (pA L sz)) 0 0 (pA L sz) := by
  refine k_enter (own := R_By) (by decide) rfl (Nat.le_of_ble_eq_true rfl) (fun p e s m below meth c ls AV QQ H locs hQQ X Y hA hin hr hlk hml hl KS KR => ?_)
  have hl : lv_has ls 6 [(0, .ref h), (1, .int (iI a1)), (2, .int (iI a2))] := hl
  have S : tS E T (tFr κ L [] []) κ L f κ L f := tS_rf hw
  refine lv_iload_n X.1 X.2.1 d_By_stop_0 rfl (lv_at hl 1 rfl) ?_
  refine z_if_lt (tgt := 19) X.1 X.2.1 d_By_stop_1 (by decide) ⟨by omega, by omega⟩ (fun h101 => ?_) (fun h101 => ?_)
  · refine lv_iconst (v := iI (-1)) X.1 X.2.1 d_By_stop_19 (by decide) ?_
    exact c_reti hQQ X Y hr hlk ⟨rfl, rfl, (-1), rfl, ⟨by omega, by omega, by omega, by unfold StR; omega⟩⟩ d_By_stop_20
  · refine lv_iload_n X.1 X.2.1 d_By_stop_4 rfl (lv_at hl 2 rfl) ?_
    refine lv_aload_n X.1 X.2.1 d_By_stop_5 rfl (lv_at hl 0 rfl) ?_
    refine t_get0 (ci := 3) X Y S k0 rfl i_By 1 (by decide) rfl lk_By_21 (fun _ h9 => h9) d_By_stop_6 g0 ?_
    refine z_icmp_gt (tgt := 19) X.1 X.2.1 d_By_stop_9 (by decide) ⟨by omega, by omega⟩ ⟨by omega, by omega⟩ (fun h102 => ?_) (fun h102 => ?_)
    · refine lv_iconst (v := iI (-1)) X.1 X.2.1 d_By_stop_19 (by decide) ?_
      exact c_reti hQQ X Y hr hlk ⟨rfl, rfl, (-1), rfl, ⟨by omega, by omega, by omega, by unfold StR; omega⟩⟩ d_By_stop_20
    · refine lv_iload_n X.1 X.2.1 d_By_stop_12 rfl (lv_at hl 2 rfl) ?_
      refine lv_iload_n X.1 X.2.1 d_By_stop_13 rfl (lv_at hl 1 rfl) ?_
      refine z_isub X.1 X.2.1 d_By_stop_14 ?_
      refine lv_iconst (v := iI 2) X.1 X.2.1 d_By_stop_15 (by decide) ?_
      refine z_icmp_ge (tgt := 21) X.1 X.2.1 d_By_stop_16 (by decide) ⟨by omega, by omega⟩ ⟨by omega, by omega⟩ (fun h103 => ?_) (fun h103 => ?_)
      · refine lv_aload_n X.1 X.2.1 d_By_stop_21 rfl (lv_at hl 0 rfl) ?_
        refine t_getrow (ci := 3) X Y S k0 rfl i_By 0 (by decide) rfl lk_By_15 (fun _ h9 => h9) d_By_stop_22 (fun b104 e104 k104 => ?_)
        refine lv_iload_n X.1 X.2.1 d_By_stop_25 rfl (lv_at hl 1 rfl) ?_
        refine lv_iconst (v := iI 1) X.1 X.2.1 d_By_stop_26 (by decide) ?_
        refine z_iadd X.1 X.2.1 d_By_stop_27 ?_
        refine t_baldx X Y S k104 (by omega) (by omega) (by omega) d_By_stop_28 (fun z105 q105 l105 u105 => ?_)
        refine lv_sipush (v := iI 255) X.1 X.2.1 d_By_stop_29 (by decide) ?_
        refine z_iand255 X.1 X.2.1 d_By_stop_32 ?_
        have r106 : z105 % 256 = rb f h (a1 + 1) := by rw [rb_of e104, q105, show (a1 + 1 : Int) = a1 + 1 by omega]
        refine lv_istore_n (lv' := [(3, .int (iI (z105 % 256))), (0, .ref h), (1, .int (iI a1)), (2, .int (iI a2))]) X.1 X.2.1 d_By_stop_33 rfl hl (by decide) rfl (fun ls hl => ?_)
        refine lv_iload_n X.1 X.2.1 d_By_stop_34 rfl (lv_at hl 2 rfl) ?_
        refine lv_iconst (v := iI 2) X.1 X.2.1 d_By_stop_35 (by decide) ?_
        refine z_iadd X.1 X.2.1 d_By_stop_36 ?_
        refine lv_istore (lv' := [(4, .int (iI (a1 + 2))), (3, .int (iI (z105 % 256))), (0, .ref h), (1, .int (iI a1)), (2, .int (iI a2))]) X.1 X.2.1 d_By_stop_37 hl (by decide) rfl (fun ls hl => ?_)
        refine lv_iload_n X.1 X.2.1 d_By_stop_39 rfl (lv_at hl 1 rfl) ?_
        refine lv_sipush (v := iI 128) X.1 X.2.1 d_By_stop_40 (by decide) ?_
        refine z_icmp_lt (tgt := 154) X.1 X.2.1 d_By_stop_43 (by decide) ⟨by omega, by omega⟩ ⟨by omega, by omega⟩ (fun h107 => ?_) (fun h107 => ?_)
        · refine lv_iload_n X.1 X.2.1 d_By_stop_154 rfl (lv_at hl 1 rfl) ?_
          refine lv_iload_n X.1 X.2.1 d_By_stop_155 rfl (lv_at hl 4 rfl) ?_
          refine lv_iload X.1 X.2.1 d_By_stop_156 (lv_at hl 0 rfl) ?_
          refine z_isub X.1 X.2.1 d_By_stop_158 ?_
          refine z_icmp_gt (tgt := 169) X.1 X.2.1 d_By_stop_159 (by decide) ⟨by omega, by omega⟩ ⟨by omega, by omega⟩ (fun h108 => ?_) (fun h108 => ?_)
          · refine lv_iconst (v := iI (-1)) X.1 X.2.1 d_By_stop_169 (by decide) ?_
            exact c_reti hQQ X Y hr hlk ⟨rfl, rfl, (-1), rfl, ⟨by omega, by omega, by omega, by unfold StR; omega⟩⟩ d_By_stop_170
          · refine lv_iload X.1 X.2.1 d_By_stop_162 (lv_at hl 0 rfl) ?_
            refine lv_iload_n X.1 X.2.1 d_By_stop_164 rfl (lv_at hl 1 rfl) ?_
            refine z_iadd X.1 X.2.1 d_By_stop_165 ?_
            refine lv_goto (tgt := 170) X.1 X.2.1 d_By_stop_166 (by decide) ?_
            exact c_reti hQQ X Y hr hlk ⟨rfl, rfl, (a1 + 2) + (z105 % 256), rfl, ⟨by omega, by omega, by omega, by unfold StR; omega⟩⟩ d_By_stop_170
        · refine lv_iload_n X.1 X.2.1 d_By_stop_46 rfl (lv_at hl 1 rfl) ?_
          refine lv_sipush (v := iI 128) X.1 X.2.1 d_By_stop_47 (by decide) ?_
          refine z_isub X.1 X.2.1 d_By_stop_50 ?_
          refine lv_istore (lv' := [(5, .int (iI ((z105 % 256) - 128))), (4, .int (iI (a1 + 2))), (3, .int (iI (z105 % 256))), (0, .ref h), (1, .int (iI a1)), (2, .int (iI a2))]) X.1 X.2.1 d_By_stop_51 hl (by decide) rfl (fun ls hl => ?_)
          refine lv_iload X.1 X.2.1 d_By_stop_53 (lv_at hl 0 rfl) ?_
          refine lv_iconst (v := iI 1) X.1 X.2.1 d_By_stop_55 (by decide) ?_
          refine z_icmp_lt (tgt := 74) X.1 X.2.1 d_By_stop_56 (by decide) ⟨by omega, by omega⟩ ⟨by omega, by omega⟩ (fun h109 => ?_) (fun h109 => ?_)
          · refine lv_iconst (v := iI (-1)) X.1 X.2.1 d_By_stop_74 (by decide) ?_
            exact c_reti hQQ X Y hr hlk ⟨rfl, rfl, (-1), rfl, ⟨by omega, by omega, by omega, by unfold StR; omega⟩⟩ d_By_stop_75
          · refine lv_iload X.1 X.2.1 d_By_stop_59 (lv_at hl 0 rfl) ?_
            refine lv_iconst (v := iI 2) X.1 X.2.1 d_By_stop_61 (by decide) ?_
            refine z_icmp_gt (tgt := 74) X.1 X.2.1 d_By_stop_62 (by decide) ⟨by omega, by omega⟩ ⟨by omega, by omega⟩ (fun h110 => ?_) (fun h110 => ?_)
            · refine lv_iconst (v := iI (-1)) X.1 X.2.1 d_By_stop_74 (by decide) ?_
              exact c_reti hQQ X Y hr hlk ⟨rfl, rfl, (-1), rfl, ⟨by omega, by omega, by omega, by unfold StR; omega⟩⟩ d_By_stop_75
            · refine lv_iload X.1 X.2.1 d_By_stop_65 (lv_at hl 0 rfl) ?_
              refine lv_iload_n X.1 X.2.1 d_By_stop_67 rfl (lv_at hl 5 rfl) ?_
              refine lv_iload X.1 X.2.1 d_By_stop_68 (lv_at hl 1 rfl) ?_
              refine z_isub X.1 X.2.1 d_By_stop_70 ?_
              refine z_icmp_le (tgt := 76) X.1 X.2.1 d_By_stop_71 (by decide) ⟨by omega, by omega⟩ ⟨by omega, by omega⟩ (fun h111 => ?_) (fun h111 => ?_)
              · refine lv_iload X.1 X.2.1 d_By_stop_76 (lv_at hl 0 rfl) ?_
                refine lv_iconst (v := iI 1) X.1 X.2.1 d_By_stop_78 (by decide) ?_
                refine z_icmp_ne (tgt := 96) X.1 X.2.1 d_By_stop_79 (by decide) ⟨by omega, by omega⟩ ⟨by omega, by omega⟩ (fun h112 => ?_) (fun h112 => ?_)
                · refine lv_aload_n X.1 X.2.1 d_By_stop_96 rfl (lv_at hl 3 rfl) ?_
                  refine t_get0 (ci := 3) X Y S k0 rfl i_By 0 (by decide) rfl lk_By_15 (fun _ h9 => h9) d_By_stop_97 e104 ?_
                  refine lv_iload X.1 X.2.1 d_By_stop_100 (lv_at hl 1 rfl) ?_
                  refine t_baldx X Y S k104 (by omega) (by omega) (by omega) d_By_stop_102 (fun z113 q113 l113 u113 => ?_)
                  refine lv_sipush (v := iI 255) X.1 X.2.1 d_By_stop_103 (by decide) ?_
                  refine z_iand255 X.1 X.2.1 d_By_stop_106 ?_
                  have r114 : z113 % 256 = rb f h (a1 + 2) := by rw [rb_of e104, q113, show (a1 + 2 : Int) = a1 + 2 by omega]
                  refine lv_sipush (v := iI 256) X.1 X.2.1 d_By_stop_107 (by decide) ?_
                  refine z_imul X.1 X.2.1 d_By_stop_110 ?_
                  refine lv_aload_n X.1 X.2.1 d_By_stop_111 rfl (lv_at hl 3 rfl) ?_
                  refine t_get0 (ci := 3) X Y S k0 rfl i_By 0 (by decide) rfl lk_By_15 (fun _ h9 => h9) d_By_stop_112 e104 ?_
                  refine lv_iload X.1 X.2.1 d_By_stop_115 (lv_at hl 1 rfl) ?_
                  refine lv_iconst (v := iI 1) X.1 X.2.1 d_By_stop_117 (by decide) ?_
                  refine z_iadd X.1 X.2.1 d_By_stop_118 ?_
                  refine t_baldx X Y S k104 (by omega) (by omega) (by omega) d_By_stop_119 (fun z115 q115 l115 u115 => ?_)
                  refine lv_sipush (v := iI 255) X.1 X.2.1 d_By_stop_120 (by decide) ?_
                  refine z_iand255 X.1 X.2.1 d_By_stop_123 ?_
                  have r116 : z115 % 256 = rb f h (a1 + 3) := by rw [rb_of e104, q115, show ((a1 + 2) + 1 : Int) = a1 + 3 by omega]
                  refine z_iadd X.1 X.2.1 d_By_stop_124 ?_
                  refine lv_istore_n (lv' := [(3, .int (iI (((z113 % 256) * 256) + (z115 % 256)))), (5, .int (iI ((z105 % 256) - 128))), (4, .int (iI (a1 + 2))), (0, .ref h), (1, .int (iI a1)), (2, .int (iI a2))]) X.1 X.2.1 d_By_stop_125 rfl hl (by decide) rfl (fun ls hl => ?_)
                  refine lv_iload X.1 X.2.1 d_By_stop_126 (lv_at hl 2 rfl) ?_
                  refine lv_iload X.1 X.2.1 d_By_stop_128 (lv_at hl 1 rfl) ?_
                  refine z_iadd X.1 X.2.1 d_By_stop_130 ?_
                  refine lv_istore (lv' := [(4, .int (iI ((a1 + 2) + ((z105 % 256) - 128)))), (3, .int (iI (((z113 % 256) * 256) + (z115 % 256)))), (5, .int (iI ((z105 % 256) - 128))), (0, .ref h), (1, .int (iI a1)), (2, .int (iI a2))]) X.1 X.2.1 d_By_stop_131 hl (by decide) rfl (fun ls hl => ?_)
                  refine lv_iload_n X.1 X.2.1 d_By_stop_133 rfl (lv_at hl 1 rfl) ?_
                  refine lv_iload X.1 X.2.1 d_By_stop_134 (lv_at hl 2 rfl) ?_
                  refine lv_iconst (v := iI 1) X.1 X.2.1 d_By_stop_136 (by decide) ?_
                  refine z_icmp_ne (tgt := 146) X.1 X.2.1 d_By_stop_137 (by decide) ⟨by omega, by omega⟩ ⟨by omega, by omega⟩ (fun h117 => ?_) (fun h117 => False.elim (by omega))
                  · refine lv_sipush (v := iI 256) X.1 X.2.1 d_By_stop_146 (by decide) ?_
                    refine z_icmp_ge (tgt := 154) X.1 X.2.1 d_By_stop_149 (by decide) ⟨by omega, by omega⟩ ⟨by omega, by omega⟩ (fun h118 => ?_) (fun h118 => ?_)
                    · refine lv_iload_n X.1 X.2.1 d_By_stop_154 rfl (lv_at hl 1 rfl) ?_
                      refine lv_iload_n X.1 X.2.1 d_By_stop_155 rfl (lv_at hl 5 rfl) ?_
                      refine lv_iload X.1 X.2.1 d_By_stop_156 (lv_at hl 0 rfl) ?_
                      refine z_isub X.1 X.2.1 d_By_stop_158 ?_
                      refine z_icmp_gt (tgt := 169) X.1 X.2.1 d_By_stop_159 (by decide) ⟨by omega, by omega⟩ ⟨by omega, by omega⟩ (fun h119 => ?_) (fun h119 => ?_)
                      · refine lv_iconst (v := iI (-1)) X.1 X.2.1 d_By_stop_169 (by decide) ?_
                        exact c_reti hQQ X Y hr hlk ⟨rfl, rfl, (-1), rfl, ⟨by omega, by omega, by omega, by unfold StR; omega⟩⟩ d_By_stop_170
                      · refine lv_iload X.1 X.2.1 d_By_stop_162 (lv_at hl 0 rfl) ?_
                        refine lv_iload_n X.1 X.2.1 d_By_stop_164 rfl (lv_at hl 1 rfl) ?_
                        refine z_iadd X.1 X.2.1 d_By_stop_165 ?_
                        refine lv_goto (tgt := 170) X.1 X.2.1 d_By_stop_166 (by decide) ?_
                        exact c_reti hQQ X Y hr hlk ⟨rfl, rfl, ((a1 + 2) + ((z105 % 256) - 128)) + (((z113 % 256) * 256) + (z115 % 256)), rfl, ⟨by omega, by omega, by omega, by unfold StR; omega⟩⟩ d_By_stop_170
                    · refine lv_iconst (v := iI (-1)) X.1 X.2.1 d_By_stop_152 (by decide) ?_
                      exact c_reti hQQ X Y hr hlk ⟨rfl, rfl, (-1), rfl, ⟨by omega, by omega, by omega, by unfold StR; omega⟩⟩ d_By_stop_153
                · refine lv_aload_n X.1 X.2.1 d_By_stop_82 rfl (lv_at hl 3 rfl) ?_
                  refine t_get0 (ci := 3) X Y S k0 rfl i_By 0 (by decide) rfl lk_By_15 (fun _ h9 => h9) d_By_stop_83 e104 ?_
                  refine lv_iload X.1 X.2.1 d_By_stop_86 (lv_at hl 1 rfl) ?_
                  refine t_baldx X Y S k104 (by omega) (by omega) (by omega) d_By_stop_88 (fun z120 q120 l120 u120 => ?_)
                  refine lv_sipush (v := iI 255) X.1 X.2.1 d_By_stop_89 (by decide) ?_
                  refine z_iand255 X.1 X.2.1 d_By_stop_92 ?_
                  have r121 : z120 % 256 = rb f h (a1 + 2) := by rw [rb_of e104, q120, show (a1 + 2 : Int) = a1 + 2 by omega]
                  refine lv_goto (tgt := 125) X.1 X.2.1 d_By_stop_93 (by decide) ?_
                  refine lv_istore_n (lv' := [(3, .int (iI (z120 % 256))), (5, .int (iI ((z105 % 256) - 128))), (4, .int (iI (a1 + 2))), (0, .ref h), (1, .int (iI a1)), (2, .int (iI a2))]) X.1 X.2.1 d_By_stop_125 rfl hl (by decide) rfl (fun ls hl => ?_)
                  refine lv_iload X.1 X.2.1 d_By_stop_126 (lv_at hl 2 rfl) ?_
                  refine lv_iload X.1 X.2.1 d_By_stop_128 (lv_at hl 1 rfl) ?_
                  refine z_iadd X.1 X.2.1 d_By_stop_130 ?_
                  refine lv_istore (lv' := [(4, .int (iI ((a1 + 2) + ((z105 % 256) - 128)))), (3, .int (iI (z120 % 256))), (5, .int (iI ((z105 % 256) - 128))), (0, .ref h), (1, .int (iI a1)), (2, .int (iI a2))]) X.1 X.2.1 d_By_stop_131 hl (by decide) rfl (fun ls hl => ?_)
                  refine lv_iload_n X.1 X.2.1 d_By_stop_133 rfl (lv_at hl 1 rfl) ?_
                  refine lv_iload X.1 X.2.1 d_By_stop_134 (lv_at hl 2 rfl) ?_
                  refine lv_iconst (v := iI 1) X.1 X.2.1 d_By_stop_136 (by decide) ?_
                  refine z_icmp_ne (tgt := 146) X.1 X.2.1 d_By_stop_137 (by decide) ⟨by omega, by omega⟩ ⟨by omega, by omega⟩ (fun h122 => False.elim (by omega)) (fun h122 => ?_)
                  · refine lv_sipush (v := iI 128) X.1 X.2.1 d_By_stop_140 (by decide) ?_
                    refine lv_goto (tgt := 149) X.1 X.2.1 d_By_stop_143 (by decide) ?_
                    refine z_icmp_ge (tgt := 154) X.1 X.2.1 d_By_stop_149 (by decide) ⟨by omega, by omega⟩ ⟨by omega, by omega⟩ (fun h123 => ?_) (fun h123 => ?_)
                    · refine lv_iload_n X.1 X.2.1 d_By_stop_154 rfl (lv_at hl 1 rfl) ?_
                      refine lv_iload_n X.1 X.2.1 d_By_stop_155 rfl (lv_at hl 5 rfl) ?_
                      refine lv_iload X.1 X.2.1 d_By_stop_156 (lv_at hl 0 rfl) ?_
                      refine z_isub X.1 X.2.1 d_By_stop_158 ?_
                      refine z_icmp_gt (tgt := 169) X.1 X.2.1 d_By_stop_159 (by decide) ⟨by omega, by omega⟩ ⟨by omega, by omega⟩ (fun h124 => ?_) (fun h124 => ?_)
                      · refine lv_iconst (v := iI (-1)) X.1 X.2.1 d_By_stop_169 (by decide) ?_
                        exact c_reti hQQ X Y hr hlk ⟨rfl, rfl, (-1), rfl, ⟨by omega, by omega, by omega, by unfold StR; omega⟩⟩ d_By_stop_170
                      · refine lv_iload X.1 X.2.1 d_By_stop_162 (lv_at hl 0 rfl) ?_
                        refine lv_iload_n X.1 X.2.1 d_By_stop_164 rfl (lv_at hl 1 rfl) ?_
                        refine z_iadd X.1 X.2.1 d_By_stop_165 ?_
                        refine lv_goto (tgt := 170) X.1 X.2.1 d_By_stop_166 (by decide) ?_
                        exact c_reti hQQ X Y hr hlk ⟨rfl, rfl, ((a1 + 2) + ((z105 % 256) - 128)) + (z120 % 256), rfl, ⟨by omega, by omega, by omega, by unfold StR; omega⟩⟩ d_By_stop_170
                    · refine lv_iconst (v := iI (-1)) X.1 X.2.1 d_By_stop_152 (by decide) ?_
                      exact c_reti hQQ X Y hr hlk ⟨rfl, rfl, (-1), rfl, ⟨by omega, by omega, by omega, by unfold StR; omega⟩⟩ d_By_stop_153
              · refine lv_iconst (v := iI (-1)) X.1 X.2.1 d_By_stop_74 (by decide) ?_
                exact c_reti hQQ X Y hr hlk ⟨rfl, rfl, (-1), rfl, ⟨by omega, by omega, by omega, by unfold StR; omega⟩⟩ d_By_stop_75
      · refine lv_iconst (v := iI (-1)) X.1 X.2.1 d_By_stop_19 (by decide) ?_
        exact c_reti hQQ X Y hr hlk ⟨rfl, rfl, (-1), rfl, ⟨by omega, by omega, by omega, by unfold StR; omega⟩⟩ d_By_stop_20
set_option maxHeartbeats 4000000 in
set_option maxRecDepth 100000 in
theorem c_By_bodyX (l : Launch) (D : va_G) (E : cE) (T : cT) (κ : tK) (L : List Nat) (f : pF) (sz : Nat) (h n0 : Nat) (k0 : κ h = (13, n0)) (x0 : n0 ≤ 12288) (a1 : Int) (l_a1 : (-1) ≤ a1) (u_a1 : a1 ≤ 20200) (hw : tW E T κ L f) (sz0 : Int) (g0 : gF f h 1 = .int (iI sz0)) (g1 : 0 ≤ sz0) (g2 : sz0 ≤ (n0 : Int)) : Met l y_By_body (k_By_body :: lw_tg) (kRm 1 60 0 0) (va_Pc [.ref h, .int (iI a1)] (kPre D E T L f sz)) (va_Qi (uPi L f (fun (z : Int) => (-1) ≤ z ∧ z ≤ 12420 ∧ (z = -1 ∧ (a1 < 0 ∨ sz0 ≤ a1 + 1) ∨ 0 ≤ a1 ∧ a1 + 1 < sz0 ∧ a1 + 2 ≤ z ∧ z ≤ a1 + 129) ∧ BdR (rb f h) sz0 a1 z)) (cPost D E (pA L sz)) (pA L sz)) 0 0 (pA L sz) := by
  refine k_enter (own := R_By) (by decide) rfl (Nat.le_of_ble_eq_true rfl) (fun p e s m below meth c ls AV QQ H locs hQQ X Y hA hin hr hlk hml hl KS KR => ?_)
  have hl : lv_has ls 3 [(0, .ref h), (1, .int (iI a1))] := hl
  have S : tS E T (tFr κ L [] []) κ L f κ L f := tS_rf hw
  refine lv_iload_n X.1 X.2.1 d_By_body_0 rfl (lv_at hl 1 rfl) ?_
  refine z_if_lt (tgt := 14) X.1 X.2.1 d_By_body_1 (by decide) ⟨by omega, by omega⟩ (fun h101 => ?_) (fun h101 => ?_)
  · refine lv_iconst (v := iI (-1)) X.1 X.2.1 d_By_body_14 (by decide) ?_
    exact c_reti hQQ X Y hr hlk ⟨rfl, rfl, (-1), rfl, ⟨by omega, by omega, by omega, by unfold BdR; omega⟩⟩ d_By_body_15
  · refine lv_iload_n X.1 X.2.1 d_By_body_4 rfl (lv_at hl 1 rfl) ?_
    refine lv_iconst (v := iI 1) X.1 X.2.1 d_By_body_5 (by decide) ?_
    refine z_iadd X.1 X.2.1 d_By_body_6 ?_
    refine lv_aload_n X.1 X.2.1 d_By_body_7 rfl (lv_at hl 0 rfl) ?_
    refine t_get0 (ci := 3) X Y S k0 rfl i_By 1 (by decide) rfl lk_By_21 (fun _ h9 => h9) d_By_body_8 g0 ?_
    refine z_icmp_lt (tgt := 16) X.1 X.2.1 d_By_body_11 (by decide) ⟨by omega, by omega⟩ ⟨by omega, by omega⟩ (fun h102 => ?_) (fun h102 => ?_)
    · refine lv_aload_n X.1 X.2.1 d_By_body_16 rfl (lv_at hl 0 rfl) ?_
      refine t_getrow (ci := 3) X Y S k0 rfl i_By 0 (by decide) rfl lk_By_15 (fun _ h9 => h9) d_By_body_17 (fun b103 e103 k103 => ?_)
      refine lv_iload_n X.1 X.2.1 d_By_body_20 rfl (lv_at hl 1 rfl) ?_
      refine lv_iconst (v := iI 1) X.1 X.2.1 d_By_body_21 (by decide) ?_
      refine z_iadd X.1 X.2.1 d_By_body_22 ?_
      refine t_baldx X Y S k103 (by omega) (by omega) (by omega) d_By_body_23 (fun z104 q104 l104 u104 => ?_)
      refine lv_sipush (v := iI 255) X.1 X.2.1 d_By_body_24 (by decide) ?_
      refine z_iand255 X.1 X.2.1 d_By_body_27 ?_
      have r105 : z104 % 256 = rb f h (a1 + 1) := by rw [rb_of e103, q104, show (a1 + 1 : Int) = a1 + 1 by omega]
      refine lv_istore_n (lv' := [(2, .int (iI (z104 % 256))), (0, .ref h), (1, .int (iI a1))]) X.1 X.2.1 d_By_body_28 rfl hl (by decide) rfl (fun ls hl => ?_)
      refine lv_iload_n X.1 X.2.1 d_By_body_29 rfl (lv_at hl 0 rfl) ?_
      refine lv_sipush (v := iI 128) X.1 X.2.1 d_By_body_30 (by decide) ?_
      refine z_icmp_ge (tgt := 42) X.1 X.2.1 d_By_body_33 (by decide) ⟨by omega, by omega⟩ ⟨by omega, by omega⟩ (fun h106 => ?_) (fun h106 => ?_)
      · refine lv_iload_n X.1 X.2.1 d_By_body_42 rfl (lv_at hl 2 rfl) ?_
        refine lv_iconst (v := iI 2) X.1 X.2.1 d_By_body_43 (by decide) ?_
        refine z_iadd X.1 X.2.1 d_By_body_44 ?_
        refine lv_iload_n X.1 X.2.1 d_By_body_45 rfl (lv_at hl 0 rfl) ?_
        refine z_iadd X.1 X.2.1 d_By_body_46 ?_
        refine lv_sipush (v := iI 128) X.1 X.2.1 d_By_body_47 (by decide) ?_
        refine z_isub X.1 X.2.1 d_By_body_50 ?_
        exact c_reti hQQ X Y hr hlk ⟨rfl, rfl, ((a1 + 2) + (z104 % 256)) - 128, rfl, ⟨by omega, by omega, by omega, by unfold BdR; omega⟩⟩ d_By_body_51
      · refine lv_iload_n X.1 X.2.1 d_By_body_36 rfl (lv_at hl 2 rfl) ?_
        refine lv_iconst (v := iI 2) X.1 X.2.1 d_By_body_37 (by decide) ?_
        refine z_iadd X.1 X.2.1 d_By_body_38 ?_
        refine lv_goto (tgt := 51) X.1 X.2.1 d_By_body_39 (by decide) ?_
        exact c_reti hQQ X Y hr hlk ⟨rfl, rfl, a1 + 2, rfl, ⟨by omega, by omega, by omega, by unfold BdR; omega⟩⟩ d_By_body_51
    · refine lv_iconst (v := iI (-1)) X.1 X.2.1 d_By_body_14 (by decide) ?_
      exact c_reti hQQ X Y hr hlk ⟨rfl, rfl, (-1), rfl, ⟨by omega, by omega, by omega, by unfold BdR; omega⟩⟩ d_By_body_15
set_option maxHeartbeats 4000000 in
set_option maxRecDepth 100000 in
theorem c_By_tagOfX (l : Launch) (D : va_G) (E : cE) (T : cT) (κ : tK) (L : List Nat) (f : pF) (sz : Nat) (a1 : Int) (l_a1 : (-2147483648) ≤ a1) (u_a1 : a1 ≤ 2147483647) (hw : tW E T κ L f) : Met l y_By_tagOf (k_By_tagOf :: lw_tg) (kRm 1 60 0 0) (va_Pc [.int (iI a1)] (kPre D E T L f sz)) (va_Qi (uPi L f (fun (z : Int) => (-2147483648) ≤ z ∧ z ≤ 2147483647 ∧ ((256 ≤ a1 → z = a1 - 256) ∧ (a1 < 256 → a1 ≠ 107 → z = 48)))) (cPost D E (pA L sz)) (pA L sz)) 0 0 (pA L sz) := by
  refine k_enter (own := R_By) (by decide) rfl (Nat.le_of_ble_eq_true rfl) (fun p e s m below meth c ls AV QQ H locs hQQ X Y hA hin hr hlk hml hl KS KR => ?_)
  have hl : lv_has ls 1 [(0, .int (iI a1))] := hl
  have S : tS E T (tFr κ L [] []) κ L f κ L f := tS_rf hw
  refine lv_iload_n X.1 X.2.1 d_By_tagOf_0 rfl (lv_at hl 0 rfl) ?_
  refine lv_sipush (v := iI 256) X.1 X.2.1 d_By_tagOf_1 (by decide) ?_
  refine z_icmp_lt (tgt := 15) X.1 X.2.1 d_By_tagOf_4 (by decide) ⟨by omega, by omega⟩ ⟨by omega, by omega⟩ (fun h101 => ?_) (fun h101 => ?_)
  · refine lv_iload_n X.1 X.2.1 d_By_tagOf_15 rfl (lv_at hl 0 rfl) ?_
    refine lv_bipush (v := iI 107) X.1 X.2.1 d_By_tagOf_16 (by decide) ?_
    refine z_icmp_ne (tgt := 26) X.1 X.2.1 d_By_tagOf_18 (by decide) ⟨by omega, by omega⟩ ⟨by omega, by omega⟩ (fun h102 => ?_) (fun h102 => ?_)
    · refine lv_bipush (v := iI 48) X.1 X.2.1 d_By_tagOf_26 (by decide) ?_
      exact c_reti hQQ X Y hr hlk ⟨rfl, rfl, 48, rfl, ⟨by omega, by omega, ⟨fun h9 => by omega, fun h9 h8 => by omega⟩⟩⟩ d_By_tagOf_28
    · refine lv_bipush (v := iI 97) X.1 X.2.1 d_By_tagOf_21 (by decide) ?_
      refine lv_goto (tgt := 28) X.1 X.2.1 d_By_tagOf_23 (by decide) ?_
      exact c_reti hQQ X Y hr hlk ⟨rfl, rfl, 97, rfl, ⟨by omega, by omega, ⟨fun h9 => by omega, fun h9 h8 => by omega⟩⟩⟩ d_By_tagOf_28
  · refine lv_iload_n X.1 X.2.1 d_By_tagOf_7 rfl (lv_at hl 0 rfl) ?_
    refine lv_sipush (v := iI 256) X.1 X.2.1 d_By_tagOf_8 (by decide) ?_
    refine z_isub X.1 X.2.1 d_By_tagOf_11 ?_
    refine lv_goto (tgt := 28) X.1 X.2.1 d_By_tagOf_12 (by decide) ?_
    exact c_reti hQQ X Y hr hlk ⟨rfl, rfl, a1 - 256, rfl, ⟨by omega, by omega, ⟨fun h9 => by omega, fun h9 h8 => by omega⟩⟩⟩ d_By_tagOf_28
set_option maxHeartbeats 4000000 in
set_option maxRecDepth 100000 in
theorem c_By_messageShapeX (l : Launch) (D : va_G) (E : cE) (T : cT) (κ : tK) (L : List Nat) (f : pF) (sz : Nat) (a1 : Int) (l_a1 : (-2147483648) ≤ a1) (u_a1 : a1 ≤ 2147483647) (hw : tW E T κ L f) : Met l y_By_messageShape (k_By_messageShape :: lw_tg) (kRm 1 60 0 0) (va_Pc [.int (iI a1)] (kPre D E T L f sz)) (va_Qr (fun _ : cU => True) (fun u r t => uPr L f (fun (z : Nat) => (∃ i : Nat, i < nY ∧ z = T.2.1 i ∧ (a1 = 362 ∨ a1 = 364 → i = 13))) r u ∧ cPost D E (pA L sz) u t) (pA L sz)) 0 0 (pA L sz) := by
  refine k_enter (own := R_By) (by decide) rfl (Nat.le_of_ble_eq_true rfl) (fun p e s m below meth c ls AV QQ H locs hQQ X Y hA hin hr hlk hml hl KS KR => ?_)
  have hl : lv_has ls 1 [(0, .int (iI a1))] := hl
  have S : tS E T (tFr κ L [] []) κ L f κ L f := tS_rf hw
  refine lv_iload_n X.1 X.2.1 d_By_messageShape_0 rfl (lv_at hl 0 rfl) ?_
  by_cases h101 : a1 = 354
  · rw [h101]
    refine lv_tableIn (off := 152) (tgt := 153) X.1 X.2.1 d_By_messageShape_1 (by decide) (by decide) (by decide) (by decide) ?_
    refine k_ldcS (i := 20) X KR (by decide) ⟨by decide, by decide⟩ d_By_messageShape_153 ?_
    exact k_retr hQQ X Y hr (Or.inl ⟨_, rfl⟩) hlk ⟨rfl, rfl, ⟨20, (show 20 < nY by decide), rfl, fun h9 => by omega⟩⟩ d_By_messageShape_155
  by_cases h102 : a1 = 355
  · rw [h102]
    refine lv_tableIn (off := 155) (tgt := 156) X.1 X.2.1 d_By_messageShape_1 (by decide) (by decide) (by decide) (by decide) ?_
    refine k_ldcS (i := 21) X KR (by decide) ⟨by decide, by decide⟩ d_By_messageShape_156 ?_
    exact k_retr hQQ X Y hr (Or.inl ⟨_, rfl⟩) hlk ⟨rfl, rfl, ⟨21, (show 21 < nY by decide), rfl, fun h9 => by omega⟩⟩ d_By_messageShape_158
  by_cases h103 : a1 = 356
  · rw [h103]
    refine lv_tableIn (off := 170) (tgt := 171) X.1 X.2.1 d_By_messageShape_1 (by decide) (by decide) (by decide) (by decide) ?_
    refine k_ldcS (i := 26) X KR (by decide) ⟨by decide, by decide⟩ d_By_messageShape_171 ?_
    exact k_retr hQQ X Y hr (Or.inl ⟨_, rfl⟩) hlk ⟨rfl, rfl, ⟨26, (show 26 < nY by decide), rfl, fun h9 => by omega⟩⟩ d_By_messageShape_173
  by_cases h104 : a1 = 357
  · rw [h104]
    refine lv_tableIn (off := 170) (tgt := 171) X.1 X.2.1 d_By_messageShape_1 (by decide) (by decide) (by decide) (by decide) ?_
    refine k_ldcS (i := 26) X KR (by decide) ⟨by decide, by decide⟩ d_By_messageShape_171 ?_
    exact k_retr hQQ X Y hr (Or.inl ⟨_, rfl⟩) hlk ⟨rfl, rfl, ⟨26, (show 26 < nY by decide), rfl, fun h9 => by omega⟩⟩ d_By_messageShape_173
  by_cases h105 : a1 = 358
  · rw [h105]
    refine lv_tableIn (off := 170) (tgt := 171) X.1 X.2.1 d_By_messageShape_1 (by decide) (by decide) (by decide) (by decide) ?_
    refine k_ldcS (i := 26) X KR (by decide) ⟨by decide, by decide⟩ d_By_messageShape_171 ?_
    exact k_retr hQQ X Y hr (Or.inl ⟨_, rfl⟩) hlk ⟨rfl, rfl, ⟨26, (show 26 < nY by decide), rfl, fun h9 => by omega⟩⟩ d_By_messageShape_173
  by_cases h106 : a1 = 359
  · rw [h106]
    refine lv_tableIn (off := 170) (tgt := 171) X.1 X.2.1 d_By_messageShape_1 (by decide) (by decide) (by decide) (by decide) ?_
    refine k_ldcS (i := 26) X KR (by decide) ⟨by decide, by decide⟩ d_By_messageShape_171 ?_
    exact k_retr hQQ X Y hr (Or.inl ⟨_, rfl⟩) hlk ⟨rfl, rfl, ⟨26, (show 26 < nY by decide), rfl, fun h9 => by omega⟩⟩ d_By_messageShape_173
  by_cases h107 : a1 = 360
  · rw [h107]
    refine lv_tableIn (off := 170) (tgt := 171) X.1 X.2.1 d_By_messageShape_1 (by decide) (by decide) (by decide) (by decide) ?_
    refine k_ldcS (i := 26) X KR (by decide) ⟨by decide, by decide⟩ d_By_messageShape_171 ?_
    exact k_retr hQQ X Y hr (Or.inl ⟨_, rfl⟩) hlk ⟨rfl, rfl, ⟨26, (show 26 < nY by decide), rfl, fun h9 => by omega⟩⟩ d_By_messageShape_173
  by_cases h108 : a1 = 361
  · rw [h108]
    refine lv_tableIn (off := 170) (tgt := 171) X.1 X.2.1 d_By_messageShape_1 (by decide) (by decide) (by decide) (by decide) ?_
    refine k_ldcS (i := 26) X KR (by decide) ⟨by decide, by decide⟩ d_By_messageShape_171 ?_
    exact k_retr hQQ X Y hr (Or.inl ⟨_, rfl⟩) hlk ⟨rfl, rfl, ⟨26, (show 26 < nY by decide), rfl, fun h9 => by omega⟩⟩ d_By_messageShape_173
  by_cases h109 : a1 = 362
  · rw [h109]
    refine lv_tableIn (off := 131) (tgt := 132) X.1 X.2.1 d_By_messageShape_1 (by decide) (by decide) (by decide) (by decide) ?_
    refine k_ldcS (i := 13) X KR (by decide) ⟨by decide, by decide⟩ d_By_messageShape_132 ?_
    exact k_retr hQQ X Y hr (Or.inl ⟨_, rfl⟩) hlk ⟨rfl, rfl, ⟨13, (show 13 < nY by decide), rfl, fun h9 => by omega⟩⟩ d_By_messageShape_134
  by_cases h110 : a1 = 363
  · rw [h110]
    refine lv_tableIn (off := 134) (tgt := 135) X.1 X.2.1 d_By_messageShape_1 (by decide) (by decide) (by decide) (by decide) ?_
    refine k_ldcS (i := 14) X KR (by decide) ⟨by decide, by decide⟩ d_By_messageShape_135 ?_
    exact k_retr hQQ X Y hr (Or.inl ⟨_, rfl⟩) hlk ⟨rfl, rfl, ⟨14, (show 14 < nY by decide), rfl, fun h9 => by omega⟩⟩ d_By_messageShape_137
  by_cases h111 : a1 = 364
  · rw [h111]
    refine lv_tableIn (off := 131) (tgt := 132) X.1 X.2.1 d_By_messageShape_1 (by decide) (by decide) (by decide) (by decide) ?_
    refine k_ldcS (i := 13) X KR (by decide) ⟨by decide, by decide⟩ d_By_messageShape_132 ?_
    exact k_retr hQQ X Y hr (Or.inl ⟨_, rfl⟩) hlk ⟨rfl, rfl, ⟨13, (show 13 < nY by decide), rfl, fun h9 => by omega⟩⟩ d_By_messageShape_134
  by_cases h112 : a1 = 365
  · rw [h112]
    refine lv_tableIn (off := 134) (tgt := 135) X.1 X.2.1 d_By_messageShape_1 (by decide) (by decide) (by decide) (by decide) ?_
    refine k_ldcS (i := 14) X KR (by decide) ⟨by decide, by decide⟩ d_By_messageShape_135 ?_
    exact k_retr hQQ X Y hr (Or.inl ⟨_, rfl⟩) hlk ⟨rfl, rfl, ⟨14, (show 14 < nY by decide), rfl, fun h9 => by omega⟩⟩ d_By_messageShape_137
  by_cases h113 : a1 = 366
  · rw [h113]
    refine lv_tableIn (off := 137) (tgt := 138) X.1 X.2.1 d_By_messageShape_1 (by decide) (by decide) (by decide) (by decide) ?_
    refine k_ldcS (i := 15) X KR (by decide) ⟨by decide, by decide⟩ d_By_messageShape_138 ?_
    exact k_retr hQQ X Y hr (Or.inl ⟨_, rfl⟩) hlk ⟨rfl, rfl, ⟨15, (show 15 < nY by decide), rfl, fun h9 => by omega⟩⟩ d_By_messageShape_140
  by_cases h114 : a1 = 367
  · rw [h114]
    refine lv_tableIn (off := 140) (tgt := 141) X.1 X.2.1 d_By_messageShape_1 (by decide) (by decide) (by decide) (by decide) ?_
    refine k_ldcS (i := 16) X KR (by decide) ⟨by decide, by decide⟩ d_By_messageShape_141 ?_
    exact k_retr hQQ X Y hr (Or.inl ⟨_, rfl⟩) hlk ⟨rfl, rfl, ⟨16, (show 16 < nY by decide), rfl, fun h9 => by omega⟩⟩ d_By_messageShape_143
  by_cases h115 : a1 = 368
  · rw [h115]
    refine lv_tableIn (off := 170) (tgt := 171) X.1 X.2.1 d_By_messageShape_1 (by decide) (by decide) (by decide) (by decide) ?_
    refine k_ldcS (i := 26) X KR (by decide) ⟨by decide, by decide⟩ d_By_messageShape_171 ?_
    exact k_retr hQQ X Y hr (Or.inl ⟨_, rfl⟩) hlk ⟨rfl, rfl, ⟨26, (show 26 < nY by decide), rfl, fun h9 => by omega⟩⟩ d_By_messageShape_173
  by_cases h116 : a1 = 369
  · rw [h116]
    refine lv_tableIn (off := 170) (tgt := 171) X.1 X.2.1 d_By_messageShape_1 (by decide) (by decide) (by decide) (by decide) ?_
    refine k_ldcS (i := 26) X KR (by decide) ⟨by decide, by decide⟩ d_By_messageShape_171 ?_
    exact k_retr hQQ X Y hr (Or.inl ⟨_, rfl⟩) hlk ⟨rfl, rfl, ⟨26, (show 26 < nY by decide), rfl, fun h9 => by omega⟩⟩ d_By_messageShape_173
  by_cases h117 : a1 = 370
  · rw [h117]
    refine lv_tableIn (off := 170) (tgt := 171) X.1 X.2.1 d_By_messageShape_1 (by decide) (by decide) (by decide) (by decide) ?_
    refine k_ldcS (i := 26) X KR (by decide) ⟨by decide, by decide⟩ d_By_messageShape_171 ?_
    exact k_retr hQQ X Y hr (Or.inl ⟨_, rfl⟩) hlk ⟨rfl, rfl, ⟨26, (show 26 < nY by decide), rfl, fun h9 => by omega⟩⟩ d_By_messageShape_173
  by_cases h118 : a1 = 371
  · rw [h118]
    refine lv_tableIn (off := 170) (tgt := 171) X.1 X.2.1 d_By_messageShape_1 (by decide) (by decide) (by decide) (by decide) ?_
    refine k_ldcS (i := 26) X KR (by decide) ⟨by decide, by decide⟩ d_By_messageShape_171 ?_
    exact k_retr hQQ X Y hr (Or.inl ⟨_, rfl⟩) hlk ⟨rfl, rfl, ⟨26, (show 26 < nY by decide), rfl, fun h9 => by omega⟩⟩ d_By_messageShape_173
  by_cases h119 : a1 = 372
  · rw [h119]
    refine lv_tableIn (off := 143) (tgt := 144) X.1 X.2.1 d_By_messageShape_1 (by decide) (by decide) (by decide) (by decide) ?_
    refine k_ldcS (i := 17) X KR (by decide) ⟨by decide, by decide⟩ d_By_messageShape_144 ?_
    exact k_retr hQQ X Y hr (Or.inl ⟨_, rfl⟩) hlk ⟨rfl, rfl, ⟨17, (show 17 < nY by decide), rfl, fun h9 => by omega⟩⟩ d_By_messageShape_146
  by_cases h120 : a1 = 373
  · rw [h120]
    refine lv_tableIn (off := 146) (tgt := 147) X.1 X.2.1 d_By_messageShape_1 (by decide) (by decide) (by decide) (by decide) ?_
    refine k_ldcS (i := 18) X KR (by decide) ⟨by decide, by decide⟩ d_By_messageShape_147 ?_
    exact k_retr hQQ X Y hr (Or.inl ⟨_, rfl⟩) hlk ⟨rfl, rfl, ⟨18, (show 18 < nY by decide), rfl, fun h9 => by omega⟩⟩ d_By_messageShape_149
  by_cases h121 : a1 = 374
  · rw [h121]
    refine lv_tableIn (off := 149) (tgt := 150) X.1 X.2.1 d_By_messageShape_1 (by decide) (by decide) (by decide) (by decide) ?_
    refine k_ldcS (i := 19) X KR (by decide) ⟨by decide, by decide⟩ d_By_messageShape_150 ?_
    exact k_retr hQQ X Y hr (Or.inl ⟨_, rfl⟩) hlk ⟨rfl, rfl, ⟨19, (show 19 < nY by decide), rfl, fun h9 => by omega⟩⟩ d_By_messageShape_152
  by_cases h122 : a1 = 375
  · rw [h122]
    refine lv_tableIn (off := 170) (tgt := 171) X.1 X.2.1 d_By_messageShape_1 (by decide) (by decide) (by decide) (by decide) ?_
    refine k_ldcS (i := 26) X KR (by decide) ⟨by decide, by decide⟩ d_By_messageShape_171 ?_
    exact k_retr hQQ X Y hr (Or.inl ⟨_, rfl⟩) hlk ⟨rfl, rfl, ⟨26, (show 26 < nY by decide), rfl, fun h9 => by omega⟩⟩ d_By_messageShape_173
  by_cases h123 : a1 = 376
  · rw [h123]
    refine lv_tableIn (off := 170) (tgt := 171) X.1 X.2.1 d_By_messageShape_1 (by decide) (by decide) (by decide) (by decide) ?_
    refine k_ldcS (i := 26) X KR (by decide) ⟨by decide, by decide⟩ d_By_messageShape_171 ?_
    exact k_retr hQQ X Y hr (Or.inl ⟨_, rfl⟩) hlk ⟨rfl, rfl, ⟨26, (show 26 < nY by decide), rfl, fun h9 => by omega⟩⟩ d_By_messageShape_173
  by_cases h124 : a1 = 377
  · rw [h124]
    refine lv_tableIn (off := 158) (tgt := 159) X.1 X.2.1 d_By_messageShape_1 (by decide) (by decide) (by decide) (by decide) ?_
    refine k_ldcS (i := 22) X KR (by decide) ⟨by decide, by decide⟩ d_By_messageShape_159 ?_
    exact k_retr hQQ X Y hr (Or.inl ⟨_, rfl⟩) hlk ⟨rfl, rfl, ⟨22, (show 22 < nY by decide), rfl, fun h9 => by omega⟩⟩ d_By_messageShape_161
  by_cases h125 : a1 = 378
  · rw [h125]
    refine lv_tableIn (off := 158) (tgt := 159) X.1 X.2.1 d_By_messageShape_1 (by decide) (by decide) (by decide) (by decide) ?_
    refine k_ldcS (i := 22) X KR (by decide) ⟨by decide, by decide⟩ d_By_messageShape_159 ?_
    exact k_retr hQQ X Y hr (Or.inl ⟨_, rfl⟩) hlk ⟨rfl, rfl, ⟨22, (show 22 < nY by decide), rfl, fun h9 => by omega⟩⟩ d_By_messageShape_161
  by_cases h126 : a1 = 379
  · rw [h126]
    refine lv_tableIn (off := 161) (tgt := 162) X.1 X.2.1 d_By_messageShape_1 (by decide) (by decide) (by decide) (by decide) ?_
    refine k_ldcS (i := 23) X KR (by decide) ⟨by decide, by decide⟩ d_By_messageShape_162 ?_
    exact k_retr hQQ X Y hr (Or.inl ⟨_, rfl⟩) hlk ⟨rfl, rfl, ⟨23, (show 23 < nY by decide), rfl, fun h9 => by omega⟩⟩ d_By_messageShape_164
  by_cases h127 : a1 = 380
  · rw [h127]
    refine lv_tableIn (off := 170) (tgt := 171) X.1 X.2.1 d_By_messageShape_1 (by decide) (by decide) (by decide) (by decide) ?_
    refine k_ldcS (i := 26) X KR (by decide) ⟨by decide, by decide⟩ d_By_messageShape_171 ?_
    exact k_retr hQQ X Y hr (Or.inl ⟨_, rfl⟩) hlk ⟨rfl, rfl, ⟨26, (show 26 < nY by decide), rfl, fun h9 => by omega⟩⟩ d_By_messageShape_173
  by_cases h128 : a1 = 381
  · rw [h128]
    refine lv_tableIn (off := 164) (tgt := 165) X.1 X.2.1 d_By_messageShape_1 (by decide) (by decide) (by decide) (by decide) ?_
    refine k_ldcS (i := 24) X KR (by decide) ⟨by decide, by decide⟩ d_By_messageShape_165 ?_
    exact k_retr hQQ X Y hr (Or.inl ⟨_, rfl⟩) hlk ⟨rfl, rfl, ⟨24, (show 24 < nY by decide), rfl, fun h9 => by omega⟩⟩ d_By_messageShape_167
  by_cases h129 : a1 = 382
  · rw [h129]
    refine lv_tableIn (off := 167) (tgt := 168) X.1 X.2.1 d_By_messageShape_1 (by decide) (by decide) (by decide) (by decide) ?_
    refine k_ldcS (i := 25) X KR (by decide) ⟨by decide, by decide⟩ d_By_messageShape_168 ?_
    exact k_retr hQQ X Y hr (Or.inl ⟨_, rfl⟩) hlk ⟨rfl, rfl, ⟨25, (show 25 < nY by decide), rfl, fun h9 => by omega⟩⟩ d_By_messageShape_170
  refine lv_tableOut (tgt := 171) X.1 X.2.1 d_By_messageShape_1 (by rw [iI_toInt ⟨by omega, by omega⟩]; omega) (by decide) ?_
  refine k_ldcS (i := 26) X KR (by decide) ⟨by decide, by decide⟩ d_By_messageShape_171 ?_
  exact k_retr hQQ X Y hr (Or.inl ⟨_, rfl⟩) hlk ⟨rfl, rfl, ⟨26, (show 26 < nY by decide), rfl, fun h9 => by omega⟩⟩ d_By_messageShape_173
set_option maxHeartbeats 4000000 in
set_option maxRecDepth 100000 in
theorem c_By_shapeOfX (l : Launch) (D : va_G) (E : cE) (T : cT) (κ : tK) (L : List Nat) (f : pF) (sz : Nat) (a1 : Int) (l_a1 : (-2147483648) ≤ a1) (u_a1 : a1 ≤ 2147483647) (hw : tW E T κ L f) : Met l y_By_shapeOf (k_By_shapeOf :: lw_tg) (kRm 2 80 0 0) (va_Pc [.int (iI a1)] (kPre D E T L f sz)) (va_Qr (fun _ : cU => True) (fun u r t => uPr L f (fun (z : Nat) => (∃ i : Nat, i < nY ∧ z = T.2.1 i ∧ (a1 = 362 ∨ a1 = 364 → i = 13))) r u ∧ cPost D E (pA L sz) u t) (pA L sz)) 0 0 (pA L sz) := by
  refine k_enter (own := R_By) (by decide) rfl (Nat.le_of_ble_eq_true rfl) (fun p e s m below meth c ls AV QQ H locs hQQ X Y hA hin hr hlk hml hl KS KR => ?_)
  have hl : lv_has ls 1 [(0, .int (iI a1))] := hl
  have S : tS E T (tFr κ L [] []) κ L f κ L f := tS_rf hw
  refine lv_iload_n X.1 X.2.1 d_By_shapeOf_0 rfl (lv_at hl 0 rfl) ?_
  by_cases h101 : a1 = 97
  · rw [h101]
    refine lv_lookup (off := 102) (tgt := 103) X.1 X.2.1 d_By_shapeOf_1 (by decide) (by decide) (by decide) ?_
    refine k_ldcS (i := 4) X KR (by decide) ⟨by decide, by decide⟩ d_By_shapeOf_103 ?_
    exact k_retr hQQ X Y hr (Or.inl ⟨_, rfl⟩) hlk ⟨rfl, rfl, ⟨4, (show 4 < nY by decide), rfl, fun h9 => by omega⟩⟩ d_By_shapeOf_105
  by_cases h102 : a1 = 99
  · rw [h102]
    refine lv_lookup (off := 123) (tgt := 124) X.1 X.2.1 d_By_shapeOf_1 (by decide) (by decide) (by decide) ?_
    refine k_ldcS (i := 11) X KR (by decide) ⟨by decide, by decide⟩ d_By_shapeOf_124 ?_
    exact k_retr hQQ X Y hr (Or.inl ⟨_, rfl⟩) hlk ⟨rfl, rfl, ⟨11, (show 11 < nY by decide), rfl, fun h9 => by omega⟩⟩ d_By_shapeOf_126
  by_cases h103 : a1 = 101
  · rw [h103]
    refine lv_lookup (off := 111) (tgt := 112) X.1 X.2.1 d_By_shapeOf_1 (by decide) (by decide) (by decide) ?_
    refine k_ldcS (i := 7) X KR (by decide) ⟨by decide, by decide⟩ d_By_shapeOf_112 ?_
    exact k_retr hQQ X Y hr (Or.inl ⟨_, rfl⟩) hlk ⟨rfl, rfl, ⟨7, (show 7 < nY by decide), rfl, fun h9 => by omega⟩⟩ d_By_shapeOf_114
  by_cases h104 : a1 = 102
  · rw [h104]
    refine lv_lookup (off := 120) (tgt := 121) X.1 X.2.1 d_By_shapeOf_1 (by decide) (by decide) (by decide) ?_
    refine k_ldcS (i := 10) X KR (by decide) ⟨by decide, by decide⟩ d_By_shapeOf_121 ?_
    exact k_retr hQQ X Y hr (Or.inl ⟨_, rfl⟩) hlk ⟨rfl, rfl, ⟨10, (show 10 < nY by decide), rfl, fun h9 => by omega⟩⟩ d_By_shapeOf_123
  by_cases h105 : a1 = 107
  · rw [h105]
    refine lv_lookup (off := 126) (tgt := 127) X.1 X.2.1 d_By_shapeOf_1 (by decide) (by decide) (by decide) ?_
    refine k_ldcS (i := 12) X KR (by decide) ⟨by decide, by decide⟩ d_By_shapeOf_127 ?_
    exact k_retr hQQ X Y hr (Or.inl ⟨_, rfl⟩) hlk ⟨rfl, rfl, ⟨12, (show 12 < nY by decide), rfl, fun h9 => by omega⟩⟩ d_By_shapeOf_129
  by_cases h106 : a1 = 108
  · rw [h106]
    refine lv_lookup (off := 105) (tgt := 106) X.1 X.2.1 d_By_shapeOf_1 (by decide) (by decide) (by decide) ?_
    refine k_ldcS (i := 5) X KR (by decide) ⟨by decide, by decide⟩ d_By_shapeOf_106 ?_
    exact k_retr hQQ X Y hr (Or.inl ⟨_, rfl⟩) hlk ⟨rfl, rfl, ⟨5, (show 5 < nY by decide), rfl, fun h9 => by omega⟩⟩ d_By_shapeOf_108
  by_cases h107 : a1 = 110
  · rw [h107]
    refine lv_lookup (off := 99) (tgt := 100) X.1 X.2.1 d_By_shapeOf_1 (by decide) (by decide) (by decide) ?_
    refine k_ldcS (i := 3) X KR (by decide) ⟨by decide, by decide⟩ d_By_shapeOf_100 ?_
    exact k_retr hQQ X Y hr (Or.inl ⟨_, rfl⟩) hlk ⟨rfl, rfl, ⟨3, (show 3 < nY by decide), rfl, fun h9 => by omega⟩⟩ d_By_shapeOf_102
  by_cases h108 : a1 = 112
  · rw [h108]
    refine lv_lookup (off := 108) (tgt := 109) X.1 X.2.1 d_By_shapeOf_1 (by decide) (by decide) (by decide) ?_
    refine k_ldcS (i := 6) X KR (by decide) ⟨by decide, by decide⟩ d_By_shapeOf_109 ?_
    exact k_retr hQQ X Y hr (Or.inl ⟨_, rfl⟩) hlk ⟨rfl, rfl, ⟨6, (show 6 < nY by decide), rfl, fun h9 => by omega⟩⟩ d_By_shapeOf_111
  by_cases h109 : a1 = 113
  · rw [h109]
    refine lv_lookup (off := 117) (tgt := 118) X.1 X.2.1 d_By_shapeOf_1 (by decide) (by decide) (by decide) ?_
    refine k_ldcS (i := 9) X KR (by decide) ⟨by decide, by decide⟩ d_By_shapeOf_118 ?_
    exact k_retr hQQ X Y hr (Or.inl ⟨_, rfl⟩) hlk ⟨rfl, rfl, ⟨9, (show 9 < nY by decide), rfl, fun h9 => by omega⟩⟩ d_By_shapeOf_120
  by_cases h110 : a1 = 120
  · rw [h110]
    refine lv_lookup (off := 114) (tgt := 115) X.1 X.2.1 d_By_shapeOf_1 (by decide) (by decide) (by decide) ?_
    refine k_ldcS (i := 8) X KR (by decide) ⟨by decide, by decide⟩ d_By_shapeOf_115 ?_
    exact k_retr hQQ X Y hr (Or.inl ⟨_, rfl⟩) hlk ⟨rfl, rfl, ⟨8, (show 8 < nY by decide), rfl, fun h9 => by omega⟩⟩ d_By_shapeOf_117
  by_cases h111 : a1 = 380
  · rw [h111]
    refine lv_lookup (off := 120) (tgt := 121) X.1 X.2.1 d_By_shapeOf_1 (by decide) (by decide) (by decide) ?_
    refine k_ldcS (i := 10) X KR (by decide) ⟨by decide, by decide⟩ d_By_shapeOf_121 ?_
    exact k_retr hQQ X Y hr (Or.inl ⟨_, rfl⟩) hlk ⟨rfl, rfl, ⟨10, (show 10 < nY by decide), rfl, fun h9 => by omega⟩⟩ d_By_shapeOf_123
  refine lv_lookup (off := 129) (tgt := 130) X.1 X.2.1 d_By_shapeOf_1 (by decide) ((z_osw ⟨by omega, by omega⟩ (show a1 ≠ 97 by omega)).trans ((z_osw ⟨by omega, by omega⟩ (show a1 ≠ 99 by omega)).trans ((z_osw ⟨by omega, by omega⟩ (show a1 ≠ 101 by omega)).trans ((z_osw ⟨by omega, by omega⟩ (show a1 ≠ 102 by omega)).trans ((z_osw ⟨by omega, by omega⟩ (show a1 ≠ 107 by omega)).trans ((z_osw ⟨by omega, by omega⟩ (show a1 ≠ 108 by omega)).trans ((z_osw ⟨by omega, by omega⟩ (show a1 ≠ 110 by omega)).trans ((z_osw ⟨by omega, by omega⟩ (show a1 ≠ 112 by omega)).trans ((z_osw ⟨by omega, by omega⟩ (show a1 ≠ 113 by omega)).trans ((z_osw ⟨by omega, by omega⟩ (show a1 ≠ 120 by omega)).trans ((z_osw ⟨by omega, by omega⟩ (show a1 ≠ 380 by omega)).trans rfl))))))))))) (by decide) ?_
  refine lv_iload_n X.1 X.2.1 d_By_shapeOf_130 rfl (lv_at hl 0 rfl) ?_
  refine t_ur (x_runS (As := [.int (iI a1)]) (rest := []) (n := 1) X hml hl.1 (c_By_messageShapeX l D E T κ L f H.size a1 (by omega) (by omega) S.1) (ok_k X Y hA KS KR) kl_By_By_messageShape ks_By_messageShape ki_By_messageShape ini_By ⟨rfl, rfl⟩ hd_By_messageShape.2 ⟨Nat.le_of_ble_eq_true rfl, Nat.le_of_ble_eq_true rfl⟩ rfl (Nat.le_of_ble_eq_true rfl) d_By_shapeOf_131 ⟨Nat.le_of_ble_eq_true rfl, Nat.le_of_ble_eq_true rfl⟩) X Y hA (fun b112 H locs Y p112 => ?_)
  obtain ⟨y112, k112, q112, yx112⟩ := p112
  subst q112
  exact k_retr hQQ X Y hr (Or.inl ⟨_, rfl⟩) hlk ⟨rfl, rfl, ⟨y112, k112, rfl, fun h9 => by omega⟩⟩ d_By_shapeOf_134
