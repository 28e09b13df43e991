theorem is_105 {m : Nat → Int32} {a b : Int} (r : Nat) : isF m r 105 a b = nmP m a b (-2147483648) 2147483647 := by cases r <;> rfl
theorem is_117 {m : Nat → Int32} {a b : Int} (r : Nat) : isF m r 117 a b = nmP m a b 0 4294967295 := by cases r <;> rfl
theorem is_109 {m : Nat → Int32} {a b : Int} (r : Nat) : isF m r 109 a b = nmP m a b 0 999999 := by cases r <;> rfl
theorem is_111 {m : Nat → Int32} {a b : Int} (r : Nat) : isF m r 111 a b = whP m a b 4 := by cases r <;> rfl
theorem is_115 {m : Nat → Int32} {a b : Int} (r : Nat) : isF m r 115 a b = stP m a b := by cases r <;> rfl
theorem is_116 {m : Nat → Int32} {a b : Int} (r : Nat) : isF m r 116 a b = tmP m a b := by cases r <;> rfl
theorem is_102 {m : Nat → Int32} {a b : Int} (r : Nat) : isF m r 102 a b = flP m a b := by cases r <;> rfl
set_option maxHeartbeats 4000000 in
set_option maxRecDepth 100000 in
theorem r_M_element (l : Launch) (D : mD) (E : mE) (h : Nat) (q : Nat → Nat) (sz : Nat) (I : Nat → Int32) (J : Nat → Int64) (B : Nat → Nat → Int32) (G : Nat → Nat → Int64) (a1 : Int) (l_a1 : (-1) ≤ a1) (u_a1 : a1 ≤ 30000) (a2 : Int) (l_a2 : (-1) ≤ a2) (u_a2 : a2 ≤ 30000) (a3 : Int) (l_a3 : (-2147483648) ≤ a3) (u_a3 : a3 ≤ 2147483647) (hT : rT I B) (mm : Nat → Int32) (gm : B 0 = mm) (f_P1 : pG1 I) (q0 : 0 ≤ a1 ∨ a2 < a1 + 2) (q1 : a2 - a1 ≤ 4200) : Met l y_M_element (k_M_element :: lw_tg) (mR 1 60) (va_Pc [.ref h, .int (iI a1), .int (iI a2), .int (iI a3)] (mPre D E h q (I, J, B, G) sz)) (va_Qi (rPi [39, 40] [] I B (fun (z : Int) (u : mS) => 0 ≤ z ∧ z ≤ 1 ∧ (z = 1 ↔ gb mm a1 = a3 ∧ 0 ≤ elI mm a1 a2) ∧ (∃ V1 V2 : Int, u.1 39 = iI V1 ∧ u.1 40 = iI V2 ∧ 0 ≤ V1 ∧ V1 ≤ V2 ∧ V2 ≤ 30000 ∧ V2 - V1 ≤ 4200 ∧ (z = 1 → V1 = elI mm a1 a2 ∧ V2 = elE mm a1 a2 ∧ a1 + 2 ≤ V1 ∧ V2 ≤ a2) ∧ (z = 0 → u.1 39 = I 39 ∧ u.1 40 = I 40)))) (mPost D E h q (mA E h q sz)) (mA E h q sz)) 0 0 (mA E h q sz) := by
  refine m_enter (by decide) rfl (Nat.le_of_ble_eq_true rfl) (fun p e s m below meth c ls AV QQ H locs hQQ X Y hZ hA hr hlk hml hl => ?_)
  have Y : mH D E (mA E h q sz) s.heap h q I J B G H locs := Y
  have S : rS [39, 40] [] I B I B := rS_rf hT
  have hl : lv_has ls 8 [(0, .ref h), (1, .int (iI a1)), (2, .int (iI a2)), (3, .int (iI a3))] := hl
  obtain ⟨x101, y101, ex101, ey101, lx101, ly101, uy101, dy101⟩ := f_P1
  refine lv_iload_n X.1 X.2.1 d_M_element_0 rfl (lv_at hl 1 rfl) ?_
  refine lv_iconst (v := iI 2) X.1 X.2.1 d_M_element_1 (by decide) ?_
  refine z_iadd X.1 X.2.1 d_M_element_2 ?_
  refine lv_iload_n X.1 X.2.1 d_M_element_3 rfl (lv_at hl 2 rfl) ?_
  refine z_icmp_gt (tgt := 21) X.1 X.2.1 d_M_element_4 (by decide) ⟨by omega, by omega⟩ ⟨by omega, by omega⟩ (fun h102 => ?_) (fun h102 => ?_)
  · refine lv_iconst (v := iI 0) X.1 X.2.1 d_M_element_21 (by decide) ?_
    exact m_retz hQQ X Y hr hlk (iI_bool (by omega) (by omega)).1 ⟨S, 0, rfl, ⟨by omega, by omega, by have c := el_cases mm q0; have r1 := gb_rng mm (a1 + 1); have r2 := gb_rng mm (a1 + 2); have r3 := gb_rng mm (a1 + 3); have r4 := gb_rng mm (a1 + 4); omega, ⟨x101, y101, ex101, ey101, by omega, by omega, by omega, by omega, fun h9 => by have c := el_cases mm q0; have r1 := gb_rng mm (a1 + 1); have r2 := gb_rng mm (a1 + 2); have r3 := gb_rng mm (a1 + 3); have r4 := gb_rng mm (a1 + 4); omega, fun h9 => ⟨rfl, rfl⟩⟩⟩⟩ d_M_element_22
  · refine lv_aload_n X.1 X.2.1 d_M_element_7 rfl (lv_at hl 0 rfl) ?_
    refine m_get X Y 0 (by decide) lk_mem (gf_mem _ _ _) rfl d_M_element_8 ?_
    refine lv_iload_n X.1 X.2.1 d_M_element_11 rfl (lv_at hl 1 rfl) ?_
    refine r_bald X Y S (aw_mem _ _ _ _ _ _ _) rfl (by omega) (show a1 < ((60000 : Nat) : Int) by omega) (by omega) d_M_element_12 (fun z103 q103 l103 u103 => ?_)
    rw [gm] at q103
    have g103 : gb mm a1 = z103 % 256 := by unfold gb; rw [← q103]
    have s103 : sg mm a1 = z103 := by unfold sg; rw [← q103]
    refine lv_sipush (v := iI 255) X.1 X.2.1 d_M_element_13 (by decide) ?_
    refine z_iand255 X.1 X.2.1 d_M_element_16 ?_
    refine lv_iload_n X.1 X.2.1 d_M_element_17 rfl (lv_at hl 3 rfl) ?_
    refine z_icmp_eq (tgt := 23) X.1 X.2.1 d_M_element_18 (by decide) ⟨by omega, by omega⟩ ⟨by omega, by omega⟩ (fun h104 => ?_) (fun h104 => ?_)
    · refine lv_aload_n X.1 X.2.1 d_M_element_23 rfl (lv_at hl 0 rfl) ?_
      refine m_get X Y 0 (by decide) lk_mem (gf_mem _ _ _) rfl d_M_element_24 ?_
      refine lv_iload_n X.1 X.2.1 d_M_element_27 rfl (lv_at hl 1 rfl) ?_
      refine lv_iconst (v := iI 1) X.1 X.2.1 d_M_element_28 (by decide) ?_
      refine z_iadd X.1 X.2.1 d_M_element_29 ?_
      refine r_bald X Y S (aw_mem _ _ _ _ _ _ _) rfl (by omega) (show a1 + 1 < ((60000 : Nat) : Int) by omega) (by omega) d_M_element_30 (fun z105 q105 l105 u105 => ?_)
      rw [gm] at q105
      have g105 : gb mm (a1 + 1) = z105 % 256 := by unfold gb; rw [← q105]
      have s105 : sg mm (a1 + 1) = z105 := by unfold sg; rw [← q105]
      refine lv_sipush (v := iI 255) X.1 X.2.1 d_M_element_31 (by decide) ?_
      refine z_iand255 X.1 X.2.1 d_M_element_34 ?_
      refine lv_istore (lv' := [(4, .int (iI (z105 % 256))), (0, .ref h), (1, .int (iI a1)), (2, .int (iI a2)), (3, .int (iI a3))]) X.1 X.2.1 d_M_element_35 hl (by decide) rfl (fun ls hl => ?_)
      refine lv_iload_n X.1 X.2.1 d_M_element_37 rfl (lv_at hl 2 rfl) ?_
      refine lv_iconst (v := iI 2) X.1 X.2.1 d_M_element_38 (by decide) ?_
      refine z_iadd X.1 X.2.1 d_M_element_39 ?_
      refine lv_istore (lv' := [(5, .int (iI (a1 + 2))), (4, .int (iI (z105 % 256))), (0, .ref h), (1, .int (iI a1)), (2, .int (iI a2)), (3, .int (iI a3))]) X.1 X.2.1 d_M_element_40 hl (by decide) rfl (fun ls hl => ?_)
      refine lv_iload X.1 X.2.1 d_M_element_42 (lv_at hl 1 rfl) ?_
      refine lv_bipush (v := iI 127) X.1 X.2.1 d_M_element_44 (by decide) ?_
      refine z_icmp_le (tgt := 148) X.1 X.2.1 d_M_element_46 (by decide) ⟨by omega, by omega⟩ ⟨by omega, by omega⟩ (fun h106 => ?_) (fun h106 => ?_)
      · refine lv_iload X.1 X.2.1 d_M_element_148 (lv_at hl 1 rfl) ?_
        refine lv_iload_n X.1 X.2.1 d_M_element_150 rfl (lv_at hl 4 rfl) ?_
        refine lv_iload X.1 X.2.1 d_M_element_151 (lv_at hl 0 rfl) ?_
        refine z_isub X.1 X.2.1 d_M_element_153 ?_
        refine z_icmp_le (tgt := 159) X.1 X.2.1 d_M_element_154 (by decide) ⟨by omega, by omega⟩ ⟨by omega, by omega⟩ (fun h107 => ?_) (fun h107 => ?_)
        · refine lv_aload_n X.1 X.2.1 d_M_element_159 rfl (lv_at hl 2 rfl) ?_
          refine lv_iload X.1 X.2.1 d_M_element_160 (lv_at hl 0 rfl) ?_
          refine r_puti (k := 39) X Y S (by decide) lk_inside rfl rfl (t_M_ok 39 (by decide)) rfl rfl (sf_inside _ _ _ _) (Nat.le_of_ble_eq_true rfl) rfl (show (0 : Int) ≤ a1 + 2 by omega) (show a1 + 2 ≤ (30000 : Int) by omega) ⟨by omega, by omega⟩ (by decide) d_M_element_162 (fun I108 H locs Y S w108 => ?_)
          refine lv_aload_n X.1 X.2.1 d_M_element_165 rfl (lv_at hl 2 rfl) ?_
          refine lv_iload X.1 X.2.1 d_M_element_166 (lv_at hl 0 rfl) ?_
          refine lv_iload X.1 X.2.1 d_M_element_168 (lv_at hl 1 rfl) ?_
          refine z_iadd X.1 X.2.1 d_M_element_170 ?_
          refine r_puti (k := 40) X Y S (by decide) lk_behind rfl rfl (t_M_ok 40 (by decide)) rfl rfl (sf_behind _ _ _ _) (Nat.le_of_ble_eq_true rfl) rfl (show (0 : Int) ≤ (a1 + 2) + (z105 % 256) by omega) (show (a1 + 2) + (z105 % 256) ≤ (30000 : Int) by omega) ⟨by omega, by omega⟩ (by decide) d_M_element_171 (fun I109 H locs Y S w109 => ?_)
          refine lv_iconst (v := iI 1) X.1 X.2.1 d_M_element_174 (by decide) ?_
          exact m_retz hQQ X Y hr hlk (iI_bool (by omega) (by omega)).1 ⟨S, 1, rfl, ⟨by omega, by omega, by have c := el_cases mm q0; have r1 := gb_rng mm (a1 + 1); have r2 := gb_rng mm (a1 + 2); have r3 := gb_rng mm (a1 + 3); have r4 := gb_rng mm (a1 + 4); omega, ⟨a1 + 2, (a1 + 2) + (z105 % 256), ((w109.2 39 (by decide)).trans w108.1), w109.1, by omega, by omega, by omega, by omega, fun h9 => by have c := el_cases mm q0; have r1 := gb_rng mm (a1 + 1); have r2 := gb_rng mm (a1 + 2); have r3 := gb_rng mm (a1 + 3); have r4 := gb_rng mm (a1 + 4); omega, fun h9 => absurd h9 (by decide)⟩⟩⟩ d_M_element_175
        · refine lv_iconst (v := iI 0) X.1 X.2.1 d_M_element_157 (by decide) ?_
          exact m_retz hQQ X Y hr hlk (iI_bool (by omega) (by omega)).1 ⟨S, 0, rfl, ⟨by omega, by omega, by have c := el_cases mm q0; have r1 := gb_rng mm (a1 + 1); have r2 := gb_rng mm (a1 + 2); have r3 := gb_rng mm (a1 + 3); have r4 := gb_rng mm (a1 + 4); omega, ⟨x101, y101, ex101, ey101, by omega, by omega, by omega, by omega, fun h9 => by have c := el_cases mm q0; have r1 := gb_rng mm (a1 + 1); have r2 := gb_rng mm (a1 + 2); have r3 := gb_rng mm (a1 + 3); have r4 := gb_rng mm (a1 + 4); omega, fun h9 => ⟨rfl, rfl⟩⟩⟩⟩ d_M_element_158
      · refine lv_iload X.1 X.2.1 d_M_element_49 (lv_at hl 1 rfl) ?_
        refine lv_sipush (v := iI 128) X.1 X.2.1 d_M_element_51 (by decide) ?_
        refine z_isub X.1 X.2.1 d_M_element_54 ?_
        refine lv_istore (lv' := [(6, .int (iI ((z105 % 256) - 128))), (5, .int (iI (a1 + 2))), (4, .int (iI (z105 % 256))), (0, .ref h), (1, .int (iI a1)), (2, .int (iI a2)), (3, .int (iI a3))]) X.1 X.2.1 d_M_element_55 hl (by decide) rfl (fun ls hl => ?_)
        refine lv_iload X.1 X.2.1 d_M_element_57 (lv_at hl 0 rfl) ?_
        refine lv_iconst (v := iI 1) X.1 X.2.1 d_M_element_59 (by decide) ?_
        refine z_icmp_lt (tgt := 78) X.1 X.2.1 d_M_element_60 (by decide) ⟨by omega, by omega⟩ ⟨by omega, by omega⟩ (fun h110 => ?_) (fun h110 => ?_)
        · refine lv_iconst (v := iI 0) X.1 X.2.1 d_M_element_78 (by decide) ?_
          exact m_retz hQQ X Y hr hlk (iI_bool (by omega) (by omega)).1 ⟨S, 0, rfl, ⟨by omega, by omega, by have c := el_cases mm q0; have r1 := gb_rng mm (a1 + 1); have r2 := gb_rng mm (a1 + 2); have r3 := gb_rng mm (a1 + 3); have r4 := gb_rng mm (a1 + 4); omega, ⟨x101, y101, ex101, ey101, by omega, by omega, by omega, by omega, fun h9 => by have c := el_cases mm q0; have r1 := gb_rng mm (a1 + 1); have r2 := gb_rng mm (a1 + 2); have r3 := gb_rng mm (a1 + 3); have r4 := gb_rng mm (a1 + 4); omega, fun h9 => ⟨rfl, rfl⟩⟩⟩⟩ d_M_element_79
        · refine lv_iload X.1 X.2.1 d_M_element_63 (lv_at hl 0 rfl) ?_
          refine lv_iconst (v := iI 3) X.1 X.2.1 d_M_element_65 (by decide) ?_
          refine z_icmp_gt (tgt := 78) X.1 X.2.1 d_M_element_66 (by decide) ⟨by omega, by omega⟩ ⟨by omega, by omega⟩ (fun h111 => ?_) (fun h111 => ?_)
          · refine lv_iconst (v := iI 0) X.1 X.2.1 d_M_element_78 (by decide) ?_
            exact m_retz hQQ X Y hr hlk (iI_bool (by omega) (by omega)).1 ⟨S, 0, rfl, ⟨by omega, by omega, by have c := el_cases mm q0; have r1 := gb_rng mm (a1 + 1); have r2 := gb_rng mm (a1 + 2); have r3 := gb_rng mm (a1 + 3); have r4 := gb_rng mm (a1 + 4); omega, ⟨x101, y101, ex101, ey101, by omega, by omega, by omega, by omega, fun h9 => by have c := el_cases mm q0; have r1 := gb_rng mm (a1 + 1); have r2 := gb_rng mm (a1 + 2); have r3 := gb_rng mm (a1 + 3); have r4 := gb_rng mm (a1 + 4); omega, fun h9 => ⟨rfl, rfl⟩⟩⟩⟩ d_M_element_79
          · refine lv_iload X.1 X.2.1 d_M_element_69 (lv_at hl 1 rfl) ?_
            refine lv_iload X.1 X.2.1 d_M_element_71 (lv_at hl 0 rfl) ?_
            refine z_iadd X.1 X.2.1 d_M_element_73 ?_
            refine lv_iload_n X.1 X.2.1 d_M_element_74 rfl (lv_at hl 5 rfl) ?_
            refine z_icmp_le (tgt := 80) X.1 X.2.1 d_M_element_75 (by decide) ⟨by omega, by omega⟩ ⟨by omega, by omega⟩ (fun h112 => ?_) (fun h112 => ?_)
            · refine lv_iconst (v := iI 0) X.1 X.2.1 d_M_element_80 (by decide) ?_
              refine lv_istore (lv' := [(4, .int (iI 0)), (6, .int (iI ((z105 % 256) - 128))), (5, .int (iI (a1 + 2))), (0, .ref h), (1, .int (iI a1)), (2, .int (iI a2)), (3, .int (iI a3))]) X.1 X.2.1 d_M_element_81 hl (by decide) rfl (fun ls hl => ?_)
              refine lv_iconst (v := iI 0) X.1 X.2.1 d_M_element_83 (by decide) ?_
              refine lv_istore (lv' := [(7, .int (iI 0)), (4, .int (iI 0)), (6, .int (iI ((z105 % 256) - 128))), (5, .int (iI (a1 + 2))), (0, .ref h), (1, .int (iI a1)), (2, .int (iI a2)), (3, .int (iI a3))]) X.1 X.2.1 d_M_element_84 hl (by decide) rfl (fun ls hl => ?_)
              refine lv_iload X.1 X.2.1 d_M_element_86 (lv_at hl 0 rfl) ?_
              refine lv_iload X.1 X.2.1 d_M_element_88 (lv_at hl 2 rfl) ?_
              refine z_icmp_ge (tgt := 121) X.1 X.2.1 d_M_element_90 (by decide) ⟨by omega, by omega⟩ ⟨by omega, by omega⟩ (fun h113 => False.elim (by omega)) (fun h113 => ?_)
              · refine lv_iload X.1 X.2.1 d_M_element_93 (lv_at hl 1 rfl) ?_
                refine lv_bipush (v := iI 8) X.1 X.2.1 d_M_element_95 (by decide) ?_
                refine z_ishl8 X.1 X.2.1 ⟨by omega, by omega⟩ d_M_element_97 ?_
                refine lv_aload_n X.1 X.2.1 d_M_element_98 rfl (lv_at hl 4 rfl) ?_
                refine m_get X Y 0 (by decide) lk_mem (gf_mem _ _ _) rfl d_M_element_99 ?_
                refine lv_iload X.1 X.2.1 d_M_element_102 (lv_at hl 3 rfl) ?_
                refine lv_iload X.1 X.2.1 d_M_element_104 (lv_at hl 0 rfl) ?_
                refine z_iadd X.1 X.2.1 d_M_element_106 ?_
                refine r_bald X Y S (aw_mem _ _ _ _ _ _ _) rfl (by omega) (show (a1 + 2) + 0 < ((60000 : Nat) : Int) by omega) (by omega) d_M_element_107 (fun z114 q114 l114 u114 => ?_)
                rw [gm] at q114
                have g114 : gb mm (a1 + 2) = z114 % 256 := by rw [show a1 + 2 = (a1 + 2) + 0 by omega]; unfold gb; rw [← q114]
                have s114 : sg mm (a1 + 2) = z114 := by rw [show a1 + 2 = (a1 + 2) + 0 by omega]; unfold sg; rw [← q114]
                refine lv_sipush (v := iI 255) X.1 X.2.1 d_M_element_108 (by decide) ?_
                refine z_iand255 X.1 X.2.1 d_M_element_111 ?_
                refine z_iorb X.1 X.2.1 ⟨by omega, by omega⟩ ⟨by omega, by omega⟩ d_M_element_112 ?_
                refine lv_istore (lv' := [(4, .int (iI (0 * 256 + (z114 % 256)))), (7, .int (iI 0)), (6, .int (iI ((z105 % 256) - 128))), (5, .int (iI (a1 + 2))), (0, .ref h), (1, .int (iI a1)), (2, .int (iI a2)), (3, .int (iI a3))]) X.1 X.2.1 d_M_element_113 hl (by decide) rfl (fun ls hl => ?_)
                refine lv_iinc (v := iI 1) (lv' := [(7, .int (iI 1)), (4, .int (iI (0 * 256 + (z114 % 256)))), (6, .int (iI ((z105 % 256) - 128))), (5, .int (iI (a1 + 2))), (0, .ref h), (1, .int (iI a1)), (2, .int (iI a2)), (3, .int (iI a3))]) X.1 X.2.1 d_M_element_115 hl (k := 1) rfl (by decide) (by decide) rfl (fun ls hl => ?_)
                refine lv_goto (tgt := 86) X.1 X.2.1 d_M_element_118 (by decide) ?_
                refine lv_iload X.1 X.2.1 d_M_element_86 (lv_at hl 0 rfl) ?_
                refine lv_iload X.1 X.2.1 d_M_element_88 (lv_at hl 2 rfl) ?_
                refine z_icmp_ge (tgt := 121) X.1 X.2.1 d_M_element_90 (by decide) ⟨by omega, by omega⟩ ⟨by omega, by omega⟩ (fun h115 => ?_) (fun h115 => ?_)
                · refine lv_aload_n X.1 X.2.1 d_M_element_121 rfl (lv_at hl 4 rfl) ?_
                  refine m_get X Y 0 (by decide) lk_mem (gf_mem _ _ _) rfl d_M_element_122 ?_
                  refine lv_iload X.1 X.2.1 d_M_element_125 (lv_at hl 3 rfl) ?_
                  refine r_bald X Y S (aw_mem _ _ _ _ _ _ _) rfl (by omega) (show a1 + 2 < ((60000 : Nat) : Int) by omega) (by omega) d_M_element_127 (fun z116 q116 l116 u116 => ?_)
                  rw [gm] at q116
                  have g116 : gb mm (a1 + 2) = z116 % 256 := by unfold gb; rw [← q116]
                  have s116 : sg mm (a1 + 2) = z116 := by unfold sg; rw [← q116]
                  refine z_if_eq (tgt := 139) X.1 X.2.1 d_M_element_128 (by decide) ⟨by omega, by omega⟩ (fun h117 => ?_) (fun h117 => ?_)
                  · refine lv_iconst (v := iI 0) X.1 X.2.1 d_M_element_139 (by decide) ?_
                    exact m_retz hQQ X Y hr hlk (iI_bool (by omega) (by omega)).1 ⟨S, 0, rfl, ⟨by omega, by omega, by have c := el_cases mm q0; have r1 := gb_rng mm (a1 + 1); have r2 := gb_rng mm (a1 + 2); have r3 := gb_rng mm (a1 + 3); have r4 := gb_rng mm (a1 + 4); omega, ⟨x101, y101, ex101, ey101, by omega, by omega, by omega, by omega, fun h9 => by have c := el_cases mm q0; have r1 := gb_rng mm (a1 + 1); have r2 := gb_rng mm (a1 + 2); have r3 := gb_rng mm (a1 + 3); have r4 := gb_rng mm (a1 + 4); omega, fun h9 => ⟨rfl, rfl⟩⟩⟩⟩ d_M_element_140
                  · refine lv_iload X.1 X.2.1 d_M_element_131 (lv_at hl 1 rfl) ?_
                    refine lv_sipush (v := iI 128) X.1 X.2.1 d_M_element_133 (by decide) ?_
                    refine z_icmp_ge (tgt := 141) X.1 X.2.1 d_M_element_136 (by decide) ⟨by omega, by omega⟩ ⟨by omega, by omega⟩ (fun h118 => ?_) (fun h118 => ?_)
                    · refine lv_iload X.1 X.2.1 d_M_element_141 (lv_at hl 3 rfl) ?_
                      refine lv_iload X.1 X.2.1 d_M_element_143 (lv_at hl 2 rfl) ?_
                      refine z_iadd X.1 X.2.1 d_M_element_145 ?_
                      refine lv_istore (lv' := [(5, .int (iI ((a1 + 2) + ((z105 % 256) - 128)))), (7, .int (iI 1)), (4, .int (iI (0 * 256 + (z114 % 256)))), (6, .int (iI ((z105 % 256) - 128))), (0, .ref h), (1, .int (iI a1)), (2, .int (iI a2)), (3, .int (iI a3))]) X.1 X.2.1 d_M_element_146 hl (by decide) rfl (fun ls hl => ?_)
                      refine lv_iload X.1 X.2.1 d_M_element_148 (lv_at hl 2 rfl) ?_
                      refine lv_iload_n X.1 X.2.1 d_M_element_150 rfl (lv_at hl 6 rfl) ?_
                      refine lv_iload X.1 X.2.1 d_M_element_151 (lv_at hl 0 rfl) ?_
                      refine z_isub X.1 X.2.1 d_M_element_153 ?_
                      refine z_icmp_le (tgt := 159) X.1 X.2.1 d_M_element_154 (by decide) ⟨by omega, by omega⟩ ⟨by omega, by omega⟩ (fun h119 => ?_) (fun h119 => ?_)
                      · refine lv_aload_n X.1 X.2.1 d_M_element_159 rfl (lv_at hl 4 rfl) ?_
                        refine lv_iload X.1 X.2.1 d_M_element_160 (lv_at hl 0 rfl) ?_
                        refine r_puti (k := 39) X Y S (by decide) lk_inside rfl rfl (t_M_ok 39 (by decide)) rfl rfl (sf_inside _ _ _ _) (Nat.le_of_ble_eq_true rfl) rfl (show (0 : Int) ≤ (a1 + 2) + ((z105 % 256) - 128) by omega) (show (a1 + 2) + ((z105 % 256) - 128) ≤ (30000 : Int) by omega) ⟨by omega, by omega⟩ (by decide) d_M_element_162 (fun I120 H locs Y S w120 => ?_)
                        refine lv_aload_n X.1 X.2.1 d_M_element_165 rfl (lv_at hl 4 rfl) ?_
                        refine lv_iload X.1 X.2.1 d_M_element_166 (lv_at hl 0 rfl) ?_
                        refine lv_iload X.1 X.2.1 d_M_element_168 (lv_at hl 2 rfl) ?_
                        refine z_iadd X.1 X.2.1 d_M_element_170 ?_
                        refine r_puti (k := 40) X Y S (by decide) lk_behind rfl rfl (t_M_ok 40 (by decide)) rfl rfl (sf_behind _ _ _ _) (Nat.le_of_ble_eq_true rfl) rfl (show (0 : Int) ≤ ((a1 + 2) + ((z105 % 256) - 128)) + (0 * 256 + (z114 % 256)) by omega) (show ((a1 + 2) + ((z105 % 256) - 128)) + (0 * 256 + (z114 % 256)) ≤ (30000 : Int) by omega) ⟨by omega, by omega⟩ (by decide) d_M_element_171 (fun I121 H locs Y S w121 => ?_)
                        refine lv_iconst (v := iI 1) X.1 X.2.1 d_M_element_174 (by decide) ?_
                        exact m_retz hQQ X Y hr hlk (iI_bool (by omega) (by omega)).1 ⟨S, 1, rfl, ⟨by omega, by omega, by have c := el_cases mm q0; have r1 := gb_rng mm (a1 + 1); have r2 := gb_rng mm (a1 + 2); have r3 := gb_rng mm (a1 + 3); have r4 := gb_rng mm (a1 + 4); omega, ⟨(a1 + 2) + ((z105 % 256) - 128), ((a1 + 2) + ((z105 % 256) - 128)) + (0 * 256 + (z114 % 256)), ((w121.2 39 (by decide)).trans w120.1), w121.1, by omega, by omega, by omega, by omega, fun h9 => by have c := el_cases mm q0; have r1 := gb_rng mm (a1 + 1); have r2 := gb_rng mm (a1 + 2); have r3 := gb_rng mm (a1 + 3); have r4 := gb_rng mm (a1 + 4); omega, fun h9 => absurd h9 (by decide)⟩⟩⟩ d_M_element_175
                      · refine lv_iconst (v := iI 0) X.1 X.2.1 d_M_element_157 (by decide) ?_
                        exact m_retz hQQ X Y hr hlk (iI_bool (by omega) (by omega)).1 ⟨S, 0, rfl, ⟨by omega, by omega, by have c := el_cases mm q0; have r1 := gb_rng mm (a1 + 1); have r2 := gb_rng mm (a1 + 2); have r3 := gb_rng mm (a1 + 3); have r4 := gb_rng mm (a1 + 4); omega, ⟨x101, y101, ex101, ey101, by omega, by omega, by omega, by omega, fun h9 => by have c := el_cases mm q0; have r1 := gb_rng mm (a1 + 1); have r2 := gb_rng mm (a1 + 2); have r3 := gb_rng mm (a1 + 3); have r4 := gb_rng mm (a1 + 4); omega, fun h9 => ⟨rfl, rfl⟩⟩⟩⟩ d_M_element_158
                    · refine lv_iconst (v := iI 0) X.1 X.2.1 d_M_element_139 (by decide) ?_
                      exact m_retz hQQ X Y hr hlk (iI_bool (by omega) (by omega)).1 ⟨S, 0, rfl, ⟨by omega, by omega, by have c := el_cases mm q0; have r1 := gb_rng mm (a1 + 1); have r2 := gb_rng mm (a1 + 2); have r3 := gb_rng mm (a1 + 3); have r4 := gb_rng mm (a1 + 4); omega, ⟨x101, y101, ex101, ey101, by omega, by omega, by omega, by omega, fun h9 => by have c := el_cases mm q0; have r1 := gb_rng mm (a1 + 1); have r2 := gb_rng mm (a1 + 2); have r3 := gb_rng mm (a1 + 3); have r4 := gb_rng mm (a1 + 4); omega, fun h9 => ⟨rfl, rfl⟩⟩⟩⟩ d_M_element_140
                · refine lv_iload X.1 X.2.1 d_M_element_93 (lv_at hl 1 rfl) ?_
                  refine lv_bipush (v := iI 8) X.1 X.2.1 d_M_element_95 (by decide) ?_
                  refine z_ishl8 X.1 X.2.1 ⟨by omega, by omega⟩ d_M_element_97 ?_
                  refine lv_aload_n X.1 X.2.1 d_M_element_98 rfl (lv_at hl 4 rfl) ?_
                  refine m_get X Y 0 (by decide) lk_mem (gf_mem _ _ _) rfl d_M_element_99 ?_
                  refine lv_iload X.1 X.2.1 d_M_element_102 (lv_at hl 3 rfl) ?_
                  refine lv_iload X.1 X.2.1 d_M_element_104 (lv_at hl 0 rfl) ?_
                  refine z_iadd X.1 X.2.1 d_M_element_106 ?_
                  refine r_bald X Y S (aw_mem _ _ _ _ _ _ _) rfl (by omega) (show (a1 + 2) + 1 < ((60000 : Nat) : Int) by omega) (by omega) d_M_element_107 (fun z122 q122 l122 u122 => ?_)
                  rw [gm] at q122
                  have g122 : gb mm (a1 + 3) = z122 % 256 := by rw [show a1 + 3 = (a1 + 2) + 1 by omega]; unfold gb; rw [← q122]
                  have s122 : sg mm (a1 + 3) = z122 := by rw [show a1 + 3 = (a1 + 2) + 1 by omega]; unfold sg; rw [← q122]
                  refine lv_sipush (v := iI 255) X.1 X.2.1 d_M_element_108 (by decide) ?_
                  refine z_iand255 X.1 X.2.1 d_M_element_111 ?_
                  refine z_iorb X.1 X.2.1 ⟨by omega, by omega⟩ ⟨by omega, by omega⟩ d_M_element_112 ?_
                  refine lv_istore (lv' := [(4, .int (iI ((0 * 256 + (z114 % 256)) * 256 + (z122 % 256)))), (7, .int (iI 1)), (6, .int (iI ((z105 % 256) - 128))), (5, .int (iI (a1 + 2))), (0, .ref h), (1, .int (iI a1)), (2, .int (iI a2)), (3, .int (iI a3))]) X.1 X.2.1 d_M_element_113 hl (by decide) rfl (fun ls hl => ?_)
                  refine lv_iinc (v := iI 2) (lv' := [(7, .int (iI 2)), (4, .int (iI ((0 * 256 + (z114 % 256)) * 256 + (z122 % 256)))), (6, .int (iI ((z105 % 256) - 128))), (5, .int (iI (a1 + 2))), (0, .ref h), (1, .int (iI a1)), (2, .int (iI a2)), (3, .int (iI a3))]) X.1 X.2.1 d_M_element_115 hl (k := 1) rfl (by decide) (by decide) rfl (fun ls hl => ?_)
                  refine lv_goto (tgt := 86) X.1 X.2.1 d_M_element_118 (by decide) ?_
                  refine lv_iload X.1 X.2.1 d_M_element_86 (lv_at hl 0 rfl) ?_
                  refine lv_iload X.1 X.2.1 d_M_element_88 (lv_at hl 2 rfl) ?_
                  refine z_icmp_ge (tgt := 121) X.1 X.2.1 d_M_element_90 (by decide) ⟨by omega, by omega⟩ ⟨by omega, by omega⟩ (fun h123 => ?_) (fun h123 => ?_)
                  · refine lv_aload_n X.1 X.2.1 d_M_element_121 rfl (lv_at hl 4 rfl) ?_
                    refine m_get X Y 0 (by decide) lk_mem (gf_mem _ _ _) rfl d_M_element_122 ?_
                    refine lv_iload X.1 X.2.1 d_M_element_125 (lv_at hl 3 rfl) ?_
                    refine r_bald X Y S (aw_mem _ _ _ _ _ _ _) rfl (by omega) (show a1 + 2 < ((60000 : Nat) : Int) by omega) (by omega) d_M_element_127 (fun z124 q124 l124 u124 => ?_)
                    rw [gm] at q124
                    have g124 : gb mm (a1 + 2) = z124 % 256 := by unfold gb; rw [← q124]
                    have s124 : sg mm (a1 + 2) = z124 := by unfold sg; rw [← q124]
                    refine z_if_eq (tgt := 139) X.1 X.2.1 d_M_element_128 (by decide) ⟨by omega, by omega⟩ (fun h125 => ?_) (fun h125 => ?_)
                    · refine lv_iconst (v := iI 0) X.1 X.2.1 d_M_element_139 (by decide) ?_
                      exact m_retz hQQ X Y hr hlk (iI_bool (by omega) (by omega)).1 ⟨S, 0, rfl, ⟨by omega, by omega, by have c := el_cases mm q0; have r1 := gb_rng mm (a1 + 1); have r2 := gb_rng mm (a1 + 2); have r3 := gb_rng mm (a1 + 3); have r4 := gb_rng mm (a1 + 4); omega, ⟨x101, y101, ex101, ey101, by omega, by omega, by omega, by omega, fun h9 => by have c := el_cases mm q0; have r1 := gb_rng mm (a1 + 1); have r2 := gb_rng mm (a1 + 2); have r3 := gb_rng mm (a1 + 3); have r4 := gb_rng mm (a1 + 4); omega, fun h9 => ⟨rfl, rfl⟩⟩⟩⟩ d_M_element_140
                    · refine lv_iload X.1 X.2.1 d_M_element_131 (lv_at hl 1 rfl) ?_
                      refine lv_sipush (v := iI 128) X.1 X.2.1 d_M_element_133 (by decide) ?_
                      refine z_icmp_ge (tgt := 141) X.1 X.2.1 d_M_element_136 (by decide) ⟨by omega, by omega⟩ ⟨by omega, by omega⟩ (fun h126 => ?_) (fun h126 => ?_)
                      · refine lv_iload X.1 X.2.1 d_M_element_141 (lv_at hl 3 rfl) ?_
                        refine lv_iload X.1 X.2.1 d_M_element_143 (lv_at hl 2 rfl) ?_
                        refine z_iadd X.1 X.2.1 d_M_element_145 ?_
                        refine lv_istore (lv' := [(5, .int (iI ((a1 + 2) + ((z105 % 256) - 128)))), (7, .int (iI 2)), (4, .int (iI ((0 * 256 + (z114 % 256)) * 256 + (z122 % 256)))), (6, .int (iI ((z105 % 256) - 128))), (0, .ref h), (1, .int (iI a1)), (2, .int (iI a2)), (3, .int (iI a3))]) X.1 X.2.1 d_M_element_146 hl (by decide) rfl (fun ls hl => ?_)
                        refine lv_iload X.1 X.2.1 d_M_element_148 (lv_at hl 2 rfl) ?_
                        refine lv_iload_n X.1 X.2.1 d_M_element_150 rfl (lv_at hl 6 rfl) ?_
                        refine lv_iload X.1 X.2.1 d_M_element_151 (lv_at hl 0 rfl) ?_
                        refine z_isub X.1 X.2.1 d_M_element_153 ?_
                        refine z_icmp_le (tgt := 159) X.1 X.2.1 d_M_element_154 (by decide) ⟨by omega, by omega⟩ ⟨by omega, by omega⟩ (fun h127 => ?_) (fun h127 => ?_)
                        · refine lv_aload_n X.1 X.2.1 d_M_element_159 rfl (lv_at hl 4 rfl) ?_
                          refine lv_iload X.1 X.2.1 d_M_element_160 (lv_at hl 0 rfl) ?_
                          refine r_puti (k := 39) X Y S (by decide) lk_inside rfl rfl (t_M_ok 39 (by decide)) rfl rfl (sf_inside _ _ _ _) (Nat.le_of_ble_eq_true rfl) rfl (show (0 : Int) ≤ (a1 + 2) + ((z105 % 256) - 128) by omega) (show (a1 + 2) + ((z105 % 256) - 128) ≤ (30000 : Int) by omega) ⟨by omega, by omega⟩ (by decide) d_M_element_162 (fun I128 H locs Y S w128 => ?_)
                          refine lv_aload_n X.1 X.2.1 d_M_element_165 rfl (lv_at hl 4 rfl) ?_
                          refine lv_iload X.1 X.2.1 d_M_element_166 (lv_at hl 0 rfl) ?_
                          refine lv_iload X.1 X.2.1 d_M_element_168 (lv_at hl 2 rfl) ?_
                          refine z_iadd X.1 X.2.1 d_M_element_170 ?_
                          refine r_puti (k := 40) X Y S (by decide) lk_behind rfl rfl (t_M_ok 40 (by decide)) rfl rfl (sf_behind _ _ _ _) (Nat.le_of_ble_eq_true rfl) rfl (show (0 : Int) ≤ ((a1 + 2) + ((z105 % 256) - 128)) + ((0 * 256 + (z114 % 256)) * 256 + (z122 % 256)) by omega) (show ((a1 + 2) + ((z105 % 256) - 128)) + ((0 * 256 + (z114 % 256)) * 256 + (z122 % 256)) ≤ (30000 : Int) by omega) ⟨by omega, by omega⟩ (by decide) d_M_element_171 (fun I129 H locs Y S w129 => ?_)
                          refine lv_iconst (v := iI 1) X.1 X.2.1 d_M_element_174 (by decide) ?_
                          exact m_retz hQQ X Y hr hlk (iI_bool (by omega) (by omega)).1 ⟨S, 1, rfl, ⟨by omega, by omega, by have c := el_cases mm q0; have r1 := gb_rng mm (a1 + 1); have r2 := gb_rng mm (a1 + 2); have r3 := gb_rng mm (a1 + 3); have r4 := gb_rng mm (a1 + 4); omega, ⟨(a1 + 2) + ((z105 % 256) - 128), ((a1 + 2) + ((z105 % 256) - 128)) + ((0 * 256 + (z114 % 256)) * 256 + (z122 % 256)), ((w129.2 39 (by decide)).trans w128.1), w129.1, by omega, by omega, by omega, by omega, fun h9 => by have c := el_cases mm q0; have r1 := gb_rng mm (a1 + 1); have r2 := gb_rng mm (a1 + 2); have r3 := gb_rng mm (a1 + 3); have r4 := gb_rng mm (a1 + 4); omega, fun h9 => absurd h9 (by decide)⟩⟩⟩ d_M_element_175
                        · refine lv_iconst (v := iI 0) X.1 X.2.1 d_M_element_157 (by decide) ?_
                          exact m_retz hQQ X Y hr hlk (iI_bool (by omega) (by omega)).1 ⟨S, 0, rfl, ⟨by omega, by omega, by have c := el_cases mm q0; have r1 := gb_rng mm (a1 + 1); have r2 := gb_rng mm (a1 + 2); have r3 := gb_rng mm (a1 + 3); have r4 := gb_rng mm (a1 + 4); omega, ⟨x101, y101, ex101, ey101, by omega, by omega, by omega, by omega, fun h9 => by have c := el_cases mm q0; have r1 := gb_rng mm (a1 + 1); have r2 := gb_rng mm (a1 + 2); have r3 := gb_rng mm (a1 + 3); have r4 := gb_rng mm (a1 + 4); omega, fun h9 => ⟨rfl, rfl⟩⟩⟩⟩ d_M_element_158
                      · refine lv_iconst (v := iI 0) X.1 X.2.1 d_M_element_139 (by decide) ?_
                        exact m_retz hQQ X Y hr hlk (iI_bool (by omega) (by omega)).1 ⟨S, 0, rfl, ⟨by omega, by omega, by have c := el_cases mm q0; have r1 := gb_rng mm (a1 + 1); have r2 := gb_rng mm (a1 + 2); have r3 := gb_rng mm (a1 + 3); have r4 := gb_rng mm (a1 + 4); omega, ⟨x101, y101, ex101, ey101, by omega, by omega, by omega, by omega, fun h9 => by have c := el_cases mm q0; have r1 := gb_rng mm (a1 + 1); have r2 := gb_rng mm (a1 + 2); have r3 := gb_rng mm (a1 + 3); have r4 := gb_rng mm (a1 + 4); omega, fun h9 => ⟨rfl, rfl⟩⟩⟩⟩ d_M_element_140
                  · refine lv_iload X.1 X.2.1 d_M_element_93 (lv_at hl 1 rfl) ?_
                    refine lv_bipush (v := iI 8) X.1 X.2.1 d_M_element_95 (by decide) ?_
                    refine z_ishl8 X.1 X.2.1 ⟨by omega, by omega⟩ d_M_element_97 ?_
                    refine lv_aload_n X.1 X.2.1 d_M_element_98 rfl (lv_at hl 4 rfl) ?_
                    refine m_get X Y 0 (by decide) lk_mem (gf_mem _ _ _) rfl d_M_element_99 ?_
                    refine lv_iload X.1 X.2.1 d_M_element_102 (lv_at hl 3 rfl) ?_
                    refine lv_iload X.1 X.2.1 d_M_element_104 (lv_at hl 0 rfl) ?_
                    refine z_iadd X.1 X.2.1 d_M_element_106 ?_
                    refine r_bald X Y S (aw_mem _ _ _ _ _ _ _) rfl (by omega) (show (a1 + 2) + 2 < ((60000 : Nat) : Int) by omega) (by omega) d_M_element_107 (fun z130 q130 l130 u130 => ?_)
                    rw [gm] at q130
                    have g130 : gb mm (a1 + 4) = z130 % 256 := by rw [show a1 + 4 = (a1 + 2) + 2 by omega]; unfold gb; rw [← q130]
                    have s130 : sg mm (a1 + 4) = z130 := by rw [show a1 + 4 = (a1 + 2) + 2 by omega]; unfold sg; rw [← q130]
                    refine lv_sipush (v := iI 255) X.1 X.2.1 d_M_element_108 (by decide) ?_
                    refine z_iand255 X.1 X.2.1 d_M_element_111 ?_
                    refine z_iorb X.1 X.2.1 ⟨by omega, by omega⟩ ⟨by omega, by omega⟩ d_M_element_112 ?_
                    refine lv_istore (lv' := [(4, .int (iI (((0 * 256 + (z114 % 256)) * 256 + (z122 % 256)) * 256 + (z130 % 256)))), (7, .int (iI 2)), (6, .int (iI ((z105 % 256) - 128))), (5, .int (iI (a1 + 2))), (0, .ref h), (1, .int (iI a1)), (2, .int (iI a2)), (3, .int (iI a3))]) X.1 X.2.1 d_M_element_113 hl (by decide) rfl (fun ls hl => ?_)
                    refine lv_iinc (v := iI 3) (lv' := [(7, .int (iI 3)), (4, .int (iI (((0 * 256 + (z114 % 256)) * 256 + (z122 % 256)) * 256 + (z130 % 256)))), (6, .int (iI ((z105 % 256) - 128))), (5, .int (iI (a1 + 2))), (0, .ref h), (1, .int (iI a1)), (2, .int (iI a2)), (3, .int (iI a3))]) X.1 X.2.1 d_M_element_115 hl (k := 1) rfl (by decide) (by decide) rfl (fun ls hl => ?_)
                    refine lv_goto (tgt := 86) X.1 X.2.1 d_M_element_118 (by decide) ?_
                    refine lv_iload X.1 X.2.1 d_M_element_86 (lv_at hl 0 rfl) ?_
                    refine lv_iload X.1 X.2.1 d_M_element_88 (lv_at hl 2 rfl) ?_
                    refine z_icmp_ge (tgt := 121) X.1 X.2.1 d_M_element_90 (by decide) ⟨by omega, by omega⟩ ⟨by omega, by omega⟩ (fun h131 => ?_) (fun h131 => False.elim (by omega))
                    · refine lv_aload_n X.1 X.2.1 d_M_element_121 rfl (lv_at hl 4 rfl) ?_
                      refine m_get X Y 0 (by decide) lk_mem (gf_mem _ _ _) rfl d_M_element_122 ?_
                      refine lv_iload X.1 X.2.1 d_M_element_125 (lv_at hl 3 rfl) ?_
                      refine r_bald X Y S (aw_mem _ _ _ _ _ _ _) rfl (by omega) (show a1 + 2 < ((60000 : Nat) : Int) by omega) (by omega) d_M_element_127 (fun z132 q132 l132 u132 => ?_)
                      rw [gm] at q132
                      have g132 : gb mm (a1 + 2) = z132 % 256 := by unfold gb; rw [← q132]
                      have s132 : sg mm (a1 + 2) = z132 := by unfold sg; rw [← q132]
                      refine z_if_eq (tgt := 139) X.1 X.2.1 d_M_element_128 (by decide) ⟨by omega, by omega⟩ (fun h133 => ?_) (fun h133 => ?_)
                      · refine lv_iconst (v := iI 0) X.1 X.2.1 d_M_element_139 (by decide) ?_
                        exact m_retz hQQ X Y hr hlk (iI_bool (by omega) (by omega)).1 ⟨S, 0, rfl, ⟨by omega, by omega, by have c := el_cases mm q0; have r1 := gb_rng mm (a1 + 1); have r2 := gb_rng mm (a1 + 2); have r3 := gb_rng mm (a1 + 3); have r4 := gb_rng mm (a1 + 4); omega, ⟨x101, y101, ex101, ey101, by omega, by omega, by omega, by omega, fun h9 => by have c := el_cases mm q0; have r1 := gb_rng mm (a1 + 1); have r2 := gb_rng mm (a1 + 2); have r3 := gb_rng mm (a1 + 3); have r4 := gb_rng mm (a1 + 4); omega, fun h9 => ⟨rfl, rfl⟩⟩⟩⟩ d_M_element_140
                      · refine lv_iload X.1 X.2.1 d_M_element_131 (lv_at hl 1 rfl) ?_
                        refine lv_sipush (v := iI 128) X.1 X.2.1 d_M_element_133 (by decide) ?_
                        refine z_icmp_ge (tgt := 141) X.1 X.2.1 d_M_element_136 (by decide) ⟨by omega, by omega⟩ ⟨by omega, by omega⟩ (fun h134 => ?_) (fun h134 => ?_)
                        · refine lv_iload X.1 X.2.1 d_M_element_141 (lv_at hl 3 rfl) ?_
                          refine lv_iload X.1 X.2.1 d_M_element_143 (lv_at hl 2 rfl) ?_
                          refine z_iadd X.1 X.2.1 d_M_element_145 ?_
                          refine lv_istore (lv' := [(5, .int (iI ((a1 + 2) + ((z105 % 256) - 128)))), (7, .int (iI 3)), (4, .int (iI (((0 * 256 + (z114 % 256)) * 256 + (z122 % 256)) * 256 + (z130 % 256)))), (6, .int (iI ((z105 % 256) - 128))), (0, .ref h), (1, .int (iI a1)), (2, .int (iI a2)), (3, .int (iI a3))]) X.1 X.2.1 d_M_element_146 hl (by decide) rfl (fun ls hl => ?_)
                          refine lv_iload X.1 X.2.1 d_M_element_148 (lv_at hl 2 rfl) ?_
                          refine lv_iload_n X.1 X.2.1 d_M_element_150 rfl (lv_at hl 6 rfl) ?_
                          refine lv_iload X.1 X.2.1 d_M_element_151 (lv_at hl 0 rfl) ?_
                          refine z_isub X.1 X.2.1 d_M_element_153 ?_
                          refine z_icmp_le (tgt := 159) X.1 X.2.1 d_M_element_154 (by decide) ⟨by omega, by omega⟩ ⟨by omega, by omega⟩ (fun h135 => ?_) (fun h135 => ?_)
                          · refine lv_aload_n X.1 X.2.1 d_M_element_159 rfl (lv_at hl 4 rfl) ?_
                            refine lv_iload X.1 X.2.1 d_M_element_160 (lv_at hl 0 rfl) ?_
                            refine r_puti (k := 39) X Y S (by decide) lk_inside rfl rfl (t_M_ok 39 (by decide)) rfl rfl (sf_inside _ _ _ _) (Nat.le_of_ble_eq_true rfl) rfl (show (0 : Int) ≤ (a1 + 2) + ((z105 % 256) - 128) by omega) (show (a1 + 2) + ((z105 % 256) - 128) ≤ (30000 : Int) by omega) ⟨by omega, by omega⟩ (by decide) d_M_element_162 (fun I136 H locs Y S w136 => ?_)
                            refine lv_aload_n X.1 X.2.1 d_M_element_165 rfl (lv_at hl 4 rfl) ?_
                            refine lv_iload X.1 X.2.1 d_M_element_166 (lv_at hl 0 rfl) ?_
                            refine lv_iload X.1 X.2.1 d_M_element_168 (lv_at hl 2 rfl) ?_
                            refine z_iadd X.1 X.2.1 d_M_element_170 ?_
                            refine r_puti (k := 40) X Y S (by decide) lk_behind rfl rfl (t_M_ok 40 (by decide)) rfl rfl (sf_behind _ _ _ _) (Nat.le_of_ble_eq_true rfl) rfl (show (0 : Int) ≤ ((a1 + 2) + ((z105 % 256) - 128)) + (((0 * 256 + (z114 % 256)) * 256 + (z122 % 256)) * 256 + (z130 % 256)) by omega) (show ((a1 + 2) + ((z105 % 256) - 128)) + (((0 * 256 + (z114 % 256)) * 256 + (z122 % 256)) * 256 + (z130 % 256)) ≤ (30000 : Int) by omega) ⟨by omega, by omega⟩ (by decide) d_M_element_171 (fun I137 H locs Y S w137 => ?_)
                            refine lv_iconst (v := iI 1) X.1 X.2.1 d_M_element_174 (by decide) ?_
                            exact m_retz hQQ X Y hr hlk (iI_bool (by omega) (by omega)).1 ⟨S, 1, rfl, ⟨by omega, by omega, by have c := el_cases mm q0; have r1 := gb_rng mm (a1 + 1); have r2 := gb_rng mm (a1 + 2); have r3 := gb_rng mm (a1 + 3); have r4 := gb_rng mm (a1 + 4); omega, ⟨(a1 + 2) + ((z105 % 256) - 128), ((a1 + 2) + ((z105 % 256) - 128)) + (((0 * 256 + (z114 % 256)) * 256 + (z122 % 256)) * 256 + (z130 % 256)), ((w137.2 39 (by decide)).trans w136.1), w137.1, by omega, by omega, by omega, by omega, fun h9 => by have c := el_cases mm q0; have r1 := gb_rng mm (a1 + 1); have r2 := gb_rng mm (a1 + 2); have r3 := gb_rng mm (a1 + 3); have r4 := gb_rng mm (a1 + 4); omega, fun h9 => absurd h9 (by decide)⟩⟩⟩ d_M_element_175
                          · refine lv_iconst (v := iI 0) X.1 X.2.1 d_M_element_157 (by decide) ?_
                            exact m_retz hQQ X Y hr hlk (iI_bool (by omega) (by omega)).1 ⟨S, 0, rfl, ⟨by omega, by omega, by have c := el_cases mm q0; have r1 := gb_rng mm (a1 + 1); have r2 := gb_rng mm (a1 + 2); have r3 := gb_rng mm (a1 + 3); have r4 := gb_rng mm (a1 + 4); omega, ⟨x101, y101, ex101, ey101, by omega, by omega, by omega, by omega, fun h9 => by have c := el_cases mm q0; have r1 := gb_rng mm (a1 + 1); have r2 := gb_rng mm (a1 + 2); have r3 := gb_rng mm (a1 + 3); have r4 := gb_rng mm (a1 + 4); omega, fun h9 => ⟨rfl, rfl⟩⟩⟩⟩ d_M_element_158
                        · refine lv_iconst (v := iI 0) X.1 X.2.1 d_M_element_139 (by decide) ?_
                          exact m_retz hQQ X Y hr hlk (iI_bool (by omega) (by omega)).1 ⟨S, 0, rfl, ⟨by omega, by omega, by have c := el_cases mm q0; have r1 := gb_rng mm (a1 + 1); have r2 := gb_rng mm (a1 + 2); have r3 := gb_rng mm (a1 + 3); have r4 := gb_rng mm (a1 + 4); omega, ⟨x101, y101, ex101, ey101, by omega, by omega, by omega, by omega, fun h9 => by have c := el_cases mm q0; have r1 := gb_rng mm (a1 + 1); have r2 := gb_rng mm (a1 + 2); have r3 := gb_rng mm (a1 + 3); have r4 := gb_rng mm (a1 + 4); omega, fun h9 => ⟨rfl, rfl⟩⟩⟩⟩ d_M_element_140
            · refine lv_iconst (v := iI 0) X.1 X.2.1 d_M_element_78 (by decide) ?_
              exact m_retz hQQ X Y hr hlk (iI_bool (by omega) (by omega)).1 ⟨S, 0, rfl, ⟨by omega, by omega, by have c := el_cases mm q0; have r1 := gb_rng mm (a1 + 1); have r2 := gb_rng mm (a1 + 2); have r3 := gb_rng mm (a1 + 3); have r4 := gb_rng mm (a1 + 4); omega, ⟨x101, y101, ex101, ey101, by omega, by omega, by omega, by omega, fun h9 => by have c := el_cases mm q0; have r1 := gb_rng mm (a1 + 1); have r2 := gb_rng mm (a1 + 2); have r3 := gb_rng mm (a1 + 3); have r4 := gb_rng mm (a1 + 4); omega, fun h9 => ⟨rfl, rfl⟩⟩⟩⟩ d_M_element_79
    · refine lv_iconst (v := iI 0) X.1 X.2.1 d_M_element_21 (by decide) ?_
      exact m_retz hQQ X Y hr hlk (iI_bool (by omega) (by omega)).1 ⟨S, 0, rfl, ⟨by omega, by omega, by have c := el_cases mm q0; have r1 := gb_rng mm (a1 + 1); have r2 := gb_rng mm (a1 + 2); have r3 := gb_rng mm (a1 + 3); have r4 := gb_rng mm (a1 + 4); omega, ⟨x101, y101, ex101, ey101, by omega, by omega, by omega, by omega, fun h9 => by have c := el_cases mm q0; have r1 := gb_rng mm (a1 + 1); have r2 := gb_rng mm (a1 + 2); have r3 := gb_rng mm (a1 + 3); have r4 := gb_rng mm (a1 + 4); omega, fun h9 => ⟨rfl, rfl⟩⟩⟩⟩ d_M_element_22
set_option maxHeartbeats 4000000 in
set_option maxRecDepth 100000 in
theorem r_M_whole (l : Launch) (D : mD) (E : mE) (h : Nat) (q : Nat → Nat) (sz : Nat) (I : Nat → Int32) (J : Nat → Int64) (B : Nat → Nat → Int32) (G : Nat → Nat → Int64) (a1 : Int) (l_a1 : (-1) ≤ a1) (u_a1 : a1 ≤ 30000) (a2 : Int) (l_a2 : (-1) ≤ a2) (u_a2 : a2 ≤ 30000) (a3 : Int) (l_a3 : (-2147483648) ≤ a3) (u_a3 : a3 ≤ 2147483647) (hT : rT I B) (mm : Nat → Int32) (gm : B 0 = mm) (f_P1 : pG1 I) (q0 : 0 ≤ a1 ∨ a2 < a1 + 2) (q1 : a2 - a1 ≤ 4200) : Met l y_M_whole (k_M_whole :: lw_tg) (mR 2 87) (va_Pc [.ref h, .int (iI a1), .int (iI a2), .int (iI a3)] (mPre D E h q (I, J, B, G) sz)) (va_Qi (rPi [39, 40] [] I B (fun (z : Int) (u : mS) => 0 ≤ z ∧ z ≤ 1 ∧ (z = 1 ↔ whP mm a1 a2 a3) ∧ (∃ V1 V2 : Int, u.1 39 = iI V1 ∧ u.1 40 = iI V2 ∧ 0 ≤ V1 ∧ V1 ≤ V2 ∧ V2 ≤ 30000 ∧ V2 - V1 ≤ 4200 ∧ (z = 1 → V1 = elI mm a1 a2 ∧ V2 = a2 ∧ a1 + 2 ≤ V1)))) (mPost D E h q (mA E h q sz)) (mA E h q sz)) 0 0 (mA E h q sz) := by
  refine m_enter (by decide) rfl (Nat.le_of_ble_eq_true rfl) (fun p e s m below meth c ls AV QQ H locs hQQ X Y hZ hA hr hlk hml hl => ?_)
  have Y : mH D E (mA E h q sz) s.heap h q I J B G H locs := Y
  have S : rS [39, 40] [] I B I B := rS_rf hT
  have hl : lv_has ls 4 [(0, .ref h), (1, .int (iI a1)), (2, .int (iI a2)), (3, .int (iI a3))] := hl
  refine lv_aload_n X.1 X.2.1 d_M_whole_0 rfl (lv_at hl 0 rfl) ?_
  refine lv_iload_n X.1 X.2.1 d_M_whole_1 rfl (lv_at hl 1 rfl) ?_
  refine lv_iload_n X.1 X.2.1 d_M_whole_2 rfl (lv_at hl 2 rfl) ?_
  refine lv_iload_n X.1 X.2.1 d_M_whole_3 rfl (lv_at hl 3 rfl) ?_
  refine r_ni (m_run (As := [.int (iI a1), .int (iI a2), .int (iI a3)]) (rest := []) (n := 3) X Y hZ hA hml hl.1 (r_M_element l D E h q H.size I J B G a1 (by omega) (by omega) a2 (by omega) (by omega) a3 (by omega) (by omega) S.1 mm gm f_P1 (by omega) (by omega)) kl_M_element ks_M_element kx_M_element ki_M_element ini_M hd_M_element ⟨Nat.le_of_ble_eq_true rfl, Nat.le_of_ble_eq_true rfl⟩ rfl (Nat.le_of_ble_eq_true rfl) d_M_whole_4 ⟨Nat.le_refl _, Nat.le_refl _⟩) X Y hA S (by decide) (by decide) (fun z101 u H locs Y S s101 p101 => ?_)
  obtain ⟨I101, J101, B101, G101⟩ := u
  dsimp only at Y S s101 p101
  obtain ⟨l101, u101, x101, st101⟩ := p101
  obtain ⟨x102, y102, ex102, ey102, lx102, ly102, uy102, dy102, iy102, ky102⟩ := st101
  refine z_if_eq (tgt := 22) X.1 X.2.1 d_M_whole_7 (by decide) ⟨by omega, by omega⟩ (fun h103 => ?_) (fun h103 => ?_)
  · refine lv_iconst (v := iI 0) X.1 X.2.1 d_M_whole_22 (by decide) ?_
    exact m_retz hQQ X Y hr hlk (iI_bool (by omega) (by omega)).1 ⟨S, 0, rfl, ⟨by omega, by omega, by unfold whP; omega, ⟨x102, y102, ex102, ey102, by omega, by omega, by omega, by omega, fun h9 => by omega⟩⟩⟩ d_M_whole_23
  · refine lv_aload_n X.1 X.2.1 d_M_whole_10 rfl (lv_at hl 0 rfl) ?_
    refine r_get0 X Y (by decide) lk_behind (gf_behind _ _ _) rfl ey102 d_M_whole_11 ?_
    refine lv_iload_n X.1 X.2.1 d_M_whole_14 rfl (lv_at hl 2 rfl) ?_
    refine z_icmp_ne (tgt := 22) X.1 X.2.1 d_M_whole_15 (by decide) ⟨by omega, by omega⟩ ⟨by omega, by omega⟩ (fun h104 => ?_) (fun h104 => ?_)
    · refine lv_iconst (v := iI 0) X.1 X.2.1 d_M_whole_22 (by decide) ?_
      exact m_retz hQQ X Y hr hlk (iI_bool (by omega) (by omega)).1 ⟨S, 0, rfl, ⟨by omega, by omega, by unfold whP; omega, ⟨x102, y102, ex102, ey102, by omega, by omega, by omega, by omega, fun h9 => by omega⟩⟩⟩ d_M_whole_23
    · refine lv_iconst (v := iI 1) X.1 X.2.1 d_M_whole_18 (by decide) ?_
      refine lv_goto (tgt := 23) X.1 X.2.1 d_M_whole_19 (by decide) ?_
      exact m_retz hQQ X Y hr hlk (iI_bool (by omega) (by omega)).1 ⟨S, 1, rfl, ⟨by omega, by omega, by unfold whP; omega, ⟨x102, y102, ex102, ey102, by omega, by omega, by omega, by omega, fun h9 => by omega⟩⟩⟩ d_M_whole_23
set_option maxHeartbeats 4000000 in
set_option maxRecDepth 100000 in
theorem r_M_two (l : Launch) (D : mD) (E : mE) (h : Nat) (q : Nat → Nat) (sz : Nat) (I : Nat → Int32) (J : Nat → Int64) (B : Nat → Nat → Int32) (G : Nat → Nat → Int64) (a1 : Int) (l_a1 : 0 ≤ a1) (u_a1 : a1 ≤ 40000) (hT : rT I B) (mm : Nat → Int32) (gm : B 0 = mm) : Met l y_M_two (k_M_two :: lw_tg) (mR 1 60) (va_Pc [.ref h, .int (iI a1)] (mPre D E h q (I, J, B, G) sz)) (va_Qi (rPi [] [] I B (fun (z : Int) (u : mS) => (-10000) ≤ z ∧ z ≤ 99 ∧ z = tw mm a1)) (mPost D E h q (mA E h q sz)) (mA E h q sz)) 0 0 (mA E h q sz) := by
  refine m_enter (by decide) rfl (Nat.le_of_ble_eq_true rfl) (fun p e s m below meth c ls AV QQ H locs hQQ X Y hZ hA hr hlk hml hl => ?_)
  have Y : mH D E (mA E h q sz) s.heap h q I J B G H locs := Y
  have S : rS [] [] I B I B := rS_rf hT
  have hl : lv_has ls 4 [(0, .ref h), (1, .int (iI a1))] := hl
  refine lv_aload_n X.1 X.2.1 d_M_two_0 rfl (lv_at hl 0 rfl) ?_
  refine m_get X Y 0 (by decide) lk_mem (gf_mem _ _ _) rfl d_M_two_1 ?_
  refine lv_iload_n X.1 X.2.1 d_M_two_4 rfl (lv_at hl 1 rfl) ?_
  refine r_bald X Y S (aw_mem _ _ _ _ _ _ _) rfl (by omega) (show a1 < ((60000 : Nat) : Int) by omega) (by omega) d_M_two_5 (fun z101 q101 l101 u101 => ?_)
  rw [gm] at q101
  have g101 : gb mm a1 = z101 % 256 := by unfold gb; rw [← q101]
  have s101 : sg mm a1 = z101 := by unfold sg; rw [← q101]
  refine lv_bipush (v := iI 48) X.1 X.2.1 d_M_two_6 (by decide) ?_
  refine z_isub X.1 X.2.1 d_M_two_8 ?_
  refine lv_istore_n (lv' := [(2, .int (iI (z101 - 48))), (0, .ref h), (1, .int (iI a1))]) X.1 X.2.1 d_M_two_9 rfl hl (by decide) rfl (fun ls hl => ?_)
  refine lv_aload_n X.1 X.2.1 d_M_two_10 rfl (lv_at hl 1 rfl) ?_
  refine m_get X Y 0 (by decide) lk_mem (gf_mem _ _ _) rfl d_M_two_11 ?_
  refine lv_iload_n X.1 X.2.1 d_M_two_14 rfl (lv_at hl 2 rfl) ?_
  refine lv_iconst (v := iI 1) X.1 X.2.1 d_M_two_15 (by decide) ?_
  refine z_iadd X.1 X.2.1 d_M_two_16 ?_
  refine r_bald X Y S (aw_mem _ _ _ _ _ _ _) rfl (by omega) (show a1 + 1 < ((60000 : Nat) : Int) by omega) (by omega) d_M_two_17 (fun z102 q102 l102 u102 => ?_)
  rw [gm] at q102
  have g102 : gb mm (a1 + 1) = z102 % 256 := by unfold gb; rw [← q102]
  have s102 : sg mm (a1 + 1) = z102 := by unfold sg; rw [← q102]
  refine lv_bipush (v := iI 48) X.1 X.2.1 d_M_two_18 (by decide) ?_
  refine z_isub X.1 X.2.1 d_M_two_20 ?_
  refine lv_istore_n (lv' := [(3, .int (iI (z102 - 48))), (2, .int (iI (z101 - 48))), (0, .ref h), (1, .int (iI a1))]) X.1 X.2.1 d_M_two_21 rfl hl (by decide) rfl (fun ls hl => ?_)
  refine lv_iload_n X.1 X.2.1 d_M_two_22 rfl (lv_at hl 1 rfl) ?_
  refine z_if_lt (tgt := 42) X.1 X.2.1 d_M_two_23 (by decide) ⟨by omega, by omega⟩ (fun h103 => ?_) (fun h103 => ?_)
  · refine lv_sipush (v := iI (-10000)) X.1 X.2.1 d_M_two_42 (by decide) ?_
    refine lv_goto (tgt := 54) X.1 X.2.1 d_M_two_45 (by decide) ?_
    exact m_reti hQQ X Y hr hlk ⟨S, (-10000), rfl, ⟨by omega, by omega, by unfold tw; omega⟩⟩ d_M_two_54
  · refine lv_iload_n X.1 X.2.1 d_M_two_26 rfl (lv_at hl 1 rfl) ?_
    refine lv_bipush (v := iI 9) X.1 X.2.1 d_M_two_27 (by decide) ?_
    refine z_icmp_gt (tgt := 42) X.1 X.2.1 d_M_two_29 (by decide) ⟨by omega, by omega⟩ ⟨by omega, by omega⟩ (fun h104 => ?_) (fun h104 => ?_)
    · refine lv_sipush (v := iI (-10000)) X.1 X.2.1 d_M_two_42 (by decide) ?_
      refine lv_goto (tgt := 54) X.1 X.2.1 d_M_two_45 (by decide) ?_
      exact m_reti hQQ X Y hr hlk ⟨S, (-10000), rfl, ⟨by omega, by omega, by unfold tw; omega⟩⟩ d_M_two_54
    · refine lv_iload_n X.1 X.2.1 d_M_two_32 rfl (lv_at hl 0 rfl) ?_
      refine z_if_lt (tgt := 42) X.1 X.2.1 d_M_two_33 (by decide) ⟨by omega, by omega⟩ (fun h105 => ?_) (fun h105 => ?_)
      · refine lv_sipush (v := iI (-10000)) X.1 X.2.1 d_M_two_42 (by decide) ?_
        refine lv_goto (tgt := 54) X.1 X.2.1 d_M_two_45 (by decide) ?_
        exact m_reti hQQ X Y hr hlk ⟨S, (-10000), rfl, ⟨by omega, by omega, by unfold tw; omega⟩⟩ d_M_two_54
      · refine lv_iload_n X.1 X.2.1 d_M_two_36 rfl (lv_at hl 0 rfl) ?_
        refine lv_bipush (v := iI 9) X.1 X.2.1 d_M_two_37 (by decide) ?_
        refine z_icmp_le (tgt := 48) X.1 X.2.1 d_M_two_39 (by decide) ⟨by omega, by omega⟩ ⟨by omega, by omega⟩ (fun h106 => ?_) (fun h106 => ?_)
        · refine lv_bipush (v := iI 10) X.1 X.2.1 d_M_two_48 (by decide) ?_
          refine lv_iload_n X.1 X.2.1 d_M_two_50 rfl (lv_at hl 1 rfl) ?_
          refine z_imul X.1 X.2.1 d_M_two_51 ?_
          refine lv_iload_n X.1 X.2.1 d_M_two_52 rfl (lv_at hl 0 rfl) ?_
          refine z_iadd X.1 X.2.1 d_M_two_53 ?_
          exact m_reti hQQ X Y hr hlk ⟨S, (10 * (z101 - 48)) + (z102 - 48), rfl, ⟨by omega, by omega, by unfold tw; omega⟩⟩ d_M_two_54
        · refine lv_sipush (v := iI (-10000)) X.1 X.2.1 d_M_two_42 (by decide) ?_
          refine lv_goto (tgt := 54) X.1 X.2.1 d_M_two_45 (by decide) ?_
          exact m_reti hQQ X Y hr hlk ⟨S, (-10000), rfl, ⟨by omega, by omega, by unfold tw; omega⟩⟩ d_M_two_54
set_option maxHeartbeats 4000000 in
set_option maxRecDepth 100000 in
theorem r_M_daysTo (l : Launch) (a1 : Int) (l_a1 : 1970 ≤ a1) (u_a1 : a1 ≤ 2037) : Met l y_M_daysTo (k_M_daysTo :: lw_tg) (mR 1 60) (va_Pc [.int (iI a1)] pPre) (va_Qi (fun (r : Int32) (_ : Unit) => ∃ z : Int, r = iI z ∧ 0 ≤ z ∧ z ≤ 30000) (fun _ _ => True) (fun _ => False)) 0 0 (fun _ => False) := by
  refine p_enter (by decide) rfl (Nat.le_of_ble_eq_true rfl) (fun p e s m below meth c ls AV QQ H locs hQQ hS X hr hlk hml hl => ?_)
  have hl : lv_has ls 3 [(0, .int (iI a1))] := hl
  refine lv_iconst (v := iI 0) X.1 X.2.1 d_M_daysTo_0 (by decide) ?_
  refine lv_istore_n (lv' := [(1, .int (iI 0)), (0, .int (iI a1))]) X.1 X.2.1 d_M_daysTo_1 rfl hl (by decide) rfl (fun ls hl => ?_)
  refine lv_sipush (v := iI 1970) X.1 X.2.1 d_M_daysTo_2 (by decide) ?_
  have J104 : ∀ (n106 : Nat) (z101 : Int) (z102 : Int) (H : Heap) (locs : List Loc) (ls : Array Slot), (2037 - z102).toNat = n106 → (0 ≤ z101) → (z101 ≤ 30000) → (1970 ≤ z102) → (z102 ≤ 2037) → (z101 ≤ 366 * (z102 - 1970)) → va_S (fun _ => False) s.heap H locs → lv_has ls 3 [(0, .int (iI a1)), (1, .int (iI z101)), (2, .int (iI z102))] → W p l e (mR 1 60) s m AV below meth c H locs 0 0 QQ (F0 m 6 ls []) := by
    intro n106
    induction n106 using Nat.strongRecOn with
    | ind n106 ih105 =>
      intro z101 z102 H locs ls hm107 l101 u101 l102 u102 i103 hS hl
      refine lv_iload_n X.1 X.2.1 d_M_daysTo_6 rfl (lv_at hl 2 rfl) ?_
      refine lv_iload_n X.1 X.2.1 d_M_daysTo_7 rfl (lv_at hl 0 rfl) ?_
      refine z_icmp_ge (tgt := 35) X.1 X.2.1 d_M_daysTo_8 (by decide) ⟨by omega, by omega⟩ ⟨by omega, by omega⟩ (fun h108 => ?_) (fun h108 => ?_)
      · refine lv_iload_n X.1 X.2.1 d_M_daysTo_35 rfl (lv_at hl 1 rfl) ?_
        exact p_reti hQQ hS X hr hlk ⟨z101, rfl, ⟨by omega, by omega⟩⟩ d_M_daysTo_36
      · refine lv_iload_n X.1 X.2.1 d_M_daysTo_11 rfl (lv_at hl 1 rfl) ?_
        refine lv_iload_n X.1 X.2.1 d_M_daysTo_12 rfl (lv_at hl 2 rfl) ?_
        refine lv_iconst (v := iI 4) X.1 X.2.1 d_M_daysTo_13 (by decide) ?_
        refine z_irem X.1 X.2.1 (by omega) (by omega) ⟨by decide, by decide⟩ d_M_daysTo_14 ?_
        have J110 : ∀ (z109 : Int) (H : Heap) (locs : List Loc) (ls : Array Slot), (365 ≤ z109) → (z109 ≤ 366) → va_S (fun _ => False) s.heap H locs → lv_has ls 3 [(0, .int (iI a1)), (2, .int (iI z102))] → W p l e (mR 1 60) s m AV below meth c H locs 0 0 QQ (F0 m 27 ls [.int (iI z109), .int (iI z101)]) := by
          intro z109 H locs ls l109 u109 hS hl
          refine z_iadd X.1 X.2.1 d_M_daysTo_27 ?_
          refine lv_istore_n (lv' := [(1, .int (iI (z101 + z109))), (0, .int (iI a1)), (2, .int (iI z102))]) X.1 X.2.1 d_M_daysTo_28 rfl hl (by decide) rfl (fun ls hl => ?_)
          refine lv_iinc (v := iI (z102 + 1)) (lv' := [(2, .int (iI (z102 + 1))), (1, .int (iI (z101 + z109))), (0, .int (iI a1))]) X.1 X.2.1 d_M_daysTo_29 hl (k := 2) rfl ((iI_add _ _).trans (congrArg iI (by omega))) (by decide) rfl (fun ls hl => ?_)
          refine lv_goto (tgt := 6) X.1 X.2.1 d_M_daysTo_32 (by decide) ?_
          exact ih105 ((2037 - (z102 + 1)).toNat) (by omega) (z101 + z109) (z102 + 1) _ _ _ rfl (by omega) (by omega) (by omega) (by omega) (by omega) hS (lv_sub hl [2, 1, 0] rfl)
        refine z_if_ne (tgt := 24) X.1 X.2.1 d_M_daysTo_15 (by decide) ⟨by omega, by omega⟩ (fun h114 => ?_) (fun h114 => ?_)
        · refine lv_sipush (v := iI 365) X.1 X.2.1 d_M_daysTo_24 (by decide) ?_
          exact J110 365 _ _ _ (by omega) (by omega) hS (lv_sub hl [0, 2] rfl)
        · refine lv_sipush (v := iI 366) X.1 X.2.1 d_M_daysTo_18 (by decide) ?_
          refine lv_goto (tgt := 27) X.1 X.2.1 d_M_daysTo_21 (by decide) ?_
          exact J110 366 _ _ _ (by omega) (by omega) hS (lv_sub hl [0, 2] rfl)
  refine lv_istore_n (lv' := [(2, .int (iI 1970)), (1, .int (iI 0)), (0, .int (iI a1))]) X.1 X.2.1 d_M_daysTo_5 rfl hl (by decide) rfl (fun ls hl => ?_)
  exact J104 _ 0 1970 _ _ _ rfl (by omega) (by omega) (by omega) (by omega) (by omega) hS (lv_sub hl [2, 1, 0] rfl)
set_option maxHeartbeats 4000000 in
set_option maxRecDepth 100000 in
theorem r_M_daysOf_x (l : Launch) (a1 : Int) (l_a1 : 1970 ≤ a1) (u_a1 : a1 ≤ 2037) (a2 : Int) (l_a2 : 1 ≤ a2) (u_a2 : a2 ≤ 12) : Met l y_M_daysOf (k_M_daysOf :: lw_tg) (mR 1 60) (va_Pc [.int (iI a1), .int (iI a2)] pPre) (va_Qi (fun (r : Int32) (_ : Unit) => ∃ z : Int, r = iI z ∧ 28 ≤ z ∧ z ≤ 31 ∧ z = dO a1 a2) (fun _ _ => True) (fun _ => False)) 0 0 (fun _ => False) := by
  refine p_enter (by decide) rfl (Nat.le_of_ble_eq_true rfl) (fun p e s m below meth c ls AV QQ H locs hQQ hS X hr hlk hml hl => ?_)
  have hl : lv_has ls 2 [(0, .int (iI a1)), (1, .int (iI a2))] := hl
  refine lv_iload_n X.1 X.2.1 d_M_daysOf_0 rfl (lv_at hl 1 rfl) ?_
  refine lv_iconst (v := iI 2) X.1 X.2.1 d_M_daysOf_1 (by decide) ?_
  refine z_icmp_ne (tgt := 21) X.1 X.2.1 d_M_daysOf_2 (by decide) ⟨by omega, by omega⟩ ⟨by omega, by omega⟩ (fun h101 => ?_) (fun h101 => ?_)
  · refine lv_iload_n X.1 X.2.1 d_M_daysOf_21 rfl (lv_at hl 1 rfl) ?_
    refine lv_iconst (v := iI 4) X.1 X.2.1 d_M_daysOf_22 (by decide) ?_
    refine z_icmp_eq (tgt := 44) X.1 X.2.1 d_M_daysOf_23 (by decide) ⟨by omega, by omega⟩ ⟨by omega, by omega⟩ (fun h102 => ?_) (fun h102 => ?_)
    · refine lv_bipush (v := iI 30) X.1 X.2.1 d_M_daysOf_44 (by decide) ?_
      refine lv_goto (tgt := 51) X.1 X.2.1 d_M_daysOf_46 (by decide) ?_
      exact p_reti hQQ hS X hr hlk ⟨30, rfl, ⟨by omega, by omega, by unfold dO; omega⟩⟩ d_M_daysOf_51
    · refine lv_iload_n X.1 X.2.1 d_M_daysOf_26 rfl (lv_at hl 1 rfl) ?_
      refine lv_bipush (v := iI 6) X.1 X.2.1 d_M_daysOf_27 (by decide) ?_
      refine z_icmp_eq (tgt := 44) X.1 X.2.1 d_M_daysOf_29 (by decide) ⟨by omega, by omega⟩ ⟨by omega, by omega⟩ (fun h103 => ?_) (fun h103 => ?_)
      · refine lv_bipush (v := iI 30) X.1 X.2.1 d_M_daysOf_44 (by decide) ?_
        refine lv_goto (tgt := 51) X.1 X.2.1 d_M_daysOf_46 (by decide) ?_
        exact p_reti hQQ hS X hr hlk ⟨30, rfl, ⟨by omega, by omega, by unfold dO; omega⟩⟩ d_M_daysOf_51
      · refine lv_iload_n X.1 X.2.1 d_M_daysOf_32 rfl (lv_at hl 1 rfl) ?_
        refine lv_bipush (v := iI 9) X.1 X.2.1 d_M_daysOf_33 (by decide) ?_
        refine z_icmp_eq (tgt := 44) X.1 X.2.1 d_M_daysOf_35 (by decide) ⟨by omega, by omega⟩ ⟨by omega, by omega⟩ (fun h104 => ?_) (fun h104 => ?_)
        · refine lv_bipush (v := iI 30) X.1 X.2.1 d_M_daysOf_44 (by decide) ?_
          refine lv_goto (tgt := 51) X.1 X.2.1 d_M_daysOf_46 (by decide) ?_
          exact p_reti hQQ hS X hr hlk ⟨30, rfl, ⟨by omega, by omega, by unfold dO; omega⟩⟩ d_M_daysOf_51
        · refine lv_iload_n X.1 X.2.1 d_M_daysOf_38 rfl (lv_at hl 1 rfl) ?_
          refine lv_bipush (v := iI 11) X.1 X.2.1 d_M_daysOf_39 (by decide) ?_
          refine z_icmp_ne (tgt := 49) X.1 X.2.1 d_M_daysOf_41 (by decide) ⟨by omega, by omega⟩ ⟨by omega, by omega⟩ (fun h105 => ?_) (fun h105 => ?_)
          · refine lv_bipush (v := iI 31) X.1 X.2.1 d_M_daysOf_49 (by decide) ?_
            exact p_reti hQQ hS X hr hlk ⟨31, rfl, ⟨by omega, by omega, by unfold dO; omega⟩⟩ d_M_daysOf_51
          · refine lv_bipush (v := iI 30) X.1 X.2.1 d_M_daysOf_44 (by decide) ?_
            refine lv_goto (tgt := 51) X.1 X.2.1 d_M_daysOf_46 (by decide) ?_
            exact p_reti hQQ hS X hr hlk ⟨30, rfl, ⟨by omega, by omega, by unfold dO; omega⟩⟩ d_M_daysOf_51
  · refine lv_iload_n X.1 X.2.1 d_M_daysOf_5 rfl (lv_at hl 0 rfl) ?_
    refine lv_iconst (v := iI 4) X.1 X.2.1 d_M_daysOf_6 (by decide) ?_
    refine z_irem X.1 X.2.1 (by omega) (by omega) ⟨by decide, by decide⟩ d_M_daysOf_7 ?_
    refine z_if_ne (tgt := 16) X.1 X.2.1 d_M_daysOf_8 (by decide) ⟨by omega, by omega⟩ (fun h106 => ?_) (fun h106 => ?_)
    · refine lv_bipush (v := iI 28) X.1 X.2.1 d_M_daysOf_16 (by decide) ?_
      refine lv_goto (tgt := 51) X.1 X.2.1 d_M_daysOf_18 (by decide) ?_
      exact p_reti hQQ hS X hr hlk ⟨28, rfl, ⟨by omega, by omega, by unfold dO; omega⟩⟩ d_M_daysOf_51
    · refine lv_bipush (v := iI 29) X.1 X.2.1 d_M_daysOf_11 (by decide) ?_
      refine lv_goto (tgt := 51) X.1 X.2.1 d_M_daysOf_13 (by decide) ?_
      exact p_reti hQQ hS X hr hlk ⟨29, rfl, ⟨by omega, by omega, by unfold dO; omega⟩⟩ d_M_daysOf_51
set_option maxHeartbeats 4000000 in
set_option maxRecDepth 100000 in
theorem r_M_timeAt (l : Launch) (D : mD) (E : mE) (h : Nat) (q : Nat → Nat) (sz : Nat) (I : Nat → Int32) (J : Nat → Int64) (B : Nat → Nat → Int32) (G : Nat → Nat → Int64) (a1 : Int) (l_a1 : 0 ≤ a1) (u_a1 : a1 ≤ 31000) (hT : rT I B) (mm : Nat → Int32) (gm : B 0 = mm) : Met l y_M_timeAt (k_M_timeAt :: lw_tg) (mR 2 83) (va_Pc [.ref h, .int (iI a1)] (mPre D E h q (I, J, B, G) sz)) (va_Ql (rPl [] [] I B (fun (z : Int64) (u : mS) => (0 ≤ z.toInt ↔ tiOK mm a1))) (mPost D E h q (mA E h q sz)) (mA E h q sz)) 0 0 (mA E h q sz) := by
  refine m_enter (by decide) rfl (Nat.le_of_ble_eq_true rfl) (fun p e s m below meth c ls AV QQ H locs hQQ X Y hZ hA hr hlk hml hl => ?_)
  have Y : mH D E (mA E h q sz) s.heap h q I J B G H locs := Y
  have S : rS [] [] I B I B := rS_rf hT
  have hl : lv_has ls 10 [(0, .ref h), (1, .int (iI a1))] := hl
  refine lv_bipush (v := iI 100) X.1 X.2.1 d_M_timeAt_0 (by decide) ?_
  refine lv_aload_n X.1 X.2.1 d_M_timeAt_2 rfl (lv_at hl 0 rfl) ?_
  refine lv_iload_n X.1 X.2.1 d_M_timeAt_3 rfl (lv_at hl 1 rfl) ?_
  refine r_ni (m_run (As := [.int (iI a1)]) (rest := [.int (iI 100)]) (n := 1) X Y hZ hA hml hl.1 (r_M_two l D E h q H.size I J B G a1 (by omega) (by omega) S.1 mm gm) kl_M_two ks_M_two kx_M_two ki_M_two ini_M hd_M_two ⟨Nat.le_of_ble_eq_true rfl, Nat.le_of_ble_eq_true rfl⟩ rfl (Nat.le_of_ble_eq_true rfl) d_M_timeAt_4 ⟨Nat.le_refl _, Nat.le_refl _⟩) X Y hA S (by decide) (by decide) (fun z101 u H locs Y S s101 p101 => ?_)
  obtain ⟨I101, J101, B101, G101⟩ := u
  dsimp only at Y S s101 p101
  obtain ⟨l101, u101, x101⟩ := p101
  refine z_imul X.1 X.2.1 d_M_timeAt_7 ?_
  refine lv_aload_n X.1 X.2.1 d_M_timeAt_8 rfl (lv_at hl 0 rfl) ?_
  refine lv_iload_n X.1 X.2.1 d_M_timeAt_9 rfl (lv_at hl 1 rfl) ?_
  refine lv_iconst (v := iI 2) X.1 X.2.1 d_M_timeAt_10 (by decide) ?_
  refine z_iadd X.1 X.2.1 d_M_timeAt_11 ?_
  refine r_ni (m_run (As := [.int (iI (a1 + 2))]) (rest := [.int (iI (100 * z101))]) (n := 1) X Y hZ hA hml hl.1 (r_M_two l D E h q H.size I101 J101 B101 G101 (a1 + 2) (by omega) (by omega) S.1 mm ((S.2.2 0 (by decide)).trans gm)) kl_M_two ks_M_two kx_M_two ki_M_two ini_M hd_M_two ⟨Nat.le_of_ble_eq_true rfl, Nat.le_of_ble_eq_true rfl⟩ rfl (Nat.le_of_ble_eq_true rfl) d_M_timeAt_12 ⟨Nat.le_refl _, Nat.le_refl _⟩) X Y hA S (by decide) (by decide) (fun z102 u H locs Y S s102 p102 => ?_)
  obtain ⟨I102, J102, B102, G102⟩ := u
  dsimp only at Y S s102 p102
  obtain ⟨l102, u102, x102⟩ := p102
  refine z_iadd X.1 X.2.1 d_M_timeAt_15 ?_
  refine lv_istore_n (lv' := [(2, .int (iI ((100 * z101) + z102))), (0, .ref h), (1, .int (iI a1))]) X.1 X.2.1 d_M_timeAt_16 rfl hl (by decide) rfl (fun ls hl => ?_)
  refine lv_aload_n X.1 X.2.1 d_M_timeAt_17 rfl (lv_at hl 1 rfl) ?_
  refine lv_iload_n X.1 X.2.1 d_M_timeAt_18 rfl (lv_at hl 2 rfl) ?_
  refine lv_iconst (v := iI 4) X.1 X.2.1 d_M_timeAt_19 (by decide) ?_
  refine z_iadd X.1 X.2.1 d_M_timeAt_20 ?_
  refine r_ni (m_run (As := [.int (iI (a1 + 4))]) (rest := []) (n := 1) X Y hZ hA hml hl.1 (r_M_two l D E h q H.size I102 J102 B102 G102 (a1 + 4) (by omega) (by omega) S.1 mm ((S.2.2 0 (by decide)).trans gm)) kl_M_two ks_M_two kx_M_two ki_M_two ini_M hd_M_two ⟨Nat.le_of_ble_eq_true rfl, Nat.le_of_ble_eq_true rfl⟩ rfl (Nat.le_of_ble_eq_true rfl) d_M_timeAt_21 ⟨Nat.le_refl _, Nat.le_refl _⟩) X Y hA S (by decide) (by decide) (fun z103 u H locs Y S s103 p103 => ?_)
  obtain ⟨I103, J103, B103, G103⟩ := u
  dsimp only at Y S s103 p103
  obtain ⟨l103, u103, x103⟩ := p103
  refine lv_istore_n (lv' := [(3, .int (iI z103)), (2, .int (iI ((100 * z101) + z102))), (0, .ref h), (1, .int (iI a1))]) X.1 X.2.1 d_M_timeAt_24 rfl hl (by decide) rfl (fun ls hl => ?_)
  refine lv_aload_n X.1 X.2.1 d_M_timeAt_25 rfl (lv_at hl 2 rfl) ?_
  refine lv_iload_n X.1 X.2.1 d_M_timeAt_26 rfl (lv_at hl 3 rfl) ?_
  refine lv_bipush (v := iI 6) X.1 X.2.1 d_M_timeAt_27 (by decide) ?_
  refine z_iadd X.1 X.2.1 d_M_timeAt_29 ?_
  refine r_ni (m_run (As := [.int (iI (a1 + 6))]) (rest := []) (n := 1) X Y hZ hA hml hl.1 (r_M_two l D E h q H.size I103 J103 B103 G103 (a1 + 6) (by omega) (by omega) S.1 mm ((S.2.2 0 (by decide)).trans gm)) kl_M_two ks_M_two kx_M_two ki_M_two ini_M hd_M_two ⟨Nat.le_of_ble_eq_true rfl, Nat.le_of_ble_eq_true rfl⟩ rfl (Nat.le_of_ble_eq_true rfl) d_M_timeAt_30 ⟨Nat.le_refl _, Nat.le_refl _⟩) X Y hA S (by decide) (by decide) (fun z104 u H locs Y S s104 p104 => ?_)
  obtain ⟨I104, J104, B104, G104⟩ := u
  dsimp only at Y S s104 p104
  obtain ⟨l104, u104, x104⟩ := p104
  refine lv_istore (lv' := [(4, .int (iI z104)), (3, .int (iI z103)), (2, .int (iI ((100 * z101) + z102))), (0, .ref h), (1, .int (iI a1))]) X.1 X.2.1 d_M_timeAt_33 hl (by decide) rfl (fun ls hl => ?_)
  refine lv_aload_n X.1 X.2.1 d_M_timeAt_35 rfl (lv_at hl 3 rfl) ?_
  refine lv_iload_n X.1 X.2.1 d_M_timeAt_36 rfl (lv_at hl 4 rfl) ?_
  refine lv_bipush (v := iI 8) X.1 X.2.1 d_M_timeAt_37 (by decide) ?_
  refine z_iadd X.1 X.2.1 d_M_timeAt_39 ?_
  refine r_ni (m_run (As := [.int (iI (a1 + 8))]) (rest := []) (n := 1) X Y hZ hA hml hl.1 (r_M_two l D E h q H.size I104 J104 B104 G104 (a1 + 8) (by omega) (by omega) S.1 mm ((S.2.2 0 (by decide)).trans gm)) kl_M_two ks_M_two kx_M_two ki_M_two ini_M hd_M_two ⟨Nat.le_of_ble_eq_true rfl, Nat.le_of_ble_eq_true rfl⟩ rfl (Nat.le_of_ble_eq_true rfl) d_M_timeAt_40 ⟨Nat.le_refl _, Nat.le_refl _⟩) X Y hA S (by decide) (by decide) (fun z105 u H locs Y S s105 p105 => ?_)
  obtain ⟨I105, J105, B105, G105⟩ := u
  dsimp only at Y S s105 p105
  obtain ⟨l105, u105, x105⟩ := p105
  refine lv_istore (lv' := [(5, .int (iI z105)), (4, .int (iI z104)), (3, .int (iI z103)), (2, .int (iI ((100 * z101) + z102))), (0, .ref h), (1, .int (iI a1))]) X.1 X.2.1 d_M_timeAt_43 hl (by decide) rfl (fun ls hl => ?_)
  refine lv_aload_n X.1 X.2.1 d_M_timeAt_45 rfl (lv_at hl 4 rfl) ?_
  refine lv_iload_n X.1 X.2.1 d_M_timeAt_46 rfl (lv_at hl 5 rfl) ?_
  refine lv_bipush (v := iI 10) X.1 X.2.1 d_M_timeAt_47 (by decide) ?_
  refine z_iadd X.1 X.2.1 d_M_timeAt_49 ?_
  refine r_ni (m_run (As := [.int (iI (a1 + 10))]) (rest := []) (n := 1) X Y hZ hA hml hl.1 (r_M_two l D E h q H.size I105 J105 B105 G105 (a1 + 10) (by omega) (by omega) S.1 mm ((S.2.2 0 (by decide)).trans gm)) kl_M_two ks_M_two kx_M_two ki_M_two ini_M hd_M_two ⟨Nat.le_of_ble_eq_true rfl, Nat.le_of_ble_eq_true rfl⟩ rfl (Nat.le_of_ble_eq_true rfl) d_M_timeAt_50 ⟨Nat.le_refl _, Nat.le_refl _⟩) X Y hA S (by decide) (by decide) (fun z106 u H locs Y S s106 p106 => ?_)
  obtain ⟨I106, J106, B106, G106⟩ := u
  dsimp only at Y S s106 p106
  obtain ⟨l106, u106, x106⟩ := p106
  refine lv_istore (lv' := [(6, .int (iI z106)), (5, .int (iI z105)), (4, .int (iI z104)), (3, .int (iI z103)), (2, .int (iI ((100 * z101) + z102))), (0, .ref h), (1, .int (iI a1))]) X.1 X.2.1 d_M_timeAt_53 hl (by decide) rfl (fun ls hl => ?_)
  refine lv_aload_n X.1 X.2.1 d_M_timeAt_55 rfl (lv_at hl 5 rfl) ?_
  refine lv_iload_n X.1 X.2.1 d_M_timeAt_56 rfl (lv_at hl 6 rfl) ?_
  refine lv_bipush (v := iI 12) X.1 X.2.1 d_M_timeAt_57 (by decide) ?_
  refine z_iadd X.1 X.2.1 d_M_timeAt_59 ?_
  refine r_ni (m_run (As := [.int (iI (a1 + 12))]) (rest := []) (n := 1) X Y hZ hA hml hl.1 (r_M_two l D E h q H.size I106 J106 B106 G106 (a1 + 12) (by omega) (by omega) S.1 mm ((S.2.2 0 (by decide)).trans gm)) kl_M_two ks_M_two kx_M_two ki_M_two ini_M hd_M_two ⟨Nat.le_of_ble_eq_true rfl, Nat.le_of_ble_eq_true rfl⟩ rfl (Nat.le_of_ble_eq_true rfl) d_M_timeAt_60 ⟨Nat.le_refl _, Nat.le_refl _⟩) X Y hA S (by decide) (by decide) (fun z107 u H locs Y S s107 p107 => ?_)
  obtain ⟨I107, J107, B107, G107⟩ := u
  dsimp only at Y S s107 p107
  obtain ⟨l107, u107, x107⟩ := p107
  refine lv_istore (lv' := [(7, .int (iI z107)), (6, .int (iI z106)), (5, .int (iI z105)), (4, .int (iI z104)), (3, .int (iI z103)), (2, .int (iI ((100 * z101) + z102))), (0, .ref h), (1, .int (iI a1))]) X.1 X.2.1 d_M_timeAt_63 hl (by decide) rfl (fun ls hl => ?_)
  refine lv_aload_n X.1 X.2.1 d_M_timeAt_65 rfl (lv_at hl 6 rfl) ?_
  refine m_get X Y 0 (by decide) lk_mem (gf_mem _ _ _) rfl d_M_timeAt_66 ?_
  refine lv_iload_n X.1 X.2.1 d_M_timeAt_69 rfl (lv_at hl 7 rfl) ?_
  refine lv_bipush (v := iI 14) X.1 X.2.1 d_M_timeAt_70 (by decide) ?_
  refine z_iadd X.1 X.2.1 d_M_timeAt_72 ?_
  refine r_bald X Y S (aw_mem _ _ _ _ _ _ _) rfl (by omega) (show a1 + 14 < ((60000 : Nat) : Int) by omega) (by omega) d_M_timeAt_73 (fun z108 q108 l108 u108 => ?_)
  rw [(S.2.2 0 (by decide)).trans gm] at q108
  have g108 : gb mm (a1 + 14) = z108 % 256 := by unfold gb; rw [← q108]
  have s108 : sg mm (a1 + 14) = z108 := by unfold sg; rw [← q108]
  refine lv_bipush (v := iI 90) X.1 X.2.1 d_M_timeAt_74 (by decide) ?_
  refine z_icmp_ne (tgt := 120) X.1 X.2.1 d_M_timeAt_76 (by decide) ⟨by omega, by omega⟩ ⟨by omega, by omega⟩ (fun h109 => ?_) (fun h109 => ?_)
  · refine lv_ldc2 (v := (-1)) X.1 X.2.1 X.2.2.2.1 (X.2.2.1 _ cl_M_459) d_M_timeAt_120 ?_
    exact m_retl hQQ X Y hr hlk ⟨S, (by (have c9 : ((-1) : Int64).toInt = (-1) := (by decide)); unfold tiOK; omega)⟩ d_M_timeAt_123
  · refine lv_iload_n X.1 X.2.1 d_M_timeAt_79 rfl (lv_at hl 5 rfl) ?_
    refine lv_sipush (v := iI 1970) X.1 X.2.1 d_M_timeAt_80 (by decide) ?_
    refine z_icmp_lt (tgt := 120) X.1 X.2.1 d_M_timeAt_83 (by decide) ⟨by omega, by omega⟩ ⟨by omega, by omega⟩ (fun h110 => ?_) (fun h110 => ?_)
    · refine lv_ldc2 (v := (-1)) X.1 X.2.1 X.2.2.2.1 (X.2.2.1 _ cl_M_459) d_M_timeAt_120 ?_
      exact m_retl hQQ X Y hr hlk ⟨S, (by (have c9 : ((-1) : Int64).toInt = (-1) := (by decide)); unfold tiOK; omega)⟩ d_M_timeAt_123
    · refine lv_iload_n X.1 X.2.1 d_M_timeAt_86 rfl (lv_at hl 5 rfl) ?_
      refine lv_sipush (v := iI 2037) X.1 X.2.1 d_M_timeAt_87 (by decide) ?_
      refine z_icmp_gt (tgt := 120) X.1 X.2.1 d_M_timeAt_90 (by decide) ⟨by omega, by omega⟩ ⟨by omega, by omega⟩ (fun h111 => ?_) (fun h111 => ?_)
      · refine lv_ldc2 (v := (-1)) X.1 X.2.1 X.2.2.2.1 (X.2.2.1 _ cl_M_459) d_M_timeAt_120 ?_
        exact m_retl hQQ X Y hr hlk ⟨S, (by (have c9 : ((-1) : Int64).toInt = (-1) := (by decide)); unfold tiOK; omega)⟩ d_M_timeAt_123
      · refine lv_iload_n X.1 X.2.1 d_M_timeAt_93 rfl (lv_at hl 4 rfl) ?_
        refine lv_iconst (v := iI 1) X.1 X.2.1 d_M_timeAt_94 (by decide) ?_
        refine z_icmp_lt (tgt := 120) X.1 X.2.1 d_M_timeAt_95 (by decide) ⟨by omega, by omega⟩ ⟨by omega, by omega⟩ (fun h112 => ?_) (fun h112 => ?_)
        · refine lv_ldc2 (v := (-1)) X.1 X.2.1 X.2.2.2.1 (X.2.2.1 _ cl_M_459) d_M_timeAt_120 ?_
          exact m_retl hQQ X Y hr hlk ⟨S, (by (have c9 : ((-1) : Int64).toInt = (-1) := (by decide)); unfold tiOK; omega)⟩ d_M_timeAt_123
        · refine lv_iload_n X.1 X.2.1 d_M_timeAt_98 rfl (lv_at hl 4 rfl) ?_
          refine lv_bipush (v := iI 12) X.1 X.2.1 d_M_timeAt_99 (by decide) ?_
          refine z_icmp_gt (tgt := 120) X.1 X.2.1 d_M_timeAt_101 (by decide) ⟨by omega, by omega⟩ ⟨by omega, by omega⟩ (fun h113 => ?_) (fun h113 => ?_)
          · refine lv_ldc2 (v := (-1)) X.1 X.2.1 X.2.2.2.1 (X.2.2.1 _ cl_M_459) d_M_timeAt_120 ?_
            exact m_retl hQQ X Y hr hlk ⟨S, (by (have c9 : ((-1) : Int64).toInt = (-1) := (by decide)); unfold tiOK; omega)⟩ d_M_timeAt_123
          · refine lv_iload X.1 X.2.1 d_M_timeAt_104 (lv_at hl 3 rfl) ?_
            refine lv_iconst (v := iI 1) X.1 X.2.1 d_M_timeAt_106 (by decide) ?_
            refine z_icmp_lt (tgt := 120) X.1 X.2.1 d_M_timeAt_107 (by decide) ⟨by omega, by omega⟩ ⟨by omega, by omega⟩ (fun h114 => ?_) (fun h114 => ?_)
            · refine lv_ldc2 (v := (-1)) X.1 X.2.1 X.2.2.2.1 (X.2.2.1 _ cl_M_459) d_M_timeAt_120 ?_
              exact m_retl hQQ X Y hr hlk ⟨S, (by (have c9 : ((-1) : Int64).toInt = (-1) := (by decide)); unfold tiOK; omega)⟩ d_M_timeAt_123
            · refine lv_iload X.1 X.2.1 d_M_timeAt_110 (lv_at hl 3 rfl) ?_
              refine lv_iload_n X.1 X.2.1 d_M_timeAt_112 rfl (lv_at hl 5 rfl) ?_
              refine lv_iload_n X.1 X.2.1 d_M_timeAt_113 rfl (lv_at hl 4 rfl) ?_
              refine p_calli (As := [.int (iI ((100 * z101) + z102)), .int (iI z103)]) (rest := [.int (iI z104)]) (n := 2) X Y hml hl.1 (r_M_daysOf_x l ((100 * z101) + z102) (by omega) (by omega) z103 (by omega) (by omega)) kl_M_daysOf ks_M_daysOf ki_M_daysOf ini_M hd_M_daysOf ⟨Nat.le_of_ble_eq_true rfl, Nat.le_of_ble_eq_true rfl⟩ rfl (Nat.le_of_ble_eq_true rfl) d_M_timeAt_114 ⟨Nat.le_refl _, Nat.le_refl _⟩ (fun r115 H locs p115 Y => ?_)
              obtain ⟨z115, e115, p115⟩ := p115
              subst e115
              obtain ⟨l115, u115, x115⟩ := p115
              rw [x101, x102, x103] at x115
              refine z_icmp_le (tgt := 124) X.1 X.2.1 d_M_timeAt_117 (by decide) ⟨by omega, by omega⟩ ⟨by omega, by omega⟩ (fun h116 => ?_) (fun h116 => ?_)
              · refine lv_iload X.1 X.2.1 d_M_timeAt_124 (lv_at hl 2 rfl) ?_
                refine z_if_lt (tgt := 160) X.1 X.2.1 d_M_timeAt_126 (by decide) ⟨by omega, by omega⟩ (fun h117 => ?_) (fun h117 => ?_)
                · refine lv_ldc2 (v := (-1)) X.1 X.2.1 X.2.2.2.1 (X.2.2.1 _ cl_M_459) d_M_timeAt_160 ?_
                  exact m_retl hQQ X Y hr hlk ⟨S, (by (have c9 : ((-1) : Int64).toInt = (-1) := (by decide)); unfold tiOK; omega)⟩ d_M_timeAt_163
                · refine lv_iload X.1 X.2.1 d_M_timeAt_129 (lv_at hl 2 rfl) ?_
                  refine lv_bipush (v := iI 23) X.1 X.2.1 d_M_timeAt_131 (by decide) ?_
                  refine z_icmp_gt (tgt := 160) X.1 X.2.1 d_M_timeAt_133 (by decide) ⟨by omega, by omega⟩ ⟨by omega, by omega⟩ (fun h118 => ?_) (fun h118 => ?_)
                  · refine lv_ldc2 (v := (-1)) X.1 X.2.1 X.2.2.2.1 (X.2.2.1 _ cl_M_459) d_M_timeAt_160 ?_
                    exact m_retl hQQ X Y hr hlk ⟨S, (by (have c9 : ((-1) : Int64).toInt = (-1) := (by decide)); unfold tiOK; omega)⟩ d_M_timeAt_163
                  · refine lv_iload X.1 X.2.1 d_M_timeAt_136 (lv_at hl 1 rfl) ?_
                    refine z_if_lt (tgt := 160) X.1 X.2.1 d_M_timeAt_138 (by decide) ⟨by omega, by omega⟩ (fun h119 => ?_) (fun h119 => ?_)
                    · refine lv_ldc2 (v := (-1)) X.1 X.2.1 X.2.2.2.1 (X.2.2.1 _ cl_M_459) d_M_timeAt_160 ?_
                      exact m_retl hQQ X Y hr hlk ⟨S, (by (have c9 : ((-1) : Int64).toInt = (-1) := (by decide)); unfold tiOK; omega)⟩ d_M_timeAt_163
                    · refine lv_iload X.1 X.2.1 d_M_timeAt_141 (lv_at hl 1 rfl) ?_
                      refine lv_bipush (v := iI 59) X.1 X.2.1 d_M_timeAt_143 (by decide) ?_
                      refine z_icmp_gt (tgt := 160) X.1 X.2.1 d_M_timeAt_145 (by decide) ⟨by omega, by omega⟩ ⟨by omega, by omega⟩ (fun h120 => ?_) (fun h120 => ?_)
                      · refine lv_ldc2 (v := (-1)) X.1 X.2.1 X.2.2.2.1 (X.2.2.1 _ cl_M_459) d_M_timeAt_160 ?_
                        exact m_retl hQQ X Y hr hlk ⟨S, (by (have c9 : ((-1) : Int64).toInt = (-1) := (by decide)); unfold tiOK; omega)⟩ d_M_timeAt_163
                      · refine lv_iload X.1 X.2.1 d_M_timeAt_148 (lv_at hl 0 rfl) ?_
                        refine z_if_lt (tgt := 160) X.1 X.2.1 d_M_timeAt_150 (by decide) ⟨by omega, by omega⟩ (fun h121 => ?_) (fun h121 => ?_)
                        · refine lv_ldc2 (v := (-1)) X.1 X.2.1 X.2.2.2.1 (X.2.2.1 _ cl_M_459) d_M_timeAt_160 ?_
                          exact m_retl hQQ X Y hr hlk ⟨S, (by (have c9 : ((-1) : Int64).toInt = (-1) := (by decide)); unfold tiOK; omega)⟩ d_M_timeAt_163
                        · refine lv_iload X.1 X.2.1 d_M_timeAt_153 (lv_at hl 0 rfl) ?_
                          refine lv_bipush (v := iI 59) X.1 X.2.1 d_M_timeAt_155 (by decide) ?_
                          refine z_icmp_le (tgt := 164) X.1 X.2.1 d_M_timeAt_157 (by decide) ⟨by omega, by omega⟩ ⟨by omega, by omega⟩ (fun h122 => ?_) (fun h122 => ?_)
                          · refine lv_iload_n X.1 X.2.1 d_M_timeAt_164 rfl (lv_at hl 5 rfl) ?_
                            refine p_calli (As := [.int (iI ((100 * z101) + z102))]) (rest := []) (n := 1) X Y hml hl.1 (r_M_daysTo l ((100 * z101) + z102) (by omega) (by omega)) kl_M_daysTo ks_M_daysTo ki_M_daysTo ini_M hd_M_daysTo ⟨Nat.le_of_ble_eq_true rfl, Nat.le_of_ble_eq_true rfl⟩ rfl (Nat.le_of_ble_eq_true rfl) d_M_timeAt_165 ⟨Nat.le_refl _, Nat.le_refl _⟩ (fun r123 H locs p123 Y => ?_)
                            obtain ⟨z123, e123, p123⟩ := p123
                            subst e123
                            obtain ⟨l123, u123⟩ := p123
                            refine lv_iload X.1 X.2.1 d_M_timeAt_168 (lv_at hl 3 rfl) ?_
                            refine z_iadd X.1 X.2.1 d_M_timeAt_170 ?_
                            refine lv_iconst (v := iI 1) X.1 X.2.1 d_M_timeAt_171 (by decide) ?_
                            refine z_isub X.1 X.2.1 d_M_timeAt_172 ?_
                            refine lv_istore (lv' := [(8, .int (iI ((z123 + z104) - 1))), (7, .int (iI z107)), (6, .int (iI z106)), (5, .int (iI z105)), (4, .int (iI z104)), (3, .int (iI z103)), (2, .int (iI ((100 * z101) + z102))), (0, .ref h), (1, .int (iI a1))]) X.1 X.2.1 d_M_timeAt_173 hl (by decide) rfl (fun ls hl => ?_)
                            refine lv_iconst (v := iI 1) X.1 X.2.1 d_M_timeAt_175 (by decide) ?_
                            have J127 : ∀ (n129 : Nat) (z124 : Int) (z125 : Int) (H : Heap) (locs : List Loc) (ls : Array Slot), (12 - z125).toNat = n129 → (0 ≤ z124) → (z124 ≤ 40000) → (1 ≤ z125) → (z125 ≤ 12) → (z124 ≤ 30031 + 31 * z125) → mH D E (mA E h q sz) s.heap h q I107 J107 B107 G107 H locs → rS [] [] I B I107 B107 → lv_has ls 10 [(2, .int (iI ((100 * z101) + z102))), (3, .int (iI z103)), (5, .int (iI z105)), (6, .int (iI z106)), (7, .int (iI z107)), (8, .int (iI z124)), (9, .int (iI z125))] → W p l e (mR 2 83) s m AV below meth c H locs 0 0 QQ (F0 m 178 ls []) := by
                              intro n129
                              induction n129 using Nat.strongRecOn with
                              | ind n129 ih128 =>
                                intro z124 z125 H locs ls hm130 l124 u124 l125 u125 i126 Y S hl
                                refine lv_iload X.1 X.2.1 d_M_timeAt_178 (lv_at hl 6 rfl) ?_
                                refine lv_iload_n X.1 X.2.1 d_M_timeAt_180 rfl (lv_at hl 1 rfl) ?_
                                refine z_icmp_ge (tgt := 201) X.1 X.2.1 d_M_timeAt_181 (by decide) ⟨by omega, by omega⟩ ⟨by omega, by omega⟩ (fun h131 => ?_) (fun h131 => ?_)
                                · refine lv_ldc2 (v := (86400)) X.1 X.2.1 X.2.2.2.1 (X.2.2.1 _ cl_M_464) d_M_timeAt_201 ?_
                                  refine lv_iload X.1 X.2.1 d_M_timeAt_204 (lv_at hl 5 rfl) ?_
                                  refine z_i2lx X.1 X.2.1 ⟨by omega, by omega⟩ d_M_timeAt_206 (fun v132 tv132 => ?_)
                                  refine z_lmulx (86400) X.1 X.2.1 (show ((86400) : Int64).toInt = (86400) by decide) (by omega) (by omega) d_M_timeAt_207 (fun v133 tv133 => ?_)
                                  refine lv_ldc2 (v := (3600)) X.1 X.2.1 X.2.2.2.1 (X.2.2.1 _ cl_M_466) d_M_timeAt_208 ?_
                                  refine lv_iload X.1 X.2.1 d_M_timeAt_211 (lv_at hl 2 rfl) ?_
                                  refine z_i2lx X.1 X.2.1 ⟨by omega, by omega⟩ d_M_timeAt_213 (fun v134 tv134 => ?_)
                                  refine z_lmulx (3600) X.1 X.2.1 (show ((3600) : Int64).toInt = (3600) by decide) (by omega) (by omega) d_M_timeAt_214 (fun v135 tv135 => ?_)
                                  refine z_laddx X.1 X.2.1 (by omega) (by omega) d_M_timeAt_215 (fun v136 tv136 => ?_)
                                  refine lv_ldc2 (v := (60)) X.1 X.2.1 X.2.2.2.1 (X.2.2.1 _ cl_M_468) d_M_timeAt_216 ?_
                                  refine lv_iload X.1 X.2.1 d_M_timeAt_219 (lv_at hl 3 rfl) ?_
                                  refine z_i2lx X.1 X.2.1 ⟨by omega, by omega⟩ d_M_timeAt_221 (fun v137 tv137 => ?_)
                                  refine z_lmulx (60) X.1 X.2.1 (show ((60) : Int64).toInt = (60) by decide) (by omega) (by omega) d_M_timeAt_222 (fun v138 tv138 => ?_)
                                  refine z_laddx X.1 X.2.1 (by omega) (by omega) d_M_timeAt_223 (fun v139 tv139 => ?_)
                                  refine lv_iload X.1 X.2.1 d_M_timeAt_224 (lv_at hl 4 rfl) ?_
                                  refine z_i2lx X.1 X.2.1 ⟨by omega, by omega⟩ d_M_timeAt_226 (fun v140 tv140 => ?_)
                                  refine z_laddx X.1 X.2.1 (by omega) (by omega) d_M_timeAt_227 (fun v141 tv141 => ?_)
                                  exact m_retl hQQ X Y hr hlk ⟨S, (by unfold tiOK; omega)⟩ d_M_timeAt_228
                                · refine lv_iload X.1 X.2.1 d_M_timeAt_184 (lv_at hl 5 rfl) ?_
                                  refine lv_iload_n X.1 X.2.1 d_M_timeAt_186 rfl (lv_at hl 0 rfl) ?_
                                  refine lv_iload X.1 X.2.1 d_M_timeAt_187 (lv_at hl 6 rfl) ?_
                                  refine p_calli (As := [.int (iI ((100 * z101) + z102)), .int (iI z125)]) (rest := [.int (iI z124)]) (n := 2) X Y hml hl.1 (r_M_daysOf l ((100 * z101) + z102) (by omega) (by omega) z125 (by omega) (by omega)) kl_M_daysOf ks_M_daysOf ki_M_daysOf ini_M hd_M_daysOf ⟨Nat.le_of_ble_eq_true rfl, Nat.le_of_ble_eq_true rfl⟩ rfl (Nat.le_of_ble_eq_true rfl) d_M_timeAt_189 ⟨Nat.le_refl _, Nat.le_refl _⟩ (fun r142 H locs p142 Y => ?_)
                                  obtain ⟨z142, e142, p142⟩ := p142
                                  subst e142
                                  obtain ⟨l142, u142⟩ := p142
                                  refine z_iadd X.1 X.2.1 d_M_timeAt_192 ?_
                                  refine lv_istore (lv' := [(8, .int (iI (z124 + z142))), (2, .int (iI ((100 * z101) + z102))), (3, .int (iI z103)), (5, .int (iI z105)), (6, .int (iI z106)), (7, .int (iI z107)), (9, .int (iI z125))]) X.1 X.2.1 d_M_timeAt_193 hl (by decide) rfl (fun ls hl => ?_)
                                  refine lv_iinc (v := iI (z125 + 1)) (lv' := [(9, .int (iI (z125 + 1))), (8, .int (iI (z124 + z142))), (2, .int (iI ((100 * z101) + z102))), (3, .int (iI z103)), (5, .int (iI z105)), (6, .int (iI z106)), (7, .int (iI z107))]) X.1 X.2.1 d_M_timeAt_195 hl (k := 6) rfl ((iI_add _ _).trans (congrArg iI (by omega))) (by decide) rfl (fun ls hl => ?_)
                                  refine lv_goto (tgt := 178) X.1 X.2.1 d_M_timeAt_198 (by decide) ?_
                                  exact ih128 ((12 - (z125 + 1)).toNat) (by omega) (z124 + z142) (z125 + 1) _ _ _ rfl (by omega) (by omega) (by omega) (by omega) (by omega) Y S (lv_sub hl [2, 3, 4, 5, 6, 1, 0] rfl)
                            refine lv_istore (lv' := [(9, .int (iI 1)), (8, .int (iI ((z123 + z104) - 1))), (7, .int (iI z107)), (6, .int (iI z106)), (5, .int (iI z105)), (4, .int (iI z104)), (3, .int (iI z103)), (2, .int (iI ((100 * z101) + z102))), (0, .ref h), (1, .int (iI a1))]) X.1 X.2.1 d_M_timeAt_176 hl (by decide) rfl (fun ls hl => ?_)
                            exact J127 _ ((z123 + z104) - 1) 1 _ _ _ rfl (by omega) (by omega) (by omega) (by omega) (by omega) Y S (lv_sub hl [7, 6, 4, 3, 2, 1, 0] rfl)
                          · refine lv_ldc2 (v := (-1)) X.1 X.2.1 X.2.2.2.1 (X.2.2.1 _ cl_M_459) d_M_timeAt_160 ?_
                            exact m_retl hQQ X Y hr hlk ⟨S, (by (have c9 : ((-1) : Int64).toInt = (-1) := (by decide)); unfold tiOK; omega)⟩ d_M_timeAt_163
              · refine lv_ldc2 (v := (-1)) X.1 X.2.1 X.2.2.2.1 (X.2.2.1 _ cl_M_459) d_M_timeAt_120 ?_
                exact m_retl hQQ X Y hr hlk ⟨S, (by (have c9 : ((-1) : Int64).toInt = (-1) := (by decide)); unfold tiOK; omega)⟩ d_M_timeAt_123
set_option maxHeartbeats 4000000 in
set_option maxRecDepth 100000 in
theorem r_M_number (l : Launch) (D : mD) (E : mE) (h : Nat) (q : Nat → Nat) (sz : Nat) (I : Nat → Int32) (J : Nat → Int64) (B : Nat → Nat → Int32) (G : Nat → Nat → Int64) (a1 : Int) (l_a1 : (-1) ≤ a1) (u_a1 : a1 ≤ 30000) (a2 : Int) (l_a2 : (-1) ≤ a2) (u_a2 : a2 ≤ 30000) (a3 : Int64) (a4 : Int64) (hT : rT I B) (mm : Nat → Int32) (gm : B 0 = mm) (f_P1 : pG1 I) (q0 : 0 ≤ a1 ∨ a2 < a1 + 2) (q1 : a2 - a1 ≤ 4200) : Met l y_M_number (k_M_number :: lw_tg) (mR 3 110) (va_Pc [.ref h, .int (iI a1), .int (iI a2), .long a3, .long a4] (mPre D E h q (I, J, B, G) sz)) (va_Qi (rPi [39, 40] [] I B (fun (z : Int) (u : mS) => 0 ≤ z ∧ z ≤ 1 ∧ (z = 1 ↔ nmP mm a1 a2 a3 a4) ∧ pG1 u.1)) (mPost D E h q (mA E h q sz)) (mA E h q sz)) 0 0 (mA E h q sz) := by
  refine m_enter (by decide) rfl (Nat.le_of_ble_eq_true rfl) (fun p e s m below meth c ls AV QQ H locs hQQ X Y hZ hA hr hlk hml hl => ?_)
  have Y : mH D E (mA E h q sz) s.heap h q I J B G H locs := Y
  have S : rS [39, 40] [] I B I B := rS_rf hT
  have hl : lv_has ls 12 [(0, .ref h), (1, .int (iI a1)), (2, .int (iI a2)), (3, .long a3), (5, .long a4)] := hl
  refine lv_aload_n X.1 X.2.1 d_M_number_0 rfl (lv_at hl 0 rfl) ?_
  refine lv_iload_n X.1 X.2.1 d_M_number_1 rfl (lv_at hl 1 rfl) ?_
  refine lv_iload_n X.1 X.2.1 d_M_number_2 rfl (lv_at hl 2 rfl) ?_
  refine lv_iconst (v := iI 2) X.1 X.2.1 d_M_number_3 (by decide) ?_
  refine r_ni (m_run (As := [.int (iI a1), .int (iI a2), .int (iI 2)]) (rest := []) (n := 3) X Y hZ hA hml hl.1 (r_M_whole l D E h q H.size I J B G a1 (by omega) (by omega) a2 (by omega) (by omega) 2 (by omega) (by omega) S.1 mm gm f_P1 (by omega) (by omega)) kl_M_whole ks_M_whole kx_M_whole ki_M_whole ini_M hd_M_whole ⟨Nat.le_of_ble_eq_true rfl, Nat.le_of_ble_eq_true rfl⟩ rfl (Nat.le_of_ble_eq_true rfl) d_M_number_4 ⟨Nat.le_refl _, Nat.le_refl _⟩) X Y hA S (by decide) (by decide) (fun z101 u H locs Y S s101 p101 => ?_)
  obtain ⟨I101, J101, B101, G101⟩ := u
  dsimp only at Y S s101 p101
  obtain ⟨l101, u101, x101, st101⟩ := p101
  obtain ⟨x102, y102, ex102, ey102, lx102, ly102, uy102, dy102, iy102⟩ := st101
  refine z_if_ne (tgt := 12) X.1 X.2.1 d_M_number_7 (by decide) ⟨by omega, by omega⟩ (fun h103 => ?_) (fun h103 => ?_)
  · refine lv_aload_n X.1 X.2.1 d_M_number_12 rfl (lv_at hl 0 rfl) ?_
    refine r_get0 X Y (by decide) lk_inside (gf_inside _ _ _) rfl ex102 d_M_number_13 ?_
    refine lv_istore (lv' := [(7, .int (iI x102)), (0, .ref h), (1, .int (iI a1)), (2, .int (iI a2)), (3, .long a3), (5, .long a4)]) X.1 X.2.1 d_M_number_16 hl (by decide) rfl (fun ls hl => ?_)
    refine lv_iload_n X.1 X.2.1 d_M_number_18 rfl (lv_at hl 3 rfl) ?_
    refine lv_iload X.1 X.2.1 d_M_number_19 (lv_at hl 0 rfl) ?_
    refine z_isub X.1 X.2.1 d_M_number_21 ?_
    refine lv_istore (lv' := [(8, .int (iI (a2 - x102))), (7, .int (iI x102)), (0, .ref h), (1, .int (iI a1)), (2, .int (iI a2)), (3, .long a3), (5, .long a4)]) X.1 X.2.1 d_M_number_22 hl (by decide) rfl (fun ls hl => ?_)
    refine lv_iload X.1 X.2.1 d_M_number_24 (lv_at hl 0 rfl) ?_
    refine lv_iconst (v := iI 1) X.1 X.2.1 d_M_number_26 (by decide) ?_
    refine z_icmp_lt (tgt := 87) X.1 X.2.1 d_M_number_27 (by decide) ⟨by omega, by omega⟩ ⟨by omega, by omega⟩ (fun h104 => ?_) (fun h104 => ?_)
    · refine lv_iconst (v := iI 0) X.1 X.2.1 d_M_number_87 (by decide) ?_
      exact m_retz hQQ X Y hr hlk (iI_bool (by omega) (by omega)).1 ⟨S, 0, rfl, ⟨by omega, by omega, iff_f (fun h9 => by have h8 := h9.2.1; have h7 := h9.2.2.1; have h6 := h9.2.2.2.1; rw [← (show x102 = elI mm a1 a2 by omega)] at h8 h7 h6; omega), (show pG1 I101 from ⟨x102, y102, ex102, ey102, by omega, by omega, by omega, by omega⟩)⟩⟩ d_M_number_88
    · refine lv_iload X.1 X.2.1 d_M_number_30 (lv_at hl 0 rfl) ?_
      refine lv_iconst (v := iI 5) X.1 X.2.1 d_M_number_32 (by decide) ?_
      refine z_icmp_gt (tgt := 87) X.1 X.2.1 d_M_number_33 (by decide) ⟨by omega, by omega⟩ ⟨by omega, by omega⟩ (fun h105 => ?_) (fun h105 => ?_)
      · refine lv_iconst (v := iI 0) X.1 X.2.1 d_M_number_87 (by decide) ?_
        exact m_retz hQQ X Y hr hlk (iI_bool (by omega) (by omega)).1 ⟨S, 0, rfl, ⟨by omega, by omega, iff_f (fun h9 => by have h8 := h9.2.1; have h7 := h9.2.2.1; have h6 := h9.2.2.2.1; rw [← (show x102 = elI mm a1 a2 by omega)] at h8 h7 h6; omega), (show pG1 I101 from ⟨x102, y102, ex102, ey102, by omega, by omega, by omega, by omega⟩)⟩⟩ d_M_number_88
      · refine lv_iload X.1 X.2.1 d_M_number_36 (lv_at hl 0 rfl) ?_
        refine lv_iconst (v := iI 1) X.1 X.2.1 d_M_number_38 (by decide) ?_
        refine z_icmp_le (tgt := 89) X.1 X.2.1 d_M_number_39 (by decide) ⟨by omega, by omega⟩ ⟨by omega, by omega⟩ (fun h106 => ?_) (fun h106 => ?_)
        · refine lv_aload_n X.1 X.2.1 d_M_number_89 rfl (lv_at hl 2 rfl) ?_
          refine m_get X Y 0 (by decide) lk_mem (gf_mem _ _ _) rfl d_M_number_90 ?_
          refine lv_iload X.1 X.2.1 d_M_number_93 (lv_at hl 1 rfl) ?_
          refine r_bald X Y S (aw_mem _ _ _ _ _ _ _) rfl (by omega) (show x102 < ((60000 : Nat) : Int) by omega) (by omega) d_M_number_95 (fun z107 q107 l107 u107 => ?_)
          rw [(S.2.2 0 (by decide)).trans gm] at q107
          have g107 : gb mm x102 = z107 % 256 := by unfold gb; rw [← q107]
          have s107 : sg mm x102 = z107 := by unfold sg; rw [← q107]
          refine lv_i2l X.1 X.2.1 d_M_number_96 rfl ?_
          refine lv_lstore (lv' := [(9, .long ((iI z107).toInt64)), (8, .int (iI (a2 - x102))), (7, .int (iI x102)), (0, .ref h), (1, .int (iI a1)), (2, .int (iI a2)), (3, .long a3), (5, .long a4)]) X.1 X.2.1 d_M_number_97 hl (by decide) rfl (fun ls hl => ?_)
          refine lv_iconst (v := iI 1) X.1 X.2.1 d_M_number_99 (by decide) ?_
          have J111 : ∀ (z108 : Int) (H : Heap) (locs : List Loc) (ls : Array Slot), (1 ≤ z108) → (z108 ≤ 1) → ((iI z107).toInt64 = vl mm x102 (z108 - 1).toNat) → (z108 ≤ a2 - x102) → mH D E (mA E h q sz) s.heap h q I101 J101 B101 G101 H locs → rS [39, 40] [] I B I101 B101 → lv_has ls 12 [(0, .ref h), (3, .long a3), (5, .long a4), (7, .int (iI x102)), (8, .int (iI (a2 - x102))), (9, .long ((iI z107).toInt64)), (11, .int (iI z108))] → W p l e (mR 3 110) s m AV below meth c H locs 0 0 QQ (F0 m 102 ls []) := by
            intro z108 H locs ls l108 u108 i109 i110 Y S hl
            refine lv_iload X.1 X.2.1 d_M_number_102 (lv_at hl 6 rfl) ?_
            refine lv_iload X.1 X.2.1 d_M_number_104 (lv_at hl 4 rfl) ?_
            refine z_icmp_ge (tgt := 138) X.1 X.2.1 d_M_number_106 (by decide) ⟨by omega, by omega⟩ ⟨by omega, by omega⟩ (fun h115 => ?_) (fun h115 => False.elim (by omega))
            · have ev : (iI z107).toInt64 = vl mm x102 (a2 - x102 - 1).toNat := by rw [i109, show z108 = a2 - x102 by omega]
              have ev : (iI z107).toInt64 = vl mm x102 (a2 - x102 - 1).toNat := by rw [i109, show z108 = a2 - x102 by omega]
              refine lv_aload_n X.1 X.2.1 d_M_number_138 rfl (lv_at hl 0 rfl) ?_
              refine lv_lload X.1 X.2.1 d_M_number_139 (lv_at hl 5 rfl) ?_
              refine r_putl X Y (by decide) lk_value rfl rfl (t_M_ok 41 (by decide)) rfl rfl (sf_value _ _ _ _) (Nat.le_of_ble_eq_true rfl) d_M_number_141 (fun J116 H locs Y => ?_)
              refine lv_lload X.1 X.2.1 d_M_number_144 (lv_at hl 5 rfl) ?_
              refine lv_lload_n X.1 X.2.1 d_M_number_146 rfl (lv_at hl 1 rfl) ?_
              refine z_lcmp X.1 X.2.1 d_M_number_147 (fun z117 l117 u117 x117 y117 => ?_)
              refine z_if_lt (tgt := 163) X.1 X.2.1 d_M_number_148 (by decide) ⟨by omega, by omega⟩ (fun h118 => ?_) (fun h118 => ?_)
              · refine lv_iconst (v := iI 0) X.1 X.2.1 d_M_number_163 (by decide) ?_
                exact m_retz hQQ X Y hr hlk (iI_bool (by omega) (by omega)).1 ⟨S, 0, rfl, ⟨by omega, by omega, iff_f (fun h9 => by have h8 := h9.2.2.2.2; rw [← (show x102 = elI mm a1 a2 by omega), ← ev] at h8; omega), (show pG1 I101 from ⟨x102, y102, ex102, ey102, by omega, by omega, by omega, by omega⟩)⟩⟩ d_M_number_164
              · refine lv_lload X.1 X.2.1 d_M_number_151 (lv_at hl 5 rfl) ?_
                refine lv_lload X.1 X.2.1 d_M_number_153 (lv_at hl 2 rfl) ?_
                refine z_lcmp X.1 X.2.1 d_M_number_155 (fun z119 l119 u119 x119 y119 => ?_)
                refine z_if_gt (tgt := 163) X.1 X.2.1 d_M_number_156 (by decide) ⟨by omega, by omega⟩ (fun h120 => ?_) (fun h120 => ?_)
                · refine lv_iconst (v := iI 0) X.1 X.2.1 d_M_number_163 (by decide) ?_
                  exact m_retz hQQ X Y hr hlk (iI_bool (by omega) (by omega)).1 ⟨S, 0, rfl, ⟨by omega, by omega, iff_f (fun h9 => by have h8 := h9.2.2.2.2; rw [← (show x102 = elI mm a1 a2 by omega), ← ev] at h8; omega), (show pG1 I101 from ⟨x102, y102, ex102, ey102, by omega, by omega, by omega, by omega⟩)⟩⟩ d_M_number_164
                · refine lv_iconst (v := iI 1) X.1 X.2.1 d_M_number_159 (by decide) ?_
                  refine lv_goto (tgt := 164) X.1 X.2.1 d_M_number_160 (by decide) ?_
                  exact m_retz hQQ X Y hr hlk (iI_bool (by omega) (by omega)).1 ⟨S, 1, rfl, ⟨by omega, by omega, iff_t ⟨(x101.mp (by omega)), by omega, by omega, by rw [← (show x102 = elI mm a1 a2 by omega)]; omega, by rw [← (show x102 = elI mm a1 a2 by omega), ← ev]; omega, by rw [← (show x102 = elI mm a1 a2 by omega), ← ev]; omega⟩, (show pG1 I101 from ⟨x102, y102, ex102, ey102, by omega, by omega, by omega, by omega⟩)⟩⟩ d_M_number_164
          refine lv_istore (lv' := [(11, .int (iI 1)), (9, .long ((iI z107).toInt64)), (8, .int (iI (a2 - x102))), (7, .int (iI x102)), (0, .ref h), (1, .int (iI a1)), (2, .int (iI a2)), (3, .long a3), (5, .long a4)]) X.1 X.2.1 d_M_number_100 hl (by decide) rfl (fun ls hl => ?_)
          exact J111 1 _ _ _ (by omega) (by omega) (by rw [show ((1 : Int) - 1).toNat = 0 from rfl]; show (iI z107).toInt64 = (iI (sg mm x102)).toInt64; rw [s107]) (by omega) Y S (lv_sub hl [4, 7, 8, 3, 2, 1, 0] rfl)
        · refine lv_aload_n X.1 X.2.1 d_M_number_42 rfl (lv_at hl 2 rfl) ?_
          refine m_get X Y 0 (by decide) lk_mem (gf_mem _ _ _) rfl d_M_number_43 ?_
          refine lv_iload X.1 X.2.1 d_M_number_46 (lv_at hl 1 rfl) ?_
          refine r_bald X Y S (aw_mem _ _ _ _ _ _ _) rfl (by omega) (show x102 < ((60000 : Nat) : Int) by omega) (by omega) d_M_number_48 (fun z121 q121 l121 u121 => ?_)
          rw [(S.2.2 0 (by decide)).trans gm] at q121
          have g121 : gb mm x102 = z121 % 256 := by unfold gb; rw [← q121]
          have s121 : sg mm x102 = z121 := by unfold sg; rw [← q121]
          refine z_if_ne (tgt := 64) X.1 X.2.1 d_M_number_49 (by decide) ⟨by omega, by omega⟩ (fun h122 => ?_) (fun h122 => ?_)
          · refine lv_aload_n X.1 X.2.1 d_M_number_64 rfl (lv_at hl 2 rfl) ?_
            refine m_get X Y 0 (by decide) lk_mem (gf_mem _ _ _) rfl d_M_number_65 ?_
            refine lv_iload X.1 X.2.1 d_M_number_68 (lv_at hl 1 rfl) ?_
            refine r_bald X Y S (aw_mem _ _ _ _ _ _ _) rfl (by omega) (show x102 < ((60000 : Nat) : Int) by omega) (by omega) d_M_number_70 (fun z123 q123 l123 u123 => ?_)
            rw [(S.2.2 0 (by decide)).trans gm] at q123
            have g123 : gb mm x102 = z123 % 256 := by unfold gb; rw [← q123]
            have s123 : sg mm x102 = z123 := by unfold sg; rw [← q123]
            refine lv_iconst (v := iI (-1)) X.1 X.2.1 d_M_number_71 (by decide) ?_
            refine z_icmp_ne (tgt := 89) X.1 X.2.1 d_M_number_72 (by decide) ⟨by omega, by omega⟩ ⟨by omega, by omega⟩ (fun h124 => ?_) (fun h124 => ?_)
            · refine lv_aload_n X.1 X.2.1 d_M_number_89 rfl (lv_at hl 2 rfl) ?_
              refine m_get X Y 0 (by decide) lk_mem (gf_mem _ _ _) rfl d_M_number_90 ?_
              refine lv_iload X.1 X.2.1 d_M_number_93 (lv_at hl 1 rfl) ?_
              refine r_bald X Y S (aw_mem _ _ _ _ _ _ _) rfl (by omega) (show x102 < ((60000 : Nat) : Int) by omega) (by omega) d_M_number_95 (fun z125 q125 l125 u125 => ?_)
              rw [(S.2.2 0 (by decide)).trans gm] at q125
              have g125 : gb mm x102 = z125 % 256 := by unfold gb; rw [← q125]
              have s125 : sg mm x102 = z125 := by unfold sg; rw [← q125]
              refine lv_i2l X.1 X.2.1 d_M_number_96 rfl ?_
              refine lv_lstore (lv' := [(9, .long ((iI z125).toInt64)), (8, .int (iI (a2 - x102))), (7, .int (iI x102)), (0, .ref h), (1, .int (iI a1)), (2, .int (iI a2)), (3, .long a3), (5, .long a4)]) X.1 X.2.1 d_M_number_97 hl (by decide) rfl (fun ls hl => ?_)
              refine lv_iconst (v := iI 1) X.1 X.2.1 d_M_number_99 (by decide) ?_
              have J130 : ∀ (n132 : Nat) (v126 : Int64) (z127 : Int) (H : Heap) (locs : List Loc) (ls : Array Slot), (5 - z127).toNat = n132 → (1 ≤ z127) → (z127 ≤ 5) → (v126 = vl mm x102 (z127 - 1).toNat) → (z127 ≤ a2 - x102) → mH D E (mA E h q sz) s.heap h q I101 J101 B101 G101 H locs → rS [39, 40] [] I B I101 B101 → lv_has ls 12 [(0, .ref h), (3, .long a3), (5, .long a4), (7, .int (iI x102)), (8, .int (iI (a2 - x102))), (9, .long v126), (11, .int (iI z127))] → W p l e (mR 3 110) s m AV below meth c H locs 0 0 QQ (F0 m 102 ls []) := by
                intro n132
                induction n132 using Nat.strongRecOn with
                | ind n132 ih131 =>
                  intro v126 z127 H locs ls hm133 l127 u127 i128 i129 Y S hl
                  refine lv_iload X.1 X.2.1 d_M_number_102 (lv_at hl 6 rfl) ?_
                  refine lv_iload X.1 X.2.1 d_M_number_104 (lv_at hl 4 rfl) ?_
                  refine z_icmp_ge (tgt := 138) X.1 X.2.1 d_M_number_106 (by decide) ⟨by omega, by omega⟩ ⟨by omega, by omega⟩ (fun h134 => ?_) (fun h134 => ?_)
                  · have ev : v126 = vl mm x102 (a2 - x102 - 1).toNat := by rw [i128, show z127 = a2 - x102 by omega]
                    have ev : v126 = vl mm x102 (a2 - x102 - 1).toNat := by rw [i128, show z127 = a2 - x102 by omega]
                    refine lv_aload_n X.1 X.2.1 d_M_number_138 rfl (lv_at hl 0 rfl) ?_
                    refine lv_lload X.1 X.2.1 d_M_number_139 (lv_at hl 5 rfl) ?_
                    refine r_putl X Y (by decide) lk_value rfl rfl (t_M_ok 41 (by decide)) rfl rfl (sf_value _ _ _ _) (Nat.le_of_ble_eq_true rfl) d_M_number_141 (fun J135 H locs Y => ?_)
                    refine lv_lload X.1 X.2.1 d_M_number_144 (lv_at hl 5 rfl) ?_
                    refine lv_lload_n X.1 X.2.1 d_M_number_146 rfl (lv_at hl 1 rfl) ?_
                    refine z_lcmp X.1 X.2.1 d_M_number_147 (fun z136 l136 u136 x136 y136 => ?_)
                    refine z_if_lt (tgt := 163) X.1 X.2.1 d_M_number_148 (by decide) ⟨by omega, by omega⟩ (fun h137 => ?_) (fun h137 => ?_)
                    · refine lv_iconst (v := iI 0) X.1 X.2.1 d_M_number_163 (by decide) ?_
                      exact m_retz hQQ X Y hr hlk (iI_bool (by omega) (by omega)).1 ⟨S, 0, rfl, ⟨by omega, by omega, iff_f (fun h9 => by have h8 := h9.2.2.2.2; rw [← (show x102 = elI mm a1 a2 by omega), ← ev] at h8; omega), (show pG1 I101 from ⟨x102, y102, ex102, ey102, by omega, by omega, by omega, by omega⟩)⟩⟩ d_M_number_164
                    · refine lv_lload X.1 X.2.1 d_M_number_151 (lv_at hl 5 rfl) ?_
                      refine lv_lload X.1 X.2.1 d_M_number_153 (lv_at hl 2 rfl) ?_
                      refine z_lcmp X.1 X.2.1 d_M_number_155 (fun z138 l138 u138 x138 y138 => ?_)
                      refine z_if_gt (tgt := 163) X.1 X.2.1 d_M_number_156 (by decide) ⟨by omega, by omega⟩ (fun h139 => ?_) (fun h139 => ?_)
                      · refine lv_iconst (v := iI 0) X.1 X.2.1 d_M_number_163 (by decide) ?_
                        exact m_retz hQQ X Y hr hlk (iI_bool (by omega) (by omega)).1 ⟨S, 0, rfl, ⟨by omega, by omega, iff_f (fun h9 => by have h8 := h9.2.2.2.2; rw [← (show x102 = elI mm a1 a2 by omega), ← ev] at h8; omega), (show pG1 I101 from ⟨x102, y102, ex102, ey102, by omega, by omega, by omega, by omega⟩)⟩⟩ d_M_number_164
                      · refine lv_iconst (v := iI 1) X.1 X.2.1 d_M_number_159 (by decide) ?_
                        refine lv_goto (tgt := 164) X.1 X.2.1 d_M_number_160 (by decide) ?_
                        exact m_retz hQQ X Y hr hlk (iI_bool (by omega) (by omega)).1 ⟨S, 1, rfl, ⟨by omega, by omega, iff_t ⟨(x101.mp (by omega)), by omega, by omega, by rw [← (show x102 = elI mm a1 a2 by omega)]; omega, by rw [← (show x102 = elI mm a1 a2 by omega), ← ev]; omega, by rw [← (show x102 = elI mm a1 a2 by omega), ← ev]; omega⟩, (show pG1 I101 from ⟨x102, y102, ex102, ey102, by omega, by omega, by omega, by omega⟩)⟩⟩ d_M_number_164
                  · refine lv_lload X.1 X.2.1 d_M_number_109 (lv_at hl 5 rfl) ?_
                    refine lv_bipush (v := iI 8) X.1 X.2.1 d_M_number_111 (by decide) ?_
                    refine lv_lshl X.1 X.2.1 d_M_number_113 rfl ?_
                    refine lv_aload_n X.1 X.2.1 d_M_number_114 rfl (lv_at hl 0 rfl) ?_
                    refine m_get X Y 0 (by decide) lk_mem (gf_mem _ _ _) rfl d_M_number_115 ?_
                    refine lv_iload X.1 X.2.1 d_M_number_118 (lv_at hl 3 rfl) ?_
                    refine lv_iload X.1 X.2.1 d_M_number_120 (lv_at hl 6 rfl) ?_
                    refine z_iadd X.1 X.2.1 d_M_number_122 ?_
                    refine r_bald X Y S (aw_mem _ _ _ _ _ _ _) rfl (by omega) (show x102 + z127 < ((60000 : Nat) : Int) by omega) (by omega) d_M_number_123 (fun z140 q140 l140 u140 => ?_)
                    rw [(S.2.2 0 (by decide)).trans gm] at q140
                    have g140 : gb mm (x102 + z127) = z140 % 256 := by unfold gb; rw [← q140]
                    have s140 : sg mm (x102 + z127) = z140 := by unfold sg; rw [← q140]
                    refine lv_sipush (v := iI 255) X.1 X.2.1 d_M_number_124 (by decide) ?_
                    refine z_iand255 X.1 X.2.1 d_M_number_127 ?_
                    refine lv_i2l X.1 X.2.1 d_M_number_128 rfl ?_
                    refine lv_lor X.1 X.2.1 d_M_number_129 ?_
                    refine lv_lstore (lv' := [(9, .long (((v126 <<< ((iI 8).toInt64 &&& 63)) ||| (iI (z140 % 256)).toInt64))), (0, .ref h), (3, .long a3), (5, .long a4), (7, .int (iI x102)), (8, .int (iI (a2 - x102))), (11, .int (iI z127))]) X.1 X.2.1 d_M_number_130 hl (by decide) rfl (fun ls hl => ?_)
                    refine lv_iinc (v := iI (z127 + 1)) (lv' := [(11, .int (iI (z127 + 1))), (9, .long (((v126 <<< ((iI 8).toInt64 &&& 63)) ||| (iI (z140 % 256)).toInt64))), (0, .ref h), (3, .long a3), (5, .long a4), (7, .int (iI x102)), (8, .int (iI (a2 - x102)))]) X.1 X.2.1 d_M_number_132 hl (k := 6) rfl ((iI_add _ _).trans (congrArg iI (by omega))) (by decide) rfl (fun ls hl => ?_)
                    refine lv_goto (tgt := 102) X.1 X.2.1 d_M_number_135 (by decide) ?_
                    exact ih131 ((5 - (z127 + 1)).toNat) (by omega) (((v126 <<< ((iI 8).toInt64 &&& 63)) ||| (iI (z140 % 256)).toInt64)) (z127 + 1) _ _ _ rfl (by omega) (by omega) (vl_step (by omega) i128 q140) (by omega) Y S (lv_sub hl [2, 3, 4, 5, 6, 1, 0] rfl)
              refine lv_istore (lv' := [(11, .int (iI 1)), (9, .long ((iI z125).toInt64)), (8, .int (iI (a2 - x102))), (7, .int (iI x102)), (0, .ref h), (1, .int (iI a1)), (2, .int (iI a2)), (3, .long a3), (5, .long a4)]) X.1 X.2.1 d_M_number_100 hl (by decide) rfl (fun ls hl => ?_)
              exact J130 _ ((iI z125).toInt64) 1 _ _ _ rfl (by omega) (by omega) (by rw [show ((1 : Int) - 1).toNat = 0 from rfl]; show (iI z125).toInt64 = (iI (sg mm x102)).toInt64; rw [s125]) (by omega) Y S (lv_sub hl [4, 7, 8, 3, 2, 1, 0] rfl)
            · refine lv_aload_n X.1 X.2.1 d_M_number_75 rfl (lv_at hl 2 rfl) ?_
              refine m_get X Y 0 (by decide) lk_mem (gf_mem _ _ _) rfl d_M_number_76 ?_
              refine lv_iload X.1 X.2.1 d_M_number_79 (lv_at hl 1 rfl) ?_
              refine lv_iconst (v := iI 1) X.1 X.2.1 d_M_number_81 (by decide) ?_
              refine z_iadd X.1 X.2.1 d_M_number_82 ?_
              refine r_bald X Y S (aw_mem _ _ _ _ _ _ _) rfl (by omega) (show x102 + 1 < ((60000 : Nat) : Int) by omega) (by omega) d_M_number_83 (fun z141 q141 l141 u141 => ?_)
              rw [(S.2.2 0 (by decide)).trans gm] at q141
              have g141 : gb mm (x102 + 1) = z141 % 256 := by unfold gb; rw [← q141]
              have s141 : sg mm (x102 + 1) = z141 := by unfold sg; rw [← q141]
              refine z_if_ge (tgt := 89) X.1 X.2.1 d_M_number_84 (by decide) ⟨by omega, by omega⟩ (fun h142 => ?_) (fun h142 => ?_)
              · refine lv_aload_n X.1 X.2.1 d_M_number_89 rfl (lv_at hl 2 rfl) ?_
                refine m_get X Y 0 (by decide) lk_mem (gf_mem _ _ _) rfl d_M_number_90 ?_
                refine lv_iload X.1 X.2.1 d_M_number_93 (lv_at hl 1 rfl) ?_
                refine r_bald X Y S (aw_mem _ _ _ _ _ _ _) rfl (by omega) (show x102 < ((60000 : Nat) : Int) by omega) (by omega) d_M_number_95 (fun z143 q143 l143 u143 => ?_)
                rw [(S.2.2 0 (by decide)).trans gm] at q143
                have g143 : gb mm x102 = z143 % 256 := by unfold gb; rw [← q143]
                have s143 : sg mm x102 = z143 := by unfold sg; rw [← q143]
                refine lv_i2l X.1 X.2.1 d_M_number_96 rfl ?_
                refine lv_lstore (lv' := [(9, .long ((iI z143).toInt64)), (8, .int (iI (a2 - x102))), (7, .int (iI x102)), (0, .ref h), (1, .int (iI a1)), (2, .int (iI a2)), (3, .long a3), (5, .long a4)]) X.1 X.2.1 d_M_number_97 hl (by decide) rfl (fun ls hl => ?_)
                refine lv_iconst (v := iI 1) X.1 X.2.1 d_M_number_99 (by decide) ?_
                have J148 : ∀ (n150 : Nat) (v144 : Int64) (z145 : Int) (H : Heap) (locs : List Loc) (ls : Array Slot), (5 - z145).toNat = n150 → (1 ≤ z145) → (z145 ≤ 5) → (v144 = vl mm x102 (z145 - 1).toNat) → (z145 ≤ a2 - x102) → mH D E (mA E h q sz) s.heap h q I101 J101 B101 G101 H locs → rS [39, 40] [] I B I101 B101 → lv_has ls 12 [(0, .ref h), (3, .long a3), (5, .long a4), (7, .int (iI x102)), (8, .int (iI (a2 - x102))), (9, .long v144), (11, .int (iI z145))] → W p l e (mR 3 110) s m AV below meth c H locs 0 0 QQ (F0 m 102 ls []) := by
                  intro n150
                  induction n150 using Nat.strongRecOn with
                  | ind n150 ih149 =>
                    intro v144 z145 H locs ls hm151 l145 u145 i146 i147 Y S hl
                    refine lv_iload X.1 X.2.1 d_M_number_102 (lv_at hl 6 rfl) ?_
                    refine lv_iload X.1 X.2.1 d_M_number_104 (lv_at hl 4 rfl) ?_
                    refine z_icmp_ge (tgt := 138) X.1 X.2.1 d_M_number_106 (by decide) ⟨by omega, by omega⟩ ⟨by omega, by omega⟩ (fun h152 => ?_) (fun h152 => ?_)
                    · have ev : v144 = vl mm x102 (a2 - x102 - 1).toNat := by rw [i146, show z145 = a2 - x102 by omega]
                      have ev : v144 = vl mm x102 (a2 - x102 - 1).toNat := by rw [i146, show z145 = a2 - x102 by omega]
                      refine lv_aload_n X.1 X.2.1 d_M_number_138 rfl (lv_at hl 0 rfl) ?_
                      refine lv_lload X.1 X.2.1 d_M_number_139 (lv_at hl 5 rfl) ?_
                      refine r_putl X Y (by decide) lk_value rfl rfl (t_M_ok 41 (by decide)) rfl rfl (sf_value _ _ _ _) (Nat.le_of_ble_eq_true rfl) d_M_number_141 (fun J153 H locs Y => ?_)
                      refine lv_lload X.1 X.2.1 d_M_number_144 (lv_at hl 5 rfl) ?_
                      refine lv_lload_n X.1 X.2.1 d_M_number_146 rfl (lv_at hl 1 rfl) ?_
                      refine z_lcmp X.1 X.2.1 d_M_number_147 (fun z154 l154 u154 x154 y154 => ?_)
                      refine z_if_lt (tgt := 163) X.1 X.2.1 d_M_number_148 (by decide) ⟨by omega, by omega⟩ (fun h155 => ?_) (fun h155 => ?_)
                      · refine lv_iconst (v := iI 0) X.1 X.2.1 d_M_number_163 (by decide) ?_
                        exact m_retz hQQ X Y hr hlk (iI_bool (by omega) (by omega)).1 ⟨S, 0, rfl, ⟨by omega, by omega, iff_f (fun h9 => by have h8 := h9.2.2.2.2; rw [← (show x102 = elI mm a1 a2 by omega), ← ev] at h8; omega), (show pG1 I101 from ⟨x102, y102, ex102, ey102, by omega, by omega, by omega, by omega⟩)⟩⟩ d_M_number_164
                      · refine lv_lload X.1 X.2.1 d_M_number_151 (lv_at hl 5 rfl) ?_
                        refine lv_lload X.1 X.2.1 d_M_number_153 (lv_at hl 2 rfl) ?_
                        refine z_lcmp X.1 X.2.1 d_M_number_155 (fun z156 l156 u156 x156 y156 => ?_)
                        refine z_if_gt (tgt := 163) X.1 X.2.1 d_M_number_156 (by decide) ⟨by omega, by omega⟩ (fun h157 => ?_) (fun h157 => ?_)
                        · refine lv_iconst (v := iI 0) X.1 X.2.1 d_M_number_163 (by decide) ?_
                          exact m_retz hQQ X Y hr hlk (iI_bool (by omega) (by omega)).1 ⟨S, 0, rfl, ⟨by omega, by omega, iff_f (fun h9 => by have h8 := h9.2.2.2.2; rw [← (show x102 = elI mm a1 a2 by omega), ← ev] at h8; omega), (show pG1 I101 from ⟨x102, y102, ex102, ey102, by omega, by omega, by omega, by omega⟩)⟩⟩ d_M_number_164
                        · refine lv_iconst (v := iI 1) X.1 X.2.1 d_M_number_159 (by decide) ?_
                          refine lv_goto (tgt := 164) X.1 X.2.1 d_M_number_160 (by decide) ?_
                          exact m_retz hQQ X Y hr hlk (iI_bool (by omega) (by omega)).1 ⟨S, 1, rfl, ⟨by omega, by omega, iff_t ⟨(x101.mp (by omega)), by omega, by omega, by rw [← (show x102 = elI mm a1 a2 by omega)]; omega, by rw [← (show x102 = elI mm a1 a2 by omega), ← ev]; omega, by rw [← (show x102 = elI mm a1 a2 by omega), ← ev]; omega⟩, (show pG1 I101 from ⟨x102, y102, ex102, ey102, by omega, by omega, by omega, by omega⟩)⟩⟩ d_M_number_164
                    · refine lv_lload X.1 X.2.1 d_M_number_109 (lv_at hl 5 rfl) ?_
                      refine lv_bipush (v := iI 8) X.1 X.2.1 d_M_number_111 (by decide) ?_
                      refine lv_lshl X.1 X.2.1 d_M_number_113 rfl ?_
                      refine lv_aload_n X.1 X.2.1 d_M_number_114 rfl (lv_at hl 0 rfl) ?_
                      refine m_get X Y 0 (by decide) lk_mem (gf_mem _ _ _) rfl d_M_number_115 ?_
                      refine lv_iload X.1 X.2.1 d_M_number_118 (lv_at hl 3 rfl) ?_
                      refine lv_iload X.1 X.2.1 d_M_number_120 (lv_at hl 6 rfl) ?_
                      refine z_iadd X.1 X.2.1 d_M_number_122 ?_
                      refine r_bald X Y S (aw_mem _ _ _ _ _ _ _) rfl (by omega) (show x102 + z145 < ((60000 : Nat) : Int) by omega) (by omega) d_M_number_123 (fun z158 q158 l158 u158 => ?_)
                      rw [(S.2.2 0 (by decide)).trans gm] at q158
                      have g158 : gb mm (x102 + z145) = z158 % 256 := by unfold gb; rw [← q158]
                      have s158 : sg mm (x102 + z145) = z158 := by unfold sg; rw [← q158]
                      refine lv_sipush (v := iI 255) X.1 X.2.1 d_M_number_124 (by decide) ?_
                      refine z_iand255 X.1 X.2.1 d_M_number_127 ?_
                      refine lv_i2l X.1 X.2.1 d_M_number_128 rfl ?_
                      refine lv_lor X.1 X.2.1 d_M_number_129 ?_
                      refine lv_lstore (lv' := [(9, .long (((v144 <<< ((iI 8).toInt64 &&& 63)) ||| (iI (z158 % 256)).toInt64))), (0, .ref h), (3, .long a3), (5, .long a4), (7, .int (iI x102)), (8, .int (iI (a2 - x102))), (11, .int (iI z145))]) X.1 X.2.1 d_M_number_130 hl (by decide) rfl (fun ls hl => ?_)
                      refine lv_iinc (v := iI (z145 + 1)) (lv' := [(11, .int (iI (z145 + 1))), (9, .long (((v144 <<< ((iI 8).toInt64 &&& 63)) ||| (iI (z158 % 256)).toInt64))), (0, .ref h), (3, .long a3), (5, .long a4), (7, .int (iI x102)), (8, .int (iI (a2 - x102)))]) X.1 X.2.1 d_M_number_132 hl (k := 6) rfl ((iI_add _ _).trans (congrArg iI (by omega))) (by decide) rfl (fun ls hl => ?_)
                      refine lv_goto (tgt := 102) X.1 X.2.1 d_M_number_135 (by decide) ?_
                      exact ih149 ((5 - (z145 + 1)).toNat) (by omega) (((v144 <<< ((iI 8).toInt64 &&& 63)) ||| (iI (z158 % 256)).toInt64)) (z145 + 1) _ _ _ rfl (by omega) (by omega) (vl_step (by omega) i146 q158) (by omega) Y S (lv_sub hl [2, 3, 4, 5, 6, 1, 0] rfl)
                refine lv_istore (lv' := [(11, .int (iI 1)), (9, .long ((iI z143).toInt64)), (8, .int (iI (a2 - x102))), (7, .int (iI x102)), (0, .ref h), (1, .int (iI a1)), (2, .int (iI a2)), (3, .long a3), (5, .long a4)]) X.1 X.2.1 d_M_number_100 hl (by decide) rfl (fun ls hl => ?_)
                exact J148 _ ((iI z143).toInt64) 1 _ _ _ rfl (by omega) (by omega) (by rw [show ((1 : Int) - 1).toNat = 0 from rfl]; show (iI z143).toInt64 = (iI (sg mm x102)).toInt64; rw [s143]) (by omega) Y S (lv_sub hl [4, 7, 8, 3, 2, 1, 0] rfl)
              · refine lv_iconst (v := iI 0) X.1 X.2.1 d_M_number_87 (by decide) ?_
                exact m_retz hQQ X Y hr hlk (iI_bool (by omega) (by omega)).1 ⟨S, 0, rfl, ⟨by omega, by omega, iff_f (fun h9 => by have h8 := h9.2.1; have h7 := h9.2.2.1; have h6 := h9.2.2.2.1; rw [← (show x102 = elI mm a1 a2 by omega)] at h8 h7 h6; omega), (show pG1 I101 from ⟨x102, y102, ex102, ey102, by omega, by omega, by omega, by omega⟩)⟩⟩ d_M_number_88
          · refine lv_aload_n X.1 X.2.1 d_M_number_52 rfl (lv_at hl 2 rfl) ?_
            refine m_get X Y 0 (by decide) lk_mem (gf_mem _ _ _) rfl d_M_number_53 ?_
            refine lv_iload X.1 X.2.1 d_M_number_56 (lv_at hl 1 rfl) ?_
            refine lv_iconst (v := iI 1) X.1 X.2.1 d_M_number_58 (by decide) ?_
            refine z_iadd X.1 X.2.1 d_M_number_59 ?_
            refine r_bald X Y S (aw_mem _ _ _ _ _ _ _) rfl (by omega) (show x102 + 1 < ((60000 : Nat) : Int) by omega) (by omega) d_M_number_60 (fun z159 q159 l159 u159 => ?_)
            rw [(S.2.2 0 (by decide)).trans gm] at q159
            have g159 : gb mm (x102 + 1) = z159 % 256 := by unfold gb; rw [← q159]
            have s159 : sg mm (x102 + 1) = z159 := by unfold sg; rw [← q159]
            refine z_if_ge (tgt := 87) X.1 X.2.1 d_M_number_61 (by decide) ⟨by omega, by omega⟩ (fun h160 => ?_) (fun h160 => ?_)
            · refine lv_iconst (v := iI 0) X.1 X.2.1 d_M_number_87 (by decide) ?_
              exact m_retz hQQ X Y hr hlk (iI_bool (by omega) (by omega)).1 ⟨S, 0, rfl, ⟨by omega, by omega, iff_f (fun h9 => by have h8 := h9.2.1; have h7 := h9.2.2.1; have h6 := h9.2.2.2.1; rw [← (show x102 = elI mm a1 a2 by omega)] at h8 h7 h6; omega), (show pG1 I101 from ⟨x102, y102, ex102, ey102, by omega, by omega, by omega, by omega⟩)⟩⟩ d_M_number_88
            · refine lv_aload_n X.1 X.2.1 d_M_number_64 rfl (lv_at hl 2 rfl) ?_
              refine m_get X Y 0 (by decide) lk_mem (gf_mem _ _ _) rfl d_M_number_65 ?_
              refine lv_iload X.1 X.2.1 d_M_number_68 (lv_at hl 1 rfl) ?_
              refine r_bald X Y S (aw_mem _ _ _ _ _ _ _) rfl (by omega) (show x102 < ((60000 : Nat) : Int) by omega) (by omega) d_M_number_70 (fun z161 q161 l161 u161 => ?_)
              rw [(S.2.2 0 (by decide)).trans gm] at q161
              have g161 : gb mm x102 = z161 % 256 := by unfold gb; rw [← q161]
              have s161 : sg mm x102 = z161 := by unfold sg; rw [← q161]
              refine lv_iconst (v := iI (-1)) X.1 X.2.1 d_M_number_71 (by decide) ?_
              refine z_icmp_ne (tgt := 89) X.1 X.2.1 d_M_number_72 (by decide) ⟨by omega, by omega⟩ ⟨by omega, by omega⟩ (fun h162 => ?_) (fun h162 => ?_)
              · refine lv_aload_n X.1 X.2.1 d_M_number_89 rfl (lv_at hl 2 rfl) ?_
                refine m_get X Y 0 (by decide) lk_mem (gf_mem _ _ _) rfl d_M_number_90 ?_
                refine lv_iload X.1 X.2.1 d_M_number_93 (lv_at hl 1 rfl) ?_
                refine r_bald X Y S (aw_mem _ _ _ _ _ _ _) rfl (by omega) (show x102 < ((60000 : Nat) : Int) by omega) (by omega) d_M_number_95 (fun z163 q163 l163 u163 => ?_)
                rw [(S.2.2 0 (by decide)).trans gm] at q163
                have g163 : gb mm x102 = z163 % 256 := by unfold gb; rw [← q163]
                have s163 : sg mm x102 = z163 := by unfold sg; rw [← q163]
                refine lv_i2l X.1 X.2.1 d_M_number_96 rfl ?_
                refine lv_lstore (lv' := [(9, .long ((iI z163).toInt64)), (8, .int (iI (a2 - x102))), (7, .int (iI x102)), (0, .ref h), (1, .int (iI a1)), (2, .int (iI a2)), (3, .long a3), (5, .long a4)]) X.1 X.2.1 d_M_number_97 hl (by decide) rfl (fun ls hl => ?_)
                refine lv_iconst (v := iI 1) X.1 X.2.1 d_M_number_99 (by decide) ?_
                have J168 : ∀ (n170 : Nat) (v164 : Int64) (z165 : Int) (H : Heap) (locs : List Loc) (ls : Array Slot), (5 - z165).toNat = n170 → (1 ≤ z165) → (z165 ≤ 5) → (v164 = vl mm x102 (z165 - 1).toNat) → (z165 ≤ a2 - x102) → mH D E (mA E h q sz) s.heap h q I101 J101 B101 G101 H locs → rS [39, 40] [] I B I101 B101 → lv_has ls 12 [(0, .ref h), (3, .long a3), (5, .long a4), (7, .int (iI x102)), (8, .int (iI (a2 - x102))), (9, .long v164), (11, .int (iI z165))] → W p l e (mR 3 110) s m AV below meth c H locs 0 0 QQ (F0 m 102 ls []) := by
                  intro n170
                  induction n170 using Nat.strongRecOn with
                  | ind n170 ih169 =>
                    intro v164 z165 H locs ls hm171 l165 u165 i166 i167 Y S hl
                    refine lv_iload X.1 X.2.1 d_M_number_102 (lv_at hl 6 rfl) ?_
                    refine lv_iload X.1 X.2.1 d_M_number_104 (lv_at hl 4 rfl) ?_
                    refine z_icmp_ge (tgt := 138) X.1 X.2.1 d_M_number_106 (by decide) ⟨by omega, by omega⟩ ⟨by omega, by omega⟩ (fun h172 => ?_) (fun h172 => ?_)
                    · have ev : v164 = vl mm x102 (a2 - x102 - 1).toNat := by rw [i166, show z165 = a2 - x102 by omega]
                      have ev : v164 = vl mm x102 (a2 - x102 - 1).toNat := by rw [i166, show z165 = a2 - x102 by omega]
                      refine lv_aload_n X.1 X.2.1 d_M_number_138 rfl (lv_at hl 0 rfl) ?_
                      refine lv_lload X.1 X.2.1 d_M_number_139 (lv_at hl 5 rfl) ?_
                      refine r_putl X Y (by decide) lk_value rfl rfl (t_M_ok 41 (by decide)) rfl rfl (sf_value _ _ _ _) (Nat.le_of_ble_eq_true rfl) d_M_number_141 (fun J173 H locs Y => ?_)
                      refine lv_lload X.1 X.2.1 d_M_number_144 (lv_at hl 5 rfl) ?_
                      refine lv_lload_n X.1 X.2.1 d_M_number_146 rfl (lv_at hl 1 rfl) ?_
                      refine z_lcmp X.1 X.2.1 d_M_number_147 (fun z174 l174 u174 x174 y174 => ?_)
                      refine z_if_lt (tgt := 163) X.1 X.2.1 d_M_number_148 (by decide) ⟨by omega, by omega⟩ (fun h175 => ?_) (fun h175 => ?_)
                      · refine lv_iconst (v := iI 0) X.1 X.2.1 d_M_number_163 (by decide) ?_
                        exact m_retz hQQ X Y hr hlk (iI_bool (by omega) (by omega)).1 ⟨S, 0, rfl, ⟨by omega, by omega, iff_f (fun h9 => by have h8 := h9.2.2.2.2; rw [← (show x102 = elI mm a1 a2 by omega), ← ev] at h8; omega), (show pG1 I101 from ⟨x102, y102, ex102, ey102, by omega, by omega, by omega, by omega⟩)⟩⟩ d_M_number_164
                      · refine lv_lload X.1 X.2.1 d_M_number_151 (lv_at hl 5 rfl) ?_
                        refine lv_lload X.1 X.2.1 d_M_number_153 (lv_at hl 2 rfl) ?_
                        refine z_lcmp X.1 X.2.1 d_M_number_155 (fun z176 l176 u176 x176 y176 => ?_)
                        refine z_if_gt (tgt := 163) X.1 X.2.1 d_M_number_156 (by decide) ⟨by omega, by omega⟩ (fun h177 => ?_) (fun h177 => ?_)
                        · refine lv_iconst (v := iI 0) X.1 X.2.1 d_M_number_163 (by decide) ?_
                          exact m_retz hQQ X Y hr hlk (iI_bool (by omega) (by omega)).1 ⟨S, 0, rfl, ⟨by omega, by omega, iff_f (fun h9 => by have h8 := h9.2.2.2.2; rw [← (show x102 = elI mm a1 a2 by omega), ← ev] at h8; omega), (show pG1 I101 from ⟨x102, y102, ex102, ey102, by omega, by omega, by omega, by omega⟩)⟩⟩ d_M_number_164
                        · refine lv_iconst (v := iI 1) X.1 X.2.1 d_M_number_159 (by decide) ?_
                          refine lv_goto (tgt := 164) X.1 X.2.1 d_M_number_160 (by decide) ?_
                          exact m_retz hQQ X Y hr hlk (iI_bool (by omega) (by omega)).1 ⟨S, 1, rfl, ⟨by omega, by omega, iff_t ⟨(x101.mp (by omega)), by omega, by omega, by rw [← (show x102 = elI mm a1 a2 by omega)]; omega, by rw [← (show x102 = elI mm a1 a2 by omega), ← ev]; omega, by rw [← (show x102 = elI mm a1 a2 by omega), ← ev]; omega⟩, (show pG1 I101 from ⟨x102, y102, ex102, ey102, by omega, by omega, by omega, by omega⟩)⟩⟩ d_M_number_164
                    · refine lv_lload X.1 X.2.1 d_M_number_109 (lv_at hl 5 rfl) ?_
                      refine lv_bipush (v := iI 8) X.1 X.2.1 d_M_number_111 (by decide) ?_
                      refine lv_lshl X.1 X.2.1 d_M_number_113 rfl ?_
                      refine lv_aload_n X.1 X.2.1 d_M_number_114 rfl (lv_at hl 0 rfl) ?_
                      refine m_get X Y 0 (by decide) lk_mem (gf_mem _ _ _) rfl d_M_number_115 ?_
                      refine lv_iload X.1 X.2.1 d_M_number_118 (lv_at hl 3 rfl) ?_
                      refine lv_iload X.1 X.2.1 d_M_number_120 (lv_at hl 6 rfl) ?_
                      refine z_iadd X.1 X.2.1 d_M_number_122 ?_
                      refine r_bald X Y S (aw_mem _ _ _ _ _ _ _) rfl (by omega) (show x102 + z165 < ((60000 : Nat) : Int) by omega) (by omega) d_M_number_123 (fun z178 q178 l178 u178 => ?_)
                      rw [(S.2.2 0 (by decide)).trans gm] at q178
                      have g178 : gb mm (x102 + z165) = z178 % 256 := by unfold gb; rw [← q178]
                      have s178 : sg mm (x102 + z165) = z178 := by unfold sg; rw [← q178]
                      refine lv_sipush (v := iI 255) X.1 X.2.1 d_M_number_124 (by decide) ?_
                      refine z_iand255 X.1 X.2.1 d_M_number_127 ?_
                      refine lv_i2l X.1 X.2.1 d_M_number_128 rfl ?_
                      refine lv_lor X.1 X.2.1 d_M_number_129 ?_
                      refine lv_lstore (lv' := [(9, .long (((v164 <<< ((iI 8).toInt64 &&& 63)) ||| (iI (z178 % 256)).toInt64))), (0, .ref h), (3, .long a3), (5, .long a4), (7, .int (iI x102)), (8, .int (iI (a2 - x102))), (11, .int (iI z165))]) X.1 X.2.1 d_M_number_130 hl (by decide) rfl (fun ls hl => ?_)
                      refine lv_iinc (v := iI (z165 + 1)) (lv' := [(11, .int (iI (z165 + 1))), (9, .long (((v164 <<< ((iI 8).toInt64 &&& 63)) ||| (iI (z178 % 256)).toInt64))), (0, .ref h), (3, .long a3), (5, .long a4), (7, .int (iI x102)), (8, .int (iI (a2 - x102)))]) X.1 X.2.1 d_M_number_132 hl (k := 6) rfl ((iI_add _ _).trans (congrArg iI (by omega))) (by decide) rfl (fun ls hl => ?_)
                      refine lv_goto (tgt := 102) X.1 X.2.1 d_M_number_135 (by decide) ?_
                      exact ih169 ((5 - (z165 + 1)).toNat) (by omega) (((v164 <<< ((iI 8).toInt64 &&& 63)) ||| (iI (z178 % 256)).toInt64)) (z165 + 1) _ _ _ rfl (by omega) (by omega) (vl_step (by omega) i166 q178) (by omega) Y S (lv_sub hl [2, 3, 4, 5, 6, 1, 0] rfl)
                refine lv_istore (lv' := [(11, .int (iI 1)), (9, .long ((iI z163).toInt64)), (8, .int (iI (a2 - x102))), (7, .int (iI x102)), (0, .ref h), (1, .int (iI a1)), (2, .int (iI a2)), (3, .long a3), (5, .long a4)]) X.1 X.2.1 d_M_number_100 hl (by decide) rfl (fun ls hl => ?_)
                exact J168 _ ((iI z163).toInt64) 1 _ _ _ rfl (by omega) (by omega) (by rw [show ((1 : Int) - 1).toNat = 0 from rfl]; show (iI z163).toInt64 = (iI (sg mm x102)).toInt64; rw [s163]) (by omega) Y S (lv_sub hl [4, 7, 8, 3, 2, 1, 0] rfl)
              · refine lv_aload_n X.1 X.2.1 d_M_number_75 rfl (lv_at hl 2 rfl) ?_
                refine m_get X Y 0 (by decide) lk_mem (gf_mem _ _ _) rfl d_M_number_76 ?_
                refine lv_iload X.1 X.2.1 d_M_number_79 (lv_at hl 1 rfl) ?_
                refine lv_iconst (v := iI 1) X.1 X.2.1 d_M_number_81 (by decide) ?_
                refine z_iadd X.1 X.2.1 d_M_number_82 ?_
                refine r_bald X Y S (aw_mem _ _ _ _ _ _ _) rfl (by omega) (show x102 + 1 < ((60000 : Nat) : Int) by omega) (by omega) d_M_number_83 (fun z179 q179 l179 u179 => ?_)
                rw [(S.2.2 0 (by decide)).trans gm] at q179
                have g179 : gb mm (x102 + 1) = z179 % 256 := by unfold gb; rw [← q179]
                have s179 : sg mm (x102 + 1) = z179 := by unfold sg; rw [← q179]
                refine z_if_ge (tgt := 89) X.1 X.2.1 d_M_number_84 (by decide) ⟨by omega, by omega⟩ (fun h180 => ?_) (fun h180 => ?_)
                · refine lv_aload_n X.1 X.2.1 d_M_number_89 rfl (lv_at hl 2 rfl) ?_
                  refine m_get X Y 0 (by decide) lk_mem (gf_mem _ _ _) rfl d_M_number_90 ?_
                  refine lv_iload X.1 X.2.1 d_M_number_93 (lv_at hl 1 rfl) ?_
                  refine r_bald X Y S (aw_mem _ _ _ _ _ _ _) rfl (by omega) (show x102 < ((60000 : Nat) : Int) by omega) (by omega) d_M_number_95 (fun z181 q181 l181 u181 => ?_)
                  rw [(S.2.2 0 (by decide)).trans gm] at q181
                  have g181 : gb mm x102 = z181 % 256 := by unfold gb; rw [← q181]
                  have s181 : sg mm x102 = z181 := by unfold sg; rw [← q181]
                  refine lv_i2l X.1 X.2.1 d_M_number_96 rfl ?_
                  refine lv_lstore (lv' := [(9, .long ((iI z181).toInt64)), (8, .int (iI (a2 - x102))), (7, .int (iI x102)), (0, .ref h), (1, .int (iI a1)), (2, .int (iI a2)), (3, .long a3), (5, .long a4)]) X.1 X.2.1 d_M_number_97 hl (by decide) rfl (fun ls hl => ?_)
                  refine lv_iconst (v := iI 1) X.1 X.2.1 d_M_number_99 (by decide) ?_
                  have J186 : ∀ (n188 : Nat) (v182 : Int64) (z183 : Int) (H : Heap) (locs : List Loc) (ls : Array Slot), (5 - z183).toNat = n188 → (1 ≤ z183) → (z183 ≤ 5) → (v182 = vl mm x102 (z183 - 1).toNat) → (z183 ≤ a2 - x102) → mH D E (mA E h q sz) s.heap h q I101 J101 B101 G101 H locs → rS [39, 40] [] I B I101 B101 → lv_has ls 12 [(0, .ref h), (3, .long a3), (5, .long a4), (7, .int (iI x102)), (8, .int (iI (a2 - x102))), (9, .long v182), (11, .int (iI z183))] → W p l e (mR 3 110) s m AV below meth c H locs 0 0 QQ (F0 m 102 ls []) := by
                    intro n188
                    induction n188 using Nat.strongRecOn with
                    | ind n188 ih187 =>
                      intro v182 z183 H locs ls hm189 l183 u183 i184 i185 Y S hl
                      refine lv_iload X.1 X.2.1 d_M_number_102 (lv_at hl 6 rfl) ?_
                      refine lv_iload X.1 X.2.1 d_M_number_104 (lv_at hl 4 rfl) ?_
                      refine z_icmp_ge (tgt := 138) X.1 X.2.1 d_M_number_106 (by decide) ⟨by omega, by omega⟩ ⟨by omega, by omega⟩ (fun h190 => ?_) (fun h190 => ?_)
                      · have ev : v182 = vl mm x102 (a2 - x102 - 1).toNat := by rw [i184, show z183 = a2 - x102 by omega]
                        have ev : v182 = vl mm x102 (a2 - x102 - 1).toNat := by rw [i184, show z183 = a2 - x102 by omega]
                        refine lv_aload_n X.1 X.2.1 d_M_number_138 rfl (lv_at hl 0 rfl) ?_
                        refine lv_lload X.1 X.2.1 d_M_number_139 (lv_at hl 5 rfl) ?_
                        refine r_putl X Y (by decide) lk_value rfl rfl (t_M_ok 41 (by decide)) rfl rfl (sf_value _ _ _ _) (Nat.le_of_ble_eq_true rfl) d_M_number_141 (fun J191 H locs Y => ?_)
                        refine lv_lload X.1 X.2.1 d_M_number_144 (lv_at hl 5 rfl) ?_
                        refine lv_lload_n X.1 X.2.1 d_M_number_146 rfl (lv_at hl 1 rfl) ?_
                        refine z_lcmp X.1 X.2.1 d_M_number_147 (fun z192 l192 u192 x192 y192 => ?_)
                        refine z_if_lt (tgt := 163) X.1 X.2.1 d_M_number_148 (by decide) ⟨by omega, by omega⟩ (fun h193 => ?_) (fun h193 => ?_)
                        · refine lv_iconst (v := iI 0) X.1 X.2.1 d_M_number_163 (by decide) ?_
                          exact m_retz hQQ X Y hr hlk (iI_bool (by omega) (by omega)).1 ⟨S, 0, rfl, ⟨by omega, by omega, iff_f (fun h9 => by have h8 := h9.2.2.2.2; rw [← (show x102 = elI mm a1 a2 by omega), ← ev] at h8; omega), (show pG1 I101 from ⟨x102, y102, ex102, ey102, by omega, by omega, by omega, by omega⟩)⟩⟩ d_M_number_164
                        · refine lv_lload X.1 X.2.1 d_M_number_151 (lv_at hl 5 rfl) ?_
                          refine lv_lload X.1 X.2.1 d_M_number_153 (lv_at hl 2 rfl) ?_
                          refine z_lcmp X.1 X.2.1 d_M_number_155 (fun z194 l194 u194 x194 y194 => ?_)
                          refine z_if_gt (tgt := 163) X.1 X.2.1 d_M_number_156 (by decide) ⟨by omega, by omega⟩ (fun h195 => ?_) (fun h195 => ?_)
                          · refine lv_iconst (v := iI 0) X.1 X.2.1 d_M_number_163 (by decide) ?_
                            exact m_retz hQQ X Y hr hlk (iI_bool (by omega) (by omega)).1 ⟨S, 0, rfl, ⟨by omega, by omega, iff_f (fun h9 => by have h8 := h9.2.2.2.2; rw [← (show x102 = elI mm a1 a2 by omega), ← ev] at h8; omega), (show pG1 I101 from ⟨x102, y102, ex102, ey102, by omega, by omega, by omega, by omega⟩)⟩⟩ d_M_number_164
                          · refine lv_iconst (v := iI 1) X.1 X.2.1 d_M_number_159 (by decide) ?_
                            refine lv_goto (tgt := 164) X.1 X.2.1 d_M_number_160 (by decide) ?_
                            exact m_retz hQQ X Y hr hlk (iI_bool (by omega) (by omega)).1 ⟨S, 1, rfl, ⟨by omega, by omega, iff_t ⟨(x101.mp (by omega)), by omega, by omega, by rw [← (show x102 = elI mm a1 a2 by omega)]; omega, by rw [← (show x102 = elI mm a1 a2 by omega), ← ev]; omega, by rw [← (show x102 = elI mm a1 a2 by omega), ← ev]; omega⟩, (show pG1 I101 from ⟨x102, y102, ex102, ey102, by omega, by omega, by omega, by omega⟩)⟩⟩ d_M_number_164
                      · refine lv_lload X.1 X.2.1 d_M_number_109 (lv_at hl 5 rfl) ?_
                        refine lv_bipush (v := iI 8) X.1 X.2.1 d_M_number_111 (by decide) ?_
                        refine lv_lshl X.1 X.2.1 d_M_number_113 rfl ?_
                        refine lv_aload_n X.1 X.2.1 d_M_number_114 rfl (lv_at hl 0 rfl) ?_
                        refine m_get X Y 0 (by decide) lk_mem (gf_mem _ _ _) rfl d_M_number_115 ?_
                        refine lv_iload X.1 X.2.1 d_M_number_118 (lv_at hl 3 rfl) ?_
                        refine lv_iload X.1 X.2.1 d_M_number_120 (lv_at hl 6 rfl) ?_
                        refine z_iadd X.1 X.2.1 d_M_number_122 ?_
                        refine r_bald X Y S (aw_mem _ _ _ _ _ _ _) rfl (by omega) (show x102 + z183 < ((60000 : Nat) : Int) by omega) (by omega) d_M_number_123 (fun z196 q196 l196 u196 => ?_)
                        rw [(S.2.2 0 (by decide)).trans gm] at q196
                        have g196 : gb mm (x102 + z183) = z196 % 256 := by unfold gb; rw [← q196]
                        have s196 : sg mm (x102 + z183) = z196 := by unfold sg; rw [← q196]
                        refine lv_sipush (v := iI 255) X.1 X.2.1 d_M_number_124 (by decide) ?_
                        refine z_iand255 X.1 X.2.1 d_M_number_127 ?_
                        refine lv_i2l X.1 X.2.1 d_M_number_128 rfl ?_
                        refine lv_lor X.1 X.2.1 d_M_number_129 ?_
                        refine lv_lstore (lv' := [(9, .long (((v182 <<< ((iI 8).toInt64 &&& 63)) ||| (iI (z196 % 256)).toInt64))), (0, .ref h), (3, .long a3), (5, .long a4), (7, .int (iI x102)), (8, .int (iI (a2 - x102))), (11, .int (iI z183))]) X.1 X.2.1 d_M_number_130 hl (by decide) rfl (fun ls hl => ?_)
                        refine lv_iinc (v := iI (z183 + 1)) (lv' := [(11, .int (iI (z183 + 1))), (9, .long (((v182 <<< ((iI 8).toInt64 &&& 63)) ||| (iI (z196 % 256)).toInt64))), (0, .ref h), (3, .long a3), (5, .long a4), (7, .int (iI x102)), (8, .int (iI (a2 - x102)))]) X.1 X.2.1 d_M_number_132 hl (k := 6) rfl ((iI_add _ _).trans (congrArg iI (by omega))) (by decide) rfl (fun ls hl => ?_)
                        refine lv_goto (tgt := 102) X.1 X.2.1 d_M_number_135 (by decide) ?_
                        exact ih187 ((5 - (z183 + 1)).toNat) (by omega) (((v182 <<< ((iI 8).toInt64 &&& 63)) ||| (iI (z196 % 256)).toInt64)) (z183 + 1) _ _ _ rfl (by omega) (by omega) (vl_step (by omega) i184 q196) (by omega) Y S (lv_sub hl [2, 3, 4, 5, 6, 1, 0] rfl)
                  refine lv_istore (lv' := [(11, .int (iI 1)), (9, .long ((iI z181).toInt64)), (8, .int (iI (a2 - x102))), (7, .int (iI x102)), (0, .ref h), (1, .int (iI a1)), (2, .int (iI a2)), (3, .long a3), (5, .long a4)]) X.1 X.2.1 d_M_number_100 hl (by decide) rfl (fun ls hl => ?_)
                  exact J186 _ ((iI z181).toInt64) 1 _ _ _ rfl (by omega) (by omega) (by rw [show ((1 : Int) - 1).toNat = 0 from rfl]; show (iI z181).toInt64 = (iI (sg mm x102)).toInt64; rw [s181]) (by omega) Y S (lv_sub hl [4, 7, 8, 3, 2, 1, 0] rfl)
                · refine lv_iconst (v := iI 0) X.1 X.2.1 d_M_number_87 (by decide) ?_
                  exact m_retz hQQ X Y hr hlk (iI_bool (by omega) (by omega)).1 ⟨S, 0, rfl, ⟨by omega, by omega, iff_f (fun h9 => by have h8 := h9.2.1; have h7 := h9.2.2.1; have h6 := h9.2.2.2.1; rw [← (show x102 = elI mm a1 a2 by omega)] at h8 h7 h6; omega), (show pG1 I101 from ⟨x102, y102, ex102, ey102, by omega, by omega, by omega, by omega⟩)⟩⟩ d_M_number_88
  · refine lv_iconst (v := iI 0) X.1 X.2.1 d_M_number_10 (by decide) ?_
    exact m_retz hQQ X Y hr hlk (iI_bool (by omega) (by omega)).1 ⟨S, 0, rfl, ⟨by omega, by omega, iff_f (fun h9 => absurd (x101.mpr h9.1) (by omega)), (show pG1 I101 from ⟨x102, y102, ex102, ey102, by omega, by omega, by omega, by omega⟩)⟩⟩ d_M_number_11
set_option maxHeartbeats 4000000 in
set_option maxRecDepth 100000 in
theorem r_M_is_105 (l : Launch) (D : mD) (E : mE) (h : Nat) (q : Nat → Nat) (sz : Nat) (I : Nat → Int32) (J : Nat → Int64) (B : Nat → Nat → Int32) (G : Nat → Nat → Int64) (a2 : Int) (l_a2 : (-1) ≤ a2) (u_a2 : a2 ≤ 30000) (a3 : Int) (l_a3 : (-1) ≤ a3) (u_a3 : a3 ≤ 30000) (hT : rT I B) (r : Nat) (mm : Nat → Int32) (gm : B 0 = mm) (f_P1 : pG1 I) (q0 : 0 ≤ a2 ∨ a3 < a2 + 2) (q1 : a3 - a2 ≤ 4200) : Met l y_M_is (k_M_is :: lw_tg) (mR (10 + 6 * r) (400 + 300 * r)) (va_Pc [.ref h, .int (iI 105), .int (iI a2), .int (iI a3)] (mPre D E h q (I, J, B, G) sz)) (va_Qi (rPi [39, 40] [] I B (fun (z : Int) (u : mS) => 0 ≤ z ∧ z ≤ 1 ∧ (z = 1 ↔ isF mm r 105 a2 a3) ∧ pG1 u.1)) (mPost D E h q (mA E h q sz)) (mA E h q sz)) 0 0 (mA E h q sz) := by
  refine m_enter (by decide) rfl (Nat.le_of_ble_eq_true rfl) (fun p e s m below meth c ls AV QQ H locs hQQ X Y hZ hA hr hlk hml hl => ?_)
  have Y : mH D E (mA E h q sz) s.heap h q I J B G H locs := Y
  have S : rS [39, 40] [] I B I B := rS_rf hT
  have hl : lv_has ls 6 [(0, .ref h), (1, .int (iI 105)), (2, .int (iI a2)), (3, .int (iI a3))] := hl
  refine lv_iload_n X.1 X.2.1 d_M_is_0 rfl (lv_at hl 1 rfl) ?_
  refine lv_tableIn (off := 227) (tgt := 228) X.1 X.2.1 d_M_is_1 (by decide) (by decide) (by decide) (by decide) ?_
  refine lv_aload_n X.1 X.2.1 d_M_is_228 rfl (lv_at hl 0 rfl) ?_
  refine lv_iload_n X.1 X.2.1 d_M_is_229 rfl (lv_at hl 2 rfl) ?_
  refine lv_iload_n X.1 X.2.1 d_M_is_230 rfl (lv_at hl 3 rfl) ?_
  refine lv_ldc2 (v := (-2147483648)) X.1 X.2.1 X.2.2.2.1 (X.2.2.1 _ cl_M_495) d_M_is_231 ?_
  refine lv_ldc2 (v := (2147483647)) X.1 X.2.1 X.2.2.2.1 (X.2.2.1 _ cl_M_497) d_M_is_234 ?_
  refine r_ni (m_run (As := [.int (iI a2), .int (iI a3), .long ((-2147483648)), .long ((2147483647))]) (rest := []) (n := 4) X Y hZ hA hml hl.1 (r_M_number l D E h q H.size I J B G a2 (by omega) (by omega) a3 (by omega) (by omega) ((-2147483648)) ((2147483647)) S.1 mm gm f_P1 (by omega) (by omega)) kl_M_number ks_M_number kx_M_number ki_M_number ini_M hd_M_number ⟨by simp only [mR]; omega, by simp only [mR]; omega⟩ rfl (Nat.le_of_ble_eq_true rfl) d_M_is_237 ⟨Nat.le_refl _, Nat.le_refl _⟩) X Y hA S (by decide) (by decide) (fun z101 u H locs Y S s101 p101 => ?_)
  obtain ⟨I101, J101, B101, G101⟩ := u
  dsimp only at Y S s101 p101
  obtain ⟨l101, u101, x101, g101_P1⟩ := p101
  exact m_retz hQQ X Y hr hlk (iI_bool (by omega) (by omega)).1 ⟨S, z101, rfl, ⟨by omega, by omega, iff_eq (is_105 r) x101, g101_P1⟩⟩ d_M_is_240
set_option maxHeartbeats 4000000 in
set_option maxRecDepth 100000 in
theorem r_M_is_117 (l : Launch) (D : mD) (E : mE) (h : Nat) (q : Nat → Nat) (sz : Nat) (I : Nat → Int32) (J : Nat → Int64) (B : Nat → Nat → Int32) (G : Nat → Nat → Int64) (a2 : Int) (l_a2 : (-1) ≤ a2) (u_a2 : a2 ≤ 30000) (a3 : Int) (l_a3 : (-1) ≤ a3) (u_a3 : a3 ≤ 30000) (hT : rT I B) (r : Nat) (mm : Nat → Int32) (gm : B 0 = mm) (f_P1 : pG1 I) (q0 : 0 ≤ a2 ∨ a3 < a2 + 2) (q1 : a3 - a2 ≤ 4200) : Met l y_M_is (k_M_is :: lw_tg) (mR (10 + 6 * r) (400 + 300 * r)) (va_Pc [.ref h, .int (iI 117), .int (iI a2), .int (iI a3)] (mPre D E h q (I, J, B, G) sz)) (va_Qi (rPi [39, 40] [] I B (fun (z : Int) (u : mS) => 0 ≤ z ∧ z ≤ 1 ∧ (z = 1 ↔ isF mm r 117 a2 a3) ∧ pG1 u.1)) (mPost D E h q (mA E h q sz)) (mA E h q sz)) 0 0 (mA E h q sz) := by
  refine m_enter (by decide) rfl (Nat.le_of_ble_eq_true rfl) (fun p e s m below meth c ls AV QQ H locs hQQ X Y hZ hA hr hlk hml hl => ?_)
  have Y : mH D E (mA E h q sz) s.heap h q I J B G H locs := Y
  have S : rS [39, 40] [] I B I B := rS_rf hT
  have hl : lv_has ls 6 [(0, .ref h), (1, .int (iI 117)), (2, .int (iI a2)), (3, .int (iI a3))] := hl
  refine lv_iload_n X.1 X.2.1 d_M_is_0 rfl (lv_at hl 1 rfl) ?_
  refine lv_tableIn (off := 240) (tgt := 241) X.1 X.2.1 d_M_is_1 (by decide) (by decide) (by decide) (by decide) ?_
  refine lv_aload_n X.1 X.2.1 d_M_is_241 rfl (lv_at hl 0 rfl) ?_
  refine lv_iload_n X.1 X.2.1 d_M_is_242 rfl (lv_at hl 2 rfl) ?_
  refine lv_iload_n X.1 X.2.1 d_M_is_243 rfl (lv_at hl 3 rfl) ?_
  refine lv_lconst (v := 0) X.1 X.2.1 d_M_is_244 rfl ?_
  refine lv_ldc2 (v := (4294967295)) X.1 X.2.1 X.2.2.2.1 (X.2.2.1 _ cl_M_503) d_M_is_245 ?_
  refine r_ni (m_run (As := [.int (iI a2), .int (iI a3), .long 0, .long ((4294967295))]) (rest := []) (n := 4) X Y hZ hA hml hl.1 (r_M_number l D E h q H.size I J B G a2 (by omega) (by omega) a3 (by omega) (by omega) 0 ((4294967295)) S.1 mm gm f_P1 (by omega) (by omega)) kl_M_number ks_M_number kx_M_number ki_M_number ini_M hd_M_number ⟨by simp only [mR]; omega, by simp only [mR]; omega⟩ rfl (Nat.le_of_ble_eq_true rfl) d_M_is_248 ⟨Nat.le_refl _, Nat.le_refl _⟩) X Y hA S (by decide) (by decide) (fun z101 u H locs Y S s101 p101 => ?_)
  obtain ⟨I101, J101, B101, G101⟩ := u
  dsimp only at Y S s101 p101
  obtain ⟨l101, u101, x101, g101_P1⟩ := p101
  exact m_retz hQQ X Y hr hlk (iI_bool (by omega) (by omega)).1 ⟨S, z101, rfl, ⟨by omega, by omega, iff_eq (is_117 r) x101, g101_P1⟩⟩ d_M_is_251
set_option maxHeartbeats 4000000 in
set_option maxRecDepth 100000 in
theorem r_M_is_109 (l : Launch) (D : mD) (E : mE) (h : Nat) (q : Nat → Nat) (sz : Nat) (I : Nat → Int32) (J : Nat → Int64) (B : Nat → Nat → Int32) (G : Nat → Nat → Int64) (a2 : Int) (l_a2 : (-1) ≤ a2) (u_a2 : a2 ≤ 30000) (a3 : Int) (l_a3 : (-1) ≤ a3) (u_a3 : a3 ≤ 30000) (hT : rT I B) (r : Nat) (mm : Nat → Int32) (gm : B 0 = mm) (f_P1 : pG1 I) (q0 : 0 ≤ a2 ∨ a3 < a2 + 2) (q1 : a3 - a2 ≤ 4200) : Met l y_M_is (k_M_is :: lw_tg) (mR (10 + 6 * r) (400 + 300 * r)) (va_Pc [.ref h, .int (iI 109), .int (iI a2), .int (iI a3)] (mPre D E h q (I, J, B, G) sz)) (va_Qi (rPi [39, 40] [] I B (fun (z : Int) (u : mS) => 0 ≤ z ∧ z ≤ 1 ∧ (z = 1 ↔ isF mm r 109 a2 a3) ∧ pG1 u.1)) (mPost D E h q (mA E h q sz)) (mA E h q sz)) 0 0 (mA E h q sz) := by
  refine m_enter (by decide) rfl (Nat.le_of_ble_eq_true rfl) (fun p e s m below meth c ls AV QQ H locs hQQ X Y hZ hA hr hlk hml hl => ?_)
  have Y : mH D E (mA E h q sz) s.heap h q I J B G H locs := Y
  have S : rS [39, 40] [] I B I B := rS_rf hT
  have hl : lv_has ls 6 [(0, .ref h), (1, .int (iI 109)), (2, .int (iI a2)), (3, .int (iI a3))] := hl
  refine lv_iload_n X.1 X.2.1 d_M_is_0 rfl (lv_at hl 1 rfl) ?_
  refine lv_tableIn (off := 251) (tgt := 252) X.1 X.2.1 d_M_is_1 (by decide) (by decide) (by decide) (by decide) ?_
  refine lv_aload_n X.1 X.2.1 d_M_is_252 rfl (lv_at hl 0 rfl) ?_
  refine lv_iload_n X.1 X.2.1 d_M_is_253 rfl (lv_at hl 2 rfl) ?_
  refine lv_iload_n X.1 X.2.1 d_M_is_254 rfl (lv_at hl 3 rfl) ?_
  refine lv_lconst (v := 0) X.1 X.2.1 d_M_is_255 rfl ?_
  refine lv_ldc2 (v := (999999)) X.1 X.2.1 X.2.2.2.1 (X.2.2.1 _ cl_M_505) d_M_is_256 ?_
  refine r_ni (m_run (As := [.int (iI a2), .int (iI a3), .long 0, .long ((999999))]) (rest := []) (n := 4) X Y hZ hA hml hl.1 (r_M_number l D E h q H.size I J B G a2 (by omega) (by omega) a3 (by omega) (by omega) 0 ((999999)) S.1 mm gm f_P1 (by omega) (by omega)) kl_M_number ks_M_number kx_M_number ki_M_number ini_M hd_M_number ⟨by simp only [mR]; omega, by simp only [mR]; omega⟩ rfl (Nat.le_of_ble_eq_true rfl) d_M_is_259 ⟨Nat.le_refl _, Nat.le_refl _⟩) X Y hA S (by decide) (by decide) (fun z101 u H locs Y S s101 p101 => ?_)
  obtain ⟨I101, J101, B101, G101⟩ := u
  dsimp only at Y S s101 p101
  obtain ⟨l101, u101, x101, g101_P1⟩ := p101
  exact m_retz hQQ X Y hr hlk (iI_bool (by omega) (by omega)).1 ⟨S, z101, rfl, ⟨by omega, by omega, iff_eq (is_109 r) x101, g101_P1⟩⟩ d_M_is_262
set_option maxHeartbeats 4000000 in
set_option maxRecDepth 100000 in
theorem r_M_is_111 (l : Launch) (D : mD) (E : mE) (h : Nat) (q : Nat → Nat) (sz : Nat) (I : Nat → Int32) (J : Nat → Int64) (B : Nat → Nat → Int32) (G : Nat → Nat → Int64) (a2 : Int) (l_a2 : (-1) ≤ a2) (u_a2 : a2 ≤ 30000) (a3 : Int) (l_a3 : (-1) ≤ a3) (u_a3 : a3 ≤ 30000) (hT : rT I B) (r : Nat) (mm : Nat → Int32) (gm : B 0 = mm) (f_P1 : pG1 I) (q0 : 0 ≤ a2 ∨ a3 < a2 + 2) (q1 : a3 - a2 ≤ 4200) : Met l y_M_is (k_M_is :: lw_tg) (mR (10 + 6 * r) (400 + 300 * r)) (va_Pc [.ref h, .int (iI 111), .int (iI a2), .int (iI a3)] (mPre D E h q (I, J, B, G) sz)) (va_Qi (rPi [39, 40] [] I B (fun (z : Int) (u : mS) => 0 ≤ z ∧ z ≤ 1 ∧ (z = 1 ↔ isF mm r 111 a2 a3) ∧ pG1 u.1)) (mPost D E h q (mA E h q sz)) (mA E h q sz)) 0 0 (mA E h q sz) := by
  refine m_enter (by decide) rfl (Nat.le_of_ble_eq_true rfl) (fun p e s m below meth c ls AV QQ H locs hQQ X Y hZ hA hr hlk hml hl => ?_)
  have Y : mH D E (mA E h q sz) s.heap h q I J B G H locs := Y
  have S : rS [39, 40] [] I B I B := rS_rf hT
  have hl : lv_has ls 6 [(0, .ref h), (1, .int (iI 111)), (2, .int (iI a2)), (3, .int (iI a3))] := hl
  refine lv_iload_n X.1 X.2.1 d_M_is_0 rfl (lv_at hl 1 rfl) ?_
  refine lv_tableIn (off := 262) (tgt := 263) X.1 X.2.1 d_M_is_1 (by decide) (by decide) (by decide) (by decide) ?_
  refine lv_aload_n X.1 X.2.1 d_M_is_263 rfl (lv_at hl 0 rfl) ?_
  refine lv_iload_n X.1 X.2.1 d_M_is_264 rfl (lv_at hl 2 rfl) ?_
  refine lv_iload_n X.1 X.2.1 d_M_is_265 rfl (lv_at hl 3 rfl) ?_
  refine lv_iconst (v := iI 4) X.1 X.2.1 d_M_is_266 (by decide) ?_
  refine r_ni (m_run (As := [.int (iI a2), .int (iI a3), .int (iI 4)]) (rest := []) (n := 3) X Y hZ hA hml hl.1 (r_M_whole l D E h q H.size I J B G a2 (by omega) (by omega) a3 (by omega) (by omega) 4 (by omega) (by omega) S.1 mm gm f_P1 (by omega) (by omega)) kl_M_whole ks_M_whole kx_M_whole ki_M_whole ini_M hd_M_whole ⟨by simp only [mR]; omega, by simp only [mR]; omega⟩ rfl (Nat.le_of_ble_eq_true rfl) d_M_is_267 ⟨Nat.le_refl _, Nat.le_refl _⟩) X Y hA S (by decide) (by decide) (fun z101 u H locs Y S s101 p101 => ?_)
  obtain ⟨I101, J101, B101, G101⟩ := u
  dsimp only at Y S s101 p101
  obtain ⟨l101, u101, x101, st101⟩ := p101
  obtain ⟨x102, y102, ex102, ey102, lx102, ly102, uy102, dy102, iy102⟩ := st101
  exact m_retz hQQ X Y hr hlk (iI_bool (by omega) (by omega)).1 ⟨S, z101, rfl, ⟨by omega, by omega, iff_eq (is_111 r) x101, (show pG1 I101 from ⟨x102, y102, ex102, ey102, by omega, by omega, by omega, by omega⟩)⟩⟩ d_M_is_270
set_option maxHeartbeats 4000000 in
set_option maxRecDepth 100000 in
theorem r_M_is_115 (l : Launch) (D : mD) (E : mE) (h : Nat) (q : Nat → Nat) (sz : Nat) (I : Nat → Int32) (J : Nat → Int64) (B : Nat → Nat → Int32) (G : Nat → Nat → Int64) (a2 : Int) (l_a2 : (-1) ≤ a2) (u_a2 : a2 ≤ 30000) (a3 : Int) (l_a3 : (-1) ≤ a3) (u_a3 : a3 ≤ 30000) (hT : rT I B) (r : Nat) (mm : Nat → Int32) (gm : B 0 = mm) (f_P1 : pG1 I) (q0 : 0 ≤ a2 ∨ a3 < a2 + 2) (q1 : a3 - a2 ≤ 4200) : Met l y_M_is (k_M_is :: lw_tg) (mR (10 + 6 * r) (400 + 300 * r)) (va_Pc [.ref h, .int (iI 115), .int (iI a2), .int (iI a3)] (mPre D E h q (I, J, B, G) sz)) (va_Qi (rPi [39, 40] [] I B (fun (z : Int) (u : mS) => 0 ≤ z ∧ z ≤ 1 ∧ (z = 1 ↔ isF mm r 115 a2 a3) ∧ pG1 u.1)) (mPost D E h q (mA E h q sz)) (mA E h q sz)) 0 0 (mA E h q sz) := by
  refine m_enter (by decide) rfl (Nat.le_of_ble_eq_true rfl) (fun p e s m below meth c ls AV QQ H locs hQQ X Y hZ hA hr hlk hml hl => ?_)
  have Y : mH D E (mA E h q sz) s.heap h q I J B G H locs := Y
  have S : rS [39, 40] [] I B I B := rS_rf hT
  have hl : lv_has ls 6 [(0, .ref h), (1, .int (iI 115)), (2, .int (iI a2)), (3, .int (iI a3))] := hl
  refine lv_iload_n X.1 X.2.1 d_M_is_0 rfl (lv_at hl 1 rfl) ?_
  refine lv_tableIn (off := 270) (tgt := 271) X.1 X.2.1 d_M_is_1 (by decide) (by decide) (by decide) (by decide) ?_
  refine lv_aload_n X.1 X.2.1 d_M_is_271 rfl (lv_at hl 0 rfl) ?_
  refine lv_iload_n X.1 X.2.1 d_M_is_272 rfl (lv_at hl 2 rfl) ?_
  refine lv_iload_n X.1 X.2.1 d_M_is_273 rfl (lv_at hl 3 rfl) ?_
  refine lv_bipush (v := iI 27) X.1 X.2.1 d_M_is_274 (by decide) ?_
  refine r_ni (m_run (As := [.int (iI a2), .int (iI a3), .int (iI 27)]) (rest := []) (n := 3) X Y hZ hA hml hl.1 (r_M_whole l D E h q H.size I J B G a2 (by omega) (by omega) a3 (by omega) (by omega) 27 (by omega) (by omega) S.1 mm gm f_P1 (by omega) (by omega)) kl_M_whole ks_M_whole kx_M_whole ki_M_whole ini_M hd_M_whole ⟨by simp only [mR]; omega, by simp only [mR]; omega⟩ rfl (Nat.le_of_ble_eq_true rfl) d_M_is_276 ⟨Nat.le_refl _, Nat.le_refl _⟩) X Y hA S (by decide) (by decide) (fun z101 u H locs Y S s101 p101 => ?_)
  obtain ⟨I101, J101, B101, G101⟩ := u
  dsimp only at Y S s101 p101
  obtain ⟨l101, u101, x101, st101⟩ := p101
  obtain ⟨x102, y102, ex102, ey102, lx102, ly102, uy102, dy102, iy102⟩ := st101
  refine lv_istore (lv' := [(4, .int (iI z101)), (0, .ref h), (1, .int (iI 115)), (2, .int (iI a2)), (3, .int (iI a3))]) X.1 X.2.1 d_M_is_279 hl (by decide) rfl (fun ls hl => ?_)
  refine lv_aload_n X.1 X.2.1 d_M_is_281 rfl (lv_at hl 1 rfl) ?_
  refine r_get0 X Y (by decide) lk_inside (gf_inside _ _ _) rfl ex102 d_M_is_282 ?_
  have J107 : ∀ (n109 : Nat) (z103 : Int) (z104 : Int) (H : Heap) (locs : List Loc) (ls : Array Slot), (30000 - z104).toNat = n109 → (0 ≤ z103) → (z103 ≤ 1) → (0 ≤ z104) → (z104 ≤ 30000) → (stI mm a2 a3 z104 z103) → (z103 = 0 ∨ a2 + 2 ≤ z104) → mH D E (mA E h q sz) s.heap h q I101 J101 B101 G101 H locs → rS [39, 40] [] I B I101 B101 → lv_has ls 6 [(0, .ref h), (3, .int (iI a3)), (4, .int (iI z103)), (5, .int (iI z104))] → W p l e (mR (10 + 6 * r) (400 + 300 * r)) s m AV below meth c H locs 0 0 QQ (F0 m 287 ls []) := by
    intro n109
    induction n109 using Nat.strongRecOn with
    | ind n109 ih108 =>
      intro z103 z104 H locs ls hm110 l103 u103 l104 u104 i105 i106 Y S hl
      refine lv_iload X.1 X.2.1 d_M_is_287 (lv_at hl 3 rfl) ?_
      refine lv_iload_n X.1 X.2.1 d_M_is_289 rfl (lv_at hl 1 rfl) ?_
      refine z_icmp_ge (tgt := 335) X.1 X.2.1 d_M_is_290 (by decide) ⟨by omega, by omega⟩ ⟨by omega, by omega⟩ (fun h111 => ?_) (fun h111 => ?_)
      · refine lv_iload X.1 X.2.1 d_M_is_335 (lv_at hl 2 rfl) ?_
        exact m_retz hQQ X Y hr hlk (iI_bool (by omega) (by omega)).1 ⟨S, z103, rfl, ⟨by omega, by omega, iff_eq (is_115 r) (stI_end i105 (by omega) ⟨by omega, by omega⟩), (show pG1 I101 from ⟨x102, y102, ex102, ey102, by omega, by omega, by omega, by omega⟩)⟩⟩ d_M_is_337
      · refine lv_iload X.1 X.2.1 d_M_is_293 (lv_at hl 2 rfl) ?_
        refine z_if_eq (tgt := 335) X.1 X.2.1 d_M_is_295 (by decide) ⟨by omega, by omega⟩ (fun h112 => ?_) (fun h112 => ?_)
        · refine lv_iload X.1 X.2.1 d_M_is_335 (lv_at hl 2 rfl) ?_
          exact m_retz hQQ X Y hr hlk (iI_bool (by omega) (by omega)).1 ⟨S, z103, rfl, ⟨by omega, by omega, iff_eq (is_115 r) (stI_end i105 (by omega) ⟨by omega, by omega⟩), (show pG1 I101 from ⟨x102, y102, ex102, ey102, by omega, by omega, by omega, by omega⟩)⟩⟩ d_M_is_337
        · refine lv_aload_n X.1 X.2.1 d_M_is_298 rfl (lv_at hl 0 rfl) ?_
          refine m_get X Y 0 (by decide) lk_mem (gf_mem _ _ _) rfl d_M_is_299 ?_
          refine lv_iload X.1 X.2.1 d_M_is_302 (lv_at hl 3 rfl) ?_
          refine r_bald X Y S (aw_mem _ _ _ _ _ _ _) rfl (by omega) (show z104 < ((60000 : Nat) : Int) by omega) (by omega) d_M_is_304 (fun z113 q113 l113 u113 => ?_)
          rw [(S.2.2 0 (by decide)).trans gm] at q113
          have g113 : gb mm z104 = z113 % 256 := by unfold gb; rw [← q113]
          have s113 : sg mm z104 = z113 := by unfold sg; rw [← q113]
          refine lv_bipush (v := iI 32) X.1 X.2.1 d_M_is_305 (by decide) ?_
          refine z_icmp_lt (tgt := 326) X.1 X.2.1 d_M_is_307 (by decide) ⟨by omega, by omega⟩ ⟨by omega, by omega⟩ (fun h114 => ?_) (fun h114 => ?_)
          · refine lv_iconst (v := iI 0) X.1 X.2.1 d_M_is_326 (by decide) ?_
            refine lv_istore (lv' := [(4, .int (iI 0)), (0, .ref h), (3, .int (iI a3)), (5, .int (iI z104))]) X.1 X.2.1 d_M_is_327 hl (by decide) rfl (fun ls hl => ?_)
            refine lv_iinc (v := iI (z104 + 1)) (lv' := [(5, .int (iI (z104 + 1))), (4, .int (iI 0)), (0, .ref h), (3, .int (iI a3))]) X.1 X.2.1 d_M_is_329 hl (k := 3) rfl ((iI_add _ _).trans (congrArg iI (by omega))) (by decide) rfl (fun ls hl => ?_)
            refine lv_goto (tgt := 287) X.1 X.2.1 d_M_is_332 (by decide) ?_
            exact ih108 ((30000 - (z104 + 1)).toNat) (by omega) 0 (z104 + 1) _ _ _ rfl (by omega) (by omega) (by omega) (by omega) (stI_no (show z103 = 1 by omega) i105 (by omega) q113 (by omega)) (by omega) Y S (lv_sub hl [2, 3, 1, 0] rfl)
          · refine lv_aload_n X.1 X.2.1 d_M_is_310 rfl (lv_at hl 0 rfl) ?_
            refine m_get X Y 0 (by decide) lk_mem (gf_mem _ _ _) rfl d_M_is_311 ?_
            refine lv_iload X.1 X.2.1 d_M_is_314 (lv_at hl 3 rfl) ?_
            refine r_bald X Y S (aw_mem _ _ _ _ _ _ _) rfl (by omega) (show z104 < ((60000 : Nat) : Int) by omega) (by omega) d_M_is_316 (fun z115 q115 l115 u115 => ?_)
            rw [(S.2.2 0 (by decide)).trans gm] at q115
            have g115 : gb mm z104 = z115 % 256 := by unfold gb; rw [← q115]
            have s115 : sg mm z104 = z115 := by unfold sg; rw [← q115]
            refine lv_bipush (v := iI 126) X.1 X.2.1 d_M_is_317 (by decide) ?_
            refine z_icmp_gt (tgt := 326) X.1 X.2.1 d_M_is_319 (by decide) ⟨by omega, by omega⟩ ⟨by omega, by omega⟩ (fun h116 => ?_) (fun h116 => ?_)
            · refine lv_iconst (v := iI 0) X.1 X.2.1 d_M_is_326 (by decide) ?_
              refine lv_istore (lv' := [(4, .int (iI 0)), (0, .ref h), (3, .int (iI a3)), (5, .int (iI z104))]) X.1 X.2.1 d_M_is_327 hl (by decide) rfl (fun ls hl => ?_)
              refine lv_iinc (v := iI (z104 + 1)) (lv' := [(5, .int (iI (z104 + 1))), (4, .int (iI 0)), (0, .ref h), (3, .int (iI a3))]) X.1 X.2.1 d_M_is_329 hl (k := 3) rfl ((iI_add _ _).trans (congrArg iI (by omega))) (by decide) rfl (fun ls hl => ?_)
              refine lv_goto (tgt := 287) X.1 X.2.1 d_M_is_332 (by decide) ?_
              exact ih108 ((30000 - (z104 + 1)).toNat) (by omega) 0 (z104 + 1) _ _ _ rfl (by omega) (by omega) (by omega) (by omega) (stI_no (show z103 = 1 by omega) i105 (by omega) q115 (by omega)) (by omega) Y S (lv_sub hl [2, 3, 1, 0] rfl)
            · refine lv_iconst (v := iI 1) X.1 X.2.1 d_M_is_322 (by decide) ?_
              refine lv_goto (tgt := 327) X.1 X.2.1 d_M_is_323 (by decide) ?_
              refine lv_istore (lv' := [(4, .int (iI 1)), (0, .ref h), (3, .int (iI a3)), (5, .int (iI z104))]) X.1 X.2.1 d_M_is_327 hl (by decide) rfl (fun ls hl => ?_)
              refine lv_iinc (v := iI (z104 + 1)) (lv' := [(5, .int (iI (z104 + 1))), (4, .int (iI 1)), (0, .ref h), (3, .int (iI a3))]) X.1 X.2.1 d_M_is_329 hl (k := 3) rfl ((iI_add _ _).trans (congrArg iI (by omega))) (by decide) rfl (fun ls hl => ?_)
              refine lv_goto (tgt := 287) X.1 X.2.1 d_M_is_332 (by decide) ?_
              exact ih108 ((30000 - (z104 + 1)).toNat) (by omega) 1 (z104 + 1) _ _ _ rfl (by omega) (by omega) (by omega) (by omega) (stI_go (show z103 = 1 by omega) i105 (by omega) q115 (by omega) (by omega)) (by omega) Y S (lv_sub hl [2, 3, 1, 0] rfl)
  refine lv_istore (lv' := [(5, .int (iI x102)), (4, .int (iI z101)), (0, .ref h), (1, .int (iI 115)), (2, .int (iI a2)), (3, .int (iI a3))]) X.1 X.2.1 d_M_is_285 hl (by decide) rfl (fun ls hl => ?_)
  exact J107 _ z101 x102 _ _ _ rfl (by omega) (by omega) (by omega) (by omega) (by rcases (show z101 = 1 ∨ z101 = 0 by omega) with e | e; (rw [e]; exact .inl ⟨rfl, x101.mp e, by omega, by omega, fun j h8 h9 => by omega⟩); (rw [e]; exact .inr ⟨rfl, fun h8 => by have h9 := x101.mpr h8.1; omega⟩)) (by omega) Y S (lv_sub hl [2, 5, 1, 0] rfl)
set_option maxHeartbeats 4000000 in
set_option maxRecDepth 100000 in
theorem r_M_is_116 (l : Launch) (D : mD) (E : mE) (h : Nat) (q : Nat → Nat) (sz : Nat) (I : Nat → Int32) (J : Nat → Int64) (B : Nat → Nat → Int32) (G : Nat → Nat → Int64) (a2 : Int) (l_a2 : (-1) ≤ a2) (u_a2 : a2 ≤ 30000) (a3 : Int) (l_a3 : (-1) ≤ a3) (u_a3 : a3 ≤ 30000) (hT : rT I B) (r : Nat) (mm : Nat → Int32) (gm : B 0 = mm) (f_P1 : pG1 I) (q0 : 0 ≤ a2 ∨ a3 < a2 + 2) (q1 : a3 - a2 ≤ 4200) : Met l y_M_is (k_M_is :: lw_tg) (mR (10 + 6 * r) (400 + 300 * r)) (va_Pc [.ref h, .int (iI 116), .int (iI a2), .int (iI a3)] (mPre D E h q (I, J, B, G) sz)) (va_Qi (rPi [39, 40] [] I B (fun (z : Int) (u : mS) => 0 ≤ z ∧ z ≤ 1 ∧ (z = 1 ↔ isF mm r 116 a2 a3) ∧ pG1 u.1)) (mPost D E h q (mA E h q sz)) (mA E h q sz)) 0 0 (mA E h q sz) := by
  refine m_enter (by decide) rfl (Nat.le_of_ble_eq_true rfl) (fun p e s m below meth c ls AV QQ H locs hQQ X Y hZ hA hr hlk hml hl => ?_)
  have Y : mH D E (mA E h q sz) s.heap h q I J B G H locs := Y
  have S : rS [39, 40] [] I B I B := rS_rf hT
  have hl : lv_has ls 6 [(0, .ref h), (1, .int (iI 116)), (2, .int (iI a2)), (3, .int (iI a3))] := hl
  refine lv_iload_n X.1 X.2.1 d_M_is_0 rfl (lv_at hl 1 rfl) ?_
  refine lv_tableIn (off := 337) (tgt := 338) X.1 X.2.1 d_M_is_1 (by decide) (by decide) (by decide) (by decide) ?_
  refine lv_aload_n X.1 X.2.1 d_M_is_338 rfl (lv_at hl 0 rfl) ?_
  refine lv_iload_n X.1 X.2.1 d_M_is_339 rfl (lv_at hl 2 rfl) ?_
  refine lv_iload_n X.1 X.2.1 d_M_is_340 rfl (lv_at hl 3 rfl) ?_
  refine lv_bipush (v := iI 24) X.1 X.2.1 d_M_is_341 (by decide) ?_
  refine r_ni (m_run (As := [.int (iI a2), .int (iI a3), .int (iI 24)]) (rest := []) (n := 3) X Y hZ hA hml hl.1 (r_M_whole l D E h q H.size I J B G a2 (by omega) (by omega) a3 (by omega) (by omega) 24 (by omega) (by omega) S.1 mm gm f_P1 (by omega) (by omega)) kl_M_whole ks_M_whole kx_M_whole ki_M_whole ini_M hd_M_whole ⟨by simp only [mR]; omega, by simp only [mR]; omega⟩ rfl (Nat.le_of_ble_eq_true rfl) d_M_is_343 ⟨Nat.le_refl _, Nat.le_refl _⟩) X Y hA S (by decide) (by decide) (fun z101 u H locs Y S s101 p101 => ?_)
  obtain ⟨I101, J101, B101, G101⟩ := u
  dsimp only at Y S s101 p101
  obtain ⟨l101, u101, x101, st101⟩ := p101
  obtain ⟨x102, y102, ex102, ey102, lx102, ly102, uy102, dy102, iy102⟩ := st101
  refine z_if_eq (tgt := 377) X.1 X.2.1 d_M_is_346 (by decide) ⟨by omega, by omega⟩ (fun h103 => ?_) (fun h103 => ?_)
  · refine lv_iconst (v := iI 0) X.1 X.2.1 d_M_is_377 (by decide) ?_
    exact m_retz hQQ X Y hr hlk (iI_bool (by omega) (by omega)).1 ⟨S, 0, rfl, ⟨by omega, by omega, iff_eq (is_116 r) (iff_f (fun h9 => by have h8 := x101.mpr h9.1; have h7 := h9.2.1; omega)), (show pG1 I101 from ⟨x102, y102, ex102, ey102, by omega, by omega, by omega, by omega⟩)⟩⟩ d_M_is_378
  · refine lv_iload_n X.1 X.2.1 d_M_is_349 rfl (lv_at hl 3 rfl) ?_
    refine lv_aload_n X.1 X.2.1 d_M_is_350 rfl (lv_at hl 0 rfl) ?_
    refine r_get0 X Y (by decide) lk_inside (gf_inside _ _ _) rfl ex102 d_M_is_351 ?_
    refine z_isub X.1 X.2.1 d_M_is_354 ?_
    refine lv_bipush (v := iI 15) X.1 X.2.1 d_M_is_355 (by decide) ?_
    refine z_icmp_ne (tgt := 377) X.1 X.2.1 d_M_is_357 (by decide) ⟨by omega, by omega⟩ ⟨by omega, by omega⟩ (fun h104 => ?_) (fun h104 => ?_)
    · refine lv_iconst (v := iI 0) X.1 X.2.1 d_M_is_377 (by decide) ?_
      exact m_retz hQQ X Y hr hlk (iI_bool (by omega) (by omega)).1 ⟨S, 0, rfl, ⟨by omega, by omega, iff_eq (is_116 r) (iff_f (fun h9 => by have h8 := x101.mpr h9.1; have h7 := h9.2.1; omega)), (show pG1 I101 from ⟨x102, y102, ex102, ey102, by omega, by omega, by omega, by omega⟩)⟩⟩ d_M_is_378
    · refine lv_aload_n X.1 X.2.1 d_M_is_360 rfl (lv_at hl 0 rfl) ?_
      refine lv_aload_n X.1 X.2.1 d_M_is_361 rfl (lv_at hl 0 rfl) ?_
      refine r_get0 X Y (by decide) lk_inside (gf_inside _ _ _) rfl ex102 d_M_is_362 ?_
      refine r_nl (m_run (As := [.int (iI x102)]) (rest := []) (n := 1) X Y hZ hA hml hl.1 (r_M_timeAt l D E h q H.size I101 J101 B101 G101 x102 (by omega) (by omega) S.1 mm ((S.2.2 0 (by decide)).trans gm)) kl_M_timeAt ks_M_timeAt kx_M_timeAt ki_M_timeAt ini_M hd_M_timeAt ⟨by simp only [mR]; omega, by simp only [mR]; omega⟩ rfl (Nat.le_of_ble_eq_true rfl) d_M_is_365 ⟨Nat.le_refl _, Nat.le_refl _⟩) X Y hA S (by decide) (by decide) (fun v105 u H locs Y S s105 p105 => ?_)
      obtain ⟨I105, J105, B105, G105⟩ := u
      dsimp only at Y S s105 p105
      have x105 := p105
      refine lv_lconst (v := 0) X.1 X.2.1 d_M_is_368 rfl ?_
      refine z_lcmp X.1 X.2.1 d_M_is_369 (fun z106 l106 u106 x106 y106 => ?_)
      have c106 : (0 : Int64).toInt = 0 := by decide
      refine z_if_lt (tgt := 377) X.1 X.2.1 d_M_is_370 (by decide) ⟨by omega, by omega⟩ (fun h107 => ?_) (fun h107 => ?_)
      · refine lv_iconst (v := iI 0) X.1 X.2.1 d_M_is_377 (by decide) ?_
        exact m_retz hQQ X Y hr hlk (iI_bool (by omega) (by omega)).1 ⟨S, 0, rfl, ⟨by omega, by omega, iff_eq (is_116 r) (iff_f (fun h9 => by have h8 := h9.2.2; rw [← (show x102 = elI mm a2 a3 by omega)] at h8; have h7 := x105.mpr h8; omega)), (pG1_cg (s105.2.1 39 (by decide)) (s105.2.1 40 (by decide)) (show pG1 I101 from ⟨x102, y102, ex102, ey102, by omega, by omega, by omega, by omega⟩))⟩⟩ d_M_is_378
      · refine lv_iconst (v := iI 1) X.1 X.2.1 d_M_is_373 (by decide) ?_
        refine lv_goto (tgt := 378) X.1 X.2.1 d_M_is_374 (by decide) ?_
        exact m_retz hQQ X Y hr hlk (iI_bool (by omega) (by omega)).1 ⟨S, 1, rfl, ⟨by omega, by omega, iff_eq (is_116 r) (iff_t ⟨x101.mp (by omega), by omega, by rw [← (show x102 = elI mm a2 a3 by omega)]; exact x105.mp (by omega)⟩), (pG1_cg (s105.2.1 39 (by decide)) (s105.2.1 40 (by decide)) (show pG1 I101 from ⟨x102, y102, ex102, ey102, by omega, by omega, by omega, by omega⟩))⟩⟩ d_M_is_378
set_option maxHeartbeats 4000000 in
set_option maxRecDepth 100000 in
theorem r_M_is_102 (l : Launch) (D : mD) (E : mE) (h : Nat) (q : Nat → Nat) (sz : Nat) (I : Nat → Int32) (J : Nat → Int64) (B : Nat → Nat → Int32) (G : Nat → Nat → Int64) (a2 : Int) (l_a2 : (-1) ≤ a2) (u_a2 : a2 ≤ 30000) (a3 : Int) (l_a3 : (-1) ≤ a3) (u_a3 : a3 ≤ 30000) (hT : rT I B) (r : Nat) (mm : Nat → Int32) (gm : B 0 = mm) (f_P1 : pG1 I) (q0 : 0 ≤ a2 ∨ a3 < a2 + 2) (q1 : a3 - a2 ≤ 4200) : Met l y_M_is (k_M_is :: lw_tg) (mR (10 + 6 * r) (400 + 300 * r)) (va_Pc [.ref h, .int (iI 102), .int (iI a2), .int (iI a3)] (mPre D E h q (I, J, B, G) sz)) (va_Qi (rPi [39, 40] [] I B (fun (z : Int) (u : mS) => 0 ≤ z ∧ z ≤ 1 ∧ (z = 1 ↔ isF mm r 102 a2 a3) ∧ pG1 u.1)) (mPost D E h q (mA E h q sz)) (mA E h q sz)) 0 0 (mA E h q sz) := by
  refine m_enter (by decide) rfl (Nat.le_of_ble_eq_true rfl) (fun p e s m below meth c ls AV QQ H locs hQQ X Y hZ hA hr hlk hml hl => ?_)
  have Y : mH D E (mA E h q sz) s.heap h q I J B G H locs := Y
  have S : rS [39, 40] [] I B I B := rS_rf hT
  have hl : lv_has ls 6 [(0, .ref h), (1, .int (iI 102)), (2, .int (iI a2)), (3, .int (iI a3))] := hl
  refine lv_iload_n X.1 X.2.1 d_M_is_0 rfl (lv_at hl 1 rfl) ?_
  refine lv_tableIn (off := 378) (tgt := 379) X.1 X.2.1 d_M_is_1 (by decide) (by decide) (by decide) (by decide) ?_
  refine lv_aload_n X.1 X.2.1 d_M_is_379 rfl (lv_at hl 0 rfl) ?_
  refine lv_iload_n X.1 X.2.1 d_M_is_380 rfl (lv_at hl 2 rfl) ?_
  refine lv_iload_n X.1 X.2.1 d_M_is_381 rfl (lv_at hl 3 rfl) ?_
  refine lv_iconst (v := iI 3) X.1 X.2.1 d_M_is_382 (by decide) ?_
  refine r_ni (m_run (As := [.int (iI a2), .int (iI a3), .int (iI 3)]) (rest := []) (n := 3) X Y hZ hA hml hl.1 (r_M_whole l D E h q H.size I J B G a2 (by omega) (by omega) a3 (by omega) (by omega) 3 (by omega) (by omega) S.1 mm gm f_P1 (by omega) (by omega)) kl_M_whole ks_M_whole kx_M_whole ki_M_whole ini_M hd_M_whole ⟨by simp only [mR]; omega, by simp only [mR]; omega⟩ rfl (Nat.le_of_ble_eq_true rfl) d_M_is_383 ⟨Nat.le_refl _, Nat.le_refl _⟩) X Y hA S (by decide) (by decide) (fun z101 u H locs Y S s101 p101 => ?_)
  obtain ⟨I101, J101, B101, G101⟩ := u
  dsimp only at Y S s101 p101
  obtain ⟨l101, u101, x101, st101⟩ := p101
  obtain ⟨x102, y102, ex102, ey102, lx102, ly102, uy102, dy102, iy102⟩ := st101
  refine z_if_eq (tgt := 415) X.1 X.2.1 d_M_is_386 (by decide) ⟨by omega, by omega⟩ (fun h103 => ?_) (fun h103 => ?_)
  · refine lv_iconst (v := iI 0) X.1 X.2.1 d_M_is_415 (by decide) ?_
    exact m_retz hQQ X Y hr hlk (iI_bool (by omega) (by omega)).1 ⟨S, 0, rfl, ⟨by omega, by omega, iff_eq (is_102 r) (iff_f (fun h9 => by have h8 := x101.mpr h9.1; have h7 := h9.2.1; have h6 := h9.2.2; rw [← (show x102 = elI mm a2 a3 by omega)] at h6; omega)), (show pG1 I101 from ⟨x102, y102, ex102, ey102, by omega, by omega, by omega, by omega⟩)⟩⟩ d_M_is_416
  · refine lv_iload_n X.1 X.2.1 d_M_is_389 rfl (lv_at hl 3 rfl) ?_
    refine lv_aload_n X.1 X.2.1 d_M_is_390 rfl (lv_at hl 0 rfl) ?_
    refine r_get0 X Y (by decide) lk_inside (gf_inside _ _ _) rfl ex102 d_M_is_391 ?_
    refine z_isub X.1 X.2.1 d_M_is_394 ?_
    refine lv_iconst (v := iI 5) X.1 X.2.1 d_M_is_395 (by decide) ?_
    refine z_icmp_lt (tgt := 415) X.1 X.2.1 d_M_is_396 (by decide) ⟨by omega, by omega⟩ ⟨by omega, by omega⟩ (fun h104 => ?_) (fun h104 => ?_)
    · refine lv_iconst (v := iI 0) X.1 X.2.1 d_M_is_415 (by decide) ?_
      exact m_retz hQQ X Y hr hlk (iI_bool (by omega) (by omega)).1 ⟨S, 0, rfl, ⟨by omega, by omega, iff_eq (is_102 r) (iff_f (fun h9 => by have h8 := x101.mpr h9.1; have h7 := h9.2.1; have h6 := h9.2.2; rw [← (show x102 = elI mm a2 a3 by omega)] at h6; omega)), (show pG1 I101 from ⟨x102, y102, ex102, ey102, by omega, by omega, by omega, by omega⟩)⟩⟩ d_M_is_416
    · refine lv_aload_n X.1 X.2.1 d_M_is_399 rfl (lv_at hl 0 rfl) ?_
      refine m_get X Y 0 (by decide) lk_mem (gf_mem _ _ _) rfl d_M_is_400 ?_
      refine lv_aload_n X.1 X.2.1 d_M_is_403 rfl (lv_at hl 0 rfl) ?_
      refine r_get0 X Y (by decide) lk_inside (gf_inside _ _ _) rfl ex102 d_M_is_404 ?_
      refine r_bald X Y S (aw_mem _ _ _ _ _ _ _) rfl (by omega) (show x102 < ((60000 : Nat) : Int) by omega) (by omega) d_M_is_407 (fun z105 q105 l105 u105 => ?_)
      rw [(S.2.2 0 (by decide)).trans gm] at q105
      have g105 : gb mm x102 = z105 % 256 := by unfold gb; rw [← q105]
      have s105 : sg mm x102 = z105 := by unfold sg; rw [← q105]
      refine z_if_ne (tgt := 415) X.1 X.2.1 d_M_is_408 (by decide) ⟨by omega, by omega⟩ (fun h106 => ?_) (fun h106 => ?_)
      · refine lv_iconst (v := iI 0) X.1 X.2.1 d_M_is_415 (by decide) ?_
        exact m_retz hQQ X Y hr hlk (iI_bool (by omega) (by omega)).1 ⟨S, 0, rfl, ⟨by omega, by omega, iff_eq (is_102 r) (iff_f (fun h9 => by have h8 := x101.mpr h9.1; have h7 := h9.2.1; have h6 := h9.2.2; rw [← (show x102 = elI mm a2 a3 by omega)] at h6; omega)), (show pG1 I101 from ⟨x102, y102, ex102, ey102, by omega, by omega, by omega, by omega⟩)⟩⟩ d_M_is_416
      · refine lv_iconst (v := iI 1) X.1 X.2.1 d_M_is_411 (by decide) ?_
        refine lv_goto (tgt := 416) X.1 X.2.1 d_M_is_412 (by decide) ?_
        exact m_retz hQQ X Y hr hlk (iI_bool (by omega) (by omega)).1 ⟨S, 1, rfl, ⟨by omega, by omega, iff_eq (is_102 r) (iff_t ⟨x101.mp (by omega), by omega, by rw [← (show x102 = elI mm a2 a3 by omega)]; omega⟩), (show pG1 I101 from ⟨x102, y102, ex102, ey102, by omega, by omega, by omega, by omega⟩)⟩⟩ d_M_is_416
