set_option maxHeartbeats 4000000 in
set_option maxRecDepth 100000 in
theorem r_M_row (l : Launch) (D : mD) (E : mE) (h : Nat) (q : Nat → Nat) (sz : Nat) (I : Nat → Int32) (J : Nat → Int64) (B : Nat → Nat → Int32) (G : Nat → Nat → Int64) (a1 : Int) (l_a1 : 0 ≤ a1) (u_a1 : a1 ≤ 65535) (a2 : Int) (l_a2 : (-1) ≤ a2) (u_a2 : a2 ≤ 30000) (a3 : Int) (l_a3 : (-1) ≤ a3) (u_a3 : a3 ≤ 30000) (hT : rT I B) (r : Nat) (mm : Nat → Int32) (gm : B 0 = mm) (P : Int → Int → Prop) (his : CIs l D E h q r mm a1 P) (f_P1 : pG1 I) (q0 : 0 ≤ a2 ∨ a3 < a2 + 2) (q1 : a3 - a2 ≤ 4200) : Met l y_M_row (k_M_row :: lw_tg) (mR (12 + 6 * r) (460 + 300 * r)) (va_Pc [.ref h, .int (iI a1), .int (iI a2), .int (iI a3)] (mPre D E h q (I, J, B, G) sz)) (va_Qi (rPi [39, 40] [] I B (fun (z : Int) (u : mS) => 0 ≤ z ∧ z ≤ 1 ∧ (z = 1 ↔ rwP P mm a2 a3) ∧ pG1 u.1)) (mPost D E h q (mA E h q sz)) (mA E h q sz)) 0 0 (mA E h q sz) := by
  refine m_enter (by decide) rfl (Nat.le_of_ble_eq_true rfl) (fun p e s m below meth c ls AV QQ H locs hQQ X Y hZ hA hr hlk hml hl => ?_)
  have Y : mH D E (mA E h q sz) s.heap h q I J B G H locs := Y
  have S : rS [39, 40] [] I B I B := rS_rf hT
  have hl : lv_has ls 7 [(0, .ref h), (1, .int (iI a1)), (2, .int (iI a2)), (3, .int (iI a3))] := hl
  refine lv_aload_n X.1 X.2.1 d_M_row_0 rfl (lv_at hl 0 rfl) ?_
  refine lv_iload_n X.1 X.2.1 d_M_row_1 rfl (lv_at hl 2 rfl) ?_
  refine lv_iload_n X.1 X.2.1 d_M_row_2 rfl (lv_at hl 3 rfl) ?_
  refine lv_bipush (v := iI 48) X.1 X.2.1 d_M_row_3 (by decide) ?_
  refine r_ni (m_run (As := [.int (iI a2), .int (iI a3), .int (iI 48)]) (rest := []) (n := 3) X Y hZ hA hml hl.1 (r_M_whole l D E h q H.size I J B G a2 (by omega) (by omega) a3 (by omega) (by omega) 48 (by omega) (by omega) S.1 mm gm f_P1 (by omega) (by omega)) kl_M_whole ks_M_whole kx_M_whole ki_M_whole ini_M hd_M_whole ⟨by simp only [mR]; omega, by simp only [mR]; omega⟩ rfl (Nat.le_of_ble_eq_true rfl) d_M_row_5 ⟨Nat.le_refl _, Nat.le_refl _⟩) X Y hA S (by decide) (by decide) (fun z101 u H locs Y S s101 p101 => ?_)
  obtain ⟨I101, J101, B101, G101⟩ := u
  dsimp only at Y S s101 p101
  obtain ⟨l101, u101, x101, st101⟩ := p101
  obtain ⟨x102, y102, ex102, ey102, lx102, ly102, uy102, dy102, iy102⟩ := st101
  refine z_if_ne (tgt := 13) X.1 X.2.1 d_M_row_8 (by decide) ⟨by omega, by omega⟩ (fun h103 => ?_) (fun h103 => ?_)
  · refine lv_aload_n X.1 X.2.1 d_M_row_13 rfl (lv_at hl 0 rfl) ?_
    refine r_get0 X Y (by decide) lk_inside (gf_inside _ _ _) rfl ex102 d_M_row_14 ?_
    refine lv_istore (lv' := [(4, .int (iI x102)), (0, .ref h), (1, .int (iI a1)), (2, .int (iI a2)), (3, .int (iI a3))]) X.1 X.2.1 d_M_row_17 hl (by decide) rfl (fun ls hl => ?_)
    refine lv_iconst (v := iI 0) X.1 X.2.1 d_M_row_19 (by decide) ?_
    have J111 : ∀ (n113 : Nat) (z105 : Int) (z106 : Int) (I104 : Nat → Int32) (J104 : Nat → Int64) (B104 : Nat → Nat → Int32) (G104 : Nat → Nat → Int64) (H : Heap) (locs : List Loc) (ls : Array Slot), (16 - z106).toNat = n113 → (0 ≤ z105) → (z105 ≤ 30000) → (0 ≤ z106) → (z106 ≤ 16) → (pG1 I104) → (rwI P mm a3 (elI mm a2 a3) z106 z105) → (a2 + 2 ≤ z105) → (z105 ≤ a3) → mH D E (mA E h q sz) s.heap h q I104 J104 B104 G104 H locs → rS [39, 40] [] I B I104 B104 → lv_has ls 7 [(0, .ref h), (1, .int (iI a1)), (3, .int (iI a3)), (4, .int (iI z105)), (5, .int (iI z106))] → W p l e (mR (12 + 6 * r) (460 + 300 * r)) s m AV below meth c H locs 0 0 QQ (F0 m 22 ls []) := by
      intro n113
      induction n113 using Nat.strongRecOn with
      | ind n113 ih112 =>
        intro z105 z106 I104 J104 B104 G104 H locs ls hm114 l105 u105 l106 u106 f107 i108 i109 i110 Y S hl
        refine lv_iload X.1 X.2.1 d_M_row_22 (lv_at hl 3 rfl) ?_
        refine lv_iload_n X.1 X.2.1 d_M_row_24 rfl (lv_at hl 2 rfl) ?_
        refine z_icmp_ge (tgt := 96) X.1 X.2.1 d_M_row_25 (by decide) ⟨by omega, by omega⟩ ⟨by omega, by omega⟩ (fun h115 => ?_) (fun h115 => ?_)
        · refine lv_iconst (v := iI 1) X.1 X.2.1 d_M_row_96 (by decide) ?_
          exact m_retz hQQ X Y hr hlk (iI_bool (by omega) (by omega)).1 ⟨S, 1, rfl, ⟨by omega, by omega, iff_t ⟨x101.mp (by omega), rwI_end i108 (by omega)⟩, f107⟩⟩ d_M_row_97
        · refine lv_iload X.1 X.2.1 d_M_row_28 (lv_at hl 4 rfl) ?_
          refine lv_bipush (v := iI 16) X.1 X.2.1 d_M_row_30 (by decide) ?_
          refine z_icmp_eq (tgt := 64) X.1 X.2.1 d_M_row_32 (by decide) ⟨by omega, by omega⟩ ⟨by omega, by omega⟩ (fun h116 => ?_) (fun h116 => ?_)
          · refine lv_iconst (v := iI 0) X.1 X.2.1 d_M_row_64 (by decide) ?_
            exact m_retz hQQ X Y hr hlk (iI_bool (by omega) (by omega)).1 ⟨S, 0, rfl, ⟨by omega, by omega, iff_f (fun h9 => by rcases (show z106 = 16 ∨ z106 ≤ 15 by omega) with e | e; (exact rwI_16 i108 (by omega) e h9.2); (exact rwI_no i108 (by omega) (by omega) e (fun h8 => by have h7 := el_rng mm (a := z105) (b := a3) (by omega); omega) h9.2)), f107⟩⟩ d_M_row_65
          · refine lv_iload X.1 X.2.1 d_M_row_35 (lv_at hl 3 rfl) ?_
            refine lv_iconst (v := iI 2) X.1 X.2.1 d_M_row_37 (by decide) ?_
            refine z_iadd X.1 X.2.1 d_M_row_38 ?_
            refine lv_iload_n X.1 X.2.1 d_M_row_39 rfl (lv_at hl 2 rfl) ?_
            refine z_icmp_gt (tgt := 64) X.1 X.2.1 d_M_row_40 (by decide) ⟨by omega, by omega⟩ ⟨by omega, by omega⟩ (fun h117 => ?_) (fun h117 => ?_)
            · refine lv_iconst (v := iI 0) X.1 X.2.1 d_M_row_64 (by decide) ?_
              exact m_retz hQQ X Y hr hlk (iI_bool (by omega) (by omega)).1 ⟨S, 0, rfl, ⟨by omega, by omega, iff_f (fun h9 => by rcases (show z106 = 16 ∨ z106 ≤ 15 by omega) with e | e; (exact rwI_16 i108 (by omega) e h9.2); (exact rwI_no i108 (by omega) (by omega) e (fun h8 => by have h7 := el_rng mm (a := z105) (b := a3) (by omega); omega) h9.2)), f107⟩⟩ d_M_row_65
            · refine lv_aload_n X.1 X.2.1 d_M_row_43 rfl (lv_at hl 0 rfl) ?_
              refine lv_iload X.1 X.2.1 d_M_row_44 (lv_at hl 3 rfl) ?_
              refine lv_iload_n X.1 X.2.1 d_M_row_46 rfl (lv_at hl 2 rfl) ?_
              refine lv_aload_n X.1 X.2.1 d_M_row_47 rfl (lv_at hl 0 rfl) ?_
              refine m_get X Y 0 (by decide) lk_mem (gf_mem _ _ _) rfl d_M_row_48 ?_
              refine lv_iload X.1 X.2.1 d_M_row_51 (lv_at hl 3 rfl) ?_
              refine r_bald X Y S (aw_mem _ _ _ _ _ _ _) rfl (by omega) (show z105 < ((60000 : Nat) : Int) by omega) (by omega) d_M_row_53 (fun z118 q118 l118 u118 => ?_)
              rw [(S.2.2 0 (by decide)).trans gm] at q118
              have g118 : gb mm z105 = z118 % 256 := by unfold gb; rw [← q118]
              have s118 : sg mm z105 = z118 := by unfold sg; rw [← q118]
              refine lv_sipush (v := iI 255) X.1 X.2.1 d_M_row_54 (by decide) ?_
              refine z_iand255 X.1 X.2.1 d_M_row_57 ?_
              refine r_ni (m_run (As := [.int (iI z105), .int (iI a3), .int (iI (z118 % 256))]) (rest := []) (n := 3) X Y hZ hA hml hl.1 (r_M_element l D E h q H.size I104 J104 B104 G104 z105 (by omega) (by omega) a3 (by omega) (by omega) (z118 % 256) (by omega) (by omega) S.1 mm ((S.2.2 0 (by decide)).trans gm) f107 (by omega) (by omega)) kl_M_element ks_M_element kx_M_element ki_M_element ini_M hd_M_element ⟨by simp only [mR]; omega, by simp only [mR]; omega⟩ rfl (Nat.le_of_ble_eq_true rfl) d_M_row_58 ⟨Nat.le_refl _, Nat.le_refl _⟩) X Y hA S (by decide) (by decide) (fun z119 u H locs Y S s119 p119 => ?_)
              obtain ⟨I119, J119, B119, G119⟩ := u
              dsimp only at Y S s119 p119
              obtain ⟨l119, u119, x119, st119⟩ := p119
              obtain ⟨x120, y120, ex120, ey120, lx120, ly120, uy120, dy120, iy120, ky120⟩ := st119
              refine z_if_ne (tgt := 66) X.1 X.2.1 d_M_row_61 (by decide) ⟨by omega, by omega⟩ (fun h121 => ?_) (fun h121 => ?_)
              · refine lv_aload_n X.1 X.2.1 d_M_row_66 rfl (lv_at hl 0 rfl) ?_
                refine r_get0 X Y (by decide) lk_behind (gf_behind _ _ _) rfl ey120 d_M_row_67 ?_
                refine lv_istore (lv' := [(6, .int (iI y120)), (0, .ref h), (1, .int (iI a1)), (3, .int (iI a3)), (4, .int (iI z105)), (5, .int (iI z106))]) X.1 X.2.1 d_M_row_70 hl (by decide) rfl (fun ls hl => ?_)
                refine lv_aload_n X.1 X.2.1 d_M_row_72 rfl (lv_at hl 1 rfl) ?_
                refine lv_iload_n X.1 X.2.1 d_M_row_73 rfl (lv_at hl 2 rfl) ?_
                refine lv_iload X.1 X.2.1 d_M_row_74 (lv_at hl 4 rfl) ?_
                refine lv_iload X.1 X.2.1 d_M_row_76 (lv_at hl 0 rfl) ?_
                refine r_ni (m_run (As := [.int (iI a1), .int (iI z105), .int (iI y120)]) (rest := []) (n := 3) X Y hZ hA hml hl.1 (his H.size I119 J119 B119 G119 z105 (by omega) (by omega) y120 (by omega) (by omega) S.1 ((S.2.2 0 (by decide)).trans gm) (show pG1 I119 from ⟨x120, y120, ex120, ey120, by omega, by omega, by omega, by omega⟩) (by omega) (by omega)) kl_M_is ks_M_is kx_M_is ki_M_is ini_M hd_M_is ⟨by simp only [mR]; omega, by simp only [mR]; omega⟩ rfl (Nat.le_of_ble_eq_true rfl) d_M_row_78 ⟨Nat.le_refl _, Nat.le_refl _⟩) X Y hA S (by decide) (by decide) (fun z122 u H locs Y S s122 p122 => ?_)
                obtain ⟨I122, J122, B122, G122⟩ := u
                dsimp only at Y S s122 p122
                obtain ⟨l122, u122, x122, g122_P1⟩ := p122
                rw [show y120 = elE mm z105 a3 by omega] at x122
                refine z_if_ne (tgt := 86) X.1 X.2.1 d_M_row_81 (by decide) ⟨by omega, by omega⟩ (fun h123 => ?_) (fun h123 => ?_)
                · refine lv_iload X.1 X.2.1 d_M_row_86 (lv_at hl 0 rfl) ?_
                  refine lv_istore (lv' := [(4, .int (iI y120)), (6, .int (iI y120)), (0, .ref h), (1, .int (iI a1)), (3, .int (iI a3)), (5, .int (iI z106))]) X.1 X.2.1 d_M_row_88 hl (by decide) rfl (fun ls hl => ?_)
                  refine lv_iinc (v := iI (z106 + 1)) (lv' := [(5, .int (iI (z106 + 1))), (4, .int (iI y120)), (6, .int (iI y120)), (0, .ref h), (1, .int (iI a1)), (3, .int (iI a3))]) X.1 X.2.1 d_M_row_90 hl (k := 5) rfl ((iI_add _ _).trans (congrArg iI (by omega))) (by decide) rfl (fun ls hl => ?_)
                  refine lv_goto (tgt := 22) X.1 X.2.1 d_M_row_93 (by decide) ?_
                  exact ih112 ((16 - (z106 + 1)).toNat) (by omega) y120 (z106 + 1) I122 J122 B122 G122 _ _ _ rfl (by omega) (by omega) (by omega) (by omega) g122_P1 (by rw [show y120 = elE mm z105 a3 by omega]; exact rwI_go i108 (by omega) (by omega) (by omega) ⟨(x119.mp (by omega)).2, x122.mp (by omega)⟩) (by omega) (by omega) Y S (lv_sub hl [3, 4, 5, 1, 0] rfl)
                · refine lv_iconst (v := iI 0) X.1 X.2.1 d_M_row_84 (by decide) ?_
                  exact m_retz hQQ X Y hr hlk (iI_bool (by omega) (by omega)).1 ⟨S, 0, rfl, ⟨by omega, by omega, iff_f (fun h9 => rwI_no i108 (by omega) (by omega) (by omega) (fun h8 => by have h7 := x122.mpr h8.2; omega) h9.2), g122_P1⟩⟩ d_M_row_85
              · refine lv_iconst (v := iI 0) X.1 X.2.1 d_M_row_64 (by decide) ?_
                exact m_retz hQQ X Y hr hlk (iI_bool (by omega) (by omega)).1 ⟨S, 0, rfl, ⟨by omega, by omega, iff_f (fun h9 => rwI_no i108 (by omega) (by omega) (by omega) (fun h8 => by have h7 := x119.mpr ⟨by omega, h8.1⟩; omega) h9.2), (show pG1 I119 from ⟨x120, y120, ex120, ey120, by omega, by omega, by omega, by omega⟩)⟩⟩ d_M_row_65
    refine lv_istore (lv' := [(5, .int (iI 0)), (4, .int (iI x102)), (0, .ref h), (1, .int (iI a1)), (2, .int (iI a2)), (3, .int (iI a3))]) X.1 X.2.1 d_M_row_20 hl (by decide) rfl (fun ls hl => ?_)
    exact J111 _ x102 0 I101 J101 B101 G101 _ _ _ rfl (by omega) (by omega) (by omega) (by omega) (show pG1 I101 from ⟨x102, y102, ex102, ey102, by omega, by omega, by omega, by omega⟩) (by rw [show x102 = elI mm a2 a3 by omega]; exact rwI_0) (by omega) (by omega) Y S (lv_sub hl [2, 3, 5, 1, 0] rfl)
  · refine lv_iconst (v := iI 0) X.1 X.2.1 d_M_row_11 (by decide) ?_
    exact m_retz hQQ X Y hr hlk (iI_bool (by omega) (by omega)).1 ⟨S, 0, rfl, ⟨by omega, by omega, iff_f (fun h9 => absurd (x101.mpr h9.1) (by omega)), (show pG1 I101 from ⟨x102, y102, ex102, ey102, by omega, by omega, by omega, by omega⟩)⟩⟩ d_M_row_12
set_option maxHeartbeats 4000000 in
set_option maxRecDepth 100000 in
theorem r_M_sequence_n (l : Launch) (D : mD) (E : mE) (h : Nat) (q : Nat → Nat) (sz : Nat) (I : Nat → Int32) (J : Nat → Int64) (B : Nat → Nat → Int32) (G : Nat → Nat → Int64) (a1 : Nat) (k1 : a1 < nZ) (a2 : Int) (l_a2 : (-1) ≤ a2) (u_a2 : a2 ≤ 30000) (a3 : Int) (l_a3 : (-1) ≤ a3) (u_a3 : a3 ≤ 30000) (hT : rT I B) (r : Nat) (mm : Nat → Int32) (gm : B 0 = mm) (T : Int → Int → Int → Prop) (hs : 3 ≤ a1 ∧ a1 < 26) (his : ∀ ty : Int, tyin a1 ty = true → CIs l D E h q r mm ty (T ty)) (f_P1 : pG1 I) (q0 : 0 ≤ a2 ∨ a3 < a2 + 2) (q1 : a3 - a2 ≤ 4200) : Met l y_M_sequence (k_M_sequence :: lw_tg) (mR (12 + 6 * r) (460 + 300 * r)) (va_Pc [.ref h, .ref (D.2.1 a1), .int (iI a2), .int (iI a3), .int (iI (-1))] (mPre D E h q (I, J, B, G) sz)) (va_Qi (rPi [39, 40] [] I B (fun (z : Int) (u : mS) => 0 ≤ z ∧ z ≤ 1 ∧ (z = 1 ↔ sqP T mm (rs a1 0) a2 a3) ∧ pG1 u.1)) (mPost D E h q (mA E h q sz)) (mA E h q sz)) 0 0 (mA E h q sz) := by
  refine m_enter (by decide) rfl (Nat.le_of_ble_eq_true rfl) (fun p e s m below meth c ls AV QQ H locs hQQ X Y hZ hA hr hlk hml hl => ?_)
  have Y : mH D E (mA E h q sz) s.heap h q I J B G H locs := Y
  have S : rS [39, 40] [] I B I B := rS_rf hT
  have hl : lv_has ls 13 [(0, .ref h), (1, .ref ((D.2.1 a1))), (2, .int (iI a2)), (3, .int (iI a3)), (4, .int (iI ((-1))))] := hl
  refine lv_aload_n X.1 X.2.1 d_M_sequence_0 rfl (lv_at hl 0 rfl) ?_
  refine lv_iload_n X.1 X.2.1 d_M_sequence_1 rfl (lv_at hl 2 rfl) ?_
  refine lv_iload_n X.1 X.2.1 d_M_sequence_2 rfl (lv_at hl 3 rfl) ?_
  refine lv_bipush (v := iI 48) X.1 X.2.1 d_M_sequence_3 (by decide) ?_
  refine r_ni (m_run (As := [.int (iI a2), .int (iI a3), .int (iI 48)]) (rest := []) (n := 3) X Y hZ hA hml hl.1 (r_M_whole l D E h q H.size I J B G a2 (by omega) (by omega) a3 (by omega) (by omega) 48 (by omega) (by omega) S.1 mm gm f_P1 (by omega) (by omega)) kl_M_whole ks_M_whole kx_M_whole ki_M_whole ini_M hd_M_whole ⟨by simp only [mR]; omega, by simp only [mR]; omega⟩ rfl (Nat.le_of_ble_eq_true rfl) d_M_sequence_5 ⟨Nat.le_refl _, Nat.le_refl _⟩) X Y hA S (by decide) (by decide) (fun z101 u H locs Y S s101 p101 => ?_)
  obtain ⟨I101, J101, B101, G101⟩ := u
  dsimp only at Y S s101 p101
  obtain ⟨l101, u101, x101, st101⟩ := p101
  obtain ⟨x102, y102, ex102, ey102, lx102, ly102, uy102, dy102, iy102⟩ := st101
  refine z_if_ne (tgt := 13) X.1 X.2.1 d_M_sequence_8 (by decide) ⟨by omega, by omega⟩ (fun h103 => ?_) (fun h103 => ?_)
  · refine lv_aload_n X.1 X.2.1 d_M_sequence_13 rfl (lv_at hl 0 rfl) ?_
    refine r_get0 X Y (by decide) lk_inside (gf_inside _ _ _) rfl ex102 d_M_sequence_14 ?_
    refine lv_istore (lv' := [(5, .int (iI x102)), (0, .ref h), (1, .ref ((D.2.1 a1))), (2, .int (iI a2)), (3, .int (iI a3)), (4, .int (iI ((-1))))]) X.1 X.2.1 d_M_sequence_17 hl (by decide) rfl (fun ls hl => ?_)
    refine lv_iconst (v := iI 0) X.1 X.2.1 d_M_sequence_19 (by decide) ?_
    refine lv_istore (lv' := [(6, .int (iI 0)), (5, .int (iI x102)), (0, .ref h), (1, .ref ((D.2.1 a1))), (2, .int (iI a2)), (3, .int (iI a3)), (4, .int (iI ((-1))))]) X.1 X.2.1 d_M_sequence_20 hl (by decide) rfl (fun ls hl => ?_)
    refine lv_iconst (v := iI 0) X.1 X.2.1 d_M_sequence_22 (by decide) ?_
    have J105 : ∀ (z104 : Int) (H : Heap) (locs : List Loc) (ls : Array Slot), (0 ≤ z104) → (z104 ≤ 0) → mH D E (mA E h q sz) s.heap h q I101 J101 B101 G101 H locs → rS [39, 40] [] I B I101 B101 → lv_has ls 13 [(0, .ref h), (1, .ref ((D.2.1 a1))), (3, .int (iI a3)), (4, .int (iI ((-1)))), (5, .int (iI x102)), (6, .int (iI 0)), (7, .int (iI z104))] → W p l e (mR (12 + 6 * r) (460 + 300 * r)) s m AV below meth c H locs 0 0 QQ (F0 m 25 ls []) := by
      intro z104 H locs ls l104 u104 Y S hl
      refine lv_iload X.1 X.2.1 d_M_sequence_25 (lv_at hl 6 rfl) ?_
      refine lv_bipush (v := iI 16) X.1 X.2.1 d_M_sequence_27 (by decide) ?_
      have J116 : ∀ (n118 : Nat) (z110 : Int) (z111 : Int) (I109 : Nat → Int32) (J109 : Nat → Int64) (B109 : Nat → Nat → Int32) (G109 : Nat → Nat → Int64) (H : Heap) (locs : List Loc) (ls : Array Slot), (64 - z111).toNat = n118 → (0 ≤ z110) → (z110 ≤ 30000) → (0 ≤ z111) → (z111 ≤ 64) → (pG1 I109) → (sqJ T mm a1 a3 (elI mm a2 a3) z111 z110) → (a2 + 2 ≤ z110) → (z110 ≤ a3) → mH D E (mA E h q sz) s.heap h q I109 J109 B109 G109 H locs → rS [39, 40] [] I B I109 B109 → lv_has ls 13 [(0, .ref h), (1, .ref ((D.2.1 a1))), (3, .int (iI a3)), (4, .int (iI ((-1)))), (5, .int (iI z110)), (6, .int (iI z111))] → W p l e (mR (12 + 6 * r) (460 + 300 * r)) s m AV below meth c H locs 0 0 QQ (F0 m 71 ls []) := by
        intro n118
        induction n118 using Nat.strongRecOn with
        | ind n118 ih117 =>
          intro z110 z111 I109 J109 B109 G109 H locs ls hm119 l110 u110 l111 u111 f112 i113 i114 i115 Y S hl
          refine lv_iload X.1 X.2.1 d_M_sequence_71 (lv_at hl 5 rfl) ?_
          refine lv_aload_n X.1 X.2.1 d_M_sequence_73 rfl (lv_at hl 1 rfl) ?_
          refine r_length (i := a1) X Y hZ k1 hml hl.1 ⟨by simp only [mR]; omega, by simp only [mR]; omega⟩ (Nat.le_of_ble_eq_true rfl) d_M_sequence_74 ⟨Nat.le_refl _, Nat.le_refl _⟩ (fun H locs Y => ?_)
          have y120 := zn_64 a1 k1
          refine z_icmp_ge (tgt := 305) X.1 X.2.1 d_M_sequence_77 (by decide) ⟨by omega, by omega⟩ ⟨by omega, by omega⟩ (fun h121 => ?_) (fun h121 => ?_)
          · refine lv_iload X.1 X.2.1 d_M_sequence_305 (lv_at hl 4 rfl) ?_
            refine lv_iload_n X.1 X.2.1 d_M_sequence_307 rfl (lv_at hl 2 rfl) ?_
            refine z_icmp_ne (tgt := 315) X.1 X.2.1 d_M_sequence_308 (by decide) ⟨by omega, by omega⟩ ⟨by omega, by omega⟩ (fun h122 => ?_) (fun h122 => ?_)
            · refine lv_iconst (v := iI 0) X.1 X.2.1 d_M_sequence_315 (by decide) ?_
              exact m_retz hQQ X Y hr hlk (iI_bool (by omega) (by omega)).1 ⟨S, 0, rfl, ⟨by omega, by omega, iff_f (fun h9 => absurd ((sqJ_end hs i113 (by omega) (by omega)).mpr h9.2) (by omega)), f112⟩⟩ d_M_sequence_316
            · refine lv_iconst (v := iI 1) X.1 X.2.1 d_M_sequence_311 (by decide) ?_
              refine lv_goto (tgt := 316) X.1 X.2.1 d_M_sequence_312 (by decide) ?_
              exact m_retz hQQ X Y hr hlk (iI_bool (by omega) (by omega)).1 ⟨S, 1, rfl, ⟨by omega, by omega, iff_t ⟨x101.mp (by omega), (sqJ_end hs i113 (by omega) (by omega)).mp (by omega)⟩, f112⟩⟩ d_M_sequence_316
          · refine lv_iconst (v := iI 0) X.1 X.2.1 d_M_sequence_80 (by decide) ?_
            have J126 : ∀ (n128 : Nat) (z123 : Int) (z124 : Int) (H : Heap) (locs : List Loc) (ls : Array Slot), (z111 + 3 - z123).toNat = n128 → (0 ≤ z123) → (z123 ≤ 64) → (0 ≤ z124) → (z124 ≤ 200) → (Dg a1 z111 z123 z124) → mH D E (mA E h q sz) s.heap h q I109 J109 B109 G109 H locs → rS [39, 40] [] I B I109 B109 → lv_has ls 13 [(0, .ref h), (1, .ref ((D.2.1 a1))), (3, .int (iI a3)), (4, .int (iI ((-1)))), (5, .int (iI z110)), (6, .int (iI z123)), (7, .int (iI z124))] → W p l e (mR (12 + 6 * r) (460 + 300 * r)) s m AV below meth c H locs 0 0 QQ (F0 m 83 ls []) := by
              intro n128
              induction n128 using Nat.strongRecOn with
              | ind n128 ih127 =>
                intro z123 z124 H locs ls hm129 l123 u123 l124 u124 i125 Y S hl
                have dg := Dg_at hs (by omega) i113.1 (by omega) i125
                refine lv_aload_n X.1 X.2.1 d_M_sequence_83 rfl (lv_at hl 1 rfl) ?_
                refine lv_iload X.1 X.2.1 d_M_sequence_84 (lv_at hl 5 rfl) ?_
                refine r_charAt (i := a1) X Y hZ k1 (by omega) (by omega) hml hl.1 ⟨by simp only [mR]; omega, by simp only [mR]; omega⟩ (Nat.le_of_ble_eq_true rfl) d_M_sequence_86 ⟨Nat.le_refl _, Nat.le_refl _⟩ (fun H locs z130 Y e130 l130 u130 => ?_)
                have c130 := cz_of k1 (by omega) (by omega) e130 l130 u130
                refine lv_bipush (v := iI 48) X.1 X.2.1 d_M_sequence_89 (by decide) ?_
                refine z_icmp_lt (tgt := 128) X.1 X.2.1 d_M_sequence_91 (by decide) ⟨by omega, by omega⟩ ⟨by omega, by omega⟩ (fun h131 => ?_) (fun h131 => ?_)
                · have ex : z123 = z111 + fW a1 (z111).toNat ∧ z124 = fN a1 (z111).toNat := by rcases dg.2 with ⟨d1, d2, _, _⟩ | ⟨_, d2, d3⟩; (exact False.elim (by omega)); (exact ⟨d2, d3⟩)
                  have my := f_may hs (by omega) i113.1 (by omega) ex.1
                  have ex : z123 = z111 + fW a1 (z111).toNat ∧ z124 = fN a1 (z111).toNat := by rcases dg.2 with ⟨d1, d2, _, _⟩ | ⟨_, d2, d3⟩; (exact False.elim (by omega)); (exact ⟨d2, d3⟩)
                  have my := f_may hs (by omega) i113.1 (by omega) ex.1
                  refine lv_aload_n X.1 X.2.1 d_M_sequence_128 rfl (lv_at hl 1 rfl) ?_
                  refine lv_iload X.1 X.2.1 d_M_sequence_129 (lv_at hl 5 rfl) ?_
                  refine r_charAt (i := a1) X Y hZ k1 (by omega) (by omega) hml hl.1 ⟨by simp only [mR]; omega, by simp only [mR]; omega⟩ (Nat.le_of_ble_eq_true rfl) d_M_sequence_131 ⟨Nat.le_refl _, Nat.le_refl _⟩ (fun H locs z132 Y e132 l132 u132 => ?_)
                  have c132 := cz_of k1 (by omega) (by omega) e132 l132 u132
                  refine lv_bipush (v := iI 63) X.1 X.2.1 d_M_sequence_134 (by decide) ?_
                  refine z_icmp_ne (tgt := 143) X.1 X.2.1 d_M_sequence_136 (by decide) ⟨by omega, by omega⟩ ⟨by omega, by omega⟩ (fun h133 => ?_) (fun h133 => ?_)
                  · refine lv_iconst (v := iI 0) X.1 X.2.1 d_M_sequence_143 (by decide) ?_
                    refine lv_istore (lv' := [(8, .int (iI 0)), (0, .ref h), (1, .ref ((D.2.1 a1))), (3, .int (iI a3)), (4, .int (iI ((-1)))), (5, .int (iI z110)), (6, .int (iI z123)), (7, .int (iI z124))]) X.1 X.2.1 d_M_sequence_144 hl (by decide) rfl (fun ls hl => ?_)
                    refine lv_iload X.1 X.2.1 d_M_sequence_146 (lv_at hl 0 rfl) ?_
                    refine z_if_eq (tgt := 154) X.1 X.2.1 d_M_sequence_148 (by decide) ⟨by omega, by omega⟩ (fun h134 => ?_) (fun h134 => False.elim (by omega))
                    · refine lv_aload_n X.1 X.2.1 d_M_sequence_154 rfl (lv_at hl 2 rfl) ?_
                      refine lv_iload X.1 X.2.1 d_M_sequence_155 (lv_at hl 6 rfl) ?_
                      refine r_charAt (i := a1) X Y hZ k1 (by omega) (by omega) hml hl.1 ⟨by simp only [mR]; omega, by simp only [mR]; omega⟩ (Nat.le_of_ble_eq_true rfl) d_M_sequence_157 ⟨Nat.le_refl _, Nat.le_refl _⟩ (fun H locs z135 Y e135 l135 u135 => ?_)
                      have c135 := cz_of k1 (by omega) (by omega) e135 l135 u135
                      refine lv_istore (lv' := [(9, .int (iI z135)), (8, .int (iI 0)), (0, .ref h), (1, .ref ((D.2.1 a1))), (3, .int (iI a3)), (4, .int (iI ((-1)))), (5, .int (iI z110)), (6, .int (iI z123)), (7, .int (iI z124))]) X.1 X.2.1 d_M_sequence_160 hl (by decide) rfl (fun ls hl => ?_)
                      refine lv_iinc (v := iI (z123 + 2)) (lv' := [(6, .int (iI (z123 + 2))), (9, .int (iI z135)), (8, .int (iI 0)), (0, .ref h), (1, .ref ((D.2.1 a1))), (3, .int (iI a3)), (4, .int (iI ((-1)))), (5, .int (iI z110)), (7, .int (iI z124))]) X.1 X.2.1 d_M_sequence_162 hl (k := 7) rfl ((iI_add _ _).trans (congrArg iI (by omega))) (by decide) rfl (fun ls hl => ?_)
                      refine lv_iload X.1 X.2.1 d_M_sequence_165 (lv_at hl 7 rfl) ?_
                      refine lv_iload_n X.1 X.2.1 d_M_sequence_167 rfl (lv_at hl 5 rfl) ?_
                      refine z_icmp_ge (tgt := 195) X.1 X.2.1 d_M_sequence_168 (by decide) ⟨by omega, by omega⟩ ⟨by omega, by omega⟩ (fun h136 => ?_) (fun h136 => ?_)
                      · refine lv_iconst (v := iI 0) X.1 X.2.1 d_M_sequence_195 (by decide) ?_
                        refine lv_istore (lv' := [(10, .int (iI 0)), (6, .int (iI (z123 + 2))), (9, .int (iI z135)), (8, .int (iI 0)), (0, .ref h), (1, .ref ((D.2.1 a1))), (3, .int (iI a3)), (4, .int (iI ((-1)))), (5, .int (iI z110)), (7, .int (iI z124))]) X.1 X.2.1 d_M_sequence_196 hl (by decide) rfl (fun ls hl => ?_)
                        refine lv_iload X.1 X.2.1 d_M_sequence_198 (lv_at hl 0 rfl) ?_
                        refine z_if_ne (tgt := 210) X.1 X.2.1 d_M_sequence_200 (by decide) ⟨by omega, by omega⟩ (fun h137 => False.elim (by omega)) (fun h137 => ?_)
                        · refine lv_iload X.1 X.2.1 d_M_sequence_203 (lv_at hl 3 rfl) ?_
                          refine z_if_ne (tgt := 210) X.1 X.2.1 d_M_sequence_205 (by decide) ⟨by omega, by omega⟩ (fun h138 => False.elim (by omega)) (fun h138 => ?_)
                          · refine lv_iconst (v := iI 0) X.1 X.2.1 d_M_sequence_208 (by decide) ?_
                            exact m_retz hQQ X Y hr hlk (iI_bool (by omega) (by omega)).1 ⟨S, 0, rfl, ⟨by omega, by omega, iff_f (fun h9 => (sqJ_skip hs i113 (by omega) (by omega) (by unfold thr; omega)).1 (by omega) h9.2), f112⟩⟩ d_M_sequence_209
                      · refine lv_aload_n X.1 X.2.1 d_M_sequence_171 rfl (lv_at hl 3 rfl) ?_
                        refine m_get X Y 0 (by decide) lk_mem (gf_mem _ _ _) rfl d_M_sequence_172 ?_
                        refine lv_iload X.1 X.2.1 d_M_sequence_175 (lv_at hl 7 rfl) ?_
                        refine r_bald X Y S (aw_mem _ _ _ _ _ _ _) rfl (by omega) (show z110 < ((60000 : Nat) : Int) by omega) (by omega) d_M_sequence_177 (fun z139 q139 l139 u139 => ?_)
                        rw [(S.2.2 0 (by decide)).trans gm] at q139
                        have g139 : gb mm z110 = z139 % 256 := by unfold gb; rw [← q139]
                        have s139 : sg mm z110 = z139 := by unfold sg; rw [← q139]
                        refine lv_sipush (v := iI 255) X.1 X.2.1 d_M_sequence_178 (by decide) ?_
                        refine z_iand255 X.1 X.2.1 d_M_sequence_181 ?_
                        refine lv_sipush (v := iI 160) X.1 X.2.1 d_M_sequence_182 (by decide) ?_
                        refine lv_iload X.1 X.2.1 d_M_sequence_185 (lv_at hl 8 rfl) ?_
                        refine z_iadd X.1 X.2.1 d_M_sequence_187 ?_
                        refine z_icmp_ne (tgt := 195) X.1 X.2.1 d_M_sequence_188 (by decide) ⟨by omega, by omega⟩ ⟨by omega, by omega⟩ (fun h140 => ?_) (fun h140 => ?_)
                        · refine lv_iconst (v := iI 0) X.1 X.2.1 d_M_sequence_195 (by decide) ?_
                          refine lv_istore (lv' := [(10, .int (iI 0)), (6, .int (iI (z123 + 2))), (9, .int (iI z135)), (8, .int (iI 0)), (0, .ref h), (1, .ref ((D.2.1 a1))), (3, .int (iI a3)), (4, .int (iI ((-1)))), (5, .int (iI z110)), (7, .int (iI z124))]) X.1 X.2.1 d_M_sequence_196 hl (by decide) rfl (fun ls hl => ?_)
                          refine lv_iload X.1 X.2.1 d_M_sequence_198 (lv_at hl 0 rfl) ?_
                          refine z_if_ne (tgt := 210) X.1 X.2.1 d_M_sequence_200 (by decide) ⟨by omega, by omega⟩ (fun h141 => False.elim (by omega)) (fun h141 => ?_)
                          · refine lv_iload X.1 X.2.1 d_M_sequence_203 (lv_at hl 3 rfl) ?_
                            refine z_if_ne (tgt := 210) X.1 X.2.1 d_M_sequence_205 (by decide) ⟨by omega, by omega⟩ (fun h142 => False.elim (by omega)) (fun h142 => ?_)
                            · refine lv_iconst (v := iI 0) X.1 X.2.1 d_M_sequence_208 (by decide) ?_
                              exact m_retz hQQ X Y hr hlk (iI_bool (by omega) (by omega)).1 ⟨S, 0, rfl, ⟨by omega, by omega, iff_f (fun h9 => (sqJ_skip hs i113 (by omega) (by omega) (by unfold thr; omega)).1 (by omega) h9.2), f112⟩⟩ d_M_sequence_209
                        · refine lv_iconst (v := iI 1) X.1 X.2.1 d_M_sequence_191 (by decide) ?_
                          refine lv_goto (tgt := 196) X.1 X.2.1 d_M_sequence_192 (by decide) ?_
                          refine lv_istore (lv' := [(10, .int (iI 1)), (6, .int (iI (z123 + 2))), (9, .int (iI z135)), (8, .int (iI 0)), (0, .ref h), (1, .ref ((D.2.1 a1))), (3, .int (iI a3)), (4, .int (iI ((-1)))), (5, .int (iI z110)), (7, .int (iI z124))]) X.1 X.2.1 d_M_sequence_196 hl (by decide) rfl (fun ls hl => ?_)
                          refine lv_iload X.1 X.2.1 d_M_sequence_198 (lv_at hl 0 rfl) ?_
                          refine z_if_ne (tgt := 210) X.1 X.2.1 d_M_sequence_200 (by decide) ⟨by omega, by omega⟩ (fun h143 => ?_) (fun h143 => False.elim (by omega))
                          · refine lv_iload X.1 X.2.1 d_M_sequence_210 (lv_at hl 0 rfl) ?_
                            refine z_if_ne (tgt := 218) X.1 X.2.1 d_M_sequence_212 (by decide) ⟨by omega, by omega⟩ (fun h144 => ?_) (fun h144 => False.elim (by omega))
                            · refine lv_aload_n X.1 X.2.1 d_M_sequence_218 rfl (lv_at hl 4 rfl) ?_
                              refine lv_iload X.1 X.2.1 d_M_sequence_219 (lv_at hl 8 rfl) ?_
                              refine lv_iload_n X.1 X.2.1 d_M_sequence_221 rfl (lv_at hl 6 rfl) ?_
                              refine lv_sipush (v := iI 160) X.1 X.2.1 d_M_sequence_222 (by decide) ?_
                              refine lv_iload X.1 X.2.1 d_M_sequence_225 (lv_at hl 9 rfl) ?_
                              refine z_iadd X.1 X.2.1 d_M_sequence_227 ?_
                              refine r_ni (m_run (As := [.int (iI z110), .int (iI a3), .int (iI (160 + z124))]) (rest := []) (n := 3) X Y hZ hA hml hl.1 (r_M_element l D E h q H.size I109 J109 B109 G109 z110 (by omega) (by omega) a3 (by omega) (by omega) (160 + z124) (by omega) (by omega) S.1 mm ((S.2.2 0 (by decide)).trans gm) f112 (by omega) (by omega)) kl_M_element ks_M_element kx_M_element ki_M_element ini_M hd_M_element ⟨by simp only [mR]; omega, by simp only [mR]; omega⟩ rfl (Nat.le_of_ble_eq_true rfl) d_M_sequence_228 ⟨Nat.le_refl _, Nat.le_refl _⟩) X Y hA S (by decide) (by decide) (fun z145 u H locs Y S s145 p145 => ?_)
                              obtain ⟨I145, J145, B145, G145⟩ := u
                              dsimp only at Y S s145 p145
                              obtain ⟨l145, u145, x145, st145⟩ := p145
                              obtain ⟨x146, y146, ex146, ey146, lx146, ly146, uy146, dy146, iy146, ky146⟩ := st145
                              refine z_if_ne (tgt := 236) X.1 X.2.1 d_M_sequence_231 (by decide) ⟨by omega, by omega⟩ (fun h147 => ?_) (fun h147 => ?_)
                              · refine lv_aload_n X.1 X.2.1 d_M_sequence_236 rfl (lv_at hl 4 rfl) ?_
                                refine r_get0 X Y (by decide) lk_inside (gf_inside _ _ _) rfl ex146 d_M_sequence_237 ?_
                                refine lv_istore (lv' := [(11, .int (iI x146)), (10, .int (iI 1)), (6, .int (iI (z123 + 2))), (9, .int (iI z135)), (8, .int (iI 0)), (0, .ref h), (1, .ref ((D.2.1 a1))), (3, .int (iI a3)), (4, .int (iI ((-1)))), (5, .int (iI z110)), (7, .int (iI z124))]) X.1 X.2.1 d_M_sequence_240 hl (by decide) rfl (fun ls hl => ?_)
                                refine lv_aload_n X.1 X.2.1 d_M_sequence_242 rfl (lv_at hl 5 rfl) ?_
                                refine r_get0 X Y (by decide) lk_behind (gf_behind _ _ _) rfl ey146 d_M_sequence_243 ?_
                                refine lv_istore (lv' := [(12, .int (iI y146)), (11, .int (iI x146)), (10, .int (iI 1)), (6, .int (iI (z123 + 2))), (9, .int (iI z135)), (8, .int (iI 0)), (0, .ref h), (1, .ref ((D.2.1 a1))), (3, .int (iI a3)), (4, .int (iI ((-1)))), (5, .int (iI z110)), (7, .int (iI z124))]) X.1 X.2.1 d_M_sequence_246 hl (by decide) rfl (fun ls hl => ?_)
                                refine lv_aload_n X.1 X.2.1 d_M_sequence_248 rfl (lv_at hl 6 rfl) ?_
                                refine lv_iload X.1 X.2.1 d_M_sequence_249 (lv_at hl 4 rfl) ?_
                                refine lv_iload X.1 X.2.1 d_M_sequence_251 (lv_at hl 1 rfl) ?_
                                refine lv_iload X.1 X.2.1 d_M_sequence_253 (lv_at hl 0 rfl) ?_
                                refine r_ni (m_run (As := [.int (iI z135), .int (iI x146), .int (iI y146)]) (rest := []) (n := 3) X Y hZ hA hml hl.1 (his z135 (by rw [show z135 = fY a1 (z111).toNat by omega]; exact (fok_of hs i113.1 (by omega)).t) H.size I145 J145 B145 G145 x146 (by omega) (by omega) y146 (by omega) (by omega) S.1 ((S.2.2 0 (by decide)).trans gm) (show pG1 I145 from ⟨x146, y146, ex146, ey146, by omega, by omega, by omega, by omega⟩) (by omega) (by omega)) kl_M_is ks_M_is kx_M_is ki_M_is ini_M hd_M_is ⟨by simp only [mR]; omega, by simp only [mR]; omega⟩ rfl (Nat.le_of_ble_eq_true rfl) d_M_sequence_255 ⟨Nat.le_refl _, Nat.le_refl _⟩) X Y hA S (by decide) (by decide) (fun z148 u H locs Y S s148 p148 => ?_)
                                obtain ⟨I148, J148, B148, G148⟩ := u
                                dsimp only at Y S s148 p148
                                obtain ⟨l148, u148, x148, g148_P1⟩ := p148
                                rw [show z135 = fY a1 (z111).toNat by omega, show x146 = elI mm z110 a3 by omega, show y146 = elE mm z110 a3 by omega] at x148
                                refine z_if_ne (tgt := 263) X.1 X.2.1 d_M_sequence_258 (by decide) ⟨by omega, by omega⟩ (fun h149 => ?_) (fun h149 => ?_)
                                · refine lv_iload X.1 X.2.1 d_M_sequence_263 (lv_at hl 9 rfl) ?_
                                  refine z_if_lt (tgt := 298) X.1 X.2.1 d_M_sequence_265 (by decide) ⟨by omega, by omega⟩ (fun h150 => ?_) (fun h150 => False.elim (by omega))
                                  · refine lv_iload X.1 X.2.1 d_M_sequence_298 (lv_at hl 0 rfl) ?_
                                    refine lv_istore (lv' := [(5, .int (iI y146)), (12, .int (iI y146)), (11, .int (iI x146)), (10, .int (iI 1)), (6, .int (iI (z123 + 2))), (9, .int (iI z135)), (8, .int (iI 0)), (0, .ref h), (1, .ref ((D.2.1 a1))), (3, .int (iI a3)), (4, .int (iI ((-1)))), (7, .int (iI z124))]) X.1 X.2.1 d_M_sequence_300 hl (by decide) rfl (fun ls hl => ?_)
                                    refine lv_goto (tgt := 71) X.1 X.2.1 d_M_sequence_302 (by decide) ?_
                                    exact ih117 ((64 - (z123 + 2)).toNat) (by omega) y146 (z123 + 2) I148 J148 B148 G148 _ _ _ rfl (by omega) (by omega) (by omega) (by omega) g148_P1 (by rw [show z123 + 2 = (fE a1 (z111).toNat : Int) by omega, show y146 = elE mm z110 a3 by omega]; exact (sqJ_take hs i113 (by omega) (by omega) (by unfold thr; omega)).2 (x145.mp (by omega)).2 (x148.mp (by omega))) (by omega) (by omega) Y S (lv_sub hl [7, 8, 9, 10, 0, 4] rfl)
                                · refine lv_iconst (v := iI 0) X.1 X.2.1 d_M_sequence_261 (by decide) ?_
                                  exact m_retz hQQ X Y hr hlk (iI_bool (by omega) (by omega)).1 ⟨S, 0, rfl, ⟨by omega, by omega, iff_f (fun h9 => (sqJ_take hs i113 (by omega) (by omega) (by unfold thr; omega)).1 (fun h8 => by have h7 := x148.mpr h8.2; omega) h9.2), g148_P1⟩⟩ d_M_sequence_262
                              · refine lv_iconst (v := iI 0) X.1 X.2.1 d_M_sequence_234 (by decide) ?_
                                exact m_retz hQQ X Y hr hlk (iI_bool (by omega) (by omega)).1 ⟨S, 0, rfl, ⟨by omega, by omega, iff_f (fun h9 => (sqJ_take hs i113 (by omega) (by omega) (by unfold thr; omega)).1 (fun h8 => by have h7 := x145.mpr ⟨by omega, h8.1⟩; omega) h9.2), (show pG1 I145 from ⟨x146, y146, ex146, ey146, by omega, by omega, by omega, by omega⟩)⟩⟩ d_M_sequence_235
                  · refine lv_iconst (v := iI 1) X.1 X.2.1 d_M_sequence_139 (by decide) ?_
                    refine lv_goto (tgt := 144) X.1 X.2.1 d_M_sequence_140 (by decide) ?_
                    refine lv_istore (lv' := [(8, .int (iI 1)), (0, .ref h), (1, .ref ((D.2.1 a1))), (3, .int (iI a3)), (4, .int (iI ((-1)))), (5, .int (iI z110)), (6, .int (iI z123)), (7, .int (iI z124))]) X.1 X.2.1 d_M_sequence_144 hl (by decide) rfl (fun ls hl => ?_)
                    refine lv_iload X.1 X.2.1 d_M_sequence_146 (lv_at hl 0 rfl) ?_
                    refine z_if_eq (tgt := 154) X.1 X.2.1 d_M_sequence_148 (by decide) ⟨by omega, by omega⟩ (fun h151 => False.elim (by omega)) (fun h151 => ?_)
                    · refine lv_iinc (v := iI (z123 + 1)) (lv' := [(6, .int (iI (z123 + 1))), (8, .int (iI 1)), (0, .ref h), (1, .ref ((D.2.1 a1))), (3, .int (iI a3)), (4, .int (iI ((-1)))), (5, .int (iI z110)), (7, .int (iI z124))]) X.1 X.2.1 d_M_sequence_151 hl (k := 6) rfl ((iI_add _ _).trans (congrArg iI (by omega))) (by decide) rfl (fun ls hl => ?_)
                      refine lv_aload_n X.1 X.2.1 d_M_sequence_154 rfl (lv_at hl 3 rfl) ?_
                      refine lv_iload X.1 X.2.1 d_M_sequence_155 (lv_at hl 0 rfl) ?_
                      refine r_charAt (i := a1) X Y hZ k1 (by omega) (by omega) hml hl.1 ⟨by simp only [mR]; omega, by simp only [mR]; omega⟩ (Nat.le_of_ble_eq_true rfl) d_M_sequence_157 ⟨Nat.le_refl _, Nat.le_refl _⟩ (fun H locs z152 Y e152 l152 u152 => ?_)
                      have c152 := cz_of k1 (by omega) (by omega) e152 l152 u152
                      refine lv_istore (lv' := [(9, .int (iI z152)), (6, .int (iI (z123 + 1))), (8, .int (iI 1)), (0, .ref h), (1, .ref ((D.2.1 a1))), (3, .int (iI a3)), (4, .int (iI ((-1)))), (5, .int (iI z110)), (7, .int (iI z124))]) X.1 X.2.1 d_M_sequence_160 hl (by decide) rfl (fun ls hl => ?_)
                      refine lv_iinc (v := iI (z123 + 3)) (lv' := [(6, .int (iI (z123 + 3))), (9, .int (iI z152)), (8, .int (iI 1)), (0, .ref h), (1, .ref ((D.2.1 a1))), (3, .int (iI a3)), (4, .int (iI ((-1)))), (5, .int (iI z110)), (7, .int (iI z124))]) X.1 X.2.1 d_M_sequence_162 hl (k := 1) rfl ((iI_add _ _).trans (congrArg iI (by omega))) (by decide) rfl (fun ls hl => ?_)
                      refine lv_iload X.1 X.2.1 d_M_sequence_165 (lv_at hl 7 rfl) ?_
                      refine lv_iload_n X.1 X.2.1 d_M_sequence_167 rfl (lv_at hl 5 rfl) ?_
                      refine z_icmp_ge (tgt := 195) X.1 X.2.1 d_M_sequence_168 (by decide) ⟨by omega, by omega⟩ ⟨by omega, by omega⟩ (fun h153 => ?_) (fun h153 => ?_)
                      · refine lv_iconst (v := iI 0) X.1 X.2.1 d_M_sequence_195 (by decide) ?_
                        refine lv_istore (lv' := [(10, .int (iI 0)), (6, .int (iI (z123 + 3))), (9, .int (iI z152)), (8, .int (iI 1)), (0, .ref h), (1, .ref ((D.2.1 a1))), (3, .int (iI a3)), (4, .int (iI ((-1)))), (5, .int (iI z110)), (7, .int (iI z124))]) X.1 X.2.1 d_M_sequence_196 hl (by decide) rfl (fun ls hl => ?_)
                        refine lv_iload X.1 X.2.1 d_M_sequence_198 (lv_at hl 0 rfl) ?_
                        refine z_if_ne (tgt := 210) X.1 X.2.1 d_M_sequence_200 (by decide) ⟨by omega, by omega⟩ (fun h154 => False.elim (by omega)) (fun h154 => ?_)
                        · refine lv_iload X.1 X.2.1 d_M_sequence_203 (lv_at hl 3 rfl) ?_
                          refine z_if_ne (tgt := 210) X.1 X.2.1 d_M_sequence_205 (by decide) ⟨by omega, by omega⟩ (fun h155 => ?_) (fun h155 => False.elim (by omega))
                          · refine lv_iload X.1 X.2.1 d_M_sequence_210 (lv_at hl 0 rfl) ?_
                            refine z_if_ne (tgt := 218) X.1 X.2.1 d_M_sequence_212 (by decide) ⟨by omega, by omega⟩ (fun h156 => False.elim (by omega)) (fun h156 => ?_)
                            · refine lv_goto (tgt := 71) X.1 X.2.1 d_M_sequence_215 (by decide) ?_
                              exact ih117 ((64 - (z123 + 3)).toNat) (by omega) z110 (z123 + 3) I109 J109 B109 G109 _ _ _ rfl (by omega) (by omega) (by omega) (by omega) f112 (by rw [show z123 + 3 = (fE a1 (z111).toNat : Int) by omega]; exact (sqJ_skip hs i113 (by omega) (by omega) (by unfold thr; omega)).2 (by omega)) (by omega) (by omega) Y S (lv_sub hl [4, 5, 6, 7, 8, 1] rfl)
                      · refine lv_aload_n X.1 X.2.1 d_M_sequence_171 rfl (lv_at hl 3 rfl) ?_
                        refine m_get X Y 0 (by decide) lk_mem (gf_mem _ _ _) rfl d_M_sequence_172 ?_
                        refine lv_iload X.1 X.2.1 d_M_sequence_175 (lv_at hl 7 rfl) ?_
                        refine r_bald X Y S (aw_mem _ _ _ _ _ _ _) rfl (by omega) (show z110 < ((60000 : Nat) : Int) by omega) (by omega) d_M_sequence_177 (fun z157 q157 l157 u157 => ?_)
                        rw [(S.2.2 0 (by decide)).trans gm] at q157
                        have g157 : gb mm z110 = z157 % 256 := by unfold gb; rw [← q157]
                        have s157 : sg mm z110 = z157 := by unfold sg; rw [← q157]
                        refine lv_sipush (v := iI 255) X.1 X.2.1 d_M_sequence_178 (by decide) ?_
                        refine z_iand255 X.1 X.2.1 d_M_sequence_181 ?_
                        refine lv_sipush (v := iI 160) X.1 X.2.1 d_M_sequence_182 (by decide) ?_
                        refine lv_iload X.1 X.2.1 d_M_sequence_185 (lv_at hl 8 rfl) ?_
                        refine z_iadd X.1 X.2.1 d_M_sequence_187 ?_
                        refine z_icmp_ne (tgt := 195) X.1 X.2.1 d_M_sequence_188 (by decide) ⟨by omega, by omega⟩ ⟨by omega, by omega⟩ (fun h158 => ?_) (fun h158 => ?_)
                        · refine lv_iconst (v := iI 0) X.1 X.2.1 d_M_sequence_195 (by decide) ?_
                          refine lv_istore (lv' := [(10, .int (iI 0)), (6, .int (iI (z123 + 3))), (9, .int (iI z152)), (8, .int (iI 1)), (0, .ref h), (1, .ref ((D.2.1 a1))), (3, .int (iI a3)), (4, .int (iI ((-1)))), (5, .int (iI z110)), (7, .int (iI z124))]) X.1 X.2.1 d_M_sequence_196 hl (by decide) rfl (fun ls hl => ?_)
                          refine lv_iload X.1 X.2.1 d_M_sequence_198 (lv_at hl 0 rfl) ?_
                          refine z_if_ne (tgt := 210) X.1 X.2.1 d_M_sequence_200 (by decide) ⟨by omega, by omega⟩ (fun h159 => False.elim (by omega)) (fun h159 => ?_)
                          · refine lv_iload X.1 X.2.1 d_M_sequence_203 (lv_at hl 3 rfl) ?_
                            refine z_if_ne (tgt := 210) X.1 X.2.1 d_M_sequence_205 (by decide) ⟨by omega, by omega⟩ (fun h160 => ?_) (fun h160 => False.elim (by omega))
                            · refine lv_iload X.1 X.2.1 d_M_sequence_210 (lv_at hl 0 rfl) ?_
                              refine z_if_ne (tgt := 218) X.1 X.2.1 d_M_sequence_212 (by decide) ⟨by omega, by omega⟩ (fun h161 => False.elim (by omega)) (fun h161 => ?_)
                              · refine lv_goto (tgt := 71) X.1 X.2.1 d_M_sequence_215 (by decide) ?_
                                exact ih117 ((64 - (z123 + 3)).toNat) (by omega) z110 (z123 + 3) I109 J109 B109 G109 _ _ _ rfl (by omega) (by omega) (by omega) (by omega) f112 (by rw [show z123 + 3 = (fE a1 (z111).toNat : Int) by omega]; exact (sqJ_skip hs i113 (by omega) (by omega) (by unfold thr; omega)).2 (by omega)) (by omega) (by omega) Y S (lv_sub hl [4, 5, 6, 7, 8, 1] rfl)
                        · refine lv_iconst (v := iI 1) X.1 X.2.1 d_M_sequence_191 (by decide) ?_
                          refine lv_goto (tgt := 196) X.1 X.2.1 d_M_sequence_192 (by decide) ?_
                          refine lv_istore (lv' := [(10, .int (iI 1)), (6, .int (iI (z123 + 3))), (9, .int (iI z152)), (8, .int (iI 1)), (0, .ref h), (1, .ref ((D.2.1 a1))), (3, .int (iI a3)), (4, .int (iI ((-1)))), (5, .int (iI z110)), (7, .int (iI z124))]) X.1 X.2.1 d_M_sequence_196 hl (by decide) rfl (fun ls hl => ?_)
                          refine lv_iload X.1 X.2.1 d_M_sequence_198 (lv_at hl 0 rfl) ?_
                          refine z_if_ne (tgt := 210) X.1 X.2.1 d_M_sequence_200 (by decide) ⟨by omega, by omega⟩ (fun h162 => ?_) (fun h162 => False.elim (by omega))
                          · refine lv_iload X.1 X.2.1 d_M_sequence_210 (lv_at hl 0 rfl) ?_
                            refine z_if_ne (tgt := 218) X.1 X.2.1 d_M_sequence_212 (by decide) ⟨by omega, by omega⟩ (fun h163 => ?_) (fun h163 => False.elim (by omega))
                            · refine lv_aload_n X.1 X.2.1 d_M_sequence_218 rfl (lv_at hl 4 rfl) ?_
                              refine lv_iload X.1 X.2.1 d_M_sequence_219 (lv_at hl 8 rfl) ?_
                              refine lv_iload_n X.1 X.2.1 d_M_sequence_221 rfl (lv_at hl 6 rfl) ?_
                              refine lv_sipush (v := iI 160) X.1 X.2.1 d_M_sequence_222 (by decide) ?_
                              refine lv_iload X.1 X.2.1 d_M_sequence_225 (lv_at hl 9 rfl) ?_
                              refine z_iadd X.1 X.2.1 d_M_sequence_227 ?_
                              refine r_ni (m_run (As := [.int (iI z110), .int (iI a3), .int (iI (160 + z124))]) (rest := []) (n := 3) X Y hZ hA hml hl.1 (r_M_element l D E h q H.size I109 J109 B109 G109 z110 (by omega) (by omega) a3 (by omega) (by omega) (160 + z124) (by omega) (by omega) S.1 mm ((S.2.2 0 (by decide)).trans gm) f112 (by omega) (by omega)) kl_M_element ks_M_element kx_M_element ki_M_element ini_M hd_M_element ⟨by simp only [mR]; omega, by simp only [mR]; omega⟩ rfl (Nat.le_of_ble_eq_true rfl) d_M_sequence_228 ⟨Nat.le_refl _, Nat.le_refl _⟩) X Y hA S (by decide) (by decide) (fun z164 u H locs Y S s164 p164 => ?_)
                              obtain ⟨I164, J164, B164, G164⟩ := u
                              dsimp only at Y S s164 p164
                              obtain ⟨l164, u164, x164, st164⟩ := p164
                              obtain ⟨x165, y165, ex165, ey165, lx165, ly165, uy165, dy165, iy165, ky165⟩ := st164
                              refine z_if_ne (tgt := 236) X.1 X.2.1 d_M_sequence_231 (by decide) ⟨by omega, by omega⟩ (fun h166 => ?_) (fun h166 => ?_)
                              · refine lv_aload_n X.1 X.2.1 d_M_sequence_236 rfl (lv_at hl 4 rfl) ?_
                                refine r_get0 X Y (by decide) lk_inside (gf_inside _ _ _) rfl ex165 d_M_sequence_237 ?_
                                refine lv_istore (lv' := [(11, .int (iI x165)), (10, .int (iI 1)), (6, .int (iI (z123 + 3))), (9, .int (iI z152)), (8, .int (iI 1)), (0, .ref h), (1, .ref ((D.2.1 a1))), (3, .int (iI a3)), (4, .int (iI ((-1)))), (5, .int (iI z110)), (7, .int (iI z124))]) X.1 X.2.1 d_M_sequence_240 hl (by decide) rfl (fun ls hl => ?_)
                                refine lv_aload_n X.1 X.2.1 d_M_sequence_242 rfl (lv_at hl 5 rfl) ?_
                                refine r_get0 X Y (by decide) lk_behind (gf_behind _ _ _) rfl ey165 d_M_sequence_243 ?_
                                refine lv_istore (lv' := [(12, .int (iI y165)), (11, .int (iI x165)), (10, .int (iI 1)), (6, .int (iI (z123 + 3))), (9, .int (iI z152)), (8, .int (iI 1)), (0, .ref h), (1, .ref ((D.2.1 a1))), (3, .int (iI a3)), (4, .int (iI ((-1)))), (5, .int (iI z110)), (7, .int (iI z124))]) X.1 X.2.1 d_M_sequence_246 hl (by decide) rfl (fun ls hl => ?_)
                                refine lv_aload_n X.1 X.2.1 d_M_sequence_248 rfl (lv_at hl 6 rfl) ?_
                                refine lv_iload X.1 X.2.1 d_M_sequence_249 (lv_at hl 4 rfl) ?_
                                refine lv_iload X.1 X.2.1 d_M_sequence_251 (lv_at hl 1 rfl) ?_
                                refine lv_iload X.1 X.2.1 d_M_sequence_253 (lv_at hl 0 rfl) ?_
                                refine r_ni (m_run (As := [.int (iI z152), .int (iI x165), .int (iI y165)]) (rest := []) (n := 3) X Y hZ hA hml hl.1 (his z152 (by rw [show z152 = fY a1 (z111).toNat by omega]; exact (fok_of hs i113.1 (by omega)).t) H.size I164 J164 B164 G164 x165 (by omega) (by omega) y165 (by omega) (by omega) S.1 ((S.2.2 0 (by decide)).trans gm) (show pG1 I164 from ⟨x165, y165, ex165, ey165, by omega, by omega, by omega, by omega⟩) (by omega) (by omega)) kl_M_is ks_M_is kx_M_is ki_M_is ini_M hd_M_is ⟨by simp only [mR]; omega, by simp only [mR]; omega⟩ rfl (Nat.le_of_ble_eq_true rfl) d_M_sequence_255 ⟨Nat.le_refl _, Nat.le_refl _⟩) X Y hA S (by decide) (by decide) (fun z167 u H locs Y S s167 p167 => ?_)
                                obtain ⟨I167, J167, B167, G167⟩ := u
                                dsimp only at Y S s167 p167
                                obtain ⟨l167, u167, x167, g167_P1⟩ := p167
                                rw [show z152 = fY a1 (z111).toNat by omega, show x165 = elI mm z110 a3 by omega, show y165 = elE mm z110 a3 by omega] at x167
                                refine z_if_ne (tgt := 263) X.1 X.2.1 d_M_sequence_258 (by decide) ⟨by omega, by omega⟩ (fun h168 => ?_) (fun h168 => ?_)
                                · refine lv_iload X.1 X.2.1 d_M_sequence_263 (lv_at hl 9 rfl) ?_
                                  refine z_if_lt (tgt := 298) X.1 X.2.1 d_M_sequence_265 (by decide) ⟨by omega, by omega⟩ (fun h169 => ?_) (fun h169 => False.elim (by omega))
                                  · refine lv_iload X.1 X.2.1 d_M_sequence_298 (lv_at hl 0 rfl) ?_
                                    refine lv_istore (lv' := [(5, .int (iI y165)), (12, .int (iI y165)), (11, .int (iI x165)), (10, .int (iI 1)), (6, .int (iI (z123 + 3))), (9, .int (iI z152)), (8, .int (iI 1)), (0, .ref h), (1, .ref ((D.2.1 a1))), (3, .int (iI a3)), (4, .int (iI ((-1)))), (7, .int (iI z124))]) X.1 X.2.1 d_M_sequence_300 hl (by decide) rfl (fun ls hl => ?_)
                                    refine lv_goto (tgt := 71) X.1 X.2.1 d_M_sequence_302 (by decide) ?_
                                    exact ih117 ((64 - (z123 + 3)).toNat) (by omega) y165 (z123 + 3) I167 J167 B167 G167 _ _ _ rfl (by omega) (by omega) (by omega) (by omega) g167_P1 (by rw [show z123 + 3 = (fE a1 (z111).toNat : Int) by omega, show y165 = elE mm z110 a3 by omega]; exact (sqJ_take hs i113 (by omega) (by omega) (by unfold thr; omega)).2 (x164.mp (by omega)).2 (x167.mp (by omega))) (by omega) (by omega) Y S (lv_sub hl [7, 8, 9, 10, 0, 4] rfl)
                                · refine lv_iconst (v := iI 0) X.1 X.2.1 d_M_sequence_261 (by decide) ?_
                                  exact m_retz hQQ X Y hr hlk (iI_bool (by omega) (by omega)).1 ⟨S, 0, rfl, ⟨by omega, by omega, iff_f (fun h9 => (sqJ_take hs i113 (by omega) (by omega) (by unfold thr; omega)).1 (fun h8 => by have h7 := x167.mpr h8.2; omega) h9.2), g167_P1⟩⟩ d_M_sequence_262
                              · refine lv_iconst (v := iI 0) X.1 X.2.1 d_M_sequence_234 (by decide) ?_
                                exact m_retz hQQ X Y hr hlk (iI_bool (by omega) (by omega)).1 ⟨S, 0, rfl, ⟨by omega, by omega, iff_f (fun h9 => (sqJ_take hs i113 (by omega) (by omega) (by unfold thr; omega)).1 (fun h8 => by have h7 := x164.mpr ⟨by omega, h8.1⟩; omega) h9.2), (show pG1 I164 from ⟨x165, y165, ex165, ey165, by omega, by omega, by omega, by omega⟩)⟩⟩ d_M_sequence_235
                · refine lv_aload_n X.1 X.2.1 d_M_sequence_94 rfl (lv_at hl 1 rfl) ?_
                  refine lv_iload X.1 X.2.1 d_M_sequence_95 (lv_at hl 5 rfl) ?_
                  refine r_charAt (i := a1) X Y hZ k1 (by omega) (by omega) hml hl.1 ⟨by simp only [mR]; omega, by simp only [mR]; omega⟩ (Nat.le_of_ble_eq_true rfl) d_M_sequence_97 ⟨Nat.le_refl _, Nat.le_refl _⟩ (fun H locs z170 Y e170 l170 u170 => ?_)
                  have c170 := cz_of k1 (by omega) (by omega) e170 l170 u170
                  refine lv_bipush (v := iI 57) X.1 X.2.1 d_M_sequence_100 (by decide) ?_
                  refine z_icmp_gt (tgt := 128) X.1 X.2.1 d_M_sequence_102 (by decide) ⟨by omega, by omega⟩ ⟨by omega, by omega⟩ (fun h171 => ?_) (fun h171 => ?_)
                  · have ex : z123 = z111 + fW a1 (z111).toNat ∧ z124 = fN a1 (z111).toNat := by rcases dg.2 with ⟨d1, d2, _, _⟩ | ⟨_, d2, d3⟩; (exact False.elim (by omega)); (exact ⟨d2, d3⟩)
                    have my := f_may hs (by omega) i113.1 (by omega) ex.1
                    have ex : z123 = z111 + fW a1 (z111).toNat ∧ z124 = fN a1 (z111).toNat := by rcases dg.2 with ⟨d1, d2, _, _⟩ | ⟨_, d2, d3⟩; (exact False.elim (by omega)); (exact ⟨d2, d3⟩)
                    have my := f_may hs (by omega) i113.1 (by omega) ex.1
                    refine lv_aload_n X.1 X.2.1 d_M_sequence_128 rfl (lv_at hl 1 rfl) ?_
                    refine lv_iload X.1 X.2.1 d_M_sequence_129 (lv_at hl 5 rfl) ?_
                    refine r_charAt (i := a1) X Y hZ k1 (by omega) (by omega) hml hl.1 ⟨by simp only [mR]; omega, by simp only [mR]; omega⟩ (Nat.le_of_ble_eq_true rfl) d_M_sequence_131 ⟨Nat.le_refl _, Nat.le_refl _⟩ (fun H locs z172 Y e172 l172 u172 => ?_)
                    have c172 := cz_of k1 (by omega) (by omega) e172 l172 u172
                    refine lv_bipush (v := iI 63) X.1 X.2.1 d_M_sequence_134 (by decide) ?_
                    refine z_icmp_ne (tgt := 143) X.1 X.2.1 d_M_sequence_136 (by decide) ⟨by omega, by omega⟩ ⟨by omega, by omega⟩ (fun h173 => ?_) (fun h173 => ?_)
                    · refine lv_iconst (v := iI 0) X.1 X.2.1 d_M_sequence_143 (by decide) ?_
                      refine lv_istore (lv' := [(8, .int (iI 0)), (0, .ref h), (1, .ref ((D.2.1 a1))), (3, .int (iI a3)), (4, .int (iI ((-1)))), (5, .int (iI z110)), (6, .int (iI z123)), (7, .int (iI z124))]) X.1 X.2.1 d_M_sequence_144 hl (by decide) rfl (fun ls hl => ?_)
                      refine lv_iload X.1 X.2.1 d_M_sequence_146 (lv_at hl 0 rfl) ?_
                      refine z_if_eq (tgt := 154) X.1 X.2.1 d_M_sequence_148 (by decide) ⟨by omega, by omega⟩ (fun h174 => ?_) (fun h174 => False.elim (by omega))
                      · refine lv_aload_n X.1 X.2.1 d_M_sequence_154 rfl (lv_at hl 2 rfl) ?_
                        refine lv_iload X.1 X.2.1 d_M_sequence_155 (lv_at hl 6 rfl) ?_
                        refine r_charAt (i := a1) X Y hZ k1 (by omega) (by omega) hml hl.1 ⟨by simp only [mR]; omega, by simp only [mR]; omega⟩ (Nat.le_of_ble_eq_true rfl) d_M_sequence_157 ⟨Nat.le_refl _, Nat.le_refl _⟩ (fun H locs z175 Y e175 l175 u175 => ?_)
                        have c175 := cz_of k1 (by omega) (by omega) e175 l175 u175
                        refine lv_istore (lv' := [(9, .int (iI z175)), (8, .int (iI 0)), (0, .ref h), (1, .ref ((D.2.1 a1))), (3, .int (iI a3)), (4, .int (iI ((-1)))), (5, .int (iI z110)), (6, .int (iI z123)), (7, .int (iI z124))]) X.1 X.2.1 d_M_sequence_160 hl (by decide) rfl (fun ls hl => ?_)
                        refine lv_iinc (v := iI (z123 + 2)) (lv' := [(6, .int (iI (z123 + 2))), (9, .int (iI z175)), (8, .int (iI 0)), (0, .ref h), (1, .ref ((D.2.1 a1))), (3, .int (iI a3)), (4, .int (iI ((-1)))), (5, .int (iI z110)), (7, .int (iI z124))]) X.1 X.2.1 d_M_sequence_162 hl (k := 7) rfl ((iI_add _ _).trans (congrArg iI (by omega))) (by decide) rfl (fun ls hl => ?_)
                        refine lv_iload X.1 X.2.1 d_M_sequence_165 (lv_at hl 7 rfl) ?_
                        refine lv_iload_n X.1 X.2.1 d_M_sequence_167 rfl (lv_at hl 5 rfl) ?_
                        refine z_icmp_ge (tgt := 195) X.1 X.2.1 d_M_sequence_168 (by decide) ⟨by omega, by omega⟩ ⟨by omega, by omega⟩ (fun h176 => ?_) (fun h176 => ?_)
                        · refine lv_iconst (v := iI 0) X.1 X.2.1 d_M_sequence_195 (by decide) ?_
                          refine lv_istore (lv' := [(10, .int (iI 0)), (6, .int (iI (z123 + 2))), (9, .int (iI z175)), (8, .int (iI 0)), (0, .ref h), (1, .ref ((D.2.1 a1))), (3, .int (iI a3)), (4, .int (iI ((-1)))), (5, .int (iI z110)), (7, .int (iI z124))]) X.1 X.2.1 d_M_sequence_196 hl (by decide) rfl (fun ls hl => ?_)
                          refine lv_iload X.1 X.2.1 d_M_sequence_198 (lv_at hl 0 rfl) ?_
                          refine z_if_ne (tgt := 210) X.1 X.2.1 d_M_sequence_200 (by decide) ⟨by omega, by omega⟩ (fun h177 => False.elim (by omega)) (fun h177 => ?_)
                          · refine lv_iload X.1 X.2.1 d_M_sequence_203 (lv_at hl 3 rfl) ?_
                            refine z_if_ne (tgt := 210) X.1 X.2.1 d_M_sequence_205 (by decide) ⟨by omega, by omega⟩ (fun h178 => False.elim (by omega)) (fun h178 => ?_)
                            · refine lv_iconst (v := iI 0) X.1 X.2.1 d_M_sequence_208 (by decide) ?_
                              exact m_retz hQQ X Y hr hlk (iI_bool (by omega) (by omega)).1 ⟨S, 0, rfl, ⟨by omega, by omega, iff_f (fun h9 => (sqJ_skip hs i113 (by omega) (by omega) (by unfold thr; omega)).1 (by omega) h9.2), f112⟩⟩ d_M_sequence_209
                        · refine lv_aload_n X.1 X.2.1 d_M_sequence_171 rfl (lv_at hl 3 rfl) ?_
                          refine m_get X Y 0 (by decide) lk_mem (gf_mem _ _ _) rfl d_M_sequence_172 ?_
                          refine lv_iload X.1 X.2.1 d_M_sequence_175 (lv_at hl 7 rfl) ?_
                          refine r_bald X Y S (aw_mem _ _ _ _ _ _ _) rfl (by omega) (show z110 < ((60000 : Nat) : Int) by omega) (by omega) d_M_sequence_177 (fun z179 q179 l179 u179 => ?_)
                          rw [(S.2.2 0 (by decide)).trans gm] at q179
                          have g179 : gb mm z110 = z179 % 256 := by unfold gb; rw [← q179]
                          have s179 : sg mm z110 = z179 := by unfold sg; rw [← q179]
                          refine lv_sipush (v := iI 255) X.1 X.2.1 d_M_sequence_178 (by decide) ?_
                          refine z_iand255 X.1 X.2.1 d_M_sequence_181 ?_
                          refine lv_sipush (v := iI 160) X.1 X.2.1 d_M_sequence_182 (by decide) ?_
                          refine lv_iload X.1 X.2.1 d_M_sequence_185 (lv_at hl 8 rfl) ?_
                          refine z_iadd X.1 X.2.1 d_M_sequence_187 ?_
                          refine z_icmp_ne (tgt := 195) X.1 X.2.1 d_M_sequence_188 (by decide) ⟨by omega, by omega⟩ ⟨by omega, by omega⟩ (fun h180 => ?_) (fun h180 => ?_)
                          · refine lv_iconst (v := iI 0) X.1 X.2.1 d_M_sequence_195 (by decide) ?_
                            refine lv_istore (lv' := [(10, .int (iI 0)), (6, .int (iI (z123 + 2))), (9, .int (iI z175)), (8, .int (iI 0)), (0, .ref h), (1, .ref ((D.2.1 a1))), (3, .int (iI a3)), (4, .int (iI ((-1)))), (5, .int (iI z110)), (7, .int (iI z124))]) X.1 X.2.1 d_M_sequence_196 hl (by decide) rfl (fun ls hl => ?_)
                            refine lv_iload X.1 X.2.1 d_M_sequence_198 (lv_at hl 0 rfl) ?_
                            refine z_if_ne (tgt := 210) X.1 X.2.1 d_M_sequence_200 (by decide) ⟨by omega, by omega⟩ (fun h181 => False.elim (by omega)) (fun h181 => ?_)
                            · refine lv_iload X.1 X.2.1 d_M_sequence_203 (lv_at hl 3 rfl) ?_
                              refine z_if_ne (tgt := 210) X.1 X.2.1 d_M_sequence_205 (by decide) ⟨by omega, by omega⟩ (fun h182 => False.elim (by omega)) (fun h182 => ?_)
                              · refine lv_iconst (v := iI 0) X.1 X.2.1 d_M_sequence_208 (by decide) ?_
                                exact m_retz hQQ X Y hr hlk (iI_bool (by omega) (by omega)).1 ⟨S, 0, rfl, ⟨by omega, by omega, iff_f (fun h9 => (sqJ_skip hs i113 (by omega) (by omega) (by unfold thr; omega)).1 (by omega) h9.2), f112⟩⟩ d_M_sequence_209
                          · refine lv_iconst (v := iI 1) X.1 X.2.1 d_M_sequence_191 (by decide) ?_
                            refine lv_goto (tgt := 196) X.1 X.2.1 d_M_sequence_192 (by decide) ?_
                            refine lv_istore (lv' := [(10, .int (iI 1)), (6, .int (iI (z123 + 2))), (9, .int (iI z175)), (8, .int (iI 0)), (0, .ref h), (1, .ref ((D.2.1 a1))), (3, .int (iI a3)), (4, .int (iI ((-1)))), (5, .int (iI z110)), (7, .int (iI z124))]) X.1 X.2.1 d_M_sequence_196 hl (by decide) rfl (fun ls hl => ?_)
                            refine lv_iload X.1 X.2.1 d_M_sequence_198 (lv_at hl 0 rfl) ?_
                            refine z_if_ne (tgt := 210) X.1 X.2.1 d_M_sequence_200 (by decide) ⟨by omega, by omega⟩ (fun h183 => ?_) (fun h183 => False.elim (by omega))
                            · refine lv_iload X.1 X.2.1 d_M_sequence_210 (lv_at hl 0 rfl) ?_
                              refine z_if_ne (tgt := 218) X.1 X.2.1 d_M_sequence_212 (by decide) ⟨by omega, by omega⟩ (fun h184 => ?_) (fun h184 => False.elim (by omega))
                              · refine lv_aload_n X.1 X.2.1 d_M_sequence_218 rfl (lv_at hl 4 rfl) ?_
                                refine lv_iload X.1 X.2.1 d_M_sequence_219 (lv_at hl 8 rfl) ?_
                                refine lv_iload_n X.1 X.2.1 d_M_sequence_221 rfl (lv_at hl 6 rfl) ?_
                                refine lv_sipush (v := iI 160) X.1 X.2.1 d_M_sequence_222 (by decide) ?_
                                refine lv_iload X.1 X.2.1 d_M_sequence_225 (lv_at hl 9 rfl) ?_
                                refine z_iadd X.1 X.2.1 d_M_sequence_227 ?_
                                refine r_ni (m_run (As := [.int (iI z110), .int (iI a3), .int (iI (160 + z124))]) (rest := []) (n := 3) X Y hZ hA hml hl.1 (r_M_element l D E h q H.size I109 J109 B109 G109 z110 (by omega) (by omega) a3 (by omega) (by omega) (160 + z124) (by omega) (by omega) S.1 mm ((S.2.2 0 (by decide)).trans gm) f112 (by omega) (by omega)) kl_M_element ks_M_element kx_M_element ki_M_element ini_M hd_M_element ⟨by simp only [mR]; omega, by simp only [mR]; omega⟩ rfl (Nat.le_of_ble_eq_true rfl) d_M_sequence_228 ⟨Nat.le_refl _, Nat.le_refl _⟩) X Y hA S (by decide) (by decide) (fun z185 u H locs Y S s185 p185 => ?_)
                                obtain ⟨I185, J185, B185, G185⟩ := u
                                dsimp only at Y S s185 p185
                                obtain ⟨l185, u185, x185, st185⟩ := p185
                                obtain ⟨x186, y186, ex186, ey186, lx186, ly186, uy186, dy186, iy186, ky186⟩ := st185
                                refine z_if_ne (tgt := 236) X.1 X.2.1 d_M_sequence_231 (by decide) ⟨by omega, by omega⟩ (fun h187 => ?_) (fun h187 => ?_)
                                · refine lv_aload_n X.1 X.2.1 d_M_sequence_236 rfl (lv_at hl 4 rfl) ?_
                                  refine r_get0 X Y (by decide) lk_inside (gf_inside _ _ _) rfl ex186 d_M_sequence_237 ?_
                                  refine lv_istore (lv' := [(11, .int (iI x186)), (10, .int (iI 1)), (6, .int (iI (z123 + 2))), (9, .int (iI z175)), (8, .int (iI 0)), (0, .ref h), (1, .ref ((D.2.1 a1))), (3, .int (iI a3)), (4, .int (iI ((-1)))), (5, .int (iI z110)), (7, .int (iI z124))]) X.1 X.2.1 d_M_sequence_240 hl (by decide) rfl (fun ls hl => ?_)
                                  refine lv_aload_n X.1 X.2.1 d_M_sequence_242 rfl (lv_at hl 5 rfl) ?_
                                  refine r_get0 X Y (by decide) lk_behind (gf_behind _ _ _) rfl ey186 d_M_sequence_243 ?_
                                  refine lv_istore (lv' := [(12, .int (iI y186)), (11, .int (iI x186)), (10, .int (iI 1)), (6, .int (iI (z123 + 2))), (9, .int (iI z175)), (8, .int (iI 0)), (0, .ref h), (1, .ref ((D.2.1 a1))), (3, .int (iI a3)), (4, .int (iI ((-1)))), (5, .int (iI z110)), (7, .int (iI z124))]) X.1 X.2.1 d_M_sequence_246 hl (by decide) rfl (fun ls hl => ?_)
                                  refine lv_aload_n X.1 X.2.1 d_M_sequence_248 rfl (lv_at hl 6 rfl) ?_
                                  refine lv_iload X.1 X.2.1 d_M_sequence_249 (lv_at hl 4 rfl) ?_
                                  refine lv_iload X.1 X.2.1 d_M_sequence_251 (lv_at hl 1 rfl) ?_
                                  refine lv_iload X.1 X.2.1 d_M_sequence_253 (lv_at hl 0 rfl) ?_
                                  refine r_ni (m_run (As := [.int (iI z175), .int (iI x186), .int (iI y186)]) (rest := []) (n := 3) X Y hZ hA hml hl.1 (his z175 (by rw [show z175 = fY a1 (z111).toNat by omega]; exact (fok_of hs i113.1 (by omega)).t) H.size I185 J185 B185 G185 x186 (by omega) (by omega) y186 (by omega) (by omega) S.1 ((S.2.2 0 (by decide)).trans gm) (show pG1 I185 from ⟨x186, y186, ex186, ey186, by omega, by omega, by omega, by omega⟩) (by omega) (by omega)) kl_M_is ks_M_is kx_M_is ki_M_is ini_M hd_M_is ⟨by simp only [mR]; omega, by simp only [mR]; omega⟩ rfl (Nat.le_of_ble_eq_true rfl) d_M_sequence_255 ⟨Nat.le_refl _, Nat.le_refl _⟩) X Y hA S (by decide) (by decide) (fun z188 u H locs Y S s188 p188 => ?_)
                                  obtain ⟨I188, J188, B188, G188⟩ := u
                                  dsimp only at Y S s188 p188
                                  obtain ⟨l188, u188, x188, g188_P1⟩ := p188
                                  rw [show z175 = fY a1 (z111).toNat by omega, show x186 = elI mm z110 a3 by omega, show y186 = elE mm z110 a3 by omega] at x188
                                  refine z_if_ne (tgt := 263) X.1 X.2.1 d_M_sequence_258 (by decide) ⟨by omega, by omega⟩ (fun h189 => ?_) (fun h189 => ?_)
                                  · refine lv_iload X.1 X.2.1 d_M_sequence_263 (lv_at hl 9 rfl) ?_
                                    refine z_if_lt (tgt := 298) X.1 X.2.1 d_M_sequence_265 (by decide) ⟨by omega, by omega⟩ (fun h190 => ?_) (fun h190 => False.elim (by omega))
                                    · refine lv_iload X.1 X.2.1 d_M_sequence_298 (lv_at hl 0 rfl) ?_
                                      refine lv_istore (lv' := [(5, .int (iI y186)), (12, .int (iI y186)), (11, .int (iI x186)), (10, .int (iI 1)), (6, .int (iI (z123 + 2))), (9, .int (iI z175)), (8, .int (iI 0)), (0, .ref h), (1, .ref ((D.2.1 a1))), (3, .int (iI a3)), (4, .int (iI ((-1)))), (7, .int (iI z124))]) X.1 X.2.1 d_M_sequence_300 hl (by decide) rfl (fun ls hl => ?_)
                                      refine lv_goto (tgt := 71) X.1 X.2.1 d_M_sequence_302 (by decide) ?_
                                      exact ih117 ((64 - (z123 + 2)).toNat) (by omega) y186 (z123 + 2) I188 J188 B188 G188 _ _ _ rfl (by omega) (by omega) (by omega) (by omega) g188_P1 (by rw [show z123 + 2 = (fE a1 (z111).toNat : Int) by omega, show y186 = elE mm z110 a3 by omega]; exact (sqJ_take hs i113 (by omega) (by omega) (by unfold thr; omega)).2 (x185.mp (by omega)).2 (x188.mp (by omega))) (by omega) (by omega) Y S (lv_sub hl [7, 8, 9, 10, 0, 4] rfl)
                                  · refine lv_iconst (v := iI 0) X.1 X.2.1 d_M_sequence_261 (by decide) ?_
                                    exact m_retz hQQ X Y hr hlk (iI_bool (by omega) (by omega)).1 ⟨S, 0, rfl, ⟨by omega, by omega, iff_f (fun h9 => (sqJ_take hs i113 (by omega) (by omega) (by unfold thr; omega)).1 (fun h8 => by have h7 := x188.mpr h8.2; omega) h9.2), g188_P1⟩⟩ d_M_sequence_262
                                · refine lv_iconst (v := iI 0) X.1 X.2.1 d_M_sequence_234 (by decide) ?_
                                  exact m_retz hQQ X Y hr hlk (iI_bool (by omega) (by omega)).1 ⟨S, 0, rfl, ⟨by omega, by omega, iff_f (fun h9 => (sqJ_take hs i113 (by omega) (by omega) (by unfold thr; omega)).1 (fun h8 => by have h7 := x185.mpr ⟨by omega, h8.1⟩; omega) h9.2), (show pG1 I185 from ⟨x186, y186, ex186, ey186, by omega, by omega, by omega, by omega⟩)⟩⟩ d_M_sequence_235
                    · refine lv_iconst (v := iI 1) X.1 X.2.1 d_M_sequence_139 (by decide) ?_
                      refine lv_goto (tgt := 144) X.1 X.2.1 d_M_sequence_140 (by decide) ?_
                      refine lv_istore (lv' := [(8, .int (iI 1)), (0, .ref h), (1, .ref ((D.2.1 a1))), (3, .int (iI a3)), (4, .int (iI ((-1)))), (5, .int (iI z110)), (6, .int (iI z123)), (7, .int (iI z124))]) X.1 X.2.1 d_M_sequence_144 hl (by decide) rfl (fun ls hl => ?_)
                      refine lv_iload X.1 X.2.1 d_M_sequence_146 (lv_at hl 0 rfl) ?_
                      refine z_if_eq (tgt := 154) X.1 X.2.1 d_M_sequence_148 (by decide) ⟨by omega, by omega⟩ (fun h191 => False.elim (by omega)) (fun h191 => ?_)
                      · refine lv_iinc (v := iI (z123 + 1)) (lv' := [(6, .int (iI (z123 + 1))), (8, .int (iI 1)), (0, .ref h), (1, .ref ((D.2.1 a1))), (3, .int (iI a3)), (4, .int (iI ((-1)))), (5, .int (iI z110)), (7, .int (iI z124))]) X.1 X.2.1 d_M_sequence_151 hl (k := 6) rfl ((iI_add _ _).trans (congrArg iI (by omega))) (by decide) rfl (fun ls hl => ?_)
                        refine lv_aload_n X.1 X.2.1 d_M_sequence_154 rfl (lv_at hl 3 rfl) ?_
                        refine lv_iload X.1 X.2.1 d_M_sequence_155 (lv_at hl 0 rfl) ?_
                        refine r_charAt (i := a1) X Y hZ k1 (by omega) (by omega) hml hl.1 ⟨by simp only [mR]; omega, by simp only [mR]; omega⟩ (Nat.le_of_ble_eq_true rfl) d_M_sequence_157 ⟨Nat.le_refl _, Nat.le_refl _⟩ (fun H locs z192 Y e192 l192 u192 => ?_)
                        have c192 := cz_of k1 (by omega) (by omega) e192 l192 u192
                        refine lv_istore (lv' := [(9, .int (iI z192)), (6, .int (iI (z123 + 1))), (8, .int (iI 1)), (0, .ref h), (1, .ref ((D.2.1 a1))), (3, .int (iI a3)), (4, .int (iI ((-1)))), (5, .int (iI z110)), (7, .int (iI z124))]) X.1 X.2.1 d_M_sequence_160 hl (by decide) rfl (fun ls hl => ?_)
                        refine lv_iinc (v := iI (z123 + 3)) (lv' := [(6, .int (iI (z123 + 3))), (9, .int (iI z192)), (8, .int (iI 1)), (0, .ref h), (1, .ref ((D.2.1 a1))), (3, .int (iI a3)), (4, .int (iI ((-1)))), (5, .int (iI z110)), (7, .int (iI z124))]) X.1 X.2.1 d_M_sequence_162 hl (k := 1) rfl ((iI_add _ _).trans (congrArg iI (by omega))) (by decide) rfl (fun ls hl => ?_)
                        refine lv_iload X.1 X.2.1 d_M_sequence_165 (lv_at hl 7 rfl) ?_
                        refine lv_iload_n X.1 X.2.1 d_M_sequence_167 rfl (lv_at hl 5 rfl) ?_
                        refine z_icmp_ge (tgt := 195) X.1 X.2.1 d_M_sequence_168 (by decide) ⟨by omega, by omega⟩ ⟨by omega, by omega⟩ (fun h193 => ?_) (fun h193 => ?_)
                        · refine lv_iconst (v := iI 0) X.1 X.2.1 d_M_sequence_195 (by decide) ?_
                          refine lv_istore (lv' := [(10, .int (iI 0)), (6, .int (iI (z123 + 3))), (9, .int (iI z192)), (8, .int (iI 1)), (0, .ref h), (1, .ref ((D.2.1 a1))), (3, .int (iI a3)), (4, .int (iI ((-1)))), (5, .int (iI z110)), (7, .int (iI z124))]) X.1 X.2.1 d_M_sequence_196 hl (by decide) rfl (fun ls hl => ?_)
                          refine lv_iload X.1 X.2.1 d_M_sequence_198 (lv_at hl 0 rfl) ?_
                          refine z_if_ne (tgt := 210) X.1 X.2.1 d_M_sequence_200 (by decide) ⟨by omega, by omega⟩ (fun h194 => False.elim (by omega)) (fun h194 => ?_)
                          · refine lv_iload X.1 X.2.1 d_M_sequence_203 (lv_at hl 3 rfl) ?_
                            refine z_if_ne (tgt := 210) X.1 X.2.1 d_M_sequence_205 (by decide) ⟨by omega, by omega⟩ (fun h195 => ?_) (fun h195 => False.elim (by omega))
                            · refine lv_iload X.1 X.2.1 d_M_sequence_210 (lv_at hl 0 rfl) ?_
                              refine z_if_ne (tgt := 218) X.1 X.2.1 d_M_sequence_212 (by decide) ⟨by omega, by omega⟩ (fun h196 => False.elim (by omega)) (fun h196 => ?_)
                              · refine lv_goto (tgt := 71) X.1 X.2.1 d_M_sequence_215 (by decide) ?_
                                exact ih117 ((64 - (z123 + 3)).toNat) (by omega) z110 (z123 + 3) I109 J109 B109 G109 _ _ _ rfl (by omega) (by omega) (by omega) (by omega) f112 (by rw [show z123 + 3 = (fE a1 (z111).toNat : Int) by omega]; exact (sqJ_skip hs i113 (by omega) (by omega) (by unfold thr; omega)).2 (by omega)) (by omega) (by omega) Y S (lv_sub hl [4, 5, 6, 7, 8, 1] rfl)
                        · refine lv_aload_n X.1 X.2.1 d_M_sequence_171 rfl (lv_at hl 3 rfl) ?_
                          refine m_get X Y 0 (by decide) lk_mem (gf_mem _ _ _) rfl d_M_sequence_172 ?_
                          refine lv_iload X.1 X.2.1 d_M_sequence_175 (lv_at hl 7 rfl) ?_
                          refine r_bald X Y S (aw_mem _ _ _ _ _ _ _) rfl (by omega) (show z110 < ((60000 : Nat) : Int) by omega) (by omega) d_M_sequence_177 (fun z197 q197 l197 u197 => ?_)
                          rw [(S.2.2 0 (by decide)).trans gm] at q197
                          have g197 : gb mm z110 = z197 % 256 := by unfold gb; rw [← q197]
                          have s197 : sg mm z110 = z197 := by unfold sg; rw [← q197]
                          refine lv_sipush (v := iI 255) X.1 X.2.1 d_M_sequence_178 (by decide) ?_
                          refine z_iand255 X.1 X.2.1 d_M_sequence_181 ?_
                          refine lv_sipush (v := iI 160) X.1 X.2.1 d_M_sequence_182 (by decide) ?_
                          refine lv_iload X.1 X.2.1 d_M_sequence_185 (lv_at hl 8 rfl) ?_
                          refine z_iadd X.1 X.2.1 d_M_sequence_187 ?_
                          refine z_icmp_ne (tgt := 195) X.1 X.2.1 d_M_sequence_188 (by decide) ⟨by omega, by omega⟩ ⟨by omega, by omega⟩ (fun h198 => ?_) (fun h198 => ?_)
                          · refine lv_iconst (v := iI 0) X.1 X.2.1 d_M_sequence_195 (by decide) ?_
                            refine lv_istore (lv' := [(10, .int (iI 0)), (6, .int (iI (z123 + 3))), (9, .int (iI z192)), (8, .int (iI 1)), (0, .ref h), (1, .ref ((D.2.1 a1))), (3, .int (iI a3)), (4, .int (iI ((-1)))), (5, .int (iI z110)), (7, .int (iI z124))]) X.1 X.2.1 d_M_sequence_196 hl (by decide) rfl (fun ls hl => ?_)
                            refine lv_iload X.1 X.2.1 d_M_sequence_198 (lv_at hl 0 rfl) ?_
                            refine z_if_ne (tgt := 210) X.1 X.2.1 d_M_sequence_200 (by decide) ⟨by omega, by omega⟩ (fun h199 => False.elim (by omega)) (fun h199 => ?_)
                            · refine lv_iload X.1 X.2.1 d_M_sequence_203 (lv_at hl 3 rfl) ?_
                              refine z_if_ne (tgt := 210) X.1 X.2.1 d_M_sequence_205 (by decide) ⟨by omega, by omega⟩ (fun h200 => ?_) (fun h200 => False.elim (by omega))
                              · refine lv_iload X.1 X.2.1 d_M_sequence_210 (lv_at hl 0 rfl) ?_
                                refine z_if_ne (tgt := 218) X.1 X.2.1 d_M_sequence_212 (by decide) ⟨by omega, by omega⟩ (fun h201 => False.elim (by omega)) (fun h201 => ?_)
                                · refine lv_goto (tgt := 71) X.1 X.2.1 d_M_sequence_215 (by decide) ?_
                                  exact ih117 ((64 - (z123 + 3)).toNat) (by omega) z110 (z123 + 3) I109 J109 B109 G109 _ _ _ rfl (by omega) (by omega) (by omega) (by omega) f112 (by rw [show z123 + 3 = (fE a1 (z111).toNat : Int) by omega]; exact (sqJ_skip hs i113 (by omega) (by omega) (by unfold thr; omega)).2 (by omega)) (by omega) (by omega) Y S (lv_sub hl [4, 5, 6, 7, 8, 1] rfl)
                          · refine lv_iconst (v := iI 1) X.1 X.2.1 d_M_sequence_191 (by decide) ?_
                            refine lv_goto (tgt := 196) X.1 X.2.1 d_M_sequence_192 (by decide) ?_
                            refine lv_istore (lv' := [(10, .int (iI 1)), (6, .int (iI (z123 + 3))), (9, .int (iI z192)), (8, .int (iI 1)), (0, .ref h), (1, .ref ((D.2.1 a1))), (3, .int (iI a3)), (4, .int (iI ((-1)))), (5, .int (iI z110)), (7, .int (iI z124))]) X.1 X.2.1 d_M_sequence_196 hl (by decide) rfl (fun ls hl => ?_)
                            refine lv_iload X.1 X.2.1 d_M_sequence_198 (lv_at hl 0 rfl) ?_
                            refine z_if_ne (tgt := 210) X.1 X.2.1 d_M_sequence_200 (by decide) ⟨by omega, by omega⟩ (fun h202 => ?_) (fun h202 => False.elim (by omega))
                            · refine lv_iload X.1 X.2.1 d_M_sequence_210 (lv_at hl 0 rfl) ?_
                              refine z_if_ne (tgt := 218) X.1 X.2.1 d_M_sequence_212 (by decide) ⟨by omega, by omega⟩ (fun h203 => ?_) (fun h203 => False.elim (by omega))
                              · refine lv_aload_n X.1 X.2.1 d_M_sequence_218 rfl (lv_at hl 4 rfl) ?_
                                refine lv_iload X.1 X.2.1 d_M_sequence_219 (lv_at hl 8 rfl) ?_
                                refine lv_iload_n X.1 X.2.1 d_M_sequence_221 rfl (lv_at hl 6 rfl) ?_
                                refine lv_sipush (v := iI 160) X.1 X.2.1 d_M_sequence_222 (by decide) ?_
                                refine lv_iload X.1 X.2.1 d_M_sequence_225 (lv_at hl 9 rfl) ?_
                                refine z_iadd X.1 X.2.1 d_M_sequence_227 ?_
                                refine r_ni (m_run (As := [.int (iI z110), .int (iI a3), .int (iI (160 + z124))]) (rest := []) (n := 3) X Y hZ hA hml hl.1 (r_M_element l D E h q H.size I109 J109 B109 G109 z110 (by omega) (by omega) a3 (by omega) (by omega) (160 + z124) (by omega) (by omega) S.1 mm ((S.2.2 0 (by decide)).trans gm) f112 (by omega) (by omega)) kl_M_element ks_M_element kx_M_element ki_M_element ini_M hd_M_element ⟨by simp only [mR]; omega, by simp only [mR]; omega⟩ rfl (Nat.le_of_ble_eq_true rfl) d_M_sequence_228 ⟨Nat.le_refl _, Nat.le_refl _⟩) X Y hA S (by decide) (by decide) (fun z204 u H locs Y S s204 p204 => ?_)
                                obtain ⟨I204, J204, B204, G204⟩ := u
                                dsimp only at Y S s204 p204
                                obtain ⟨l204, u204, x204, st204⟩ := p204
                                obtain ⟨x205, y205, ex205, ey205, lx205, ly205, uy205, dy205, iy205, ky205⟩ := st204
                                refine z_if_ne (tgt := 236) X.1 X.2.1 d_M_sequence_231 (by decide) ⟨by omega, by omega⟩ (fun h206 => ?_) (fun h206 => ?_)
                                · refine lv_aload_n X.1 X.2.1 d_M_sequence_236 rfl (lv_at hl 4 rfl) ?_
                                  refine r_get0 X Y (by decide) lk_inside (gf_inside _ _ _) rfl ex205 d_M_sequence_237 ?_
                                  refine lv_istore (lv' := [(11, .int (iI x205)), (10, .int (iI 1)), (6, .int (iI (z123 + 3))), (9, .int (iI z192)), (8, .int (iI 1)), (0, .ref h), (1, .ref ((D.2.1 a1))), (3, .int (iI a3)), (4, .int (iI ((-1)))), (5, .int (iI z110)), (7, .int (iI z124))]) X.1 X.2.1 d_M_sequence_240 hl (by decide) rfl (fun ls hl => ?_)
                                  refine lv_aload_n X.1 X.2.1 d_M_sequence_242 rfl (lv_at hl 5 rfl) ?_
                                  refine r_get0 X Y (by decide) lk_behind (gf_behind _ _ _) rfl ey205 d_M_sequence_243 ?_
                                  refine lv_istore (lv' := [(12, .int (iI y205)), (11, .int (iI x205)), (10, .int (iI 1)), (6, .int (iI (z123 + 3))), (9, .int (iI z192)), (8, .int (iI 1)), (0, .ref h), (1, .ref ((D.2.1 a1))), (3, .int (iI a3)), (4, .int (iI ((-1)))), (5, .int (iI z110)), (7, .int (iI z124))]) X.1 X.2.1 d_M_sequence_246 hl (by decide) rfl (fun ls hl => ?_)
                                  refine lv_aload_n X.1 X.2.1 d_M_sequence_248 rfl (lv_at hl 6 rfl) ?_
                                  refine lv_iload X.1 X.2.1 d_M_sequence_249 (lv_at hl 4 rfl) ?_
                                  refine lv_iload X.1 X.2.1 d_M_sequence_251 (lv_at hl 1 rfl) ?_
                                  refine lv_iload X.1 X.2.1 d_M_sequence_253 (lv_at hl 0 rfl) ?_
                                  refine r_ni (m_run (As := [.int (iI z192), .int (iI x205), .int (iI y205)]) (rest := []) (n := 3) X Y hZ hA hml hl.1 (his z192 (by rw [show z192 = fY a1 (z111).toNat by omega]; exact (fok_of hs i113.1 (by omega)).t) H.size I204 J204 B204 G204 x205 (by omega) (by omega) y205 (by omega) (by omega) S.1 ((S.2.2 0 (by decide)).trans gm) (show pG1 I204 from ⟨x205, y205, ex205, ey205, by omega, by omega, by omega, by omega⟩) (by omega) (by omega)) kl_M_is ks_M_is kx_M_is ki_M_is ini_M hd_M_is ⟨by simp only [mR]; omega, by simp only [mR]; omega⟩ rfl (Nat.le_of_ble_eq_true rfl) d_M_sequence_255 ⟨Nat.le_refl _, Nat.le_refl _⟩) X Y hA S (by decide) (by decide) (fun z207 u H locs Y S s207 p207 => ?_)
                                  obtain ⟨I207, J207, B207, G207⟩ := u
                                  dsimp only at Y S s207 p207
                                  obtain ⟨l207, u207, x207, g207_P1⟩ := p207
                                  rw [show z192 = fY a1 (z111).toNat by omega, show x205 = elI mm z110 a3 by omega, show y205 = elE mm z110 a3 by omega] at x207
                                  refine z_if_ne (tgt := 263) X.1 X.2.1 d_M_sequence_258 (by decide) ⟨by omega, by omega⟩ (fun h208 => ?_) (fun h208 => ?_)
                                  · refine lv_iload X.1 X.2.1 d_M_sequence_263 (lv_at hl 9 rfl) ?_
                                    refine z_if_lt (tgt := 298) X.1 X.2.1 d_M_sequence_265 (by decide) ⟨by omega, by omega⟩ (fun h209 => ?_) (fun h209 => False.elim (by omega))
                                    · refine lv_iload X.1 X.2.1 d_M_sequence_298 (lv_at hl 0 rfl) ?_
                                      refine lv_istore (lv' := [(5, .int (iI y205)), (12, .int (iI y205)), (11, .int (iI x205)), (10, .int (iI 1)), (6, .int (iI (z123 + 3))), (9, .int (iI z192)), (8, .int (iI 1)), (0, .ref h), (1, .ref ((D.2.1 a1))), (3, .int (iI a3)), (4, .int (iI ((-1)))), (7, .int (iI z124))]) X.1 X.2.1 d_M_sequence_300 hl (by decide) rfl (fun ls hl => ?_)
                                      refine lv_goto (tgt := 71) X.1 X.2.1 d_M_sequence_302 (by decide) ?_
                                      exact ih117 ((64 - (z123 + 3)).toNat) (by omega) y205 (z123 + 3) I207 J207 B207 G207 _ _ _ rfl (by omega) (by omega) (by omega) (by omega) g207_P1 (by rw [show z123 + 3 = (fE a1 (z111).toNat : Int) by omega, show y205 = elE mm z110 a3 by omega]; exact (sqJ_take hs i113 (by omega) (by omega) (by unfold thr; omega)).2 (x204.mp (by omega)).2 (x207.mp (by omega))) (by omega) (by omega) Y S (lv_sub hl [7, 8, 9, 10, 0, 4] rfl)
                                  · refine lv_iconst (v := iI 0) X.1 X.2.1 d_M_sequence_261 (by decide) ?_
                                    exact m_retz hQQ X Y hr hlk (iI_bool (by omega) (by omega)).1 ⟨S, 0, rfl, ⟨by omega, by omega, iff_f (fun h9 => (sqJ_take hs i113 (by omega) (by omega) (by unfold thr; omega)).1 (fun h8 => by have h7 := x207.mpr h8.2; omega) h9.2), g207_P1⟩⟩ d_M_sequence_262
                                · refine lv_iconst (v := iI 0) X.1 X.2.1 d_M_sequence_234 (by decide) ?_
                                  exact m_retz hQQ X Y hr hlk (iI_bool (by omega) (by omega)).1 ⟨S, 0, rfl, ⟨by omega, by omega, iff_f (fun h9 => (sqJ_take hs i113 (by omega) (by omega) (by unfold thr; omega)).1 (fun h8 => by have h7 := x204.mpr ⟨by omega, h8.1⟩; omega) h9.2), (show pG1 I204 from ⟨x205, y205, ex205, ey205, by omega, by omega, by omega, by omega⟩)⟩⟩ d_M_sequence_235
                  · refine lv_bipush (v := iI 10) X.1 X.2.1 d_M_sequence_105 (by decide) ?_
                    refine lv_iload X.1 X.2.1 d_M_sequence_107 (lv_at hl 6 rfl) ?_
                    refine z_imul X.1 X.2.1 d_M_sequence_109 ?_
                    refine lv_aload_n X.1 X.2.1 d_M_sequence_110 rfl (lv_at hl 1 rfl) ?_
                    refine lv_iload X.1 X.2.1 d_M_sequence_111 (lv_at hl 5 rfl) ?_
                    refine r_charAt (i := a1) X Y hZ k1 (by omega) (by omega) hml hl.1 ⟨by simp only [mR]; omega, by simp only [mR]; omega⟩ (Nat.le_of_ble_eq_true rfl) d_M_sequence_113 ⟨Nat.le_refl _, Nat.le_refl _⟩ (fun H locs z210 Y e210 l210 u210 => ?_)
                    have c210 := cz_of k1 (by omega) (by omega) e210 l210 u210
                    refine z_iadd X.1 X.2.1 d_M_sequence_116 ?_
                    refine lv_bipush (v := iI 48) X.1 X.2.1 d_M_sequence_117 (by decide) ?_
                    refine z_isub X.1 X.2.1 d_M_sequence_119 ?_
                    refine lv_istore (lv' := [(7, .int (iI (((10 * z124) + z210) - 48))), (0, .ref h), (1, .ref ((D.2.1 a1))), (3, .int (iI a3)), (4, .int (iI ((-1)))), (5, .int (iI z110)), (6, .int (iI z123))]) X.1 X.2.1 d_M_sequence_120 hl (by decide) rfl (fun ls hl => ?_)
                    refine lv_iinc (v := iI (z123 + 1)) (lv' := [(6, .int (iI (z123 + 1))), (7, .int (iI (((10 * z124) + z210) - 48))), (0, .ref h), (1, .ref ((D.2.1 a1))), (3, .int (iI a3)), (4, .int (iI ((-1)))), (5, .int (iI z110))]) X.1 X.2.1 d_M_sequence_122 hl (k := 6) rfl ((iI_add _ _).trans (congrArg iI (by omega))) (by decide) rfl (fun ls hl => ?_)
                    refine lv_goto (tgt := 83) X.1 X.2.1 d_M_sequence_125 (by decide) ?_
                    exact ih127 ((z111 + 3 - (z123 + 1)).toNat) (by omega) (z123 + 1) (((10 * z124) + z210) - 48) _ _ _ rfl (by omega) (by omega) (by omega) (by omega) (by rcases dg.2 with ⟨_, _, _, d⟩ | ⟨d, _, _⟩; (rw [show ((10 * z124) + z210) - 48 = 10 * z124 + cz a1 (z123).toNat - 48 by omega]; exact d); (exact False.elim (by omega))) Y S (lv_sub hl [2, 3, 4, 5, 6, 0, 1] rfl)
            refine lv_istore (lv' := [(7, .int (iI 0)), (0, .ref h), (1, .ref ((D.2.1 a1))), (3, .int (iI a3)), (4, .int (iI ((-1)))), (5, .int (iI z110)), (6, .int (iI z111))]) X.1 X.2.1 d_M_sequence_81 hl (by decide) rfl (fun ls hl => ?_)
            exact J126 _ z111 0 _ _ _ rfl (by omega) (by omega) (by omega) (by omega) (.inl ⟨rfl, rfl⟩) Y S (lv_sub hl [1, 2, 3, 4, 5, 6, 0] rfl)
      refine z_icmp_ge (tgt := 71) X.1 X.2.1 d_M_sequence_29 (by decide) ⟨by omega, by omega⟩ ⟨by omega, by omega⟩ (fun h211 => False.elim (by omega)) (fun h211 => ?_)
      · refine lv_iload X.1 X.2.1 d_M_sequence_32 (lv_at hl 3 rfl) ?_
        refine z_if_lt (tgt := 71) X.1 X.2.1 d_M_sequence_34 (by decide) ⟨by omega, by omega⟩ (fun h212 => ?_) (fun h212 => False.elim (by omega))
        · exact J116 _ x102 0 I101 J101 B101 G101 _ _ _ rfl (by omega) (by omega) (by omega) (by omega) (show pG1 I101 from ⟨x102, y102, ex102, ey102, by omega, by omega, by omega, by omega⟩) (by rw [show x102 = elI mm a2 a3 by omega]; exact sqJ_0 hs) (by omega) (by omega) Y S (lv_sub hl [0, 1, 2, 3, 4, 5] rfl)
    refine lv_istore (lv' := [(7, .int (iI 0)), (6, .int (iI 0)), (5, .int (iI x102)), (0, .ref h), (1, .ref ((D.2.1 a1))), (2, .int (iI a2)), (3, .int (iI a3)), (4, .int (iI ((-1))))]) X.1 X.2.1 d_M_sequence_23 hl (by decide) rfl (fun ls hl => ?_)
    exact J105 0 _ _ _ (by omega) (by omega) Y S (lv_sub hl [3, 4, 6, 7, 2, 1, 0] rfl)
  · refine lv_iconst (v := iI 0) X.1 X.2.1 d_M_sequence_11 (by decide) ?_
    exact m_retz hQQ X Y hr hlk (iI_bool (by omega) (by omega)).1 ⟨S, 0, rfl, ⟨by omega, by omega, iff_f (fun h9 => absurd (x101.mpr h9.1) (by omega)), (show pG1 I101 from ⟨x102, y102, ex102, ey102, by omega, by omega, by omega, by omega⟩)⟩⟩ d_M_sequence_12
set_option maxHeartbeats 4000000 in
set_option maxRecDepth 100000 in
theorem r_M_sequence_t (l : Launch) (D : mD) (E : mE) (h : Nat) (q : Nat → Nat) (sz : Nat) (I : Nat → Int32) (J : Nat → Int64) (B : Nat → Nat → Int32) (G : Nat → Nat → Int64) (a1 : Nat) (k1 : a1 < nZ) (a2 : Int) (l_a2 : (-1) ≤ a2) (u_a2 : a2 ≤ 30000) (a3 : Int) (l_a3 : (-1) ≤ a3) (u_a3 : a3 ≤ 30000) (a4 : Int) (l_a4 : 0 ≤ a4) (u_a4 : a4 ≤ 11) (hT : rT I B) (r : Nat) (mm : Nat → Int32) (gm : B 0 = mm) (T : Int → Int → Int → Prop) (hs : 3 ≤ a1 ∧ a1 < 26) (his : ∀ ty : Int, tyin a1 ty = true → CIs l D E h q r mm ty (T ty)) (f_P1 : pG1 I) (f_P2 : pG2 (B 37) (B 38)) (q0 : 0 ≤ a2 ∨ a3 < a2 + 2) (q1 : a3 - a2 ≤ 4200) : Met l y_M_sequence (k_M_sequence :: lw_tg) (mR (12 + 6 * r) (460 + 300 * r)) (va_Pc [.ref h, .ref (D.2.1 a1), .int (iI a2), .int (iI a3), .int (iI a4)] (mPre D E h q (I, J, B, G) sz)) (va_Qi (rPi [39, 40] [37, 38] I B (fun (z : Int) (u : mS) => 0 ≤ z ∧ z ≤ 1 ∧ (z = 1 ↔ sqP T mm (rs a1 0) a2 a3) ∧ ((∀ j : Nat, ((j : Int) < 16 * a4 ∨ 16 * a4 + 16 ≤ j) → u.2.2.1 37 j = B 37 j ∧ u.2.2.1 38 j = B 38 j) ∧ (z = 1 → ∀ n : Int, 0 ≤ n → n < 16 → ((u.2.2.1 37 (16 * a4 + n).toNat).toInt, (u.2.2.1 38 (16 * a4 + n).toNat).toInt) = fd mm a3 (rs a1 0) (elI mm a2 a3) n (-1, -1))) ∧ pG1 u.1 ∧ pG2 (u.2.2.1 37) (u.2.2.1 38))) (mPost D E h q (mA E h q sz)) (mA E h q sz)) 0 0 (mA E h q sz) := by
  refine m_enter (by decide) rfl (Nat.le_of_ble_eq_true rfl) (fun p e s m below meth c ls AV QQ H locs hQQ X Y hZ hA hr hlk hml hl => ?_)
  have Y : mH D E (mA E h q sz) s.heap h q I J B G H locs := Y
  have S : rS [39, 40] [37, 38] I B I B := rS_rf hT
  have hl : lv_has ls 13 [(0, .ref h), (1, .ref ((D.2.1 a1))), (2, .int (iI a2)), (3, .int (iI a3)), (4, .int (iI a4))] := hl
  have fz0 : FZ a4 0 (B 37) (B 38) (B 37) (B 38) := FZ_0 f_P2
  refine lv_aload_n X.1 X.2.1 d_M_sequence_0 rfl (lv_at hl 0 rfl) ?_
  refine lv_iload_n X.1 X.2.1 d_M_sequence_1 rfl (lv_at hl 2 rfl) ?_
  refine lv_iload_n X.1 X.2.1 d_M_sequence_2 rfl (lv_at hl 3 rfl) ?_
  refine lv_bipush (v := iI 48) X.1 X.2.1 d_M_sequence_3 (by decide) ?_
  refine r_ni (m_run (As := [.int (iI a2), .int (iI a3), .int (iI 48)]) (rest := []) (n := 3) X Y hZ hA hml hl.1 (r_M_whole l D E h q H.size I J B G a2 (by omega) (by omega) a3 (by omega) (by omega) 48 (by omega) (by omega) S.1 mm gm f_P1 (by omega) (by omega)) kl_M_whole ks_M_whole kx_M_whole ki_M_whole ini_M hd_M_whole ⟨by simp only [mR]; omega, by simp only [mR]; omega⟩ rfl (Nat.le_of_ble_eq_true rfl) d_M_sequence_5 ⟨Nat.le_refl _, Nat.le_refl _⟩) X Y hA S (by decide) (by decide) (fun z101 u H locs Y S s101 p101 => ?_)
  obtain ⟨I101, J101, B101, G101⟩ := u
  dsimp only at Y S s101 p101
  obtain ⟨l101, u101, x101, st101⟩ := p101
  obtain ⟨x102, y102, ex102, ey102, lx102, ly102, uy102, dy102, iy102⟩ := st101
  refine z_if_ne (tgt := 13) X.1 X.2.1 d_M_sequence_8 (by decide) ⟨by omega, by omega⟩ (fun h103 => ?_) (fun h103 => ?_)
  · refine lv_aload_n X.1 X.2.1 d_M_sequence_13 rfl (lv_at hl 0 rfl) ?_
    refine r_get0 X Y (by decide) lk_inside (gf_inside _ _ _) rfl ex102 d_M_sequence_14 ?_
    refine lv_istore (lv' := [(5, .int (iI x102)), (0, .ref h), (1, .ref ((D.2.1 a1))), (2, .int (iI a2)), (3, .int (iI a3)), (4, .int (iI a4))]) X.1 X.2.1 d_M_sequence_17 hl (by decide) rfl (fun ls hl => ?_)
    refine lv_iconst (v := iI 0) X.1 X.2.1 d_M_sequence_19 (by decide) ?_
    refine lv_istore (lv' := [(6, .int (iI 0)), (5, .int (iI x102)), (0, .ref h), (1, .ref ((D.2.1 a1))), (2, .int (iI a2)), (3, .int (iI a3)), (4, .int (iI a4))]) X.1 X.2.1 d_M_sequence_20 hl (by decide) rfl (fun ls hl => ?_)
    refine lv_iconst (v := iI 0) X.1 X.2.1 d_M_sequence_22 (by decide) ?_
    have J108 : ∀ (n110 : Nat) (z105 : Int) (I104 : Nat → Int32) (J104 : Nat → Int64) (B104 : Nat → Nat → Int32) (G104 : Nat → Nat → Int64) (H : Heap) (locs : List Loc) (ls : Array Slot), (16 - z105).toNat = n110 → (0 ≤ z105) → (z105 ≤ 16) → (pG1 I104) → (FZ a4 z105 (B 37) (B 38) (B104 37) (B104 38)) → mH D E (mA E h q sz) s.heap h q I104 J104 B104 G104 H locs → rS [39, 40] [37, 38] I B I104 B104 → lv_has ls 13 [(0, .ref h), (1, .ref ((D.2.1 a1))), (3, .int (iI a3)), (4, .int (iI a4)), (5, .int (iI x102)), (6, .int (iI 0)), (7, .int (iI z105))] → W p l e (mR (12 + 6 * r) (460 + 300 * r)) s m AV below meth c H locs 0 0 QQ (F0 m 25 ls []) := by
      intro n110
      induction n110 using Nat.strongRecOn with
      | ind n110 ih109 =>
        intro z105 I104 J104 B104 G104 H locs ls hm111 l105 u105 f106 i107 Y S hl
        refine lv_iload X.1 X.2.1 d_M_sequence_25 (lv_at hl 6 rfl) ?_
        refine lv_bipush (v := iI 16) X.1 X.2.1 d_M_sequence_27 (by decide) ?_
        have J120 : ∀ (n122 : Nat) (z113 : Int) (z114 : Int) (I112 : Nat → Int32) (J112 : Nat → Int64) (B112 : Nat → Nat → Int32) (G112 : Nat → Nat → Int64) (H : Heap) (locs : List Loc) (ls : Array Slot), (64 - z114).toNat = n122 → (0 ≤ z113) → (z113 ≤ 30000) → (0 ≤ z114) → (z114 ≤ 64) → (pG1 I112) → (sqJ T mm a1 a3 (elI mm a2 a3) z114 z113) → (FS mm a3 a4 a1 (elI mm a2 a3) z114 z113 (B 37) (B 38) (B112 37) (B112 38)) → (a2 + 2 ≤ z113) → (z113 ≤ a3) → mH D E (mA E h q sz) s.heap h q I112 J112 B112 G112 H locs → rS [39, 40] [37, 38] I B I112 B112 → lv_has ls 13 [(0, .ref h), (1, .ref ((D.2.1 a1))), (3, .int (iI a3)), (4, .int (iI a4)), (5, .int (iI z113)), (6, .int (iI z114))] → W p l e (mR (12 + 6 * r) (460 + 300 * r)) s m AV below meth c H locs 0 0 QQ (F0 m 71 ls []) := by
          intro n122
          induction n122 using Nat.strongRecOn with
          | ind n122 ih121 =>
            intro z113 z114 I112 J112 B112 G112 H locs ls hm123 l113 u113 l114 u114 f115 i116 i117 i118 i119 Y S hl
            refine lv_iload X.1 X.2.1 d_M_sequence_71 (lv_at hl 5 rfl) ?_
            refine lv_aload_n X.1 X.2.1 d_M_sequence_73 rfl (lv_at hl 1 rfl) ?_
            refine r_length (i := a1) X Y hZ k1 hml hl.1 ⟨by simp only [mR]; omega, by simp only [mR]; omega⟩ (Nat.le_of_ble_eq_true rfl) d_M_sequence_74 ⟨Nat.le_refl _, Nat.le_refl _⟩ (fun H locs Y => ?_)
            have y124 := zn_64 a1 k1
            refine z_icmp_ge (tgt := 305) X.1 X.2.1 d_M_sequence_77 (by decide) ⟨by omega, by omega⟩ ⟨by omega, by omega⟩ (fun h125 => ?_) (fun h125 => ?_)
            · refine lv_iload X.1 X.2.1 d_M_sequence_305 (lv_at hl 4 rfl) ?_
              refine lv_iload_n X.1 X.2.1 d_M_sequence_307 rfl (lv_at hl 2 rfl) ?_
              refine z_icmp_ne (tgt := 315) X.1 X.2.1 d_M_sequence_308 (by decide) ⟨by omega, by omega⟩ ⟨by omega, by omega⟩ (fun h126 => ?_) (fun h126 => ?_)
              · refine lv_iconst (v := iI 0) X.1 X.2.1 d_M_sequence_315 (by decide) ?_
                exact m_retz hQQ X Y hr hlk (iI_bool (by omega) (by omega)).1 ⟨S, 0, rfl, ⟨by omega, by omega, iff_f (fun h9 => absurd ((sqJ_end hs i116 (by omega) (by omega)).mpr h9.2) (by omega)), ⟨(i117).1, fun h9 => absurd h9 (by decide)⟩, f115, (i117).2.1⟩⟩ d_M_sequence_316
              · refine lv_iconst (v := iI 1) X.1 X.2.1 d_M_sequence_311 (by decide) ?_
                refine lv_goto (tgt := 316) X.1 X.2.1 d_M_sequence_312 (by decide) ?_
                exact m_retz hQQ X Y hr hlk (iI_bool (by omega) (by omega)).1 ⟨S, 1, rfl, ⟨by omega, by omega, iff_t ⟨x101.mp (by omega), (sqJ_end hs i116 (by omega) (by omega)).mp (by omega)⟩, ⟨(i117).1, fun _ n hn hn2 => FS_end hs i116.1 (by omega) i117 n hn hn2⟩, f115, (i117).2.1⟩⟩ d_M_sequence_316
            · refine lv_iconst (v := iI 0) X.1 X.2.1 d_M_sequence_80 (by decide) ?_
              have J130 : ∀ (n132 : Nat) (z127 : Int) (z128 : Int) (H : Heap) (locs : List Loc) (ls : Array Slot), (z114 + 3 - z127).toNat = n132 → (0 ≤ z127) → (z127 ≤ 64) → (0 ≤ z128) → (z128 ≤ 200) → (Dg a1 z114 z127 z128) → mH D E (mA E h q sz) s.heap h q I112 J112 B112 G112 H locs → rS [39, 40] [37, 38] I B I112 B112 → lv_has ls 13 [(0, .ref h), (1, .ref ((D.2.1 a1))), (3, .int (iI a3)), (4, .int (iI a4)), (5, .int (iI z113)), (6, .int (iI z127)), (7, .int (iI z128))] → W p l e (mR (12 + 6 * r) (460 + 300 * r)) s m AV below meth c H locs 0 0 QQ (F0 m 83 ls []) := by
                intro n132
                induction n132 using Nat.strongRecOn with
                | ind n132 ih131 =>
                  intro z127 z128 H locs ls hm133 l127 u127 l128 u128 i129 Y S hl
                  have dg := Dg_at hs (by omega) i116.1 (by omega) i129
                  refine lv_aload_n X.1 X.2.1 d_M_sequence_83 rfl (lv_at hl 1 rfl) ?_
                  refine lv_iload X.1 X.2.1 d_M_sequence_84 (lv_at hl 5 rfl) ?_
                  refine r_charAt (i := a1) X Y hZ k1 (by omega) (by omega) hml hl.1 ⟨by simp only [mR]; omega, by simp only [mR]; omega⟩ (Nat.le_of_ble_eq_true rfl) d_M_sequence_86 ⟨Nat.le_refl _, Nat.le_refl _⟩ (fun H locs z134 Y e134 l134 u134 => ?_)
                  have c134 := cz_of k1 (by omega) (by omega) e134 l134 u134
                  refine lv_bipush (v := iI 48) X.1 X.2.1 d_M_sequence_89 (by decide) ?_
                  refine z_icmp_lt (tgt := 128) X.1 X.2.1 d_M_sequence_91 (by decide) ⟨by omega, by omega⟩ ⟨by omega, by omega⟩ (fun h135 => ?_) (fun h135 => ?_)
                  · have ex : z127 = z114 + fW a1 (z114).toNat ∧ z128 = fN a1 (z114).toNat := by rcases dg.2 with ⟨d1, d2, _, _⟩ | ⟨_, d2, d3⟩; (exact False.elim (by omega)); (exact ⟨d2, d3⟩)
                    have my := f_may hs (by omega) i116.1 (by omega) ex.1
                    have ex : z127 = z114 + fW a1 (z114).toNat ∧ z128 = fN a1 (z114).toNat := by rcases dg.2 with ⟨d1, d2, _, _⟩ | ⟨_, d2, d3⟩; (exact False.elim (by omega)); (exact ⟨d2, d3⟩)
                    have my := f_may hs (by omega) i116.1 (by omega) ex.1
                    refine lv_aload_n X.1 X.2.1 d_M_sequence_128 rfl (lv_at hl 1 rfl) ?_
                    refine lv_iload X.1 X.2.1 d_M_sequence_129 (lv_at hl 5 rfl) ?_
                    refine r_charAt (i := a1) X Y hZ k1 (by omega) (by omega) hml hl.1 ⟨by simp only [mR]; omega, by simp only [mR]; omega⟩ (Nat.le_of_ble_eq_true rfl) d_M_sequence_131 ⟨Nat.le_refl _, Nat.le_refl _⟩ (fun H locs z136 Y e136 l136 u136 => ?_)
                    have c136 := cz_of k1 (by omega) (by omega) e136 l136 u136
                    refine lv_bipush (v := iI 63) X.1 X.2.1 d_M_sequence_134 (by decide) ?_
                    refine z_icmp_ne (tgt := 143) X.1 X.2.1 d_M_sequence_136 (by decide) ⟨by omega, by omega⟩ ⟨by omega, by omega⟩ (fun h137 => ?_) (fun h137 => ?_)
                    · refine lv_iconst (v := iI 0) X.1 X.2.1 d_M_sequence_143 (by decide) ?_
                      refine lv_istore (lv' := [(8, .int (iI 0)), (0, .ref h), (1, .ref ((D.2.1 a1))), (3, .int (iI a3)), (4, .int (iI a4)), (5, .int (iI z113)), (6, .int (iI z127)), (7, .int (iI z128))]) X.1 X.2.1 d_M_sequence_144 hl (by decide) rfl (fun ls hl => ?_)
                      refine lv_iload X.1 X.2.1 d_M_sequence_146 (lv_at hl 0 rfl) ?_
                      refine z_if_eq (tgt := 154) X.1 X.2.1 d_M_sequence_148 (by decide) ⟨by omega, by omega⟩ (fun h138 => ?_) (fun h138 => False.elim (by omega))
                      · refine lv_aload_n X.1 X.2.1 d_M_sequence_154 rfl (lv_at hl 2 rfl) ?_
                        refine lv_iload X.1 X.2.1 d_M_sequence_155 (lv_at hl 6 rfl) ?_
                        refine r_charAt (i := a1) X Y hZ k1 (by omega) (by omega) hml hl.1 ⟨by simp only [mR]; omega, by simp only [mR]; omega⟩ (Nat.le_of_ble_eq_true rfl) d_M_sequence_157 ⟨Nat.le_refl _, Nat.le_refl _⟩ (fun H locs z139 Y e139 l139 u139 => ?_)
                        have c139 := cz_of k1 (by omega) (by omega) e139 l139 u139
                        refine lv_istore (lv' := [(9, .int (iI z139)), (8, .int (iI 0)), (0, .ref h), (1, .ref ((D.2.1 a1))), (3, .int (iI a3)), (4, .int (iI a4)), (5, .int (iI z113)), (6, .int (iI z127)), (7, .int (iI z128))]) X.1 X.2.1 d_M_sequence_160 hl (by decide) rfl (fun ls hl => ?_)
                        refine lv_iinc (v := iI (z127 + 2)) (lv' := [(6, .int (iI (z127 + 2))), (9, .int (iI z139)), (8, .int (iI 0)), (0, .ref h), (1, .ref ((D.2.1 a1))), (3, .int (iI a3)), (4, .int (iI a4)), (5, .int (iI z113)), (7, .int (iI z128))]) X.1 X.2.1 d_M_sequence_162 hl (k := 7) rfl ((iI_add _ _).trans (congrArg iI (by omega))) (by decide) rfl (fun ls hl => ?_)
                        refine lv_iload X.1 X.2.1 d_M_sequence_165 (lv_at hl 7 rfl) ?_
                        refine lv_iload_n X.1 X.2.1 d_M_sequence_167 rfl (lv_at hl 5 rfl) ?_
                        refine z_icmp_ge (tgt := 195) X.1 X.2.1 d_M_sequence_168 (by decide) ⟨by omega, by omega⟩ ⟨by omega, by omega⟩ (fun h140 => ?_) (fun h140 => ?_)
                        · refine lv_iconst (v := iI 0) X.1 X.2.1 d_M_sequence_195 (by decide) ?_
                          refine lv_istore (lv' := [(10, .int (iI 0)), (6, .int (iI (z127 + 2))), (9, .int (iI z139)), (8, .int (iI 0)), (0, .ref h), (1, .ref ((D.2.1 a1))), (3, .int (iI a3)), (4, .int (iI a4)), (5, .int (iI z113)), (7, .int (iI z128))]) X.1 X.2.1 d_M_sequence_196 hl (by decide) rfl (fun ls hl => ?_)
                          refine lv_iload X.1 X.2.1 d_M_sequence_198 (lv_at hl 0 rfl) ?_
                          refine z_if_ne (tgt := 210) X.1 X.2.1 d_M_sequence_200 (by decide) ⟨by omega, by omega⟩ (fun h141 => False.elim (by omega)) (fun h141 => ?_)
                          · refine lv_iload X.1 X.2.1 d_M_sequence_203 (lv_at hl 3 rfl) ?_
                            refine z_if_ne (tgt := 210) X.1 X.2.1 d_M_sequence_205 (by decide) ⟨by omega, by omega⟩ (fun h142 => False.elim (by omega)) (fun h142 => ?_)
                            · refine lv_iconst (v := iI 0) X.1 X.2.1 d_M_sequence_208 (by decide) ?_
                              exact m_retz hQQ X Y hr hlk (iI_bool (by omega) (by omega)).1 ⟨S, 0, rfl, ⟨by omega, by omega, iff_f (fun h9 => (sqJ_skip hs i116 (by omega) (by omega) (by unfold thr; omega)).1 (by omega) h9.2), ⟨(i117).1, fun h9 => absurd h9 (by decide)⟩, f115, (i117).2.1⟩⟩ d_M_sequence_209
                        · refine lv_aload_n X.1 X.2.1 d_M_sequence_171 rfl (lv_at hl 3 rfl) ?_
                          refine m_get X Y 0 (by decide) lk_mem (gf_mem _ _ _) rfl d_M_sequence_172 ?_
                          refine lv_iload X.1 X.2.1 d_M_sequence_175 (lv_at hl 7 rfl) ?_
                          refine r_bald X Y S (aw_mem _ _ _ _ _ _ _) rfl (by omega) (show z113 < ((60000 : Nat) : Int) by omega) (by omega) d_M_sequence_177 (fun z143 q143 l143 u143 => ?_)
                          rw [(S.2.2 0 (by decide)).trans gm] at q143
                          have g143 : gb mm z113 = z143 % 256 := by unfold gb; rw [← q143]
                          have s143 : sg mm z113 = z143 := by unfold sg; rw [← q143]
                          refine lv_sipush (v := iI 255) X.1 X.2.1 d_M_sequence_178 (by decide) ?_
                          refine z_iand255 X.1 X.2.1 d_M_sequence_181 ?_
                          refine lv_sipush (v := iI 160) X.1 X.2.1 d_M_sequence_182 (by decide) ?_
                          refine lv_iload X.1 X.2.1 d_M_sequence_185 (lv_at hl 8 rfl) ?_
                          refine z_iadd X.1 X.2.1 d_M_sequence_187 ?_
                          refine z_icmp_ne (tgt := 195) X.1 X.2.1 d_M_sequence_188 (by decide) ⟨by omega, by omega⟩ ⟨by omega, by omega⟩ (fun h144 => ?_) (fun h144 => ?_)
                          · refine lv_iconst (v := iI 0) X.1 X.2.1 d_M_sequence_195 (by decide) ?_
                            refine lv_istore (lv' := [(10, .int (iI 0)), (6, .int (iI (z127 + 2))), (9, .int (iI z139)), (8, .int (iI 0)), (0, .ref h), (1, .ref ((D.2.1 a1))), (3, .int (iI a3)), (4, .int (iI a4)), (5, .int (iI z113)), (7, .int (iI z128))]) X.1 X.2.1 d_M_sequence_196 hl (by decide) rfl (fun ls hl => ?_)
                            refine lv_iload X.1 X.2.1 d_M_sequence_198 (lv_at hl 0 rfl) ?_
                            refine z_if_ne (tgt := 210) X.1 X.2.1 d_M_sequence_200 (by decide) ⟨by omega, by omega⟩ (fun h145 => False.elim (by omega)) (fun h145 => ?_)
                            · refine lv_iload X.1 X.2.1 d_M_sequence_203 (lv_at hl 3 rfl) ?_
                              refine z_if_ne (tgt := 210) X.1 X.2.1 d_M_sequence_205 (by decide) ⟨by omega, by omega⟩ (fun h146 => False.elim (by omega)) (fun h146 => ?_)
                              · refine lv_iconst (v := iI 0) X.1 X.2.1 d_M_sequence_208 (by decide) ?_
                                exact m_retz hQQ X Y hr hlk (iI_bool (by omega) (by omega)).1 ⟨S, 0, rfl, ⟨by omega, by omega, iff_f (fun h9 => (sqJ_skip hs i116 (by omega) (by omega) (by unfold thr; omega)).1 (by omega) h9.2), ⟨(i117).1, fun h9 => absurd h9 (by decide)⟩, f115, (i117).2.1⟩⟩ d_M_sequence_209
                          · refine lv_iconst (v := iI 1) X.1 X.2.1 d_M_sequence_191 (by decide) ?_
                            refine lv_goto (tgt := 196) X.1 X.2.1 d_M_sequence_192 (by decide) ?_
                            refine lv_istore (lv' := [(10, .int (iI 1)), (6, .int (iI (z127 + 2))), (9, .int (iI z139)), (8, .int (iI 0)), (0, .ref h), (1, .ref ((D.2.1 a1))), (3, .int (iI a3)), (4, .int (iI a4)), (5, .int (iI z113)), (7, .int (iI z128))]) X.1 X.2.1 d_M_sequence_196 hl (by decide) rfl (fun ls hl => ?_)
                            refine lv_iload X.1 X.2.1 d_M_sequence_198 (lv_at hl 0 rfl) ?_
                            refine z_if_ne (tgt := 210) X.1 X.2.1 d_M_sequence_200 (by decide) ⟨by omega, by omega⟩ (fun h147 => ?_) (fun h147 => False.elim (by omega))
                            · refine lv_iload X.1 X.2.1 d_M_sequence_210 (lv_at hl 0 rfl) ?_
                              refine z_if_ne (tgt := 218) X.1 X.2.1 d_M_sequence_212 (by decide) ⟨by omega, by omega⟩ (fun h148 => ?_) (fun h148 => False.elim (by omega))
                              · refine lv_aload_n X.1 X.2.1 d_M_sequence_218 rfl (lv_at hl 4 rfl) ?_
                                refine lv_iload X.1 X.2.1 d_M_sequence_219 (lv_at hl 8 rfl) ?_
                                refine lv_iload_n X.1 X.2.1 d_M_sequence_221 rfl (lv_at hl 6 rfl) ?_
                                refine lv_sipush (v := iI 160) X.1 X.2.1 d_M_sequence_222 (by decide) ?_
                                refine lv_iload X.1 X.2.1 d_M_sequence_225 (lv_at hl 9 rfl) ?_
                                refine z_iadd X.1 X.2.1 d_M_sequence_227 ?_
                                refine r_ni (m_run (As := [.int (iI z113), .int (iI a3), .int (iI (160 + z128))]) (rest := []) (n := 3) X Y hZ hA hml hl.1 (r_M_element l D E h q H.size I112 J112 B112 G112 z113 (by omega) (by omega) a3 (by omega) (by omega) (160 + z128) (by omega) (by omega) S.1 mm ((S.2.2 0 (by decide)).trans gm) f115 (by omega) (by omega)) kl_M_element ks_M_element kx_M_element ki_M_element ini_M hd_M_element ⟨by simp only [mR]; omega, by simp only [mR]; omega⟩ rfl (Nat.le_of_ble_eq_true rfl) d_M_sequence_228 ⟨Nat.le_refl _, Nat.le_refl _⟩) X Y hA S (by decide) (by decide) (fun z149 u H locs Y S s149 p149 => ?_)
                                obtain ⟨I149, J149, B149, G149⟩ := u
                                dsimp only at Y S s149 p149
                                obtain ⟨l149, u149, x149, st149⟩ := p149
                                obtain ⟨x150, y150, ex150, ey150, lx150, ly150, uy150, dy150, iy150, ky150⟩ := st149
                                refine z_if_ne (tgt := 236) X.1 X.2.1 d_M_sequence_231 (by decide) ⟨by omega, by omega⟩ (fun h151 => ?_) (fun h151 => ?_)
                                · refine lv_aload_n X.1 X.2.1 d_M_sequence_236 rfl (lv_at hl 4 rfl) ?_
                                  refine r_get0 X Y (by decide) lk_inside (gf_inside _ _ _) rfl ex150 d_M_sequence_237 ?_
                                  refine lv_istore (lv' := [(11, .int (iI x150)), (10, .int (iI 1)), (6, .int (iI (z127 + 2))), (9, .int (iI z139)), (8, .int (iI 0)), (0, .ref h), (1, .ref ((D.2.1 a1))), (3, .int (iI a3)), (4, .int (iI a4)), (5, .int (iI z113)), (7, .int (iI z128))]) X.1 X.2.1 d_M_sequence_240 hl (by decide) rfl (fun ls hl => ?_)
                                  refine lv_aload_n X.1 X.2.1 d_M_sequence_242 rfl (lv_at hl 5 rfl) ?_
                                  refine r_get0 X Y (by decide) lk_behind (gf_behind _ _ _) rfl ey150 d_M_sequence_243 ?_
                                  refine lv_istore (lv' := [(12, .int (iI y150)), (11, .int (iI x150)), (10, .int (iI 1)), (6, .int (iI (z127 + 2))), (9, .int (iI z139)), (8, .int (iI 0)), (0, .ref h), (1, .ref ((D.2.1 a1))), (3, .int (iI a3)), (4, .int (iI a4)), (5, .int (iI z113)), (7, .int (iI z128))]) X.1 X.2.1 d_M_sequence_246 hl (by decide) rfl (fun ls hl => ?_)
                                  refine lv_aload_n X.1 X.2.1 d_M_sequence_248 rfl (lv_at hl 6 rfl) ?_
                                  refine lv_iload X.1 X.2.1 d_M_sequence_249 (lv_at hl 4 rfl) ?_
                                  refine lv_iload X.1 X.2.1 d_M_sequence_251 (lv_at hl 1 rfl) ?_
                                  refine lv_iload X.1 X.2.1 d_M_sequence_253 (lv_at hl 0 rfl) ?_
                                  refine r_ni (m_run (As := [.int (iI z139), .int (iI x150), .int (iI y150)]) (rest := []) (n := 3) X Y hZ hA hml hl.1 (his z139 (by rw [show z139 = fY a1 (z114).toNat by omega]; exact (fok_of hs i116.1 (by omega)).t) H.size I149 J149 B149 G149 x150 (by omega) (by omega) y150 (by omega) (by omega) S.1 ((S.2.2 0 (by decide)).trans gm) (show pG1 I149 from ⟨x150, y150, ex150, ey150, by omega, by omega, by omega, by omega⟩) (by omega) (by omega)) kl_M_is ks_M_is kx_M_is ki_M_is ini_M hd_M_is ⟨by simp only [mR]; omega, by simp only [mR]; omega⟩ rfl (Nat.le_of_ble_eq_true rfl) d_M_sequence_255 ⟨Nat.le_refl _, Nat.le_refl _⟩) X Y hA S (by decide) (by decide) (fun z152 u H locs Y S s152 p152 => ?_)
                                  obtain ⟨I152, J152, B152, G152⟩ := u
                                  dsimp only at Y S s152 p152
                                  obtain ⟨l152, u152, x152, g152_P1⟩ := p152
                                  rw [show z139 = fY a1 (z114).toNat by omega, show x150 = elI mm z113 a3 by omega, show y150 = elE mm z113 a3 by omega] at x152
                                  refine z_if_ne (tgt := 263) X.1 X.2.1 d_M_sequence_258 (by decide) ⟨by omega, by omega⟩ (fun h153 => ?_) (fun h153 => ?_)
                                  · refine lv_iload X.1 X.2.1 d_M_sequence_263 (lv_at hl 9 rfl) ?_
                                    refine z_if_lt (tgt := 298) X.1 X.2.1 d_M_sequence_265 (by decide) ⟨by omega, by omega⟩ (fun h154 => False.elim (by omega)) (fun h154 => ?_)
                                    · refine lv_aload_n X.1 X.2.1 d_M_sequence_268 rfl (lv_at hl 6 rfl) ?_
                                      refine m_get X Y 37 (by decide) lk_from (gf_from _ _ _) rfl d_M_sequence_269 ?_
                                      refine lv_bipush (v := iI 16) X.1 X.2.1 d_M_sequence_272 (by decide) ?_
                                      refine lv_iload X.1 X.2.1 d_M_sequence_274 (lv_at hl 9 rfl) ?_
                                      refine z_imul X.1 X.2.1 d_M_sequence_276 ?_
                                      refine lv_iload X.1 X.2.1 d_M_sequence_277 (lv_at hl 11 rfl) ?_
                                      refine z_iadd X.1 X.2.1 d_M_sequence_279 ?_
                                      refine lv_iload X.1 X.2.1 d_M_sequence_280 (lv_at hl 1 rfl) ?_
                                      refine r_iast X Y S (aw_from _ _ _ _ _ _ _) (sw_from _ _ _ _ _ _ _) rfl ⟨(show ((-1) : Int) ≤ x150 by omega), (show x150 ≤ (30000 : Int) by omega)⟩ ⟨by omega, by omega⟩ (by omega) (show (16 * a4) + z128 < ((192 : Nat) : Int) by omega) (by omega) (by decide) d_M_sequence_282 (fun B155 H locs Y S w155 => ?_)
                                      refine lv_aload_n X.1 X.2.1 d_M_sequence_283 rfl (lv_at hl 6 rfl) ?_
                                      refine m_get X Y 38 (by decide) lk_to (gf_to _ _ _) rfl d_M_sequence_284 ?_
                                      refine lv_bipush (v := iI 16) X.1 X.2.1 d_M_sequence_287 (by decide) ?_
                                      refine lv_iload X.1 X.2.1 d_M_sequence_289 (lv_at hl 9 rfl) ?_
                                      refine z_imul X.1 X.2.1 d_M_sequence_291 ?_
                                      refine lv_iload X.1 X.2.1 d_M_sequence_292 (lv_at hl 11 rfl) ?_
                                      refine z_iadd X.1 X.2.1 d_M_sequence_294 ?_
                                      refine lv_iload X.1 X.2.1 d_M_sequence_295 (lv_at hl 0 rfl) ?_
                                      refine r_iast X Y S (aw_to _ _ _ _ _ _ _) (sw_to _ _ _ _ _ _ _) rfl ⟨(show ((-1) : Int) ≤ y150 by omega), (show y150 ≤ (30000 : Int) by omega)⟩ ⟨by omega, by omega⟩ (by omega) (show (16 * a4) + z128 < ((192 : Nat) : Int) by omega) (by omega) (by decide) d_M_sequence_297 (fun B156 H locs Y S w156 => ?_)
                                      refine lv_iload X.1 X.2.1 d_M_sequence_298 (lv_at hl 0 rfl) ?_
                                      refine lv_istore (lv' := [(5, .int (iI y150)), (12, .int (iI y150)), (11, .int (iI x150)), (10, .int (iI 1)), (6, .int (iI (z127 + 2))), (9, .int (iI z139)), (8, .int (iI 0)), (0, .ref h), (1, .ref ((D.2.1 a1))), (3, .int (iI a3)), (4, .int (iI a4)), (7, .int (iI z128))]) X.1 X.2.1 d_M_sequence_300 hl (by decide) rfl (fun ls hl => ?_)
                                      refine lv_goto (tgt := 71) X.1 X.2.1 d_M_sequence_302 (by decide) ?_
                                      exact ih121 ((64 - (z127 + 2)).toNat) (by omega) y150 (z127 + 2) I152 J152 B156 G152 _ _ _ rfl (by omega) (by omega) (by omega) (by omega) (pG1_cg rfl rfl (pG1_cg rfl rfl g152_P1)) (by rw [show z127 + 2 = (fE a1 (z114).toNat : Int) by omega, show y150 = elE mm z113 a3 by omega]; exact (sqJ_take hs i116 (by omega) (by omega) (by unfold thr; omega)).2 (x149.mp (by omega)).2 (x152.mp (by omega))) (by rw [show z127 + 2 = (fE a1 (z114).toNat : Int) by omega, show y150 = elE mm z113 a3 by omega, w156.2 37 (by decide), w155.1, w156.1, w155.2 38 (by decide), show z128 = fN a1 (z114).toNat from ex.2, show x150 = elI mm z113 a3 by omega, show y150 = elE mm z113 a3 by omega]; exact FS_take hs i116.1 (by omega) (by omega) (by omega) (by unfold thr; omega) (by unfold pr; omega) (FS_cg (s152.2.2 37 (by decide)) (s152.2.2 38 (by decide)) (FS_cg (s149.2.2 37 (by decide)) (s149.2.2 38 (by decide)) i117))) (by omega) (by omega) Y S (lv_sub hl [7, 8, 9, 10, 0, 4] rfl)
                                  · refine lv_iconst (v := iI 0) X.1 X.2.1 d_M_sequence_261 (by decide) ?_
                                    exact m_retz hQQ X Y hr hlk (iI_bool (by omega) (by omega)).1 ⟨S, 0, rfl, ⟨by omega, by omega, iff_f (fun h9 => (sqJ_take hs i116 (by omega) (by omega) (by unfold thr; omega)).1 (fun h8 => by have h7 := x152.mpr h8.2; omega) h9.2), ⟨((FS_cg (s152.2.2 37 (by decide)) (s152.2.2 38 (by decide)) (FS_cg (s149.2.2 37 (by decide)) (s149.2.2 38 (by decide)) i117))).1, fun h9 => absurd h9 (by decide)⟩, g152_P1, ((FS_cg (s152.2.2 37 (by decide)) (s152.2.2 38 (by decide)) (FS_cg (s149.2.2 37 (by decide)) (s149.2.2 38 (by decide)) i117))).2.1⟩⟩ d_M_sequence_262
                                · refine lv_iconst (v := iI 0) X.1 X.2.1 d_M_sequence_234 (by decide) ?_
                                  exact m_retz hQQ X Y hr hlk (iI_bool (by omega) (by omega)).1 ⟨S, 0, rfl, ⟨by omega, by omega, iff_f (fun h9 => (sqJ_take hs i116 (by omega) (by omega) (by unfold thr; omega)).1 (fun h8 => by have h7 := x149.mpr ⟨by omega, h8.1⟩; omega) h9.2), ⟨((FS_cg (s149.2.2 37 (by decide)) (s149.2.2 38 (by decide)) i117)).1, fun h9 => absurd h9 (by decide)⟩, (show pG1 I149 from ⟨x150, y150, ex150, ey150, by omega, by omega, by omega, by omega⟩), ((FS_cg (s149.2.2 37 (by decide)) (s149.2.2 38 (by decide)) i117)).2.1⟩⟩ d_M_sequence_235
                    · refine lv_iconst (v := iI 1) X.1 X.2.1 d_M_sequence_139 (by decide) ?_
                      refine lv_goto (tgt := 144) X.1 X.2.1 d_M_sequence_140 (by decide) ?_
                      refine lv_istore (lv' := [(8, .int (iI 1)), (0, .ref h), (1, .ref ((D.2.1 a1))), (3, .int (iI a3)), (4, .int (iI a4)), (5, .int (iI z113)), (6, .int (iI z127)), (7, .int (iI z128))]) X.1 X.2.1 d_M_sequence_144 hl (by decide) rfl (fun ls hl => ?_)
                      refine lv_iload X.1 X.2.1 d_M_sequence_146 (lv_at hl 0 rfl) ?_
                      refine z_if_eq (tgt := 154) X.1 X.2.1 d_M_sequence_148 (by decide) ⟨by omega, by omega⟩ (fun h157 => False.elim (by omega)) (fun h157 => ?_)
                      · refine lv_iinc (v := iI (z127 + 1)) (lv' := [(6, .int (iI (z127 + 1))), (8, .int (iI 1)), (0, .ref h), (1, .ref ((D.2.1 a1))), (3, .int (iI a3)), (4, .int (iI a4)), (5, .int (iI z113)), (7, .int (iI z128))]) X.1 X.2.1 d_M_sequence_151 hl (k := 6) rfl ((iI_add _ _).trans (congrArg iI (by omega))) (by decide) rfl (fun ls hl => ?_)
                        refine lv_aload_n X.1 X.2.1 d_M_sequence_154 rfl (lv_at hl 3 rfl) ?_
                        refine lv_iload X.1 X.2.1 d_M_sequence_155 (lv_at hl 0 rfl) ?_
                        refine r_charAt (i := a1) X Y hZ k1 (by omega) (by omega) hml hl.1 ⟨by simp only [mR]; omega, by simp only [mR]; omega⟩ (Nat.le_of_ble_eq_true rfl) d_M_sequence_157 ⟨Nat.le_refl _, Nat.le_refl _⟩ (fun H locs z158 Y e158 l158 u158 => ?_)
                        have c158 := cz_of k1 (by omega) (by omega) e158 l158 u158
                        refine lv_istore (lv' := [(9, .int (iI z158)), (6, .int (iI (z127 + 1))), (8, .int (iI 1)), (0, .ref h), (1, .ref ((D.2.1 a1))), (3, .int (iI a3)), (4, .int (iI a4)), (5, .int (iI z113)), (7, .int (iI z128))]) X.1 X.2.1 d_M_sequence_160 hl (by decide) rfl (fun ls hl => ?_)
                        refine lv_iinc (v := iI (z127 + 3)) (lv' := [(6, .int (iI (z127 + 3))), (9, .int (iI z158)), (8, .int (iI 1)), (0, .ref h), (1, .ref ((D.2.1 a1))), (3, .int (iI a3)), (4, .int (iI a4)), (5, .int (iI z113)), (7, .int (iI z128))]) X.1 X.2.1 d_M_sequence_162 hl (k := 1) rfl ((iI_add _ _).trans (congrArg iI (by omega))) (by decide) rfl (fun ls hl => ?_)
                        refine lv_iload X.1 X.2.1 d_M_sequence_165 (lv_at hl 7 rfl) ?_
                        refine lv_iload_n X.1 X.2.1 d_M_sequence_167 rfl (lv_at hl 5 rfl) ?_
                        refine z_icmp_ge (tgt := 195) X.1 X.2.1 d_M_sequence_168 (by decide) ⟨by omega, by omega⟩ ⟨by omega, by omega⟩ (fun h159 => ?_) (fun h159 => ?_)
                        · refine lv_iconst (v := iI 0) X.1 X.2.1 d_M_sequence_195 (by decide) ?_
                          refine lv_istore (lv' := [(10, .int (iI 0)), (6, .int (iI (z127 + 3))), (9, .int (iI z158)), (8, .int (iI 1)), (0, .ref h), (1, .ref ((D.2.1 a1))), (3, .int (iI a3)), (4, .int (iI a4)), (5, .int (iI z113)), (7, .int (iI z128))]) X.1 X.2.1 d_M_sequence_196 hl (by decide) rfl (fun ls hl => ?_)
                          refine lv_iload X.1 X.2.1 d_M_sequence_198 (lv_at hl 0 rfl) ?_
                          refine z_if_ne (tgt := 210) X.1 X.2.1 d_M_sequence_200 (by decide) ⟨by omega, by omega⟩ (fun h160 => False.elim (by omega)) (fun h160 => ?_)
                          · refine lv_iload X.1 X.2.1 d_M_sequence_203 (lv_at hl 3 rfl) ?_
                            refine z_if_ne (tgt := 210) X.1 X.2.1 d_M_sequence_205 (by decide) ⟨by omega, by omega⟩ (fun h161 => ?_) (fun h161 => False.elim (by omega))
                            · refine lv_iload X.1 X.2.1 d_M_sequence_210 (lv_at hl 0 rfl) ?_
                              refine z_if_ne (tgt := 218) X.1 X.2.1 d_M_sequence_212 (by decide) ⟨by omega, by omega⟩ (fun h162 => False.elim (by omega)) (fun h162 => ?_)
                              · refine lv_goto (tgt := 71) X.1 X.2.1 d_M_sequence_215 (by decide) ?_
                                exact ih121 ((64 - (z127 + 3)).toNat) (by omega) z113 (z127 + 3) I112 J112 B112 G112 _ _ _ rfl (by omega) (by omega) (by omega) (by omega) f115 (by rw [show z127 + 3 = (fE a1 (z114).toNat : Int) by omega]; exact (sqJ_skip hs i116 (by omega) (by omega) (by unfold thr; omega)).2 (by omega)) (by rw [show z127 + 3 = (fE a1 (z114).toNat : Int) by omega]; exact FS_skip hs i116.1 (by omega) (by omega) (by unfold thr; omega) i117) (by omega) (by omega) Y S (lv_sub hl [4, 5, 6, 7, 8, 1] rfl)
                        · refine lv_aload_n X.1 X.2.1 d_M_sequence_171 rfl (lv_at hl 3 rfl) ?_
                          refine m_get X Y 0 (by decide) lk_mem (gf_mem _ _ _) rfl d_M_sequence_172 ?_
                          refine lv_iload X.1 X.2.1 d_M_sequence_175 (lv_at hl 7 rfl) ?_
                          refine r_bald X Y S (aw_mem _ _ _ _ _ _ _) rfl (by omega) (show z113 < ((60000 : Nat) : Int) by omega) (by omega) d_M_sequence_177 (fun z163 q163 l163 u163 => ?_)
                          rw [(S.2.2 0 (by decide)).trans gm] at q163
                          have g163 : gb mm z113 = z163 % 256 := by unfold gb; rw [← q163]
                          have s163 : sg mm z113 = z163 := by unfold sg; rw [← q163]
                          refine lv_sipush (v := iI 255) X.1 X.2.1 d_M_sequence_178 (by decide) ?_
                          refine z_iand255 X.1 X.2.1 d_M_sequence_181 ?_
                          refine lv_sipush (v := iI 160) X.1 X.2.1 d_M_sequence_182 (by decide) ?_
                          refine lv_iload X.1 X.2.1 d_M_sequence_185 (lv_at hl 8 rfl) ?_
                          refine z_iadd X.1 X.2.1 d_M_sequence_187 ?_
                          refine z_icmp_ne (tgt := 195) X.1 X.2.1 d_M_sequence_188 (by decide) ⟨by omega, by omega⟩ ⟨by omega, by omega⟩ (fun h164 => ?_) (fun h164 => ?_)
                          · refine lv_iconst (v := iI 0) X.1 X.2.1 d_M_sequence_195 (by decide) ?_
                            refine lv_istore (lv' := [(10, .int (iI 0)), (6, .int (iI (z127 + 3))), (9, .int (iI z158)), (8, .int (iI 1)), (0, .ref h), (1, .ref ((D.2.1 a1))), (3, .int (iI a3)), (4, .int (iI a4)), (5, .int (iI z113)), (7, .int (iI z128))]) X.1 X.2.1 d_M_sequence_196 hl (by decide) rfl (fun ls hl => ?_)
                            refine lv_iload X.1 X.2.1 d_M_sequence_198 (lv_at hl 0 rfl) ?_
                            refine z_if_ne (tgt := 210) X.1 X.2.1 d_M_sequence_200 (by decide) ⟨by omega, by omega⟩ (fun h165 => False.elim (by omega)) (fun h165 => ?_)
                            · refine lv_iload X.1 X.2.1 d_M_sequence_203 (lv_at hl 3 rfl) ?_
                              refine z_if_ne (tgt := 210) X.1 X.2.1 d_M_sequence_205 (by decide) ⟨by omega, by omega⟩ (fun h166 => ?_) (fun h166 => False.elim (by omega))
                              · refine lv_iload X.1 X.2.1 d_M_sequence_210 (lv_at hl 0 rfl) ?_
                                refine z_if_ne (tgt := 218) X.1 X.2.1 d_M_sequence_212 (by decide) ⟨by omega, by omega⟩ (fun h167 => False.elim (by omega)) (fun h167 => ?_)
                                · refine lv_goto (tgt := 71) X.1 X.2.1 d_M_sequence_215 (by decide) ?_
                                  exact ih121 ((64 - (z127 + 3)).toNat) (by omega) z113 (z127 + 3) I112 J112 B112 G112 _ _ _ rfl (by omega) (by omega) (by omega) (by omega) f115 (by rw [show z127 + 3 = (fE a1 (z114).toNat : Int) by omega]; exact (sqJ_skip hs i116 (by omega) (by omega) (by unfold thr; omega)).2 (by omega)) (by rw [show z127 + 3 = (fE a1 (z114).toNat : Int) by omega]; exact FS_skip hs i116.1 (by omega) (by omega) (by unfold thr; omega) i117) (by omega) (by omega) Y S (lv_sub hl [4, 5, 6, 7, 8, 1] rfl)
                          · refine lv_iconst (v := iI 1) X.1 X.2.1 d_M_sequence_191 (by decide) ?_
                            refine lv_goto (tgt := 196) X.1 X.2.1 d_M_sequence_192 (by decide) ?_
                            refine lv_istore (lv' := [(10, .int (iI 1)), (6, .int (iI (z127 + 3))), (9, .int (iI z158)), (8, .int (iI 1)), (0, .ref h), (1, .ref ((D.2.1 a1))), (3, .int (iI a3)), (4, .int (iI a4)), (5, .int (iI z113)), (7, .int (iI z128))]) X.1 X.2.1 d_M_sequence_196 hl (by decide) rfl (fun ls hl => ?_)
                            refine lv_iload X.1 X.2.1 d_M_sequence_198 (lv_at hl 0 rfl) ?_
                            refine z_if_ne (tgt := 210) X.1 X.2.1 d_M_sequence_200 (by decide) ⟨by omega, by omega⟩ (fun h168 => ?_) (fun h168 => False.elim (by omega))
                            · refine lv_iload X.1 X.2.1 d_M_sequence_210 (lv_at hl 0 rfl) ?_
                              refine z_if_ne (tgt := 218) X.1 X.2.1 d_M_sequence_212 (by decide) ⟨by omega, by omega⟩ (fun h169 => ?_) (fun h169 => False.elim (by omega))
                              · refine lv_aload_n X.1 X.2.1 d_M_sequence_218 rfl (lv_at hl 4 rfl) ?_
                                refine lv_iload X.1 X.2.1 d_M_sequence_219 (lv_at hl 8 rfl) ?_
                                refine lv_iload_n X.1 X.2.1 d_M_sequence_221 rfl (lv_at hl 6 rfl) ?_
                                refine lv_sipush (v := iI 160) X.1 X.2.1 d_M_sequence_222 (by decide) ?_
                                refine lv_iload X.1 X.2.1 d_M_sequence_225 (lv_at hl 9 rfl) ?_
                                refine z_iadd X.1 X.2.1 d_M_sequence_227 ?_
                                refine r_ni (m_run (As := [.int (iI z113), .int (iI a3), .int (iI (160 + z128))]) (rest := []) (n := 3) X Y hZ hA hml hl.1 (r_M_element l D E h q H.size I112 J112 B112 G112 z113 (by omega) (by omega) a3 (by omega) (by omega) (160 + z128) (by omega) (by omega) S.1 mm ((S.2.2 0 (by decide)).trans gm) f115 (by omega) (by omega)) kl_M_element ks_M_element kx_M_element ki_M_element ini_M hd_M_element ⟨by simp only [mR]; omega, by simp only [mR]; omega⟩ rfl (Nat.le_of_ble_eq_true rfl) d_M_sequence_228 ⟨Nat.le_refl _, Nat.le_refl _⟩) X Y hA S (by decide) (by decide) (fun z170 u H locs Y S s170 p170 => ?_)
                                obtain ⟨I170, J170, B170, G170⟩ := u
                                dsimp only at Y S s170 p170
                                obtain ⟨l170, u170, x170, st170⟩ := p170
                                obtain ⟨x171, y171, ex171, ey171, lx171, ly171, uy171, dy171, iy171, ky171⟩ := st170
                                refine z_if_ne (tgt := 236) X.1 X.2.1 d_M_sequence_231 (by decide) ⟨by omega, by omega⟩ (fun h172 => ?_) (fun h172 => ?_)
                                · refine lv_aload_n X.1 X.2.1 d_M_sequence_236 rfl (lv_at hl 4 rfl) ?_
                                  refine r_get0 X Y (by decide) lk_inside (gf_inside _ _ _) rfl ex171 d_M_sequence_237 ?_
                                  refine lv_istore (lv' := [(11, .int (iI x171)), (10, .int (iI 1)), (6, .int (iI (z127 + 3))), (9, .int (iI z158)), (8, .int (iI 1)), (0, .ref h), (1, .ref ((D.2.1 a1))), (3, .int (iI a3)), (4, .int (iI a4)), (5, .int (iI z113)), (7, .int (iI z128))]) X.1 X.2.1 d_M_sequence_240 hl (by decide) rfl (fun ls hl => ?_)
                                  refine lv_aload_n X.1 X.2.1 d_M_sequence_242 rfl (lv_at hl 5 rfl) ?_
                                  refine r_get0 X Y (by decide) lk_behind (gf_behind _ _ _) rfl ey171 d_M_sequence_243 ?_
                                  refine lv_istore (lv' := [(12, .int (iI y171)), (11, .int (iI x171)), (10, .int (iI 1)), (6, .int (iI (z127 + 3))), (9, .int (iI z158)), (8, .int (iI 1)), (0, .ref h), (1, .ref ((D.2.1 a1))), (3, .int (iI a3)), (4, .int (iI a4)), (5, .int (iI z113)), (7, .int (iI z128))]) X.1 X.2.1 d_M_sequence_246 hl (by decide) rfl (fun ls hl => ?_)
                                  refine lv_aload_n X.1 X.2.1 d_M_sequence_248 rfl (lv_at hl 6 rfl) ?_
                                  refine lv_iload X.1 X.2.1 d_M_sequence_249 (lv_at hl 4 rfl) ?_
                                  refine lv_iload X.1 X.2.1 d_M_sequence_251 (lv_at hl 1 rfl) ?_
                                  refine lv_iload X.1 X.2.1 d_M_sequence_253 (lv_at hl 0 rfl) ?_
                                  refine r_ni (m_run (As := [.int (iI z158), .int (iI x171), .int (iI y171)]) (rest := []) (n := 3) X Y hZ hA hml hl.1 (his z158 (by rw [show z158 = fY a1 (z114).toNat by omega]; exact (fok_of hs i116.1 (by omega)).t) H.size I170 J170 B170 G170 x171 (by omega) (by omega) y171 (by omega) (by omega) S.1 ((S.2.2 0 (by decide)).trans gm) (show pG1 I170 from ⟨x171, y171, ex171, ey171, by omega, by omega, by omega, by omega⟩) (by omega) (by omega)) kl_M_is ks_M_is kx_M_is ki_M_is ini_M hd_M_is ⟨by simp only [mR]; omega, by simp only [mR]; omega⟩ rfl (Nat.le_of_ble_eq_true rfl) d_M_sequence_255 ⟨Nat.le_refl _, Nat.le_refl _⟩) X Y hA S (by decide) (by decide) (fun z173 u H locs Y S s173 p173 => ?_)
                                  obtain ⟨I173, J173, B173, G173⟩ := u
                                  dsimp only at Y S s173 p173
                                  obtain ⟨l173, u173, x173, g173_P1⟩ := p173
                                  rw [show z158 = fY a1 (z114).toNat by omega, show x171 = elI mm z113 a3 by omega, show y171 = elE mm z113 a3 by omega] at x173
                                  refine z_if_ne (tgt := 263) X.1 X.2.1 d_M_sequence_258 (by decide) ⟨by omega, by omega⟩ (fun h174 => ?_) (fun h174 => ?_)
                                  · refine lv_iload X.1 X.2.1 d_M_sequence_263 (lv_at hl 9 rfl) ?_
                                    refine z_if_lt (tgt := 298) X.1 X.2.1 d_M_sequence_265 (by decide) ⟨by omega, by omega⟩ (fun h175 => False.elim (by omega)) (fun h175 => ?_)
                                    · refine lv_aload_n X.1 X.2.1 d_M_sequence_268 rfl (lv_at hl 6 rfl) ?_
                                      refine m_get X Y 37 (by decide) lk_from (gf_from _ _ _) rfl d_M_sequence_269 ?_
                                      refine lv_bipush (v := iI 16) X.1 X.2.1 d_M_sequence_272 (by decide) ?_
                                      refine lv_iload X.1 X.2.1 d_M_sequence_274 (lv_at hl 9 rfl) ?_
                                      refine z_imul X.1 X.2.1 d_M_sequence_276 ?_
                                      refine lv_iload X.1 X.2.1 d_M_sequence_277 (lv_at hl 11 rfl) ?_
                                      refine z_iadd X.1 X.2.1 d_M_sequence_279 ?_
                                      refine lv_iload X.1 X.2.1 d_M_sequence_280 (lv_at hl 1 rfl) ?_
                                      refine r_iast X Y S (aw_from _ _ _ _ _ _ _) (sw_from _ _ _ _ _ _ _) rfl ⟨(show ((-1) : Int) ≤ x171 by omega), (show x171 ≤ (30000 : Int) by omega)⟩ ⟨by omega, by omega⟩ (by omega) (show (16 * a4) + z128 < ((192 : Nat) : Int) by omega) (by omega) (by decide) d_M_sequence_282 (fun B176 H locs Y S w176 => ?_)
                                      refine lv_aload_n X.1 X.2.1 d_M_sequence_283 rfl (lv_at hl 6 rfl) ?_
                                      refine m_get X Y 38 (by decide) lk_to (gf_to _ _ _) rfl d_M_sequence_284 ?_
                                      refine lv_bipush (v := iI 16) X.1 X.2.1 d_M_sequence_287 (by decide) ?_
                                      refine lv_iload X.1 X.2.1 d_M_sequence_289 (lv_at hl 9 rfl) ?_
                                      refine z_imul X.1 X.2.1 d_M_sequence_291 ?_
                                      refine lv_iload X.1 X.2.1 d_M_sequence_292 (lv_at hl 11 rfl) ?_
                                      refine z_iadd X.1 X.2.1 d_M_sequence_294 ?_
                                      refine lv_iload X.1 X.2.1 d_M_sequence_295 (lv_at hl 0 rfl) ?_
                                      refine r_iast X Y S (aw_to _ _ _ _ _ _ _) (sw_to _ _ _ _ _ _ _) rfl ⟨(show ((-1) : Int) ≤ y171 by omega), (show y171 ≤ (30000 : Int) by omega)⟩ ⟨by omega, by omega⟩ (by omega) (show (16 * a4) + z128 < ((192 : Nat) : Int) by omega) (by omega) (by decide) d_M_sequence_297 (fun B177 H locs Y S w177 => ?_)
                                      refine lv_iload X.1 X.2.1 d_M_sequence_298 (lv_at hl 0 rfl) ?_
                                      refine lv_istore (lv' := [(5, .int (iI y171)), (12, .int (iI y171)), (11, .int (iI x171)), (10, .int (iI 1)), (6, .int (iI (z127 + 3))), (9, .int (iI z158)), (8, .int (iI 1)), (0, .ref h), (1, .ref ((D.2.1 a1))), (3, .int (iI a3)), (4, .int (iI a4)), (7, .int (iI z128))]) X.1 X.2.1 d_M_sequence_300 hl (by decide) rfl (fun ls hl => ?_)
                                      refine lv_goto (tgt := 71) X.1 X.2.1 d_M_sequence_302 (by decide) ?_
                                      exact ih121 ((64 - (z127 + 3)).toNat) (by omega) y171 (z127 + 3) I173 J173 B177 G173 _ _ _ rfl (by omega) (by omega) (by omega) (by omega) (pG1_cg rfl rfl (pG1_cg rfl rfl g173_P1)) (by rw [show z127 + 3 = (fE a1 (z114).toNat : Int) by omega, show y171 = elE mm z113 a3 by omega]; exact (sqJ_take hs i116 (by omega) (by omega) (by unfold thr; omega)).2 (x170.mp (by omega)).2 (x173.mp (by omega))) (by rw [show z127 + 3 = (fE a1 (z114).toNat : Int) by omega, show y171 = elE mm z113 a3 by omega, w177.2 37 (by decide), w176.1, w177.1, w176.2 38 (by decide), show z128 = fN a1 (z114).toNat from ex.2, show x171 = elI mm z113 a3 by omega, show y171 = elE mm z113 a3 by omega]; exact FS_take hs i116.1 (by omega) (by omega) (by omega) (by unfold thr; omega) (by unfold pr; omega) (FS_cg (s173.2.2 37 (by decide)) (s173.2.2 38 (by decide)) (FS_cg (s170.2.2 37 (by decide)) (s170.2.2 38 (by decide)) i117))) (by omega) (by omega) Y S (lv_sub hl [7, 8, 9, 10, 0, 4] rfl)
                                  · refine lv_iconst (v := iI 0) X.1 X.2.1 d_M_sequence_261 (by decide) ?_
                                    exact m_retz hQQ X Y hr hlk (iI_bool (by omega) (by omega)).1 ⟨S, 0, rfl, ⟨by omega, by omega, iff_f (fun h9 => (sqJ_take hs i116 (by omega) (by omega) (by unfold thr; omega)).1 (fun h8 => by have h7 := x173.mpr h8.2; omega) h9.2), ⟨((FS_cg (s173.2.2 37 (by decide)) (s173.2.2 38 (by decide)) (FS_cg (s170.2.2 37 (by decide)) (s170.2.2 38 (by decide)) i117))).1, fun h9 => absurd h9 (by decide)⟩, g173_P1, ((FS_cg (s173.2.2 37 (by decide)) (s173.2.2 38 (by decide)) (FS_cg (s170.2.2 37 (by decide)) (s170.2.2 38 (by decide)) i117))).2.1⟩⟩ d_M_sequence_262
                                · refine lv_iconst (v := iI 0) X.1 X.2.1 d_M_sequence_234 (by decide) ?_
                                  exact m_retz hQQ X Y hr hlk (iI_bool (by omega) (by omega)).1 ⟨S, 0, rfl, ⟨by omega, by omega, iff_f (fun h9 => (sqJ_take hs i116 (by omega) (by omega) (by unfold thr; omega)).1 (fun h8 => by have h7 := x170.mpr ⟨by omega, h8.1⟩; omega) h9.2), ⟨((FS_cg (s170.2.2 37 (by decide)) (s170.2.2 38 (by decide)) i117)).1, fun h9 => absurd h9 (by decide)⟩, (show pG1 I170 from ⟨x171, y171, ex171, ey171, by omega, by omega, by omega, by omega⟩), ((FS_cg (s170.2.2 37 (by decide)) (s170.2.2 38 (by decide)) i117)).2.1⟩⟩ d_M_sequence_235
                  · refine lv_aload_n X.1 X.2.1 d_M_sequence_94 rfl (lv_at hl 1 rfl) ?_
                    refine lv_iload X.1 X.2.1 d_M_sequence_95 (lv_at hl 5 rfl) ?_
                    refine r_charAt (i := a1) X Y hZ k1 (by omega) (by omega) hml hl.1 ⟨by simp only [mR]; omega, by simp only [mR]; omega⟩ (Nat.le_of_ble_eq_true rfl) d_M_sequence_97 ⟨Nat.le_refl _, Nat.le_refl _⟩ (fun H locs z178 Y e178 l178 u178 => ?_)
                    have c178 := cz_of k1 (by omega) (by omega) e178 l178 u178
                    refine lv_bipush (v := iI 57) X.1 X.2.1 d_M_sequence_100 (by decide) ?_
                    refine z_icmp_gt (tgt := 128) X.1 X.2.1 d_M_sequence_102 (by decide) ⟨by omega, by omega⟩ ⟨by omega, by omega⟩ (fun h179 => ?_) (fun h179 => ?_)
                    · have ex : z127 = z114 + fW a1 (z114).toNat ∧ z128 = fN a1 (z114).toNat := by rcases dg.2 with ⟨d1, d2, _, _⟩ | ⟨_, d2, d3⟩; (exact False.elim (by omega)); (exact ⟨d2, d3⟩)
                      have my := f_may hs (by omega) i116.1 (by omega) ex.1
                      have ex : z127 = z114 + fW a1 (z114).toNat ∧ z128 = fN a1 (z114).toNat := by rcases dg.2 with ⟨d1, d2, _, _⟩ | ⟨_, d2, d3⟩; (exact False.elim (by omega)); (exact ⟨d2, d3⟩)
                      have my := f_may hs (by omega) i116.1 (by omega) ex.1
                      refine lv_aload_n X.1 X.2.1 d_M_sequence_128 rfl (lv_at hl 1 rfl) ?_
                      refine lv_iload X.1 X.2.1 d_M_sequence_129 (lv_at hl 5 rfl) ?_
                      refine r_charAt (i := a1) X Y hZ k1 (by omega) (by omega) hml hl.1 ⟨by simp only [mR]; omega, by simp only [mR]; omega⟩ (Nat.le_of_ble_eq_true rfl) d_M_sequence_131 ⟨Nat.le_refl _, Nat.le_refl _⟩ (fun H locs z180 Y e180 l180 u180 => ?_)
                      have c180 := cz_of k1 (by omega) (by omega) e180 l180 u180
                      refine lv_bipush (v := iI 63) X.1 X.2.1 d_M_sequence_134 (by decide) ?_
                      refine z_icmp_ne (tgt := 143) X.1 X.2.1 d_M_sequence_136 (by decide) ⟨by omega, by omega⟩ ⟨by omega, by omega⟩ (fun h181 => ?_) (fun h181 => ?_)
                      · refine lv_iconst (v := iI 0) X.1 X.2.1 d_M_sequence_143 (by decide) ?_
                        refine lv_istore (lv' := [(8, .int (iI 0)), (0, .ref h), (1, .ref ((D.2.1 a1))), (3, .int (iI a3)), (4, .int (iI a4)), (5, .int (iI z113)), (6, .int (iI z127)), (7, .int (iI z128))]) X.1 X.2.1 d_M_sequence_144 hl (by decide) rfl (fun ls hl => ?_)
                        refine lv_iload X.1 X.2.1 d_M_sequence_146 (lv_at hl 0 rfl) ?_
                        refine z_if_eq (tgt := 154) X.1 X.2.1 d_M_sequence_148 (by decide) ⟨by omega, by omega⟩ (fun h182 => ?_) (fun h182 => False.elim (by omega))
                        · refine lv_aload_n X.1 X.2.1 d_M_sequence_154 rfl (lv_at hl 2 rfl) ?_
                          refine lv_iload X.1 X.2.1 d_M_sequence_155 (lv_at hl 6 rfl) ?_
                          refine r_charAt (i := a1) X Y hZ k1 (by omega) (by omega) hml hl.1 ⟨by simp only [mR]; omega, by simp only [mR]; omega⟩ (Nat.le_of_ble_eq_true rfl) d_M_sequence_157 ⟨Nat.le_refl _, Nat.le_refl _⟩ (fun H locs z183 Y e183 l183 u183 => ?_)
                          have c183 := cz_of k1 (by omega) (by omega) e183 l183 u183
                          refine lv_istore (lv' := [(9, .int (iI z183)), (8, .int (iI 0)), (0, .ref h), (1, .ref ((D.2.1 a1))), (3, .int (iI a3)), (4, .int (iI a4)), (5, .int (iI z113)), (6, .int (iI z127)), (7, .int (iI z128))]) X.1 X.2.1 d_M_sequence_160 hl (by decide) rfl (fun ls hl => ?_)
                          refine lv_iinc (v := iI (z127 + 2)) (lv' := [(6, .int (iI (z127 + 2))), (9, .int (iI z183)), (8, .int (iI 0)), (0, .ref h), (1, .ref ((D.2.1 a1))), (3, .int (iI a3)), (4, .int (iI a4)), (5, .int (iI z113)), (7, .int (iI z128))]) X.1 X.2.1 d_M_sequence_162 hl (k := 7) rfl ((iI_add _ _).trans (congrArg iI (by omega))) (by decide) rfl (fun ls hl => ?_)
                          refine lv_iload X.1 X.2.1 d_M_sequence_165 (lv_at hl 7 rfl) ?_
                          refine lv_iload_n X.1 X.2.1 d_M_sequence_167 rfl (lv_at hl 5 rfl) ?_
                          refine z_icmp_ge (tgt := 195) X.1 X.2.1 d_M_sequence_168 (by decide) ⟨by omega, by omega⟩ ⟨by omega, by omega⟩ (fun h184 => ?_) (fun h184 => ?_)
                          · refine lv_iconst (v := iI 0) X.1 X.2.1 d_M_sequence_195 (by decide) ?_
                            refine lv_istore (lv' := [(10, .int (iI 0)), (6, .int (iI (z127 + 2))), (9, .int (iI z183)), (8, .int (iI 0)), (0, .ref h), (1, .ref ((D.2.1 a1))), (3, .int (iI a3)), (4, .int (iI a4)), (5, .int (iI z113)), (7, .int (iI z128))]) X.1 X.2.1 d_M_sequence_196 hl (by decide) rfl (fun ls hl => ?_)
                            refine lv_iload X.1 X.2.1 d_M_sequence_198 (lv_at hl 0 rfl) ?_
                            refine z_if_ne (tgt := 210) X.1 X.2.1 d_M_sequence_200 (by decide) ⟨by omega, by omega⟩ (fun h185 => False.elim (by omega)) (fun h185 => ?_)
                            · refine lv_iload X.1 X.2.1 d_M_sequence_203 (lv_at hl 3 rfl) ?_
                              refine z_if_ne (tgt := 210) X.1 X.2.1 d_M_sequence_205 (by decide) ⟨by omega, by omega⟩ (fun h186 => False.elim (by omega)) (fun h186 => ?_)
                              · refine lv_iconst (v := iI 0) X.1 X.2.1 d_M_sequence_208 (by decide) ?_
                                exact m_retz hQQ X Y hr hlk (iI_bool (by omega) (by omega)).1 ⟨S, 0, rfl, ⟨by omega, by omega, iff_f (fun h9 => (sqJ_skip hs i116 (by omega) (by omega) (by unfold thr; omega)).1 (by omega) h9.2), ⟨(i117).1, fun h9 => absurd h9 (by decide)⟩, f115, (i117).2.1⟩⟩ d_M_sequence_209
                          · refine lv_aload_n X.1 X.2.1 d_M_sequence_171 rfl (lv_at hl 3 rfl) ?_
                            refine m_get X Y 0 (by decide) lk_mem (gf_mem _ _ _) rfl d_M_sequence_172 ?_
                            refine lv_iload X.1 X.2.1 d_M_sequence_175 (lv_at hl 7 rfl) ?_
                            refine r_bald X Y S (aw_mem _ _ _ _ _ _ _) rfl (by omega) (show z113 < ((60000 : Nat) : Int) by omega) (by omega) d_M_sequence_177 (fun z187 q187 l187 u187 => ?_)
                            rw [(S.2.2 0 (by decide)).trans gm] at q187
                            have g187 : gb mm z113 = z187 % 256 := by unfold gb; rw [← q187]
                            have s187 : sg mm z113 = z187 := by unfold sg; rw [← q187]
                            refine lv_sipush (v := iI 255) X.1 X.2.1 d_M_sequence_178 (by decide) ?_
                            refine z_iand255 X.1 X.2.1 d_M_sequence_181 ?_
                            refine lv_sipush (v := iI 160) X.1 X.2.1 d_M_sequence_182 (by decide) ?_
                            refine lv_iload X.1 X.2.1 d_M_sequence_185 (lv_at hl 8 rfl) ?_
                            refine z_iadd X.1 X.2.1 d_M_sequence_187 ?_
                            refine z_icmp_ne (tgt := 195) X.1 X.2.1 d_M_sequence_188 (by decide) ⟨by omega, by omega⟩ ⟨by omega, by omega⟩ (fun h188 => ?_) (fun h188 => ?_)
                            · refine lv_iconst (v := iI 0) X.1 X.2.1 d_M_sequence_195 (by decide) ?_
                              refine lv_istore (lv' := [(10, .int (iI 0)), (6, .int (iI (z127 + 2))), (9, .int (iI z183)), (8, .int (iI 0)), (0, .ref h), (1, .ref ((D.2.1 a1))), (3, .int (iI a3)), (4, .int (iI a4)), (5, .int (iI z113)), (7, .int (iI z128))]) X.1 X.2.1 d_M_sequence_196 hl (by decide) rfl (fun ls hl => ?_)
                              refine lv_iload X.1 X.2.1 d_M_sequence_198 (lv_at hl 0 rfl) ?_
                              refine z_if_ne (tgt := 210) X.1 X.2.1 d_M_sequence_200 (by decide) ⟨by omega, by omega⟩ (fun h189 => False.elim (by omega)) (fun h189 => ?_)
                              · refine lv_iload X.1 X.2.1 d_M_sequence_203 (lv_at hl 3 rfl) ?_
                                refine z_if_ne (tgt := 210) X.1 X.2.1 d_M_sequence_205 (by decide) ⟨by omega, by omega⟩ (fun h190 => False.elim (by omega)) (fun h190 => ?_)
                                · refine lv_iconst (v := iI 0) X.1 X.2.1 d_M_sequence_208 (by decide) ?_
                                  exact m_retz hQQ X Y hr hlk (iI_bool (by omega) (by omega)).1 ⟨S, 0, rfl, ⟨by omega, by omega, iff_f (fun h9 => (sqJ_skip hs i116 (by omega) (by omega) (by unfold thr; omega)).1 (by omega) h9.2), ⟨(i117).1, fun h9 => absurd h9 (by decide)⟩, f115, (i117).2.1⟩⟩ d_M_sequence_209
                            · refine lv_iconst (v := iI 1) X.1 X.2.1 d_M_sequence_191 (by decide) ?_
                              refine lv_goto (tgt := 196) X.1 X.2.1 d_M_sequence_192 (by decide) ?_
                              refine lv_istore (lv' := [(10, .int (iI 1)), (6, .int (iI (z127 + 2))), (9, .int (iI z183)), (8, .int (iI 0)), (0, .ref h), (1, .ref ((D.2.1 a1))), (3, .int (iI a3)), (4, .int (iI a4)), (5, .int (iI z113)), (7, .int (iI z128))]) X.1 X.2.1 d_M_sequence_196 hl (by decide) rfl (fun ls hl => ?_)
                              refine lv_iload X.1 X.2.1 d_M_sequence_198 (lv_at hl 0 rfl) ?_
                              refine z_if_ne (tgt := 210) X.1 X.2.1 d_M_sequence_200 (by decide) ⟨by omega, by omega⟩ (fun h191 => ?_) (fun h191 => False.elim (by omega))
                              · refine lv_iload X.1 X.2.1 d_M_sequence_210 (lv_at hl 0 rfl) ?_
                                refine z_if_ne (tgt := 218) X.1 X.2.1 d_M_sequence_212 (by decide) ⟨by omega, by omega⟩ (fun h192 => ?_) (fun h192 => False.elim (by omega))
                                · refine lv_aload_n X.1 X.2.1 d_M_sequence_218 rfl (lv_at hl 4 rfl) ?_
                                  refine lv_iload X.1 X.2.1 d_M_sequence_219 (lv_at hl 8 rfl) ?_
                                  refine lv_iload_n X.1 X.2.1 d_M_sequence_221 rfl (lv_at hl 6 rfl) ?_
                                  refine lv_sipush (v := iI 160) X.1 X.2.1 d_M_sequence_222 (by decide) ?_
                                  refine lv_iload X.1 X.2.1 d_M_sequence_225 (lv_at hl 9 rfl) ?_
                                  refine z_iadd X.1 X.2.1 d_M_sequence_227 ?_
                                  refine r_ni (m_run (As := [.int (iI z113), .int (iI a3), .int (iI (160 + z128))]) (rest := []) (n := 3) X Y hZ hA hml hl.1 (r_M_element l D E h q H.size I112 J112 B112 G112 z113 (by omega) (by omega) a3 (by omega) (by omega) (160 + z128) (by omega) (by omega) S.1 mm ((S.2.2 0 (by decide)).trans gm) f115 (by omega) (by omega)) kl_M_element ks_M_element kx_M_element ki_M_element ini_M hd_M_element ⟨by simp only [mR]; omega, by simp only [mR]; omega⟩ rfl (Nat.le_of_ble_eq_true rfl) d_M_sequence_228 ⟨Nat.le_refl _, Nat.le_refl _⟩) X Y hA S (by decide) (by decide) (fun z193 u H locs Y S s193 p193 => ?_)
                                  obtain ⟨I193, J193, B193, G193⟩ := u
                                  dsimp only at Y S s193 p193
                                  obtain ⟨l193, u193, x193, st193⟩ := p193
                                  obtain ⟨x194, y194, ex194, ey194, lx194, ly194, uy194, dy194, iy194, ky194⟩ := st193
                                  refine z_if_ne (tgt := 236) X.1 X.2.1 d_M_sequence_231 (by decide) ⟨by omega, by omega⟩ (fun h195 => ?_) (fun h195 => ?_)
                                  · refine lv_aload_n X.1 X.2.1 d_M_sequence_236 rfl (lv_at hl 4 rfl) ?_
                                    refine r_get0 X Y (by decide) lk_inside (gf_inside _ _ _) rfl ex194 d_M_sequence_237 ?_
                                    refine lv_istore (lv' := [(11, .int (iI x194)), (10, .int (iI 1)), (6, .int (iI (z127 + 2))), (9, .int (iI z183)), (8, .int (iI 0)), (0, .ref h), (1, .ref ((D.2.1 a1))), (3, .int (iI a3)), (4, .int (iI a4)), (5, .int (iI z113)), (7, .int (iI z128))]) X.1 X.2.1 d_M_sequence_240 hl (by decide) rfl (fun ls hl => ?_)
                                    refine lv_aload_n X.1 X.2.1 d_M_sequence_242 rfl (lv_at hl 5 rfl) ?_
                                    refine r_get0 X Y (by decide) lk_behind (gf_behind _ _ _) rfl ey194 d_M_sequence_243 ?_
                                    refine lv_istore (lv' := [(12, .int (iI y194)), (11, .int (iI x194)), (10, .int (iI 1)), (6, .int (iI (z127 + 2))), (9, .int (iI z183)), (8, .int (iI 0)), (0, .ref h), (1, .ref ((D.2.1 a1))), (3, .int (iI a3)), (4, .int (iI a4)), (5, .int (iI z113)), (7, .int (iI z128))]) X.1 X.2.1 d_M_sequence_246 hl (by decide) rfl (fun ls hl => ?_)
                                    refine lv_aload_n X.1 X.2.1 d_M_sequence_248 rfl (lv_at hl 6 rfl) ?_
                                    refine lv_iload X.1 X.2.1 d_M_sequence_249 (lv_at hl 4 rfl) ?_
                                    refine lv_iload X.1 X.2.1 d_M_sequence_251 (lv_at hl 1 rfl) ?_
                                    refine lv_iload X.1 X.2.1 d_M_sequence_253 (lv_at hl 0 rfl) ?_
                                    refine r_ni (m_run (As := [.int (iI z183), .int (iI x194), .int (iI y194)]) (rest := []) (n := 3) X Y hZ hA hml hl.1 (his z183 (by rw [show z183 = fY a1 (z114).toNat by omega]; exact (fok_of hs i116.1 (by omega)).t) H.size I193 J193 B193 G193 x194 (by omega) (by omega) y194 (by omega) (by omega) S.1 ((S.2.2 0 (by decide)).trans gm) (show pG1 I193 from ⟨x194, y194, ex194, ey194, by omega, by omega, by omega, by omega⟩) (by omega) (by omega)) kl_M_is ks_M_is kx_M_is ki_M_is ini_M hd_M_is ⟨by simp only [mR]; omega, by simp only [mR]; omega⟩ rfl (Nat.le_of_ble_eq_true rfl) d_M_sequence_255 ⟨Nat.le_refl _, Nat.le_refl _⟩) X Y hA S (by decide) (by decide) (fun z196 u H locs Y S s196 p196 => ?_)
                                    obtain ⟨I196, J196, B196, G196⟩ := u
                                    dsimp only at Y S s196 p196
                                    obtain ⟨l196, u196, x196, g196_P1⟩ := p196
                                    rw [show z183 = fY a1 (z114).toNat by omega, show x194 = elI mm z113 a3 by omega, show y194 = elE mm z113 a3 by omega] at x196
                                    refine z_if_ne (tgt := 263) X.1 X.2.1 d_M_sequence_258 (by decide) ⟨by omega, by omega⟩ (fun h197 => ?_) (fun h197 => ?_)
                                    · refine lv_iload X.1 X.2.1 d_M_sequence_263 (lv_at hl 9 rfl) ?_
                                      refine z_if_lt (tgt := 298) X.1 X.2.1 d_M_sequence_265 (by decide) ⟨by omega, by omega⟩ (fun h198 => False.elim (by omega)) (fun h198 => ?_)
                                      · refine lv_aload_n X.1 X.2.1 d_M_sequence_268 rfl (lv_at hl 6 rfl) ?_
                                        refine m_get X Y 37 (by decide) lk_from (gf_from _ _ _) rfl d_M_sequence_269 ?_
                                        refine lv_bipush (v := iI 16) X.1 X.2.1 d_M_sequence_272 (by decide) ?_
                                        refine lv_iload X.1 X.2.1 d_M_sequence_274 (lv_at hl 9 rfl) ?_
                                        refine z_imul X.1 X.2.1 d_M_sequence_276 ?_
                                        refine lv_iload X.1 X.2.1 d_M_sequence_277 (lv_at hl 11 rfl) ?_
                                        refine z_iadd X.1 X.2.1 d_M_sequence_279 ?_
                                        refine lv_iload X.1 X.2.1 d_M_sequence_280 (lv_at hl 1 rfl) ?_
                                        refine r_iast X Y S (aw_from _ _ _ _ _ _ _) (sw_from _ _ _ _ _ _ _) rfl ⟨(show ((-1) : Int) ≤ x194 by omega), (show x194 ≤ (30000 : Int) by omega)⟩ ⟨by omega, by omega⟩ (by omega) (show (16 * a4) + z128 < ((192 : Nat) : Int) by omega) (by omega) (by decide) d_M_sequence_282 (fun B199 H locs Y S w199 => ?_)
                                        refine lv_aload_n X.1 X.2.1 d_M_sequence_283 rfl (lv_at hl 6 rfl) ?_
                                        refine m_get X Y 38 (by decide) lk_to (gf_to _ _ _) rfl d_M_sequence_284 ?_
                                        refine lv_bipush (v := iI 16) X.1 X.2.1 d_M_sequence_287 (by decide) ?_
                                        refine lv_iload X.1 X.2.1 d_M_sequence_289 (lv_at hl 9 rfl) ?_
                                        refine z_imul X.1 X.2.1 d_M_sequence_291 ?_
                                        refine lv_iload X.1 X.2.1 d_M_sequence_292 (lv_at hl 11 rfl) ?_
                                        refine z_iadd X.1 X.2.1 d_M_sequence_294 ?_
                                        refine lv_iload X.1 X.2.1 d_M_sequence_295 (lv_at hl 0 rfl) ?_
                                        refine r_iast X Y S (aw_to _ _ _ _ _ _ _) (sw_to _ _ _ _ _ _ _) rfl ⟨(show ((-1) : Int) ≤ y194 by omega), (show y194 ≤ (30000 : Int) by omega)⟩ ⟨by omega, by omega⟩ (by omega) (show (16 * a4) + z128 < ((192 : Nat) : Int) by omega) (by omega) (by decide) d_M_sequence_297 (fun B200 H locs Y S w200 => ?_)
                                        refine lv_iload X.1 X.2.1 d_M_sequence_298 (lv_at hl 0 rfl) ?_
                                        refine lv_istore (lv' := [(5, .int (iI y194)), (12, .int (iI y194)), (11, .int (iI x194)), (10, .int (iI 1)), (6, .int (iI (z127 + 2))), (9, .int (iI z183)), (8, .int (iI 0)), (0, .ref h), (1, .ref ((D.2.1 a1))), (3, .int (iI a3)), (4, .int (iI a4)), (7, .int (iI z128))]) X.1 X.2.1 d_M_sequence_300 hl (by decide) rfl (fun ls hl => ?_)
                                        refine lv_goto (tgt := 71) X.1 X.2.1 d_M_sequence_302 (by decide) ?_
                                        exact ih121 ((64 - (z127 + 2)).toNat) (by omega) y194 (z127 + 2) I196 J196 B200 G196 _ _ _ rfl (by omega) (by omega) (by omega) (by omega) (pG1_cg rfl rfl (pG1_cg rfl rfl g196_P1)) (by rw [show z127 + 2 = (fE a1 (z114).toNat : Int) by omega, show y194 = elE mm z113 a3 by omega]; exact (sqJ_take hs i116 (by omega) (by omega) (by unfold thr; omega)).2 (x193.mp (by omega)).2 (x196.mp (by omega))) (by rw [show z127 + 2 = (fE a1 (z114).toNat : Int) by omega, show y194 = elE mm z113 a3 by omega, w200.2 37 (by decide), w199.1, w200.1, w199.2 38 (by decide), show z128 = fN a1 (z114).toNat from ex.2, show x194 = elI mm z113 a3 by omega, show y194 = elE mm z113 a3 by omega]; exact FS_take hs i116.1 (by omega) (by omega) (by omega) (by unfold thr; omega) (by unfold pr; omega) (FS_cg (s196.2.2 37 (by decide)) (s196.2.2 38 (by decide)) (FS_cg (s193.2.2 37 (by decide)) (s193.2.2 38 (by decide)) i117))) (by omega) (by omega) Y S (lv_sub hl [7, 8, 9, 10, 0, 4] rfl)
                                    · refine lv_iconst (v := iI 0) X.1 X.2.1 d_M_sequence_261 (by decide) ?_
                                      exact m_retz hQQ X Y hr hlk (iI_bool (by omega) (by omega)).1 ⟨S, 0, rfl, ⟨by omega, by omega, iff_f (fun h9 => (sqJ_take hs i116 (by omega) (by omega) (by unfold thr; omega)).1 (fun h8 => by have h7 := x196.mpr h8.2; omega) h9.2), ⟨((FS_cg (s196.2.2 37 (by decide)) (s196.2.2 38 (by decide)) (FS_cg (s193.2.2 37 (by decide)) (s193.2.2 38 (by decide)) i117))).1, fun h9 => absurd h9 (by decide)⟩, g196_P1, ((FS_cg (s196.2.2 37 (by decide)) (s196.2.2 38 (by decide)) (FS_cg (s193.2.2 37 (by decide)) (s193.2.2 38 (by decide)) i117))).2.1⟩⟩ d_M_sequence_262
                                  · refine lv_iconst (v := iI 0) X.1 X.2.1 d_M_sequence_234 (by decide) ?_
                                    exact m_retz hQQ X Y hr hlk (iI_bool (by omega) (by omega)).1 ⟨S, 0, rfl, ⟨by omega, by omega, iff_f (fun h9 => (sqJ_take hs i116 (by omega) (by omega) (by unfold thr; omega)).1 (fun h8 => by have h7 := x193.mpr ⟨by omega, h8.1⟩; omega) h9.2), ⟨((FS_cg (s193.2.2 37 (by decide)) (s193.2.2 38 (by decide)) i117)).1, fun h9 => absurd h9 (by decide)⟩, (show pG1 I193 from ⟨x194, y194, ex194, ey194, by omega, by omega, by omega, by omega⟩), ((FS_cg (s193.2.2 37 (by decide)) (s193.2.2 38 (by decide)) i117)).2.1⟩⟩ d_M_sequence_235
                      · refine lv_iconst (v := iI 1) X.1 X.2.1 d_M_sequence_139 (by decide) ?_
                        refine lv_goto (tgt := 144) X.1 X.2.1 d_M_sequence_140 (by decide) ?_
                        refine lv_istore (lv' := [(8, .int (iI 1)), (0, .ref h), (1, .ref ((D.2.1 a1))), (3, .int (iI a3)), (4, .int (iI a4)), (5, .int (iI z113)), (6, .int (iI z127)), (7, .int (iI z128))]) X.1 X.2.1 d_M_sequence_144 hl (by decide) rfl (fun ls hl => ?_)
                        refine lv_iload X.1 X.2.1 d_M_sequence_146 (lv_at hl 0 rfl) ?_
                        refine z_if_eq (tgt := 154) X.1 X.2.1 d_M_sequence_148 (by decide) ⟨by omega, by omega⟩ (fun h201 => False.elim (by omega)) (fun h201 => ?_)
                        · refine lv_iinc (v := iI (z127 + 1)) (lv' := [(6, .int (iI (z127 + 1))), (8, .int (iI 1)), (0, .ref h), (1, .ref ((D.2.1 a1))), (3, .int (iI a3)), (4, .int (iI a4)), (5, .int (iI z113)), (7, .int (iI z128))]) X.1 X.2.1 d_M_sequence_151 hl (k := 6) rfl ((iI_add _ _).trans (congrArg iI (by omega))) (by decide) rfl (fun ls hl => ?_)
                          refine lv_aload_n X.1 X.2.1 d_M_sequence_154 rfl (lv_at hl 3 rfl) ?_
                          refine lv_iload X.1 X.2.1 d_M_sequence_155 (lv_at hl 0 rfl) ?_
                          refine r_charAt (i := a1) X Y hZ k1 (by omega) (by omega) hml hl.1 ⟨by simp only [mR]; omega, by simp only [mR]; omega⟩ (Nat.le_of_ble_eq_true rfl) d_M_sequence_157 ⟨Nat.le_refl _, Nat.le_refl _⟩ (fun H locs z202 Y e202 l202 u202 => ?_)
                          have c202 := cz_of k1 (by omega) (by omega) e202 l202 u202
                          refine lv_istore (lv' := [(9, .int (iI z202)), (6, .int (iI (z127 + 1))), (8, .int (iI 1)), (0, .ref h), (1, .ref ((D.2.1 a1))), (3, .int (iI a3)), (4, .int (iI a4)), (5, .int (iI z113)), (7, .int (iI z128))]) X.1 X.2.1 d_M_sequence_160 hl (by decide) rfl (fun ls hl => ?_)
                          refine lv_iinc (v := iI (z127 + 3)) (lv' := [(6, .int (iI (z127 + 3))), (9, .int (iI z202)), (8, .int (iI 1)), (0, .ref h), (1, .ref ((D.2.1 a1))), (3, .int (iI a3)), (4, .int (iI a4)), (5, .int (iI z113)), (7, .int (iI z128))]) X.1 X.2.1 d_M_sequence_162 hl (k := 1) rfl ((iI_add _ _).trans (congrArg iI (by omega))) (by decide) rfl (fun ls hl => ?_)
                          refine lv_iload X.1 X.2.1 d_M_sequence_165 (lv_at hl 7 rfl) ?_
                          refine lv_iload_n X.1 X.2.1 d_M_sequence_167 rfl (lv_at hl 5 rfl) ?_
                          refine z_icmp_ge (tgt := 195) X.1 X.2.1 d_M_sequence_168 (by decide) ⟨by omega, by omega⟩ ⟨by omega, by omega⟩ (fun h203 => ?_) (fun h203 => ?_)
                          · refine lv_iconst (v := iI 0) X.1 X.2.1 d_M_sequence_195 (by decide) ?_
                            refine lv_istore (lv' := [(10, .int (iI 0)), (6, .int (iI (z127 + 3))), (9, .int (iI z202)), (8, .int (iI 1)), (0, .ref h), (1, .ref ((D.2.1 a1))), (3, .int (iI a3)), (4, .int (iI a4)), (5, .int (iI z113)), (7, .int (iI z128))]) X.1 X.2.1 d_M_sequence_196 hl (by decide) rfl (fun ls hl => ?_)
                            refine lv_iload X.1 X.2.1 d_M_sequence_198 (lv_at hl 0 rfl) ?_
                            refine z_if_ne (tgt := 210) X.1 X.2.1 d_M_sequence_200 (by decide) ⟨by omega, by omega⟩ (fun h204 => False.elim (by omega)) (fun h204 => ?_)
                            · refine lv_iload X.1 X.2.1 d_M_sequence_203 (lv_at hl 3 rfl) ?_
                              refine z_if_ne (tgt := 210) X.1 X.2.1 d_M_sequence_205 (by decide) ⟨by omega, by omega⟩ (fun h205 => ?_) (fun h205 => False.elim (by omega))
                              · refine lv_iload X.1 X.2.1 d_M_sequence_210 (lv_at hl 0 rfl) ?_
                                refine z_if_ne (tgt := 218) X.1 X.2.1 d_M_sequence_212 (by decide) ⟨by omega, by omega⟩ (fun h206 => False.elim (by omega)) (fun h206 => ?_)
                                · refine lv_goto (tgt := 71) X.1 X.2.1 d_M_sequence_215 (by decide) ?_
                                  exact ih121 ((64 - (z127 + 3)).toNat) (by omega) z113 (z127 + 3) I112 J112 B112 G112 _ _ _ rfl (by omega) (by omega) (by omega) (by omega) f115 (by rw [show z127 + 3 = (fE a1 (z114).toNat : Int) by omega]; exact (sqJ_skip hs i116 (by omega) (by omega) (by unfold thr; omega)).2 (by omega)) (by rw [show z127 + 3 = (fE a1 (z114).toNat : Int) by omega]; exact FS_skip hs i116.1 (by omega) (by omega) (by unfold thr; omega) i117) (by omega) (by omega) Y S (lv_sub hl [4, 5, 6, 7, 8, 1] rfl)
                          · refine lv_aload_n X.1 X.2.1 d_M_sequence_171 rfl (lv_at hl 3 rfl) ?_
                            refine m_get X Y 0 (by decide) lk_mem (gf_mem _ _ _) rfl d_M_sequence_172 ?_
                            refine lv_iload X.1 X.2.1 d_M_sequence_175 (lv_at hl 7 rfl) ?_
                            refine r_bald X Y S (aw_mem _ _ _ _ _ _ _) rfl (by omega) (show z113 < ((60000 : Nat) : Int) by omega) (by omega) d_M_sequence_177 (fun z207 q207 l207 u207 => ?_)
                            rw [(S.2.2 0 (by decide)).trans gm] at q207
                            have g207 : gb mm z113 = z207 % 256 := by unfold gb; rw [← q207]
                            have s207 : sg mm z113 = z207 := by unfold sg; rw [← q207]
                            refine lv_sipush (v := iI 255) X.1 X.2.1 d_M_sequence_178 (by decide) ?_
                            refine z_iand255 X.1 X.2.1 d_M_sequence_181 ?_
                            refine lv_sipush (v := iI 160) X.1 X.2.1 d_M_sequence_182 (by decide) ?_
                            refine lv_iload X.1 X.2.1 d_M_sequence_185 (lv_at hl 8 rfl) ?_
                            refine z_iadd X.1 X.2.1 d_M_sequence_187 ?_
                            refine z_icmp_ne (tgt := 195) X.1 X.2.1 d_M_sequence_188 (by decide) ⟨by omega, by omega⟩ ⟨by omega, by omega⟩ (fun h208 => ?_) (fun h208 => ?_)
                            · refine lv_iconst (v := iI 0) X.1 X.2.1 d_M_sequence_195 (by decide) ?_
                              refine lv_istore (lv' := [(10, .int (iI 0)), (6, .int (iI (z127 + 3))), (9, .int (iI z202)), (8, .int (iI 1)), (0, .ref h), (1, .ref ((D.2.1 a1))), (3, .int (iI a3)), (4, .int (iI a4)), (5, .int (iI z113)), (7, .int (iI z128))]) X.1 X.2.1 d_M_sequence_196 hl (by decide) rfl (fun ls hl => ?_)
                              refine lv_iload X.1 X.2.1 d_M_sequence_198 (lv_at hl 0 rfl) ?_
                              refine z_if_ne (tgt := 210) X.1 X.2.1 d_M_sequence_200 (by decide) ⟨by omega, by omega⟩ (fun h209 => False.elim (by omega)) (fun h209 => ?_)
                              · refine lv_iload X.1 X.2.1 d_M_sequence_203 (lv_at hl 3 rfl) ?_
                                refine z_if_ne (tgt := 210) X.1 X.2.1 d_M_sequence_205 (by decide) ⟨by omega, by omega⟩ (fun h210 => ?_) (fun h210 => False.elim (by omega))
                                · refine lv_iload X.1 X.2.1 d_M_sequence_210 (lv_at hl 0 rfl) ?_
                                  refine z_if_ne (tgt := 218) X.1 X.2.1 d_M_sequence_212 (by decide) ⟨by omega, by omega⟩ (fun h211 => False.elim (by omega)) (fun h211 => ?_)
                                  · refine lv_goto (tgt := 71) X.1 X.2.1 d_M_sequence_215 (by decide) ?_
                                    exact ih121 ((64 - (z127 + 3)).toNat) (by omega) z113 (z127 + 3) I112 J112 B112 G112 _ _ _ rfl (by omega) (by omega) (by omega) (by omega) f115 (by rw [show z127 + 3 = (fE a1 (z114).toNat : Int) by omega]; exact (sqJ_skip hs i116 (by omega) (by omega) (by unfold thr; omega)).2 (by omega)) (by rw [show z127 + 3 = (fE a1 (z114).toNat : Int) by omega]; exact FS_skip hs i116.1 (by omega) (by omega) (by unfold thr; omega) i117) (by omega) (by omega) Y S (lv_sub hl [4, 5, 6, 7, 8, 1] rfl)
                            · refine lv_iconst (v := iI 1) X.1 X.2.1 d_M_sequence_191 (by decide) ?_
                              refine lv_goto (tgt := 196) X.1 X.2.1 d_M_sequence_192 (by decide) ?_
                              refine lv_istore (lv' := [(10, .int (iI 1)), (6, .int (iI (z127 + 3))), (9, .int (iI z202)), (8, .int (iI 1)), (0, .ref h), (1, .ref ((D.2.1 a1))), (3, .int (iI a3)), (4, .int (iI a4)), (5, .int (iI z113)), (7, .int (iI z128))]) X.1 X.2.1 d_M_sequence_196 hl (by decide) rfl (fun ls hl => ?_)
                              refine lv_iload X.1 X.2.1 d_M_sequence_198 (lv_at hl 0 rfl) ?_
                              refine z_if_ne (tgt := 210) X.1 X.2.1 d_M_sequence_200 (by decide) ⟨by omega, by omega⟩ (fun h212 => ?_) (fun h212 => False.elim (by omega))
                              · refine lv_iload X.1 X.2.1 d_M_sequence_210 (lv_at hl 0 rfl) ?_
                                refine z_if_ne (tgt := 218) X.1 X.2.1 d_M_sequence_212 (by decide) ⟨by omega, by omega⟩ (fun h213 => ?_) (fun h213 => False.elim (by omega))
                                · refine lv_aload_n X.1 X.2.1 d_M_sequence_218 rfl (lv_at hl 4 rfl) ?_
                                  refine lv_iload X.1 X.2.1 d_M_sequence_219 (lv_at hl 8 rfl) ?_
                                  refine lv_iload_n X.1 X.2.1 d_M_sequence_221 rfl (lv_at hl 6 rfl) ?_
                                  refine lv_sipush (v := iI 160) X.1 X.2.1 d_M_sequence_222 (by decide) ?_
                                  refine lv_iload X.1 X.2.1 d_M_sequence_225 (lv_at hl 9 rfl) ?_
                                  refine z_iadd X.1 X.2.1 d_M_sequence_227 ?_
                                  refine r_ni (m_run (As := [.int (iI z113), .int (iI a3), .int (iI (160 + z128))]) (rest := []) (n := 3) X Y hZ hA hml hl.1 (r_M_element l D E h q H.size I112 J112 B112 G112 z113 (by omega) (by omega) a3 (by omega) (by omega) (160 + z128) (by omega) (by omega) S.1 mm ((S.2.2 0 (by decide)).trans gm) f115 (by omega) (by omega)) kl_M_element ks_M_element kx_M_element ki_M_element ini_M hd_M_element ⟨by simp only [mR]; omega, by simp only [mR]; omega⟩ rfl (Nat.le_of_ble_eq_true rfl) d_M_sequence_228 ⟨Nat.le_refl _, Nat.le_refl _⟩) X Y hA S (by decide) (by decide) (fun z214 u H locs Y S s214 p214 => ?_)
                                  obtain ⟨I214, J214, B214, G214⟩ := u
                                  dsimp only at Y S s214 p214
                                  obtain ⟨l214, u214, x214, st214⟩ := p214
                                  obtain ⟨x215, y215, ex215, ey215, lx215, ly215, uy215, dy215, iy215, ky215⟩ := st214
                                  refine z_if_ne (tgt := 236) X.1 X.2.1 d_M_sequence_231 (by decide) ⟨by omega, by omega⟩ (fun h216 => ?_) (fun h216 => ?_)
                                  · refine lv_aload_n X.1 X.2.1 d_M_sequence_236 rfl (lv_at hl 4 rfl) ?_
                                    refine r_get0 X Y (by decide) lk_inside (gf_inside _ _ _) rfl ex215 d_M_sequence_237 ?_
                                    refine lv_istore (lv' := [(11, .int (iI x215)), (10, .int (iI 1)), (6, .int (iI (z127 + 3))), (9, .int (iI z202)), (8, .int (iI 1)), (0, .ref h), (1, .ref ((D.2.1 a1))), (3, .int (iI a3)), (4, .int (iI a4)), (5, .int (iI z113)), (7, .int (iI z128))]) X.1 X.2.1 d_M_sequence_240 hl (by decide) rfl (fun ls hl => ?_)
                                    refine lv_aload_n X.1 X.2.1 d_M_sequence_242 rfl (lv_at hl 5 rfl) ?_
                                    refine r_get0 X Y (by decide) lk_behind (gf_behind _ _ _) rfl ey215 d_M_sequence_243 ?_
                                    refine lv_istore (lv' := [(12, .int (iI y215)), (11, .int (iI x215)), (10, .int (iI 1)), (6, .int (iI (z127 + 3))), (9, .int (iI z202)), (8, .int (iI 1)), (0, .ref h), (1, .ref ((D.2.1 a1))), (3, .int (iI a3)), (4, .int (iI a4)), (5, .int (iI z113)), (7, .int (iI z128))]) X.1 X.2.1 d_M_sequence_246 hl (by decide) rfl (fun ls hl => ?_)
                                    refine lv_aload_n X.1 X.2.1 d_M_sequence_248 rfl (lv_at hl 6 rfl) ?_
                                    refine lv_iload X.1 X.2.1 d_M_sequence_249 (lv_at hl 4 rfl) ?_
                                    refine lv_iload X.1 X.2.1 d_M_sequence_251 (lv_at hl 1 rfl) ?_
                                    refine lv_iload X.1 X.2.1 d_M_sequence_253 (lv_at hl 0 rfl) ?_
                                    refine r_ni (m_run (As := [.int (iI z202), .int (iI x215), .int (iI y215)]) (rest := []) (n := 3) X Y hZ hA hml hl.1 (his z202 (by rw [show z202 = fY a1 (z114).toNat by omega]; exact (fok_of hs i116.1 (by omega)).t) H.size I214 J214 B214 G214 x215 (by omega) (by omega) y215 (by omega) (by omega) S.1 ((S.2.2 0 (by decide)).trans gm) (show pG1 I214 from ⟨x215, y215, ex215, ey215, by omega, by omega, by omega, by omega⟩) (by omega) (by omega)) kl_M_is ks_M_is kx_M_is ki_M_is ini_M hd_M_is ⟨by simp only [mR]; omega, by simp only [mR]; omega⟩ rfl (Nat.le_of_ble_eq_true rfl) d_M_sequence_255 ⟨Nat.le_refl _, Nat.le_refl _⟩) X Y hA S (by decide) (by decide) (fun z217 u H locs Y S s217 p217 => ?_)
                                    obtain ⟨I217, J217, B217, G217⟩ := u
                                    dsimp only at Y S s217 p217
                                    obtain ⟨l217, u217, x217, g217_P1⟩ := p217
                                    rw [show z202 = fY a1 (z114).toNat by omega, show x215 = elI mm z113 a3 by omega, show y215 = elE mm z113 a3 by omega] at x217
                                    refine z_if_ne (tgt := 263) X.1 X.2.1 d_M_sequence_258 (by decide) ⟨by omega, by omega⟩ (fun h218 => ?_) (fun h218 => ?_)
                                    · refine lv_iload X.1 X.2.1 d_M_sequence_263 (lv_at hl 9 rfl) ?_
                                      refine z_if_lt (tgt := 298) X.1 X.2.1 d_M_sequence_265 (by decide) ⟨by omega, by omega⟩ (fun h219 => False.elim (by omega)) (fun h219 => ?_)
                                      · refine lv_aload_n X.1 X.2.1 d_M_sequence_268 rfl (lv_at hl 6 rfl) ?_
                                        refine m_get X Y 37 (by decide) lk_from (gf_from _ _ _) rfl d_M_sequence_269 ?_
                                        refine lv_bipush (v := iI 16) X.1 X.2.1 d_M_sequence_272 (by decide) ?_
                                        refine lv_iload X.1 X.2.1 d_M_sequence_274 (lv_at hl 9 rfl) ?_
                                        refine z_imul X.1 X.2.1 d_M_sequence_276 ?_
                                        refine lv_iload X.1 X.2.1 d_M_sequence_277 (lv_at hl 11 rfl) ?_
                                        refine z_iadd X.1 X.2.1 d_M_sequence_279 ?_
                                        refine lv_iload X.1 X.2.1 d_M_sequence_280 (lv_at hl 1 rfl) ?_
                                        refine r_iast X Y S (aw_from _ _ _ _ _ _ _) (sw_from _ _ _ _ _ _ _) rfl ⟨(show ((-1) : Int) ≤ x215 by omega), (show x215 ≤ (30000 : Int) by omega)⟩ ⟨by omega, by omega⟩ (by omega) (show (16 * a4) + z128 < ((192 : Nat) : Int) by omega) (by omega) (by decide) d_M_sequence_282 (fun B220 H locs Y S w220 => ?_)
                                        refine lv_aload_n X.1 X.2.1 d_M_sequence_283 rfl (lv_at hl 6 rfl) ?_
                                        refine m_get X Y 38 (by decide) lk_to (gf_to _ _ _) rfl d_M_sequence_284 ?_
                                        refine lv_bipush (v := iI 16) X.1 X.2.1 d_M_sequence_287 (by decide) ?_
                                        refine lv_iload X.1 X.2.1 d_M_sequence_289 (lv_at hl 9 rfl) ?_
                                        refine z_imul X.1 X.2.1 d_M_sequence_291 ?_
                                        refine lv_iload X.1 X.2.1 d_M_sequence_292 (lv_at hl 11 rfl) ?_
                                        refine z_iadd X.1 X.2.1 d_M_sequence_294 ?_
                                        refine lv_iload X.1 X.2.1 d_M_sequence_295 (lv_at hl 0 rfl) ?_
                                        refine r_iast X Y S (aw_to _ _ _ _ _ _ _) (sw_to _ _ _ _ _ _ _) rfl ⟨(show ((-1) : Int) ≤ y215 by omega), (show y215 ≤ (30000 : Int) by omega)⟩ ⟨by omega, by omega⟩ (by omega) (show (16 * a4) + z128 < ((192 : Nat) : Int) by omega) (by omega) (by decide) d_M_sequence_297 (fun B221 H locs Y S w221 => ?_)
                                        refine lv_iload X.1 X.2.1 d_M_sequence_298 (lv_at hl 0 rfl) ?_
                                        refine lv_istore (lv' := [(5, .int (iI y215)), (12, .int (iI y215)), (11, .int (iI x215)), (10, .int (iI 1)), (6, .int (iI (z127 + 3))), (9, .int (iI z202)), (8, .int (iI 1)), (0, .ref h), (1, .ref ((D.2.1 a1))), (3, .int (iI a3)), (4, .int (iI a4)), (7, .int (iI z128))]) X.1 X.2.1 d_M_sequence_300 hl (by decide) rfl (fun ls hl => ?_)
                                        refine lv_goto (tgt := 71) X.1 X.2.1 d_M_sequence_302 (by decide) ?_
                                        exact ih121 ((64 - (z127 + 3)).toNat) (by omega) y215 (z127 + 3) I217 J217 B221 G217 _ _ _ rfl (by omega) (by omega) (by omega) (by omega) (pG1_cg rfl rfl (pG1_cg rfl rfl g217_P1)) (by rw [show z127 + 3 = (fE a1 (z114).toNat : Int) by omega, show y215 = elE mm z113 a3 by omega]; exact (sqJ_take hs i116 (by omega) (by omega) (by unfold thr; omega)).2 (x214.mp (by omega)).2 (x217.mp (by omega))) (by rw [show z127 + 3 = (fE a1 (z114).toNat : Int) by omega, show y215 = elE mm z113 a3 by omega, w221.2 37 (by decide), w220.1, w221.1, w220.2 38 (by decide), show z128 = fN a1 (z114).toNat from ex.2, show x215 = elI mm z113 a3 by omega, show y215 = elE mm z113 a3 by omega]; exact FS_take hs i116.1 (by omega) (by omega) (by omega) (by unfold thr; omega) (by unfold pr; omega) (FS_cg (s217.2.2 37 (by decide)) (s217.2.2 38 (by decide)) (FS_cg (s214.2.2 37 (by decide)) (s214.2.2 38 (by decide)) i117))) (by omega) (by omega) Y S (lv_sub hl [7, 8, 9, 10, 0, 4] rfl)
                                    · refine lv_iconst (v := iI 0) X.1 X.2.1 d_M_sequence_261 (by decide) ?_
                                      exact m_retz hQQ X Y hr hlk (iI_bool (by omega) (by omega)).1 ⟨S, 0, rfl, ⟨by omega, by omega, iff_f (fun h9 => (sqJ_take hs i116 (by omega) (by omega) (by unfold thr; omega)).1 (fun h8 => by have h7 := x217.mpr h8.2; omega) h9.2), ⟨((FS_cg (s217.2.2 37 (by decide)) (s217.2.2 38 (by decide)) (FS_cg (s214.2.2 37 (by decide)) (s214.2.2 38 (by decide)) i117))).1, fun h9 => absurd h9 (by decide)⟩, g217_P1, ((FS_cg (s217.2.2 37 (by decide)) (s217.2.2 38 (by decide)) (FS_cg (s214.2.2 37 (by decide)) (s214.2.2 38 (by decide)) i117))).2.1⟩⟩ d_M_sequence_262
                                  · refine lv_iconst (v := iI 0) X.1 X.2.1 d_M_sequence_234 (by decide) ?_
                                    exact m_retz hQQ X Y hr hlk (iI_bool (by omega) (by omega)).1 ⟨S, 0, rfl, ⟨by omega, by omega, iff_f (fun h9 => (sqJ_take hs i116 (by omega) (by omega) (by unfold thr; omega)).1 (fun h8 => by have h7 := x214.mpr ⟨by omega, h8.1⟩; omega) h9.2), ⟨((FS_cg (s214.2.2 37 (by decide)) (s214.2.2 38 (by decide)) i117)).1, fun h9 => absurd h9 (by decide)⟩, (show pG1 I214 from ⟨x215, y215, ex215, ey215, by omega, by omega, by omega, by omega⟩), ((FS_cg (s214.2.2 37 (by decide)) (s214.2.2 38 (by decide)) i117)).2.1⟩⟩ d_M_sequence_235
                    · refine lv_bipush (v := iI 10) X.1 X.2.1 d_M_sequence_105 (by decide) ?_
                      refine lv_iload X.1 X.2.1 d_M_sequence_107 (lv_at hl 6 rfl) ?_
                      refine z_imul X.1 X.2.1 d_M_sequence_109 ?_
                      refine lv_aload_n X.1 X.2.1 d_M_sequence_110 rfl (lv_at hl 1 rfl) ?_
                      refine lv_iload X.1 X.2.1 d_M_sequence_111 (lv_at hl 5 rfl) ?_
                      refine r_charAt (i := a1) X Y hZ k1 (by omega) (by omega) hml hl.1 ⟨by simp only [mR]; omega, by simp only [mR]; omega⟩ (Nat.le_of_ble_eq_true rfl) d_M_sequence_113 ⟨Nat.le_refl _, Nat.le_refl _⟩ (fun H locs z222 Y e222 l222 u222 => ?_)
                      have c222 := cz_of k1 (by omega) (by omega) e222 l222 u222
                      refine z_iadd X.1 X.2.1 d_M_sequence_116 ?_
                      refine lv_bipush (v := iI 48) X.1 X.2.1 d_M_sequence_117 (by decide) ?_
                      refine z_isub X.1 X.2.1 d_M_sequence_119 ?_
                      refine lv_istore (lv' := [(7, .int (iI (((10 * z128) + z222) - 48))), (0, .ref h), (1, .ref ((D.2.1 a1))), (3, .int (iI a3)), (4, .int (iI a4)), (5, .int (iI z113)), (6, .int (iI z127))]) X.1 X.2.1 d_M_sequence_120 hl (by decide) rfl (fun ls hl => ?_)
                      refine lv_iinc (v := iI (z127 + 1)) (lv' := [(6, .int (iI (z127 + 1))), (7, .int (iI (((10 * z128) + z222) - 48))), (0, .ref h), (1, .ref ((D.2.1 a1))), (3, .int (iI a3)), (4, .int (iI a4)), (5, .int (iI z113))]) X.1 X.2.1 d_M_sequence_122 hl (k := 6) rfl ((iI_add _ _).trans (congrArg iI (by omega))) (by decide) rfl (fun ls hl => ?_)
                      refine lv_goto (tgt := 83) X.1 X.2.1 d_M_sequence_125 (by decide) ?_
                      exact ih131 ((z114 + 3 - (z127 + 1)).toNat) (by omega) (z127 + 1) (((10 * z128) + z222) - 48) _ _ _ rfl (by omega) (by omega) (by omega) (by omega) (by rcases dg.2 with ⟨_, _, _, d⟩ | ⟨d, _, _⟩; (rw [show ((10 * z128) + z222) - 48 = 10 * z128 + cz a1 (z127).toNat - 48 by omega]; exact d); (exact False.elim (by omega))) Y S (lv_sub hl [2, 3, 4, 5, 6, 0, 1] rfl)
              refine lv_istore (lv' := [(7, .int (iI 0)), (0, .ref h), (1, .ref ((D.2.1 a1))), (3, .int (iI a3)), (4, .int (iI a4)), (5, .int (iI z113)), (6, .int (iI z114))]) X.1 X.2.1 d_M_sequence_81 hl (by decide) rfl (fun ls hl => ?_)
              exact J130 _ z114 0 _ _ _ rfl (by omega) (by omega) (by omega) (by omega) (.inl ⟨rfl, rfl⟩) Y S (lv_sub hl [1, 2, 3, 4, 5, 6, 0] rfl)
        refine z_icmp_ge (tgt := 71) X.1 X.2.1 d_M_sequence_29 (by decide) ⟨by omega, by omega⟩ ⟨by omega, by omega⟩ (fun h223 => ?_) (fun h223 => ?_)
        · exact J120 _ x102 0 I104 J104 B104 G104 _ _ _ rfl (by omega) (by omega) (by omega) (by omega) f106 (by rw [show x102 = elI mm a2 a3 by omega]; exact sqJ_0 hs) (by rw [show x102 = elI mm a2 a3 by omega]; exact FS_0 (show z105 = 16 by omega) i107) (by omega) (by omega) Y S (lv_sub hl [0, 1, 2, 3, 4, 5] rfl)
        · refine lv_iload X.1 X.2.1 d_M_sequence_32 (lv_at hl 3 rfl) ?_
          refine z_if_lt (tgt := 71) X.1 X.2.1 d_M_sequence_34 (by decide) ⟨by omega, by omega⟩ (fun h224 => False.elim (by omega)) (fun h224 => ?_)
          · refine lv_aload_n X.1 X.2.1 d_M_sequence_37 rfl (lv_at hl 0 rfl) ?_
            refine m_get X Y 37 (by decide) lk_from (gf_from _ _ _) rfl d_M_sequence_38 ?_
            refine lv_bipush (v := iI 16) X.1 X.2.1 d_M_sequence_41 (by decide) ?_
            refine lv_iload X.1 X.2.1 d_M_sequence_43 (lv_at hl 3 rfl) ?_
            refine z_imul X.1 X.2.1 d_M_sequence_45 ?_
            refine lv_iload X.1 X.2.1 d_M_sequence_46 (lv_at hl 6 rfl) ?_
            refine z_iadd X.1 X.2.1 d_M_sequence_48 ?_
            refine lv_iconst (v := iI (-1)) X.1 X.2.1 d_M_sequence_49 (by decide) ?_
            refine r_iast X Y S (aw_from _ _ _ _ _ _ _) (sw_from _ _ _ _ _ _ _) rfl ⟨(show ((-1) : Int) ≤ (-1) by omega), (show (-1) ≤ (30000 : Int) by omega)⟩ ⟨by omega, by omega⟩ (by omega) (show (16 * a4) + z105 < ((192 : Nat) : Int) by omega) (by omega) (by decide) d_M_sequence_50 (fun B225 H locs Y S w225 => ?_)
            refine lv_aload_n X.1 X.2.1 d_M_sequence_51 rfl (lv_at hl 0 rfl) ?_
            refine m_get X Y 38 (by decide) lk_to (gf_to _ _ _) rfl d_M_sequence_52 ?_
            refine lv_bipush (v := iI 16) X.1 X.2.1 d_M_sequence_55 (by decide) ?_
            refine lv_iload X.1 X.2.1 d_M_sequence_57 (lv_at hl 3 rfl) ?_
            refine z_imul X.1 X.2.1 d_M_sequence_59 ?_
            refine lv_iload X.1 X.2.1 d_M_sequence_60 (lv_at hl 6 rfl) ?_
            refine z_iadd X.1 X.2.1 d_M_sequence_62 ?_
            refine lv_iconst (v := iI (-1)) X.1 X.2.1 d_M_sequence_63 (by decide) ?_
            refine r_iast X Y S (aw_to _ _ _ _ _ _ _) (sw_to _ _ _ _ _ _ _) rfl ⟨(show ((-1) : Int) ≤ (-1) by omega), (show (-1) ≤ (30000 : Int) by omega)⟩ ⟨by omega, by omega⟩ (by omega) (show (16 * a4) + z105 < ((192 : Nat) : Int) by omega) (by omega) (by decide) d_M_sequence_64 (fun B226 H locs Y S w226 => ?_)
            refine lv_iinc (v := iI (z105 + 1)) (lv' := [(7, .int (iI (z105 + 1))), (0, .ref h), (1, .ref ((D.2.1 a1))), (3, .int (iI a3)), (4, .int (iI a4)), (5, .int (iI x102)), (6, .int (iI 0))]) X.1 X.2.1 d_M_sequence_65 hl (k := 6) rfl ((iI_add _ _).trans (congrArg iI (by omega))) (by decide) rfl (fun ls hl => ?_)
            refine lv_goto (tgt := 25) X.1 X.2.1 d_M_sequence_68 (by decide) ?_
            exact ih109 ((16 - (z105 + 1)).toNat) (by omega) (z105 + 1) I104 J104 B226 G104 _ _ _ rfl (by omega) (by omega) (pG1_cg rfl rfl (pG1_cg rfl rfl f106)) (by rw [w226.2 37 (by decide), w225.1, w226.1, w225.2 38 (by decide)]; exact FZ_go (by omega) (by omega) i107) Y S (lv_sub hl [1, 2, 3, 4, 5, 6, 0] rfl)
    refine lv_istore (lv' := [(7, .int (iI 0)), (6, .int (iI 0)), (5, .int (iI x102)), (0, .ref h), (1, .ref ((D.2.1 a1))), (2, .int (iI a2)), (3, .int (iI a3)), (4, .int (iI a4))]) X.1 X.2.1 d_M_sequence_23 hl (by decide) rfl (fun ls hl => ?_)
    exact J108 _ 0 I101 J101 B101 G101 _ _ _ rfl (by omega) (by omega) (show pG1 I101 from ⟨x102, y102, ex102, ey102, by omega, by omega, by omega, by omega⟩) (FZ_cg (s101.2.2 37 (by decide)) (s101.2.2 38 (by decide)) fz0) Y S (lv_sub hl [3, 4, 6, 7, 2, 1, 0] rfl)
  · refine lv_iconst (v := iI 0) X.1 X.2.1 d_M_sequence_11 (by decide) ?_
    exact m_retz hQQ X Y hr hlk (iI_bool (by omega) (by omega)).1 ⟨S, 0, rfl, ⟨by omega, by omega, iff_f (fun h9 => absurd (x101.mpr h9.1) (by omega)), ⟨(fun j hj => (show FZ a4 0 (B 37) (B 38) (B101 37) (B101 38) from (FZ_cg (s101.2.2 37 (by decide)) (s101.2.2 38 (by decide)) fz0)).1 j (by omega)), fun h9 => absurd h9 (by decide)⟩, (show pG1 I101 from ⟨x102, y102, ex102, ey102, by omega, by omega, by omega, by omega⟩), (pG2_cg (s101.2.2 37 (by decide)) (s101.2.2 38 (by decide)) f_P2)⟩⟩ d_M_sequence_12
set_option maxHeartbeats 4000000 in
set_option maxRecDepth 100000 in
theorem r_M_applied_n (l : Launch) (D : mD) (E : mE) (h : Nat) (q : Nat → Nat) (sz : Nat) (I : Nat → Int32) (J : Nat → Int64) (B : Nat → Nat → Int32) (G : Nat → Nat → Int64) (a1 : Int) (l_a1 : 0 ≤ a1) (u_a1 : a1 ≤ 60) (a2 : Nat) (k2 : a2 < nZ) (a3 : Int) (l_a3 : (-1) ≤ a3) (u_a3 : a3 ≤ 30000) (a4 : Int) (l_a4 : (-1) ≤ a4) (u_a4 : a4 ≤ 30000) (hT : rT I B) (r : Nat) (mm : Nat → Int32) (gm : B 0 = mm) (T : Int → Int → Int → Prop) (hs : 3 ≤ a2 ∧ a2 < 26) (his : ∀ ty : Int, tyin a2 ty = true → CIs l D E h q r mm ty (T ty)) (f_P1 : pG1 I) (q0 : 0 ≤ a3 ∨ a4 < a3 + 2) (q1 : a4 - a3 ≤ 4200) : Met l y_M_applied (k_M_applied :: lw_tg) (mR (14 + 6 * r) (520 + 300 * r)) (va_Pc [.ref h, .int (iI a1), .ref (D.2.1 a2), .int (iI a3), .int (iI a4), .int (iI (-1))] (mPre D E h q (I, J, B, G) sz)) (va_Qi (rPi [39, 40] [] I B (fun (z : Int) (u : mS) => 0 ≤ z ∧ z ≤ 1 ∧ (z = 1 ↔ whP mm a3 a4 (96 + a1) ∧ sqP T mm (rs a2 0) (elI mm a3 a4) a4) ∧ pG1 u.1)) (mPost D E h q (mA E h q sz)) (mA E h q sz)) 0 0 (mA E h q sz) := by
  refine m_enter (by decide) rfl (Nat.le_of_ble_eq_true rfl) (fun p e s m below meth c ls AV QQ H locs hQQ X Y hZ hA hr hlk hml hl => ?_)
  have Y : mH D E (mA E h q sz) s.heap h q I J B G H locs := Y
  have S : rS [39, 40] [] I B I B := rS_rf hT
  have hl : lv_has ls 6 [(0, .ref h), (1, .int (iI a1)), (2, .ref ((D.2.1 a2))), (3, .int (iI a3)), (4, .int (iI a4)), (5, .int (iI ((-1))))] := hl
  refine lv_aload_n X.1 X.2.1 d_M_applied_0 rfl (lv_at hl 0 rfl) ?_
  refine lv_iload_n X.1 X.2.1 d_M_applied_1 rfl (lv_at hl 3 rfl) ?_
  refine lv_iload X.1 X.2.1 d_M_applied_2 (lv_at hl 4 rfl) ?_
  refine lv_bipush (v := iI 96) X.1 X.2.1 d_M_applied_4 (by decide) ?_
  refine lv_iload_n X.1 X.2.1 d_M_applied_6 rfl (lv_at hl 1 rfl) ?_
  refine z_iadd X.1 X.2.1 d_M_applied_7 ?_
  refine r_ni (m_run (As := [.int (iI a3), .int (iI a4), .int (iI (96 + a1))]) (rest := []) (n := 3) X Y hZ hA hml hl.1 (r_M_whole l D E h q H.size I J B G a3 (by omega) (by omega) a4 (by omega) (by omega) (96 + a1) (by omega) (by omega) S.1 mm gm f_P1 (by omega) (by omega)) kl_M_whole ks_M_whole kx_M_whole ki_M_whole ini_M hd_M_whole ⟨by simp only [mR]; omega, by simp only [mR]; omega⟩ rfl (Nat.le_of_ble_eq_true rfl) d_M_applied_8 ⟨Nat.le_refl _, Nat.le_refl _⟩) X Y hA S (by decide) (by decide) (fun z101 u H locs Y S s101 p101 => ?_)
  obtain ⟨I101, J101, B101, G101⟩ := u
  dsimp only at Y S s101 p101
  obtain ⟨l101, u101, x101, st101⟩ := p101
  obtain ⟨x102, y102, ex102, ey102, lx102, ly102, uy102, dy102, iy102⟩ := st101
  refine z_if_ne (tgt := 16) X.1 X.2.1 d_M_applied_11 (by decide) ⟨by omega, by omega⟩ (fun h103 => ?_) (fun h103 => ?_)
  · refine lv_aload_n X.1 X.2.1 d_M_applied_16 rfl (lv_at hl 0 rfl) ?_
    refine lv_aload_n X.1 X.2.1 d_M_applied_17 rfl (lv_at hl 2 rfl) ?_
    refine lv_aload_n X.1 X.2.1 d_M_applied_18 rfl (lv_at hl 0 rfl) ?_
    refine r_get0 X Y (by decide) lk_inside (gf_inside _ _ _) rfl ex102 d_M_applied_19 ?_
    refine lv_iload X.1 X.2.1 d_M_applied_22 (lv_at hl 4 rfl) ?_
    refine lv_iload X.1 X.2.1 d_M_applied_24 (lv_at hl 5 rfl) ?_
    refine r_ni (m_run (As := [.ref ((D.2.1 a2)), .int (iI x102), .int (iI a4), .int (iI ((-1)))]) (rest := []) (n := 4) X Y hZ hA hml hl.1 (r_M_sequence_n l D E h q H.size I101 J101 B101 G101 a2 k2 x102 (by omega) (by omega) a4 (by omega) (by omega) S.1 r mm ((S.2.2 0 (by decide)).trans gm) T hs his (show pG1 I101 from ⟨x102, y102, ex102, ey102, by omega, by omega, by omega, by omega⟩) (by omega) (by omega)) kl_M_sequence ks_M_sequence kx_M_sequence ki_M_sequence ini_M hd_M_sequence ⟨by simp only [mR]; omega, by simp only [mR]; omega⟩ rfl (Nat.le_of_ble_eq_true rfl) d_M_applied_26 ⟨Nat.le_refl _, Nat.le_refl _⟩) X Y hA S (by decide) (by decide) (fun z104 u H locs Y S s104 p104 => ?_)
    obtain ⟨I104, J104, B104, G104⟩ := u
    dsimp only at Y S s104 p104
    obtain ⟨l104, u104, x104, g104_P1⟩ := p104
    exact m_retz hQQ X Y hr hlk (iI_bool (by omega) (by omega)).1 ⟨S, z104, rfl, ⟨by omega, by omega, by rw [← (show x102 = elI mm a3 a4 by omega)]; exact ⟨fun h9 => ⟨x101.mp (by omega), x104.mp h9⟩, fun h9 => x104.mpr h9.2⟩, g104_P1⟩⟩ d_M_applied_29
  · refine lv_iconst (v := iI 0) X.1 X.2.1 d_M_applied_14 (by decide) ?_
    exact m_retz hQQ X Y hr hlk (iI_bool (by omega) (by omega)).1 ⟨S, 0, rfl, ⟨by omega, by omega, iff_f (fun h9 => absurd (x101.mpr h9.1) (by omega)), (show pG1 I101 from ⟨x102, y102, ex102, ey102, by omega, by omega, by omega, by omega⟩)⟩⟩ d_M_applied_15
set_option maxHeartbeats 4000000 in
set_option maxRecDepth 100000 in
theorem r_M_applied_t (l : Launch) (D : mD) (E : mE) (h : Nat) (q : Nat → Nat) (sz : Nat) (I : Nat → Int32) (J : Nat → Int64) (B : Nat → Nat → Int32) (G : Nat → Nat → Int64) (a1 : Int) (l_a1 : 0 ≤ a1) (u_a1 : a1 ≤ 60) (a2 : Nat) (k2 : a2 < nZ) (a3 : Int) (l_a3 : (-1) ≤ a3) (u_a3 : a3 ≤ 30000) (a4 : Int) (l_a4 : (-1) ≤ a4) (u_a4 : a4 ≤ 30000) (a5 : Int) (l_a5 : 0 ≤ a5) (u_a5 : a5 ≤ 11) (hT : rT I B) (r : Nat) (mm : Nat → Int32) (gm : B 0 = mm) (T : Int → Int → Int → Prop) (hs : 3 ≤ a2 ∧ a2 < 26) (his : ∀ ty : Int, tyin a2 ty = true → CIs l D E h q r mm ty (T ty)) (f_P1 : pG1 I) (f_P2 : pG2 (B 37) (B 38)) (q0 : 0 ≤ a3 ∨ a4 < a3 + 2) (q1 : a4 - a3 ≤ 4200) : Met l y_M_applied (k_M_applied :: lw_tg) (mR (14 + 6 * r) (520 + 300 * r)) (va_Pc [.ref h, .int (iI a1), .ref (D.2.1 a2), .int (iI a3), .int (iI a4), .int (iI a5)] (mPre D E h q (I, J, B, G) sz)) (va_Qi (rPi [39, 40] [37, 38] I B (fun (z : Int) (u : mS) => 0 ≤ z ∧ z ≤ 1 ∧ (z = 1 ↔ whP mm a3 a4 (96 + a1) ∧ sqP T mm (rs a2 0) (elI mm a3 a4) a4) ∧ ((∀ j : Nat, ((j : Int) < 16 * a5 ∨ 16 * a5 + 16 ≤ j) → u.2.2.1 37 j = B 37 j ∧ u.2.2.1 38 j = B 38 j) ∧ (z = 1 → ∀ n : Int, 0 ≤ n → n < 16 → ((u.2.2.1 37 (16 * a5 + n).toNat).toInt, (u.2.2.1 38 (16 * a5 + n).toNat).toInt) = fd mm a4 (rs a2 0) (elI mm (elI mm a3 a4) a4) n (-1, -1))) ∧ pG1 u.1 ∧ pG2 (u.2.2.1 37) (u.2.2.1 38))) (mPost D E h q (mA E h q sz)) (mA E h q sz)) 0 0 (mA E h q sz) := by
  refine m_enter (by decide) rfl (Nat.le_of_ble_eq_true rfl) (fun p e s m below meth c ls AV QQ H locs hQQ X Y hZ hA hr hlk hml hl => ?_)
  have Y : mH D E (mA E h q sz) s.heap h q I J B G H locs := Y
  have S : rS [39, 40] [37, 38] I B I B := rS_rf hT
  have hl : lv_has ls 6 [(0, .ref h), (1, .int (iI a1)), (2, .ref ((D.2.1 a2))), (3, .int (iI a3)), (4, .int (iI a4)), (5, .int (iI a5))] := hl
  refine lv_aload_n X.1 X.2.1 d_M_applied_0 rfl (lv_at hl 0 rfl) ?_
  refine lv_iload_n X.1 X.2.1 d_M_applied_1 rfl (lv_at hl 3 rfl) ?_
  refine lv_iload X.1 X.2.1 d_M_applied_2 (lv_at hl 4 rfl) ?_
  refine lv_bipush (v := iI 96) X.1 X.2.1 d_M_applied_4 (by decide) ?_
  refine lv_iload_n X.1 X.2.1 d_M_applied_6 rfl (lv_at hl 1 rfl) ?_
  refine z_iadd X.1 X.2.1 d_M_applied_7 ?_
  refine r_ni (m_run (As := [.int (iI a3), .int (iI a4), .int (iI (96 + a1))]) (rest := []) (n := 3) X Y hZ hA hml hl.1 (r_M_whole l D E h q H.size I J B G a3 (by omega) (by omega) a4 (by omega) (by omega) (96 + a1) (by omega) (by omega) S.1 mm gm f_P1 (by omega) (by omega)) kl_M_whole ks_M_whole kx_M_whole ki_M_whole ini_M hd_M_whole ⟨by simp only [mR]; omega, by simp only [mR]; omega⟩ rfl (Nat.le_of_ble_eq_true rfl) d_M_applied_8 ⟨Nat.le_refl _, Nat.le_refl _⟩) X Y hA S (by decide) (by decide) (fun z101 u H locs Y S s101 p101 => ?_)
  obtain ⟨I101, J101, B101, G101⟩ := u
  dsimp only at Y S s101 p101
  obtain ⟨l101, u101, x101, st101⟩ := p101
  obtain ⟨x102, y102, ex102, ey102, lx102, ly102, uy102, dy102, iy102⟩ := st101
  refine z_if_ne (tgt := 16) X.1 X.2.1 d_M_applied_11 (by decide) ⟨by omega, by omega⟩ (fun h103 => ?_) (fun h103 => ?_)
  · refine lv_aload_n X.1 X.2.1 d_M_applied_16 rfl (lv_at hl 0 rfl) ?_
    refine lv_aload_n X.1 X.2.1 d_M_applied_17 rfl (lv_at hl 2 rfl) ?_
    refine lv_aload_n X.1 X.2.1 d_M_applied_18 rfl (lv_at hl 0 rfl) ?_
    refine r_get0 X Y (by decide) lk_inside (gf_inside _ _ _) rfl ex102 d_M_applied_19 ?_
    refine lv_iload X.1 X.2.1 d_M_applied_22 (lv_at hl 4 rfl) ?_
    refine lv_iload X.1 X.2.1 d_M_applied_24 (lv_at hl 5 rfl) ?_
    refine r_ni (m_run (As := [.ref ((D.2.1 a2)), .int (iI x102), .int (iI a4), .int (iI a5)]) (rest := []) (n := 4) X Y hZ hA hml hl.1 (r_M_sequence_t l D E h q H.size I101 J101 B101 G101 a2 k2 x102 (by omega) (by omega) a4 (by omega) (by omega) a5 (by omega) (by omega) S.1 r mm ((S.2.2 0 (by decide)).trans gm) T hs his (show pG1 I101 from ⟨x102, y102, ex102, ey102, by omega, by omega, by omega, by omega⟩) (pG2_cg (s101.2.2 37 (by decide)) (s101.2.2 38 (by decide)) f_P2) (by omega) (by omega)) kl_M_sequence ks_M_sequence kx_M_sequence ki_M_sequence ini_M hd_M_sequence ⟨by simp only [mR]; omega, by simp only [mR]; omega⟩ rfl (Nat.le_of_ble_eq_true rfl) d_M_applied_26 ⟨Nat.le_refl _, Nat.le_refl _⟩) X Y hA S (by decide) (by decide) (fun z104 u H locs Y S s104 p104 => ?_)
    obtain ⟨I104, J104, B104, G104⟩ := u
    dsimp only at Y S s104 p104
    obtain ⟨l104, u104, x104, st104, g104_P1, g104_P2⟩ := p104
    exact m_retz hQQ X Y hr hlk (iI_bool (by omega) (by omega)).1 ⟨S, z104, rfl, ⟨by omega, by omega, by rw [← (show x102 = elI mm a3 a4 by omega)]; exact ⟨fun h9 => ⟨x101.mp (by omega), x104.mp h9⟩, fun h9 => x104.mpr h9.2⟩, ⟨fun j hj => ⟨(st104.1 j hj).1.trans (congrFun (s101.2.2 37 (by decide)) j), (st104.1 j hj).2.trans (congrFun (s101.2.2 38 (by decide)) j)⟩, fun h9 => by have h8 := st104.2 h9; rw [(show x102 = elI mm a3 a4 by omega)] at h8; exact h8⟩, g104_P1, g104_P2⟩⟩ d_M_applied_29
  · refine lv_iconst (v := iI 0) X.1 X.2.1 d_M_applied_14 (by decide) ?_
    exact m_retz hQQ X Y hr hlk (iI_bool (by omega) (by omega)).1 ⟨S, 0, rfl, ⟨by omega, by omega, iff_f (fun h9 => absurd (x101.mpr h9.1) (by omega)), ⟨fun j _ => ⟨congrFun (s101.2.2 37 (by decide)) j, congrFun (s101.2.2 38 (by decide)) j⟩, fun h9 => absurd h9 (by decide)⟩, (show pG1 I101 from ⟨x102, y102, ex102, ey102, by omega, by omega, by omega, by omega⟩), (pG2_cg (s101.2.2 37 (by decide)) (s101.2.2 38 (by decide)) f_P2)⟩⟩ d_M_applied_15
