/-! A new house: the calls that it takes. -/
set_option maxHeartbeats 4000000 in
set_option maxRecDepth 100000 in
theorem c_H_feed (l : Launch) (D : va_G) (E : cE) (T : cT) (L : List Nat) (f : pF) (sz : Nat) (a1 : Int32) (a2 : Int32) (a3 : Int32) (a4 : Int32) (a5 : Int32) (xo tb tr v sb qb pa ga ce aa sa : Nat) (g_tr : Nat → Int32) (m_xo : xo ∈ L) (m_tb : tb ∈ L) (m_tr : tr ∈ L) (e_xo : f xo = .inr (0, [.ref v, .ref tb, .ref sb, .ref qb, .ref pa, .ref ga, .ref ce, .ref aa, .ref sa])) (e_tb : f tb = .inr (3, [.ref tr, .int (nI 0)])) (e_tr : f tr = .inl (E.1, 4000, .inl g_tr)) (f_tr : fB g_tr) : Met l y_H_feed (k_H_feed :: lw_tg) (kRm 2 42 0 (0)) (va_Pc [.ref xo, .int a1, .int a2, .int a3, .int a4, .int a5] (kPre D E T L f sz)) (va_Qi (fun (r0 : Int32) (u : cU) => u.1 = L ∧ (∀ x, x ≠ tb → x ≠ tr → u.2 x = f x) ∧ ∃ (tn2 : Nat) (k_tr : Nat → Int32), fB k_tr ∧ u.2 tb = .inr (3, [.ref tr, .int (nI tn2)]) ∧ u.2 tr = .inl (E.1, 4000, .inl k_tr) ∧ (r0 = nI 1)) (cPost D E (pA L sz)) (pA L sz)) 0 (0) (pA L sz) := by
  refine k_enter (own := R_H) (by decide) rfl (Nat.le_of_ble_eq_true rfl) (fun p e s m below meth c ls AV QQ H locs hQQ X Y hA hin hr hlk hml hl KS KR => ?_)
  have hl : lv_has ls 6 [(0, .ref xo), (1, .int a1), (2, .int a2), (3, .int a3), (4, .int a4), (5, .int a5)] := hl
  refine lv_aload_n X.1 X.2.1 d_H_feed_0 rfl (lv_at hl 0 rfl) ?_
  refine q_get X.1 X.2.1 X.2.2.1 i_H X.2.2.2.1 X.2.2.2.2 Y m_xo e_xo rfl 1 (by decide) (X.2.2.1 _ lk_H_21) (fun _ h9 => h9) rfl d_H_feed_1 ?_
  refine q_get X.1 X.2.1 X.2.2.1 i_By X.2.2.2.1 X.2.2.2.2 Y m_tb e_tb rfl 1 (by decide) (X.2.2.1 _ lk_H_81) (fun _ h9 => h9) rfl d_H_feed_4 ?_
  refine lv_bipush (v := (nI 20)) X.1 X.2.1 d_H_feed_7 (by decide) ?_
  refine lv_iadd X.1 X.2.1 d_H_feed_9 ?_
  refine t_eq (y := nI 20) (by decide) ?_
  refine lv_sipush (v := (nI 4000)) X.1 X.2.1 d_H_feed_10 (by decide) ?_
  refine lv_icmp_le (tgt := 18) X.1 X.2.1 d_H_feed_13 (by decide) (fun c1 => ?_) (fun c1 => absurd ?_ c1)
  rotate_left
  · (rw [nI_leI (by omega) (by omega)] <;> omega)
  rw [nI_leI (by omega) (by omega)] at c1
  refine lv_aload_n X.1 X.2.1 d_H_feed_18 rfl (lv_at hl 0 rfl) ?_
  refine q_get X.1 X.2.1 X.2.2.1 i_H X.2.2.2.1 X.2.2.2.2 Y m_xo e_xo rfl 1 (by decide) (X.2.2.1 _ lk_H_21) (fun _ h9 => h9) rfl d_H_feed_19 ?_
  refine lv_iload_n X.1 X.2.1 d_H_feed_22 rfl (lv_at hl 1 rfl) ?_
  refine x_v (x_runV (As := [.int a1]) (rest := []) (n := 1) X Y hml hl.1 (c_By_putWord l D E L f H.size (a1) tb tr (4000) (0) g_tr m_tb e_tb m_tr e_tr (by omega) (by omega) f_tr) (ok_c X Y) m_tb e_tb rfl kl_H_By_putWord ks_By_putWord kx_By_putWord ki_By_putWord ini_By ⟨rfl, rfl⟩ hd_By_putWord ⟨by decide, by decide⟩ rfl (Nat.le_of_ble_eq_true rfl) d_H_feed_23 ⟨(show 0 + 0 ≤ 0 by omega), (show 0 + (0) ≤ (0) by omega)⟩) X Y hA (fun u H locs hp Y => ?_)
  obtain ⟨L3, f2⟩ := u
  obtain ⟨eL14, hF4, n5, g6, h8, h9, h10, h11, e12, e13⟩ := hp
  dsimp only at eL14 hF4 e12 e13 Y
  rw [eL14] at Y
  have e16 : f2 xo = .inr (0, [.ref v, .ref tb, .ref sb, .ref qb, .ref pa, .ref ga, .ref ce, .ref aa, .ref sa]) := (hF4 xo (q_tag e_xo e_tb (show (0 : Nat) ≠ 3 by decide)) (q_tag e_xo e_tr (show (0 : Nat) ≠ 1000 by decide))).trans e_xo
  have hF17 : ∀ x, x ≠ tb → x ≠ tr → f2 x = f x := fun x h0 h1 => (hF4 x h0 h1).trans rfl
  refine lv_aload_n X.1 X.2.1 d_H_feed_26 rfl (lv_at hl 0 rfl) ?_
  refine q_get X.1 X.2.1 X.2.2.1 i_H X.2.2.2.1 X.2.2.2.2 Y m_xo e16 rfl 1 (by decide) (X.2.2.1 _ lk_H_21) (fun _ h9 => h9) rfl d_H_feed_27 ?_
  refine lv_iload_n X.1 X.2.1 d_H_feed_30 rfl (lv_at hl 2 rfl) ?_
  refine x_v (x_runV (As := [.int a2]) (rest := []) (n := 1) X Y hml hl.1 (c_By_putWord l D E L f2 H.size (a2) tb tr (4000) (n5) g6 m_tb e12 m_tr e13 (by omega) (by omega) h9) (ok_c X Y) m_tb e12 rfl kl_H_By_putWord ks_By_putWord kx_By_putWord ki_By_putWord ini_By ⟨rfl, rfl⟩ hd_By_putWord ⟨by decide, by decide⟩ rfl (Nat.le_of_ble_eq_true rfl) d_H_feed_31 ⟨(show 0 + 0 ≤ 0 by omega), (show 0 + (0) ≤ (0) by omega)⟩) X Y hA (fun u H locs hp Y => ?_)
  obtain ⟨L19, f18⟩ := u
  obtain ⟨eL30, hF20, n21, g22, h24, h25, h26, h27, e28, e29⟩ := hp
  dsimp only at eL30 hF20 e28 e29 Y
  rw [eL30] at Y
  have e32 : f18 xo = .inr (0, [.ref v, .ref tb, .ref sb, .ref qb, .ref pa, .ref ga, .ref ce, .ref aa, .ref sa]) := (hF20 xo (q_tag e16 e12 (show (0 : Nat) ≠ 3 by decide)) (q_tag e16 e13 (show (0 : Nat) ≠ 1000 by decide))).trans e16
  have hF33 : ∀ x, x ≠ tb → x ≠ tr → f18 x = f x := fun x h0 h1 => (hF20 x h0 h1).trans (hF17 x h0 h1)
  refine lv_aload_n X.1 X.2.1 d_H_feed_34 rfl (lv_at hl 0 rfl) ?_
  refine q_get X.1 X.2.1 X.2.2.1 i_H X.2.2.2.1 X.2.2.2.2 Y m_xo e32 rfl 1 (by decide) (X.2.2.1 _ lk_H_21) (fun _ h9 => h9) rfl d_H_feed_35 ?_
  refine lv_iload_n X.1 X.2.1 d_H_feed_38 rfl (lv_at hl 3 rfl) ?_
  refine x_v (x_runV (As := [.int a3]) (rest := []) (n := 1) X Y hml hl.1 (c_By_putWord l D E L f18 H.size (a3) tb tr (4000) (n21) g22 m_tb e28 m_tr e29 (by omega) (by omega) h25) (ok_c X Y) m_tb e28 rfl kl_H_By_putWord ks_By_putWord kx_By_putWord ki_By_putWord ini_By ⟨rfl, rfl⟩ hd_By_putWord ⟨by decide, by decide⟩ rfl (Nat.le_of_ble_eq_true rfl) d_H_feed_39 ⟨(show 0 + 0 ≤ 0 by omega), (show 0 + (0) ≤ (0) by omega)⟩) X Y hA (fun u H locs hp Y => ?_)
  obtain ⟨L35, f34⟩ := u
  obtain ⟨eL46, hF36, n37, g38, h40, h41, h42, h43, e44, e45⟩ := hp
  dsimp only at eL46 hF36 e44 e45 Y
  rw [eL46] at Y
  have e48 : f34 xo = .inr (0, [.ref v, .ref tb, .ref sb, .ref qb, .ref pa, .ref ga, .ref ce, .ref aa, .ref sa]) := (hF36 xo (q_tag e32 e28 (show (0 : Nat) ≠ 3 by decide)) (q_tag e32 e29 (show (0 : Nat) ≠ 1000 by decide))).trans e32
  have hF49 : ∀ x, x ≠ tb → x ≠ tr → f34 x = f x := fun x h0 h1 => (hF36 x h0 h1).trans (hF33 x h0 h1)
  refine lv_aload_n X.1 X.2.1 d_H_feed_42 rfl (lv_at hl 0 rfl) ?_
  refine q_get X.1 X.2.1 X.2.2.1 i_H X.2.2.2.1 X.2.2.2.2 Y m_xo e48 rfl 1 (by decide) (X.2.2.1 _ lk_H_21) (fun _ h9 => h9) rfl d_H_feed_43 ?_
  refine lv_iload X.1 X.2.1 d_H_feed_46 (lv_at hl 4 rfl) ?_
  refine x_v (x_runV (As := [.int a4]) (rest := []) (n := 1) X Y hml hl.1 (c_By_putWord l D E L f34 H.size (a4) tb tr (4000) (n37) g38 m_tb e44 m_tr e45 (by omega) (by omega) h41) (ok_c X Y) m_tb e44 rfl kl_H_By_putWord ks_By_putWord kx_By_putWord ki_By_putWord ini_By ⟨rfl, rfl⟩ hd_By_putWord ⟨by decide, by decide⟩ rfl (Nat.le_of_ble_eq_true rfl) d_H_feed_48 ⟨(show 0 + 0 ≤ 0 by omega), (show 0 + (0) ≤ (0) by omega)⟩) X Y hA (fun u H locs hp Y => ?_)
  obtain ⟨L51, f50⟩ := u
  obtain ⟨eL62, hF52, n53, g54, h56, h57, h58, h59, e60, e61⟩ := hp
  dsimp only at eL62 hF52 e60 e61 Y
  rw [eL62] at Y
  have e64 : f50 xo = .inr (0, [.ref v, .ref tb, .ref sb, .ref qb, .ref pa, .ref ga, .ref ce, .ref aa, .ref sa]) := (hF52 xo (q_tag e48 e44 (show (0 : Nat) ≠ 3 by decide)) (q_tag e48 e45 (show (0 : Nat) ≠ 1000 by decide))).trans e48
  have hF65 : ∀ x, x ≠ tb → x ≠ tr → f50 x = f x := fun x h0 h1 => (hF52 x h0 h1).trans (hF49 x h0 h1)
  refine lv_aload_n X.1 X.2.1 d_H_feed_51 rfl (lv_at hl 0 rfl) ?_
  refine q_get X.1 X.2.1 X.2.2.1 i_H X.2.2.2.1 X.2.2.2.2 Y m_xo e64 rfl 1 (by decide) (X.2.2.1 _ lk_H_21) (fun _ h9 => h9) rfl d_H_feed_52 ?_
  refine lv_iload X.1 X.2.1 d_H_feed_55 (lv_at hl 5 rfl) ?_
  refine x_v (x_runV (As := [.int a5]) (rest := []) (n := 1) X Y hml hl.1 (c_By_putWord l D E L f50 H.size (a5) tb tr (4000) (n53) g54 m_tb e60 m_tr e61 (by omega) (by omega) h57) (ok_c X Y) m_tb e60 rfl kl_H_By_putWord ks_By_putWord kx_By_putWord ki_By_putWord ini_By ⟨rfl, rfl⟩ hd_By_putWord ⟨by decide, by decide⟩ rfl (Nat.le_of_ble_eq_true rfl) d_H_feed_57 ⟨(show 0 + 0 ≤ 0 by omega), (show 0 + (0) ≤ (0) by omega)⟩) X Y hA (fun u H locs hp Y => ?_)
  obtain ⟨L67, f66⟩ := u
  obtain ⟨eL78, hF68, n69, g70, h72, h73, h74, h75, e76, e77⟩ := hp
  dsimp only at eL78 hF68 e76 e77 Y
  rw [eL78] at Y
  have e80 : f66 xo = .inr (0, [.ref v, .ref tb, .ref sb, .ref qb, .ref pa, .ref ga, .ref ce, .ref aa, .ref sa]) := (hF68 xo (q_tag e64 e60 (show (0 : Nat) ≠ 3 by decide)) (q_tag e64 e61 (show (0 : Nat) ≠ 1000 by decide))).trans e64
  have hF81 : ∀ x, x ≠ tb → x ≠ tr → f66 x = f x := fun x h0 h1 => (hF68 x h0 h1).trans (hF65 x h0 h1)
  refine lv_iconst (v := (nI 1)) X.1 X.2.1 d_H_feed_60 (by decide) ?_
  exact c_retz hQQ X Y hr hlk rfl ⟨rfl, hF81, (n69), g70, h73, e76, e77, rfl⟩ d_H_feed_61
set_option maxHeartbeats 4000000 in
set_option maxRecDepth 100000 in
theorem c_H_end (l : Launch) (D : va_G) (E : cE) (T : cT) (L : List Nat) (f : pF) (sz : Nat) (a1 : Int32) (xo tb tr v sb qb pa ga ce aa sa : Nat) (g_tr : Nat → Int32) (m_xo : xo ∈ L) (m_tb : tb ∈ L) (m_tr : tr ∈ L) (e_xo : f xo = .inr (0, [.ref v, .ref tb, .ref sb, .ref qb, .ref pa, .ref ga, .ref ce, .ref aa, .ref sa])) (e_tb : f tb = .inr (3, [.ref tr, .int (nI 0)])) (e_tr : f tr = .inl (E.1, 4000, .inl g_tr)) (f_tr : fB g_tr) : Met l y_H_end (k_H_end :: lw_tg) (kRm 0 0 0 (0)) (va_Pc [.ref xo, .int a1] (kPre D E T L f sz)) (va_Qi (fun (r0 : Int32) (u : cU) => u.1 = L ∧ (∀ x, x ≠ tb → u.2 x = f x) ∧ ∃ (tn2 : Int32), u.2 tb = .inr (3, [.ref tr, .int tn2]) ∧ (r0 = (if a1 = nI 0 then nI 1 else nI 0))) (cPost D E (pA L sz)) (pA L sz)) 0 (0) (pA L sz) := by
  refine k_enter (own := R_H) (by decide) rfl (Nat.le_of_ble_eq_true rfl) (fun p e s m below meth c ls AV QQ H locs hQQ X Y hA hin hr hlk hml hl KS KR => ?_)
  have hl : lv_has ls 2 [(0, .ref xo), (1, .int a1)] := hl
  refine lv_iload_n X.1 X.2.1 d_H_end_0 rfl (lv_at hl 1 rfl) ?_
  refine lv_if_lt (tgt := 15) X.1 X.2.1 d_H_end_1 (by decide) (fun c1 => ?_) (fun c1 => ?_)
  · skip
    refine lv_iconst (v := (nI 0)) X.1 X.2.1 d_H_end_15 (by decide) ?_
    exact c_retz hQQ X Y hr hlk rfl ⟨rfl, (fun _ _ => rfl), ((nI 0)), e_tb, (by rw [if_neg (by simp only [Int32.lt_iff_toInt_lt, Int32.le_iff_toInt_le, ← Int32.toInt_inj, show (nI 0).toInt = 0 from rfl, show (nI 1).toInt = 1 from rfl, show (nI 2).toInt = 2 from rfl, show (nI 3).toInt = 3 from rfl, show (nI 4).toInt = 4 from rfl, show (nI 7).toInt = 7 from rfl, show (nI 8).toInt = 8 from rfl, show (nI 12).toInt = 12 from rfl, show (nI 32).toInt = 32 from rfl, show (nI 63).toInt = 63 from rfl, show (nI 200).toInt = 200 from rfl, show (nI 1000000).toInt = 1000000 from rfl, show (nI 10000000).toInt = 10000000 from rfl, show (nI 2000000000).toInt = 2000000000 from rfl, show (0 : Int32).toInt = 0 from rfl, show (-1 : Int32).toInt = -1 from rfl] at c1 ⊢ <;> omega)])⟩ d_H_end_16
  · skip
    refine lv_iload_n X.1 X.2.1 d_H_end_4 rfl (lv_at hl 1 rfl) ?_
    refine lv_aload_n X.1 X.2.1 d_H_end_5 rfl (lv_at hl 0 rfl) ?_
    refine q_get X.1 X.2.1 X.2.2.1 i_H X.2.2.2.1 X.2.2.2.2 Y m_xo e_xo rfl 1 (by decide) (X.2.2.1 _ lk_H_21) (fun _ h9 => h9) rfl d_H_end_6 ?_
    refine q_get X.1 X.2.1 X.2.2.1 i_By X.2.2.2.1 X.2.2.2.2 Y m_tb e_tb rfl 1 (by decide) (X.2.2.1 _ lk_H_81) (fun _ h9 => h9) rfl d_H_end_9 ?_
    refine lv_icmp_le (tgt := 17) X.1 X.2.1 d_H_end_12 (by decide) (fun c2 => ?_) (fun c2 => ?_)
    · skip
      refine lv_aload_n X.1 X.2.1 d_H_end_17 rfl (lv_at hl 0 rfl) ?_
      refine q_get X.1 X.2.1 X.2.2.1 i_H X.2.2.2.1 X.2.2.2.2 Y m_xo e_xo rfl 1 (by decide) (X.2.2.1 _ lk_H_21) (fun _ h9 => h9) rfl d_H_end_18 ?_
      refine lv_iload_n X.1 X.2.1 d_H_end_21 rfl (lv_at hl 1 rfl) ?_
      refine q_put X.1 X.2.1 X.2.2.1 i_By t_By t_By_ok n_By X.2.2.2.1 X.2.2.2.2 Y m_tb e_tb rfl 1 (by decide) (X.2.2.1 _ lk_H_81) (fun _ h9 => h9) rfl (t_By_ok 1 (by decide)) rfl rfl (Nat.le_of_ble_eq_true rfl) d_H_end_22 (fun H locs Y => ?_)
      have e4 : (va_up f tb (.inr (3, [.ref tr, .int a1]))) tb = .inr (3, [.ref tr, .int a1]) := q_up
      have e5 : (va_up f tb (.inr (3, [.ref tr, .int a1]))) xo = .inr (0, [.ref v, .ref tb, .ref sb, .ref qb, .ref pa, .ref ga, .ref ce, .ref aa, .ref sa]) := (q_ne (q_tag e_xo e_tb (show (0 : Nat) ≠ 3 by decide))).trans e_xo
      have e6 : (va_up f tb (.inr (3, [.ref tr, .int a1]))) tr = .inl (E.1, 4000, .inl g_tr) := (q_ne (q_tag e_tr e_tb (show (1000 : Nat) ≠ 3 by decide))).trans e_tr
      have hF7 : ∀ x, x ≠ tb → (va_up f tb (.inr (3, [.ref tr, .int a1]))) x = f x := fun x h0 => (q_ne h0).trans rfl
      have Y : pH D cCl (pA L sz) s.heap L (va_up f tb (.inr (3, [.ref tr, .int a1]))) H locs := Y
      generalize (va_up f tb (.inr (3, [.ref tr, .int a1]))) = f3 at Y e4 e5 e6 hF7
      refine lv_iconst (v := (nI 1)) X.1 X.2.1 d_H_end_25 (by decide) ?_
      exact c_retz hQQ X Y hr hlk rfl ⟨rfl, hF7, (a1), e4, (by rw [if_pos (by simp only [Int32.lt_iff_toInt_lt, Int32.le_iff_toInt_le, ← Int32.toInt_inj, show (nI 0).toInt = 0 from rfl, show (nI 1).toInt = 1 from rfl, show (nI 2).toInt = 2 from rfl, show (nI 3).toInt = 3 from rfl, show (nI 4).toInt = 4 from rfl, show (nI 7).toInt = 7 from rfl, show (nI 8).toInt = 8 from rfl, show (nI 12).toInt = 12 from rfl, show (nI 32).toInt = 32 from rfl, show (nI 63).toInt = 63 from rfl, show (nI 200).toInt = 200 from rfl, show (nI 1000000).toInt = 1000000 from rfl, show (nI 10000000).toInt = 10000000 from rfl, show (nI 2000000000).toInt = 2000000000 from rfl, show (0 : Int32).toInt = 0 from rfl, show (-1 : Int32).toInt = -1 from rfl] at c1 c2 ⊢ <;> omega)])⟩ d_H_end_26
    · skip
      refine lv_iconst (v := (nI 0)) X.1 X.2.1 d_H_end_15 (by decide) ?_
      exact c_retz hQQ X Y hr hlk rfl ⟨rfl, (fun _ _ => rfl), ((nI 0)), e_tb, (by rw [if_neg (by simp only [Int32.lt_iff_toInt_lt, Int32.le_iff_toInt_le, ← Int32.toInt_inj, show (nI 0).toInt = 0 from rfl, show (nI 1).toInt = 1 from rfl, show (nI 2).toInt = 2 from rfl, show (nI 3).toInt = 3 from rfl, show (nI 4).toInt = 4 from rfl, show (nI 7).toInt = 7 from rfl, show (nI 8).toInt = 8 from rfl, show (nI 12).toInt = 12 from rfl, show (nI 32).toInt = 32 from rfl, show (nI 63).toInt = 63 from rfl, show (nI 200).toInt = 200 from rfl, show (nI 1000000).toInt = 1000000 from rfl, show (nI 10000000).toInt = 10000000 from rfl, show (nI 2000000000).toInt = 2000000000 from rfl, show (0 : Int32).toInt = 0 from rfl, show (-1 : Int32).toInt = -1 from rfl] at c1 c2 ⊢ <;> omega)])⟩ d_H_end_16
set_option maxHeartbeats 4000000 in
set_option maxRecDepth 100000 in
theorem c_H_carry (l : Launch) (D : va_G) (E : cE) (T : cT) (L : List Nat) (f : pF) (sz : Nat) (a1 : Int32) (a2 : Int32) (xo tb tr sb sr v qb pa ga ce aa sa : Nat) (g_tr g_sr : Nat → Int32) (m_xo : xo ∈ L) (m_tb : tb ∈ L) (m_tr : tr ∈ L) (m_sb : sb ∈ L) (m_sr : sr ∈ L) (e_xo : f xo = .inr (0, [.ref v, .ref tb, .ref sb, .ref qb, .ref pa, .ref ga, .ref ce, .ref aa, .ref sa])) (e_tb : f tb = .inr (3, [.ref tr, .int (nI 0)])) (e_tr : f tr = .inl (E.1, 4000, .inl g_tr)) (e_sb : f sb = .inr (3, [.ref sr, .int (nI 0)])) (e_sr : f sr = .inl (E.1, 12288, .inl g_sr)) (f_tr : fB g_tr) (f_sr : fB g_sr) (ap_tb_sb : tb ≠ sb) (ap_tr_sr : tr ≠ sr) : Met l y_H_carry (k_H_carry :: lw_tg) (kRm 2 83 0 (0)) (va_Pc [.ref xo, .int a1, .int a2] (kPre D E T L f sz)) (va_Qi (fun (r0 : Int32) (u : cU) => u.1 = L ∧ (∀ x, x ≠ tb → x ≠ tr → u.2 x = f x) ∧ ∃ (tn2 : Nat) (k_tr : Nat → Int32), fB k_tr ∧ u.2 tb = .inr (3, [.ref tr, .int (nI tn2)]) ∧ u.2 tr = .inl (E.1, 4000, .inl k_tr) ∧ (r0 = nI 0)) (cPost D E (pA L sz)) (pA L sz)) 0 (0) (pA L sz) := by
  refine k_enter (own := R_H) (by decide) rfl (Nat.le_of_ble_eq_true rfl) (fun p e s m below meth c ls AV QQ H locs hQQ X Y hA hin hr hlk hml hl KS KR => ?_)
  have hl : lv_has ls 4 [(0, .ref xo), (1, .int a1), (2, .int a2)] := hl
  refine lv_aload_n X.1 X.2.1 d_H_carry_0 rfl (lv_at hl 0 rfl) ?_
  refine q_get X.1 X.2.1 X.2.2.1 i_H X.2.2.2.1 X.2.2.2.2 Y m_xo e_xo rfl 1 (by decide) (X.2.2.1 _ lk_H_21) (fun _ h9 => h9) rfl d_H_carry_1 ?_
  refine x_v (x_runV (As := []) (rest := []) (n := 0) X Y hml hl.1 (c_By_clear l D E L f H.size  tb tr (4000) (0) g_tr m_tb e_tb m_tr e_tr (by omega) (by omega) f_tr) (ok_c X Y) m_tb e_tb rfl kl_H_By_clear ks_By_clear kx_By_clear ki_By_clear ini_By ⟨rfl, rfl⟩ hd_By_clear ⟨by decide, by decide⟩ rfl (Nat.le_of_ble_eq_true rfl) d_H_carry_4 ⟨(show 0 + 0 ≤ 0 by omega), (show 0 + (0) ≤ (0) by omega)⟩) X Y hA (fun u H locs hp Y => ?_)
  obtain ⟨L2, f1⟩ := u
  obtain ⟨eL12, hF3, n4, g5, h7, h8, h9, e10, e11⟩ := hp
  dsimp only at eL12 hF3 e10 e11 Y
  rw [eL12] at Y
  have e14 : f1 xo = .inr (0, [.ref v, .ref tb, .ref sb, .ref qb, .ref pa, .ref ga, .ref ce, .ref aa, .ref sa]) := (hF3 xo (q_tag e_xo e_tb (show (0 : Nat) ≠ 3 by decide)) (q_tag e_xo e_tr (show (0 : Nat) ≠ 1000 by decide))).trans e_xo
  have e15 : f1 sb = .inr (3, [.ref sr, .int (nI 0)]) := (hF3 sb ap_tb_sb.symm (q_tag e_sb e_tr (show (3 : Nat) ≠ 1000 by decide))).trans e_sb
  have e16 : f1 sr = .inl (E.1, 12288, .inl g_sr) := (hF3 sr (q_tag e_sr e_tb (show (1000 : Nat) ≠ 3 by decide)) ap_tr_sr.symm).trans e_sr
  have hF17 : ∀ x, x ≠ tb → x ≠ tr → f1 x = f x := fun x h0 h1 => (hF3 x h0 h1).trans rfl
  refine lv_aload_n X.1 X.2.1 d_H_carry_7 rfl (lv_at hl 0 rfl) ?_
  refine q_get X.1 X.2.1 X.2.2.1 i_H X.2.2.2.1 X.2.2.2.2 Y m_xo e14 rfl 2 (by decide) (X.2.2.1 _ lk_H_25) (fun _ h9 => h9) rfl d_H_carry_8 ?_
  refine q_get X.1 X.2.1 X.2.2.1 i_By X.2.2.2.1 X.2.2.2.2 Y m_sb e15 rfl 1 (by decide) (X.2.2.1 _ lk_H_81) (fun _ h9 => h9) rfl d_H_carry_11 ?_
  refine lv_sipush (v := (nI 4000)) X.1 X.2.1 d_H_carry_14 (by decide) ?_
  refine va_mmin X.1 X.2.1 (hml.trans hl.1.symm) X.2.2.2.1 (X.2.2.1 _ kl_H_mmin) (X.2.2.1 _ ks_mmin) (X.2.2.1 _ ini_Math) (X.2.2.1 _ ki_mmin) (Nat.le_of_ble_eq_true rfl) (Nat.le_of_ble_eq_true rfl) (show 0 ≤ 0 by omega) (show 0 ≤ (0) by omega) d_H_carry_17 ?_
  refine t_eq (y := nI 0) (by decide) ?_
  refine lv_istore_n (lv' := [(3, .int (nI 0)), (0, .ref xo), (1, .int a1), (2, .int a2)]) X.1 X.2.1 d_H_carry_20 rfl hl (by decide) rfl (fun ls hl => ?_)
  refine lv_aload_n X.1 X.2.1 d_H_carry_21 rfl (lv_at hl 1 rfl) ?_
  refine q_get X.1 X.2.1 X.2.2.1 i_H X.2.2.2.1 X.2.2.2.2 Y m_xo e14 rfl 1 (by decide) (X.2.2.1 _ lk_H_21) (fun _ h9 => h9) rfl d_H_carry_22 ?_
  refine lv_aload_n X.1 X.2.1 d_H_carry_25 rfl (lv_at hl 1 rfl) ?_
  refine q_get X.1 X.2.1 X.2.2.1 i_H X.2.2.2.1 X.2.2.2.2 Y m_xo e14 rfl 2 (by decide) (X.2.2.1 _ lk_H_25) (fun _ h9 => h9) rfl d_H_carry_26 ?_
  refine q_get X.1 X.2.1 X.2.2.1 i_By X.2.2.2.1 X.2.2.2.2 Y m_sb e15 rfl 0 (by decide) (X.2.2.1 _ lk_H_97) (fun _ h9 => h9) rfl d_H_carry_29 ?_
  refine lv_iconst (v := (nI 0)) X.1 X.2.1 d_H_carry_32 (by decide) ?_
  refine lv_iload_n X.1 X.2.1 d_H_carry_33 rfl (lv_at hl 0 rfl) ?_
  refine x_v (x_runV (As := [.ref sr, .int (nI 0), .int (nI 0)]) (rest := []) (n := 3) X Y hml hl.1 (c_By_append l D E L f1 H.size (nI 0) (nI 0) tb tr (4000) (n4) g5 m_tb e10 m_tr e11 (by omega) (by omega) h8 sr (12288) g_sr m_sr e16 f_sr (by omega) ap_tr_sr.symm) (ok_c X Y) m_tb e10 rfl kl_H_By_append ks_By_append kx_By_append ki_By_append ini_By ⟨rfl, rfl⟩ hd_By_append ⟨by decide, by decide⟩ rfl (Nat.le_of_ble_eq_true rfl) d_H_carry_34 ⟨(show 0 + 0 ≤ 0 by omega), (show 0 + (0) ≤ (0) by omega)⟩) X Y hA (fun u H locs hp Y => ?_)
  obtain ⟨L19, f18⟩ := u
  obtain ⟨eL29, hF20, n21, g22, h24, h25, h26, e27, e28⟩ := hp
  dsimp only at eL29 hF20 e27 e28 Y
  rw [eL29] at Y
  have e31 : f18 xo = .inr (0, [.ref v, .ref tb, .ref sb, .ref qb, .ref pa, .ref ga, .ref ce, .ref aa, .ref sa]) := (hF20 xo (q_tag e14 e10 (show (0 : Nat) ≠ 3 by decide)) (q_tag e14 e11 (show (0 : Nat) ≠ 1000 by decide))).trans e14
  have e32 : f18 sb = .inr (3, [.ref sr, .int (nI 0)]) := (hF20 sb ap_tb_sb.symm (q_tag e15 e11 (show (3 : Nat) ≠ 1000 by decide))).trans e15
  have e33 : f18 sr = .inl (E.1, 12288, .inl g_sr) := (hF20 sr (q_tag e16 e10 (show (1000 : Nat) ≠ 3 by decide)) ap_tr_sr.symm).trans e16
  have hF34 : ∀ x, x ≠ tb → x ≠ tr → f18 x = f x := fun x h0 h1 => (hF20 x h0 h1).trans (hF17 x h0 h1)
  refine lv_iload_n X.1 X.2.1 d_H_carry_37 rfl (lv_at hl 2 rfl) ?_
  refine lv_if_lt (tgt := 67) X.1 X.2.1 d_H_carry_38 (by decide) (fun c35 => ?_) (fun c35 => ?_)
  · skip
    refine lv_iload_n X.1 X.2.1 d_H_carry_67 rfl (lv_at hl 0 rfl) ?_
    exact c_reti hQQ X Y hr hlk ⟨rfl, hF34, (n21), g22, h25, e27, e28, rfl⟩ d_H_carry_68
  · skip
    refine lv_iload_n X.1 X.2.1 d_H_carry_41 rfl (lv_at hl 2 rfl) ?_
    refine lv_iload_n X.1 X.2.1 d_H_carry_42 rfl (lv_at hl 0 rfl) ?_
    refine lv_icmp_ge (tgt := 67) X.1 X.2.1 d_H_carry_43 (by decide) (fun c36 => ?_) (fun c36 => ?_)
    · skip
      refine lv_iload_n X.1 X.2.1 d_H_carry_67 rfl (lv_at hl 0 rfl) ?_
      exact c_reti hQQ X Y hr hlk ⟨rfl, hF34, (n21), g22, h25, e27, e28, rfl⟩ d_H_carry_68
    · skip
      exact False.elim (by simp only [Int32.lt_iff_toInt_lt, Int32.le_iff_toInt_le, ← Int32.toInt_inj, show (nI 0).toInt = 0 from rfl, show (nI 1).toInt = 1 from rfl, show (nI 2).toInt = 2 from rfl, show (nI 3).toInt = 3 from rfl, show (nI 4).toInt = 4 from rfl, show (nI 7).toInt = 7 from rfl, show (nI 8).toInt = 8 from rfl, show (nI 12).toInt = 12 from rfl, show (nI 32).toInt = 32 from rfl, show (nI 63).toInt = 63 from rfl, show (nI 200).toInt = 200 from rfl, show (nI 1000000).toInt = 1000000 from rfl, show (nI 10000000).toInt = 10000000 from rfl, show (nI 2000000000).toInt = 2000000000 from rfl, show (0 : Int32).toInt = 0 from rfl, show (-1 : Int32).toInt = -1 from rfl] at c35 c36 <;> omega)
set_option maxHeartbeats 4000000 in
set_option maxRecDepth 100000 in
theorem c_H_out (l : Launch) (D : va_G) (E : cE) (T : cT) (L : List Nat) (f : pF) (sz : Nat) (a1 : Int32) (xo sb sr v tb qb pa ga ce aa sa : Nat) (g_sr : Nat → Int32) (m_xo : xo ∈ L) (m_sb : sb ∈ L) (m_sr : sr ∈ L) (e_xo : f xo = .inr (0, [.ref v, .ref tb, .ref sb, .ref qb, .ref pa, .ref ga, .ref ce, .ref aa, .ref sa])) (e_sb : f sb = .inr (3, [.ref sr, .int (nI 0)])) (e_sr : f sr = .inl (E.1, 12288, .inl g_sr)) (f_sr : fB g_sr) : Met l y_H_out (k_H_out :: lw_tg) (kRm 1 21 0 (0)) (va_Pc [.ref xo, .int a1] (kPre D E T L f sz)) (va_Qi (fun (r0 : Int32) (u : cU) => u.1 = L ∧ (∀ x, x ≠ sb → x ≠ sr → u.2 x = f x) ∧ ∃ (sn2 : Nat) (k_sr : Nat → Int32), fB k_sr ∧ u.2 sb = .inr (3, [.ref sr, .int (nI sn2)]) ∧ u.2 sr = .inl (E.1, 12288, .inl k_sr) ∧ (r0 = (if a1 = -1 then nI 0 else (-1)))) (cPost D E (pA L sz)) (pA L sz)) 0 (0) (pA L sz) := by
  refine k_enter (own := R_H) (by decide) rfl (Nat.le_of_ble_eq_true rfl) (fun p e s m below meth c ls AV QQ H locs hQQ X Y hA hin hr hlk hml hl KS KR => ?_)
  have hl : lv_has ls 2 [(0, .ref xo), (1, .int a1)] := hl
  refine lv_iload_n X.1 X.2.1 d_H_out_0 rfl (lv_at hl 1 rfl) ?_
  refine lv_iconst (v := (-1)) X.1 X.2.1 d_H_out_1 (by decide) ?_
  refine lv_icmp_ne (tgt := 15) X.1 X.2.1 d_H_out_2 (by decide) (fun c1 => ?_) (fun c1 => ?_)
  · skip
    refine lv_aload_n X.1 X.2.1 d_H_out_15 rfl (lv_at hl 0 rfl) ?_
    refine q_get X.1 X.2.1 X.2.2.1 i_H X.2.2.2.1 X.2.2.2.2 Y m_xo e_xo rfl 2 (by decide) (X.2.2.1 _ lk_H_25) (fun _ h9 => h9) rfl d_H_out_16 ?_
    refine lv_iload_n X.1 X.2.1 d_H_out_19 rfl (lv_at hl 1 rfl) ?_
    refine x_i (x_runV (As := [.int a1]) (rest := []) (n := 1) X Y hml hl.1 (c_By_at l D E L f H.size (a1) sb sr (12288) (0) g_sr m_sb e_sb m_sr e_sr (by omega) (by omega) f_sr) (ok_c X Y) m_sb e_sb rfl kl_H_By_at ks_By_at kx_By_at ki_By_at ini_By ⟨rfl, rfl⟩ hd_By_at ⟨by decide, by decide⟩ rfl (Nat.le_of_ble_eq_true rfl) d_H_out_20 ⟨(show 0 + 0 ≤ 0 by omega), (show 0 + (0) ≤ (0) by omega)⟩) X Y hA (fun r7 u H locs hp Y => ?_)
    obtain ⟨L3, f2⟩ := u
    obtain ⟨eL13, hF4, n5, g6, h8, h9, h10, e11, e12, pr14⟩ := hp
    dsimp only at eL13 hF4 e11 e12 Y pr14
    rw [eL13] at Y
    have e15 : f2 xo = .inr (0, [.ref v, .ref tb, .ref sb, .ref qb, .ref pa, .ref ga, .ref ce, .ref aa, .ref sa]) := (hF4 xo (q_tag e_xo e_sb (show (0 : Nat) ≠ 3 by decide)) (q_tag e_xo e_sr (show (0 : Nat) ≠ 1000 by decide))).trans e_xo
    have hF16 : ∀ x, x ≠ sb → x ≠ sr → f2 x = f x := fun x h0 h1 => (hF4 x h0 h1).trans rfl
    refine t_eq (pr14.1 rfl) ?_
    exact c_reti hQQ X Y hr hlk ⟨rfl, hF16, (n5), g6, h9, e11, e12, (by rw [if_neg (by simp only [Int32.lt_iff_toInt_lt, Int32.le_iff_toInt_le, ← Int32.toInt_inj, show (nI 0).toInt = 0 from rfl, show (nI 1).toInt = 1 from rfl, show (nI 2).toInt = 2 from rfl, show (nI 3).toInt = 3 from rfl, show (nI 4).toInt = 4 from rfl, show (nI 7).toInt = 7 from rfl, show (nI 8).toInt = 8 from rfl, show (nI 12).toInt = 12 from rfl, show (nI 32).toInt = 32 from rfl, show (nI 63).toInt = 63 from rfl, show (nI 200).toInt = 200 from rfl, show (nI 1000000).toInt = 1000000 from rfl, show (nI 10000000).toInt = 10000000 from rfl, show (nI 2000000000).toInt = 2000000000 from rfl, show (0 : Int32).toInt = 0 from rfl, show (-1 : Int32).toInt = -1 from rfl] at c1 ⊢ <;> omega)])⟩ d_H_out_23
  · skip
    refine lv_aload_n X.1 X.2.1 d_H_out_5 rfl (lv_at hl 0 rfl) ?_
    refine q_get X.1 X.2.1 X.2.2.1 i_H X.2.2.2.1 X.2.2.2.2 Y m_xo e_xo rfl 2 (by decide) (X.2.2.1 _ lk_H_25) (fun _ h9 => h9) rfl d_H_out_6 ?_
    refine q_get X.1 X.2.1 X.2.2.1 i_By X.2.2.2.1 X.2.2.2.2 Y m_sb e_sb rfl 1 (by decide) (X.2.2.1 _ lk_H_81) (fun _ h9 => h9) rfl d_H_out_9 ?_
    refine lv_goto (tgt := 23) X.1 X.2.1 d_H_out_12 (by decide) ?_
    exact c_reti hQQ X Y hr hlk ⟨rfl, (fun _ _ _ => rfl), (0), g_sr, f_sr, e_sb, e_sr, (by rw [if_pos (by simp only [Int32.lt_iff_toInt_lt, Int32.le_iff_toInt_le, ← Int32.toInt_inj, show (nI 0).toInt = 0 from rfl, show (nI 1).toInt = 1 from rfl, show (nI 2).toInt = 2 from rfl, show (nI 3).toInt = 3 from rfl, show (nI 4).toInt = 4 from rfl, show (nI 7).toInt = 7 from rfl, show (nI 8).toInt = 8 from rfl, show (nI 12).toInt = 12 from rfl, show (nI 32).toInt = 32 from rfl, show (nI 63).toInt = 63 from rfl, show (nI 200).toInt = 200 from rfl, show (nI 1000000).toInt = 1000000 from rfl, show (nI 10000000).toInt = 10000000 from rfl, show (nI 2000000000).toInt = 2000000000 from rfl, show (0 : Int32).toInt = 0 from rfl, show (-1 : Int32).toInt = -1 from rfl] at c1 ⊢ <;> omega)])⟩ d_H_out_23
set_option maxHeartbeats 4000000 in
set_option maxRecDepth 100000 in
theorem c_H_clock (l : Launch) (D : va_G) (E : cE) (T : cT) (L : List Nat) (f : pF) (sz : Nat) (a1 : Int32) (xo v tb sb qb pa ga ce aa sa txo dro v_hash v_aes v_seed coo deo v_turned v_brief : Nat) (now ssz cat crw : Int32) (m_xo : xo ∈ L) (m_v : v ∈ L) (e_xo : f xo = .inr (0, [.ref v, .ref tb, .ref sb, .ref qb, .ref pa, .ref ga, .ref ce, .ref aa, .ref sa])) (e_v : f v = .inr (11, [.int now, .ref txo, .ref dro, .ref v_hash, .ref v_aes, .ref v_seed, .int ssz, .ref coo, .int cat, .int crw, .ref deo, .ref v_turned, .ref v_brief])) : Met l y_H_clock (k_H_clock :: lw_tg) (kRm 0 0 0 (0)) (va_Pc [.ref xo, .int a1] (kPre D E T L f sz)) (va_Qi (fun (r0 : Int32) (u : cU) => u.1 = L ∧ (∀ x, x ≠ v → u.2 x = f x) ∧ ∃ (now2 ssz2 cat2 crw2 : Int32), u.2 v = .inr (11, [.int now2, .ref txo, .ref dro, .ref v_hash, .ref v_aes, .ref v_seed, .int ssz2, .ref coo, .int cat2, .int crw2, .ref deo, .ref v_turned, .ref v_brief]) ∧ (r0 = (if a1 < 0 ∨ ¬ a1 ≤ nI 2000000000 then nI 0 else nI 1))) (cPost D E (pA L sz)) (pA L sz)) 0 (0) (pA L sz) := by
  refine k_enter (own := R_H) (by decide) rfl (Nat.le_of_ble_eq_true rfl) (fun p e s m below meth c ls AV QQ H locs hQQ X Y hA hin hr hlk hml hl KS KR => ?_)
  have hl : lv_has ls 2 [(0, .ref xo), (1, .int a1)] := hl
  refine lv_iload_n X.1 X.2.1 d_H_clock_0 rfl (lv_at hl 1 rfl) ?_
  refine lv_if_lt (tgt := 10) X.1 X.2.1 d_H_clock_1 (by decide) (fun c1 => ?_) (fun c1 => ?_)
  · skip
    refine lv_iconst (v := (nI 0)) X.1 X.2.1 d_H_clock_10 (by decide) ?_
    exact c_retz hQQ X Y hr hlk rfl ⟨rfl, (fun _ _ => rfl), (now), (ssz), (cat), (crw), e_v, (by rw [if_pos (by simp only [Int32.lt_iff_toInt_lt, Int32.le_iff_toInt_le, ← Int32.toInt_inj, show (nI 0).toInt = 0 from rfl, show (nI 1).toInt = 1 from rfl, show (nI 2).toInt = 2 from rfl, show (nI 3).toInt = 3 from rfl, show (nI 4).toInt = 4 from rfl, show (nI 7).toInt = 7 from rfl, show (nI 8).toInt = 8 from rfl, show (nI 12).toInt = 12 from rfl, show (nI 32).toInt = 32 from rfl, show (nI 63).toInt = 63 from rfl, show (nI 200).toInt = 200 from rfl, show (nI 1000000).toInt = 1000000 from rfl, show (nI 10000000).toInt = 10000000 from rfl, show (nI 2000000000).toInt = 2000000000 from rfl, show (0 : Int32).toInt = 0 from rfl, show (-1 : Int32).toInt = -1 from rfl] at c1 ⊢ <;> omega)])⟩ d_H_clock_11
  · skip
    refine lv_iload_n X.1 X.2.1 d_H_clock_4 rfl (lv_at hl 1 rfl) ?_
    refine lv_ldc (v := (2000000000)) X.1 X.2.1 X.2.2.2.1 (X.2.2.1 _ cn_H_109) d_H_clock_5 ?_
    refine t_eq (y := nI 2000000000) (by decide) ?_
    refine lv_icmp_le (tgt := 12) X.1 X.2.1 d_H_clock_7 (by decide) (fun c2 => ?_) (fun c2 => ?_)
    · skip
      refine lv_aload_n X.1 X.2.1 d_H_clock_12 rfl (lv_at hl 0 rfl) ?_
      refine q_get X.1 X.2.1 X.2.2.1 i_H X.2.2.2.1 X.2.2.2.2 Y m_xo e_xo rfl 0 (by decide) (X.2.2.1 _ lk_H_12) (fun _ h9 => h9) rfl d_H_clock_13 ?_
      refine lv_iload_n X.1 X.2.1 d_H_clock_16 rfl (lv_at hl 1 rfl) ?_
      refine q_put X.1 X.2.1 X.2.2.1 i_Va t_Va t_Va_ok n_Va X.2.2.2.1 X.2.2.2.2 Y m_v e_v rfl 0 (by decide) (X.2.2.1 _ lk_H_110) (fun _ h9 => h9) rfl (t_Va_ok 0 (by decide)) rfl rfl (Nat.le_of_ble_eq_true rfl) d_H_clock_17 (fun H locs Y => ?_)
      have e4 : (va_up f v (.inr (11, [.int a1, .ref txo, .ref dro, .ref v_hash, .ref v_aes, .ref v_seed, .int ssz, .ref coo, .int cat, .int crw, .ref deo, .ref v_turned, .ref v_brief]))) v = .inr (11, [.int a1, .ref txo, .ref dro, .ref v_hash, .ref v_aes, .ref v_seed, .int ssz, .ref coo, .int cat, .int crw, .ref deo, .ref v_turned, .ref v_brief]) := q_up
      have e5 : (va_up f v (.inr (11, [.int a1, .ref txo, .ref dro, .ref v_hash, .ref v_aes, .ref v_seed, .int ssz, .ref coo, .int cat, .int crw, .ref deo, .ref v_turned, .ref v_brief]))) xo = .inr (0, [.ref v, .ref tb, .ref sb, .ref qb, .ref pa, .ref ga, .ref ce, .ref aa, .ref sa]) := (q_ne (q_tag e_xo e_v (show (0 : Nat) ≠ 11 by decide))).trans e_xo
      have hF6 : ∀ x, x ≠ v → (va_up f v (.inr (11, [.int a1, .ref txo, .ref dro, .ref v_hash, .ref v_aes, .ref v_seed, .int ssz, .ref coo, .int cat, .int crw, .ref deo, .ref v_turned, .ref v_brief]))) x = f x := fun x h0 => (q_ne h0).trans rfl
      have Y : pH D cCl (pA L sz) s.heap L (va_up f v (.inr (11, [.int a1, .ref txo, .ref dro, .ref v_hash, .ref v_aes, .ref v_seed, .int ssz, .ref coo, .int cat, .int crw, .ref deo, .ref v_turned, .ref v_brief]))) H locs := Y
      generalize (va_up f v (.inr (11, [.int a1, .ref txo, .ref dro, .ref v_hash, .ref v_aes, .ref v_seed, .int ssz, .ref coo, .int cat, .int crw, .ref deo, .ref v_turned, .ref v_brief]))) = f3 at Y e4 e5 hF6
      refine lv_iconst (v := (nI 1)) X.1 X.2.1 d_H_clock_20 (by decide) ?_
      exact c_retz hQQ X Y hr hlk rfl ⟨rfl, hF6, (a1), (ssz), (cat), (crw), e4, (by rw [if_neg (by simp only [Int32.lt_iff_toInt_lt, Int32.le_iff_toInt_le, ← Int32.toInt_inj, show (nI 0).toInt = 0 from rfl, show (nI 1).toInt = 1 from rfl, show (nI 2).toInt = 2 from rfl, show (nI 3).toInt = 3 from rfl, show (nI 4).toInt = 4 from rfl, show (nI 7).toInt = 7 from rfl, show (nI 8).toInt = 8 from rfl, show (nI 12).toInt = 12 from rfl, show (nI 32).toInt = 32 from rfl, show (nI 63).toInt = 63 from rfl, show (nI 200).toInt = 200 from rfl, show (nI 1000000).toInt = 1000000 from rfl, show (nI 10000000).toInt = 10000000 from rfl, show (nI 2000000000).toInt = 2000000000 from rfl, show (0 : Int32).toInt = 0 from rfl, show (-1 : Int32).toInt = -1 from rfl] at c1 c2 ⊢ <;> omega)])⟩ d_H_clock_21
    · skip
      refine lv_iconst (v := (nI 0)) X.1 X.2.1 d_H_clock_10 (by decide) ?_
      exact c_retz hQQ X Y hr hlk rfl ⟨rfl, (fun _ _ => rfl), (now), (ssz), (cat), (crw), e_v, (by rw [if_pos (by simp only [Int32.lt_iff_toInt_lt, Int32.le_iff_toInt_le, ← Int32.toInt_inj, show (nI 0).toInt = 0 from rfl, show (nI 1).toInt = 1 from rfl, show (nI 2).toInt = 2 from rfl, show (nI 3).toInt = 3 from rfl, show (nI 4).toInt = 4 from rfl, show (nI 7).toInt = 7 from rfl, show (nI 8).toInt = 8 from rfl, show (nI 12).toInt = 12 from rfl, show (nI 32).toInt = 32 from rfl, show (nI 63).toInt = 63 from rfl, show (nI 200).toInt = 200 from rfl, show (nI 1000000).toInt = 1000000 from rfl, show (nI 10000000).toInt = 10000000 from rfl, show (nI 2000000000).toInt = 2000000000 from rfl, show (0 : Int32).toInt = 0 from rfl, show (-1 : Int32).toInt = -1 from rfl] at c1 c2 ⊢ <;> omega)])⟩ d_H_clock_11
set_option maxHeartbeats 4000000 in
set_option maxRecDepth 100000 in
theorem c_H_room (l : Launch) (D : va_G) (E : cE) (T : cT) (L : List Nat) (f : pF) (sz : Nat) (a1 : Int32) (xo ga v tb sb qb pa ce aa sa vo gpo gqo gko : Nat) (mst : Int32) (m_xo : xo ∈ L) (m_ga : ga ∈ L) (e_xo : f xo = .inr (0, [.ref v, .ref tb, .ref sb, .ref qb, .ref pa, .ref ga, .ref ce, .ref aa, .ref sa])) (e_ga : f ga = .inr (5, [.ref vo, .ref gpo, .ref gqo, .ref gko, .int mst])) : Met l y_H_room (k_H_room :: lw_tg) (kRm 0 0 0 (0)) (va_Pc [.ref xo, .int a1] (kPre D E T L f sz)) (va_Qi (fun (r0 : Int32) (u : cU) => u.1 = L ∧ (∀ x, x ≠ ga → u.2 x = f x) ∧ ∃ (mst2 : Int32), u.2 ga = .inr (5, [.ref vo, .ref gpo, .ref gqo, .ref gko, .int mst2]) ∧ (r0 = (if a1 < nI 1 ∨ ¬ a1 ≤ nI 32 then nI 0 else nI 1))) (cPost D E (pA L sz)) (pA L sz)) 0 (0) (pA L sz) := by
  refine k_enter (own := R_H) (by decide) rfl (Nat.le_of_ble_eq_true rfl) (fun p e s m below meth c ls AV QQ H locs hQQ X Y hA hin hr hlk hml hl KS KR => ?_)
  have hl : lv_has ls 2 [(0, .ref xo), (1, .int a1)] := hl
  refine lv_iload_n X.1 X.2.1 d_H_room_0 rfl (lv_at hl 1 rfl) ?_
  refine lv_iconst (v := (nI 1)) X.1 X.2.1 d_H_room_1 (by decide) ?_
  refine lv_icmp_lt (tgt := 11) X.1 X.2.1 d_H_room_2 (by decide) (fun c1 => ?_) (fun c1 => ?_)
  · skip
    refine lv_iconst (v := (nI 0)) X.1 X.2.1 d_H_room_11 (by decide) ?_
    exact c_retz hQQ X Y hr hlk rfl ⟨rfl, (fun _ _ => rfl), (mst), e_ga, (by rw [if_pos (by simp only [Int32.lt_iff_toInt_lt, Int32.le_iff_toInt_le, ← Int32.toInt_inj, show (nI 0).toInt = 0 from rfl, show (nI 1).toInt = 1 from rfl, show (nI 2).toInt = 2 from rfl, show (nI 3).toInt = 3 from rfl, show (nI 4).toInt = 4 from rfl, show (nI 7).toInt = 7 from rfl, show (nI 8).toInt = 8 from rfl, show (nI 12).toInt = 12 from rfl, show (nI 32).toInt = 32 from rfl, show (nI 63).toInt = 63 from rfl, show (nI 200).toInt = 200 from rfl, show (nI 1000000).toInt = 1000000 from rfl, show (nI 10000000).toInt = 10000000 from rfl, show (nI 2000000000).toInt = 2000000000 from rfl, show (0 : Int32).toInt = 0 from rfl, show (-1 : Int32).toInt = -1 from rfl] at c1 ⊢ <;> omega)])⟩ d_H_room_12
  · skip
    refine lv_iload_n X.1 X.2.1 d_H_room_5 rfl (lv_at hl 1 rfl) ?_
    refine lv_bipush (v := (nI 32)) X.1 X.2.1 d_H_room_6 (by decide) ?_
    refine lv_icmp_le (tgt := 13) X.1 X.2.1 d_H_room_8 (by decide) (fun c2 => ?_) (fun c2 => ?_)
    · skip
      refine lv_aload_n X.1 X.2.1 d_H_room_13 rfl (lv_at hl 0 rfl) ?_
      refine q_get X.1 X.2.1 X.2.2.1 i_H X.2.2.2.1 X.2.2.2.2 Y m_xo e_xo rfl 5 (by decide) (X.2.2.1 _ lk_H_36) (fun _ h9 => h9) rfl d_H_room_14 ?_
      refine lv_iload_n X.1 X.2.1 d_H_room_17 rfl (lv_at hl 1 rfl) ?_
      refine q_put X.1 X.2.1 X.2.2.1 i_Ga t_Ga t_Ga_ok n_Ga X.2.2.2.1 X.2.2.2.2 Y m_ga e_ga rfl 4 (by decide) (X.2.2.1 _ lk_H_145) (fun _ h9 => h9) rfl (t_Ga_ok 4 (by decide)) rfl rfl (Nat.le_of_ble_eq_true rfl) d_H_room_18 (fun H locs Y => ?_)
      have e4 : (va_up f ga (.inr (5, [.ref vo, .ref gpo, .ref gqo, .ref gko, .int a1]))) ga = .inr (5, [.ref vo, .ref gpo, .ref gqo, .ref gko, .int a1]) := q_up
      have e5 : (va_up f ga (.inr (5, [.ref vo, .ref gpo, .ref gqo, .ref gko, .int a1]))) xo = .inr (0, [.ref v, .ref tb, .ref sb, .ref qb, .ref pa, .ref ga, .ref ce, .ref aa, .ref sa]) := (q_ne (q_tag e_xo e_ga (show (0 : Nat) ≠ 5 by decide))).trans e_xo
      have hF6 : ∀ x, x ≠ ga → (va_up f ga (.inr (5, [.ref vo, .ref gpo, .ref gqo, .ref gko, .int a1]))) x = f x := fun x h0 => (q_ne h0).trans rfl
      have Y : pH D cCl (pA L sz) s.heap L (va_up f ga (.inr (5, [.ref vo, .ref gpo, .ref gqo, .ref gko, .int a1]))) H locs := Y
      generalize (va_up f ga (.inr (5, [.ref vo, .ref gpo, .ref gqo, .ref gko, .int a1]))) = f3 at Y e4 e5 hF6
      refine lv_iconst (v := (nI 1)) X.1 X.2.1 d_H_room_21 (by decide) ?_
      exact c_retz hQQ X Y hr hlk rfl ⟨rfl, hF6, (a1), e4, (by rw [if_neg (by simp only [Int32.lt_iff_toInt_lt, Int32.le_iff_toInt_le, ← Int32.toInt_inj, show (nI 0).toInt = 0 from rfl, show (nI 1).toInt = 1 from rfl, show (nI 2).toInt = 2 from rfl, show (nI 3).toInt = 3 from rfl, show (nI 4).toInt = 4 from rfl, show (nI 7).toInt = 7 from rfl, show (nI 8).toInt = 8 from rfl, show (nI 12).toInt = 12 from rfl, show (nI 32).toInt = 32 from rfl, show (nI 63).toInt = 63 from rfl, show (nI 200).toInt = 200 from rfl, show (nI 1000000).toInt = 1000000 from rfl, show (nI 10000000).toInt = 10000000 from rfl, show (nI 2000000000).toInt = 2000000000 from rfl, show (0 : Int32).toInt = 0 from rfl, show (-1 : Int32).toInt = -1 from rfl] at c1 c2 ⊢ <;> omega)])⟩ d_H_room_22
    · skip
      refine lv_iconst (v := (nI 0)) X.1 X.2.1 d_H_room_11 (by decide) ?_
      exact c_retz hQQ X Y hr hlk rfl ⟨rfl, (fun _ _ => rfl), (mst), e_ga, (by rw [if_pos (by simp only [Int32.lt_iff_toInt_lt, Int32.le_iff_toInt_le, ← Int32.toInt_inj, show (nI 0).toInt = 0 from rfl, show (nI 1).toInt = 1 from rfl, show (nI 2).toInt = 2 from rfl, show (nI 3).toInt = 3 from rfl, show (nI 4).toInt = 4 from rfl, show (nI 7).toInt = 7 from rfl, show (nI 8).toInt = 8 from rfl, show (nI 12).toInt = 12 from rfl, show (nI 32).toInt = 32 from rfl, show (nI 63).toInt = 63 from rfl, show (nI 200).toInt = 200 from rfl, show (nI 1000000).toInt = 1000000 from rfl, show (nI 10000000).toInt = 10000000 from rfl, show (nI 2000000000).toInt = 2000000000 from rfl, show (0 : Int32).toInt = 0 from rfl, show (-1 : Int32).toInt = -1 from rfl] at c1 c2 ⊢ <;> omega)])⟩ d_H_room_12
set_option maxHeartbeats 4000000 in
set_option maxRecDepth 100000 in
theorem c_H_seed (l : Launch) (D : va_G) (E : cE) (T : cT) (L : List Nat) (f : pF) (sz : Nat) (xo tb tr v se sb qb pa ga ce aa sa txo dro v_hash v_aes coo deo v_turned v_brief : Nat) (now ssz cat crw : Int32) (g_tr g_se : Nat → Int32) (m_xo : xo ∈ L) (m_tb : tb ∈ L) (m_tr : tr ∈ L) (m_v : v ∈ L) (m_se : se ∈ L) (e_xo : f xo = .inr (0, [.ref v, .ref tb, .ref sb, .ref qb, .ref pa, .ref ga, .ref ce, .ref aa, .ref sa])) (e_tb : f tb = .inr (3, [.ref tr, .int (nI 0)])) (e_tr : f tr = .inl (E.1, 4000, .inl g_tr)) (e_v : f v = .inr (11, [.int now, .ref txo, .ref dro, .ref v_hash, .ref v_aes, .ref se, .int ssz, .ref coo, .int cat, .int crw, .ref deo, .ref v_turned, .ref v_brief])) (e_se : f se = .inl (E.1, 64, .inl g_se)) (f_tr : fB g_tr) (f_se : fB g_se) (ap_tr_se : tr ≠ se) : Met l y_H_seed (k_H_seed :: lw_tg) (kRm 2 81 0 (0)) (va_Pc [.ref xo] (kPre D E T L f sz)) (va_Qi (fun (r0 : Int32) (u : cU) => u.1 = L ∧ (∀ x, x ≠ v → x ≠ se → x ≠ tb → x ≠ tr → u.2 x = f x) ∧ ∃ (tn2 : Nat) (now2 ssz2 cat2 crw2 : Int32) (k_se k_tr : Nat → Int32), fB k_se ∧ fB k_tr ∧ u.2 v = .inr (11, [.int now2, .ref txo, .ref dro, .ref v_hash, .ref v_aes, .ref se, .int ssz2, .ref coo, .int cat2, .int crw2, .ref deo, .ref v_turned, .ref v_brief]) ∧ u.2 se = .inl (E.1, 64, .inl k_se) ∧ u.2 tb = .inr (3, [.ref tr, .int (nI tn2)]) ∧ u.2 tr = .inl (E.1, 4000, .inl k_tr) ∧ (r0 = nI 1)) (cPost D E (pA L sz)) (pA L sz)) 0 (0) (pA L sz) := by
  refine k_enter (own := R_H) (by decide) rfl (Nat.le_of_ble_eq_true rfl) (fun p e s m below meth c ls AV QQ H locs hQQ X Y hA hin hr hlk hml hl KS KR => ?_)
  have hl : lv_has ls 1 [(0, .ref xo)] := hl
  refine lv_aload_n X.1 X.2.1 d_H_seed_0 rfl (lv_at hl 0 rfl) ?_
  refine q_get X.1 X.2.1 X.2.2.1 i_H X.2.2.2.1 X.2.2.2.2 Y m_xo e_xo rfl 1 (by decide) (X.2.2.1 _ lk_H_21) (fun _ h9 => h9) rfl d_H_seed_1 ?_
  refine q_get X.1 X.2.1 X.2.2.1 i_By X.2.2.2.1 X.2.2.2.2 Y m_tb e_tb rfl 1 (by decide) (X.2.2.1 _ lk_H_81) (fun _ h9 => h9) rfl d_H_seed_4 ?_
  refine lv_bipush (v := (nI 64)) X.1 X.2.1 d_H_seed_7 (by decide) ?_
  refine lv_icmp_le (tgt := 14) X.1 X.2.1 d_H_seed_9 (by decide) (fun c1 => ?_) (fun c1 => absurd ?_ c1)
  rotate_left
  · (rw [nI_leI (by omega) (by omega)] <;> omega)
  rw [nI_leI (by omega) (by omega)] at c1
  refine lv_aload_n X.1 X.2.1 d_H_seed_14 rfl (lv_at hl 0 rfl) ?_
  refine q_get X.1 X.2.1 X.2.2.1 i_H X.2.2.2.1 X.2.2.2.2 Y m_xo e_xo rfl 0 (by decide) (X.2.2.1 _ lk_H_12) (fun _ h9 => h9) rfl d_H_seed_15 ?_
  refine lv_aload_n X.1 X.2.1 d_H_seed_18 rfl (lv_at hl 0 rfl) ?_
  refine q_get X.1 X.2.1 X.2.2.1 i_H X.2.2.2.1 X.2.2.2.2 Y m_xo e_xo rfl 1 (by decide) (X.2.2.1 _ lk_H_21) (fun _ h9 => h9) rfl d_H_seed_19 ?_
  refine x_v (x_runV (As := [.ref tb]) (rest := []) (n := 1) X Y hml hl.1 (c_Va_sow l D E T L f H.size (4000) v se tb tr txo dro v_hash v_aes coo deo v_turned v_brief (0) (now) (ssz) (cat) (crw) g_se g_tr m_v m_se m_tb m_tr e_v e_se e_tb e_tr f_se f_tr ap_tr_se.symm (by omega) (by omega)) (ok_k X Y hA KS KR) m_v e_v rfl kl_H_Va_sow ks_Va_sow kx_Va_sow ki_Va_sow ini_Va ⟨rfl, rfl⟩ hd_Va_sow ⟨by decide, by decide⟩ rfl (Nat.le_of_ble_eq_true rfl) d_H_seed_22 ⟨(show 0 + 0 ≤ 0 by omega), (show 0 + (0) ≤ (0) by omega)⟩) X Y hA (fun u H locs hp Y => ?_)
  obtain ⟨L4, f3⟩ := u
  obtain ⟨eL6, hF5, v8, v9, v10, v11, g12, hg13, e14, e15⟩ := hp
  dsimp only at eL6 hF5 e14 e15 Y
  rw [eL6] at Y
  have e16 : f3 xo = .inr (0, [.ref v, .ref tb, .ref sb, .ref qb, .ref pa, .ref ga, .ref ce, .ref aa, .ref sa]) := (hF5 xo (q_tag e_xo e_v (show (0 : Nat) ≠ 11 by decide)) (q_tag e_xo e_se (show (0 : Nat) ≠ 1000 by decide))).trans e_xo
  have e17 : f3 tb = .inr (3, [.ref tr, .int (nI 0)]) := (hF5 tb (q_tag e_tb e_v (show (3 : Nat) ≠ 11 by decide)) (q_tag e_tb e_se (show (3 : Nat) ≠ 1000 by decide))).trans e_tb
  have e18 : f3 tr = .inl (E.1, 4000, .inl g_tr) := (hF5 tr (q_tag e_tr e_v (show (1000 : Nat) ≠ 11 by decide)) ap_tr_se).trans e_tr
  have hF19 : ∀ x, x ≠ v → x ≠ se → x ≠ tb → x ≠ tr → f3 x = f x := fun x h0 h1 h2 h3 => (hF5 x h0 h1).trans rfl
  refine lv_aload_n X.1 X.2.1 d_H_seed_25 rfl (lv_at hl 0 rfl) ?_
  refine q_get X.1 X.2.1 X.2.2.1 i_H X.2.2.2.1 X.2.2.2.2 Y m_xo e16 rfl 1 (by decide) (X.2.2.1 _ lk_H_21) (fun _ h9 => h9) rfl d_H_seed_26 ?_
  refine x_v (x_runV (As := []) (rest := []) (n := 0) X Y hml hl.1 (c_By_clear l D E L f3 H.size  tb tr (4000) (0) g_tr m_tb e17 m_tr e18 (by omega) (by omega) f_tr) (ok_c X Y) m_tb e17 rfl kl_H_By_clear ks_By_clear kx_By_clear ki_By_clear ini_By ⟨rfl, rfl⟩ hd_By_clear ⟨by decide, by decide⟩ rfl (Nat.le_of_ble_eq_true rfl) d_H_seed_29 ⟨(show 0 + 0 ≤ 0 by omega), (show 0 + (0) ≤ (0) by omega)⟩) X Y hA (fun u H locs hp Y => ?_)
  obtain ⟨L21, f20⟩ := u
  obtain ⟨eL31, hF22, n23, g24, h26, h27, h28, e29, e30⟩ := hp
  dsimp only at eL31 hF22 e29 e30 Y
  rw [eL31] at Y
  have e33 : f20 xo = .inr (0, [.ref v, .ref tb, .ref sb, .ref qb, .ref pa, .ref ga, .ref ce, .ref aa, .ref sa]) := (hF22 xo (q_tag e16 e17 (show (0 : Nat) ≠ 3 by decide)) (q_tag e16 e18 (show (0 : Nat) ≠ 1000 by decide))).trans e16
  have e34 : f20 v = .inr (11, [.int v8, .ref txo, .ref dro, .ref v_hash, .ref v_aes, .ref se, .int v9, .ref coo, .int v10, .int v11, .ref deo, .ref v_turned, .ref v_brief]) := (hF22 v (q_tag e14 e17 (show (11 : Nat) ≠ 3 by decide)) (q_tag e14 e18 (show (11 : Nat) ≠ 1000 by decide))).trans e14
  have e35 : f20 se = .inl (E.1, 64, .inl g12) := (hF22 se (q_tag e15 e17 (show (1000 : Nat) ≠ 3 by decide)) ap_tr_se.symm).trans e15
  have hF36 : ∀ x, x ≠ v → x ≠ se → x ≠ tb → x ≠ tr → f20 x = f x := fun x h0 h1 h2 h3 => (hF22 x h2 h3).trans (hF19 x h0 h1 h2 h3)
  refine lv_iconst (v := (nI 1)) X.1 X.2.1 d_H_seed_32 (by decide) ?_
  exact c_retz hQQ X Y hr hlk rfl ⟨rfl, hF36, (n23), (v8), (v9), (v10), (v11), g12, g24, hg13, h27, e34, e35, e29, e30, rfl⟩ d_H_seed_33
set_option maxHeartbeats 4000000 in
set_option maxRecDepth 100000 in
theorem c_H_principal (l : Launch) (D : va_G) (E : cE) (T : cT) (L : List Nat) (f : pF) (sz : Nat) (a1 : Int32) (xo pa pr tb tr v sb qb ga ce aa sa nb sno l18 l17 d18 d17 : Nat) (prd lif ren flg xpy : Int32) (g_tr : Nat → Int32) (g_pa : Nat → Option Nat) (m_xo : xo ∈ L) (m_pa : pa ∈ L) (m_pr : pr ∈ L) (m_tb : tb ∈ L) (m_tr : tr ∈ L) (e_xo : f xo = .inr (0, [.ref v, .ref tb, .ref sb, .ref qb, .ref pa, .ref ga, .ref ce, .ref aa, .ref sa])) (e_pa : f pa = .inl (E.2.2.1, 12, .inr (.inr (.inr (.inr g_pa))))) (e_pr : f pr = .inr (7, [.ref nb, .ref sno, .int (nI 1), .int (nI 1), .int prd, .ref l18, .ref l17, .ref d18, .ref d17, .int lif, .int ren, .int flg, .int xpy])) (e_tb : f tb = .inr (3, [.ref tr, .int (nI 0)])) (e_tr : f tr = .inl (E.1, 4000, .inl g_tr)) (f_tr : fB g_tr) (ap_pa_tr : pa ≠ tr) (hw_wp : wP 7 2 1 12 pr f L g_pa) (hh0 : g_pa 0 = some pr) : Met l y_H_principal (k_H_principal :: lw_tg) (kRm 1 22 0 (0)) (va_Pc [.ref xo, .int a1] (kPre D E T L f sz)) (va_Qi (fun (r0 : Int32) (u : cU) => u.1 = L ∧ (∀ x, x ≠ tb → x ≠ tr → u.2 x = f x) ∧ ∃ (tn2 : Nat) (k_tr : Nat → Int32), fB k_tr ∧ u.2 tb = .inr (3, [.ref tr, .int (nI tn2)]) ∧ u.2 tr = .inl (E.1, 4000, .inl k_tr) ∧ (r0 = (-1))) (cPost D E (pA L sz)) (pA L sz)) 0 (0) (pA L sz) := by
  refine k_enter (own := R_H) (by decide) rfl (Nat.le_of_ble_eq_true rfl) (fun p e s m below meth c ls AV QQ H locs hQQ X Y hA hin hr hlk hml hl KS KR => ?_)
  have hl : lv_has ls 5 [(0, .ref xo), (1, .int a1)] := hl
  refine lv_iconst (v := (nI 0)) X.1 X.2.1 d_H_principal_0 (by decide) ?_
  refine lv_istore_n (lv' := [(2, .int (nI 0)), (0, .ref xo), (1, .int a1)]) X.1 X.2.1 d_H_principal_1 rfl hl (by decide) rfl (fun ls hl => ?_)
  refine lv_iload_n X.1 X.2.1 d_H_principal_2 rfl (lv_at hl 0 rfl) ?_
  refine lv_bipush (v := (nI 12)) X.1 X.2.1 d_H_principal_3 (by decide) ?_
  refine lv_icmp_ge (tgt := 26) X.1 X.2.1 d_H_principal_5 (by decide) (fun c1 => absurd c1 ?_) (fun c1 => ?_)
  · (rw [nI_leI (by omega) (by omega)] <;> omega)
  rw [nI_leI (by omega) (by omega)] at c1
  refine lv_aload_n X.1 X.2.1 d_H_principal_8 rfl (lv_at hl 1 rfl) ?_
  refine q_get X.1 X.2.1 X.2.2.1 i_H X.2.2.2.1 X.2.2.2.2 Y m_xo e_xo rfl 4 (by decide) (X.2.2.1 _ lk_H_42) (fun _ h9 => h9) rfl d_H_principal_9 ?_
  refine lv_iload_n X.1 X.2.1 d_H_principal_12 rfl (lv_at hl 0 rfl) ?_
  refine q_aald X.1 X.2.1 X.2.2.2.2 Y 2 m_pa e_pa rfl (vp_in_nI (by omega) (by omega)) d_H_principal_13 ?_
  refine t_rf (show _ = some pr by rw [nI_clamp (by decide)]; exact hh0) ?_
  refine q_get X.1 X.2.1 X.2.2.1 i_Pr X.2.2.2.1 X.2.2.2.2 Y m_pr e_pr rfl 2 (by decide) (X.2.2.1 _ lk_H_116) (fun _ h9 => h9) rfl d_H_principal_14 ?_
  refine lv_if_eq (tgt := 26) X.1 X.2.1 d_H_principal_17 (by decide) (fun c2 => absurd c2 ?_) (fun c2 => ?_)
  · (rw [← nI_0, nI_eq (by omega) (by omega)] <;> omega)
  rw [← nI_0] at c2
  rw [nI_eq (by omega) (by omega)] at c2
  refine lv_iinc (v := (nI 1)) (lv' := [(2, .int (nI 1)), (0, .ref xo), (1, .int a1)]) X.1 X.2.1 d_H_principal_20 hl (k := 0) rfl (by decide) (by decide) rfl (fun ls hl => ?_)
  refine lv_goto (tgt := 2) X.1 X.2.1 d_H_principal_23 (by decide) ?_
  refine lv_iload_n X.1 X.2.1 d_H_principal_2 rfl (lv_at hl 0 rfl) ?_
  refine lv_bipush (v := (nI 12)) X.1 X.2.1 d_H_principal_3 (by decide) ?_
  refine lv_icmp_ge (tgt := 26) X.1 X.2.1 d_H_principal_5 (by decide) (fun c3 => absurd c3 ?_) (fun c3 => ?_)
  · (rw [nI_leI (by omega) (by omega)] <;> omega)
  rw [nI_leI (by omega) (by omega)] at c3
  refine lv_aload_n X.1 X.2.1 d_H_principal_8 rfl (lv_at hl 1 rfl) ?_
  refine q_get X.1 X.2.1 X.2.2.1 i_H X.2.2.2.1 X.2.2.2.2 Y m_xo e_xo rfl 4 (by decide) (X.2.2.1 _ lk_H_42) (fun _ h9 => h9) rfl d_H_principal_9 ?_
  refine lv_iload_n X.1 X.2.1 d_H_principal_12 rfl (lv_at hl 0 rfl) ?_
  refine q_aald X.1 X.2.1 X.2.2.2.2 Y 2 m_pa e_pa rfl (vp_in_nI (by omega) (by omega)) d_H_principal_13 ?_
  obtain ⟨wa4, wv5, hg6, hm7, hn8, hf9, hv10⟩ := hw_wp (1) (by omega) (by omega)
  refine t_rf (show _ = some wa4 by rw [nI_clamp (by omega)]; exact hg6) ?_
  refine q_get X.1 X.2.1 X.2.2.1 i_Pr X.2.2.2.1 X.2.2.2.2 Y hm7 hf9 rfl 2 (by decide) (X.2.2.1 _ lk_H_116) (fun _ h9 => h9) hv10 d_H_principal_14 ?_
  refine lv_if_eq (tgt := 26) X.1 X.2.1 d_H_principal_17 (by decide) (fun c11 => ?_) (fun c11 => absurd ?_ c11)
  rotate_left
  · (rw [← nI_0, nI_eq (by omega) (by omega)] <;> omega)
  rw [← nI_0] at c11
  rw [nI_eq (by omega) (by omega)] at c11
  refine lv_aload_n X.1 X.2.1 d_H_principal_26 rfl (lv_at hl 1 rfl) ?_
  refine x_i (x_runV (As := []) (rest := []) (n := 0) X Y hml hl.1 (c_H_passwordPlace l D E T L f H.size xo tb tr v sb qb pa ga ce aa sa g_tr m_xo m_tb m_tr e_xo e_tb e_tr f_tr) (ok_k X Y hA KS KR) m_xo e_xo rfl kl_H_H_passwordPlace ks_H_passwordPlace kx_H_passwordPlace ki_H_passwordPlace ini_H ⟨rfl, rfl⟩ hd_H_passwordPlace ⟨by decide, by decide⟩ rfl (Nat.le_of_ble_eq_true rfl) d_H_principal_27 ⟨(show 0 + 0 ≤ 0 by omega), (show 0 + (0) ≤ (0) by omega)⟩) X Y hA (fun r12 u H locs hp Y => ?_)
  obtain ⟨L14, f13⟩ := u
  obtain ⟨eL16, hF15, pr17⟩ := hp
  dsimp only at eL16 hF15 pr17 Y
  rw [eL16] at Y
  rw [show f13 = f from funext hF15] at Y
  refine t_eq pr17 ?_
  refine lv_istore_n (lv' := [(3, .int (-1)), (2, .int (nI 1)), (0, .ref xo), (1, .int a1)]) X.1 X.2.1 d_H_principal_30 rfl hl (by decide) rfl (fun ls hl => ?_)
  refine lv_iload_n X.1 X.2.1 d_H_principal_31 rfl (lv_at hl 0 rfl) ?_
  refine lv_if_lt (tgt := 66) X.1 X.2.1 d_H_principal_32 (by decide) (fun c18 => ?_) (fun c18 => absurd ?_ c18)
  rotate_left
  · decide
  refine lv_iconst (v := (nI 0)) X.1 X.2.1 d_H_principal_66 (by decide) ?_
  refine lv_istore (lv' := [(4, .int (nI 0)), (3, .int (-1)), (2, .int (nI 1)), (0, .ref xo), (1, .int a1)]) X.1 X.2.1 d_H_principal_67 hl (by decide) rfl (fun ls hl => ?_)
  refine lv_iload X.1 X.2.1 d_H_principal_69 (lv_at hl 0 rfl) ?_
  refine lv_if_eq (tgt := 106) X.1 X.2.1 d_H_principal_71 (by decide) (fun c19 => ?_) (fun c19 => absurd ?_ c19)
  rotate_left
  · (rw [← nI_0, nI_eq (by omega) (by omega)] <;> omega)
  rw [← nI_0] at c19
  rw [nI_eq (by omega) (by omega)] at c19
  refine lv_aload_n X.1 X.2.1 d_H_principal_106 rfl (lv_at hl 3 rfl) ?_
  refine q_get X.1 X.2.1 X.2.2.1 i_H X.2.2.2.1 X.2.2.2.2 Y m_xo e_xo rfl 1 (by decide) (X.2.2.1 _ lk_H_21) (fun _ h9 => h9) rfl d_H_principal_107 ?_
  refine x_v (x_runV (As := []) (rest := []) (n := 0) X Y hml hl.1 (c_By_clear l D E L f H.size  tb tr (4000) (0) g_tr m_tb e_tb m_tr e_tr (by omega) (by omega) f_tr) (ok_c X Y) m_tb e_tb rfl kl_H_By_clear ks_By_clear kx_By_clear ki_By_clear ini_By ⟨rfl, rfl⟩ hd_By_clear ⟨by decide, by decide⟩ rfl (Nat.le_of_ble_eq_true rfl) d_H_principal_110 ⟨(show 0 + 0 ≤ 0 by omega), (show 0 + (0) ≤ (0) by omega)⟩) X Y hA (fun u H locs hp Y => ?_)
  obtain ⟨L21, f20⟩ := u
  obtain ⟨eL31, hF22, n23, g24, h26, h27, h28, e29, e30⟩ := hp
  dsimp only at eL31 hF22 e29 e30 Y
  rw [eL31] at Y
  have wh33 : wP 7 2 1 12 pr f20 (L) g_pa := wP_keep hw_wp (fun x9 h9 => h9) (fun x hx h0 ht => hF22 x (q_tn ht e_tb (show (3 : Nat) ≠ 7 by decide)) (q_tn ht e_tr (show (1000 : Nat) ≠ 7 by decide)))
  have e34 : f20 xo = .inr (0, [.ref v, .ref tb, .ref sb, .ref qb, .ref pa, .ref ga, .ref ce, .ref aa, .ref sa]) := (hF22 xo (q_tag e_xo e_tb (show (0 : Nat) ≠ 3 by decide)) (q_tag e_xo e_tr (show (0 : Nat) ≠ 1000 by decide))).trans e_xo
  have e35 : f20 pa = .inl (E.2.2.1, 12, .inr (.inr (.inr (.inr g_pa)))) := (hF22 pa (q_tag e_pa e_tb (show (1000 : Nat) ≠ 3 by decide)) ap_pa_tr).trans e_pa
  have e36 : f20 pr = .inr (7, [.ref nb, .ref sno, .int (nI 1), .int (nI 1), .int prd, .ref l18, .ref l17, .ref d18, .ref d17, .int lif, .int ren, .int flg, .int xpy]) := (hF22 pr (q_tag e_pr e_tb (show (7 : Nat) ≠ 3 by decide)) (q_tag e_pr e_tr (show (7 : Nat) ≠ 1000 by decide))).trans e_pr
  have hF37 : ∀ x, x ≠ tb → x ≠ tr → f20 x = f x := fun x h0 h1 => (hF22 x h0 h1).trans rfl
  refine lv_iload X.1 X.2.1 d_H_principal_113 (lv_at hl 0 rfl) ?_
  refine lv_if_eq (tgt := 122) X.1 X.2.1 d_H_principal_115 (by decide) (fun c38 => ?_) (fun c38 => absurd ?_ c38)
  rotate_left
  · (rw [← nI_0, nI_eq (by omega) (by omega)] <;> omega)
  rw [← nI_0] at c38
  rw [nI_eq (by omega) (by omega)] at c38
  refine lv_iconst (v := (-1)) X.1 X.2.1 d_H_principal_122 (by decide) ?_
  exact c_reti hQQ X Y hr hlk ⟨rfl, hF37, (n23), g24, h27, e29, e30, rfl⟩ d_H_principal_123
set_option maxHeartbeats 4000000 in
set_option maxRecDepth 100000 in
theorem c_H_agent (l : Launch) (D : va_G) (E : cE) (T : cT) (L : List Nat) (f : pF) (sz : Nat) (a1 : Int32) (a2 : Int32) (xo tb tr v sb qb pa ga ce aa sa : Nat) (g_tr : Nat → Int32) (m_xo : xo ∈ L) (m_tb : tb ∈ L) (m_tr : tr ∈ L) (e_xo : f xo = .inr (0, [.ref v, .ref tb, .ref sb, .ref qb, .ref pa, .ref ga, .ref ce, .ref aa, .ref sa])) (e_tb : f tb = .inr (3, [.ref tr, .int (nI 0)])) (e_tr : f tr = .inl (E.1, 4000, .inl g_tr)) (f_tr : fB g_tr) : Met l y_H_agent (k_H_agent :: lw_tg) (kRm 1 22 0 (0)) (va_Pc [.ref xo, .int a1, .int a2] (kPre D E T L f sz)) (va_Qi (fun (r0 : Int32) (u : cU) => u.1 = L ∧ (∀ x, x ≠ tb → x ≠ tr → u.2 x = f x) ∧ ∃ (tn2 : Nat) (k_tr : Nat → Int32), fB k_tr ∧ u.2 tb = .inr (3, [.ref tr, .int (nI tn2)]) ∧ u.2 tr = .inl (E.1, 4000, .inl k_tr) ∧ (r0 = nI 0)) (cPost D E (pA L sz)) (pA L sz)) 0 (0) (pA L sz) := by
  refine k_enter (own := R_H) (by decide) rfl (Nat.le_of_ble_eq_true rfl) (fun p e s m below meth c ls AV QQ H locs hQQ X Y hA hin hr hlk hml hl KS KR => ?_)
  have hl : lv_has ls 6 [(0, .ref xo), (1, .int a1), (2, .int a2)] := hl
  refine lv_aload_n X.1 X.2.1 d_H_agent_0 rfl (lv_at hl 0 rfl) ?_
  refine x_i (x_runV (As := []) (rest := []) (n := 0) X Y hml hl.1 (c_H_passwordPlace l D E T L f H.size xo tb tr v sb qb pa ga ce aa sa g_tr m_xo m_tb m_tr e_xo e_tb e_tr f_tr) (ok_k X Y hA KS KR) m_xo e_xo rfl kl_H_H_passwordPlace ks_H_passwordPlace kx_H_passwordPlace ki_H_passwordPlace ini_H ⟨rfl, rfl⟩ hd_H_passwordPlace ⟨by decide, by decide⟩ rfl (Nat.le_of_ble_eq_true rfl) d_H_agent_1 ⟨(show 0 + 0 ≤ 0 by omega), (show 0 + (0) ≤ (0) by omega)⟩) X Y hA (fun r1 u H locs hp Y => ?_)
  obtain ⟨L3, f2⟩ := u
  obtain ⟨eL5, hF4, pr6⟩ := hp
  dsimp only at eL5 hF4 pr6 Y
  rw [eL5] at Y
  rw [show f2 = f from funext hF4] at Y
  refine t_eq pr6 ?_
  refine lv_istore_n (lv' := [(3, .int (-1)), (0, .ref xo), (1, .int a1), (2, .int a2)]) X.1 X.2.1 d_H_agent_4 rfl hl (by decide) rfl (fun ls hl => ?_)
  refine lv_iload_n X.1 X.2.1 d_H_agent_5 rfl (lv_at hl 2 rfl) ?_
  refine lv_if_lt (tgt := 29) X.1 X.2.1 d_H_agent_6 (by decide) (fun c7 => ?_) (fun c7 => ?_)
  · skip
    refine lv_iconst (v := (nI 0)) X.1 X.2.1 d_H_agent_29 (by decide) ?_
    refine lv_istore (lv' := [(4, .int (nI 0)), (3, .int (-1)), (0, .ref xo), (1, .int a1), (2, .int a2)]) X.1 X.2.1 d_H_agent_30 hl (by decide) rfl (fun ls hl => ?_)
    refine lv_iload X.1 X.2.1 d_H_agent_32 (lv_at hl 0 rfl) ?_
    refine lv_if_eq (tgt := 83) X.1 X.2.1 d_H_agent_34 (by decide) (fun c8 => ?_) (fun c8 => absurd ?_ c8)
    rotate_left
    · (rw [← nI_0, nI_eq (by omega) (by omega)] <;> omega)
    rw [← nI_0] at c8
    rw [nI_eq (by omega) (by omega)] at c8
    refine lv_aload_n X.1 X.2.1 d_H_agent_83 rfl (lv_at hl 2 rfl) ?_
    refine q_get X.1 X.2.1 X.2.2.1 i_H X.2.2.2.1 X.2.2.2.2 Y m_xo e_xo rfl 1 (by decide) (X.2.2.1 _ lk_H_21) (fun _ h9 => h9) rfl d_H_agent_84 ?_
    refine x_v (x_runV (As := []) (rest := []) (n := 0) X Y hml hl.1 (c_By_clear l D E L f H.size  tb tr (4000) (0) g_tr m_tb e_tb m_tr e_tr (by omega) (by omega) f_tr) (ok_c X Y) m_tb e_tb rfl kl_H_By_clear ks_By_clear kx_By_clear ki_By_clear ini_By ⟨rfl, rfl⟩ hd_By_clear ⟨by decide, by decide⟩ rfl (Nat.le_of_ble_eq_true rfl) d_H_agent_87 ⟨(show 0 + 0 ≤ 0 by omega), (show 0 + (0) ≤ (0) by omega)⟩) X Y hA (fun u H locs hp Y => ?_)
    obtain ⟨L10, f9⟩ := u
    obtain ⟨eL20, hF11, n12, g13, h15, h16, h17, e18, e19⟩ := hp
    dsimp only at eL20 hF11 e18 e19 Y
    rw [eL20] at Y
    have e22 : f9 xo = .inr (0, [.ref v, .ref tb, .ref sb, .ref qb, .ref pa, .ref ga, .ref ce, .ref aa, .ref sa]) := (hF11 xo (q_tag e_xo e_tb (show (0 : Nat) ≠ 3 by decide)) (q_tag e_xo e_tr (show (0 : Nat) ≠ 1000 by decide))).trans e_xo
    have hF23 : ∀ x, x ≠ tb → x ≠ tr → f9 x = f x := fun x h0 h1 => (hF11 x h0 h1).trans rfl
    refine lv_iload X.1 X.2.1 d_H_agent_90 (lv_at hl 0 rfl) ?_
    exact c_retz hQQ X Y hr hlk rfl ⟨rfl, hF23, (n12), g13, h16, e18, e19, rfl⟩ d_H_agent_92
  · skip
    refine lv_iload_n X.1 X.2.1 d_H_agent_9 rfl (lv_at hl 2 rfl) ?_
    refine lv_iconst (v := (nI 4)) X.1 X.2.1 d_H_agent_10 (by decide) ?_
    refine lv_icmp_ge (tgt := 29) X.1 X.2.1 d_H_agent_11 (by decide) (fun c24 => ?_) (fun c24 => ?_)
    · skip
      refine lv_iconst (v := (nI 0)) X.1 X.2.1 d_H_agent_29 (by decide) ?_
      refine lv_istore (lv' := [(4, .int (nI 0)), (3, .int (-1)), (0, .ref xo), (1, .int a1), (2, .int a2)]) X.1 X.2.1 d_H_agent_30 hl (by decide) rfl (fun ls hl => ?_)
      refine lv_iload X.1 X.2.1 d_H_agent_32 (lv_at hl 0 rfl) ?_
      refine lv_if_eq (tgt := 83) X.1 X.2.1 d_H_agent_34 (by decide) (fun c25 => ?_) (fun c25 => absurd ?_ c25)
      rotate_left
      · (rw [← nI_0, nI_eq (by omega) (by omega)] <;> omega)
      rw [← nI_0] at c25
      rw [nI_eq (by omega) (by omega)] at c25
      refine lv_aload_n X.1 X.2.1 d_H_agent_83 rfl (lv_at hl 2 rfl) ?_
      refine q_get X.1 X.2.1 X.2.2.1 i_H X.2.2.2.1 X.2.2.2.2 Y m_xo e_xo rfl 1 (by decide) (X.2.2.1 _ lk_H_21) (fun _ h9 => h9) rfl d_H_agent_84 ?_
      refine x_v (x_runV (As := []) (rest := []) (n := 0) X Y hml hl.1 (c_By_clear l D E L f H.size  tb tr (4000) (0) g_tr m_tb e_tb m_tr e_tr (by omega) (by omega) f_tr) (ok_c X Y) m_tb e_tb rfl kl_H_By_clear ks_By_clear kx_By_clear ki_By_clear ini_By ⟨rfl, rfl⟩ hd_By_clear ⟨by decide, by decide⟩ rfl (Nat.le_of_ble_eq_true rfl) d_H_agent_87 ⟨(show 0 + 0 ≤ 0 by omega), (show 0 + (0) ≤ (0) by omega)⟩) X Y hA (fun u H locs hp Y => ?_)
      obtain ⟨L27, f26⟩ := u
      obtain ⟨eL37, hF28, n29, g30, h32, h33, h34, e35, e36⟩ := hp
      dsimp only at eL37 hF28 e35 e36 Y
      rw [eL37] at Y
      have e39 : f26 xo = .inr (0, [.ref v, .ref tb, .ref sb, .ref qb, .ref pa, .ref ga, .ref ce, .ref aa, .ref sa]) := (hF28 xo (q_tag e_xo e_tb (show (0 : Nat) ≠ 3 by decide)) (q_tag e_xo e_tr (show (0 : Nat) ≠ 1000 by decide))).trans e_xo
      have hF40 : ∀ x, x ≠ tb → x ≠ tr → f26 x = f x := fun x h0 h1 => (hF28 x h0 h1).trans rfl
      refine lv_iload X.1 X.2.1 d_H_agent_90 (lv_at hl 0 rfl) ?_
      exact c_retz hQQ X Y hr hlk rfl ⟨rfl, hF40, (n29), g30, h33, e35, e36, rfl⟩ d_H_agent_92
    · skip
      refine lv_iload_n X.1 X.2.1 d_H_agent_14 rfl (lv_at hl 3 rfl) ?_
      refine x_i (x_runS (As := [.int a2]) (rest := []) (n := 1) X hml hl.1 (c_H_isRounds l D E T L f H.size (a2)) (ok_k X Y hA KS KR) kl_H_H_isRounds ks_H_isRounds ki_H_isRounds ini_H ⟨rfl, rfl⟩ hd_H_isRounds.2 ⟨by decide, by decide⟩ rfl (Nat.le_of_ble_eq_true rfl) d_H_agent_15 ⟨(show 0 + 0 ≤ 0 by omega), (show 0 + (0) ≤ (0) by omega)⟩) X Y hA (fun r41 u H locs hp Y => ?_)
      obtain ⟨L43, f42⟩ := u
      obtain ⟨eL45, hF44, pr46⟩ := hp
      dsimp only at eL45 hF44 pr46 Y
      rw [eL45] at Y
      rw [show f42 = f from funext hF44] at Y
      rcases pr46 with ⟨hb1, hb2, hr2⟩ | ⟨hb1, hr2⟩
      · skip
        refine t_eq hr2 ?_
        refine lv_if_eq (tgt := 29) X.1 X.2.1 d_H_agent_18 (by decide) (fun c47 => absurd c47 ?_) (fun c47 => ?_)
        · (rw [← nI_0, nI_eq (by omega) (by omega)] <;> omega)
        rw [← nI_0] at c47
        rw [nI_eq (by omega) (by omega)] at c47
        refine lv_iload_n X.1 X.2.1 d_H_agent_21 rfl (lv_at hl 0 rfl) ?_
        refine lv_if_lt (tgt := 29) X.1 X.2.1 d_H_agent_22 (by decide) (fun c48 => ?_) (fun c48 => absurd ?_ c48)
        rotate_left
        · decide
        refine lv_iconst (v := (nI 0)) X.1 X.2.1 d_H_agent_29 (by decide) ?_
        refine lv_istore (lv' := [(4, .int (nI 0)), (3, .int (-1)), (0, .ref xo), (1, .int a1), (2, .int a2)]) X.1 X.2.1 d_H_agent_30 hl (by decide) rfl (fun ls hl => ?_)
        refine lv_iload X.1 X.2.1 d_H_agent_32 (lv_at hl 0 rfl) ?_
        refine lv_if_eq (tgt := 83) X.1 X.2.1 d_H_agent_34 (by decide) (fun c49 => ?_) (fun c49 => absurd ?_ c49)
        rotate_left
        · (rw [← nI_0, nI_eq (by omega) (by omega)] <;> omega)
        rw [← nI_0] at c49
        rw [nI_eq (by omega) (by omega)] at c49
        refine lv_aload_n X.1 X.2.1 d_H_agent_83 rfl (lv_at hl 2 rfl) ?_
        refine q_get X.1 X.2.1 X.2.2.1 i_H X.2.2.2.1 X.2.2.2.2 Y m_xo e_xo rfl 1 (by decide) (X.2.2.1 _ lk_H_21) (fun _ h9 => h9) rfl d_H_agent_84 ?_
        refine x_v (x_runV (As := []) (rest := []) (n := 0) X Y hml hl.1 (c_By_clear l D E L f H.size  tb tr (4000) (0) g_tr m_tb e_tb m_tr e_tr (by omega) (by omega) f_tr) (ok_c X Y) m_tb e_tb rfl kl_H_By_clear ks_By_clear kx_By_clear ki_By_clear ini_By ⟨rfl, rfl⟩ hd_By_clear ⟨by decide, by decide⟩ rfl (Nat.le_of_ble_eq_true rfl) d_H_agent_87 ⟨(show 0 + 0 ≤ 0 by omega), (show 0 + (0) ≤ (0) by omega)⟩) X Y hA (fun u H locs hp Y => ?_)
        obtain ⟨L51, f50⟩ := u
        obtain ⟨eL61, hF52, n53, g54, h56, h57, h58, e59, e60⟩ := hp
        dsimp only at eL61 hF52 e59 e60 Y
        rw [eL61] at Y
        have e63 : f50 xo = .inr (0, [.ref v, .ref tb, .ref sb, .ref qb, .ref pa, .ref ga, .ref ce, .ref aa, .ref sa]) := (hF52 xo (q_tag e_xo e_tb (show (0 : Nat) ≠ 3 by decide)) (q_tag e_xo e_tr (show (0 : Nat) ≠ 1000 by decide))).trans e_xo
        have hF64 : ∀ x, x ≠ tb → x ≠ tr → f50 x = f x := fun x h0 h1 => (hF52 x h0 h1).trans rfl
        refine lv_iload X.1 X.2.1 d_H_agent_90 (lv_at hl 0 rfl) ?_
        exact c_retz hQQ X Y hr hlk rfl ⟨rfl, hF64, (n53), g54, h57, e59, e60, rfl⟩ d_H_agent_92
      · skip
        refine t_eq hr2 ?_
        refine lv_if_eq (tgt := 29) X.1 X.2.1 d_H_agent_18 (by decide) (fun c65 => ?_) (fun c65 => absurd ?_ c65)
        rotate_left
        · (rw [← nI_0, nI_eq (by omega) (by omega)] <;> omega)
        rw [← nI_0] at c65
        rw [nI_eq (by omega) (by omega)] at c65
        refine lv_iconst (v := (nI 0)) X.1 X.2.1 d_H_agent_29 (by decide) ?_
        refine lv_istore (lv' := [(4, .int (nI 0)), (3, .int (-1)), (0, .ref xo), (1, .int a1), (2, .int a2)]) X.1 X.2.1 d_H_agent_30 hl (by decide) rfl (fun ls hl => ?_)
        refine lv_iload X.1 X.2.1 d_H_agent_32 (lv_at hl 0 rfl) ?_
        refine lv_if_eq (tgt := 83) X.1 X.2.1 d_H_agent_34 (by decide) (fun c66 => ?_) (fun c66 => absurd ?_ c66)
        rotate_left
        · (rw [← nI_0, nI_eq (by omega) (by omega)] <;> omega)
        rw [← nI_0] at c66
        rw [nI_eq (by omega) (by omega)] at c66
        refine lv_aload_n X.1 X.2.1 d_H_agent_83 rfl (lv_at hl 2 rfl) ?_
        refine q_get X.1 X.2.1 X.2.2.1 i_H X.2.2.2.1 X.2.2.2.2 Y m_xo e_xo rfl 1 (by decide) (X.2.2.1 _ lk_H_21) (fun _ h9 => h9) rfl d_H_agent_84 ?_
        refine x_v (x_runV (As := []) (rest := []) (n := 0) X Y hml hl.1 (c_By_clear l D E L f H.size  tb tr (4000) (0) g_tr m_tb e_tb m_tr e_tr (by omega) (by omega) f_tr) (ok_c X Y) m_tb e_tb rfl kl_H_By_clear ks_By_clear kx_By_clear ki_By_clear ini_By ⟨rfl, rfl⟩ hd_By_clear ⟨by decide, by decide⟩ rfl (Nat.le_of_ble_eq_true rfl) d_H_agent_87 ⟨(show 0 + 0 ≤ 0 by omega), (show 0 + (0) ≤ (0) by omega)⟩) X Y hA (fun u H locs hp Y => ?_)
        obtain ⟨L68, f67⟩ := u
        obtain ⟨eL78, hF69, n70, g71, h73, h74, h75, e76, e77⟩ := hp
        dsimp only at eL78 hF69 e76 e77 Y
        rw [eL78] at Y
        have e80 : f67 xo = .inr (0, [.ref v, .ref tb, .ref sb, .ref qb, .ref pa, .ref ga, .ref ce, .ref aa, .ref sa]) := (hF69 xo (q_tag e_xo e_tb (show (0 : Nat) ≠ 3 by decide)) (q_tag e_xo e_tr (show (0 : Nat) ≠ 1000 by decide))).trans e_xo
        have hF81 : ∀ x, x ≠ tb → x ≠ tr → f67 x = f x := fun x h0 h1 => (hF69 x h0 h1).trans rfl
        refine lv_iload X.1 X.2.1 d_H_agent_90 (lv_at hl 0 rfl) ?_
        exact c_retz hQQ X Y hr hlk rfl ⟨rfl, hF81, (n70), g71, h74, e76, e77, rfl⟩ d_H_agent_92
set_option maxHeartbeats 4000000 in
set_option maxRecDepth 100000 in
theorem c_H_policy (l : Launch) (D : va_G) (E : cE) (T : cT) (L : List Nat) (f : pF) (sz : Nat) (a1 : Int32) (a2 : Int32) (a3 : Int32) (xo pa pr v tb sb qb ga ce aa sa nb sno l18 l17 d18 d17 : Nat) (prd lif ren flg xpy : Int32) (g_pa : Nat → Option Nat) (m_xo : xo ∈ L) (m_pa : pa ∈ L) (m_pr : pr ∈ L) (e_xo : f xo = .inr (0, [.ref v, .ref tb, .ref sb, .ref qb, .ref pa, .ref ga, .ref ce, .ref aa, .ref sa])) (e_pa : f pa = .inl (E.2.2.1, 12, .inr (.inr (.inr (.inr g_pa))))) (e_pr : f pr = .inr (7, [.ref nb, .ref sno, .int (nI 1), .int (nI 1), .int prd, .ref l18, .ref l17, .ref d18, .ref d17, .int lif, .int ren, .int flg, .int xpy])) (hw_wp : wP 7 2 1 12 pr f L g_pa) (hh0 : g_pa 0 = some pr) : Met l y_H_policy (k_H_policy :: lw_tg) (kRm 1 22 0 (0)) (va_Pc [.ref xo, .int a1, .int a2, .int a3] (kPre D E T L f sz)) (va_Qi (fun (r0 : Int32) (u : cU) => u.1 = L ∧ (∀ x, x ≠ pr → u.2 x = f x) ∧ ∃ (pt2 pv2 p2rounds p2life p2renewal p2flags p2expiry : Int32), u.2 pr = .inr (7, [.ref nb, .ref sno, .int pt2, .int pv2, .int p2rounds, .ref l18, .ref l17, .ref d18, .ref d17, .int p2life, .int p2renewal, .int p2flags, .int p2expiry]) ∧ (r0 = polR a1 a2 a3)) (cPost D E (pA L sz)) (pA L sz)) 0 (0) (pA L sz) := by
  refine k_enter (own := R_H) (by decide) rfl (Nat.le_of_ble_eq_true rfl) (fun p e s m below meth c ls AV QQ H locs hQQ X Y hA hin hr hlk hml hl KS KR => ?_)
  have hl : lv_has ls 4 [(0, .ref xo), (1, .int a1), (2, .int a2), (3, .int a3)] := hl
  refine lv_aload_n X.1 X.2.1 d_H_policy_0 rfl (lv_at hl 0 rfl) ?_
  refine lv_iload_n X.1 X.2.1 d_H_policy_1 rfl (lv_at hl 1 rfl) ?_
  refine x_i (x_runV (As := [.int a1]) (rest := []) (n := 1) X Y hml hl.1 (c_H_isPrincipal l D E T L f H.size (a1) xo pa pr v tb sb qb ga ce aa sa nb sno l18 l17 d18 d17 (prd) (lif) (ren) (flg) (xpy) g_pa m_xo m_pa m_pr e_xo e_pa e_pr hw_wp hh0) (ok_k X Y hA KS KR) m_xo e_xo rfl kl_H_H_isPrincipal ks_H_isPrincipal kx_H_isPrincipal ki_H_isPrincipal ini_H ⟨rfl, rfl⟩ hd_H_isPrincipal ⟨by decide, by decide⟩ rfl (Nat.le_of_ble_eq_true rfl) d_H_policy_2 ⟨(show 0 + 0 ≤ 0 by omega), (show 0 + (0) ≤ (0) by omega)⟩) X Y hA (fun r1 u H locs hp Y => ?_)
  obtain ⟨L3, f2⟩ := u
  obtain ⟨eL5, hF4, pr6⟩ := hp
  dsimp only at eL5 hF4 pr6 Y
  rw [eL5] at Y
  rw [show f2 = f from funext hF4] at Y
  rcases pr6 with ⟨ha1, hr1⟩ | ⟨ha1, hr1⟩
  · skip
    refine t_eq hr1 ?_
    refine lv_if_eq (tgt := 26) X.1 X.2.1 d_H_policy_5 (by decide) (fun c7 => absurd c7 ?_) (fun c7 => ?_)
    · (rw [← nI_0, nI_eq (by omega) (by omega)] <;> omega)
    rw [← nI_0] at c7
    rw [nI_eq (by omega) (by omega)] at c7
    refine lv_aload_n X.1 X.2.1 d_H_policy_8 rfl (lv_at hl 0 rfl) ?_
    refine q_get X.1 X.2.1 X.2.2.1 i_H X.2.2.2.1 X.2.2.2.2 Y m_xo e_xo rfl 4 (by decide) (X.2.2.1 _ lk_H_42) (fun _ h9 => h9) rfl d_H_policy_9 ?_
    refine lv_iload_n X.1 X.2.1 d_H_policy_12 rfl (lv_at hl 1 rfl) ?_
    refine t_eq ha1 ?_
    refine q_aald X.1 X.2.1 X.2.2.2.2 Y 2 m_pa e_pa rfl (vp_in_nI (by omega) (by omega)) d_H_policy_13 ?_
    refine t_rf (show _ = some pr by rw [nI_clamp (by decide)]; exact hh0) ?_
    refine lv_iload_n X.1 X.2.1 d_H_policy_14 rfl (lv_at hl 2 rfl) ?_
    refine lv_iload_n X.1 X.2.1 d_H_policy_15 rfl (lv_at hl 3 rfl) ?_
    refine x_i (x_runV (As := [.int a2, .int a3]) (rest := []) (n := 2) X Y hml hl.1 (c_Pr_rule l D E T L f H.size (a2) (a3) pr nb sno l18 l17 d18 d17 (1) ((nI 1)) (prd) (lif) (ren) (flg) (xpy) m_pr e_pr) (ok_k X Y hA KS KR) m_pr e_pr rfl kl_H_Pr_rule ks_Pr_rule kx_Pr_rule ki_Pr_rule ini_Pr ⟨rfl, rfl⟩ hd_Pr_rule ⟨by decide, by decide⟩ rfl (Nat.le_of_ble_eq_true rfl) d_H_policy_16 ⟨(show 0 + 0 ≤ 0 by omega), (show 0 + (0) ≤ (0) by omega)⟩) X Y hA (fun r8 u H locs hp Y => ?_)
    obtain ⟨L10, f9⟩ := u
    obtain ⟨eL12, hF11, n14, v15, v16, v17, v18, v19, v20, e21, pr13⟩ := hp
    dsimp only at eL12 hF11 e21 pr13 Y
    rw [eL12] at Y
    have wh22 : wP 7 2 1 12 pr f9 (L) g_pa := wP_keep hw_wp (fun x9 h9 => h9) (fun x hx h0 ht => hF11 x h0)
    have e23 : f9 xo = .inr (0, [.ref v, .ref tb, .ref sb, .ref qb, .ref pa, .ref ga, .ref ce, .ref aa, .ref sa]) := (hF11 xo (q_tag e_xo e_pr (show (0 : Nat) ≠ 7 by decide))).trans e_xo
    have e24 : f9 pa = .inl (E.2.2.1, 12, .inr (.inr (.inr (.inr g_pa)))) := (hF11 pa (q_tag e_pa e_pr (show (1000 : Nat) ≠ 7 by decide))).trans e_pa
    have hF25 : ∀ x, x ≠ pr → f9 x = f x := fun x h0 => (hF11 x h0).trans rfl
    rcases rulR_01 a2 a3 with hr3 | hr3
    · skip
      refine t_eq (pr13.trans hr3) ?_
      refine lv_if_eq (tgt := 26) X.1 X.2.1 d_H_policy_19 (by decide) (fun c26 => ?_) (fun c26 => absurd ?_ c26)
      rotate_left
      · (rw [← nI_0, nI_eq (by omega) (by omega)] <;> omega)
      rw [← nI_0] at c26
      rw [nI_eq (by omega) (by omega)] at c26
      refine lv_iconst (v := (nI 0)) X.1 X.2.1 d_H_policy_26 (by decide) ?_
      exact c_retz hQQ X Y hr hlk rfl ⟨rfl, hF25, (v15), ((nI n14)), (v16), (v17), (v18), (v19), (v20), e21, (by first | exact (polR_n ha1).symm | exact ((polR_0 ha1).trans hr3).symm)⟩ d_H_policy_27
    · skip
      refine t_eq (pr13.trans hr3) ?_
      refine lv_if_eq (tgt := 26) X.1 X.2.1 d_H_policy_19 (by decide) (fun c27 => absurd c27 ?_) (fun c27 => ?_)
      · (rw [← nI_0, nI_eq (by omega) (by omega)] <;> omega)
      rw [← nI_0] at c27
      rw [nI_eq (by omega) (by omega)] at c27
      refine lv_iconst (v := (nI 1)) X.1 X.2.1 d_H_policy_22 (by decide) ?_
      refine lv_goto (tgt := 27) X.1 X.2.1 d_H_policy_23 (by decide) ?_
      exact c_retz hQQ X Y hr hlk rfl ⟨rfl, hF25, (v15), ((nI n14)), (v16), (v17), (v18), (v19), (v20), e21, (by first | exact (polR_n ha1).symm | exact ((polR_0 ha1).trans hr3).symm)⟩ d_H_policy_27
  · skip
    refine t_eq hr1 ?_
    refine lv_if_eq (tgt := 26) X.1 X.2.1 d_H_policy_5 (by decide) (fun c28 => ?_) (fun c28 => absurd ?_ c28)
    rotate_left
    · (rw [← nI_0, nI_eq (by omega) (by omega)] <;> omega)
    rw [← nI_0] at c28
    rw [nI_eq (by omega) (by omega)] at c28
    refine lv_iconst (v := (nI 0)) X.1 X.2.1 d_H_policy_26 (by decide) ?_
    exact c_retz hQQ X Y hr hlk rfl ⟨rfl, (fun _ _ => rfl), ((nI 1)), ((nI 1)), (prd), (lif), (ren), (flg), (xpy), e_pr, (by first | exact (polR_n ha1).symm | exact ((polR_0 ha1).trans hr3).symm)⟩ d_H_policy_27
set_option maxHeartbeats 4000000 in
set_option maxRecDepth 100000 in
theorem c_H_change (l : Launch) (D : va_G) (E : cE) (T : cT) (L : List Nat) (f : pF) (sz : Nat) (a1 : Int32) (a2 : Int32) (xo tb tr pa pr nb nr v ho wd bl hst inn out mac o tw ke sta mo tu b r sb qb ga ce aa sa sno l18 l17 d18 d17 txo dro se coo deo un kp nn fl rd bn : Nat) (prd lif ren flg xpy now ssz cat crw tot : Int32) (g_tr g_nr g_wd g_bl g_hst g_inn g_out g_mac g_tw g_ke g_sta g_mo g_tu g_r : Nat → Int32) (g_pa : Nat → Option Nat) (m_xo : xo ∈ L) (m_tb : tb ∈ L) (m_tr : tr ∈ L) (m_pa : pa ∈ L) (m_pr : pr ∈ L) (m_nb : nb ∈ L) (m_nr : nr ∈ L) (m_v : v ∈ L) (m_ho : ho ∈ L) (m_wd : wd ∈ L) (m_bl : bl ∈ L) (m_hst : hst ∈ L) (m_inn : inn ∈ L) (m_out : out ∈ L) (m_mac : mac ∈ L) (m_o : o ∈ L) (m_tw : tw ∈ L) (m_ke : ke ∈ L) (m_sta : sta ∈ L) (m_mo : mo ∈ L) (m_tu : tu ∈ L) (m_b : b ∈ L) (m_r : r ∈ L) (e_xo : f xo = .inr (0, [.ref v, .ref tb, .ref sb, .ref qb, .ref pa, .ref ga, .ref ce, .ref aa, .ref sa])) (e_tb : f tb = .inr (3, [.ref tr, .int (nI 0)])) (e_tr : f tr = .inl (E.1, 4000, .inl g_tr)) (e_pa : f pa = .inl (E.2.2.1, 12, .inr (.inr (.inr (.inr g_pa))))) (e_pr : f pr = .inr (7, [.ref nb, .ref sno, .int (nI 1), .int (nI 1), .int prd, .ref l18, .ref l17, .ref d18, .ref d17, .int lif, .int ren, .int flg, .int xpy])) (e_nb : f nb = .inr (3, [.ref nr, .int (nI nn)])) (e_nr : f nr = .inl (E.1, 40, .inl g_nr)) (e_v : f v = .inr (11, [.int now, .ref txo, .ref dro, .ref ho, .ref o, .ref se, .int ssz, .ref coo, .int cat, .int crw, .ref deo, .ref tu, .ref b])) (e_ho : f ho = .inr (6, [.ref wd, .ref bl, .ref hst, .ref inn, .ref out, .int (nI fl), .int tot, .ref mac])) (e_wd : f wd = .inl (E.2.1, 80, .inl g_wd)) (e_bl : f bl = .inl (E.1, 64, .inl g_bl)) (e_hst : f hst = .inl (E.2.1, 5, .inl g_hst)) (e_inn : f inn = .inl (E.2.1, 5, .inl g_inn)) (e_out : f out = .inl (E.2.1, 5, .inl g_out)) (e_mac : f mac = .inl (E.1, 20, .inl g_mac)) (e_o : f o = .inr (1, [.ref un, .ref tw, .ref ke, .int (nI rd), .ref sta, .ref mo, .ref kp])) (e_tw : f tw = .inl (E.2.1, 256, .inl g_tw)) (e_ke : f ke = .inl (E.2.1, 240, .inl g_ke)) (e_sta : f sta = .inl (E.2.1, 16, .inl g_sta)) (e_mo : f mo = .inl (E.2.1, 16, .inl g_mo)) (e_tu : f tu = .inl (E.1, 20, .inl g_tu)) (e_b : f b = .inr (3, [.ref r, .int (nI bn)])) (e_r : f r = .inl (E.1, 64, .inl g_r)) (f_tr : fB g_tr) (f_nr : fB g_nr) (f_bl : fB g_bl) (f_mac : fB g_mac) (f_tw : by8 g_tw) (f_ke : by8 g_ke) (f_sta : by8 g_sta) (f_mo : by8 g_mo) (f_tu : fB g_tu) (f_r : fB g_r) (ap_tb_nb : tb ≠ nb) (ap_tb_b : tb ≠ b) (ap_tr_pa : tr ≠ pa) (ap_tr_nr : tr ≠ nr) (ap_tr_wd : tr ≠ wd) (ap_tr_bl : tr ≠ bl) (ap_tr_hst : tr ≠ hst) (ap_tr_inn : tr ≠ inn) (ap_tr_out : tr ≠ out) (ap_tr_mac : tr ≠ mac) (ap_tr_tw : tr ≠ tw) (ap_tr_ke : tr ≠ ke) (ap_tr_sta : tr ≠ sta) (ap_tr_mo : tr ≠ mo) (ap_tr_tu : tr ≠ tu) (ap_tr_r : tr ≠ r) (ap_pa_nr : pa ≠ nr) (ap_pa_wd : pa ≠ wd) (ap_pa_bl : pa ≠ bl) (ap_pa_hst : pa ≠ hst) (ap_pa_inn : pa ≠ inn) (ap_pa_out : pa ≠ out) (ap_pa_mac : pa ≠ mac) (ap_pa_tw : pa ≠ tw) (ap_pa_ke : pa ≠ ke) (ap_pa_sta : pa ≠ sta) (ap_pa_mo : pa ≠ mo) (ap_pa_tu : pa ≠ tu) (ap_pa_r : pa ≠ r) (ap_nb_b : nb ≠ b) (ap_nr_wd : nr ≠ wd) (ap_nr_bl : nr ≠ bl) (ap_nr_hst : nr ≠ hst) (ap_nr_inn : nr ≠ inn) (ap_nr_out : nr ≠ out) (ap_nr_mac : nr ≠ mac) (ap_nr_tw : nr ≠ tw) (ap_nr_ke : nr ≠ ke) (ap_nr_sta : nr ≠ sta) (ap_nr_mo : nr ≠ mo) (ap_nr_tu : nr ≠ tu) (ap_nr_r : nr ≠ r) (ap_wd_bl : wd ≠ bl) (ap_wd_hst : wd ≠ hst) (ap_wd_inn : wd ≠ inn) (ap_wd_out : wd ≠ out) (ap_wd_mac : wd ≠ mac) (ap_wd_tw : wd ≠ tw) (ap_wd_ke : wd ≠ ke) (ap_wd_sta : wd ≠ sta) (ap_wd_mo : wd ≠ mo) (ap_wd_tu : wd ≠ tu) (ap_wd_r : wd ≠ r) (ap_bl_hst : bl ≠ hst) (ap_bl_inn : bl ≠ inn) (ap_bl_out : bl ≠ out) (ap_bl_mac : bl ≠ mac) (ap_bl_tw : bl ≠ tw) (ap_bl_ke : bl ≠ ke) (ap_bl_sta : bl ≠ sta) (ap_bl_mo : bl ≠ mo) (ap_bl_tu : bl ≠ tu) (ap_bl_r : bl ≠ r) (ap_hst_inn : hst ≠ inn) (ap_hst_out : hst ≠ out) (ap_hst_mac : hst ≠ mac) (ap_hst_tw : hst ≠ tw) (ap_hst_ke : hst ≠ ke) (ap_hst_sta : hst ≠ sta) (ap_hst_mo : hst ≠ mo) (ap_hst_tu : hst ≠ tu) (ap_hst_r : hst ≠ r) (ap_inn_out : inn ≠ out) (ap_inn_mac : inn ≠ mac) (ap_inn_tw : inn ≠ tw) (ap_inn_ke : inn ≠ ke) (ap_inn_sta : inn ≠ sta) (ap_inn_mo : inn ≠ mo) (ap_inn_tu : inn ≠ tu) (ap_inn_r : inn ≠ r) (ap_out_mac : out ≠ mac) (ap_out_tw : out ≠ tw) (ap_out_ke : out ≠ ke) (ap_out_sta : out ≠ sta) (ap_out_mo : out ≠ mo) (ap_out_tu : out ≠ tu) (ap_out_r : out ≠ r) (ap_mac_tw : mac ≠ tw) (ap_mac_ke : mac ≠ ke) (ap_mac_sta : mac ≠ sta) (ap_mac_mo : mac ≠ mo) (ap_mac_tu : mac ≠ tu) (ap_mac_r : mac ≠ r) (ap_tw_ke : tw ≠ ke) (ap_tw_sta : tw ≠ sta) (ap_tw_mo : tw ≠ mo) (ap_tw_tu : tw ≠ tu) (ap_tw_r : tw ≠ r) (ap_ke_sta : ke ≠ sta) (ap_ke_mo : ke ≠ mo) (ap_ke_tu : ke ≠ tu) (ap_ke_r : ke ≠ r) (ap_sta_mo : sta ≠ mo) (ap_sta_tu : sta ≠ tu) (ap_sta_r : sta ≠ r) (ap_mo_tu : mo ≠ tu) (ap_mo_r : mo ≠ r) (ap_tu_r : tu ≠ r) (hw_wp : wP 7 2 1 12 pr f L g_pa) (hh0 : g_pa 0 = some pr) (hh1 : nn ≤ 40) (hh2 : bn ≤ 64) (hh3 : fl < 64) (hh4 : rd ≤ 14) : Met l y_H_change (k_H_change :: lw_tg) (kRm 8 189 2 (48)) (va_Pc [.ref xo, .int a1, .int a2] (kPre D E T L f sz)) (va_Qi (fun (r0 : Int32) (u : cU) => (∀ x, x ∈ L → x ∈ u.1) ∧ (∀ x, x ∈ L → x ≠ pr → x ≠ ho → x ≠ wd → x ≠ bl → x ≠ hst → x ≠ mac → x ≠ inn → x ≠ out → x ≠ o → x ≠ ke → x ≠ sta → x ≠ mo → x ≠ tu → x ≠ b → x ≠ r → x ≠ tb → x ≠ tr → u.2 x = f x) ∧ ∃ (p2latest18 p2latest17 p2older18 p2older17 pv2 fl2 rd2 bn2 tn2 : Nat) (p2rounds p2life p2renewal p2flags p2expiry tot2 : Int32) (k_wd k_bl k_hst k_mac k_inn k_out k_ke k_sta k_mo k_tu k_r k_tr : Nat → Int32), fB k_bl ∧ fB k_mac ∧ by8 k_ke ∧ by8 k_sta ∧ by8 k_mo ∧ fB k_tu ∧ fB k_r ∧ fB k_tr ∧ u.2 pr = .inr (7, [.ref nb, .ref sno, .int (nI 1), .int (nI pv2), .int p2rounds, .ref p2latest18, .ref p2latest17, .ref p2older18, .ref p2older17, .int p2life, .int p2renewal, .int p2flags, .int p2expiry]) ∧ u.2 ho = .inr (6, [.ref wd, .ref bl, .ref hst, .ref inn, .ref out, .int (nI fl2), .int tot2, .ref mac]) ∧ u.2 wd = .inl (E.2.1, 80, .inl k_wd) ∧ u.2 bl = .inl (E.1, 64, .inl k_bl) ∧ u.2 hst = .inl (E.2.1, 5, .inl k_hst) ∧ u.2 mac = .inl (E.1, 20, .inl k_mac) ∧ u.2 inn = .inl (E.2.1, 5, .inl k_inn) ∧ u.2 out = .inl (E.2.1, 5, .inl k_out) ∧ u.2 o = .inr (1, [.ref un, .ref tw, .ref ke, .int (nI rd2), .ref sta, .ref mo, .ref kp]) ∧ u.2 ke = .inl (E.2.1, 240, .inl k_ke) ∧ u.2 sta = .inl (E.2.1, 16, .inl k_sta) ∧ u.2 mo = .inl (E.2.1, 16, .inl k_mo) ∧ u.2 tu = .inl (E.1, 20, .inl k_tu) ∧ u.2 b = .inr (3, [.ref r, .int (nI bn2)]) ∧ u.2 r = .inl (E.1, 64, .inl k_r) ∧ u.2 tb = .inr (3, [.ref tr, .int (nI tn2)]) ∧ u.2 tr = .inl (E.1, 4000, .inl k_tr) ∧ (r0 = (if a1 = nI 0 ∧ nI 1 ≤ a2 ∧ a2 ≤ nI 200 then nI 2 else (-1)))) (cPost D E (pA L sz)) (pA L sz)) 2 (48) (pA L sz) := by
  refine k_enter (own := R_H) (by decide) rfl (Nat.le_of_ble_eq_true rfl) (fun p e s m below meth c ls AV QQ H locs hQQ X Y hA hin hr hlk hml hl KS KR => ?_)
  have hl : lv_has ls 4 [(0, .ref xo), (1, .int a1), (2, .int a2)] := hl
  refine lv_aload_n X.1 X.2.1 d_H_change_0 rfl (lv_at hl 0 rfl) ?_
  refine lv_iload_n X.1 X.2.1 d_H_change_1 rfl (lv_at hl 1 rfl) ?_
  refine x_i (x_runV (As := [.int a1]) (rest := []) (n := 1) X Y hml hl.1 (c_H_isPrincipal l D E T L f H.size (a1) xo pa pr v tb sb qb ga ce aa sa nb sno l18 l17 d18 d17 (prd) (lif) (ren) (flg) (xpy) g_pa m_xo m_pa m_pr e_xo e_pa e_pr hw_wp hh0) (ok_k X Y hA KS KR) m_xo e_xo rfl kl_H_H_isPrincipal ks_H_isPrincipal kx_H_isPrincipal ki_H_isPrincipal ini_H ⟨rfl, rfl⟩ hd_H_isPrincipal ⟨by decide, by decide⟩ rfl (Nat.le_of_ble_eq_true rfl) d_H_change_2 ⟨(show 0 + 0 ≤ 2 by omega), (show 0 + (0) ≤ (48) by omega)⟩) X Y hA (fun r1 u H locs hp Y => ?_)
  obtain ⟨L3, f2⟩ := u
  obtain ⟨eL5, hF4, pr6⟩ := hp
  dsimp only at eL5 hF4 pr6 Y
  rw [eL5] at Y
  rw [show f2 = f from funext hF4] at Y
  rcases pr6 with ⟨ha1, hr1⟩ | ⟨ha1, hr1⟩
  · skip
    refine t_eq hr1 ?_
    refine lv_if_eq (tgt := 27) X.1 X.2.1 d_H_change_5 (by decide) (fun c7 => absurd c7 ?_) (fun c7 => ?_)
    · (rw [← nI_0, nI_eq (by omega) (by omega)] <;> omega)
    rw [← nI_0] at c7
    rw [nI_eq (by omega) (by omega)] at c7
    refine lv_iload_n X.1 X.2.1 d_H_change_8 rfl (lv_at hl 2 rfl) ?_
    refine x_i (x_runS (As := [.int a2]) (rest := []) (n := 1) X hml hl.1 (c_H_isRounds l D E T L f H.size (a2)) (ok_k X Y hA KS KR) kl_H_H_isRounds ks_H_isRounds ki_H_isRounds ini_H ⟨rfl, rfl⟩ hd_H_isRounds.2 ⟨by decide, by decide⟩ rfl (Nat.le_of_ble_eq_true rfl) d_H_change_9 ⟨(show 0 + 0 ≤ 2 by omega), (show 0 + (0) ≤ (48) by omega)⟩) X Y hA (fun r8 u H locs hp Y => ?_)
    obtain ⟨L10, f9⟩ := u
    obtain ⟨eL12, hF11, pr13⟩ := hp
    dsimp only at eL12 hF11 pr13 Y
    rw [eL12] at Y
    rw [show f9 = f from funext hF11] at Y
    rcases pr13 with ⟨hb1, hb2, hr2⟩ | ⟨hb1, hr2⟩
    · skip
      refine t_eq hr2 ?_
      refine lv_if_eq (tgt := 27) X.1 X.2.1 d_H_change_12 (by decide) (fun c14 => absurd c14 ?_) (fun c14 => ?_)
      · (rw [← nI_0, nI_eq (by omega) (by omega)] <;> omega)
      rw [← nI_0] at c14
      rw [nI_eq (by omega) (by omega)] at c14
      refine lv_aload_n X.1 X.2.1 d_H_change_15 rfl (lv_at hl 0 rfl) ?_
      refine lv_iconst (v := (nI 0)) X.1 X.2.1 d_H_change_16 (by decide) ?_
      refine x_i (x_runV (As := [.int (nI 0)]) (rest := []) (n := 1) X Y hml hl.1 (c_H_isPassword l D E T L f H.size xo tb tr v sb qb pa ga ce aa sa g_tr m_xo m_tb m_tr e_xo e_tb e_tr f_tr) (ok_k X Y hA KS KR) m_xo e_xo rfl kl_H_H_isPassword ks_H_isPassword kx_H_isPassword ki_H_isPassword ini_H ⟨rfl, rfl⟩ hd_H_isPassword ⟨by decide, by decide⟩ rfl (Nat.le_of_ble_eq_true rfl) d_H_change_17 ⟨(show 0 + 0 ≤ 2 by omega), (show 0 + (0) ≤ (48) by omega)⟩) X Y hA (fun r15 u H locs hp Y => ?_)
      obtain ⟨L17, f16⟩ := u
      obtain ⟨eL19, hF18, pr20⟩ := hp
      dsimp only at eL19 hF18 pr20 Y
      rw [eL19] at Y
      rw [show f16 = f from funext hF18] at Y
      refine t_eq pr20 ?_
      refine lv_if_eq (tgt := 27) X.1 X.2.1 d_H_change_20 (by decide) (fun c21 => absurd c21 ?_) (fun c21 => ?_)
      · (rw [← nI_0, nI_eq (by omega) (by omega)] <;> omega)
      rw [← nI_0] at c21
      rw [nI_eq (by omega) (by omega)] at c21
      refine lv_iconst (v := (nI 1)) X.1 X.2.1 d_H_change_23 (by decide) ?_
      refine lv_goto (tgt := 28) X.1 X.2.1 d_H_change_24 (by decide) ?_
      refine lv_istore_n (lv' := [(3, .int (nI 1)), (0, .ref xo), (1, .int a1), (2, .int a2)]) X.1 X.2.1 d_H_change_28 rfl hl (by decide) rfl (fun ls hl => ?_)
      refine lv_iload_n X.1 X.2.1 d_H_change_29 rfl (lv_at hl 0 rfl) ?_
      refine lv_if_eq (tgt := 52) X.1 X.2.1 d_H_change_30 (by decide) (fun c22 => absurd c22 ?_) (fun c22 => ?_)
      · (rw [← nI_0, nI_eq (by omega) (by omega)] <;> omega)
      rw [← nI_0] at c22
      rw [nI_eq (by omega) (by omega)] at c22
      refine lv_aload_n X.1 X.2.1 d_H_change_33 rfl (lv_at hl 1 rfl) ?_
      refine q_get X.1 X.2.1 X.2.2.1 i_H X.2.2.2.1 X.2.2.2.2 Y m_xo e_xo rfl 4 (by decide) (X.2.2.1 _ lk_H_42) (fun _ h9 => h9) rfl d_H_change_34 ?_
      refine lv_iload_n X.1 X.2.1 d_H_change_37 rfl (lv_at hl 2 rfl) ?_
      refine t_eq ha1 ?_
      refine q_aald X.1 X.2.1 X.2.2.2.2 Y 2 m_pa e_pa rfl (vp_in_nI (by omega) (by omega)) d_H_change_38 ?_
      refine t_rf (show _ = some pr by rw [nI_clamp (by decide)]; exact hh0) ?_
      refine lv_aload_n X.1 X.2.1 d_H_change_39 rfl (lv_at hl 1 rfl) ?_
      refine q_get X.1 X.2.1 X.2.2.1 i_H X.2.2.2.1 X.2.2.2.2 Y m_xo e_xo rfl 0 (by decide) (X.2.2.1 _ lk_H_12) (fun _ h9 => h9) rfl d_H_change_40 ?_
      refine lv_aload_n X.1 X.2.1 d_H_change_43 rfl (lv_at hl 1 rfl) ?_
      refine q_get X.1 X.2.1 X.2.2.1 i_H X.2.2.2.1 X.2.2.2.2 Y m_xo e_xo rfl 1 (by decide) (X.2.2.1 _ lk_H_21) (fun _ h9 => h9) rfl d_H_change_44 ?_
      refine lv_iconst (v := (nI 0)) X.1 X.2.1 d_H_change_47 (by decide) ?_
      refine lv_iload_n X.1 X.2.1 d_H_change_48 rfl (lv_at hl 3 rfl) ?_
      refine x_v (x_runV (As := [.ref v, .ref tb, .int (nI 0), .int a2]) (rest := []) (n := 4) X Y hml hl.1 (c_Pr_rekey l D E T L f H.size (0) (a2) (64) (40) (4000) pr v ho wd bl hst inn out mac o tw ke sta mo tu b r nb nr tb tr sno l18 l17 d18 d17 txo dro se coo deo un kp (1) (fl) (rd) (bn) (nn) (0) ((nI 1)) (prd) (lif) (ren) (flg) (xpy) (now) (ssz) (cat) (crw) (tot) g_wd g_bl g_hst g_inn g_out g_mac g_tw g_ke g_sta g_mo g_tu g_r g_nr g_tr m_pr m_v m_ho m_wd m_bl m_hst m_inn m_out m_mac m_o m_tw m_ke m_sta m_mo m_tu m_b m_r m_nb m_nr m_tb m_tr e_pr e_v e_ho e_wd e_bl e_hst e_inn e_out e_mac e_o e_tw e_ke e_sta e_mo e_tu e_b e_r e_nb e_nr e_tb e_tr f_bl f_mac f_tw f_ke f_sta f_mo f_tu f_r f_nr f_tr ap_wd_bl ap_wd_hst ap_wd_inn ap_wd_out ap_wd_mac ap_wd_tw ap_wd_ke ap_wd_sta ap_wd_mo ap_wd_tu ap_wd_r ap_nr_wd.symm ap_tr_wd.symm ap_bl_hst ap_bl_inn ap_bl_out ap_bl_mac ap_bl_tw ap_bl_ke ap_bl_sta ap_bl_mo ap_bl_tu ap_bl_r ap_nr_bl.symm ap_tr_bl.symm ap_hst_inn ap_hst_out ap_hst_mac ap_hst_tw ap_hst_ke ap_hst_sta ap_hst_mo ap_hst_tu ap_hst_r ap_nr_hst.symm ap_tr_hst.symm ap_inn_out ap_inn_mac ap_inn_tw ap_inn_ke ap_inn_sta ap_inn_mo ap_inn_tu ap_inn_r ap_nr_inn.symm ap_tr_inn.symm ap_out_mac ap_out_tw ap_out_ke ap_out_sta ap_out_mo ap_out_tu ap_out_r ap_nr_out.symm ap_tr_out.symm ap_mac_tw ap_mac_ke ap_mac_sta ap_mac_mo ap_mac_tu ap_mac_r ap_nr_mac.symm ap_tr_mac.symm ap_tw_ke ap_tw_sta ap_tw_mo ap_tw_tu ap_tw_r ap_nr_tw.symm ap_tr_tw.symm ap_ke_sta ap_ke_mo ap_ke_tu ap_ke_r ap_nr_ke.symm ap_tr_ke.symm ap_sta_mo ap_sta_tu ap_sta_r ap_nr_sta.symm ap_tr_sta.symm ap_mo_tu ap_mo_r ap_nr_mo.symm ap_tr_mo.symm ap_tu_r ap_nr_tu.symm ap_tr_tu.symm ap_nb_b.symm ap_tb_b.symm ap_nr_r.symm ap_tr_r.symm ap_tb_nb.symm ap_tr_nr.symm (by omega) (by omega) (by omega) (by omega) (by omega) (by omega) (by omega) (by omega) (by omega) (by omega)) (ok_k X Y hA KS KR) m_pr e_pr rfl kl_H_Pr_rekey ks_Pr_rekey kx_Pr_rekey ki_Pr_rekey ini_Pr ⟨rfl, rfl⟩ hd_Pr_rekey ⟨by decide, by decide⟩ rfl (Nat.le_of_ble_eq_true rfl) d_H_change_49 ⟨(show 0 + 2 ≤ 2 by omega), (show 0 + (48) ≤ (48) by omega)⟩) X Y hA (fun u H locs hp Y => ?_)
      obtain ⟨L25, f24⟩ := u
      obtain ⟨eL27, hF26, o72, o73, n29, n30, n31, n32, v33, v34, g35, g36, g37, g38, g39, g40, g41, g42, g43, g44, g45, hg46, hg47, hg48, hg49, hg50, hg51, hg52, h53, h54, h55, h56, e57, e58, e59, e60, e61, e62, e63, e64, e65, e66, e67, e68, e69, e70, e71⟩ := hp
      dsimp only at eL27 hF26 e57 e58 e59 e60 e61 e62 e63 e64 e65 e66 e67 e68 e69 e70 e71 Y
      have wh74 : wP 7 2 1 12 pr f24 (L25) g_pa := wP_keep hw_wp (fun x9 h9 => eL27 x9 h9) (fun x hx h0 ht => hF26 x hx h0 (q_tn ht e_ho (show (6 : Nat) ≠ 7 by decide)) (q_tn ht e_wd (show (1000 : Nat) ≠ 7 by decide)) (q_tn ht e_bl (show (1000 : Nat) ≠ 7 by decide)) (q_tn ht e_hst (show (1000 : Nat) ≠ 7 by decide)) (q_tn ht e_mac (show (1000 : Nat) ≠ 7 by decide)) (q_tn ht e_inn (show (1000 : Nat) ≠ 7 by decide)) (q_tn ht e_out (show (1000 : Nat) ≠ 7 by decide)) (q_tn ht e_o (show (1 : Nat) ≠ 7 by decide)) (q_tn ht e_ke (show (1000 : Nat) ≠ 7 by decide)) (q_tn ht e_sta (show (1000 : Nat) ≠ 7 by decide)) (q_tn ht e_mo (show (1000 : Nat) ≠ 7 by decide)) (q_tn ht e_tu (show (1000 : Nat) ≠ 7 by decide)) (q_tn ht e_b (show (3 : Nat) ≠ 7 by decide)) (q_tn ht e_r (show (1000 : Nat) ≠ 7 by decide)))
      have e75 : f24 xo = .inr (0, [.ref v, .ref tb, .ref sb, .ref qb, .ref pa, .ref ga, .ref ce, .ref aa, .ref sa]) := (hF26 xo m_xo (q_tag e_xo e_pr (show (0 : Nat) ≠ 7 by decide)) (q_tag e_xo e_ho (show (0 : Nat) ≠ 6 by decide)) (q_tag e_xo e_wd (show (0 : Nat) ≠ 1000 by decide)) (q_tag e_xo e_bl (show (0 : Nat) ≠ 1000 by decide)) (q_tag e_xo e_hst (show (0 : Nat) ≠ 1000 by decide)) (q_tag e_xo e_mac (show (0 : Nat) ≠ 1000 by decide)) (q_tag e_xo e_inn (show (0 : Nat) ≠ 1000 by decide)) (q_tag e_xo e_out (show (0 : Nat) ≠ 1000 by decide)) (q_tag e_xo e_o (show (0 : Nat) ≠ 1 by decide)) (q_tag e_xo e_ke (show (0 : Nat) ≠ 1000 by decide)) (q_tag e_xo e_sta (show (0 : Nat) ≠ 1000 by decide)) (q_tag e_xo e_mo (show (0 : Nat) ≠ 1000 by decide)) (q_tag e_xo e_tu (show (0 : Nat) ≠ 1000 by decide)) (q_tag e_xo e_b (show (0 : Nat) ≠ 3 by decide)) (q_tag e_xo e_r (show (0 : Nat) ≠ 1000 by decide))).trans e_xo
      have e76 : f24 tb = .inr (3, [.ref tr, .int (nI 0)]) := (hF26 tb m_tb (q_tag e_tb e_pr (show (3 : Nat) ≠ 7 by decide)) (q_tag e_tb e_ho (show (3 : Nat) ≠ 6 by decide)) (q_tag e_tb e_wd (show (3 : Nat) ≠ 1000 by decide)) (q_tag e_tb e_bl (show (3 : Nat) ≠ 1000 by decide)) (q_tag e_tb e_hst (show (3 : Nat) ≠ 1000 by decide)) (q_tag e_tb e_mac (show (3 : Nat) ≠ 1000 by decide)) (q_tag e_tb e_inn (show (3 : Nat) ≠ 1000 by decide)) (q_tag e_tb e_out (show (3 : Nat) ≠ 1000 by decide)) (q_tag e_tb e_o (show (3 : Nat) ≠ 1 by decide)) (q_tag e_tb e_ke (show (3 : Nat) ≠ 1000 by decide)) (q_tag e_tb e_sta (show (3 : Nat) ≠ 1000 by decide)) (q_tag e_tb e_mo (show (3 : Nat) ≠ 1000 by decide)) (q_tag e_tb e_tu (show (3 : Nat) ≠ 1000 by decide)) ap_tb_b (q_tag e_tb e_r (show (3 : Nat) ≠ 1000 by decide))).trans e_tb
      have e77 : f24 tr = .inl (E.1, 4000, .inl g_tr) := (hF26 tr m_tr (q_tag e_tr e_pr (show (1000 : Nat) ≠ 7 by decide)) (q_tag e_tr e_ho (show (1000 : Nat) ≠ 6 by decide)) ap_tr_wd ap_tr_bl ap_tr_hst ap_tr_mac ap_tr_inn ap_tr_out (q_tag e_tr e_o (show (1000 : Nat) ≠ 1 by decide)) ap_tr_ke ap_tr_sta ap_tr_mo ap_tr_tu (q_tag e_tr e_b (show (1000 : Nat) ≠ 3 by decide)) ap_tr_r).trans e_tr
      have e78 : f24 pa = .inl (E.2.2.1, 12, .inr (.inr (.inr (.inr g_pa)))) := (hF26 pa m_pa (q_tag e_pa e_pr (show (1000 : Nat) ≠ 7 by decide)) (q_tag e_pa e_ho (show (1000 : Nat) ≠ 6 by decide)) ap_pa_wd ap_pa_bl ap_pa_hst ap_pa_mac ap_pa_inn ap_pa_out (q_tag e_pa e_o (show (1000 : Nat) ≠ 1 by decide)) ap_pa_ke ap_pa_sta ap_pa_mo ap_pa_tu (q_tag e_pa e_b (show (1000 : Nat) ≠ 3 by decide)) ap_pa_r).trans e_pa
      have e79 : f24 nb = .inr (3, [.ref nr, .int (nI nn)]) := (hF26 nb m_nb (q_tag e_nb e_pr (show (3 : Nat) ≠ 7 by decide)) (q_tag e_nb e_ho (show (3 : Nat) ≠ 6 by decide)) (q_tag e_nb e_wd (show (3 : Nat) ≠ 1000 by decide)) (q_tag e_nb e_bl (show (3 : Nat) ≠ 1000 by decide)) (q_tag e_nb e_hst (show (3 : Nat) ≠ 1000 by decide)) (q_tag e_nb e_mac (show (3 : Nat) ≠ 1000 by decide)) (q_tag e_nb e_inn (show (3 : Nat) ≠ 1000 by decide)) (q_tag e_nb e_out (show (3 : Nat) ≠ 1000 by decide)) (q_tag e_nb e_o (show (3 : Nat) ≠ 1 by decide)) (q_tag e_nb e_ke (show (3 : Nat) ≠ 1000 by decide)) (q_tag e_nb e_sta (show (3 : Nat) ≠ 1000 by decide)) (q_tag e_nb e_mo (show (3 : Nat) ≠ 1000 by decide)) (q_tag e_nb e_tu (show (3 : Nat) ≠ 1000 by decide)) ap_nb_b (q_tag e_nb e_r (show (3 : Nat) ≠ 1000 by decide))).trans e_nb
      have e80 : f24 nr = .inl (E.1, 40, .inl g_nr) := (hF26 nr m_nr (q_tag e_nr e_pr (show (1000 : Nat) ≠ 7 by decide)) (q_tag e_nr e_ho (show (1000 : Nat) ≠ 6 by decide)) ap_nr_wd ap_nr_bl ap_nr_hst ap_nr_mac ap_nr_inn ap_nr_out (q_tag e_nr e_o (show (1000 : Nat) ≠ 1 by decide)) ap_nr_ke ap_nr_sta ap_nr_mo ap_nr_tu (q_tag e_nr e_b (show (1000 : Nat) ≠ 3 by decide)) ap_nr_r).trans e_nr
      have e81 : f24 v = .inr (11, [.int now, .ref txo, .ref dro, .ref ho, .ref o, .ref se, .int ssz, .ref coo, .int cat, .int crw, .ref deo, .ref tu, .ref b]) := (hF26 v m_v (q_tag e_v e_pr (show (11 : Nat) ≠ 7 by decide)) (q_tag e_v e_ho (show (11 : Nat) ≠ 6 by decide)) (q_tag e_v e_wd (show (11 : Nat) ≠ 1000 by decide)) (q_tag e_v e_bl (show (11 : Nat) ≠ 1000 by decide)) (q_tag e_v e_hst (show (11 : Nat) ≠ 1000 by decide)) (q_tag e_v e_mac (show (11 : Nat) ≠ 1000 by decide)) (q_tag e_v e_inn (show (11 : Nat) ≠ 1000 by decide)) (q_tag e_v e_out (show (11 : Nat) ≠ 1000 by decide)) (q_tag e_v e_o (show (11 : Nat) ≠ 1 by decide)) (q_tag e_v e_ke (show (11 : Nat) ≠ 1000 by decide)) (q_tag e_v e_sta (show (11 : Nat) ≠ 1000 by decide)) (q_tag e_v e_mo (show (11 : Nat) ≠ 1000 by decide)) (q_tag e_v e_tu (show (11 : Nat) ≠ 1000 by decide)) (q_tag e_v e_b (show (11 : Nat) ≠ 3 by decide)) (q_tag e_v e_r (show (11 : Nat) ≠ 1000 by decide))).trans e_v
      have e82 : f24 tw = .inl (E.2.1, 256, .inl g_tw) := (hF26 tw m_tw (q_tag e_tw e_pr (show (1000 : Nat) ≠ 7 by decide)) (q_tag e_tw e_ho (show (1000 : Nat) ≠ 6 by decide)) ap_wd_tw.symm ap_bl_tw.symm ap_hst_tw.symm ap_mac_tw.symm ap_inn_tw.symm ap_out_tw.symm (q_tag e_tw e_o (show (1000 : Nat) ≠ 1 by decide)) ap_tw_ke ap_tw_sta ap_tw_mo ap_tw_tu (q_tag e_tw e_b (show (1000 : Nat) ≠ 3 by decide)) ap_tw_r).trans e_tw
      have hF83 : ∀ x, x ∈ L → x ≠ pr → x ≠ ho → x ≠ wd → x ≠ bl → x ≠ hst → x ≠ mac → x ≠ inn → x ≠ out → x ≠ o → x ≠ ke → x ≠ sta → x ≠ mo → x ≠ tu → x ≠ b → x ≠ r → x ≠ tb → x ≠ tr → f24 x = f x := fun x hx h0 h1 h2 h3 h4 h5 h6 h7 h8 h9 h10 h11 h12 h13 h14 h15 h16 => (hF26 x hx h0 h1 h2 h3 h4 h5 h6 h7 h8 h9 h10 h11 h12 h13 h14).trans rfl
      have s84 : ∀ x, x ∈ L → x ∈ L25 := fun x hx => eL27 x hx
      have m85 : xo ∈ L25 := eL27 _ m_xo
      have m86 : tb ∈ L25 := eL27 _ m_tb
      have m87 : tr ∈ L25 := eL27 _ m_tr
      have m88 : pa ∈ L25 := eL27 _ m_pa
      have m89 : pr ∈ L25 := eL27 _ m_pr
      have m90 : nb ∈ L25 := eL27 _ m_nb
      have m91 : nr ∈ L25 := eL27 _ m_nr
      have m92 : v ∈ L25 := eL27 _ m_v
      have m93 : ho ∈ L25 := eL27 _ m_ho
      have m94 : wd ∈ L25 := eL27 _ m_wd
      have m95 : bl ∈ L25 := eL27 _ m_bl
      have m96 : hst ∈ L25 := eL27 _ m_hst
      have m97 : inn ∈ L25 := eL27 _ m_inn
      have m98 : out ∈ L25 := eL27 _ m_out
      have m99 : mac ∈ L25 := eL27 _ m_mac
      have m100 : o ∈ L25 := eL27 _ m_o
      have m101 : tw ∈ L25 := eL27 _ m_tw
      have m102 : ke ∈ L25 := eL27 _ m_ke
      have m103 : sta ∈ L25 := eL27 _ m_sta
      have m104 : mo ∈ L25 := eL27 _ m_mo
      have m105 : tu ∈ L25 := eL27 _ m_tu
      have m106 : b ∈ L25 := eL27 _ m_b
      have m107 : r ∈ L25 := eL27 _ m_r
      refine lv_aload_n X.1 X.2.1 d_H_change_52 rfl (lv_at hl 1 rfl) ?_
      refine q_get X.1 X.2.1 X.2.2.1 i_H X.2.2.2.1 X.2.2.2.2 Y m85 e75 rfl 1 (by decide) (X.2.2.1 _ lk_H_21) (fun _ h9 => h9) rfl d_H_change_53 ?_
      refine x_v (x_runV (As := []) (rest := []) (n := 0) X Y hml hl.1 (c_By_clear l D E L25 f24 H.size  tb tr (4000) (0) g_tr m86 e76 m87 e77 (by omega) (by omega) f_tr) (ok_c X Y) m86 e76 rfl kl_H_By_clear ks_By_clear kx_By_clear ki_By_clear ini_By ⟨rfl, rfl⟩ hd_By_clear ⟨by decide, by decide⟩ rfl (Nat.le_of_ble_eq_true rfl) d_H_change_56 ⟨(show 2 + 0 ≤ 2 by omega), (show 48 + (0) ≤ (48) by omega)⟩) X Y hA (fun u H locs hp Y => ?_)
      obtain ⟨L109, f108⟩ := u
      obtain ⟨eL119, hF110, n111, g112, h114, h115, h116, e117, e118⟩ := hp
      dsimp only at eL119 hF110 e117 e118 Y
      rw [eL119] at Y
      have wh121 : wP 7 2 1 12 pr f108 (L25) g_pa := wP_keep wh74 (fun x9 h9 => h9) (fun x hx h0 ht => hF110 x (q_tn ht e76 (show (3 : Nat) ≠ 7 by decide)) (q_tn ht e77 (show (1000 : Nat) ≠ 7 by decide)))
      have e122 : f108 xo = .inr (0, [.ref v, .ref tb, .ref sb, .ref qb, .ref pa, .ref ga, .ref ce, .ref aa, .ref sa]) := (hF110 xo (q_tag e75 e76 (show (0 : Nat) ≠ 3 by decide)) (q_tag e75 e77 (show (0 : Nat) ≠ 1000 by decide))).trans e75
      have e123 : f108 pa = .inl (E.2.2.1, 12, .inr (.inr (.inr (.inr g_pa)))) := (hF110 pa (q_tag e78 e76 (show (1000 : Nat) ≠ 3 by decide)) ap_tr_pa.symm).trans e78
      have e124 : f108 pr = .inr (7, [.ref nb, .ref sno, .int (nI 1), .int (nI n29), .int v33, .ref o72, .ref o73, .ref l18, .ref l17, .int lif, .int ren, .int flg, .int xpy]) := (hF110 pr (q_tag e57 e76 (show (7 : Nat) ≠ 3 by decide)) (q_tag e57 e77 (show (7 : Nat) ≠ 1000 by decide))).trans e57
      have e125 : f108 nb = .inr (3, [.ref nr, .int (nI nn)]) := (hF110 nb ap_tb_nb.symm (q_tag e79 e77 (show (3 : Nat) ≠ 1000 by decide))).trans e79
      have e126 : f108 nr = .inl (E.1, 40, .inl g_nr) := (hF110 nr (q_tag e80 e76 (show (1000 : Nat) ≠ 3 by decide)) ap_tr_nr.symm).trans e80
      have e127 : f108 v = .inr (11, [.int now, .ref txo, .ref dro, .ref ho, .ref o, .ref se, .int ssz, .ref coo, .int cat, .int crw, .ref deo, .ref tu, .ref b]) := (hF110 v (q_tag e81 e76 (show (11 : Nat) ≠ 3 by decide)) (q_tag e81 e77 (show (11 : Nat) ≠ 1000 by decide))).trans e81
      have e128 : f108 ho = .inr (6, [.ref wd, .ref bl, .ref hst, .ref inn, .ref out, .int (nI n30), .int v34, .ref mac]) := (hF110 ho (q_tag e58 e76 (show (6 : Nat) ≠ 3 by decide)) (q_tag e58 e77 (show (6 : Nat) ≠ 1000 by decide))).trans e58
      have e129 : f108 wd = .inl (E.2.1, 80, .inl g35) := (hF110 wd (q_tag e59 e76 (show (1000 : Nat) ≠ 3 by decide)) ap_tr_wd.symm).trans e59
      have e130 : f108 bl = .inl (E.1, 64, .inl g36) := (hF110 bl (q_tag e60 e76 (show (1000 : Nat) ≠ 3 by decide)) ap_tr_bl.symm).trans e60
      have e131 : f108 hst = .inl (E.2.1, 5, .inl g37) := (hF110 hst (q_tag e61 e76 (show (1000 : Nat) ≠ 3 by decide)) ap_tr_hst.symm).trans e61
      have e132 : f108 inn = .inl (E.2.1, 5, .inl g39) := (hF110 inn (q_tag e63 e76 (show (1000 : Nat) ≠ 3 by decide)) ap_tr_inn.symm).trans e63
      have e133 : f108 out = .inl (E.2.1, 5, .inl g40) := (hF110 out (q_tag e64 e76 (show (1000 : Nat) ≠ 3 by decide)) ap_tr_out.symm).trans e64
      have e134 : f108 mac = .inl (E.1, 20, .inl g38) := (hF110 mac (q_tag e62 e76 (show (1000 : Nat) ≠ 3 by decide)) ap_tr_mac.symm).trans e62
      have e135 : f108 o = .inr (1, [.ref un, .ref tw, .ref ke, .int (nI n31), .ref sta, .ref mo, .ref kp]) := (hF110 o (q_tag e65 e76 (show (1 : Nat) ≠ 3 by decide)) (q_tag e65 e77 (show (1 : Nat) ≠ 1000 by decide))).trans e65
      have e136 : f108 tw = .inl (E.2.1, 256, .inl g_tw) := (hF110 tw (q_tag e82 e76 (show (1000 : Nat) ≠ 3 by decide)) ap_tr_tw.symm).trans e82
      have e137 : f108 ke = .inl (E.2.1, 240, .inl g41) := (hF110 ke (q_tag e66 e76 (show (1000 : Nat) ≠ 3 by decide)) ap_tr_ke.symm).trans e66
      have e138 : f108 sta = .inl (E.2.1, 16, .inl g42) := (hF110 sta (q_tag e67 e76 (show (1000 : Nat) ≠ 3 by decide)) ap_tr_sta.symm).trans e67
      have e139 : f108 mo = .inl (E.2.1, 16, .inl g43) := (hF110 mo (q_tag e68 e76 (show (1000 : Nat) ≠ 3 by decide)) ap_tr_mo.symm).trans e68
      have e140 : f108 tu = .inl (E.1, 20, .inl g44) := (hF110 tu (q_tag e69 e76 (show (1000 : Nat) ≠ 3 by decide)) ap_tr_tu.symm).trans e69
      have e141 : f108 b = .inr (3, [.ref r, .int (nI n32)]) := (hF110 b ap_tb_b.symm (q_tag e70 e77 (show (3 : Nat) ≠ 1000 by decide))).trans e70
      have e142 : f108 r = .inl (E.1, 64, .inl g45) := (hF110 r (q_tag e71 e76 (show (1000 : Nat) ≠ 3 by decide)) ap_tr_r.symm).trans e71
      have hF143 : ∀ x, x ∈ L → x ≠ pr → x ≠ ho → x ≠ wd → x ≠ bl → x ≠ hst → x ≠ mac → x ≠ inn → x ≠ out → x ≠ o → x ≠ ke → x ≠ sta → x ≠ mo → x ≠ tu → x ≠ b → x ≠ r → x ≠ tb → x ≠ tr → f108 x = f x := fun x hx h0 h1 h2 h3 h4 h5 h6 h7 h8 h9 h10 h11 h12 h13 h14 h15 h16 => (hF110 x h15 h16).trans (hF83 x hx h0 h1 h2 h3 h4 h5 h6 h7 h8 h9 h10 h11 h12 h13 h14 h15 h16)
      refine lv_iload_n X.1 X.2.1 d_H_change_59 rfl (lv_at hl 0 rfl) ?_
      refine lv_if_eq (tgt := 75) X.1 X.2.1 d_H_change_60 (by decide) (fun c144 => absurd c144 ?_) (fun c144 => ?_)
      · (rw [← nI_0, nI_eq (by omega) (by omega)] <;> omega)
      rw [← nI_0] at c144
      rw [nI_eq (by omega) (by omega)] at c144
      refine lv_aload_n X.1 X.2.1 d_H_change_63 rfl (lv_at hl 1 rfl) ?_
      refine q_get X.1 X.2.1 X.2.2.1 i_H X.2.2.2.1 X.2.2.2.2 Y m85 e122 rfl 4 (by decide) (X.2.2.1 _ lk_H_42) (fun _ h9 => h9) rfl d_H_change_64 ?_
      refine lv_iload_n X.1 X.2.1 d_H_change_67 rfl (lv_at hl 2 rfl) ?_
      refine t_eq ha1 ?_
      refine q_aald X.1 X.2.1 X.2.2.2.2 Y 2 m88 e123 rfl (vp_in_nI (by omega) (by omega)) d_H_change_68 ?_
      refine t_rf (show _ = some pr by rw [nI_clamp (by decide)]; exact hh0) ?_
      refine q_get X.1 X.2.1 X.2.2.1 i_Pr X.2.2.2.1 X.2.2.2.2 Y m89 e124 rfl 3 (by decide) (X.2.2.1 _ lk_H_138) (fun _ h9 => h9) rfl d_H_change_69 ?_
      refine lv_goto (tgt := 76) X.1 X.2.1 d_H_change_72 (by decide) ?_
      refine W.cs (cells' := 2) (slots' := 48) (by omega) (by omega) ?_
      exact c_reti hQQ X Y hr hlk ⟨s84, hF143, o72, o73, l18, l17, (n29), (n30), (n31), (n32), (n111), (v33), (lif), (ren), (flg), (xpy), (v34), g35, g36, g37, g38, g39, g40, g41, g42, g43, g44, g45, g112, hg46, hg47, hg48, hg49, hg50, hg51, hg52, h115, e124, e128, e129, e130, e131, e134, e132, e133, e135, e137, e138, e139, e140, e141, e142, e117, e118, (by rw [if_pos ⟨ha1, hb1, hb2⟩]; exact congrArg nI (by omega))⟩ d_H_change_76
    · skip
      refine t_eq hr2 ?_
      refine lv_if_eq (tgt := 27) X.1 X.2.1 d_H_change_12 (by decide) (fun c145 => ?_) (fun c145 => absurd ?_ c145)
      rotate_left
      · (rw [← nI_0, nI_eq (by omega) (by omega)] <;> omega)
      rw [← nI_0] at c145
      rw [nI_eq (by omega) (by omega)] at c145
      refine lv_iconst (v := (nI 0)) X.1 X.2.1 d_H_change_27 (by decide) ?_
      refine lv_istore_n (lv' := [(3, .int (nI 0)), (0, .ref xo), (1, .int a1), (2, .int a2)]) X.1 X.2.1 d_H_change_28 rfl hl (by decide) rfl (fun ls hl => ?_)
      refine lv_iload_n X.1 X.2.1 d_H_change_29 rfl (lv_at hl 0 rfl) ?_
      refine lv_if_eq (tgt := 52) X.1 X.2.1 d_H_change_30 (by decide) (fun c146 => ?_) (fun c146 => absurd ?_ c146)
      rotate_left
      · (rw [← nI_0, nI_eq (by omega) (by omega)] <;> omega)
      rw [← nI_0] at c146
      rw [nI_eq (by omega) (by omega)] at c146
      refine lv_aload_n X.1 X.2.1 d_H_change_52 rfl (lv_at hl 1 rfl) ?_
      refine q_get X.1 X.2.1 X.2.2.1 i_H X.2.2.2.1 X.2.2.2.2 Y m_xo e_xo rfl 1 (by decide) (X.2.2.1 _ lk_H_21) (fun _ h9 => h9) rfl d_H_change_53 ?_
      refine x_v (x_runV (As := []) (rest := []) (n := 0) X Y hml hl.1 (c_By_clear l D E L f H.size  tb tr (4000) (0) g_tr m_tb e_tb m_tr e_tr (by omega) (by omega) f_tr) (ok_c X Y) m_tb e_tb rfl kl_H_By_clear ks_By_clear kx_By_clear ki_By_clear ini_By ⟨rfl, rfl⟩ hd_By_clear ⟨by decide, by decide⟩ rfl (Nat.le_of_ble_eq_true rfl) d_H_change_56 ⟨(show 0 + 0 ≤ 2 by omega), (show 0 + (0) ≤ (48) by omega)⟩) X Y hA (fun u H locs hp Y => ?_)
      obtain ⟨L148, f147⟩ := u
      obtain ⟨eL158, hF149, n150, g151, h153, h154, h155, e156, e157⟩ := hp
      dsimp only at eL158 hF149 e156 e157 Y
      rw [eL158] at Y
      have wh160 : wP 7 2 1 12 pr f147 (L) g_pa := wP_keep hw_wp (fun x9 h9 => h9) (fun x hx h0 ht => hF149 x (q_tn ht e_tb (show (3 : Nat) ≠ 7 by decide)) (q_tn ht e_tr (show (1000 : Nat) ≠ 7 by decide)))
      have e161 : f147 xo = .inr (0, [.ref v, .ref tb, .ref sb, .ref qb, .ref pa, .ref ga, .ref ce, .ref aa, .ref sa]) := (hF149 xo (q_tag e_xo e_tb (show (0 : Nat) ≠ 3 by decide)) (q_tag e_xo e_tr (show (0 : Nat) ≠ 1000 by decide))).trans e_xo
      have e162 : f147 pa = .inl (E.2.2.1, 12, .inr (.inr (.inr (.inr g_pa)))) := (hF149 pa (q_tag e_pa e_tb (show (1000 : Nat) ≠ 3 by decide)) ap_tr_pa.symm).trans e_pa
      have e163 : f147 pr = .inr (7, [.ref nb, .ref sno, .int (nI 1), .int (nI 1), .int prd, .ref l18, .ref l17, .ref d18, .ref d17, .int lif, .int ren, .int flg, .int xpy]) := (hF149 pr (q_tag e_pr e_tb (show (7 : Nat) ≠ 3 by decide)) (q_tag e_pr e_tr (show (7 : Nat) ≠ 1000 by decide))).trans e_pr
      have e164 : f147 nb = .inr (3, [.ref nr, .int (nI nn)]) := (hF149 nb ap_tb_nb.symm (q_tag e_nb e_tr (show (3 : Nat) ≠ 1000 by decide))).trans e_nb
      have e165 : f147 nr = .inl (E.1, 40, .inl g_nr) := (hF149 nr (q_tag e_nr e_tb (show (1000 : Nat) ≠ 3 by decide)) ap_tr_nr.symm).trans e_nr
      have e166 : f147 v = .inr (11, [.int now, .ref txo, .ref dro, .ref ho, .ref o, .ref se, .int ssz, .ref coo, .int cat, .int crw, .ref deo, .ref tu, .ref b]) := (hF149 v (q_tag e_v e_tb (show (11 : Nat) ≠ 3 by decide)) (q_tag e_v e_tr (show (11 : Nat) ≠ 1000 by decide))).trans e_v
      have e167 : f147 ho = .inr (6, [.ref wd, .ref bl, .ref hst, .ref inn, .ref out, .int (nI fl), .int tot, .ref mac]) := (hF149 ho (q_tag e_ho e_tb (show (6 : Nat) ≠ 3 by decide)) (q_tag e_ho e_tr (show (6 : Nat) ≠ 1000 by decide))).trans e_ho
      have e168 : f147 wd = .inl (E.2.1, 80, .inl g_wd) := (hF149 wd (q_tag e_wd e_tb (show (1000 : Nat) ≠ 3 by decide)) ap_tr_wd.symm).trans e_wd
      have e169 : f147 bl = .inl (E.1, 64, .inl g_bl) := (hF149 bl (q_tag e_bl e_tb (show (1000 : Nat) ≠ 3 by decide)) ap_tr_bl.symm).trans e_bl
      have e170 : f147 hst = .inl (E.2.1, 5, .inl g_hst) := (hF149 hst (q_tag e_hst e_tb (show (1000 : Nat) ≠ 3 by decide)) ap_tr_hst.symm).trans e_hst
      have e171 : f147 inn = .inl (E.2.1, 5, .inl g_inn) := (hF149 inn (q_tag e_inn e_tb (show (1000 : Nat) ≠ 3 by decide)) ap_tr_inn.symm).trans e_inn
      have e172 : f147 out = .inl (E.2.1, 5, .inl g_out) := (hF149 out (q_tag e_out e_tb (show (1000 : Nat) ≠ 3 by decide)) ap_tr_out.symm).trans e_out
      have e173 : f147 mac = .inl (E.1, 20, .inl g_mac) := (hF149 mac (q_tag e_mac e_tb (show (1000 : Nat) ≠ 3 by decide)) ap_tr_mac.symm).trans e_mac
      have e174 : f147 o = .inr (1, [.ref un, .ref tw, .ref ke, .int (nI rd), .ref sta, .ref mo, .ref kp]) := (hF149 o (q_tag e_o e_tb (show (1 : Nat) ≠ 3 by decide)) (q_tag e_o e_tr (show (1 : Nat) ≠ 1000 by decide))).trans e_o
      have e175 : f147 tw = .inl (E.2.1, 256, .inl g_tw) := (hF149 tw (q_tag e_tw e_tb (show (1000 : Nat) ≠ 3 by decide)) ap_tr_tw.symm).trans e_tw
      have e176 : f147 ke = .inl (E.2.1, 240, .inl g_ke) := (hF149 ke (q_tag e_ke e_tb (show (1000 : Nat) ≠ 3 by decide)) ap_tr_ke.symm).trans e_ke
      have e177 : f147 sta = .inl (E.2.1, 16, .inl g_sta) := (hF149 sta (q_tag e_sta e_tb (show (1000 : Nat) ≠ 3 by decide)) ap_tr_sta.symm).trans e_sta
      have e178 : f147 mo = .inl (E.2.1, 16, .inl g_mo) := (hF149 mo (q_tag e_mo e_tb (show (1000 : Nat) ≠ 3 by decide)) ap_tr_mo.symm).trans e_mo
      have e179 : f147 tu = .inl (E.1, 20, .inl g_tu) := (hF149 tu (q_tag e_tu e_tb (show (1000 : Nat) ≠ 3 by decide)) ap_tr_tu.symm).trans e_tu
      have e180 : f147 b = .inr (3, [.ref r, .int (nI bn)]) := (hF149 b ap_tb_b.symm (q_tag e_b e_tr (show (3 : Nat) ≠ 1000 by decide))).trans e_b
      have e181 : f147 r = .inl (E.1, 64, .inl g_r) := (hF149 r (q_tag e_r e_tb (show (1000 : Nat) ≠ 3 by decide)) ap_tr_r.symm).trans e_r
      have hF182 : ∀ x, x ∈ L → x ≠ pr → x ≠ ho → x ≠ wd → x ≠ bl → x ≠ hst → x ≠ mac → x ≠ inn → x ≠ out → x ≠ o → x ≠ ke → x ≠ sta → x ≠ mo → x ≠ tu → x ≠ b → x ≠ r → x ≠ tb → x ≠ tr → f147 x = f x := fun x hx h0 h1 h2 h3 h4 h5 h6 h7 h8 h9 h10 h11 h12 h13 h14 h15 h16 => (hF149 x h15 h16).trans rfl
      refine lv_iload_n X.1 X.2.1 d_H_change_59 rfl (lv_at hl 0 rfl) ?_
      refine lv_if_eq (tgt := 75) X.1 X.2.1 d_H_change_60 (by decide) (fun c183 => ?_) (fun c183 => absurd ?_ c183)
      rotate_left
      · (rw [← nI_0, nI_eq (by omega) (by omega)] <;> omega)
      rw [← nI_0] at c183
      rw [nI_eq (by omega) (by omega)] at c183
      refine lv_iconst (v := (-1)) X.1 X.2.1 d_H_change_75 (by decide) ?_
      refine W.widen (k := 2) (n := 48) (by omega) (by omega) ?_
      exact c_reti hQQ X Y hr hlk ⟨(fun _ h9 => h9), hF182, l18, l17, d18, d17, (1), (fl), (rd), (bn), (n150), (prd), (lif), (ren), (flg), (xpy), (tot), g_wd, g_bl, g_hst, g_mac, g_inn, g_out, g_ke, g_sta, g_mo, g_tu, g_r, g151, f_bl, f_mac, f_ke, f_sta, f_mo, f_tu, f_r, h154, e163, e167, e168, e169, e170, e173, e171, e172, e174, e176, e177, e178, e179, e180, e181, e156, e157, (by rw [if_neg (fun x => by first | exact ha1 x.1 | exact hb1 x.2)])⟩ d_H_change_76
  · skip
    refine t_eq hr1 ?_
    refine lv_if_eq (tgt := 27) X.1 X.2.1 d_H_change_5 (by decide) (fun c184 => ?_) (fun c184 => absurd ?_ c184)
    rotate_left
    · (rw [← nI_0, nI_eq (by omega) (by omega)] <;> omega)
    rw [← nI_0] at c184
    rw [nI_eq (by omega) (by omega)] at c184
    refine lv_iconst (v := (nI 0)) X.1 X.2.1 d_H_change_27 (by decide) ?_
    refine lv_istore_n (lv' := [(3, .int (nI 0)), (0, .ref xo), (1, .int a1), (2, .int a2)]) X.1 X.2.1 d_H_change_28 rfl hl (by decide) rfl (fun ls hl => ?_)
    refine lv_iload_n X.1 X.2.1 d_H_change_29 rfl (lv_at hl 0 rfl) ?_
    refine lv_if_eq (tgt := 52) X.1 X.2.1 d_H_change_30 (by decide) (fun c185 => ?_) (fun c185 => absurd ?_ c185)
    rotate_left
    · (rw [← nI_0, nI_eq (by omega) (by omega)] <;> omega)
    rw [← nI_0] at c185
    rw [nI_eq (by omega) (by omega)] at c185
    refine lv_aload_n X.1 X.2.1 d_H_change_52 rfl (lv_at hl 1 rfl) ?_
    refine q_get X.1 X.2.1 X.2.2.1 i_H X.2.2.2.1 X.2.2.2.2 Y m_xo e_xo rfl 1 (by decide) (X.2.2.1 _ lk_H_21) (fun _ h9 => h9) rfl d_H_change_53 ?_
    refine x_v (x_runV (As := []) (rest := []) (n := 0) X Y hml hl.1 (c_By_clear l D E L f H.size  tb tr (4000) (0) g_tr m_tb e_tb m_tr e_tr (by omega) (by omega) f_tr) (ok_c X Y) m_tb e_tb rfl kl_H_By_clear ks_By_clear kx_By_clear ki_By_clear ini_By ⟨rfl, rfl⟩ hd_By_clear ⟨by decide, by decide⟩ rfl (Nat.le_of_ble_eq_true rfl) d_H_change_56 ⟨(show 0 + 0 ≤ 2 by omega), (show 0 + (0) ≤ (48) by omega)⟩) X Y hA (fun u H locs hp Y => ?_)
    obtain ⟨L187, f186⟩ := u
    obtain ⟨eL197, hF188, n189, g190, h192, h193, h194, e195, e196⟩ := hp
    dsimp only at eL197 hF188 e195 e196 Y
    rw [eL197] at Y
    have wh199 : wP 7 2 1 12 pr f186 (L) g_pa := wP_keep hw_wp (fun x9 h9 => h9) (fun x hx h0 ht => hF188 x (q_tn ht e_tb (show (3 : Nat) ≠ 7 by decide)) (q_tn ht e_tr (show (1000 : Nat) ≠ 7 by decide)))
    have e200 : f186 xo = .inr (0, [.ref v, .ref tb, .ref sb, .ref qb, .ref pa, .ref ga, .ref ce, .ref aa, .ref sa]) := (hF188 xo (q_tag e_xo e_tb (show (0 : Nat) ≠ 3 by decide)) (q_tag e_xo e_tr (show (0 : Nat) ≠ 1000 by decide))).trans e_xo
    have e201 : f186 pa = .inl (E.2.2.1, 12, .inr (.inr (.inr (.inr g_pa)))) := (hF188 pa (q_tag e_pa e_tb (show (1000 : Nat) ≠ 3 by decide)) ap_tr_pa.symm).trans e_pa
    have e202 : f186 pr = .inr (7, [.ref nb, .ref sno, .int (nI 1), .int (nI 1), .int prd, .ref l18, .ref l17, .ref d18, .ref d17, .int lif, .int ren, .int flg, .int xpy]) := (hF188 pr (q_tag e_pr e_tb (show (7 : Nat) ≠ 3 by decide)) (q_tag e_pr e_tr (show (7 : Nat) ≠ 1000 by decide))).trans e_pr
    have e203 : f186 nb = .inr (3, [.ref nr, .int (nI nn)]) := (hF188 nb ap_tb_nb.symm (q_tag e_nb e_tr (show (3 : Nat) ≠ 1000 by decide))).trans e_nb
    have e204 : f186 nr = .inl (E.1, 40, .inl g_nr) := (hF188 nr (q_tag e_nr e_tb (show (1000 : Nat) ≠ 3 by decide)) ap_tr_nr.symm).trans e_nr
    have e205 : f186 v = .inr (11, [.int now, .ref txo, .ref dro, .ref ho, .ref o, .ref se, .int ssz, .ref coo, .int cat, .int crw, .ref deo, .ref tu, .ref b]) := (hF188 v (q_tag e_v e_tb (show (11 : Nat) ≠ 3 by decide)) (q_tag e_v e_tr (show (11 : Nat) ≠ 1000 by decide))).trans e_v
    have e206 : f186 ho = .inr (6, [.ref wd, .ref bl, .ref hst, .ref inn, .ref out, .int (nI fl), .int tot, .ref mac]) := (hF188 ho (q_tag e_ho e_tb (show (6 : Nat) ≠ 3 by decide)) (q_tag e_ho e_tr (show (6 : Nat) ≠ 1000 by decide))).trans e_ho
    have e207 : f186 wd = .inl (E.2.1, 80, .inl g_wd) := (hF188 wd (q_tag e_wd e_tb (show (1000 : Nat) ≠ 3 by decide)) ap_tr_wd.symm).trans e_wd
    have e208 : f186 bl = .inl (E.1, 64, .inl g_bl) := (hF188 bl (q_tag e_bl e_tb (show (1000 : Nat) ≠ 3 by decide)) ap_tr_bl.symm).trans e_bl
    have e209 : f186 hst = .inl (E.2.1, 5, .inl g_hst) := (hF188 hst (q_tag e_hst e_tb (show (1000 : Nat) ≠ 3 by decide)) ap_tr_hst.symm).trans e_hst
    have e210 : f186 inn = .inl (E.2.1, 5, .inl g_inn) := (hF188 inn (q_tag e_inn e_tb (show (1000 : Nat) ≠ 3 by decide)) ap_tr_inn.symm).trans e_inn
    have e211 : f186 out = .inl (E.2.1, 5, .inl g_out) := (hF188 out (q_tag e_out e_tb (show (1000 : Nat) ≠ 3 by decide)) ap_tr_out.symm).trans e_out
    have e212 : f186 mac = .inl (E.1, 20, .inl g_mac) := (hF188 mac (q_tag e_mac e_tb (show (1000 : Nat) ≠ 3 by decide)) ap_tr_mac.symm).trans e_mac
    have e213 : f186 o = .inr (1, [.ref un, .ref tw, .ref ke, .int (nI rd), .ref sta, .ref mo, .ref kp]) := (hF188 o (q_tag e_o e_tb (show (1 : Nat) ≠ 3 by decide)) (q_tag e_o e_tr (show (1 : Nat) ≠ 1000 by decide))).trans e_o
    have e214 : f186 tw = .inl (E.2.1, 256, .inl g_tw) := (hF188 tw (q_tag e_tw e_tb (show (1000 : Nat) ≠ 3 by decide)) ap_tr_tw.symm).trans e_tw
    have e215 : f186 ke = .inl (E.2.1, 240, .inl g_ke) := (hF188 ke (q_tag e_ke e_tb (show (1000 : Nat) ≠ 3 by decide)) ap_tr_ke.symm).trans e_ke
    have e216 : f186 sta = .inl (E.2.1, 16, .inl g_sta) := (hF188 sta (q_tag e_sta e_tb (show (1000 : Nat) ≠ 3 by decide)) ap_tr_sta.symm).trans e_sta
    have e217 : f186 mo = .inl (E.2.1, 16, .inl g_mo) := (hF188 mo (q_tag e_mo e_tb (show (1000 : Nat) ≠ 3 by decide)) ap_tr_mo.symm).trans e_mo
    have e218 : f186 tu = .inl (E.1, 20, .inl g_tu) := (hF188 tu (q_tag e_tu e_tb (show (1000 : Nat) ≠ 3 by decide)) ap_tr_tu.symm).trans e_tu
    have e219 : f186 b = .inr (3, [.ref r, .int (nI bn)]) := (hF188 b ap_tb_b.symm (q_tag e_b e_tr (show (3 : Nat) ≠ 1000 by decide))).trans e_b
    have e220 : f186 r = .inl (E.1, 64, .inl g_r) := (hF188 r (q_tag e_r e_tb (show (1000 : Nat) ≠ 3 by decide)) ap_tr_r.symm).trans e_r
    have hF221 : ∀ x, x ∈ L → x ≠ pr → x ≠ ho → x ≠ wd → x ≠ bl → x ≠ hst → x ≠ mac → x ≠ inn → x ≠ out → x ≠ o → x ≠ ke → x ≠ sta → x ≠ mo → x ≠ tu → x ≠ b → x ≠ r → x ≠ tb → x ≠ tr → f186 x = f x := fun x hx h0 h1 h2 h3 h4 h5 h6 h7 h8 h9 h10 h11 h12 h13 h14 h15 h16 => (hF188 x h15 h16).trans rfl
    refine lv_iload_n X.1 X.2.1 d_H_change_59 rfl (lv_at hl 0 rfl) ?_
    refine lv_if_eq (tgt := 75) X.1 X.2.1 d_H_change_60 (by decide) (fun c222 => ?_) (fun c222 => absurd ?_ c222)
    rotate_left
    · (rw [← nI_0, nI_eq (by omega) (by omega)] <;> omega)
    rw [← nI_0] at c222
    rw [nI_eq (by omega) (by omega)] at c222
    refine lv_iconst (v := (-1)) X.1 X.2.1 d_H_change_75 (by decide) ?_
    refine W.widen (k := 2) (n := 48) (by omega) (by omega) ?_
    exact c_reti hQQ X Y hr hlk ⟨(fun _ h9 => h9), hF221, l18, l17, d18, d17, (1), (fl), (rd), (bn), (n189), (prd), (lif), (ren), (flg), (xpy), (tot), g_wd, g_bl, g_hst, g_mac, g_inn, g_out, g_ke, g_sta, g_mo, g_tu, g_r, g190, f_bl, f_mac, f_ke, f_sta, f_mo, f_tu, f_r, h193, e202, e206, e207, e208, e209, e212, e210, e211, e213, e215, e216, e217, e218, e219, e220, e195, e196, (by rw [if_neg (fun x => by first | exact ha1 x.1 | exact hb1 x.2)])⟩ d_H_change_76
set_option maxHeartbeats 4000000 in
set_option maxRecDepth 100000 in
theorem c_H_kdc (l : Launch) (D : va_G) (E : cE) (T : cT) (L : List Nat) (f : pF) (sz : Nat) (xo ce tb tr sb sr v pa pr nb nr qb ga aa sa cso cl1 cl2 txo dro v_hash v_aes v_seed coo deo v_turned v_brief sno l18 l17 d18 d17 nn : Nat) (ce_initial ce_read ce_body ce_options ce_etype ce_flags ce_endTime ce_renewTill now ssz cat crw prd lif ren flg xpy : Int32) (g_tr g_sr g_nr : Nat → Int32) (g_pa : Nat → Option Nat) (m_xo : xo ∈ L) (m_ce : ce ∈ L) (m_tb : tb ∈ L) (m_tr : tr ∈ L) (m_sb : sb ∈ L) (m_sr : sr ∈ L) (m_v : v ∈ L) (m_pa : pa ∈ L) (m_pr : pr ∈ L) (m_nb : nb ∈ L) (m_nr : nr ∈ L) (e_xo : f xo = .inr (0, [.ref v, .ref tb, .ref sb, .ref qb, .ref pa, .ref ga, .ref ce, .ref aa, .ref sa])) (e_ce : f ce = .inr (4, [.ref v, .ref ga, .ref pa, .ref tb, .ref sb, .ref cso, .int ce_initial, .int ce_read, .int ce_body, .int ce_options, .ref cl1, .ref cl2, .int ce_etype, .int ce_flags, .int ce_endTime, .int ce_renewTill])) (e_tb : f tb = .inr (3, [.ref tr, .int (nI 0)])) (e_tr : f tr = .inl (E.1, 4000, .inl g_tr)) (e_sb : f sb = .inr (3, [.ref sr, .int (nI 0)])) (e_sr : f sr = .inl (E.1, 12288, .inl g_sr)) (e_v : f v = .inr (11, [.int now, .ref txo, .ref dro, .ref v_hash, .ref v_aes, .ref v_seed, .int ssz, .ref coo, .int cat, .int crw, .ref deo, .ref v_turned, .ref v_brief])) (e_pa : f pa = .inl (E.2.2.1, 12, .inr (.inr (.inr (.inr g_pa))))) (e_pr : f pr = .inr (7, [.ref nb, .ref sno, .int (nI 1), .int (nI 1), .int prd, .ref l18, .ref l17, .ref d18, .ref d17, .int lif, .int ren, .int flg, .int xpy])) (e_nb : f nb = .inr (3, [.ref nr, .int (nI nn)])) (e_nr : f nr = .inl (E.1, 40, .inl g_nr)) (f_tr : fB g_tr) (f_sr : fB g_sr) (f_nr : fB g_nr) (ap_tb_sb : tb ≠ sb) (ap_tb_nb : tb ≠ nb) (ap_tr_sr : tr ≠ sr) (ap_tr_pa : tr ≠ pa) (ap_tr_nr : tr ≠ nr) (ap_sb_nb : sb ≠ nb) (ap_sr_pa : sr ≠ pa) (ap_sr_nr : sr ≠ nr) (ap_pa_nr : pa ≠ nr) (hh0 : g_pa 0 = some pr) (hh1 : nn ≤ 40) : Met l y_H_kdc (k_H_kdc :: lw_tg) (kRm 8 182 0 (0)) (va_Pc [.ref xo] (kPre D E T L f sz)) (va_Qi (fun (r0 : Int32) (u : cU) => u.1 = L ∧ (∀ x, x ≠ ce → x ≠ sb → x ≠ sr → x ≠ tb → x ≠ tr → u.2 x = f x) ∧ ∃ (sn2 tn2 : Nat) (k_sr k_tr : Nat → Int32), fB k_sr ∧ fB k_tr ∧ u.2 ce = .inr (4, [.ref v, .ref ga, .ref pa, .ref tb, .ref sb, .ref cso, .int (nI 0), .int (nI 0), .int ce_body, .int ce_options, .ref cl1, .ref cl2, .int ce_etype, .int ce_flags, .int ce_endTime, .int ce_renewTill]) ∧ u.2 sb = .inr (3, [.ref sr, .int (nI sn2)]) ∧ u.2 sr = .inl (E.1, 12288, .inl k_sr) ∧ u.2 tb = .inr (3, [.ref tr, .int (nI tn2)]) ∧ u.2 tr = .inl (E.1, 4000, .inl k_tr) ∧ (r0 = nI 60)) (cPost D E (pA L sz)) (pA L sz)) 0 (0) (pA L sz) := by
  refine k_enter (own := R_H) (by decide) rfl (Nat.le_of_ble_eq_true rfl) (fun p e s m below meth c ls AV QQ H locs hQQ X Y hA hin hr hlk hml hl KS KR => ?_)
  have hl : lv_has ls 4 [(0, .ref xo)] := hl
  refine lv_aload_n X.1 X.2.1 d_H_kdc_0 rfl (lv_at hl 0 rfl) ?_
  refine q_get X.1 X.2.1 X.2.2.1 i_H X.2.2.2.1 X.2.2.2.2 Y m_xo e_xo rfl 6 (by decide) (X.2.2.1 _ lk_H_77) (fun _ h9 => h9) rfl d_H_kdc_1 ?_
  refine x_i (x_runV (As := []) (rest := []) (n := 0) X Y hml hl.1 (c_Ce_judge_empty l D E T L f H.size (4000) ce tb tr v ga pa sb cso cl1 cl2 (ce_initial) (ce_read) (ce_body) (ce_options) (ce_etype) (ce_flags) (ce_endTime) (ce_renewTill) g_tr m_ce m_tb m_tr e_ce e_tb e_tr f_tr) (ok_k X Y hA KS KR) m_ce e_ce rfl kl_H_Ce_judge ks_Ce_judge kx_Ce_judge ki_Ce_judge ini_Ce ⟨rfl, rfl⟩ hd_Ce_judge ⟨by decide, by decide⟩ rfl (Nat.le_of_ble_eq_true rfl) d_H_kdc_4 ⟨(show 0 + 0 ≤ 0 by omega), (show 0 + (0) ≤ (0) by omega)⟩) X Y hA (fun r1 u H locs hp Y => ?_)
  obtain ⟨L3, f2⟩ := u
  obtain ⟨eL5, hF4, e7, pr6⟩ := hp
  dsimp only at eL5 hF4 e7 pr6 Y
  rw [eL5] at Y
  have e8 : f2 xo = .inr (0, [.ref v, .ref tb, .ref sb, .ref qb, .ref pa, .ref ga, .ref ce, .ref aa, .ref sa]) := (hF4 xo (q_tag e_xo e_ce (show (0 : Nat) ≠ 4 by decide))).trans e_xo
  have e9 : f2 tb = .inr (3, [.ref tr, .int (nI 0)]) := (hF4 tb (q_tag e_tb e_ce (show (3 : Nat) ≠ 4 by decide))).trans e_tb
  have e10 : f2 tr = .inl (E.1, 4000, .inl g_tr) := (hF4 tr (q_tag e_tr e_ce (show (1000 : Nat) ≠ 4 by decide))).trans e_tr
  have e11 : f2 sb = .inr (3, [.ref sr, .int (nI 0)]) := (hF4 sb (q_tag e_sb e_ce (show (3 : Nat) ≠ 4 by decide))).trans e_sb
  have e12 : f2 sr = .inl (E.1, 12288, .inl g_sr) := (hF4 sr (q_tag e_sr e_ce (show (1000 : Nat) ≠ 4 by decide))).trans e_sr
  have e13 : f2 v = .inr (11, [.int now, .ref txo, .ref dro, .ref v_hash, .ref v_aes, .ref v_seed, .int ssz, .ref coo, .int cat, .int crw, .ref deo, .ref v_turned, .ref v_brief]) := (hF4 v (q_tag e_v e_ce (show (11 : Nat) ≠ 4 by decide))).trans e_v
  have e14 : f2 pa = .inl (E.2.2.1, 12, .inr (.inr (.inr (.inr g_pa)))) := (hF4 pa (q_tag e_pa e_ce (show (1000 : Nat) ≠ 4 by decide))).trans e_pa
  have e15 : f2 pr = .inr (7, [.ref nb, .ref sno, .int (nI 1), .int (nI 1), .int prd, .ref l18, .ref l17, .ref d18, .ref d17, .int lif, .int ren, .int flg, .int xpy]) := (hF4 pr (q_tag e_pr e_ce (show (7 : Nat) ≠ 4 by decide))).trans e_pr
  have e16 : f2 nb = .inr (3, [.ref nr, .int (nI nn)]) := (hF4 nb (q_tag e_nb e_ce (show (3 : Nat) ≠ 4 by decide))).trans e_nb
  have e17 : f2 nr = .inl (E.1, 40, .inl g_nr) := (hF4 nr (q_tag e_nr e_ce (show (1000 : Nat) ≠ 4 by decide))).trans e_nr
  have hF18 : ∀ x, x ≠ ce → x ≠ sb → x ≠ sr → x ≠ tb → x ≠ tr → f2 x = f x := fun x h0 h1 h2 h3 h4 => (hF4 x h0).trans rfl
  refine t_eq pr6 ?_
  refine lv_istore_n (lv' := [(1, .int (nI 60)), (0, .ref xo)]) X.1 X.2.1 d_H_kdc_7 rfl hl (by decide) rfl (fun ls hl => ?_)
  refine lv_iload_n X.1 X.2.1 d_H_kdc_8 rfl (lv_at hl 0 rfl) ?_
  refine lv_if_ne (tgt := 83) X.1 X.2.1 d_H_kdc_9 (by decide) (fun c19 => ?_) (fun c19 => absurd c19 ?_)
  rotate_left
  · (rw [← nI_0, nI_eq (by omega) (by omega)] <;> omega)
  rw [← nI_0] at c19
  rw [nI_eq (by omega) (by omega)] at c19
  refine lv_iload_n X.1 X.2.1 d_H_kdc_83 rfl (lv_at hl 0 rfl) ?_
  refine lv_if_ne (tgt := 115) X.1 X.2.1 d_H_kdc_84 (by decide) (fun c20 => ?_) (fun c20 => absurd c20 ?_)
  rotate_left
  · (rw [← nI_0, nI_eq (by omega) (by omega)] <;> omega)
  rw [← nI_0] at c20
  rw [nI_eq (by omega) (by omega)] at c20
  refine lv_iload_n X.1 X.2.1 d_H_kdc_115 rfl (lv_at hl 0 rfl) ?_
  refine lv_if_ne (tgt := 129) X.1 X.2.1 d_H_kdc_116 (by decide) (fun c21 => ?_) (fun c21 => absurd c21 ?_)
  rotate_left
  · (rw [← nI_0, nI_eq (by omega) (by omega)] <;> omega)
  rw [← nI_0] at c21
  rw [nI_eq (by omega) (by omega)] at c21
  refine lv_aload_n X.1 X.2.1 d_H_kdc_129 rfl (lv_at hl 1 rfl) ?_
  refine q_get X.1 X.2.1 X.2.2.1 i_H X.2.2.2.1 X.2.2.2.2 Y m_xo e8 rfl 6 (by decide) (X.2.2.1 _ lk_H_77) (fun _ h9 => h9) rfl d_H_kdc_130 ?_
  refine lv_iload_n X.1 X.2.1 d_H_kdc_133 rfl (lv_at hl 0 rfl) ?_
  refine x_v (x_runV (As := [.int (nI 60)]) (rest := []) (n := 1) X Y hml hl.1 (c_Ce_putError_empty l D E T L f2 H.size (4000) (12288) (40) ce tb tr sb sr v pa pr nb nr ga cso cl1 cl2 txo dro v_hash v_aes v_seed coo deo v_turned v_brief sno l18 l17 d18 d17 (0) (nn) (ce_body) (ce_options) (ce_etype) (ce_flags) (ce_endTime) (ce_renewTill) (now) (ssz) (cat) (crw) ((nI 1)) ((nI 1)) (prd) (lif) (ren) (flg) (xpy) g_tr g_sr g_nr g_pa m_ce m_tb m_tr m_sb m_sr m_v m_pa m_pr m_nb m_nr e7 e9 e10 e11 e12 e13 e14 e15 e16 e17 f_tr f_sr f_nr ap_tb_sb ap_tb_nb ap_tr_sr ap_tr_pa ap_tr_nr ap_sb_nb ap_sr_pa ap_sr_nr ap_pa_nr hh0 (by omega) (by omega) (by omega) (by omega)) (ok_k X Y hA KS KR) m_ce e7 rfl kl_H_Ce_putError ks_Ce_putError kx_Ce_putError ki_Ce_putError ini_Ce ⟨rfl, rfl⟩ hd_Ce_putError ⟨by decide, by decide⟩ rfl (Nat.le_of_ble_eq_true rfl) d_H_kdc_134 ⟨(show 0 + 0 ≤ 0 by omega), (show 0 + (0) ≤ (0) by omega)⟩) X Y hA (fun u H locs hp Y => ?_)
  obtain ⟨L24, f23⟩ := u
  obtain ⟨eL26, hF25, n28, g29, hg30, h31, e32, e33⟩ := hp
  dsimp only at eL26 hF25 e32 e33 Y
  rw [eL26] at Y
  have e34 : f23 xo = .inr (0, [.ref v, .ref tb, .ref sb, .ref qb, .ref pa, .ref ga, .ref ce, .ref aa, .ref sa]) := (hF25 xo (q_tag e8 e11 (show (0 : Nat) ≠ 3 by decide)) (q_tag e8 e12 (show (0 : Nat) ≠ 1000 by decide))).trans e8
  have e35 : f23 ce = .inr (4, [.ref v, .ref ga, .ref pa, .ref tb, .ref sb, .ref cso, .int (nI 0), .int (nI 0), .int ce_body, .int ce_options, .ref cl1, .ref cl2, .int ce_etype, .int ce_flags, .int ce_endTime, .int ce_renewTill]) := (hF25 ce (q_tag e7 e11 (show (4 : Nat) ≠ 3 by decide)) (q_tag e7 e12 (show (4 : Nat) ≠ 1000 by decide))).trans e7
  have e36 : f23 tb = .inr (3, [.ref tr, .int (nI 0)]) := (hF25 tb ap_tb_sb (q_tag e9 e12 (show (3 : Nat) ≠ 1000 by decide))).trans e9
  have e37 : f23 tr = .inl (E.1, 4000, .inl g_tr) := (hF25 tr (q_tag e10 e11 (show (1000 : Nat) ≠ 3 by decide)) ap_tr_sr).trans e10
  have e38 : f23 v = .inr (11, [.int now, .ref txo, .ref dro, .ref v_hash, .ref v_aes, .ref v_seed, .int ssz, .ref coo, .int cat, .int crw, .ref deo, .ref v_turned, .ref v_brief]) := (hF25 v (q_tag e13 e11 (show (11 : Nat) ≠ 3 by decide)) (q_tag e13 e12 (show (11 : Nat) ≠ 1000 by decide))).trans e13
  have e39 : f23 pa = .inl (E.2.2.1, 12, .inr (.inr (.inr (.inr g_pa)))) := (hF25 pa (q_tag e14 e11 (show (1000 : Nat) ≠ 3 by decide)) ap_sr_pa.symm).trans e14
  have e40 : f23 pr = .inr (7, [.ref nb, .ref sno, .int (nI 1), .int (nI 1), .int prd, .ref l18, .ref l17, .ref d18, .ref d17, .int lif, .int ren, .int flg, .int xpy]) := (hF25 pr (q_tag e15 e11 (show (7 : Nat) ≠ 3 by decide)) (q_tag e15 e12 (show (7 : Nat) ≠ 1000 by decide))).trans e15
  have e41 : f23 nb = .inr (3, [.ref nr, .int (nI nn)]) := (hF25 nb ap_sb_nb.symm (q_tag e16 e12 (show (3 : Nat) ≠ 1000 by decide))).trans e16
  have e42 : f23 nr = .inl (E.1, 40, .inl g_nr) := (hF25 nr (q_tag e17 e11 (show (1000 : Nat) ≠ 3 by decide)) ap_sr_nr.symm).trans e17
  have hF43 : ∀ x, x ≠ ce → x ≠ sb → x ≠ sr → x ≠ tb → x ≠ tr → f23 x = f x := fun x h0 h1 h2 h3 h4 => (hF25 x h1 h2).trans (hF18 x h0 h1 h2 h3 h4)
  refine lv_aload_n X.1 X.2.1 d_H_kdc_137 rfl (lv_at hl 1 rfl) ?_
  refine q_get X.1 X.2.1 X.2.2.1 i_H X.2.2.2.1 X.2.2.2.2 Y m_xo e34 rfl 1 (by decide) (X.2.2.1 _ lk_H_21) (fun _ h9 => h9) rfl d_H_kdc_138 ?_
  refine x_v (x_runV (As := []) (rest := []) (n := 0) X Y hml hl.1 (c_By_clear l D E L f23 H.size  tb tr (4000) (0) g_tr m_tb e36 m_tr e37 (by omega) (by omega) f_tr) (ok_c X Y) m_tb e36 rfl kl_H_By_clear ks_By_clear kx_By_clear ki_By_clear ini_By ⟨rfl, rfl⟩ hd_By_clear ⟨by decide, by decide⟩ rfl (Nat.le_of_ble_eq_true rfl) d_H_kdc_141 ⟨(show 0 + 0 ≤ 0 by omega), (show 0 + (0) ≤ (0) by omega)⟩) X Y hA (fun u H locs hp Y => ?_)
  obtain ⟨L45, f44⟩ := u
  obtain ⟨eL55, hF46, n47, g48, h50, h51, h52, e53, e54⟩ := hp
  dsimp only at eL55 hF46 e53 e54 Y
  rw [eL55] at Y
  have e57 : f44 xo = .inr (0, [.ref v, .ref tb, .ref sb, .ref qb, .ref pa, .ref ga, .ref ce, .ref aa, .ref sa]) := (hF46 xo (q_tag e34 e36 (show (0 : Nat) ≠ 3 by decide)) (q_tag e34 e37 (show (0 : Nat) ≠ 1000 by decide))).trans e34
  have e58 : f44 ce = .inr (4, [.ref v, .ref ga, .ref pa, .ref tb, .ref sb, .ref cso, .int (nI 0), .int (nI 0), .int ce_body, .int ce_options, .ref cl1, .ref cl2, .int ce_etype, .int ce_flags, .int ce_endTime, .int ce_renewTill]) := (hF46 ce (q_tag e35 e36 (show (4 : Nat) ≠ 3 by decide)) (q_tag e35 e37 (show (4 : Nat) ≠ 1000 by decide))).trans e35
  have e59 : f44 sb = .inr (3, [.ref sr, .int (nI n28)]) := (hF46 sb ap_tb_sb.symm (q_tag e32 e37 (show (3 : Nat) ≠ 1000 by decide))).trans e32
  have e60 : f44 sr = .inl (E.1, 12288, .inl g29) := (hF46 sr (q_tag e33 e36 (show (1000 : Nat) ≠ 3 by decide)) ap_tr_sr.symm).trans e33
  have e61 : f44 v = .inr (11, [.int now, .ref txo, .ref dro, .ref v_hash, .ref v_aes, .ref v_seed, .int ssz, .ref coo, .int cat, .int crw, .ref deo, .ref v_turned, .ref v_brief]) := (hF46 v (q_tag e38 e36 (show (11 : Nat) ≠ 3 by decide)) (q_tag e38 e37 (show (11 : Nat) ≠ 1000 by decide))).trans e38
  have e62 : f44 pa = .inl (E.2.2.1, 12, .inr (.inr (.inr (.inr g_pa)))) := (hF46 pa (q_tag e39 e36 (show (1000 : Nat) ≠ 3 by decide)) ap_tr_pa.symm).trans e39
  have e63 : f44 pr = .inr (7, [.ref nb, .ref sno, .int (nI 1), .int (nI 1), .int prd, .ref l18, .ref l17, .ref d18, .ref d17, .int lif, .int ren, .int flg, .int xpy]) := (hF46 pr (q_tag e40 e36 (show (7 : Nat) ≠ 3 by decide)) (q_tag e40 e37 (show (7 : Nat) ≠ 1000 by decide))).trans e40
  have e64 : f44 nb = .inr (3, [.ref nr, .int (nI nn)]) := (hF46 nb ap_tb_nb.symm (q_tag e41 e37 (show (3 : Nat) ≠ 1000 by decide))).trans e41
  have e65 : f44 nr = .inl (E.1, 40, .inl g_nr) := (hF46 nr (q_tag e42 e36 (show (1000 : Nat) ≠ 3 by decide)) ap_tr_nr.symm).trans e42
  have hF66 : ∀ x, x ≠ ce → x ≠ sb → x ≠ sr → x ≠ tb → x ≠ tr → f44 x = f x := fun x h0 h1 h2 h3 h4 => (hF46 x h3 h4).trans (hF43 x h0 h1 h2 h3 h4)
  refine lv_iload_n X.1 X.2.1 d_H_kdc_144 rfl (lv_at hl 0 rfl) ?_
  exact c_reti hQQ X Y hr hlk ⟨rfl, hF66, (n28), (n47), g29, g48, hg30, h51, e58, e59, e60, e53, e54, rfl⟩ d_H_kdc_145
set_option maxHeartbeats 4000000 in
set_option maxRecDepth 100000 in
theorem c_H_putRefusal (l : Launch) (D : va_G) (E : cE) (T : cT) (L : List Nat) (f : pF) (sz : Nat) (a2 : Int32) (xo sb sr v pr nb nr tb qb pa ga ce aa sa txo dro v_hash v_aes v_seed coo deo v_turned v_brief sno l18 l17 d18 d17 sn nn : Nat) (now ssz cat crw prd lif ren flg xpy : Int32) (g_sr g_nr : Nat → Int32) (m_xo : xo ∈ L) (m_sb : sb ∈ L) (m_sr : sr ∈ L) (m_v : v ∈ L) (m_pr : pr ∈ L) (m_nb : nb ∈ L) (m_nr : nr ∈ L) (e_xo : f xo = .inr (0, [.ref v, .ref tb, .ref sb, .ref qb, .ref pa, .ref ga, .ref ce, .ref aa, .ref sa])) (e_sb : f sb = .inr (3, [.ref sr, .int (nI sn)])) (e_sr : f sr = .inl (E.1, 12288, .inl g_sr)) (e_v : f v = .inr (11, [.int now, .ref txo, .ref dro, .ref v_hash, .ref v_aes, .ref v_seed, .int ssz, .ref coo, .int cat, .int crw, .ref deo, .ref v_turned, .ref v_brief])) (e_pr : f pr = .inr (7, [.ref nb, .ref sno, .int (nI 1), .int (nI 1), .int prd, .ref l18, .ref l17, .ref d18, .ref d17, .int lif, .int ren, .int flg, .int xpy])) (e_nb : f nb = .inr (3, [.ref nr, .int (nI nn)])) (e_nr : f nr = .inl (E.1, 40, .inl g_nr)) (f_sr : fB g_sr) (f_nr : fB g_nr) (ap_sb_nb : sb ≠ nb) (ap_sr_nr : sr ≠ nr) (hh0 : sn ≤ 12288) (hh1 : nn ≤ 40) : Met l y_H_putRefusal (k_H_putRefusal :: lw_tg) (kRm 7 156 0 (0)) (va_Pc [.ref xo, .ref pr, .int a2] (kPre D E T L f sz)) (va_Qv (fun (u : cU) => u.1 = L ∧ (∀ x, x ≠ sb → x ≠ sr → u.2 x = f x) ∧ ∃ (sn2 : Nat) (k_sr : Nat → Int32), fB k_sr ∧ (sn2 ≤ 12288) ∧ u.2 sb = .inr (3, [.ref sr, .int (nI sn2)]) ∧ u.2 sr = .inl (E.1, 12288, .inl k_sr)) (cPost D E (pA L sz)) (pA L sz)) 0 (0) (pA L sz) := by
  refine k_enter (own := R_H) (by decide) rfl (Nat.le_of_ble_eq_true rfl) (fun p e s m below meth c ls AV QQ H locs hQQ X Y hA hin hr hlk hml hl KS KR => ?_)
  have hl : lv_has ls 5 [(0, .ref xo), (1, .ref pr), (2, .int a2)] := hl
  refine lv_aload_n X.1 X.2.1 d_H_putRefusal_0 rfl (lv_at hl 0 rfl) ?_
  refine q_get X.1 X.2.1 X.2.2.1 i_H X.2.2.2.1 X.2.2.2.2 Y m_xo e_xo rfl 2 (by decide) (X.2.2.1 _ lk_H_25) (fun _ h9 => h9) rfl d_H_putRefusal_1 ?_
  refine lv_bipush (v := (nI 126)) X.1 X.2.1 d_H_putRefusal_4 (by decide) ?_
  refine x_i (x_runV (As := [.int (nI 126)]) (rest := []) (n := 1) X Y hml hl.1 (c_By_open l D E L f H.size ((nI 126)) sb sr (12288) (sn) g_sr m_sb e_sb m_sr e_sr (by omega) (by omega) f_sr) (ok_c X Y) m_sb e_sb rfl kl_H_By_open ks_By_open kx_By_open ki_By_open ini_By ⟨rfl, rfl⟩ hd_By_open ⟨by decide, by decide⟩ rfl (Nat.le_of_ble_eq_true rfl) d_H_putRefusal_6 ⟨(show 0 + 0 ≤ 0 by omega), (show 0 + (0) ≤ (0) by omega)⟩) X Y hA (fun r6 u H locs hp Y => ?_)
  obtain ⟨L2, f1⟩ := u
  obtain ⟨eL13, hF3, n4, g5, h7, h8, h9, h10, e11, e12, pr14⟩ := hp
  dsimp only at eL13 hF3 e11 e12 Y pr14
  rw [eL13] at Y
  have e15 : f1 xo = .inr (0, [.ref v, .ref tb, .ref sb, .ref qb, .ref pa, .ref ga, .ref ce, .ref aa, .ref sa]) := (hF3 xo (q_tag e_xo e_sb (show (0 : Nat) ≠ 3 by decide)) (q_tag e_xo e_sr (show (0 : Nat) ≠ 1000 by decide))).trans e_xo
  have e16 : f1 v = .inr (11, [.int now, .ref txo, .ref dro, .ref v_hash, .ref v_aes, .ref v_seed, .int ssz, .ref coo, .int cat, .int crw, .ref deo, .ref v_turned, .ref v_brief]) := (hF3 v (q_tag e_v e_sb (show (11 : Nat) ≠ 3 by decide)) (q_tag e_v e_sr (show (11 : Nat) ≠ 1000 by decide))).trans e_v
  have e17 : f1 pr = .inr (7, [.ref nb, .ref sno, .int (nI 1), .int (nI 1), .int prd, .ref l18, .ref l17, .ref d18, .ref d17, .int lif, .int ren, .int flg, .int xpy]) := (hF3 pr (q_tag e_pr e_sb (show (7 : Nat) ≠ 3 by decide)) (q_tag e_pr e_sr (show (7 : Nat) ≠ 1000 by decide))).trans e_pr
  have e18 : f1 nb = .inr (3, [.ref nr, .int (nI nn)]) := (hF3 nb ap_sb_nb.symm (q_tag e_nb e_sr (show (3 : Nat) ≠ 1000 by decide))).trans e_nb
  have e19 : f1 nr = .inl (E.1, 40, .inl g_nr) := (hF3 nr (q_tag e_nr e_sb (show (1000 : Nat) ≠ 3 by decide)) ap_sr_nr.symm).trans e_nr
  have hF20 : ∀ x, x ≠ sb → x ≠ sr → f1 x = f x := fun x h0 h1 => (hF3 x h0 h1).trans rfl
  refine lv_istore_n (lv' := [(3, .int r6), (0, .ref xo), (1, .ref pr), (2, .int a2)]) X.1 X.2.1 d_H_putRefusal_9 rfl hl (by decide) rfl (fun ls hl => ?_)
  refine lv_aload_n X.1 X.2.1 d_H_putRefusal_10 rfl (lv_at hl 1 rfl) ?_
  refine q_get X.1 X.2.1 X.2.2.1 i_H X.2.2.2.1 X.2.2.2.2 Y m_xo e15 rfl 2 (by decide) (X.2.2.1 _ lk_H_25) (fun _ h9 => h9) rfl d_H_putRefusal_11 ?_
  refine lv_bipush (v := (nI 48)) X.1 X.2.1 d_H_putRefusal_14 (by decide) ?_
  refine x_i (x_runV (As := [.int (nI 48)]) (rest := []) (n := 1) X Y hml hl.1 (c_By_open l D E L f1 H.size ((nI 48)) sb sr (12288) (n4) g5 m_sb e11 m_sr e12 (by omega) (by omega) h8) (ok_c X Y) m_sb e11 rfl kl_H_By_open ks_By_open kx_By_open ki_By_open ini_By ⟨rfl, rfl⟩ hd_By_open ⟨by decide, by decide⟩ rfl (Nat.le_of_ble_eq_true rfl) d_H_putRefusal_16 ⟨(show 0 + 0 ≤ 0 by omega), (show 0 + (0) ≤ (0) by omega)⟩) X Y hA (fun r26 u H locs hp Y => ?_)
  obtain ⟨L22, f21⟩ := u
  obtain ⟨eL33, hF23, n24, g25, h27, h28, h29, h30, e31, e32, pr34⟩ := hp
  dsimp only at eL33 hF23 e31 e32 Y pr34
  rw [eL33] at Y
  have e35 : f21 xo = .inr (0, [.ref v, .ref tb, .ref sb, .ref qb, .ref pa, .ref ga, .ref ce, .ref aa, .ref sa]) := (hF23 xo (q_tag e15 e11 (show (0 : Nat) ≠ 3 by decide)) (q_tag e15 e12 (show (0 : Nat) ≠ 1000 by decide))).trans e15
  have e36 : f21 v = .inr (11, [.int now, .ref txo, .ref dro, .ref v_hash, .ref v_aes, .ref v_seed, .int ssz, .ref coo, .int cat, .int crw, .ref deo, .ref v_turned, .ref v_brief]) := (hF23 v (q_tag e16 e11 (show (11 : Nat) ≠ 3 by decide)) (q_tag e16 e12 (show (11 : Nat) ≠ 1000 by decide))).trans e16
  have e37 : f21 pr = .inr (7, [.ref nb, .ref sno, .int (nI 1), .int (nI 1), .int prd, .ref l18, .ref l17, .ref d18, .ref d17, .int lif, .int ren, .int flg, .int xpy]) := (hF23 pr (q_tag e17 e11 (show (7 : Nat) ≠ 3 by decide)) (q_tag e17 e12 (show (7 : Nat) ≠ 1000 by decide))).trans e17
  have e38 : f21 nb = .inr (3, [.ref nr, .int (nI nn)]) := (hF23 nb ap_sb_nb.symm (q_tag e18 e12 (show (3 : Nat) ≠ 1000 by decide))).trans e18
  have e39 : f21 nr = .inl (E.1, 40, .inl g_nr) := (hF23 nr (q_tag e19 e11 (show (1000 : Nat) ≠ 3 by decide)) ap_sr_nr.symm).trans e19
  have hF40 : ∀ x, x ≠ sb → x ≠ sr → f21 x = f x := fun x h0 h1 => (hF23 x h0 h1).trans (hF20 x h0 h1)
  refine lv_istore (lv' := [(4, .int r26), (3, .int r6), (0, .ref xo), (1, .ref pr), (2, .int a2)]) X.1 X.2.1 d_H_putRefusal_19 hl (by decide) rfl (fun ls hl => ?_)
  refine lv_aload_n X.1 X.2.1 d_H_putRefusal_21 rfl (lv_at hl 2 rfl) ?_
  refine q_get X.1 X.2.1 X.2.2.1 i_H X.2.2.2.1 X.2.2.2.2 Y m_xo e35 rfl 2 (by decide) (X.2.2.1 _ lk_H_25) (fun _ h9 => h9) rfl d_H_putRefusal_22 ?_
  refine lv_aload_n X.1 X.2.1 d_H_putRefusal_25 rfl (lv_at hl 2 rfl) ?_
  refine q_get X.1 X.2.1 X.2.2.1 i_H X.2.2.2.1 X.2.2.2.2 Y m_xo e35 rfl 0 (by decide) (X.2.2.1 _ lk_H_12) (fun _ h9 => h9) rfl d_H_putRefusal_26 ?_
  refine q_get X.1 X.2.1 X.2.2.1 i_Va X.2.2.2.1 X.2.2.2.2 Y m_v e36 rfl 0 (by decide) (X.2.2.1 _ lk_H_110) (fun _ h9 => h9) rfl d_H_putRefusal_29 ?_
  refine lv_iload_n X.1 X.2.1 d_H_putRefusal_32 rfl (lv_at hl 4 rfl) ?_
  refine x_v (x_runV (As := [.int now, .int a2]) (rest := []) (n := 2) X Y hml hl.1 (c_By_putErrorHead l D E T L f21 H.size (now) (a2) (12288) sb sr (n24) g25 m_sb m_sr e31 e32 h28 (by omega) (by omega)) (ok_k X Y hA KS KR) m_sb e31 rfl kl_H_By_putErrorHead ks_By_putErrorHead kx_By_putErrorHead ki_By_putErrorHead ini_By ⟨rfl, rfl⟩ hd_By_putErrorHead ⟨by decide, by decide⟩ rfl (Nat.le_of_ble_eq_true rfl) d_H_putRefusal_33 ⟨(show 0 + 0 ≤ 0 by omega), (show 0 + (0) ≤ (0) by omega)⟩) X Y hA (fun u H locs hp Y => ?_)
  obtain ⟨L43, f42⟩ := u
  obtain ⟨eL45, hF44, n47, g48, hg49, h50, h51, e52, e53⟩ := hp
  dsimp only at eL45 hF44 e52 e53 Y
  rw [eL45] at Y
  have e54 : f42 xo = .inr (0, [.ref v, .ref tb, .ref sb, .ref qb, .ref pa, .ref ga, .ref ce, .ref aa, .ref sa]) := (hF44 xo (q_tag e35 e31 (show (0 : Nat) ≠ 3 by decide)) (q_tag e35 e32 (show (0 : Nat) ≠ 1000 by decide))).trans e35
  have e55 : f42 v = .inr (11, [.int now, .ref txo, .ref dro, .ref v_hash, .ref v_aes, .ref v_seed, .int ssz, .ref coo, .int cat, .int crw, .ref deo, .ref v_turned, .ref v_brief]) := (hF44 v (q_tag e36 e31 (show (11 : Nat) ≠ 3 by decide)) (q_tag e36 e32 (show (11 : Nat) ≠ 1000 by decide))).trans e36
  have e56 : f42 pr = .inr (7, [.ref nb, .ref sno, .int (nI 1), .int (nI 1), .int prd, .ref l18, .ref l17, .ref d18, .ref d17, .int lif, .int ren, .int flg, .int xpy]) := (hF44 pr (q_tag e37 e31 (show (7 : Nat) ≠ 3 by decide)) (q_tag e37 e32 (show (7 : Nat) ≠ 1000 by decide))).trans e37
  have e57 : f42 nb = .inr (3, [.ref nr, .int (nI nn)]) := (hF44 nb ap_sb_nb.symm (q_tag e38 e32 (show (3 : Nat) ≠ 1000 by decide))).trans e38
  have e58 : f42 nr = .inl (E.1, 40, .inl g_nr) := (hF44 nr (q_tag e39 e31 (show (1000 : Nat) ≠ 3 by decide)) ap_sr_nr.symm).trans e39
  have hF59 : ∀ x, x ≠ sb → x ≠ sr → f42 x = f x := fun x h0 h1 => (hF44 x h0 h1).trans (hF40 x h0 h1)
  refine lv_aload_n X.1 X.2.1 d_H_putRefusal_36 rfl (lv_at hl 2 rfl) ?_
  refine q_get X.1 X.2.1 X.2.2.1 i_H X.2.2.2.1 X.2.2.2.2 Y m_xo e54 rfl 2 (by decide) (X.2.2.1 _ lk_H_25) (fun _ h9 => h9) rfl d_H_putRefusal_37 ?_
  refine lv_bipush (v := (nI 9)) X.1 X.2.1 d_H_putRefusal_40 (by decide) ?_
  refine x_v (x_runV (As := [.int (nI 9)]) (rest := []) (n := 1) X Y hml hl.1 (c_By_putRealm l D E T L f42 H.size ((nI 9)) (12288) sb sr (n47) g48 m_sb m_sr e52 e53 hg49 (by omega) (by omega)) (ok_k X Y hA KS KR) m_sb e52 rfl kl_H_By_putRealm ks_By_putRealm kx_By_putRealm ki_By_putRealm ini_By ⟨rfl, rfl⟩ hd_By_putRealm ⟨by decide, by decide⟩ rfl (Nat.le_of_ble_eq_true rfl) d_H_putRefusal_42 ⟨(show 0 + 0 ≤ 0 by omega), (show 0 + (0) ≤ (0) by omega)⟩) X Y hA (fun u H locs hp Y => ?_)
  obtain ⟨L62, f61⟩ := u
  obtain ⟨eL64, hF63, n66, g67, hg68, h69, h70, e71, e72⟩ := hp
  dsimp only at eL64 hF63 e71 e72 Y
  rw [eL64] at Y
  have e73 : f61 xo = .inr (0, [.ref v, .ref tb, .ref sb, .ref qb, .ref pa, .ref ga, .ref ce, .ref aa, .ref sa]) := (hF63 xo (q_tag e54 e52 (show (0 : Nat) ≠ 3 by decide)) (q_tag e54 e53 (show (0 : Nat) ≠ 1000 by decide))).trans e54
  have e74 : f61 v = .inr (11, [.int now, .ref txo, .ref dro, .ref v_hash, .ref v_aes, .ref v_seed, .int ssz, .ref coo, .int cat, .int crw, .ref deo, .ref v_turned, .ref v_brief]) := (hF63 v (q_tag e55 e52 (show (11 : Nat) ≠ 3 by decide)) (q_tag e55 e53 (show (11 : Nat) ≠ 1000 by decide))).trans e55
  have e75 : f61 pr = .inr (7, [.ref nb, .ref sno, .int (nI 1), .int (nI 1), .int prd, .ref l18, .ref l17, .ref d18, .ref d17, .int lif, .int ren, .int flg, .int xpy]) := (hF63 pr (q_tag e56 e52 (show (7 : Nat) ≠ 3 by decide)) (q_tag e56 e53 (show (7 : Nat) ≠ 1000 by decide))).trans e56
  have e76 : f61 nb = .inr (3, [.ref nr, .int (nI nn)]) := (hF63 nb ap_sb_nb.symm (q_tag e57 e53 (show (3 : Nat) ≠ 1000 by decide))).trans e57
  have e77 : f61 nr = .inl (E.1, 40, .inl g_nr) := (hF63 nr (q_tag e58 e52 (show (1000 : Nat) ≠ 3 by decide)) ap_sr_nr.symm).trans e58
  have hF78 : ∀ x, x ≠ sb → x ≠ sr → f61 x = f x := fun x h0 h1 => (hF63 x h0 h1).trans (hF59 x h0 h1)
  refine lv_aload_n X.1 X.2.1 d_H_putRefusal_45 rfl (lv_at hl 2 rfl) ?_
  refine q_get X.1 X.2.1 X.2.2.1 i_H X.2.2.2.1 X.2.2.2.2 Y m_xo e73 rfl 2 (by decide) (X.2.2.1 _ lk_H_25) (fun _ h9 => h9) rfl d_H_putRefusal_46 ?_
  refine lv_bipush (v := (nI 10)) X.1 X.2.1 d_H_putRefusal_49 (by decide) ?_
  refine lv_iconst (v := (nI 2)) X.1 X.2.1 d_H_putRefusal_51 (by decide) ?_
  refine lv_aload_n X.1 X.2.1 d_H_putRefusal_52 rfl (lv_at hl 3 rfl) ?_
  refine q_get X.1 X.2.1 X.2.2.1 i_Pr X.2.2.2.1 X.2.2.2.2 Y m_pr e75 rfl 0 (by decide) (X.2.2.1 _ lk_H_340) (fun _ h9 => h9) rfl d_H_putRefusal_53 ?_
  refine x_v (x_runV (As := [.int (nI 10), .int (nI 2), .ref nb]) (rest := []) (n := 3) X Y hml hl.1 (c_By_putName l D E T L f61 H.size ((nI 10)) ((nI 2)) (12288) (40) sb sr nb nr (n66) (nn) g67 g_nr m_sb m_sr m_nb m_nr e71 e72 e76 e77 hg68 f_nr ap_sb_nb ap_sr_nr (by omega) (by omega) (by omega) (by omega)) (ok_k X Y hA KS KR) m_sb e71 rfl kl_H_By_putName ks_By_putName kx_By_putName ki_By_putName ini_By ⟨rfl, rfl⟩ hd_By_putName ⟨by decide, by decide⟩ rfl (Nat.le_of_ble_eq_true rfl) d_H_putRefusal_56 ⟨(show 0 + 0 ≤ 0 by omega), (show 0 + (0) ≤ (0) by omega)⟩) X Y hA (fun u H locs hp Y => ?_)
  obtain ⟨L81, f80⟩ := u
  obtain ⟨eL83, hF82, n85, g86, hg87, h88, h89, e90, e91⟩ := hp
  dsimp only at eL83 hF82 e90 e91 Y
  rw [eL83] at Y
  have e92 : f80 xo = .inr (0, [.ref v, .ref tb, .ref sb, .ref qb, .ref pa, .ref ga, .ref ce, .ref aa, .ref sa]) := (hF82 xo (q_tag e73 e71 (show (0 : Nat) ≠ 3 by decide)) (q_tag e73 e72 (show (0 : Nat) ≠ 1000 by decide))).trans e73
  have e93 : f80 v = .inr (11, [.int now, .ref txo, .ref dro, .ref v_hash, .ref v_aes, .ref v_seed, .int ssz, .ref coo, .int cat, .int crw, .ref deo, .ref v_turned, .ref v_brief]) := (hF82 v (q_tag e74 e71 (show (11 : Nat) ≠ 3 by decide)) (q_tag e74 e72 (show (11 : Nat) ≠ 1000 by decide))).trans e74
  have e94 : f80 pr = .inr (7, [.ref nb, .ref sno, .int (nI 1), .int (nI 1), .int prd, .ref l18, .ref l17, .ref d18, .ref d17, .int lif, .int ren, .int flg, .int xpy]) := (hF82 pr (q_tag e75 e71 (show (7 : Nat) ≠ 3 by decide)) (q_tag e75 e72 (show (7 : Nat) ≠ 1000 by decide))).trans e75
  have e95 : f80 nb = .inr (3, [.ref nr, .int (nI nn)]) := (hF82 nb ap_sb_nb.symm (q_tag e76 e72 (show (3 : Nat) ≠ 1000 by decide))).trans e76
  have e96 : f80 nr = .inl (E.1, 40, .inl g_nr) := (hF82 nr (q_tag e77 e71 (show (1000 : Nat) ≠ 3 by decide)) ap_sr_nr.symm).trans e77
  have hF97 : ∀ x, x ≠ sb → x ≠ sr → f80 x = f x := fun x h0 h1 => (hF82 x h0 h1).trans (hF78 x h0 h1)
  refine lv_aload_n X.1 X.2.1 d_H_putRefusal_59 rfl (lv_at hl 2 rfl) ?_
  refine q_get X.1 X.2.1 X.2.2.1 i_H X.2.2.2.1 X.2.2.2.2 Y m_xo e92 rfl 2 (by decide) (X.2.2.1 _ lk_H_25) (fun _ h9 => h9) rfl d_H_putRefusal_60 ?_
  refine lv_iload X.1 X.2.1 d_H_putRefusal_63 (lv_at hl 0 rfl) ?_
  refine x_v (x_runV (As := [.int r26]) (rest := []) (n := 1) X Y hml hl.1 (c_By_close l D E L f80 H.size (r26) sb sr (12288) (n85) g86 m_sb e90 m_sr e91 (by omega) (by omega) hg87) (ok_c X Y) m_sb e90 rfl kl_H_By_close ks_By_close kx_By_close ki_By_close ini_By ⟨rfl, rfl⟩ hd_By_close ⟨by decide, by decide⟩ rfl (Nat.le_of_ble_eq_true rfl) d_H_putRefusal_65 ⟨(show 0 + 0 ≤ 0 by omega), (show 0 + (0) ≤ (0) by omega)⟩) X Y hA (fun u H locs hp Y => ?_)
  obtain ⟨L99, f98⟩ := u
  obtain ⟨eL110, hF100, n101, g102, h104, h105, h106, h107, e108, e109⟩ := hp
  dsimp only at eL110 hF100 e108 e109 Y
  rw [eL110] at Y
  have e112 : f98 xo = .inr (0, [.ref v, .ref tb, .ref sb, .ref qb, .ref pa, .ref ga, .ref ce, .ref aa, .ref sa]) := (hF100 xo (q_tag e92 e90 (show (0 : Nat) ≠ 3 by decide)) (q_tag e92 e91 (show (0 : Nat) ≠ 1000 by decide))).trans e92
  have e113 : f98 v = .inr (11, [.int now, .ref txo, .ref dro, .ref v_hash, .ref v_aes, .ref v_seed, .int ssz, .ref coo, .int cat, .int crw, .ref deo, .ref v_turned, .ref v_brief]) := (hF100 v (q_tag e93 e90 (show (11 : Nat) ≠ 3 by decide)) (q_tag e93 e91 (show (11 : Nat) ≠ 1000 by decide))).trans e93
  have e114 : f98 pr = .inr (7, [.ref nb, .ref sno, .int (nI 1), .int (nI 1), .int prd, .ref l18, .ref l17, .ref d18, .ref d17, .int lif, .int ren, .int flg, .int xpy]) := (hF100 pr (q_tag e94 e90 (show (7 : Nat) ≠ 3 by decide)) (q_tag e94 e91 (show (7 : Nat) ≠ 1000 by decide))).trans e94
  have e115 : f98 nb = .inr (3, [.ref nr, .int (nI nn)]) := (hF100 nb ap_sb_nb.symm (q_tag e95 e91 (show (3 : Nat) ≠ 1000 by decide))).trans e95
  have e116 : f98 nr = .inl (E.1, 40, .inl g_nr) := (hF100 nr (q_tag e96 e90 (show (1000 : Nat) ≠ 3 by decide)) ap_sr_nr.symm).trans e96
  have hF117 : ∀ x, x ≠ sb → x ≠ sr → f98 x = f x := fun x h0 h1 => (hF100 x h0 h1).trans (hF97 x h0 h1)
  refine lv_aload_n X.1 X.2.1 d_H_putRefusal_68 rfl (lv_at hl 2 rfl) ?_
  refine q_get X.1 X.2.1 X.2.2.1 i_H X.2.2.2.1 X.2.2.2.2 Y m_xo e112 rfl 2 (by decide) (X.2.2.1 _ lk_H_25) (fun _ h9 => h9) rfl d_H_putRefusal_69 ?_
  refine lv_iload_n X.1 X.2.1 d_H_putRefusal_72 rfl (lv_at hl 1 rfl) ?_
  refine x_v (x_runV (As := [.int r6]) (rest := []) (n := 1) X Y hml hl.1 (c_By_close l D E L f98 H.size (r6) sb sr (12288) (n101) g102 m_sb e108 m_sr e109 (by omega) (by omega) h105) (ok_c X Y) m_sb e108 rfl kl_H_By_close ks_By_close kx_By_close ki_By_close ini_By ⟨rfl, rfl⟩ hd_By_close ⟨by decide, by decide⟩ rfl (Nat.le_of_ble_eq_true rfl) d_H_putRefusal_73 ⟨(show 0 + 0 ≤ 0 by omega), (show 0 + (0) ≤ (0) by omega)⟩) X Y hA (fun u H locs hp Y => ?_)
  obtain ⟨L119, f118⟩ := u
  obtain ⟨eL130, hF120, n121, g122, h124, h125, h126, h127, e128, e129⟩ := hp
  dsimp only at eL130 hF120 e128 e129 Y
  rw [eL130] at Y
  have e132 : f118 xo = .inr (0, [.ref v, .ref tb, .ref sb, .ref qb, .ref pa, .ref ga, .ref ce, .ref aa, .ref sa]) := (hF120 xo (q_tag e112 e108 (show (0 : Nat) ≠ 3 by decide)) (q_tag e112 e109 (show (0 : Nat) ≠ 1000 by decide))).trans e112
  have e133 : f118 v = .inr (11, [.int now, .ref txo, .ref dro, .ref v_hash, .ref v_aes, .ref v_seed, .int ssz, .ref coo, .int cat, .int crw, .ref deo, .ref v_turned, .ref v_brief]) := (hF120 v (q_tag e113 e108 (show (11 : Nat) ≠ 3 by decide)) (q_tag e113 e109 (show (11 : Nat) ≠ 1000 by decide))).trans e113
  have e134 : f118 pr = .inr (7, [.ref nb, .ref sno, .int (nI 1), .int (nI 1), .int prd, .ref l18, .ref l17, .ref d18, .ref d17, .int lif, .int ren, .int flg, .int xpy]) := (hF120 pr (q_tag e114 e108 (show (7 : Nat) ≠ 3 by decide)) (q_tag e114 e109 (show (7 : Nat) ≠ 1000 by decide))).trans e114
  have e135 : f118 nb = .inr (3, [.ref nr, .int (nI nn)]) := (hF120 nb ap_sb_nb.symm (q_tag e115 e109 (show (3 : Nat) ≠ 1000 by decide))).trans e115
  have e136 : f118 nr = .inl (E.1, 40, .inl g_nr) := (hF120 nr (q_tag e116 e108 (show (1000 : Nat) ≠ 3 by decide)) ap_sr_nr.symm).trans e116
  have hF137 : ∀ x, x ≠ sb → x ≠ sr → f118 x = f x := fun x h0 h1 => (hF120 x h0 h1).trans (hF117 x h0 h1)
  exact c_retv hQQ X Y hr hlk ⟨rfl, hF137, (n121), g122, h125, (by omega), e128, e129⟩ d_H_putRefusal_76
set_option maxHeartbeats 4000000 in
set_option maxRecDepth 100000 in
theorem c_H_serve (l : Launch) (D : va_G) (E : cE) (T : cT) (L : List Nat) (f : pF) (sz : Nat) (a1 : Int32) (xo tb tr sb sr v ga pa pr nb nr sa qb ce aa txo dro v_hash v_aes v_seed coo deo v_turned v_brief gpo gqo gko sno l18 l17 d18 d17 nn : Nat) (now ssz cat crw mst prd lif ren flg xpy : Int32) (g_tr g_sr g_nr : Nat → Int32) (g_pa g_sa : Nat → Option Nat) (m_xo : xo ∈ L) (m_tb : tb ∈ L) (m_tr : tr ∈ L) (m_sb : sb ∈ L) (m_sr : sr ∈ L) (m_v : v ∈ L) (m_ga : ga ∈ L) (m_pa : pa ∈ L) (m_pr : pr ∈ L) (m_nb : nb ∈ L) (m_nr : nr ∈ L) (m_sa : sa ∈ L) (e_xo : f xo = .inr (0, [.ref v, .ref tb, .ref sb, .ref qb, .ref pa, .ref ga, .ref ce, .ref aa, .ref sa])) (e_tb : f tb = .inr (3, [.ref tr, .int (nI 0)])) (e_tr : f tr = .inl (E.1, 4000, .inl g_tr)) (e_sb : f sb = .inr (3, [.ref sr, .int (nI 0)])) (e_sr : f sr = .inl (E.1, 12288, .inl g_sr)) (e_v : f v = .inr (11, [.int now, .ref txo, .ref dro, .ref v_hash, .ref v_aes, .ref v_seed, .int ssz, .ref coo, .int cat, .int crw, .ref deo, .ref v_turned, .ref v_brief])) (e_ga : f ga = .inr (5, [.ref v, .ref gpo, .ref gqo, .ref gko, .int mst])) (e_pa : f pa = .inl (E.2.2.1, 12, .inr (.inr (.inr (.inr g_pa))))) (e_pr : f pr = .inr (7, [.ref nb, .ref sno, .int (nI 1), .int (nI 1), .int prd, .ref l18, .ref l17, .ref d18, .ref d17, .int lif, .int ren, .int flg, .int xpy])) (e_nb : f nb = .inr (3, [.ref nr, .int (nI nn)])) (e_nr : f nr = .inl (E.1, 40, .inl g_nr)) (e_sa : f sa = .inl (E.2.2.2.2.1, 8, .inr (.inr (.inr (.inr g_sa))))) (f_tr : fB g_tr) (f_sr : fB g_sr) (f_nr : fB g_nr) (ap_tb_sb : tb ≠ sb) (ap_tb_nb : tb ≠ nb) (ap_tr_sr : tr ≠ sr) (ap_tr_pa : tr ≠ pa) (ap_tr_nr : tr ≠ nr) (ap_tr_sa : tr ≠ sa) (ap_sb_nb : sb ≠ nb) (ap_sr_pa : sr ≠ pa) (ap_sr_nr : sr ≠ nr) (ap_sr_sa : sr ≠ sa) (ap_pa_nr : pa ≠ nr) (ap_pa_sa : pa ≠ sa) (ap_nr_sa : nr ≠ sa) (hw_wp : wP 7 2 1 12 pr f L g_pa) (hw_ws : wP 9 1 0 8 sa f L g_sa) (hh0 : g_pa 0 = some pr) (hh1 : nn ≤ 40) : Met l y_H_serve (k_H_serve :: lw_tg) (kRm 8 180 0 (0)) (va_Pc [.ref xo, .int a1] (kPre D E T L f sz)) (va_Qi (fun (r0 : Int32) (u : cU) => u.1 = L ∧ (∀ x, x ≠ sb → x ≠ sr → x ≠ tb → x ≠ tr → u.2 x = f x) ∧ ∃ (sn2 tn2 : Nat) (k_sr k_tr : Nat → Int32), fB k_sr ∧ fB k_tr ∧ u.2 sb = .inr (3, [.ref sr, .int (nI sn2)]) ∧ u.2 sr = .inl (E.1, 12288, .inl k_sr) ∧ u.2 tb = .inr (3, [.ref tr, .int (nI tn2)]) ∧ u.2 tr = .inl (E.1, 4000, .inl k_tr) ∧ (r0 = (if a1 = nI 0 then (-60) else (-1)))) (cPost D E (pA L sz)) (pA L sz)) 0 (0) (pA L sz) := by
  refine k_enter (own := R_H) (by decide) rfl (Nat.le_of_ble_eq_true rfl) (fun p e s m below meth c ls AV QQ H locs hQQ X Y hA hin hr hlk hml hl KS KR => ?_)
  have hl : lv_has ls 5 [(0, .ref xo), (1, .int a1)] := hl
  refine lv_aload_n X.1 X.2.1 d_H_serve_0 rfl (lv_at hl 0 rfl) ?_
  refine lv_iload_n X.1 X.2.1 d_H_serve_1 rfl (lv_at hl 1 rfl) ?_
  refine x_i (x_runV (As := [.int a1]) (rest := []) (n := 1) X Y hml hl.1 (c_H_isPrincipal l D E T L f H.size (a1) xo pa pr v tb sb qb ga ce aa sa nb sno l18 l17 d18 d17 (prd) (lif) (ren) (flg) (xpy) g_pa m_xo m_pa m_pr e_xo e_pa e_pr hw_wp hh0) (ok_k X Y hA KS KR) m_xo e_xo rfl kl_H_H_isPrincipal ks_H_isPrincipal kx_H_isPrincipal ki_H_isPrincipal ini_H ⟨rfl, rfl⟩ hd_H_isPrincipal ⟨by decide, by decide⟩ rfl (Nat.le_of_ble_eq_true rfl) d_H_serve_2 ⟨(show 0 + 0 ≤ 0 by omega), (show 0 + (0) ≤ (0) by omega)⟩) X Y hA (fun r1 u H locs hp Y => ?_)
  obtain ⟨L3, f2⟩ := u
  obtain ⟨eL5, hF4, pr6⟩ := hp
  dsimp only at eL5 hF4 pr6 Y
  rw [eL5] at Y
  rw [show f2 = f from funext hF4] at Y
  rcases pr6 with ⟨ha1, hr1⟩ | ⟨ha1, hr1⟩
  · skip
    refine t_eq hr1 ?_
    refine lv_if_ne (tgt := 17) X.1 X.2.1 d_H_serve_5 (by decide) (fun c7 => ?_) (fun c7 => absurd c7 ?_)
    rotate_left
    · (rw [← nI_0, nI_eq (by omega) (by omega)] <;> omega)
    rw [← nI_0] at c7
    rw [nI_eq (by omega) (by omega)] at c7
    refine lv_aload_n X.1 X.2.1 d_H_serve_17 rfl (lv_at hl 0 rfl) ?_
    refine q_get X.1 X.2.1 X.2.2.1 i_H X.2.2.2.1 X.2.2.2.2 Y m_xo e_xo rfl 4 (by decide) (X.2.2.1 _ lk_H_42) (fun _ h9 => h9) rfl d_H_serve_18 ?_
    refine lv_iload_n X.1 X.2.1 d_H_serve_21 rfl (lv_at hl 1 rfl) ?_
    refine t_eq ha1 ?_
    refine q_aald X.1 X.2.1 X.2.2.2.2 Y 2 m_pa e_pa rfl (vp_in_nI (by omega) (by omega)) d_H_serve_22 ?_
    refine t_rf (show _ = some pr by rw [nI_clamp (by decide)]; exact hh0) ?_
    refine lv_astore_n (lv' := [(2, .ref pr), (0, .ref xo), (1, .int a1)]) X.1 X.2.1 d_H_serve_23 rfl hl (by decide) rfl (fun ls hl => ?_)
    refine lv_iconst (v := (nI 0)) X.1 X.2.1 d_H_serve_24 (by decide) ?_
    refine lv_istore_n (lv' := [(3, .int (nI 0)), (2, .ref pr), (0, .ref xo), (1, .int a1)]) X.1 X.2.1 d_H_serve_25 rfl hl (by decide) rfl (fun ls hl => ?_)
    refine lv_iload_n X.1 X.2.1 d_H_serve_26 rfl (lv_at hl 0 rfl) ?_
    refine lv_bipush (v := (nI 8)) X.1 X.2.1 d_H_serve_27 (by decide) ?_
    refine lv_icmp_ge (tgt := 50) X.1 X.2.1 d_H_serve_29 (by decide) (fun c8 => absurd c8 ?_) (fun c8 => ?_)
    · (rw [nI_leI (by omega) (by omega)] <;> omega)
    rw [nI_leI (by omega) (by omega)] at c8
    refine lv_aload_n X.1 X.2.1 d_H_serve_32 rfl (lv_at hl 2 rfl) ?_
    refine q_get X.1 X.2.1 X.2.2.1 i_H X.2.2.2.1 X.2.2.2.2 Y m_xo e_xo rfl 8 (by decide) (X.2.2.1 _ lk_H_56) (fun _ h9 => h9) rfl d_H_serve_33 ?_
    refine lv_iload_n X.1 X.2.1 d_H_serve_36 rfl (lv_at hl 0 rfl) ?_
    refine q_aald X.1 X.2.1 X.2.2.2.2 Y 4 m_sa e_sa rfl (vp_in_nI (by omega) (by omega)) d_H_serve_37 ?_
    obtain ⟨wa9, wv10, hg11, hm12, hn13, hf14, hv15⟩ := hw_ws (0) (by omega) (by omega)
    refine t_rf (show _ = some wa9 by rw [nI_clamp (by omega)]; exact hg11) ?_
    refine q_get X.1 X.2.1 X.2.2.1 i_So X.2.2.2.1 X.2.2.2.2 Y hm12 hf14 rfl 1 (by decide) (X.2.2.1 _ lk_H_239) (fun _ h9 => h9) hv15 d_H_serve_38 ?_
    refine lv_if_eq (tgt := 50) X.1 X.2.1 d_H_serve_41 (by decide) (fun c16 => ?_) (fun c16 => absurd ?_ c16)
    rotate_left
    · (rw [← nI_0, nI_eq (by omega) (by omega)] <;> omega)
    rw [← nI_0] at c16
    rw [nI_eq (by omega) (by omega)] at c16
    refine lv_aload_n X.1 X.2.1 d_H_serve_50 rfl (lv_at hl 2 rfl) ?_
    refine q_get X.1 X.2.1 X.2.2.1 i_H X.2.2.2.1 X.2.2.2.2 Y m_xo e_xo rfl 5 (by decide) (X.2.2.1 _ lk_H_36) (fun _ h9 => h9) rfl d_H_serve_51 ?_
    refine lv_aload_n X.1 X.2.1 d_H_serve_54 rfl (lv_at hl 2 rfl) ?_
    refine q_get X.1 X.2.1 X.2.2.1 i_H X.2.2.2.1 X.2.2.2.2 Y m_xo e_xo rfl 1 (by decide) (X.2.2.1 _ lk_H_21) (fun _ h9 => h9) rfl d_H_serve_55 ?_
    refine lv_iconst (v := (nI 0)) X.1 X.2.1 d_H_serve_58 (by decide) ?_
    refine lv_aload_n X.1 X.2.1 d_H_serve_59 rfl (lv_at hl 2 rfl) ?_
    refine q_get X.1 X.2.1 X.2.2.1 i_H X.2.2.2.1 X.2.2.2.2 Y m_xo e_xo rfl 1 (by decide) (X.2.2.1 _ lk_H_21) (fun _ h9 => h9) rfl d_H_serve_60 ?_
    refine q_get X.1 X.2.1 X.2.2.1 i_By X.2.2.2.1 X.2.2.2.2 Y m_tb e_tb rfl 1 (by decide) (X.2.2.1 _ lk_H_81) (fun _ h9 => h9) rfl d_H_serve_63 ?_
    refine lv_aload_n X.1 X.2.1 d_H_serve_66 rfl (lv_at hl 1 rfl) ?_
    refine lv_aload_n X.1 X.2.1 d_H_serve_67 rfl (lv_at hl 1 rfl) ?_
    refine q_get X.1 X.2.1 X.2.2.1 i_Pr X.2.2.2.1 X.2.2.2.2 Y m_pr e_pr rfl 1 (by decide) (X.2.2.1 _ lk_H_240) (fun _ h9 => h9) rfl d_H_serve_68 ?_
    refine lv_bipush (v := (nI 11)) X.1 X.2.1 d_H_serve_71 (by decide) ?_
    refine x_i (x_runV (As := [.ref tb, .int (nI 0), .int (nI 0), .ref pr, .ref sno, .int (nI 11)]) (rest := []) (n := 6) X Y hml hl.1 (c_Ga_judge_empty l D E T L f H.size pr sno ((nI 11)) (4000) ga tb tr v gpo gqo gko (mst) g_tr m_ga m_tb m_tr e_ga e_tb e_tr f_tr) (ok_k X Y hA KS KR) m_ga e_ga rfl kl_H_Ga_judge ks_Ga_judge kx_Ga_judge ki_Ga_judge ini_Ga ⟨rfl, rfl⟩ hd_Ga_judge ⟨by decide, by decide⟩ rfl (Nat.le_of_ble_eq_true rfl) d_H_serve_73 ⟨(show 0 + 0 ≤ 0 by omega), (show 0 + (0) ≤ (0) by omega)⟩) X Y hA (fun r17 u H locs hp Y => ?_)
    obtain ⟨L19, f18⟩ := u
    obtain ⟨eL21, hF20, pr22⟩ := hp
    dsimp only at eL21 hF20 pr22 Y
    rw [eL21] at Y
    rw [show f18 = f from funext hF20] at Y
    refine t_eq pr22 ?_
    refine lv_istore (lv' := [(4, .int (nI 60)), (3, .int (nI 0)), (2, .ref pr), (0, .ref xo), (1, .int a1)]) X.1 X.2.1 d_H_serve_76 hl (by decide) rfl (fun ls hl => ?_)
    refine lv_iload X.1 X.2.1 d_H_serve_78 (lv_at hl 0 rfl) ?_
    refine lv_if_ne (tgt := 104) X.1 X.2.1 d_H_serve_80 (by decide) (fun c23 => ?_) (fun c23 => absurd c23 ?_)
    rotate_left
    · (rw [← nI_0, nI_eq (by omega) (by omega)] <;> omega)
    rw [← nI_0] at c23
    rw [nI_eq (by omega) (by omega)] at c23
    refine lv_aload_n X.1 X.2.1 d_H_serve_104 rfl (lv_at hl 3 rfl) ?_
    refine q_get X.1 X.2.1 X.2.2.1 i_H X.2.2.2.1 X.2.2.2.2 Y m_xo e_xo rfl 2 (by decide) (X.2.2.1 _ lk_H_25) (fun _ h9 => h9) rfl d_H_serve_105 ?_
    refine x_v (x_runV (As := []) (rest := []) (n := 0) X Y hml hl.1 (c_By_clear l D E L f H.size  sb sr (12288) (0) g_sr m_sb e_sb m_sr e_sr (by omega) (by omega) f_sr) (ok_c X Y) m_sb e_sb rfl kl_H_By_clear ks_By_clear kx_By_clear ki_By_clear ini_By ⟨rfl, rfl⟩ hd_By_clear ⟨by decide, by decide⟩ rfl (Nat.le_of_ble_eq_true rfl) d_H_serve_108 ⟨(show 0 + 0 ≤ 0 by omega), (show 0 + (0) ≤ (0) by omega)⟩) X Y hA (fun u H locs hp Y => ?_)
    obtain ⟨L25, f24⟩ := u
    obtain ⟨eL35, hF26, n27, g28, h30, h31, h32, e33, e34⟩ := hp
    dsimp only at eL35 hF26 e33 e34 Y
    rw [eL35] at Y
    have wh37 : wP 7 2 1 12 pr f24 (L) g_pa := wP_keep hw_wp (fun x9 h9 => h9) (fun x hx h0 ht => hF26 x (q_tn ht e_sb (show (3 : Nat) ≠ 7 by decide)) (q_tn ht e_sr (show (1000 : Nat) ≠ 7 by decide)))
    have wh38 : wP 9 1 0 8 sa f24 (L) g_sa := wP_keep hw_ws (fun x9 h9 => h9) (fun x hx h0 ht => hF26 x (q_tn ht e_sb (show (3 : Nat) ≠ 9 by decide)) (q_tn ht e_sr (show (1000 : Nat) ≠ 9 by decide)))
    have e39 : f24 xo = .inr (0, [.ref v, .ref tb, .ref sb, .ref qb, .ref pa, .ref ga, .ref ce, .ref aa, .ref sa]) := (hF26 xo (q_tag e_xo e_sb (show (0 : Nat) ≠ 3 by decide)) (q_tag e_xo e_sr (show (0 : Nat) ≠ 1000 by decide))).trans e_xo
    have e40 : f24 tb = .inr (3, [.ref tr, .int (nI 0)]) := (hF26 tb ap_tb_sb (q_tag e_tb e_sr (show (3 : Nat) ≠ 1000 by decide))).trans e_tb
    have e41 : f24 tr = .inl (E.1, 4000, .inl g_tr) := (hF26 tr (q_tag e_tr e_sb (show (1000 : Nat) ≠ 3 by decide)) ap_tr_sr).trans e_tr
    have e42 : f24 v = .inr (11, [.int now, .ref txo, .ref dro, .ref v_hash, .ref v_aes, .ref v_seed, .int ssz, .ref coo, .int cat, .int crw, .ref deo, .ref v_turned, .ref v_brief]) := (hF26 v (q_tag e_v e_sb (show (11 : Nat) ≠ 3 by decide)) (q_tag e_v e_sr (show (11 : Nat) ≠ 1000 by decide))).trans e_v
    have e43 : f24 ga = .inr (5, [.ref v, .ref gpo, .ref gqo, .ref gko, .int mst]) := (hF26 ga (q_tag e_ga e_sb (show (5 : Nat) ≠ 3 by decide)) (q_tag e_ga e_sr (show (5 : Nat) ≠ 1000 by decide))).trans e_ga
    have e44 : f24 pa = .inl (E.2.2.1, 12, .inr (.inr (.inr (.inr g_pa)))) := (hF26 pa (q_tag e_pa e_sb (show (1000 : Nat) ≠ 3 by decide)) ap_sr_pa.symm).trans e_pa
    have e45 : f24 pr = .inr (7, [.ref nb, .ref sno, .int (nI 1), .int (nI 1), .int prd, .ref l18, .ref l17, .ref d18, .ref d17, .int lif, .int ren, .int flg, .int xpy]) := (hF26 pr (q_tag e_pr e_sb (show (7 : Nat) ≠ 3 by decide)) (q_tag e_pr e_sr (show (7 : Nat) ≠ 1000 by decide))).trans e_pr
    have e46 : f24 nb = .inr (3, [.ref nr, .int (nI nn)]) := (hF26 nb ap_sb_nb.symm (q_tag e_nb e_sr (show (3 : Nat) ≠ 1000 by decide))).trans e_nb
    have e47 : f24 nr = .inl (E.1, 40, .inl g_nr) := (hF26 nr (q_tag e_nr e_sb (show (1000 : Nat) ≠ 3 by decide)) ap_sr_nr.symm).trans e_nr
    have e48 : f24 sa = .inl (E.2.2.2.2.1, 8, .inr (.inr (.inr (.inr g_sa)))) := (hF26 sa (q_tag e_sa e_sb (show (1000 : Nat) ≠ 3 by decide)) ap_sr_sa.symm).trans e_sa
    have hF49 : ∀ x, x ≠ sb → x ≠ sr → x ≠ tb → x ≠ tr → f24 x = f x := fun x h0 h1 h2 h3 => (hF26 x h0 h1).trans rfl
    refine lv_iload X.1 X.2.1 d_H_serve_111 (lv_at hl 0 rfl) ?_
    refine lv_if_eq (tgt := 126) X.1 X.2.1 d_H_serve_113 (by decide) (fun c50 => absurd c50 ?_) (fun c50 => ?_)
    · (rw [← nI_0, nI_eq (by omega) (by omega)] <;> omega)
    rw [← nI_0] at c50
    rw [nI_eq (by omega) (by omega)] at c50
    refine lv_aload_n X.1 X.2.1 d_H_serve_116 rfl (lv_at hl 3 rfl) ?_
    refine lv_aload_n X.1 X.2.1 d_H_serve_117 rfl (lv_at hl 2 rfl) ?_
    refine lv_iload X.1 X.2.1 d_H_serve_118 (lv_at hl 0 rfl) ?_
    refine x_v (x_runV (As := [.ref pr, .int (nI 60)]) (rest := []) (n := 2) X Y hml hl.1 (c_H_putRefusal l D E T L f24 H.size ((nI 60)) xo sb sr v pr nb nr tb qb pa ga ce aa sa txo dro v_hash v_aes v_seed coo deo v_turned v_brief sno l18 l17 d18 d17 (n27) (nn) (now) (ssz) (cat) (crw) (prd) (lif) (ren) (flg) (xpy) g28 g_nr m_xo m_sb m_sr m_v m_pr m_nb m_nr e39 e33 e34 e42 e45 e46 e47 h31 f_nr ap_sb_nb ap_sr_nr (by omega) (by omega)) (ok_k X Y hA KS KR) m_xo e39 rfl kl_H_H_putRefusal ks_H_putRefusal kx_H_putRefusal ki_H_putRefusal ini_H ⟨rfl, rfl⟩ hd_H_putRefusal ⟨by decide, by decide⟩ rfl (Nat.le_of_ble_eq_true rfl) d_H_serve_120 ⟨(show 0 + 0 ≤ 0 by omega), (show 0 + (0) ≤ (0) by omega)⟩) X Y hA (fun u H locs hp Y => ?_)
    obtain ⟨L53, f52⟩ := u
    obtain ⟨eL55, hF54, n57, g58, hg59, h60, e61, e62⟩ := hp
    dsimp only at eL55 hF54 e61 e62 Y
    rw [eL55] at Y
    have wh63 : wP 7 2 1 12 pr f52 (L) g_pa := wP_keep wh37 (fun x9 h9 => h9) (fun x hx h0 ht => hF54 x (q_tn ht e33 (show (3 : Nat) ≠ 7 by decide)) (q_tn ht e34 (show (1000 : Nat) ≠ 7 by decide)))
    have wh64 : wP 9 1 0 8 sa f52 (L) g_sa := wP_keep wh38 (fun x9 h9 => h9) (fun x hx h0 ht => hF54 x (q_tn ht e33 (show (3 : Nat) ≠ 9 by decide)) (q_tn ht e34 (show (1000 : Nat) ≠ 9 by decide)))
    have e65 : f52 xo = .inr (0, [.ref v, .ref tb, .ref sb, .ref qb, .ref pa, .ref ga, .ref ce, .ref aa, .ref sa]) := (hF54 xo (q_tag e39 e33 (show (0 : Nat) ≠ 3 by decide)) (q_tag e39 e34 (show (0 : Nat) ≠ 1000 by decide))).trans e39
    have e66 : f52 tb = .inr (3, [.ref tr, .int (nI 0)]) := (hF54 tb ap_tb_sb (q_tag e40 e34 (show (3 : Nat) ≠ 1000 by decide))).trans e40
    have e67 : f52 tr = .inl (E.1, 4000, .inl g_tr) := (hF54 tr (q_tag e41 e33 (show (1000 : Nat) ≠ 3 by decide)) ap_tr_sr).trans e41
    have e68 : f52 v = .inr (11, [.int now, .ref txo, .ref dro, .ref v_hash, .ref v_aes, .ref v_seed, .int ssz, .ref coo, .int cat, .int crw, .ref deo, .ref v_turned, .ref v_brief]) := (hF54 v (q_tag e42 e33 (show (11 : Nat) ≠ 3 by decide)) (q_tag e42 e34 (show (11 : Nat) ≠ 1000 by decide))).trans e42
    have e69 : f52 ga = .inr (5, [.ref v, .ref gpo, .ref gqo, .ref gko, .int mst]) := (hF54 ga (q_tag e43 e33 (show (5 : Nat) ≠ 3 by decide)) (q_tag e43 e34 (show (5 : Nat) ≠ 1000 by decide))).trans e43
    have e70 : f52 pa = .inl (E.2.2.1, 12, .inr (.inr (.inr (.inr g_pa)))) := (hF54 pa (q_tag e44 e33 (show (1000 : Nat) ≠ 3 by decide)) ap_sr_pa.symm).trans e44
    have e71 : f52 pr = .inr (7, [.ref nb, .ref sno, .int (nI 1), .int (nI 1), .int prd, .ref l18, .ref l17, .ref d18, .ref d17, .int lif, .int ren, .int flg, .int xpy]) := (hF54 pr (q_tag e45 e33 (show (7 : Nat) ≠ 3 by decide)) (q_tag e45 e34 (show (7 : Nat) ≠ 1000 by decide))).trans e45
    have e72 : f52 nb = .inr (3, [.ref nr, .int (nI nn)]) := (hF54 nb ap_sb_nb.symm (q_tag e46 e34 (show (3 : Nat) ≠ 1000 by decide))).trans e46
    have e73 : f52 nr = .inl (E.1, 40, .inl g_nr) := (hF54 nr (q_tag e47 e33 (show (1000 : Nat) ≠ 3 by decide)) ap_sr_nr.symm).trans e47
    have e74 : f52 sa = .inl (E.2.2.2.2.1, 8, .inr (.inr (.inr (.inr g_sa)))) := (hF54 sa (q_tag e48 e33 (show (1000 : Nat) ≠ 3 by decide)) ap_sr_sa.symm).trans e48
    have hF75 : ∀ x, x ≠ sb → x ≠ sr → x ≠ tb → x ≠ tr → f52 x = f x := fun x h0 h1 h2 h3 => (hF54 x h0 h1).trans (hF49 x h0 h1 h2 h3)
    refine lv_goto (tgt := 170) X.1 X.2.1 d_H_serve_123 (by decide) ?_
    refine lv_aload_n X.1 X.2.1 d_H_serve_170 rfl (lv_at hl 3 rfl) ?_
    refine q_get X.1 X.2.1 X.2.2.1 i_H X.2.2.2.1 X.2.2.2.2 Y m_xo e65 rfl 1 (by decide) (X.2.2.1 _ lk_H_21) (fun _ h9 => h9) rfl d_H_serve_171 ?_
    refine x_v (x_runV (As := []) (rest := []) (n := 0) X Y hml hl.1 (c_By_clear l D E L f52 H.size  tb tr (4000) (0) g_tr m_tb e66 m_tr e67 (by omega) (by omega) f_tr) (ok_c X Y) m_tb e66 rfl kl_H_By_clear ks_By_clear kx_By_clear ki_By_clear ini_By ⟨rfl, rfl⟩ hd_By_clear ⟨by decide, by decide⟩ rfl (Nat.le_of_ble_eq_true rfl) d_H_serve_174 ⟨(show 0 + 0 ≤ 0 by omega), (show 0 + (0) ≤ (0) by omega)⟩) X Y hA (fun u H locs hp Y => ?_)
    obtain ⟨L77, f76⟩ := u
    obtain ⟨eL87, hF78, n79, g80, h82, h83, h84, e85, e86⟩ := hp
    dsimp only at eL87 hF78 e85 e86 Y
    rw [eL87] at Y
    have wh89 : wP 7 2 1 12 pr f76 (L) g_pa := wP_keep wh63 (fun x9 h9 => h9) (fun x hx h0 ht => hF78 x (q_tn ht e66 (show (3 : Nat) ≠ 7 by decide)) (q_tn ht e67 (show (1000 : Nat) ≠ 7 by decide)))
    have wh90 : wP 9 1 0 8 sa f76 (L) g_sa := wP_keep wh64 (fun x9 h9 => h9) (fun x hx h0 ht => hF78 x (q_tn ht e66 (show (3 : Nat) ≠ 9 by decide)) (q_tn ht e67 (show (1000 : Nat) ≠ 9 by decide)))
    have e91 : f76 xo = .inr (0, [.ref v, .ref tb, .ref sb, .ref qb, .ref pa, .ref ga, .ref ce, .ref aa, .ref sa]) := (hF78 xo (q_tag e65 e66 (show (0 : Nat) ≠ 3 by decide)) (q_tag e65 e67 (show (0 : Nat) ≠ 1000 by decide))).trans e65
    have e92 : f76 sb = .inr (3, [.ref sr, .int (nI n57)]) := (hF78 sb ap_tb_sb.symm (q_tag e61 e67 (show (3 : Nat) ≠ 1000 by decide))).trans e61
    have e93 : f76 sr = .inl (E.1, 12288, .inl g58) := (hF78 sr (q_tag e62 e66 (show (1000 : Nat) ≠ 3 by decide)) ap_tr_sr.symm).trans e62
    have e94 : f76 v = .inr (11, [.int now, .ref txo, .ref dro, .ref v_hash, .ref v_aes, .ref v_seed, .int ssz, .ref coo, .int cat, .int crw, .ref deo, .ref v_turned, .ref v_brief]) := (hF78 v (q_tag e68 e66 (show (11 : Nat) ≠ 3 by decide)) (q_tag e68 e67 (show (11 : Nat) ≠ 1000 by decide))).trans e68
    have e95 : f76 ga = .inr (5, [.ref v, .ref gpo, .ref gqo, .ref gko, .int mst]) := (hF78 ga (q_tag e69 e66 (show (5 : Nat) ≠ 3 by decide)) (q_tag e69 e67 (show (5 : Nat) ≠ 1000 by decide))).trans e69
    have e96 : f76 pa = .inl (E.2.2.1, 12, .inr (.inr (.inr (.inr g_pa)))) := (hF78 pa (q_tag e70 e66 (show (1000 : Nat) ≠ 3 by decide)) ap_tr_pa.symm).trans e70
    have e97 : f76 pr = .inr (7, [.ref nb, .ref sno, .int (nI 1), .int (nI 1), .int prd, .ref l18, .ref l17, .ref d18, .ref d17, .int lif, .int ren, .int flg, .int xpy]) := (hF78 pr (q_tag e71 e66 (show (7 : Nat) ≠ 3 by decide)) (q_tag e71 e67 (show (7 : Nat) ≠ 1000 by decide))).trans e71
    have e98 : f76 nb = .inr (3, [.ref nr, .int (nI nn)]) := (hF78 nb ap_tb_nb.symm (q_tag e72 e67 (show (3 : Nat) ≠ 1000 by decide))).trans e72
    have e99 : f76 nr = .inl (E.1, 40, .inl g_nr) := (hF78 nr (q_tag e73 e66 (show (1000 : Nat) ≠ 3 by decide)) ap_tr_nr.symm).trans e73
    have e100 : f76 sa = .inl (E.2.2.2.2.1, 8, .inr (.inr (.inr (.inr g_sa)))) := (hF78 sa (q_tag e74 e66 (show (1000 : Nat) ≠ 3 by decide)) ap_tr_sa.symm).trans e74
    have hF101 : ∀ x, x ≠ sb → x ≠ sr → x ≠ tb → x ≠ tr → f76 x = f x := fun x h0 h1 h2 h3 => (hF78 x h2 h3).trans (hF75 x h0 h1 h2 h3)
    refine lv_iload X.1 X.2.1 d_H_serve_177 (lv_at hl 0 rfl) ?_
    refine lv_if_ne (tgt := 186) X.1 X.2.1 d_H_serve_179 (by decide) (fun c102 => ?_) (fun c102 => absurd c102 ?_)
    rotate_left
    · (rw [← nI_0, nI_eq (by omega) (by omega)] <;> omega)
    rw [← nI_0] at c102
    rw [nI_eq (by omega) (by omega)] at c102
    refine lv_iload X.1 X.2.1 d_H_serve_186 (lv_at hl 0 rfl) ?_
    refine lv_ineg X.1 X.2.1 d_H_serve_188 ?_
    exact c_reti hQQ X Y hr hlk ⟨rfl, hF101, (n57), (n79), g58, g80, hg59, h83, e92, e93, e85, e86, (by first | (rw [if_pos ha1]; decide) | rw [if_neg ha1])⟩ d_H_serve_189
  · skip
    refine t_eq hr1 ?_
    refine lv_if_ne (tgt := 17) X.1 X.2.1 d_H_serve_5 (by decide) (fun c103 => absurd c103 ?_) (fun c103 => ?_)
    · (rw [← nI_0, nI_eq (by omega) (by omega)] <;> omega)
    rw [← nI_0] at c103
    rw [nI_eq (by omega) (by omega)] at c103
    refine lv_aload_n X.1 X.2.1 d_H_serve_8 rfl (lv_at hl 0 rfl) ?_
    refine q_get X.1 X.2.1 X.2.2.1 i_H X.2.2.2.1 X.2.2.2.2 Y m_xo e_xo rfl 1 (by decide) (X.2.2.1 _ lk_H_21) (fun _ h9 => h9) rfl d_H_serve_9 ?_
    refine x_v (x_runV (As := []) (rest := []) (n := 0) X Y hml hl.1 (c_By_clear l D E L f H.size  tb tr (4000) (0) g_tr m_tb e_tb m_tr e_tr (by omega) (by omega) f_tr) (ok_c X Y) m_tb e_tb rfl kl_H_By_clear ks_By_clear kx_By_clear ki_By_clear ini_By ⟨rfl, rfl⟩ hd_By_clear ⟨by decide, by decide⟩ rfl (Nat.le_of_ble_eq_true rfl) d_H_serve_12 ⟨(show 0 + 0 ≤ 0 by omega), (show 0 + (0) ≤ (0) by omega)⟩) X Y hA (fun u H locs hp Y => ?_)
    obtain ⟨L105, f104⟩ := u
    obtain ⟨eL115, hF106, n107, g108, h110, h111, h112, e113, e114⟩ := hp
    dsimp only at eL115 hF106 e113 e114 Y
    rw [eL115] at Y
    have wh117 : wP 7 2 1 12 pr f104 (L) g_pa := wP_keep hw_wp (fun x9 h9 => h9) (fun x hx h0 ht => hF106 x (q_tn ht e_tb (show (3 : Nat) ≠ 7 by decide)) (q_tn ht e_tr (show (1000 : Nat) ≠ 7 by decide)))
    have wh118 : wP 9 1 0 8 sa f104 (L) g_sa := wP_keep hw_ws (fun x9 h9 => h9) (fun x hx h0 ht => hF106 x (q_tn ht e_tb (show (3 : Nat) ≠ 9 by decide)) (q_tn ht e_tr (show (1000 : Nat) ≠ 9 by decide)))
    have e119 : f104 xo = .inr (0, [.ref v, .ref tb, .ref sb, .ref qb, .ref pa, .ref ga, .ref ce, .ref aa, .ref sa]) := (hF106 xo (q_tag e_xo e_tb (show (0 : Nat) ≠ 3 by decide)) (q_tag e_xo e_tr (show (0 : Nat) ≠ 1000 by decide))).trans e_xo
    have e120 : f104 sb = .inr (3, [.ref sr, .int (nI 0)]) := (hF106 sb ap_tb_sb.symm (q_tag e_sb e_tr (show (3 : Nat) ≠ 1000 by decide))).trans e_sb
    have e121 : f104 sr = .inl (E.1, 12288, .inl g_sr) := (hF106 sr (q_tag e_sr e_tb (show (1000 : Nat) ≠ 3 by decide)) ap_tr_sr.symm).trans e_sr
    have e122 : f104 v = .inr (11, [.int now, .ref txo, .ref dro, .ref v_hash, .ref v_aes, .ref v_seed, .int ssz, .ref coo, .int cat, .int crw, .ref deo, .ref v_turned, .ref v_brief]) := (hF106 v (q_tag e_v e_tb (show (11 : Nat) ≠ 3 by decide)) (q_tag e_v e_tr (show (11 : Nat) ≠ 1000 by decide))).trans e_v
    have e123 : f104 ga = .inr (5, [.ref v, .ref gpo, .ref gqo, .ref gko, .int mst]) := (hF106 ga (q_tag e_ga e_tb (show (5 : Nat) ≠ 3 by decide)) (q_tag e_ga e_tr (show (5 : Nat) ≠ 1000 by decide))).trans e_ga
    have e124 : f104 pa = .inl (E.2.2.1, 12, .inr (.inr (.inr (.inr g_pa)))) := (hF106 pa (q_tag e_pa e_tb (show (1000 : Nat) ≠ 3 by decide)) ap_tr_pa.symm).trans e_pa
    have e125 : f104 pr = .inr (7, [.ref nb, .ref sno, .int (nI 1), .int (nI 1), .int prd, .ref l18, .ref l17, .ref d18, .ref d17, .int lif, .int ren, .int flg, .int xpy]) := (hF106 pr (q_tag e_pr e_tb (show (7 : Nat) ≠ 3 by decide)) (q_tag e_pr e_tr (show (7 : Nat) ≠ 1000 by decide))).trans e_pr
    have e126 : f104 nb = .inr (3, [.ref nr, .int (nI nn)]) := (hF106 nb ap_tb_nb.symm (q_tag e_nb e_tr (show (3 : Nat) ≠ 1000 by decide))).trans e_nb
    have e127 : f104 nr = .inl (E.1, 40, .inl g_nr) := (hF106 nr (q_tag e_nr e_tb (show (1000 : Nat) ≠ 3 by decide)) ap_tr_nr.symm).trans e_nr
    have e128 : f104 sa = .inl (E.2.2.2.2.1, 8, .inr (.inr (.inr (.inr g_sa)))) := (hF106 sa (q_tag e_sa e_tb (show (1000 : Nat) ≠ 3 by decide)) ap_tr_sa.symm).trans e_sa
    have hF129 : ∀ x, x ≠ sb → x ≠ sr → x ≠ tb → x ≠ tr → f104 x = f x := fun x h0 h1 h2 h3 => (hF106 x h2 h3).trans rfl
    refine lv_iconst (v := (-1)) X.1 X.2.1 d_H_serve_15 (by decide) ?_
    exact c_reti hQQ X Y hr hlk ⟨rfl, hF129, (0), (n107), g_sr, g108, f_sr, h111, e120, e121, e113, e114, (by first | (rw [if_pos ha1]; decide) | rw [if_neg ha1])⟩ d_H_serve_16
