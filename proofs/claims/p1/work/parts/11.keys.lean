set_option maxHeartbeats 4000000 in
set_option maxRecDepth 100000 in
theorem c_setKeys (l : Launch) (D : mD) (E : mE) (h : Nat) (q : Nat → Nat) (sz : Nat) (I : Nat → Int32) (J : Nat → Int64) (B : Nat → Nat → Int32) (G : Nat → Nat → Int64) (p0 cnt v ns pm : Nat) (hp0 : p0 < 12) (hc1 : 1 ≤ cnt) (hc2 : cnt ≤ 200) (hv : B 46 p0 = nI v) (hv2 : v < 1000000) (hns : B 45 p0 = nI ns) (hns2 : ns ≤ 40) (hpm : I 30 = nI pm) (hpm2 : pm ≤ 20) (y12 : by8 (B 12)) (y13 : by8 (B 13)) (y16 : by8 (B 16)) (y17 : by8 (B 17)) : Met l y_setKeys (k_setKeys :: lw_tg) (mR 6 148) (va_Pc [.ref h, .int (nI p0), .int (nI cnt)] (mPre D E h q (I, J, B, G) sz)) (va_Qv (fun (u : mS) => (∀ j, j ≠ 8 → j ≠ 14 → j ≠ 18 → j ≠ 29 → u.1 j = I j) ∧ u.2.1 = J ∧ (∀ j, j ≠ 5 → j ≠ 6 → j ≠ 7 → j ≠ 9 → j ≠ 10 → j ≠ 11 → j ≠ 12 → j ≠ 13 → j ≠ 15 → j ≠ 16 → j ≠ 17 → j ≠ 19 → j ≠ 20 → j ≠ 21 → j ≠ 24 → j ≠ 26 → j ≠ 27 → j ≠ 46 → j ≠ 47 → j ≠ 52 → j ≠ 56 → u.2.2.1 j = B j) ∧ u.2.2.2 = G ∧ by8 (u.2.2.1 12) ∧ by8 (u.2.2.1 13) ∧ by8 (u.2.2.1 16) ∧ by8 (u.2.2.1 17) ∧ (u.2.2.1 46 p0 = nI (v + 1))) (mPost D E h q (mA E h q sz)) (mA E h q sz)) 0 0 (mA E h q sz) := by
  refine m_enter (by decide) rfl (Nat.le_of_ble_eq_true rfl) (fun p e s m below meth c ls AV QQ H locs hQQ X Y hZ hA hr hlk hml hl => ?_)
  have Y : mH D E (mA E h q sz) s.heap h q I J B G H locs := Y
  have hl : lv_has ls 5 [(0, .ref h), (1, .int (nI p0)), (2, .int (nI cnt))] := hl
  refine lv_aload_n X.1 X.2.1 d_setKeys_0 rfl (lv_at hl 0 rfl) ?_
  refine m_get X Y 46 (by decide) lk_versions (gf_versions _ _ _) rfl d_setKeys_1 ?_
  refine lv_iload_n X.1 X.2.1 d_setKeys_4 rfl (lv_at hl 1 rfl) ?_
  refine lv_dup2_11 X.1 X.2.1 d_setKeys_5 rfl rfl ?_
  refine m_iald X Y (aw_versions _ _ _ _ _ _ _) (vp_in_nI (by omega) (by decide)) d_setKeys_6 ?_
  refine t_eq (show B 46 ((nI p0)).toNatClampNeg = nI (v) from (by rw [nI_clamp (by omega)]; exact hv)) ?_
  refine lv_iconst (v := (nI 1)) X.1 X.2.1 d_setKeys_7 (by decide) ?_
  refine lv_iadd X.1 X.2.1 d_setKeys_8 ?_
  refine t_eq (y := nI (v + 1)) (nI_add _ _) ?_
  refine m_iast X Y (aw_versions _ _ _ _ _ _ _) (vp_in_nI (by omega) (by decide)) (sw_versions _ _ _ _ _ _ _ _) d_setKeys_9 (fun H locs Y => ?_)
  have g2 : (upd (B 46) ((nI p0)).toNatClampNeg (nI (v + 1))) p0 = nI (v + 1) := (by rw [nI_clamp (by omega)]; exact pk_us)
  generalize (upd (B 46) ((nI p0)).toNatClampNeg (nI (v + 1))) = f1 at Y g2
  refine lv_aload_n X.1 X.2.1 d_setKeys_10 rfl (lv_at hl 0 rfl) ?_
  refine m_get X Y 47 (by decide) lk_counts (gf_counts _ _ _) rfl d_setKeys_11 ?_
  refine lv_iload_n X.1 X.2.1 d_setKeys_14 rfl (lv_at hl 1 rfl) ?_
  refine lv_iload_n X.1 X.2.1 d_setKeys_15 rfl (lv_at hl 2 rfl) ?_
  refine m_iast X Y (aw_counts _ _ _ _ _ _ _) (vp_in_nI (by omega) (by decide)) (sw_counts _ _ _ _ _ _ _ _) d_setKeys_16 (fun H locs Y => ?_)
  generalize (upd ((upB B 46 f1) 47) ((nI p0)).toNatClampNeg (nI cnt)) = f3 at Y
  refine lv_aload_n X.1 X.2.1 d_setKeys_17 rfl (lv_at hl 0 rfl) ?_
  refine lv_aload_n X.1 X.2.1 d_setKeys_18 rfl (lv_at hl 0 rfl) ?_
  refine m_get X Y 44 (by decide) lk_names (gf_names _ _ _) rfl d_setKeys_19 ?_
  refine lv_bipush (v := (nI 40)) X.1 X.2.1 d_setKeys_22 (by decide) ?_
  refine lv_iload_n X.1 X.2.1 d_setKeys_24 rfl (lv_at hl 1 rfl) ?_
  refine lv_imul X.1 X.2.1 d_setKeys_25 ?_
  refine t_eq (y := nI ((40) * (p0))) (pk_mul _ _) ?_
  refine lv_aload_n X.1 X.2.1 d_setKeys_26 rfl (lv_at hl 0 rfl) ?_
  refine m_get X Y 45 (by decide) lk_nameSizes (gf_nameSizes _ _ _) rfl d_setKeys_27 ?_
  refine lv_iload_n X.1 X.2.1 d_setKeys_30 rfl (lv_at hl 1 rfl) ?_
  refine m_iald X Y (aw_nameSizes _ _ _ _ _ _ _) (vp_in_nI (by omega) (by decide)) d_setKeys_31 ?_
  refine t_eq (show (upB (upB B 46 f1) 47 f3) 45 ((nI p0)).toNatClampNeg = nI (ns) from (by rw [nI_clamp (by omega)]; exact hns)) ?_
  refine m_callv (As := [.ref (q 44), .int (nI ((40) * (p0))), .int (nI (ns))]) (rest := []) (n := 3) X Y hZ hA hml hl.1 (c_saltOf_names l D E h q H.size I J (upB (upB B 46 f1) 47 f3) G ((40) * (p0)) (ns) (by omega) (by omega)) kl_saltOf ks_saltOf kx_saltOf ki_saltOf ini_M hd_saltOf ⟨by decide, by decide⟩ rfl (Nat.le_of_ble_eq_true rfl) d_setKeys_32 ⟨Nat.le_refl _, Nat.le_refl _⟩ (fun u H locs hp Y => ?_)
  obtain ⟨I4, J5, B6, G7⟩ := u
  obtain ⟨hI8, eJ10, hB9, eG11, hx13⟩ := hp
  dsimp only at hI8 eJ10 hB9 eG11 hx13 Y
  rw [eJ10, eG11] at Y
  have hI14 : (∀ j, j ≠ 8 → j ≠ 14 → j ≠ 18 → j ≠ 29 → I4 j = I j) := fun j h8 h14 h18 h29 => (hI8 j h29).trans ((fun j h8 h14 h18 h29 => rfl) j h8 h14 h18 h29)
  have hB15 : (∀ j, j ≠ 5 → j ≠ 6 → j ≠ 7 → j ≠ 9 → j ≠ 10 → j ≠ 11 → j ≠ 12 → j ≠ 13 → j ≠ 15 → j ≠ 16 → j ≠ 17 → j ≠ 19 → j ≠ 20 → j ≠ 21 → j ≠ 24 → j ≠ 26 → j ≠ 27 → j ≠ 46 → j ≠ 47 → j ≠ 52 → j ≠ 56 → B6 j = B j) := fun j h5 h6 h7 h9 h10 h11 h12 h13 h15 h16 h17 h19 h20 h21 h24 h26 h27 h46 h47 h52 h56 => (hB9 j h24).trans ((fun j h5 h6 h7 h9 h10 h11 h12 h13 h15 h16 h17 h19 h20 h21 h24 h26 h27 h46 h47 h52 h56 => ((if_neg h47).trans ((if_neg h46).trans rfl))) j h5 h6 h7 h9 h10 h11 h12 h13 h15 h16 h17 h19 h20 h21 h24 h26 h27 h46 h47 h52 h56)
  have ga16 : (B6 46) p0 = nI (v + 1) := by rw [hB9 46 (by decide)]; exact (show ((upB (upB B 46 f1) 47 f3) 46) p0 = nI (v + 1) from g2)
  obtain ⟨sm, hsm1, hsm2⟩ := hx13
  refine lv_iconst (v := (nI 0)) X.1 X.2.1 d_setKeys_35 (by decide) ?_
  refine lv_istore_n (lv' := [(3, .int (nI 0)), (0, .ref h), (1, .int (nI p0)), (2, .int (nI cnt))]) X.1 X.2.1 d_setKeys_36 rfl hl (by decide) rfl (fun ls hl => ?_)
  have lp20 : ∀ (n17 i18 : Nat) (I21 : Nat → Int32) (B22 : Nat → Nat → Int32) (H : Heap) (locs : List Loc) (ls : Array Slot), i18 + n17 = 2 → 0 ≤ i18 → (∀ j, j ≠ 5 → j ≠ 6 → j ≠ 7 → j ≠ 9 → j ≠ 10 → j ≠ 11 → j ≠ 12 → j ≠ 13 → j ≠ 15 → j ≠ 16 → j ≠ 17 → j ≠ 19 → j ≠ 20 → j ≠ 21 → j ≠ 24 → j ≠ 26 → j ≠ 27 → j ≠ 46 → j ≠ 47 → j ≠ 52 → j ≠ 56 → B22 j = B j) → (∀ j, j ≠ 8 → j ≠ 14 → j ≠ 18 → j ≠ 29 → I21 j = I j) → by8 (B22 12) → by8 (B22 13) → by8 (B22 16) → by8 (B22 17) → (B22 46) p0 = nI (v + 1) → I21 30 = nI (pm) → I21 29 = nI (sm) → mH D E (mA E h q sz) s.heap h q I21 J B22 G H locs → lv_has ls 5 [(3, .int (nI i18)), (0, .ref h), (1, .int (nI p0)), (2, .int (nI cnt))] → W p l e (mR 6 148) s m AV below meth c H locs 0 0 QQ (F0 m 37 ls []) := by
    intro n17
    induction n17 with
    | zero =>
      intro i18 I21 B22 H locs ls hii18 hsi18 hB23 hI24 y25 y26 y27 y28 g29 hk30 hk31  Y hl
      refine lv_iload_n X.1 X.2.1 d_setKeys_37 rfl (lv_at hl 0 rfl) ?_
      refine lv_iconst (v := (nI 2)) X.1 X.2.1 d_setKeys_38 (by decide) ?_
      refine lv_icmp_ge (tgt := 133) X.1 X.2.1 d_setKeys_39 (by decide) (fun c32 => ?_) (fun c32 => absurd ?_ c32)
      rotate_left
      · (rw [nI_leI (by omega) (by omega)] <;> omega)
      rw [nI_leI (by omega) (by omega)] at c32
      exact m_retv hQQ X Y hr hlk ⟨(fun j h8 h14 h18 h29 => (hI24 j h8 h14 h18 h29)), rfl, (fun j h5 h6 h7 h9 h10 h11 h12 h13 h15 h16 h17 h19 h20 h21 h24 h26 h27 h46 h47 h52 h56 => (hB23 j h5 h6 h7 h9 h10 h11 h12 h13 h15 h16 h17 h19 h20 h21 h24 h26 h27 h46 h47 h52 h56)), rfl, (show by8 (B22 12) from y25), (show by8 (B22 13) from y26), (show by8 (B22 16) from y27), (show by8 (B22 17) from y28), (show B22 46 p0 = nI (v + 1) from g29)⟩ d_setKeys_133
    | succ n17 ih19 =>
      intro i18 I21 B22 H locs ls hii18 hsi18 hB23 hI24 y25 y26 y27 y28 g29 hk30 hk31  Y hl
      refine lv_iload_n X.1 X.2.1 d_setKeys_37 rfl (lv_at hl 0 rfl) ?_
      refine lv_iconst (v := (nI 2)) X.1 X.2.1 d_setKeys_38 (by decide) ?_
      refine lv_icmp_ge (tgt := 133) X.1 X.2.1 d_setKeys_39 (by decide) (fun c33 => absurd c33 ?_) (fun c33 => ?_)
      · (rw [nI_leI (by omega) (by omega)] <;> omega)
      rw [nI_leI (by omega) (by omega)] at c33
      refine lv_aload_n X.1 X.2.1 d_setKeys_42 rfl (lv_at hl 1 rfl) ?_
      refine lv_iload_n X.1 X.2.1 d_setKeys_43 rfl (lv_at hl 0 rfl) ?_
      refine lv_if_ne (tgt := 52) X.1 X.2.1 d_setKeys_44 (by decide) (fun c34 => ?_) (fun c34 => ?_)
      · skip
        rw [← nI_0] at c34
        rw [nI_eq (by omega) (by omega)] at c34
        refine lv_bipush (v := (nI 32)) X.1 X.2.1 d_setKeys_52 (by decide) ?_
        refine lv_iload_n X.1 X.2.1 d_setKeys_54 rfl (lv_at hl 3 rfl) ?_
        refine lv_aload_n X.1 X.2.1 d_setKeys_55 rfl (lv_at hl 1 rfl) ?_
        refine m_get X Y 56 (by decide) lk_made (gf_made _ _ _) rfl d_setKeys_56 ?_
        refine m_callv (As := [.int (nI 32), .int (nI cnt), .ref (q 56)]) (rest := []) (n := 3) X Y hZ hA hml hl.1 (c_passwordKey_32 l D E h q H.size I21 J B22 G (cnt) (pm) (sm) (by omega) (by omega) hk30 (by omega) hk31 (by omega) (show by8 (B22 12) from y25) (show by8 (B22 13) from y26) (show by8 (B22 16) from y27) (show by8 (B22 17) from y28)) kl_passwordKey ks_passwordKey kx_passwordKey ki_passwordKey ini_M hd_passwordKey ⟨by decide, by decide⟩ rfl (Nat.le_of_ble_eq_true rfl) d_setKeys_59 ⟨Nat.le_refl _, Nat.le_refl _⟩ (fun u H locs hp Y => ?_)
        obtain ⟨I35, J36, B37, G38⟩ := u
        obtain ⟨hI39, eJ41, hB40, eG42, y44, y45, y46, y47⟩ := hp
        dsimp only at hI39 eJ41 hB40 eG42 y44 y45 y46 y47 Y
        rw [eJ41, eG42] at Y
        have hI48 : (∀ j, j ≠ 8 → j ≠ 14 → j ≠ 18 → j ≠ 29 → I35 j = I j) := fun j h8 h14 h18 h29 => (hI39 j h8 h14 h18).trans ((fun j h8 h14 h18 h29 => (hI24 j h8 h14 h18 h29)) j h8 h14 h18 h29)
        have hB49 : (∀ j, j ≠ 5 → j ≠ 6 → j ≠ 7 → j ≠ 9 → j ≠ 10 → j ≠ 11 → j ≠ 12 → j ≠ 13 → j ≠ 15 → j ≠ 16 → j ≠ 17 → j ≠ 19 → j ≠ 20 → j ≠ 21 → j ≠ 24 → j ≠ 26 → j ≠ 27 → j ≠ 46 → j ≠ 47 → j ≠ 52 → j ≠ 56 → B37 j = B j) := fun j h5 h6 h7 h9 h10 h11 h12 h13 h15 h16 h17 h19 h20 h21 h24 h26 h27 h46 h47 h52 h56 => (hB40 j h5 h6 h7 h9 h10 h11 h12 h13 h15 h16 h17 h19 h20 h21 h26 h27 h56).trans ((fun j h5 h6 h7 h9 h10 h11 h12 h13 h15 h16 h17 h19 h20 h21 h24 h26 h27 h46 h47 h52 h56 => (hB23 j h5 h6 h7 h9 h10 h11 h12 h13 h15 h16 h17 h19 h20 h21 h24 h26 h27 h46 h47 h52 h56)) j h5 h6 h7 h9 h10 h11 h12 h13 h15 h16 h17 h19 h20 h21 h24 h26 h27 h46 h47 h52 h56)
        have ga50 : (B37 46) p0 = nI (v + 1) := by rw [hB40 46 (by decide) (by decide) (by decide) (by decide) (by decide) (by decide) (by decide) (by decide) (by decide) (by decide) (by decide) (by decide) (by decide) (by decide) (by decide) (by decide) (by decide)]; exact (show (B22 46) p0 = nI (v + 1) from g29)
        refine lv_iconst (v := (nI 0)) X.1 X.2.1 d_setKeys_62 (by decide) ?_
        refine lv_istore (lv' := [(4, .int (nI 0)), (3, .int (nI i18)), (0, .ref h), (1, .int (nI p0)), (2, .int (nI cnt))]) X.1 X.2.1 d_setKeys_63 hl (by decide) rfl (fun ls hl => ?_)
        have lp54 : ∀ (n51 i52 : Nat) (B55 : Nat → Nat → Int32) (H : Heap) (locs : List Loc) (ls : Array Slot), i52 + n51 = 32 → 0 ≤ i52 → (∀ j, j ≠ 5 → j ≠ 6 → j ≠ 7 → j ≠ 9 → j ≠ 10 → j ≠ 11 → j ≠ 12 → j ≠ 13 → j ≠ 15 → j ≠ 16 → j ≠ 17 → j ≠ 19 → j ≠ 20 → j ≠ 21 → j ≠ 24 → j ≠ 26 → j ≠ 27 → j ≠ 46 → j ≠ 47 → j ≠ 52 → j ≠ 56 → B55 j = B j) → by8 (B55 12) → by8 (B55 13) → by8 (B55 16) → by8 (B55 17) → (B55 46) p0 = nI (v + 1) → mH D E (mA E h q sz) s.heap h q I35 J B55 G H locs → lv_has ls 5 [(4, .int (nI i52)), (3, .int (nI i18)), (0, .ref h), (1, .int (nI p0)), (2, .int (nI cnt))] → W p l e (mR 6 148) s m AV below meth c H locs 0 0 QQ (F0 m 65 ls []) := by
          intro n51
          induction n51 with
          | zero =>
            intro i52 B55 H locs ls hii52 hsi52 hB56 y57 y58 y59 y60 g61  Y hl
            refine lv_iload X.1 X.2.1 d_setKeys_65 (lv_at hl 0 rfl) ?_
            refine lv_bipush (v := (nI 32)) X.1 X.2.1 d_setKeys_67 (by decide) ?_
            refine lv_icmp_ge (tgt := 127) X.1 X.2.1 d_setKeys_69 (by decide) (fun c62 => ?_) (fun c62 => absurd ?_ c62)
            rotate_left
            · (rw [nI_leI (by omega) (by omega)] <;> omega)
            rw [nI_leI (by omega) (by omega)] at c62
            refine lv_iinc (v := (nI (i18 + 1))) (lv' := [(3, .int (nI (i18 + 1))), (4, .int (nI i52)), (0, .ref h), (1, .int (nI p0)), (2, .int (nI cnt))]) X.1 X.2.1 d_setKeys_127 hl (k := 1) rfl (nI_add _ 1) (by decide) rfl (fun ls hl => ?_)
            refine lv_goto (tgt := 37) X.1 X.2.1 d_setKeys_130 (by decide) ?_
            exact ih19 (i18 + 1) I35 B55 _ _ _ (by omega) (by omega) (fun j h5 h6 h7 h9 h10 h11 h12 h13 h15 h16 h17 h19 h20 h21 h24 h26 h27 h46 h47 h52 h56 => (hB56 j h5 h6 h7 h9 h10 h11 h12 h13 h15 h16 h17 h19 h20 h21 h24 h26 h27 h46 h47 h52 h56)) (fun j h8 h14 h18 h29 => (hI48 j h8 h14 h18 h29)) (show by8 (B55 12) from y57) (show by8 (B55 13) from y58) (show by8 (B55 16) from y59) (show by8 (B55 17) from y60) (show (B55 46) p0 = nI (v + 1) from g61) ((show I35 30 = nI (pm) from ((hI39 30 (by decide) (by decide) (by decide)).trans hk30)).trans (congrArg nI (show (pm : Nat) = pm by omega))) ((show I35 29 = nI (sm) from ((hI39 29 (by decide) (by decide) (by decide)).trans hk31)).trans (congrArg nI (show (sm : Nat) = sm by omega)))  Y (lv_sub hl [0, 2, 3, 4] rfl)
          | succ n51 ih53 =>
            intro i52 B55 H locs ls hii52 hsi52 hB56 y57 y58 y59 y60 g61  Y hl
            refine lv_iload X.1 X.2.1 d_setKeys_65 (lv_at hl 0 rfl) ?_
            refine lv_bipush (v := (nI 32)) X.1 X.2.1 d_setKeys_67 (by decide) ?_
            refine lv_icmp_ge (tgt := 127) X.1 X.2.1 d_setKeys_69 (by decide) (fun c63 => absurd c63 ?_) (fun c63 => ?_)
            · (rw [nI_leI (by omega) (by omega)] <;> omega)
            rw [nI_leI (by omega) (by omega)] at c63
            refine lv_aload_n X.1 X.2.1 d_setKeys_72 rfl (lv_at hl 2 rfl) ?_
            refine m_get X Y 52 (by decide) lk_keys (gf_keys _ _ _) rfl d_setKeys_73 ?_
            refine lv_bipush (v := (nI 32)) X.1 X.2.1 d_setKeys_76 (by decide) ?_
            refine lv_iconst (v := (nI 4)) X.1 X.2.1 d_setKeys_78 (by decide) ?_
            refine lv_iload_n X.1 X.2.1 d_setKeys_79 rfl (lv_at hl 3 rfl) ?_
            refine lv_imul X.1 X.2.1 d_setKeys_80 ?_
            refine t_eq (y := nI ((4) * (p0))) (pk_mul _ _) ?_
            refine lv_iconst (v := (nI 2)) X.1 X.2.1 d_setKeys_81 (by decide) ?_
            refine lv_aload_n X.1 X.2.1 d_setKeys_82 rfl (lv_at hl 2 rfl) ?_
            refine m_get X Y 46 (by decide) lk_versions (gf_versions _ _ _) rfl d_setKeys_83 ?_
            refine lv_iload_n X.1 X.2.1 d_setKeys_86 rfl (lv_at hl 3 rfl) ?_
            refine m_iald X Y (aw_versions _ _ _ _ _ _ _) (vp_in_nI (by omega) (by decide)) d_setKeys_87 ?_
            refine t_eq (show B55 46 ((nI p0)).toNatClampNeg = nI (v + 1) from (by rw [nI_clamp (by omega)]; exact g61)) ?_
            refine lv_iconst (v := (nI 2)) X.1 X.2.1 d_setKeys_88 (by decide) ?_
            refine lv_irem X.1 X.2.1 d_setKeys_89 (nI_ne0 (by omega) (by omega)) ?_
            refine t_eq (y := nI ((v + 1) % (2))) (pk_rem (by omega) (by omega) (by omega)) ?_
            refine lv_imul X.1 X.2.1 d_setKeys_90 ?_
            refine t_eq (y := nI ((2) * ((v + 1) % (2)))) (pk_mul _ _) ?_
            refine lv_iadd X.1 X.2.1 d_setKeys_91 ?_
            refine t_eq (y := nI ((4) * (p0) + (2) * ((v + 1) % (2)))) (nI_add _ _) ?_
            refine lv_iload_n X.1 X.2.1 d_setKeys_92 rfl (lv_at hl 1 rfl) ?_
            refine lv_iadd X.1 X.2.1 d_setKeys_93 ?_
            refine t_eq (y := nI ((4) * (p0) + (2) * ((v + 1) % (2)) + i18)) (nI_add _ _) ?_
            refine lv_imul X.1 X.2.1 d_setKeys_94 ?_
            refine t_eq (y := nI ((32) * ((4) * (p0) + (2) * ((v + 1) % (2)) + i18))) (pk_mul _ _) ?_
            refine lv_iload X.1 X.2.1 d_setKeys_95 (lv_at hl 0 rfl) ?_
            refine lv_iadd X.1 X.2.1 d_setKeys_97 ?_
            refine t_eq (y := nI ((32) * ((4) * (p0) + (2) * ((v + 1) % (2)) + i18) + i52)) (nI_add _ _) ?_
            have jn65 : ∀ w64 : Int32, W p l e (mR 6 148) s m AV below meth c H locs 0 0 QQ (F0 m 120 ls [.int w64, .int (nI ((32) * ((4) * (p0) + (2) * ((v + 1) % (2)) + i18) + i52)), .ref (q 52)]) := by
              intro w64
              refine m_bast X Y (aw_keys _ _ _ _ _ _ _) (vp_in_nI (by omega) (by decide)) (sw_keys _ _ _ _ _ _ _ _) d_setKeys_120 (fun H locs Y => ?_)
              generalize (upd (B55 52) ((nI ((32) * ((4) * (p0) + (2) * ((v + 1) % (2)) + i18) + i52))).toNatClampNeg (vp_nar .byte w64)) = f66 at Y
              refine lv_iinc (v := (nI (i52 + 1))) (lv' := [(4, .int (nI (i52 + 1))), (3, .int (nI i18)), (0, .ref h), (1, .int (nI p0)), (2, .int (nI cnt))]) X.1 X.2.1 d_setKeys_121 hl (k := 0) rfl (nI_add _ 1) (by decide) rfl (fun ls hl => ?_)
              refine lv_goto (tgt := 65) X.1 X.2.1 d_setKeys_124 (by decide) ?_
              exact ih53 (i52 + 1) (upB B55 52 f66) _ _ _ (by omega) (by omega) (fun j h5 h6 h7 h9 h10 h11 h12 h13 h15 h16 h17 h19 h20 h21 h24 h26 h27 h46 h47 h52 h56 => ((if_neg h52).trans (hB56 j h5 h6 h7 h9 h10 h11 h12 h13 h15 h16 h17 h19 h20 h21 h24 h26 h27 h46 h47 h52 h56))) (show by8 ((upB B55 52 f66) 12) from y57) (show by8 ((upB B55 52 f66) 13) from y58) (show by8 ((upB B55 52 f66) 16) from y59) (show by8 ((upB B55 52 f66) 17) from y60) (show ((upB B55 52 f66) 46) p0 = nI (v + 1) from g61)  Y (lv_sub hl [0, 1, 2, 3, 4] rfl)
            refine lv_iload_n X.1 X.2.1 d_setKeys_98 rfl (lv_at hl 1 rfl) ?_
            refine lv_if_ne (tgt := 113) X.1 X.2.1 d_setKeys_99 (by decide) (fun c67 => ?_) (fun c67 => ?_)
            · skip
              rw [← nI_0] at c67
              rw [nI_eq (by omega) (by omega)] at c67
              refine lv_aload_n X.1 X.2.1 d_setKeys_113 rfl (lv_at hl 2 rfl) ?_
              refine m_get X Y 56 (by decide) lk_made (gf_made _ _ _) rfl d_setKeys_114 ?_
              refine lv_iload X.1 X.2.1 d_setKeys_117 (lv_at hl 0 rfl) ?_
              refine m_bald X Y (aw_made _ _ _ _ _ _ _) (vp_in_nI (by omega) (by decide)) d_setKeys_119 ?_
              refine t_any (fun v68 => ?_)
              exact jn65 _
            · skip
              rw [← nI_0] at c67
              rw [nI_eq (by omega) (by omega)] at c67
              refine lv_iload X.1 X.2.1 d_setKeys_102 (lv_at hl 0 rfl) ?_
              refine lv_bipush (v := (nI 15)) X.1 X.2.1 d_setKeys_104 (by decide) ?_
              refine lv_icmp_le (tgt := 113) X.1 X.2.1 d_setKeys_106 (by decide) (fun c69 => ?_) (fun c69 => ?_)
              · skip
                rw [nI_leI (by omega) (by omega)] at c69
                refine lv_aload_n X.1 X.2.1 d_setKeys_113 rfl (lv_at hl 2 rfl) ?_
                refine m_get X Y 56 (by decide) lk_made (gf_made _ _ _) rfl d_setKeys_114 ?_
                refine lv_iload X.1 X.2.1 d_setKeys_117 (lv_at hl 0 rfl) ?_
                refine m_bald X Y (aw_made _ _ _ _ _ _ _) (vp_in_nI (by omega) (by decide)) d_setKeys_119 ?_
                refine t_any (fun v70 => ?_)
                exact jn65 _
              · skip
                rw [nI_leI (by omega) (by omega)] at c69
                refine lv_iconst (v := (nI 0)) X.1 X.2.1 d_setKeys_109 (by decide) ?_
                refine lv_goto (tgt := 120) X.1 X.2.1 d_setKeys_110 (by decide) ?_
                exact jn65 _
        exact lp54 (32) 0 B37 _ _ _ (by omega) (by omega) (fun j h5 h6 h7 h9 h10 h11 h12 h13 h15 h16 h17 h19 h20 h21 h24 h26 h27 h46 h47 h52 h56 => (hB49 j h5 h6 h7 h9 h10 h11 h12 h13 h15 h16 h17 h19 h20 h21 h24 h26 h27 h46 h47 h52 h56)) (show by8 (B37 12) from y44) (show by8 (B37 13) from y45) (show by8 (B37 16) from y46) (show by8 (B37 17) from y47) (show (B37 46) p0 = nI (v + 1) from ga50)  Y (lv_sub hl [0, 1, 2, 3, 4] rfl)
      · skip
        rw [← nI_0] at c34
        rw [nI_eq (by omega) (by omega)] at c34
        refine lv_bipush (v := (nI 16)) X.1 X.2.1 d_setKeys_47 (by decide) ?_
        refine lv_goto (tgt := 54) X.1 X.2.1 d_setKeys_49 (by decide) ?_
        refine lv_iload_n X.1 X.2.1 d_setKeys_54 rfl (lv_at hl 3 rfl) ?_
        refine lv_aload_n X.1 X.2.1 d_setKeys_55 rfl (lv_at hl 1 rfl) ?_
        refine m_get X Y 56 (by decide) lk_made (gf_made _ _ _) rfl d_setKeys_56 ?_
        refine m_callv (As := [.int (nI 16), .int (nI cnt), .ref (q 56)]) (rest := []) (n := 3) X Y hZ hA hml hl.1 (c_passwordKey_16 l D E h q H.size I21 J B22 G (cnt) (pm) (sm) (by omega) (by omega) hk30 (by omega) hk31 (by omega) (show by8 (B22 12) from y25) (show by8 (B22 13) from y26) (show by8 (B22 16) from y27) (show by8 (B22 17) from y28)) kl_passwordKey ks_passwordKey kx_passwordKey ki_passwordKey ini_M hd_passwordKey ⟨by decide, by decide⟩ rfl (Nat.le_of_ble_eq_true rfl) d_setKeys_59 ⟨Nat.le_refl _, Nat.le_refl _⟩ (fun u H locs hp Y => ?_)
        obtain ⟨I71, J72, B73, G74⟩ := u
        obtain ⟨hI75, eJ77, hB76, eG78, y80, y81, y82, y83⟩ := hp
        dsimp only at hI75 eJ77 hB76 eG78 y80 y81 y82 y83 Y
        rw [eJ77, eG78] at Y
        have hI84 : (∀ j, j ≠ 8 → j ≠ 14 → j ≠ 18 → j ≠ 29 → I71 j = I j) := fun j h8 h14 h18 h29 => (hI75 j h8 h14 h18).trans ((fun j h8 h14 h18 h29 => (hI24 j h8 h14 h18 h29)) j h8 h14 h18 h29)
        have hB85 : (∀ j, j ≠ 5 → j ≠ 6 → j ≠ 7 → j ≠ 9 → j ≠ 10 → j ≠ 11 → j ≠ 12 → j ≠ 13 → j ≠ 15 → j ≠ 16 → j ≠ 17 → j ≠ 19 → j ≠ 20 → j ≠ 21 → j ≠ 24 → j ≠ 26 → j ≠ 27 → j ≠ 46 → j ≠ 47 → j ≠ 52 → j ≠ 56 → B73 j = B j) := fun j h5 h6 h7 h9 h10 h11 h12 h13 h15 h16 h17 h19 h20 h21 h24 h26 h27 h46 h47 h52 h56 => (hB76 j h5 h6 h7 h9 h10 h11 h12 h13 h15 h16 h17 h19 h20 h21 h26 h27 h56).trans ((fun j h5 h6 h7 h9 h10 h11 h12 h13 h15 h16 h17 h19 h20 h21 h24 h26 h27 h46 h47 h52 h56 => (hB23 j h5 h6 h7 h9 h10 h11 h12 h13 h15 h16 h17 h19 h20 h21 h24 h26 h27 h46 h47 h52 h56)) j h5 h6 h7 h9 h10 h11 h12 h13 h15 h16 h17 h19 h20 h21 h24 h26 h27 h46 h47 h52 h56)
        have ga86 : (B73 46) p0 = nI (v + 1) := by rw [hB76 46 (by decide) (by decide) (by decide) (by decide) (by decide) (by decide) (by decide) (by decide) (by decide) (by decide) (by decide) (by decide) (by decide) (by decide) (by decide) (by decide) (by decide)]; exact (show (B22 46) p0 = nI (v + 1) from g29)
        refine lv_iconst (v := (nI 0)) X.1 X.2.1 d_setKeys_62 (by decide) ?_
        refine lv_istore (lv' := [(4, .int (nI 0)), (3, .int (nI i18)), (0, .ref h), (1, .int (nI p0)), (2, .int (nI cnt))]) X.1 X.2.1 d_setKeys_63 hl (by decide) rfl (fun ls hl => ?_)
        have lp90 : ∀ (n87 i88 : Nat) (B91 : Nat → Nat → Int32) (H : Heap) (locs : List Loc) (ls : Array Slot), i88 + n87 = 32 → 0 ≤ i88 → (∀ j, j ≠ 5 → j ≠ 6 → j ≠ 7 → j ≠ 9 → j ≠ 10 → j ≠ 11 → j ≠ 12 → j ≠ 13 → j ≠ 15 → j ≠ 16 → j ≠ 17 → j ≠ 19 → j ≠ 20 → j ≠ 21 → j ≠ 24 → j ≠ 26 → j ≠ 27 → j ≠ 46 → j ≠ 47 → j ≠ 52 → j ≠ 56 → B91 j = B j) → by8 (B91 12) → by8 (B91 13) → by8 (B91 16) → by8 (B91 17) → (B91 46) p0 = nI (v + 1) → mH D E (mA E h q sz) s.heap h q I71 J B91 G H locs → lv_has ls 5 [(4, .int (nI i88)), (3, .int (nI i18)), (0, .ref h), (1, .int (nI p0)), (2, .int (nI cnt))] → W p l e (mR 6 148) s m AV below meth c H locs 0 0 QQ (F0 m 65 ls []) := by
          intro n87
          induction n87 with
          | zero =>
            intro i88 B91 H locs ls hii88 hsi88 hB92 y93 y94 y95 y96 g97  Y hl
            refine lv_iload X.1 X.2.1 d_setKeys_65 (lv_at hl 0 rfl) ?_
            refine lv_bipush (v := (nI 32)) X.1 X.2.1 d_setKeys_67 (by decide) ?_
            refine lv_icmp_ge (tgt := 127) X.1 X.2.1 d_setKeys_69 (by decide) (fun c98 => ?_) (fun c98 => absurd ?_ c98)
            rotate_left
            · (rw [nI_leI (by omega) (by omega)] <;> omega)
            rw [nI_leI (by omega) (by omega)] at c98
            refine lv_iinc (v := (nI (i18 + 1))) (lv' := [(3, .int (nI (i18 + 1))), (4, .int (nI i88)), (0, .ref h), (1, .int (nI p0)), (2, .int (nI cnt))]) X.1 X.2.1 d_setKeys_127 hl (k := 1) rfl (nI_add _ 1) (by decide) rfl (fun ls hl => ?_)
            refine lv_goto (tgt := 37) X.1 X.2.1 d_setKeys_130 (by decide) ?_
            exact ih19 (i18 + 1) I71 B91 _ _ _ (by omega) (by omega) (fun j h5 h6 h7 h9 h10 h11 h12 h13 h15 h16 h17 h19 h20 h21 h24 h26 h27 h46 h47 h52 h56 => (hB92 j h5 h6 h7 h9 h10 h11 h12 h13 h15 h16 h17 h19 h20 h21 h24 h26 h27 h46 h47 h52 h56)) (fun j h8 h14 h18 h29 => (hI84 j h8 h14 h18 h29)) (show by8 (B91 12) from y93) (show by8 (B91 13) from y94) (show by8 (B91 16) from y95) (show by8 (B91 17) from y96) (show (B91 46) p0 = nI (v + 1) from g97) ((show I71 30 = nI (pm) from ((hI75 30 (by decide) (by decide) (by decide)).trans hk30)).trans (congrArg nI (show (pm : Nat) = pm by omega))) ((show I71 29 = nI (sm) from ((hI75 29 (by decide) (by decide) (by decide)).trans hk31)).trans (congrArg nI (show (sm : Nat) = sm by omega)))  Y (lv_sub hl [0, 2, 3, 4] rfl)
          | succ n87 ih89 =>
            intro i88 B91 H locs ls hii88 hsi88 hB92 y93 y94 y95 y96 g97  Y hl
            refine lv_iload X.1 X.2.1 d_setKeys_65 (lv_at hl 0 rfl) ?_
            refine lv_bipush (v := (nI 32)) X.1 X.2.1 d_setKeys_67 (by decide) ?_
            refine lv_icmp_ge (tgt := 127) X.1 X.2.1 d_setKeys_69 (by decide) (fun c99 => absurd c99 ?_) (fun c99 => ?_)
            · (rw [nI_leI (by omega) (by omega)] <;> omega)
            rw [nI_leI (by omega) (by omega)] at c99
            refine lv_aload_n X.1 X.2.1 d_setKeys_72 rfl (lv_at hl 2 rfl) ?_
            refine m_get X Y 52 (by decide) lk_keys (gf_keys _ _ _) rfl d_setKeys_73 ?_
            refine lv_bipush (v := (nI 32)) X.1 X.2.1 d_setKeys_76 (by decide) ?_
            refine lv_iconst (v := (nI 4)) X.1 X.2.1 d_setKeys_78 (by decide) ?_
            refine lv_iload_n X.1 X.2.1 d_setKeys_79 rfl (lv_at hl 3 rfl) ?_
            refine lv_imul X.1 X.2.1 d_setKeys_80 ?_
            refine t_eq (y := nI ((4) * (p0))) (pk_mul _ _) ?_
            refine lv_iconst (v := (nI 2)) X.1 X.2.1 d_setKeys_81 (by decide) ?_
            refine lv_aload_n X.1 X.2.1 d_setKeys_82 rfl (lv_at hl 2 rfl) ?_
            refine m_get X Y 46 (by decide) lk_versions (gf_versions _ _ _) rfl d_setKeys_83 ?_
            refine lv_iload_n X.1 X.2.1 d_setKeys_86 rfl (lv_at hl 3 rfl) ?_
            refine m_iald X Y (aw_versions _ _ _ _ _ _ _) (vp_in_nI (by omega) (by decide)) d_setKeys_87 ?_
            refine t_eq (show B91 46 ((nI p0)).toNatClampNeg = nI (v + 1) from (by rw [nI_clamp (by omega)]; exact g97)) ?_
            refine lv_iconst (v := (nI 2)) X.1 X.2.1 d_setKeys_88 (by decide) ?_
            refine lv_irem X.1 X.2.1 d_setKeys_89 (nI_ne0 (by omega) (by omega)) ?_
            refine t_eq (y := nI ((v + 1) % (2))) (pk_rem (by omega) (by omega) (by omega)) ?_
            refine lv_imul X.1 X.2.1 d_setKeys_90 ?_
            refine t_eq (y := nI ((2) * ((v + 1) % (2)))) (pk_mul _ _) ?_
            refine lv_iadd X.1 X.2.1 d_setKeys_91 ?_
            refine t_eq (y := nI ((4) * (p0) + (2) * ((v + 1) % (2)))) (nI_add _ _) ?_
            refine lv_iload_n X.1 X.2.1 d_setKeys_92 rfl (lv_at hl 1 rfl) ?_
            refine lv_iadd X.1 X.2.1 d_setKeys_93 ?_
            refine t_eq (y := nI ((4) * (p0) + (2) * ((v + 1) % (2)) + i18)) (nI_add _ _) ?_
            refine lv_imul X.1 X.2.1 d_setKeys_94 ?_
            refine t_eq (y := nI ((32) * ((4) * (p0) + (2) * ((v + 1) % (2)) + i18))) (pk_mul _ _) ?_
            refine lv_iload X.1 X.2.1 d_setKeys_95 (lv_at hl 0 rfl) ?_
            refine lv_iadd X.1 X.2.1 d_setKeys_97 ?_
            refine t_eq (y := nI ((32) * ((4) * (p0) + (2) * ((v + 1) % (2)) + i18) + i88)) (nI_add _ _) ?_
            have jn101 : ∀ w100 : Int32, W p l e (mR 6 148) s m AV below meth c H locs 0 0 QQ (F0 m 120 ls [.int w100, .int (nI ((32) * ((4) * (p0) + (2) * ((v + 1) % (2)) + i18) + i88)), .ref (q 52)]) := by
              intro w100
              refine m_bast X Y (aw_keys _ _ _ _ _ _ _) (vp_in_nI (by omega) (by decide)) (sw_keys _ _ _ _ _ _ _ _) d_setKeys_120 (fun H locs Y => ?_)
              generalize (upd (B91 52) ((nI ((32) * ((4) * (p0) + (2) * ((v + 1) % (2)) + i18) + i88))).toNatClampNeg (vp_nar .byte w100)) = f102 at Y
              refine lv_iinc (v := (nI (i88 + 1))) (lv' := [(4, .int (nI (i88 + 1))), (3, .int (nI i18)), (0, .ref h), (1, .int (nI p0)), (2, .int (nI cnt))]) X.1 X.2.1 d_setKeys_121 hl (k := 0) rfl (nI_add _ 1) (by decide) rfl (fun ls hl => ?_)
              refine lv_goto (tgt := 65) X.1 X.2.1 d_setKeys_124 (by decide) ?_
              exact ih89 (i88 + 1) (upB B91 52 f102) _ _ _ (by omega) (by omega) (fun j h5 h6 h7 h9 h10 h11 h12 h13 h15 h16 h17 h19 h20 h21 h24 h26 h27 h46 h47 h52 h56 => ((if_neg h52).trans (hB92 j h5 h6 h7 h9 h10 h11 h12 h13 h15 h16 h17 h19 h20 h21 h24 h26 h27 h46 h47 h52 h56))) (show by8 ((upB B91 52 f102) 12) from y93) (show by8 ((upB B91 52 f102) 13) from y94) (show by8 ((upB B91 52 f102) 16) from y95) (show by8 ((upB B91 52 f102) 17) from y96) (show ((upB B91 52 f102) 46) p0 = nI (v + 1) from g97)  Y (lv_sub hl [0, 1, 2, 3, 4] rfl)
            refine lv_iload_n X.1 X.2.1 d_setKeys_98 rfl (lv_at hl 1 rfl) ?_
            refine lv_if_ne (tgt := 113) X.1 X.2.1 d_setKeys_99 (by decide) (fun c103 => ?_) (fun c103 => ?_)
            · skip
              rw [← nI_0] at c103
              rw [nI_eq (by omega) (by omega)] at c103
              refine lv_aload_n X.1 X.2.1 d_setKeys_113 rfl (lv_at hl 2 rfl) ?_
              refine m_get X Y 56 (by decide) lk_made (gf_made _ _ _) rfl d_setKeys_114 ?_
              refine lv_iload X.1 X.2.1 d_setKeys_117 (lv_at hl 0 rfl) ?_
              refine m_bald X Y (aw_made _ _ _ _ _ _ _) (vp_in_nI (by omega) (by decide)) d_setKeys_119 ?_
              refine t_any (fun v104 => ?_)
              exact jn101 _
            · skip
              rw [← nI_0] at c103
              rw [nI_eq (by omega) (by omega)] at c103
              refine lv_iload X.1 X.2.1 d_setKeys_102 (lv_at hl 0 rfl) ?_
              refine lv_bipush (v := (nI 15)) X.1 X.2.1 d_setKeys_104 (by decide) ?_
              refine lv_icmp_le (tgt := 113) X.1 X.2.1 d_setKeys_106 (by decide) (fun c105 => ?_) (fun c105 => ?_)
              · skip
                rw [nI_leI (by omega) (by omega)] at c105
                refine lv_aload_n X.1 X.2.1 d_setKeys_113 rfl (lv_at hl 2 rfl) ?_
                refine m_get X Y 56 (by decide) lk_made (gf_made _ _ _) rfl d_setKeys_114 ?_
                refine lv_iload X.1 X.2.1 d_setKeys_117 (lv_at hl 0 rfl) ?_
                refine m_bald X Y (aw_made _ _ _ _ _ _ _) (vp_in_nI (by omega) (by decide)) d_setKeys_119 ?_
                refine t_any (fun v106 => ?_)
                exact jn101 _
              · skip
                rw [nI_leI (by omega) (by omega)] at c105
                refine lv_iconst (v := (nI 0)) X.1 X.2.1 d_setKeys_109 (by decide) ?_
                refine lv_goto (tgt := 120) X.1 X.2.1 d_setKeys_110 (by decide) ?_
                exact jn101 _
        exact lp90 (32) 0 B73 _ _ _ (by omega) (by omega) (fun j h5 h6 h7 h9 h10 h11 h12 h13 h15 h16 h17 h19 h20 h21 h24 h26 h27 h46 h47 h52 h56 => (hB85 j h5 h6 h7 h9 h10 h11 h12 h13 h15 h16 h17 h19 h20 h21 h24 h26 h27 h46 h47 h52 h56)) (show by8 (B73 12) from y80) (show by8 (B73 13) from y81) (show by8 (B73 16) from y82) (show by8 (B73 17) from y83) (show (B73 46) p0 = nI (v + 1) from ga86)  Y (lv_sub hl [0, 1, 2, 3, 4] rfl)
  exact lp20 (2) 0 I4 B6 _ _ _ (by omega) (by omega) (fun j h5 h6 h7 h9 h10 h11 h12 h13 h15 h16 h17 h19 h20 h21 h24 h26 h27 h46 h47 h52 h56 => (hB15 j h5 h6 h7 h9 h10 h11 h12 h13 h15 h16 h17 h19 h20 h21 h24 h26 h27 h46 h47 h52 h56)) (fun j h8 h14 h18 h29 => (hI14 j h8 h14 h18 h29)) (show by8 (B6 12) from (by8_eq (hB9 12 (by decide)) y12)) (show by8 (B6 13) from (by8_eq (hB9 13 (by decide)) y13)) (show by8 (B6 16) from (by8_eq (hB9 16 (by decide)) y16)) (show by8 (B6 17) from (by8_eq (hB9 17 (by decide)) y17)) (show (B6 46) p0 = nI (v + 1) from ga16) ((show I4 30 = nI (pm) from ((hI8 30 (by decide)).trans hpm)).trans (congrArg nI (show (pm : Nat) = pm by omega))) ((show I4 29 = nI (sm) from hsm2).trans (congrArg nI (show (sm : Nat) = sm by omega)))  Y (lv_sub hl [0, 1, 2, 3] rfl)
