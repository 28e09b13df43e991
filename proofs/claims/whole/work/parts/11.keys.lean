set_option maxHeartbeats 4000000 in
set_option maxRecDepth 100000 in
theorem c_setKeys (l : Launch) (D : mD) (E : mE) (h : Nat) (q : Nat → Nat) (sz : Nat) (I : Nat → Int32) (J : Nat → Int64) (B : Nat → Nat → Int32) (G : Nat → Nat → Int64) (p0 cnt v ns pm : Nat) (hp0 : p0 < 12) (hc1 : 1 ≤ cnt) (hc2 : cnt ≤ 200) (hv : B 46 p0 = nI v) (hv2 : v < 1000000) (hns : B 45 p0 = nI ns) (hns2 : ns ≤ 40) (hpm : I 30 = nI pm) (hpm2 : pm ≤ 20) (y12 : by8 (B 12)) (y13 : by8 (B 13)) (y16 : by8 (B 16)) (y17 : by8 (B 17)) : Met l y_setKeys (k_setKeys :: lw_tg) (mR 6 148) (va_Pc [.ref h, .int (nI p0), .int (nI cnt)] (mPre D E h q (I, J, B, G) sz)) (va_Qv (fun (u : mS) => (∀ j, j ≠ 8 → j ≠ 14 → j ≠ 18 → j ≠ 29 → u.1 j = I j) ∧ u.2.1 = J ∧ (∀ j, j ≠ 5 → j ≠ 6 → j ≠ 7 → j ≠ 9 → j ≠ 10 → j ≠ 11 → j ≠ 12 → j ≠ 13 → j ≠ 15 → j ≠ 16 → j ≠ 17 → j ≠ 19 → j ≠ 20 → j ≠ 21 → j ≠ 24 → j ≠ 26 → j ≠ 27 → j ≠ 46 → j ≠ 47 → j ≠ 52 → j ≠ 56 → u.2.2.1 j = B j) ∧ u.2.2.2 = G ∧ by8 (u.2.2.1 12) ∧ by8 (u.2.2.1 13) ∧ by8 (u.2.2.1 16) ∧ by8 (u.2.2.1 17) ∧ (u.2.2.1 46 p0 = nI (v + 1))) (mPost D E h q (mA E h q sz)) (mA E h q sz)) 0 0 (mA E h q sz) := by
  refine m_enter (by decide) rfl (Nat.le_of_ble_eq_true rfl) (fun p e s m below meth c ls AV QQ H locs hQQ X Y hZ hA hr hlk hml hl => ?_)
  have Y : mH D E (mA E h q sz) s.heap h q I J B G H locs := Y
  have hl : lv_has ls 5 [(0, .ref h), (1, .int (nI p0)), (2, .int (nI cnt))] := hl
  refine lv_aload_n X.1 X.2.1 d_setKeys_0 rfl (lv_at hl 0 rfl) ?_
  refine m_get X Y 46 (by decide) lk_versions (gf_versions _ _ _) rfl d_setKeys_1 ?_
  refine lv_iload_n X.1 X.2.1 d_setKeys_4 rfl (lv_at hl 1 rfl) ?_
  refine lv_dup2_11 X.1 X.2.1 d_setKeys_5 rfl rfl ?_
  refine m_iald X Y (aw_versions _ _ _ _ _ _ _) (vp_in_nI (by omega) (by decide)) d_setKeys_6 ?_
  refine t_eq (show B 46 ((nI p0)).toNatClampNeg = nI (v) from (by rw [nI_clamp (by omega)]; exact hv)) ?_
  refine lv_iconst (v := (nI 1)) X.1 X.2.1 d_setKeys_7 (by decide) ?_
  refine lv_iadd X.1 X.2.1 d_setKeys_8 ?_
  refine t_eq (y := nI (v + 1)) (nI_add _ _) ?_
  refine m_iast X Y (aw_versions _ _ _ _ _ _ _) (vp_in_nI (by omega) (by decide)) (sw_versions _ _ _ _ _ _ _ _) d_setKeys_9 (fun H locs Y => ?_)
  have g2 : (upd (B 46) ((nI p0)).toNatClampNeg (nI (v + 1))) p0 = nI (v + 1) := (by rw [nI_clamp (by omega)]; exact pk_us)
  generalize (upd (B 46) ((nI p0)).toNatClampNeg (nI (v + 1))) = f1 at Y g2
  refine lv_aload_n X.1 X.2.1 d_setKeys_10 rfl (lv_at hl 0 rfl) ?_
  refine m_get X Y 47 (by decide) lk_counts (gf_counts _ _ _) rfl d_setKeys_11 ?_
  refine lv_iload_n X.1 X.2.1 d_setKeys_14 rfl (lv_at hl 1 rfl) ?_
  refine lv_iload_n X.1 X.2.1 d_setKeys_15 rfl (lv_at hl 2 rfl) ?_
  refine m_iast X Y (aw_counts _ _ _ _ _ _ _) (vp_in_nI (by omega) (by decide)) (sw_counts _ _ _ _ _ _ _ _) d_setKeys_16 (fun H locs Y => ?_)
  generalize (upd ((upB B 46 f1) 47) ((nI p0)).toNatClampNeg (nI cnt)) = f3 at Y
  refine lv_aload_n X.1 X.2.1 d_setKeys_17 rfl (lv_at hl 0 rfl) ?_
  refine lv_aload_n X.1 X.2.1 d_setKeys_18 rfl (lv_at hl 0 rfl) ?_
  refine m_get X Y 44 (by decide) lk_names (gf_names _ _ _) rfl d_setKeys_19 ?_
  refine lv_bipush (v := (nI 40)) X.1 X.2.1 d_setKeys_22 (by decide) ?_
  refine lv_iload_n X.1 X.2.1 d_setKeys_24 rfl (lv_at hl 1 rfl) ?_
  refine lv_imul X.1 X.2.1 d_setKeys_25 ?_
  refine t_eq (y := nI ((40) * (p0))) (pk_mul _ _) ?_
  refine lv_aload_n X.1 X.2.1 d_setKeys_26 rfl (lv_at hl 0 rfl) ?_
  refine m_get X Y 45 (by decide) lk_nameSizes (gf_nameSizes _ _ _) rfl d_setKeys_27 ?_
  refine lv_iload_n X.1 X.2.1 d_setKeys_30 rfl (lv_at hl 1 rfl) ?_
  refine m_iald X Y (aw_nameSizes _ _ _ _ _ _ _) (vp_in_nI (by omega) (by decide)) d_setKeys_31 ?_
  refine t_eq (show (upB (upB B 46 f1) 47 f3) 45 ((nI p0)).toNatClampNeg = nI (ns) from (by rw [nI_clamp (by omega)]; exact hns)) ?_
  refine m_callv (As := [.ref (q 44), .int (nI ((40) * (p0))), .int (nI (ns))]) (rest := []) (n := 3) X Y hZ hA hml hl.1 (c_saltOf_names l D E h q H.size I J (upB (upB B 46 f1) 47 f3) G ((40) * (p0)) (ns) (by omega) (by omega)) kl_saltOf ks_saltOf kx_saltOf ki_saltOf ini_M hd_saltOf ⟨by decide, by decide⟩ rfl (Nat.le_of_ble_eq_true rfl) d_setKeys_32 ⟨Nat.le_refl _, Nat.le_refl _⟩ (fun u H locs hp Y => ?_)
  obtain ⟨I4, J5, B6, G7⟩ := u
  obtain ⟨hI8, eJ10, hB9, eG11, hx13⟩ := hp
  dsimp only at hI8 eJ10 hB9 eG11 hx13 Y
  rw [eJ10, eG11] at Y
  have hI14 : (∀ j, j ≠ 8 → j ≠ 14 → j ≠ 18 → j ≠ 29 → I4 j = I j) := fun j h8 h14 h18 h29 => (hI8 j h29).trans ((fun j h8 h14 h18 h29 => rfl) j h8 h14 h18 h29)
  have hB15 : (∀ j, j ≠ 5 → j ≠ 6 → j ≠ 7 → j ≠ 9 → j ≠ 10 → j ≠ 11 → j ≠ 12 → j ≠ 13 → j ≠ 15 → j ≠ 16 → j ≠ 17 → j ≠ 19 → j ≠ 20 → j ≠ 21 → j ≠ 24 → j ≠ 26 → j ≠ 27 → j ≠ 46 → j ≠ 47 → j ≠ 52 → j ≠ 56 → B6 j = B j) := fun j h5 h6 h7 h9 h10 h11 h12 h13 h15 h16 h17 h19 h20 h21 h24 h26 h27 h46 h47 h52 h56 => (hB9 j h24).trans ((fun j h5 h6 h7 h9 h10 h11 h12 h13 h15 h16 h17 h19 h20 h21 h24 h26 h27 h46 h47 h52 h56 => ((if_neg h47).trans ((if_neg h46).trans rfl))) j h5 h6 h7 h9 h10 h11 h12 h13 h15 h16 h17 h19 h20 h21 h24 h26 h27 h46 h47 h52 h56)
  obtain ⟨sm, hsm1, hsm2⟩ := hx13
  refine lv_iconst (v := (nI 0)) X.1 X.2.1 d_setKeys_35 (by decide) ?_
  refine lv_istore_n (lv' := [(3, .int (nI 0)), (0, .ref h), (1, .int (nI p0)), (2, .int (nI cnt))]) X.1 X.2.1 d_setKeys_36 rfl hl (by decide) rfl (fun ls hl => ?_)
  have lp19 : ∀ (n16 i17 : Nat) (I20 : Nat → Int32) (B21 : Nat → Nat → Int32) (H : Heap) (locs : List Loc) (ls : Array Slot), i17 + n16 = 2 → 0 ≤ i17 → (∀ j, j ≠ 5 → j ≠ 6 → j ≠ 7 → j ≠ 9 → j ≠ 10 → j ≠ 11 → j ≠ 12 → j ≠ 13 → j ≠ 15 → j ≠ 16 → j ≠ 17 → j ≠ 19 → j ≠ 20 → j ≠ 21 → j ≠ 24 → j ≠ 26 → j ≠ 27 → j ≠ 46 → j ≠ 47 → j ≠ 52 → j ≠ 56 → B21 j = B j) → (∀ j, j ≠ 8 → j ≠ 14 → j ≠ 18 → j ≠ 29 → I20 j = I j) → by8 (B21 12) → by8 (B21 13) → by8 (B21 16) → by8 (B21 17) → (B21 46) p0 = nI (v + 1) → I20 30 = nI (pm) → I20 29 = nI (sm) → mH D E (mA E h q sz) s.heap h q I20 J B21 G H locs → lv_has ls 5 [(3, .int (nI i17)), (0, .ref h), (1, .int (nI p0)), (2, .int (nI cnt))] → W p l e (mR 6 148) s m AV below meth c H locs 0 0 QQ (F0 m 37 ls []) := by
    intro n16
    induction n16 with
    | zero =>
      intro i17 I20 B21 H locs ls hii17 hsi17 hB22 hI23 y24 y25 y26 y27 g28 hk29 hk30  Y hl
      refine lv_iload_n X.1 X.2.1 d_setKeys_37 rfl (lv_at hl 0 rfl) ?_
      refine lv_iconst (v := (nI 2)) X.1 X.2.1 d_setKeys_38 (by decide) ?_
      refine lv_icmp_ge (tgt := 133) X.1 X.2.1 d_setKeys_39 (by decide) (fun c31 => ?_) (fun c31 => absurd ?_ c31)
      rotate_left
      · (rw [nI_leI (by omega) (by omega)] <;> omega)
      rw [nI_leI (by omega) (by omega)] at c31
      exact m_retv hQQ X Y hr hlk ⟨(fun j h8 h14 h18 h29 => (hI23 j h8 h14 h18 h29)), rfl, (fun j h5 h6 h7 h9 h10 h11 h12 h13 h15 h16 h17 h19 h20 h21 h24 h26 h27 h46 h47 h52 h56 => (hB22 j h5 h6 h7 h9 h10 h11 h12 h13 h15 h16 h17 h19 h20 h21 h24 h26 h27 h46 h47 h52 h56)), rfl, (show by8 (B21 12) from y24), (show by8 (B21 13) from y25), (show by8 (B21 16) from y26), (show by8 (B21 17) from y27), (show B21 46 p0 = nI (v + 1) from g28)⟩ d_setKeys_133
    | succ n16 ih18 =>
      intro i17 I20 B21 H locs ls hii17 hsi17 hB22 hI23 y24 y25 y26 y27 g28 hk29 hk30  Y hl
      refine lv_iload_n X.1 X.2.1 d_setKeys_37 rfl (lv_at hl 0 rfl) ?_
      refine lv_iconst (v := (nI 2)) X.1 X.2.1 d_setKeys_38 (by decide) ?_
      refine lv_icmp_ge (tgt := 133) X.1 X.2.1 d_setKeys_39 (by decide) (fun c32 => absurd c32 ?_) (fun c32 => ?_)
      · (rw [nI_leI (by omega) (by omega)] <;> omega)
      rw [nI_leI (by omega) (by omega)] at c32
      refine lv_aload_n X.1 X.2.1 d_setKeys_42 rfl (lv_at hl 1 rfl) ?_
      refine lv_iload_n X.1 X.2.1 d_setKeys_43 rfl (lv_at hl 0 rfl) ?_
      refine lv_if_ne (tgt := 52) X.1 X.2.1 d_setKeys_44 (by decide) (fun c33 => ?_) (fun c33 => ?_)
      · skip
        rw [← nI_0] at c33
        rw [nI_eq (by omega) (by omega)] at c33
        refine lv_bipush (v := (nI 32)) X.1 X.2.1 d_setKeys_52 (by decide) ?_
        refine lv_iload_n X.1 X.2.1 d_setKeys_54 rfl (lv_at hl 3 rfl) ?_
        refine lv_aload_n X.1 X.2.1 d_setKeys_55 rfl (lv_at hl 1 rfl) ?_
        refine m_get X Y 56 (by decide) lk_made (gf_made _ _ _) rfl d_setKeys_56 ?_
        refine m_callv (As := [.int (nI 32), .int (nI cnt), .ref (q 56)]) (rest := []) (n := 3) X Y hZ hA hml hl.1 (c_passwordKey_32 l D E h q H.size I20 J B21 G (cnt) (pm) (sm) (by omega) (by omega) hk29 (by omega) hk30 (by omega) (show by8 (B21 12) from y24) (show by8 (B21 13) from y25) (show by8 (B21 16) from y26) (show by8 (B21 17) from y27)) kl_passwordKey ks_passwordKey kx_passwordKey ki_passwordKey ini_M hd_passwordKey ⟨by decide, by decide⟩ rfl (Nat.le_of_ble_eq_true rfl) d_setKeys_59 ⟨Nat.le_refl _, Nat.le_refl _⟩ (fun u H locs hp Y => ?_)
        obtain ⟨I34, J35, B36, G37⟩ := u
        obtain ⟨hI38, eJ40, hB39, eG41, y43, y44, y45, y46⟩ := hp
        dsimp only at hI38 eJ40 hB39 eG41 y43 y44 y45 y46 Y
        rw [eJ40, eG41] at Y
        have hI47 : (∀ j, j ≠ 8 → j ≠ 14 → j ≠ 18 → j ≠ 29 → I34 j = I j) := fun j h8 h14 h18 h29 => (hI38 j h8 h14 h18).trans ((fun j h8 h14 h18 h29 => (hI23 j h8 h14 h18 h29)) j h8 h14 h18 h29)
        have hB48 : (∀ j, j ≠ 5 → j ≠ 6 → j ≠ 7 → j ≠ 9 → j ≠ 10 → j ≠ 11 → j ≠ 12 → j ≠ 13 → j ≠ 15 → j ≠ 16 → j ≠ 17 → j ≠ 19 → j ≠ 20 → j ≠ 21 → j ≠ 24 → j ≠ 26 → j ≠ 27 → j ≠ 46 → j ≠ 47 → j ≠ 52 → j ≠ 56 → B36 j = B j) := fun j h5 h6 h7 h9 h10 h11 h12 h13 h15 h16 h17 h19 h20 h21 h24 h26 h27 h46 h47 h52 h56 => (hB39 j h5 h6 h7 h9 h10 h11 h12 h13 h15 h16 h17 h19 h20 h21 h26 h27 h56).trans ((fun j h5 h6 h7 h9 h10 h11 h12 h13 h15 h16 h17 h19 h20 h21 h24 h26 h27 h46 h47 h52 h56 => (hB22 j h5 h6 h7 h9 h10 h11 h12 h13 h15 h16 h17 h19 h20 h21 h24 h26 h27 h46 h47 h52 h56)) j h5 h6 h7 h9 h10 h11 h12 h13 h15 h16 h17 h19 h20 h21 h24 h26 h27 h46 h47 h52 h56)
        refine lv_iconst (v := (nI 0)) X.1 X.2.1 d_setKeys_62 (by decide) ?_
        refine lv_istore (lv' := [(4, .int (nI 0)), (3, .int (nI i17)), (0, .ref h), (1, .int (nI p0)), (2, .int (nI cnt))]) X.1 X.2.1 d_setKeys_63 hl (by decide) rfl (fun ls hl => ?_)
        have lp52 : ∀ (n49 i50 : Nat) (B53 : Nat → Nat → Int32) (H : Heap) (locs : List Loc) (ls : Array Slot), i50 + n49 = 32 → 0 ≤ i50 → (∀ j, j ≠ 5 → j ≠ 6 → j ≠ 7 → j ≠ 9 → j ≠ 10 → j ≠ 11 → j ≠ 12 → j ≠ 13 → j ≠ 15 → j ≠ 16 → j ≠ 17 → j ≠ 19 → j ≠ 20 → j ≠ 21 → j ≠ 24 → j ≠ 26 → j ≠ 27 → j ≠ 46 → j ≠ 47 → j ≠ 52 → j ≠ 56 → B53 j = B j) → by8 (B53 12) → by8 (B53 13) → by8 (B53 16) → by8 (B53 17) → (B53 46) p0 = nI (v + 1) → mH D E (mA E h q sz) s.heap h q I34 J B53 G H locs → lv_has ls 5 [(4, .int (nI i50)), (3, .int (nI i17)), (0, .ref h), (1, .int (nI p0)), (2, .int (nI cnt))] → W p l e (mR 6 148) s m AV below meth c H locs 0 0 QQ (F0 m 65 ls []) := by
          intro n49
          induction n49 with
          | zero =>
            intro i50 B53 H locs ls hii50 hsi50 hB54 y55 y56 y57 y58 g59  Y hl
            refine lv_iload X.1 X.2.1 d_setKeys_65 (lv_at hl 0 rfl) ?_
            refine lv_bipush (v := (nI 32)) X.1 X.2.1 d_setKeys_67 (by decide) ?_
            refine lv_icmp_ge (tgt := 127) X.1 X.2.1 d_setKeys_69 (by decide) (fun c60 => ?_) (fun c60 => absurd ?_ c60)
            rotate_left
            · (rw [nI_leI (by omega) (by omega)] <;> omega)
            rw [nI_leI (by omega) (by omega)] at c60
            refine lv_iinc (v := (nI (i17 + 1))) (lv' := [(3, .int (nI (i17 + 1))), (4, .int (nI i50)), (0, .ref h), (1, .int (nI p0)), (2, .int (nI cnt))]) X.1 X.2.1 d_setKeys_127 hl (k := 1) rfl (nI_add _ 1) (by decide) rfl (fun ls hl => ?_)
            refine lv_goto (tgt := 37) X.1 X.2.1 d_setKeys_130 (by decide) ?_
            exact ih18 (i17 + 1) I34 B53 _ _ _ (by omega) (by omega) (fun j h5 h6 h7 h9 h10 h11 h12 h13 h15 h16 h17 h19 h20 h21 h24 h26 h27 h46 h47 h52 h56 => (hB54 j h5 h6 h7 h9 h10 h11 h12 h13 h15 h16 h17 h19 h20 h21 h24 h26 h27 h46 h47 h52 h56)) (fun j h8 h14 h18 h29 => (hI47 j h8 h14 h18 h29)) (show by8 (B53 12) from y55) (show by8 (B53 13) from y56) (show by8 (B53 16) from y57) (show by8 (B53 17) from y58) (show (B53 46) p0 = nI (v + 1) from g59) ((show I34 30 = nI (pm) from ((hI38 30 (by decide) (by decide) (by decide)).trans hk29)).trans (congrArg nI (show (pm : Nat) = pm by omega))) ((show I34 29 = nI (sm) from ((hI38 29 (by decide) (by decide) (by decide)).trans hk30)).trans (congrArg nI (show (sm : Nat) = sm by omega)))  Y (lv_sub hl [0, 2, 3, 4] rfl)
          | succ n49 ih51 =>
            intro i50 B53 H locs ls hii50 hsi50 hB54 y55 y56 y57 y58 g59  Y hl
            refine lv_iload X.1 X.2.1 d_setKeys_65 (lv_at hl 0 rfl) ?_
            refine lv_bipush (v := (nI 32)) X.1 X.2.1 d_setKeys_67 (by decide) ?_
            refine lv_icmp_ge (tgt := 127) X.1 X.2.1 d_setKeys_69 (by decide) (fun c61 => absurd c61 ?_) (fun c61 => ?_)
            · (rw [nI_leI (by omega) (by omega)] <;> omega)
            rw [nI_leI (by omega) (by omega)] at c61
            refine lv_aload_n X.1 X.2.1 d_setKeys_72 rfl (lv_at hl 2 rfl) ?_
            refine m_get X Y 52 (by decide) lk_keys (gf_keys _ _ _) rfl d_setKeys_73 ?_
            refine lv_bipush (v := (nI 32)) X.1 X.2.1 d_setKeys_76 (by decide) ?_
            refine lv_iconst (v := (nI 4)) X.1 X.2.1 d_setKeys_78 (by decide) ?_
            refine lv_iload_n X.1 X.2.1 d_setKeys_79 rfl (lv_at hl 3 rfl) ?_
            refine lv_imul X.1 X.2.1 d_setKeys_80 ?_
            refine t_eq (y := nI ((4) * (p0))) (pk_mul _ _) ?_
            refine lv_iconst (v := (nI 2)) X.1 X.2.1 d_setKeys_81 (by decide) ?_
            refine lv_aload_n X.1 X.2.1 d_setKeys_82 rfl (lv_at hl 2 rfl) ?_
            refine m_get X Y 46 (by decide) lk_versions (gf_versions _ _ _) rfl d_setKeys_83 ?_
            refine lv_iload_n X.1 X.2.1 d_setKeys_86 rfl (lv_at hl 3 rfl) ?_
            refine m_iald X Y (aw_versions _ _ _ _ _ _ _) (vp_in_nI (by omega) (by decide)) d_setKeys_87 ?_
            refine t_eq (show B53 46 ((nI p0)).toNatClampNeg = nI (v + 1) from (by rw [nI_clamp (by omega)]; exact g59)) ?_
            refine lv_iconst (v := (nI 2)) X.1 X.2.1 d_setKeys_88 (by decide) ?_
            refine lv_irem X.1 X.2.1 d_setKeys_89 (nI_ne0 (by omega) (by omega)) ?_
            refine t_eq (y := nI ((v + 1) % (2))) (pk_rem (by omega) (by omega) (by omega)) ?_
            refine lv_imul X.1 X.2.1 d_setKeys_90 ?_
            refine t_eq (y := nI ((2) * ((v + 1) % (2)))) (pk_mul _ _) ?_
            refine lv_iadd X.1 X.2.1 d_setKeys_91 ?_
            refine t_eq (y := nI ((4) * (p0) + (2) * ((v + 1) % (2)))) (nI_add _ _) ?_
            refine lv_iload_n X.1 X.2.1 d_setKeys_92 rfl (lv_at hl 1 rfl) ?_
            refine lv_iadd X.1 X.2.1 d_setKeys_93 ?_
            refine t_eq (y := nI ((4) * (p0) + (2) * ((v + 1) % (2)) + i17)) (nI_add _ _) ?_
            refine lv_imul X.1 X.2.1 d_setKeys_94 ?_
            refine t_eq (y := nI ((32) * ((4) * (p0) + (2) * ((v + 1) % (2)) + i17))) (pk_mul _ _) ?_
            refine lv_iload X.1 X.2.1 d_setKeys_95 (lv_at hl 0 rfl) ?_
            refine lv_iadd X.1 X.2.1 d_setKeys_97 ?_
            refine t_eq (y := nI ((32) * ((4) * (p0) + (2) * ((v + 1) % (2)) + i17) + i50)) (nI_add _ _) ?_
            have jn63 : ∀ w62 : Int32, W p l e (mR 6 148) s m AV below meth c H locs 0 0 QQ (F0 m 120 ls [.int w62, .int (nI ((32) * ((4) * (p0) + (2) * ((v + 1) % (2)) + i17) + i50)), .ref (q 52)]) := by
              intro w62
              refine m_bast X Y (aw_keys _ _ _ _ _ _ _) (vp_in_nI (by omega) (by decide)) (sw_keys _ _ _ _ _ _ _ _) d_setKeys_120 (fun H locs Y => ?_)
              generalize (upd (B53 52) ((nI ((32) * ((4) * (p0) + (2) * ((v + 1) % (2)) + i17) + i50))).toNatClampNeg (vp_nar .byte w62)) = f64 at Y
              refine lv_iinc (v := (nI (i50 + 1))) (lv' := [(4, .int (nI (i50 + 1))), (3, .int (nI i17)), (0, .ref h), (1, .int (nI p0)), (2, .int (nI cnt))]) X.1 X.2.1 d_setKeys_121 hl (k := 0) rfl (nI_add _ 1) (by decide) rfl (fun ls hl => ?_)
              refine lv_goto (tgt := 65) X.1 X.2.1 d_setKeys_124 (by decide) ?_
              exact ih51 (i50 + 1) (upB B53 52 f64) _ _ _ (by omega) (by omega) (fun j h5 h6 h7 h9 h10 h11 h12 h13 h15 h16 h17 h19 h20 h21 h24 h26 h27 h46 h47 h52 h56 => ((if_neg h52).trans (hB54 j h5 h6 h7 h9 h10 h11 h12 h13 h15 h16 h17 h19 h20 h21 h24 h26 h27 h46 h47 h52 h56))) (show by8 ((upB B53 52 f64) 12) from y55) (show by8 ((upB B53 52 f64) 13) from y56) (show by8 ((upB B53 52 f64) 16) from y57) (show by8 ((upB B53 52 f64) 17) from y58) (show ((upB B53 52 f64) 46) p0 = nI (v + 1) from g59)  Y (lv_sub hl [0, 1, 2, 3, 4] rfl)
            refine lv_iload_n X.1 X.2.1 d_setKeys_98 rfl (lv_at hl 1 rfl) ?_
            refine lv_if_ne (tgt := 113) X.1 X.2.1 d_setKeys_99 (by decide) (fun c65 => ?_) (fun c65 => ?_)
            · skip
              rw [← nI_0] at c65
              rw [nI_eq (by omega) (by omega)] at c65
              refine lv_aload_n X.1 X.2.1 d_setKeys_113 rfl (lv_at hl 2 rfl) ?_
              refine m_get X Y 56 (by decide) lk_made (gf_made _ _ _) rfl d_setKeys_114 ?_
              refine lv_iload X.1 X.2.1 d_setKeys_117 (lv_at hl 0 rfl) ?_
              refine m_bald X Y (aw_made _ _ _ _ _ _ _) (vp_in_nI (by omega) (by decide)) d_setKeys_119 ?_
              refine t_any (fun v66 => ?_)
              exact jn63 _
            · skip
              rw [← nI_0] at c65
              rw [nI_eq (by omega) (by omega)] at c65
              refine lv_iload X.1 X.2.1 d_setKeys_102 (lv_at hl 0 rfl) ?_
              refine lv_bipush (v := (nI 15)) X.1 X.2.1 d_setKeys_104 (by decide) ?_
              refine lv_icmp_le (tgt := 113) X.1 X.2.1 d_setKeys_106 (by decide) (fun c67 => ?_) (fun c67 => ?_)
              · skip
                rw [nI_leI (by omega) (by omega)] at c67
                refine lv_aload_n X.1 X.2.1 d_setKeys_113 rfl (lv_at hl 2 rfl) ?_
                refine m_get X Y 56 (by decide) lk_made (gf_made _ _ _) rfl d_setKeys_114 ?_
                refine lv_iload X.1 X.2.1 d_setKeys_117 (lv_at hl 0 rfl) ?_
                refine m_bald X Y (aw_made _ _ _ _ _ _ _) (vp_in_nI (by omega) (by decide)) d_setKeys_119 ?_
                refine t_any (fun v68 => ?_)
                exact jn63 _
              · skip
                rw [nI_leI (by omega) (by omega)] at c67
                refine lv_iconst (v := (nI 0)) X.1 X.2.1 d_setKeys_109 (by decide) ?_
                refine lv_goto (tgt := 120) X.1 X.2.1 d_setKeys_110 (by decide) ?_
                exact jn63 _
        exact lp52 (32) 0 B36 _ _ _ (by omega) (by omega) (fun j h5 h6 h7 h9 h10 h11 h12 h13 h15 h16 h17 h19 h20 h21 h24 h26 h27 h46 h47 h52 h56 => (hB48 j h5 h6 h7 h9 h10 h11 h12 h13 h15 h16 h17 h19 h20 h21 h24 h26 h27 h46 h47 h52 h56)) (show by8 (B36 12) from y43) (show by8 (B36 13) from y44) (show by8 (B36 16) from y45) (show by8 (B36 17) from y46) (show (B36 46) p0 = nI (v + 1) from (by rw [hB39 46 (by decide) (by decide) (by decide) (by decide) (by decide) (by decide) (by decide) (by decide) (by decide) (by decide) (by decide) (by decide) (by decide) (by decide) (by decide) (by decide) (by decide)]; exact (show (B21 46) p0 = nI (v + 1) from g28)))  Y (lv_sub hl [0, 1, 2, 3, 4] rfl)
      · skip
        rw [← nI_0] at c33
        rw [nI_eq (by omega) (by omega)] at c33
        refine lv_bipush (v := (nI 16)) X.1 X.2.1 d_setKeys_47 (by decide) ?_
        refine lv_goto (tgt := 54) X.1 X.2.1 d_setKeys_49 (by decide) ?_
        refine lv_iload_n X.1 X.2.1 d_setKeys_54 rfl (lv_at hl 3 rfl) ?_
        refine lv_aload_n X.1 X.2.1 d_setKeys_55 rfl (lv_at hl 1 rfl) ?_
        refine m_get X Y 56 (by decide) lk_made (gf_made _ _ _) rfl d_setKeys_56 ?_
        refine m_callv (As := [.int (nI 16), .int (nI cnt), .ref (q 56)]) (rest := []) (n := 3) X Y hZ hA hml hl.1 (c_passwordKey_16 l D E h q H.size I20 J B21 G (cnt) (pm) (sm) (by omega) (by omega) hk29 (by omega) hk30 (by omega) (show by8 (B21 12) from y24) (show by8 (B21 13) from y25) (show by8 (B21 16) from y26) (show by8 (B21 17) from y27)) kl_passwordKey ks_passwordKey kx_passwordKey ki_passwordKey ini_M hd_passwordKey ⟨by decide, by decide⟩ rfl (Nat.le_of_ble_eq_true rfl) d_setKeys_59 ⟨Nat.le_refl _, Nat.le_refl _⟩ (fun u H locs hp Y => ?_)
        obtain ⟨I69, J70, B71, G72⟩ := u
        obtain ⟨hI73, eJ75, hB74, eG76, y78, y79, y80, y81⟩ := hp
        dsimp only at hI73 eJ75 hB74 eG76 y78 y79 y80 y81 Y
        rw [eJ75, eG76] at Y
        have hI82 : (∀ j, j ≠ 8 → j ≠ 14 → j ≠ 18 → j ≠ 29 → I69 j = I j) := fun j h8 h14 h18 h29 => (hI73 j h8 h14 h18).trans ((fun j h8 h14 h18 h29 => (hI23 j h8 h14 h18 h29)) j h8 h14 h18 h29)
        have hB83 : (∀ j, j ≠ 5 → j ≠ 6 → j ≠ 7 → j ≠ 9 → j ≠ 10 → j ≠ 11 → j ≠ 12 → j ≠ 13 → j ≠ 15 → j ≠ 16 → j ≠ 17 → j ≠ 19 → j ≠ 20 → j ≠ 21 → j ≠ 24 → j ≠ 26 → j ≠ 27 → j ≠ 46 → j ≠ 47 → j ≠ 52 → j ≠ 56 → B71 j = B j) := fun j h5 h6 h7 h9 h10 h11 h12 h13 h15 h16 h17 h19 h20 h21 h24 h26 h27 h46 h47 h52 h56 => (hB74 j h5 h6 h7 h9 h10 h11 h12 h13 h15 h16 h17 h19 h20 h21 h26 h27 h56).trans ((fun j h5 h6 h7 h9 h10 h11 h12 h13 h15 h16 h17 h19 h20 h21 h24 h26 h27 h46 h47 h52 h56 => (hB22 j h5 h6 h7 h9 h10 h11 h12 h13 h15 h16 h17 h19 h20 h21 h24 h26 h27 h46 h47 h52 h56)) j h5 h6 h7 h9 h10 h11 h12 h13 h15 h16 h17 h19 h20 h21 h24 h26 h27 h46 h47 h52 h56)
        refine lv_iconst (v := (nI 0)) X.1 X.2.1 d_setKeys_62 (by decide) ?_
        refine lv_istore (lv' := [(4, .int (nI 0)), (3, .int (nI i17)), (0, .ref h), (1, .int (nI p0)), (2, .int (nI cnt))]) X.1 X.2.1 d_setKeys_63 hl (by decide) rfl (fun ls hl => ?_)
        have lp87 : ∀ (n84 i85 : Nat) (B88 : Nat → Nat → Int32) (H : Heap) (locs : List Loc) (ls : Array Slot), i85 + n84 = 32 → 0 ≤ i85 → (∀ j, j ≠ 5 → j ≠ 6 → j ≠ 7 → j ≠ 9 → j ≠ 10 → j ≠ 11 → j ≠ 12 → j ≠ 13 → j ≠ 15 → j ≠ 16 → j ≠ 17 → j ≠ 19 → j ≠ 20 → j ≠ 21 → j ≠ 24 → j ≠ 26 → j ≠ 27 → j ≠ 46 → j ≠ 47 → j ≠ 52 → j ≠ 56 → B88 j = B j) → by8 (B88 12) → by8 (B88 13) → by8 (B88 16) → by8 (B88 17) → (B88 46) p0 = nI (v + 1) → mH D E (mA E h q sz) s.heap h q I69 J B88 G H locs → lv_has ls 5 [(4, .int (nI i85)), (3, .int (nI i17)), (0, .ref h), (1, .int (nI p0)), (2, .int (nI cnt))] → W p l e (mR 6 148) s m AV below meth c H locs 0 0 QQ (F0 m 65 ls []) := by
          intro n84
          induction n84 with
          | zero =>
            intro i85 B88 H locs ls hii85 hsi85 hB89 y90 y91 y92 y93 g94  Y hl
            refine lv_iload X.1 X.2.1 d_setKeys_65 (lv_at hl 0 rfl) ?_
            refine lv_bipush (v := (nI 32)) X.1 X.2.1 d_setKeys_67 (by decide) ?_
            refine lv_icmp_ge (tgt := 127) X.1 X.2.1 d_setKeys_69 (by decide) (fun c95 => ?_) (fun c95 => absurd ?_ c95)
            rotate_left
            · (rw [nI_leI (by omega) (by omega)] <;> omega)
            rw [nI_leI (by omega) (by omega)] at c95
            refine lv_iinc (v := (nI (i17 + 1))) (lv' := [(3, .int (nI (i17 + 1))), (4, .int (nI i85)), (0, .ref h), (1, .int (nI p0)), (2, .int (nI cnt))]) X.1 X.2.1 d_setKeys_127 hl (k := 1) rfl (nI_add _ 1) (by decide) rfl (fun ls hl => ?_)
            refine lv_goto (tgt := 37) X.1 X.2.1 d_setKeys_130 (by decide) ?_
            exact ih18 (i17 + 1) I69 B88 _ _ _ (by omega) (by omega) (fun j h5 h6 h7 h9 h10 h11 h12 h13 h15 h16 h17 h19 h20 h21 h24 h26 h27 h46 h47 h52 h56 => (hB89 j h5 h6 h7 h9 h10 h11 h12 h13 h15 h16 h17 h19 h20 h21 h24 h26 h27 h46 h47 h52 h56)) (fun j h8 h14 h18 h29 => (hI82 j h8 h14 h18 h29)) (show by8 (B88 12) from y90) (show by8 (B88 13) from y91) (show by8 (B88 16) from y92) (show by8 (B88 17) from y93) (show (B88 46) p0 = nI (v + 1) from g94) ((show I69 30 = nI (pm) from ((hI73 30 (by decide) (by decide) (by decide)).trans hk29)).trans (congrArg nI (show (pm : Nat) = pm by omega))) ((show I69 29 = nI (sm) from ((hI73 29 (by decide) (by decide) (by decide)).trans hk30)).trans (congrArg nI (show (sm : Nat) = sm by omega)))  Y (lv_sub hl [0, 2, 3, 4] rfl)
          | succ n84 ih86 =>
            intro i85 B88 H locs ls hii85 hsi85 hB89 y90 y91 y92 y93 g94  Y hl
            refine lv_iload X.1 X.2.1 d_setKeys_65 (lv_at hl 0 rfl) ?_
            refine lv_bipush (v := (nI 32)) X.1 X.2.1 d_setKeys_67 (by decide) ?_
            refine lv_icmp_ge (tgt := 127) X.1 X.2.1 d_setKeys_69 (by decide) (fun c96 => absurd c96 ?_) (fun c96 => ?_)
            · (rw [nI_leI (by omega) (by omega)] <;> omega)
            rw [nI_leI (by omega) (by omega)] at c96
            refine lv_aload_n X.1 X.2.1 d_setKeys_72 rfl (lv_at hl 2 rfl) ?_
            refine m_get X Y 52 (by decide) lk_keys (gf_keys _ _ _) rfl d_setKeys_73 ?_
            refine lv_bipush (v := (nI 32)) X.1 X.2.1 d_setKeys_76 (by decide) ?_
            refine lv_iconst (v := (nI 4)) X.1 X.2.1 d_setKeys_78 (by decide) ?_
            refine lv_iload_n X.1 X.2.1 d_setKeys_79 rfl (lv_at hl 3 rfl) ?_
            refine lv_imul X.1 X.2.1 d_setKeys_80 ?_
            refine t_eq (y := nI ((4) * (p0))) (pk_mul _ _) ?_
            refine lv_iconst (v := (nI 2)) X.1 X.2.1 d_setKeys_81 (by decide) ?_
            refine lv_aload_n X.1 X.2.1 d_setKeys_82 rfl (lv_at hl 2 rfl) ?_
            refine m_get X Y 46 (by decide) lk_versions (gf_versions _ _ _) rfl d_setKeys_83 ?_
            refine lv_iload_n X.1 X.2.1 d_setKeys_86 rfl (lv_at hl 3 rfl) ?_
            refine m_iald X Y (aw_versions _ _ _ _ _ _ _) (vp_in_nI (by omega) (by decide)) d_setKeys_87 ?_
            refine t_eq (show B88 46 ((nI p0)).toNatClampNeg = nI (v + 1) from (by rw [nI_clamp (by omega)]; exact g94)) ?_
            refine lv_iconst (v := (nI 2)) X.1 X.2.1 d_setKeys_88 (by decide) ?_
            refine lv_irem X.1 X.2.1 d_setKeys_89 (nI_ne0 (by omega) (by omega)) ?_
            refine t_eq (y := nI ((v + 1) % (2))) (pk_rem (by omega) (by omega) (by omega)) ?_
            refine lv_imul X.1 X.2.1 d_setKeys_90 ?_
            refine t_eq (y := nI ((2) * ((v + 1) % (2)))) (pk_mul _ _) ?_
            refine lv_iadd X.1 X.2.1 d_setKeys_91 ?_
            refine t_eq (y := nI ((4) * (p0) + (2) * ((v + 1) % (2)))) (nI_add _ _) ?_
            refine lv_iload_n X.1 X.2.1 d_setKeys_92 rfl (lv_at hl 1 rfl) ?_
            refine lv_iadd X.1 X.2.1 d_setKeys_93 ?_
            refine t_eq (y := nI ((4) * (p0) + (2) * ((v + 1) % (2)) + i17)) (nI_add _ _) ?_
            refine lv_imul X.1 X.2.1 d_setKeys_94 ?_
            refine t_eq (y := nI ((32) * ((4) * (p0) + (2) * ((v + 1) % (2)) + i17))) (pk_mul _ _) ?_
            refine lv_iload X.1 X.2.1 d_setKeys_95 (lv_at hl 0 rfl) ?_
            refine lv_iadd X.1 X.2.1 d_setKeys_97 ?_
            refine t_eq (y := nI ((32) * ((4) * (p0) + (2) * ((v + 1) % (2)) + i17) + i85)) (nI_add _ _) ?_
            have jn98 : ∀ w97 : Int32, W p l e (mR 6 148) s m AV below meth c H locs 0 0 QQ (F0 m 120 ls [.int w97, .int (nI ((32) * ((4) * (p0) + (2) * ((v + 1) % (2)) + i17) + i85)), .ref (q 52)]) := by
              intro w97
              refine m_bast X Y (aw_keys _ _ _ _ _ _ _) (vp_in_nI (by omega) (by decide)) (sw_keys _ _ _ _ _ _ _ _) d_setKeys_120 (fun H locs Y => ?_)
              generalize (upd (B88 52) ((nI ((32) * ((4) * (p0) + (2) * ((v + 1) % (2)) + i17) + i85))).toNatClampNeg (vp_nar .byte w97)) = f99 at Y
              refine lv_iinc (v := (nI (i85 + 1))) (lv' := [(4, .int (nI (i85 + 1))), (3, .int (nI i17)), (0, .ref h), (1, .int (nI p0)), (2, .int (nI cnt))]) X.1 X.2.1 d_setKeys_121 hl (k := 0) rfl (nI_add _ 1) (by decide) rfl (fun ls hl => ?_)
              refine lv_goto (tgt := 65) X.1 X.2.1 d_setKeys_124 (by decide) ?_
              exact ih86 (i85 + 1) (upB B88 52 f99) _ _ _ (by omega) (by omega) (fun j h5 h6 h7 h9 h10 h11 h12 h13 h15 h16 h17 h19 h20 h21 h24 h26 h27 h46 h47 h52 h56 => ((if_neg h52).trans (hB89 j h5 h6 h7 h9 h10 h11 h12 h13 h15 h16 h17 h19 h20 h21 h24 h26 h27 h46 h47 h52 h56))) (show by8 ((upB B88 52 f99) 12) from y90) (show by8 ((upB B88 52 f99) 13) from y91) (show by8 ((upB B88 52 f99) 16) from y92) (show by8 ((upB B88 52 f99) 17) from y93) (show ((upB B88 52 f99) 46) p0 = nI (v + 1) from g94)  Y (lv_sub hl [0, 1, 2, 3, 4] rfl)
            refine lv_iload_n X.1 X.2.1 d_setKeys_98 rfl (lv_at hl 1 rfl) ?_
            refine lv_if_ne (tgt := 113) X.1 X.2.1 d_setKeys_99 (by decide) (fun c100 => ?_) (fun c100 => ?_)
            · skip
              rw [← nI_0] at c100
              rw [nI_eq (by omega) (by omega)] at c100
              refine lv_aload_n X.1 X.2.1 d_setKeys_113 rfl (lv_at hl 2 rfl) ?_
              refine m_get X Y 56 (by decide) lk_made (gf_made _ _ _) rfl d_setKeys_114 ?_
              refine lv_iload X.1 X.2.1 d_setKeys_117 (lv_at hl 0 rfl) ?_
              refine m_bald X Y (aw_made _ _ _ _ _ _ _) (vp_in_nI (by omega) (by decide)) d_setKeys_119 ?_
              refine t_any (fun v101 => ?_)
              exact jn98 _
            · skip
              rw [← nI_0] at c100
              rw [nI_eq (by omega) (by omega)] at c100
              refine lv_iload X.1 X.2.1 d_setKeys_102 (lv_at hl 0 rfl) ?_
              refine lv_bipush (v := (nI 15)) X.1 X.2.1 d_setKeys_104 (by decide) ?_
              refine lv_icmp_le (tgt := 113) X.1 X.2.1 d_setKeys_106 (by decide) (fun c102 => ?_) (fun c102 => ?_)
              · skip
                rw [nI_leI (by omega) (by omega)] at c102
                refine lv_aload_n X.1 X.2.1 d_setKeys_113 rfl (lv_at hl 2 rfl) ?_
                refine m_get X Y 56 (by decide) lk_made (gf_made _ _ _) rfl d_setKeys_114 ?_
                refine lv_iload X.1 X.2.1 d_setKeys_117 (lv_at hl 0 rfl) ?_
                refine m_bald X Y (aw_made _ _ _ _ _ _ _) (vp_in_nI (by omega) (by decide)) d_setKeys_119 ?_
                refine t_any (fun v103 => ?_)
                exact jn98 _
              · skip
                rw [nI_leI (by omega) (by omega)] at c102
                refine lv_iconst (v := (nI 0)) X.1 X.2.1 d_setKeys_109 (by decide) ?_
                refine lv_goto (tgt := 120) X.1 X.2.1 d_setKeys_110 (by decide) ?_
                exact jn98 _
        exact lp87 (32) 0 B71 _ _ _ (by omega) (by omega) (fun j h5 h6 h7 h9 h10 h11 h12 h13 h15 h16 h17 h19 h20 h21 h24 h26 h27 h46 h47 h52 h56 => (hB83 j h5 h6 h7 h9 h10 h11 h12 h13 h15 h16 h17 h19 h20 h21 h24 h26 h27 h46 h47 h52 h56)) (show by8 (B71 12) from y78) (show by8 (B71 13) from y79) (show by8 (B71 16) from y80) (show by8 (B71 17) from y81) (show (B71 46) p0 = nI (v + 1) from (by rw [hB74 46 (by decide) (by decide) (by decide) (by decide) (by decide) (by decide) (by decide) (by decide) (by decide) (by decide) (by decide) (by decide) (by decide) (by decide) (by decide) (by decide) (by decide)]; exact (show (B21 46) p0 = nI (v + 1) from g28)))  Y (lv_sub hl [0, 1, 2, 3, 4] rfl)
  exact lp19 (2) 0 I4 B6 _ _ _ (by omega) (by omega) (fun j h5 h6 h7 h9 h10 h11 h12 h13 h15 h16 h17 h19 h20 h21 h24 h26 h27 h46 h47 h52 h56 => (hB15 j h5 h6 h7 h9 h10 h11 h12 h13 h15 h16 h17 h19 h20 h21 h24 h26 h27 h46 h47 h52 h56)) (fun j h8 h14 h18 h29 => (hI14 j h8 h14 h18 h29)) (show by8 (B6 12) from (by8_eq (hB9 12 (by decide)) y12)) (show by8 (B6 13) from (by8_eq (hB9 13 (by decide)) y13)) (show by8 (B6 16) from (by8_eq (hB9 16 (by decide)) y16)) (show by8 (B6 17) from (by8_eq (hB9 17 (by decide)) y17)) (show (B6 46) p0 = nI (v + 1) from (by rw [hB9 46 (by decide)]; exact (show ((upB (upB B 46 f1) 47 f3) 46) p0 = nI (v + 1) from g2))) ((show I4 30 = nI (pm) from ((hI8 30 (by decide)).trans hpm)).trans (congrArg nI (show (pm : Nat) = pm by omega))) ((show I4 29 = nI (sm) from hsm2).trans (congrArg nI (show (sm : Nat) = sm by omega)))  Y (lv_sub hl [0, 1, 2, 3] rfl)
