theorem t_f6 {E : cE} {T : cT} {F : Nat → Prop} {κ0 κ : tK} {L0 L : List Nat} {f0 f : pF} {a b : Nat} (S : tS E T F κ0 L0 f0 κ L f) (hk : κ a = (10, 0)) (e1 : gF f a 6 = .ref b) : κ b = (14, 0) := by
  obtain ⟨ha, fs, ef, ho⟩ := t_obj (ci := 0) S.1 hk
  obtain ⟨b2, h1, h2⟩ := (t_fld (k := 6) (t := (2, 14, 0)) ho rfl ef).2
  rw [e1] at h1
  rw [Value.ref.inj h1]
  exact h2
theorem t_f1 {E : cE} {T : cT} {F : Nat → Prop} {κ0 κ : tK} {L0 L : List Nat} {f0 f : pF} {a b : Nat} (S : tS E T F κ0 L0 f0 κ L f) (hk : κ a = (10, 0)) (e1 : gF f a 1 = .ref b) : κ b = (13, 4000) := by
  obtain ⟨ha, fs, ef, ho⟩ := t_obj (ci := 0) S.1 hk
  obtain ⟨b2, h1, h2⟩ := (t_fld (k := 1) (t := (2, 13, 4000)) ho rfl ef).2
  rw [e1] at h1
  rw [Value.ref.inj h1]
  exact h2
set_option maxHeartbeats 4000000 in
set_option maxRecDepth 100000 in
theorem c_Ce_shownX (l : Launch) (D : va_G) (E : cE) (T : cT) (κ : tK) (L : List Nat) (f : pF) (sz : Nat) (h : Nat) (k0 : κ h = (14, 0)) (a1 : Int) (l_a1 : (-2147483648) ≤ a1) (u_a1 : a1 ≤ 2147483647) (hw : tW E T κ L f) (tp : Nat) (ktp : κ tp = (13, 4000)) (e3 : gF f h 3 = .ref tp) (sz0 : Int) (g0 : gF f tp 1 = .int (iI sz0)) (g1 : 0 ≤ sz0) (g2 : sz0 ≤ 4000) (q0 : TopP (rb f tp) sz0) : Met l y_Ce_shown (k_Ce_shown :: lw_tg) (kRm 3 112 0 0) (va_Pc [.ref h, .int (iI a1)] (kPre D E T L f sz)) (va_Qi (uPi L f (fun (z : Int) => (-1) ≤ z ∧ z ≤ 12420 ∧ (0 ≤ z → StG (rb f tp) sz0 z))) (cPost D E (pA L sz)) (pA L sz)) 0 0 (pA L sz) := by
  refine k_enter (own := R_Ce) (by decide) rfl (Nat.le_of_ble_eq_true rfl) (fun p e s m below meth c ls AV QQ H locs hQQ X Y hA hin hr hlk hml hl KS KR => ?_)
  have hl : lv_has ls 5 [(0, .ref h), (1, .int (iI a1))] := hl
  have S : tS E T (tFr κ L [] []) κ L f κ L f := tS_rf hw
  refine lv_aload_n X.1 X.2.1 d_Ce_shown_0 rfl (lv_at hl 0 rfl) ?_
  refine t_get0 (ci := 4) X Y S k0 rfl i_Ce 3 (by decide) rfl lk_Ce_30 (fun _ h9 => h9) d_Ce_shown_1 e3 ?_
  refine lv_iconst (v := iI 0) X.1 X.2.1 d_Ce_shown_4 (by decide) ?_
  refine lv_iconst (v := iI 3) X.1 X.2.1 d_Ce_shown_5 (by decide) ?_
  refine t_ui (t_runV (As := [.int (iI 0), .int (iI 3)]) (rest := []) (n := 2) X Y S ktp hml hl.1 (c_By_field03 l D E T κ L f H.size tp 4000 ktp (by omega) S.1 sz0 g0 (by omega) (by omega) q0) (ok_k X Y hA KS KR) rfl kl_Ce_By_field ks_By_field kx_By_field ki_By_field ini_By ⟨rfl, rfl⟩ hd_By_field ⟨Nat.le_of_ble_eq_true rfl, Nat.le_of_ble_eq_true rfl⟩ rfl (Nat.le_of_ble_eq_true rfl) d_Ce_shown_6 ⟨Nat.le_of_ble_eq_true rfl, Nat.le_of_ble_eq_true rfl⟩) X Y hA (fun z101 H locs Y p101 => ?_)
  obtain ⟨l101, u101, x101⟩ := p101
  refine lv_istore_n (lv' := [(2, .int (iI z101)), (0, .ref h), (1, .int (iI a1))]) X.1 X.2.1 d_Ce_shown_9 rfl hl (by decide) rfl (fun ls hl => ?_)
  refine lv_iconst (v := iI 0) X.1 X.2.1 d_Ce_shown_10 (by decide) ?_
  have J103 : ∀ (n105 : Nat) (z102 : Int) (H : Heap) (locs : List Loc) (ls : Array Slot), (16 - z102).toNat = n105 → (0 ≤ z102) → (z102 ≤ 16) → pH D cCl (pA L sz) s.heap L f H locs → tS E T (tFr κ L [] []) κ L f κ L f → lv_has ls 5 [(0, .ref h), (1, .int (iI a1)), (2, .int (iI z101)), (3, .int (iI z102))] → W p l e (kRm 3 112 0 0) s m AV below meth c H locs 0 0 QQ (F0 m 12 ls []) := by
    intro n105
    induction n105 using Nat.strongRecOn with
    | ind n105 ih104 =>
      intro z102 H locs ls hm106 l102 u102 Y S hl
      refine lv_iload_n X.1 X.2.1 d_Ce_shown_12 rfl (lv_at hl 3 rfl) ?_
      refine lv_bipush (v := iI 16) X.1 X.2.1 d_Ce_shown_13 (by decide) ?_
      refine z_icmp_ge (tgt := 74) X.1 X.2.1 d_Ce_shown_15 (by decide) ⟨by omega, by omega⟩ ⟨by omega, by omega⟩ (fun h107 => ?_) (fun h107 => ?_)
      · refine lv_iconst (v := iI (-1)) X.1 X.2.1 d_Ce_shown_74 (by decide) ?_
        exact c_reti hQQ X Y hr hlk ⟨rfl, rfl, (-1), rfl, ⟨by omega, by omega, fun h9 => absurd h9 (by decide)⟩⟩ d_Ce_shown_75
      · refine lv_aload_n X.1 X.2.1 d_Ce_shown_18 rfl (lv_at hl 0 rfl) ?_
        refine t_get0 (ci := 4) X Y S k0 rfl i_Ce 3 (by decide) rfl lk_Ce_30 (fun _ h9 => h9) d_Ce_shown_19 e3 ?_
        refine lv_iload_n X.1 X.2.1 d_Ce_shown_22 rfl (lv_at hl 2 rfl) ?_
        refine lv_iload_n X.1 X.2.1 d_Ce_shown_23 rfl (lv_at hl 3 rfl) ?_
        refine t_ui (t_runV (As := [.int (iI z101), .int (iI z102)]) (rest := []) (n := 2) X Y S ktp hml hl.1 (c_By_elementR l D E T κ L f H.size tp 4000 ktp (by omega) z101 (by omega) (by omega) z102 (by omega) (by omega) S.1 sz0 g0 (by omega) (by omega) x101) (ok_k X Y hA KS KR) rfl kl_Ce_By_element ks_By_element kx_By_element ki_By_element ini_By ⟨rfl, rfl⟩ hd_By_element ⟨Nat.le_of_ble_eq_true rfl, Nat.le_of_ble_eq_true rfl⟩ rfl (Nat.le_of_ble_eq_true rfl) d_Ce_shown_24 ⟨Nat.le_of_ble_eq_true rfl, Nat.le_of_ble_eq_true rfl⟩) X Y hA (fun z108 H locs Y p108 => ?_)
        obtain ⟨l108, u108, x108⟩ := p108
        refine lv_istore (lv' := [(4, .int (iI z108)), (0, .ref h), (1, .int (iI a1)), (2, .int (iI z101)), (3, .int (iI z102))]) X.1 X.2.1 d_Ce_shown_27 hl (by decide) rfl (fun ls hl => ?_)
        refine lv_iload X.1 X.2.1 d_Ce_shown_29 (lv_at hl 0 rfl) ?_
        have J109 : ∀  (H : Heap) (locs : List Loc) (ls : Array Slot), pH D cCl (pA L sz) s.heap L f H locs → tS E T (tFr κ L [] []) κ L f κ L f → lv_has ls 5 [(0, .ref h), (1, .int (iI a1)), (2, .int (iI z101)), (3, .int (iI z102))] → W p l e (kRm 3 112 0 0) s m AV below meth c H locs 0 0 QQ (F0 m 68 ls []) := by
          intro  H locs ls  Y S hl
          refine lv_iinc (v := iI (z102 + 1)) (lv' := [(3, .int (iI (z102 + 1))), (0, .ref h), (1, .int (iI a1)), (2, .int (iI z101))]) X.1 X.2.1 d_Ce_shown_68 hl (k := 3) rfl ((iI_add _ _).trans (congrArg iI (by omega))) (by decide) rfl (fun ls hl => ?_)
          refine lv_goto (tgt := 12) X.1 X.2.1 d_Ce_shown_71 (by decide) ?_
          exact ih104 ((16 - (z102 + 1)).toNat) (by omega) (z102 + 1) _ _ _ rfl (by omega) (by omega) Y S (lv_sub hl [1, 2, 3, 0] rfl)
        refine z_if_lt (tgt := 68) X.1 X.2.1 d_Ce_shown_31 (by decide) ⟨by omega, by omega⟩ (fun h113 => ?_) (fun h113 => ?_)
        · exact J109  _ _ _  Y S (lv_sub hl [1, 2, 3, 4] rfl)
        · refine lv_aload_n X.1 X.2.1 d_Ce_shown_34 rfl (lv_at hl 1 rfl) ?_
          refine t_get0 (ci := 4) X Y S k0 rfl i_Ce 3 (by decide) rfl lk_Ce_30 (fun _ h9 => h9) d_Ce_shown_35 e3 ?_
          refine lv_aload_n X.1 X.2.1 d_Ce_shown_38 rfl (lv_at hl 1 rfl) ?_
          refine t_get0 (ci := 4) X Y S k0 rfl i_Ce 3 (by decide) rfl lk_Ce_30 (fun _ h9 => h9) d_Ce_shown_39 e3 ?_
          refine lv_iload X.1 X.2.1 d_Ce_shown_42 (lv_at hl 0 rfl) ?_
          refine lv_iconst (v := iI 1) X.1 X.2.1 d_Ce_shown_44 (by decide) ?_
          refine t_ui (t_runV (As := [.int (iI z108), .int (iI 1)]) (rest := [.ref tp]) (n := 2) X Y S ktp hml hl.1 (c_By_field l D E T κ L f H.size tp 4000 ktp (by omega) z108 (by omega) (by omega) 1 (by omega) (by omega) S.1) (ok_k X Y hA KS KR) rfl kl_Ce_By_field ks_By_field kx_By_field ki_By_field ini_By ⟨rfl, rfl⟩ hd_By_field ⟨Nat.le_of_ble_eq_true rfl, Nat.le_of_ble_eq_true rfl⟩ rfl (Nat.le_of_ble_eq_true rfl) d_Ce_shown_45 ⟨Nat.le_of_ble_eq_true rfl, Nat.le_of_ble_eq_true rfl⟩) X Y hA (fun z114 H locs Y p114 => ?_)
          obtain ⟨l114, u114⟩ := p114
          refine t_ul (t_runV (As := [.int (iI z114)]) (rest := []) (n := 1) X Y S ktp hml hl.1 (c_By_numberAt l D E T κ L f H.size tp 4000 ktp (by omega) z114 (by omega) (by omega) S.1) (ok_k X Y hA KS KR) rfl kl_Ce_By_numberAt ks_By_numberAt kx_By_numberAt ki_By_numberAt ini_By ⟨rfl, rfl⟩ hd_By_numberAt ⟨Nat.le_of_ble_eq_true rfl, Nat.le_of_ble_eq_true rfl⟩ rfl (Nat.le_of_ble_eq_true rfl) d_Ce_shown_48 ⟨Nat.le_of_ble_eq_true rfl, Nat.le_of_ble_eq_true rfl⟩) X Y hA (fun v115 H locs Y p115 => ?_)
          refine lv_iload_n X.1 X.2.1 d_Ce_shown_51 rfl (lv_at hl 2 rfl) ?_
          refine lv_i2l X.1 X.2.1 d_Ce_shown_52 rfl ?_
          refine t_anyl (fun v116 => ?_)
          refine W.lcmp X.1 X.2.1 d_Ce_shown_53 ?_
          refine t_u (fun z117 l117 u117 => ?_)
          refine z_if_ne (tgt := 68) X.1 X.2.1 d_Ce_shown_54 (by decide) ⟨by omega, by omega⟩ (fun h118 => ?_) (fun h118 => ?_)
          · exact J109  _ _ _  Y S (lv_sub hl [1, 2, 3, 4] rfl)
          · refine lv_aload_n X.1 X.2.1 d_Ce_shown_57 rfl (lv_at hl 1 rfl) ?_
            refine t_get0 (ci := 4) X Y S k0 rfl i_Ce 3 (by decide) rfl lk_Ce_30 (fun _ h9 => h9) d_Ce_shown_58 e3 ?_
            refine lv_iload X.1 X.2.1 d_Ce_shown_61 (lv_at hl 0 rfl) ?_
            refine lv_iconst (v := iI 2) X.1 X.2.1 d_Ce_shown_63 (by decide) ?_
            refine t_ui (t_runV (As := [.int (iI z108), .int (iI 2)]) (rest := []) (n := 2) X Y S ktp hml hl.1 (c_By_fieldE2 l D E T κ L f H.size tp 4000 ktp (by omega) z108 (by omega) (by omega) S.1 sz0 g0 (by omega) (by omega) (x108 (by omega)).1 (x108 (by omega)).2) (ok_k X Y hA KS KR) rfl kl_Ce_By_field ks_By_field kx_By_field ki_By_field ini_By ⟨rfl, rfl⟩ hd_By_field ⟨Nat.le_of_ble_eq_true rfl, Nat.le_of_ble_eq_true rfl⟩ rfl (Nat.le_of_ble_eq_true rfl) d_Ce_shown_64 ⟨Nat.le_of_ble_eq_true rfl, Nat.le_of_ble_eq_true rfl⟩) X Y hA (fun z119 H locs Y p119 => ?_)
            obtain ⟨l119, u119, x119⟩ := p119
            exact c_reti hQQ X Y hr hlk ⟨rfl, rfl, z119, rfl, ⟨by omega, by omega, x119⟩⟩ d_Ce_shown_67
  refine lv_istore_n (lv' := [(3, .int (iI 0)), (2, .int (iI z101)), (0, .ref h), (1, .int (iI a1))]) X.1 X.2.1 d_Ce_shown_11 rfl hl (by decide) rfl (fun ls hl => ?_)
  exact J103 _ 0 _ _ _ rfl (by omega) (by omega) Y S (lv_sub hl [2, 3, 1, 0] rfl)
set_option maxHeartbeats 4000000 in
set_option maxRecDepth 100000 in
theorem c_Ce_judgeX (l : Launch) (D : va_G) (E : cE) (T : cT) (κ : tK) (L : List Nat) (f : pF) (sz : Nat) (h : Nat) (k0 : κ h = (14, 0)) (hw : tW E T κ L f) (tp : Nat) (ktp : κ tp = (13, 4000)) (e3 : gF f h 3 = .ref tp) (sz0 : Int) (g0 : gF f tp 1 = .int (iI sz0)) (g1 : 0 ≤ sz0) (g2 : sz0 ≤ 4000) : Met l y_Ce_judge (k_Ce_judge :: lw_tg) (kRm 71 2363 0 0) (va_Pc [.ref h] (kPre D E T L f sz)) (va_Qi (nPi E T [14] κ L f (fun (z : Int) (g : pF) => (-2147483648) ≤ z ∧ z ≤ 2147483647 ∧ (z = 0 → TopP (rb f tp) sz0) ∧ gF g h 3 = gF f h 3)) (cPost D E (pA L sz)) (pA L sz)) 0 0 (pA L sz) := by
  refine k_enter (own := R_Ce) (by decide) rfl (Nat.le_of_ble_eq_true rfl) (fun p e s m below meth c ls AV QQ H locs hQQ X Y hA hin hr hlk hml hl KS KR => ?_)
  have hl : lv_has ls 2 [(0, .ref h)] := hl
  have S : tS E T (tFr κ L [14] []) κ L f κ L f := tS_rf hw
  refine lv_aload_n X.1 X.2.1 d_Ce_judge_0 rfl (lv_at hl 0 rfl) ?_
  refine t_get0 (ci := 4) X Y S k0 rfl i_Ce 3 (by decide) rfl lk_Ce_30 (fun _ h9 => h9) d_Ce_judge_1 e3 ?_
  refine lv_iconst (v := iI 0) X.1 X.2.1 d_Ce_judge_4 (by decide) ?_
  refine t_ui (t_runV (As := [.int (iI 0)]) (rest := []) (n := 1) X Y S ktp hml hl.1 (c_By_atX l D E T κ L f H.size tp 4000 ktp (by omega) 0 (by omega) (by omega) S.1 sz0 g0 (by omega) (by omega)) (ok_k X Y hA KS KR) rfl kl_Ce_By_at ks_By_at kx_By_at ki_By_at ini_By ⟨rfl, rfl⟩ hd_By_at ⟨Nat.le_of_ble_eq_true rfl, Nat.le_of_ble_eq_true rfl⟩ rfl (Nat.le_of_ble_eq_true rfl) d_Ce_judge_5 ⟨Nat.le_of_ble_eq_true rfl, Nat.le_of_ble_eq_true rfl⟩) X Y hA (fun z101 H locs Y p101 => ?_)
  obtain ⟨l101, u101, x101⟩ := p101
  refine lv_istore_n (lv' := [(1, .int (iI z101)), (0, .ref h)]) X.1 X.2.1 d_Ce_judge_8 rfl hl (by decide) rfl (fun ls hl => ?_)
  refine lv_aload_n X.1 X.2.1 d_Ce_judge_9 rfl (lv_at hl 1 rfl) ?_
  refine lv_iload_n X.1 X.2.1 d_Ce_judge_10 rfl (lv_at hl 0 rfl) ?_
  refine lv_bipush (v := iI 106) X.1 X.2.1 d_Ce_judge_11 (by decide) ?_
  refine z_icmp_ne (tgt := 20) X.1 X.2.1 d_Ce_judge_13 (by decide) ⟨by omega, by omega⟩ ⟨by omega, by omega⟩ (fun h102 => ?_) (fun h102 => ?_)
  · refine lv_iconst (v := iI 0) X.1 X.2.1 d_Ce_judge_20 (by decide) ?_
    refine t_put (ci := 4) X Y S k0 rfl i_Ce t_Ce t_Ce_ok n_Ce 6 (by decide) rfl lk_Ce_65 (fun _ h9 => h9) rfl (t_Ce_ok 6 (by decide)) (iI_bool (by omega) (by omega)).1 (iI_bool (by omega) (by omega)).2 ⟨_, rfl, (show (0 : Int) ≤ 0 by omega), (show 0 ≤ (1 : Int) by omega)⟩ (nF_of S k0 (by decide)) d_Ce_judge_21 (fun f103 H locs Y S w103 => ?_)
    refine lv_aload_n X.1 X.2.1 d_Ce_judge_24 rfl (lv_at hl 1 rfl) ?_
    refine lv_aload_n X.1 X.2.1 d_Ce_judge_25 rfl (lv_at hl 1 rfl) ?_
    refine t_get0 (ci := 4) X Y S k0 rfl i_Ce 6 (by decide) rfl lk_Ce_65 (fun _ h9 => h9) d_Ce_judge_26 w103.2.1 ?_
    refine z_if_ne (tgt := 38) X.1 X.2.1 d_Ce_judge_29 (by decide) ⟨by omega, by omega⟩ (fun h104 => False.elim (by omega)) (fun h104 => ?_)
    · refine lv_iload_n X.1 X.2.1 d_Ce_judge_32 rfl (lv_at hl 0 rfl) ?_
      refine lv_bipush (v := iI 108) X.1 X.2.1 d_Ce_judge_33 (by decide) ?_
      refine z_icmp_ne (tgt := 65) X.1 X.2.1 d_Ce_judge_35 (by decide) ⟨by omega, by omega⟩ ⟨by omega, by omega⟩ (fun h105 => ?_) (fun h105 => ?_)
      · refine lv_iconst (v := iI 0) X.1 X.2.1 d_Ce_judge_65 (by decide) ?_
        refine t_put (ci := 4) X Y S k0 rfl i_Ce t_Ce t_Ce_ok n_Ce 7 (by decide) rfl lk_Ce_76 (fun _ h9 => h9) rfl (t_Ce_ok 7 (by decide)) (iI_bool (by omega) (by omega)).1 (iI_bool (by omega) (by omega)).2 ⟨_, rfl, (show (0 : Int) ≤ 0 by omega), (show 0 ≤ (1 : Int) by omega)⟩ (nF_of S k0 (by decide)) d_Ce_judge_66 (fun f106 H locs Y S w106 => ?_)
        refine lv_aload_n X.1 X.2.1 d_Ce_judge_69 rfl (lv_at hl 1 rfl) ?_
        refine t_get0 (ci := 4) X Y S k0 rfl i_Ce 7 (by decide) rfl lk_Ce_76 (fun _ h9 => h9) d_Ce_judge_70 w106.2.1 ?_
        refine z_if_ne (tgt := 79) X.1 X.2.1 d_Ce_judge_73 (by decide) ⟨by omega, by omega⟩ (fun h107 => False.elim (by omega)) (fun h107 => ?_)
        · refine lv_bipush (v := iI 60) X.1 X.2.1 d_Ce_judge_76 (by decide) ?_
          exact c_reti hQQ X Y hr hlk ⟨rfl, S, 60, rfl, ⟨by omega, by omega, fun h9 => absurd h9 (by omega), (((gF_put w106 (Or.inr (by decide))).trans ((gF_put w103 (Or.inr (by decide))).trans e3))).trans e3.symm⟩⟩ d_Ce_judge_78
      · refine lv_aload_n X.1 X.2.1 d_Ce_judge_38 rfl (lv_at hl 1 rfl) ?_
        refine t_get0 (ci := 4) X Y S k0 rfl i_Ce 3 (by decide) rfl lk_Ce_30 (fun _ h9 => h9) d_Ce_judge_39 ((gF_put w103 (Or.inr (by decide))).trans e3) ?_
        refine lv_sipush (v := iI 256) X.1 X.2.1 d_Ce_judge_42 (by decide) ?_
        refine lv_iload_n X.1 X.2.1 d_Ce_judge_45 rfl (lv_at hl 0 rfl) ?_
        refine z_iadd X.1 X.2.1 d_Ce_judge_46 ?_
        refine lv_iconst (v := iI 0) X.1 X.2.1 d_Ce_judge_47 (by decide) ?_
        refine lv_aload_n X.1 X.2.1 d_Ce_judge_48 rfl (lv_at hl 1 rfl) ?_
        refine t_get0 (ci := 4) X Y S k0 rfl i_Ce 3 (by decide) rfl lk_Ce_30 (fun _ h9 => h9) d_Ce_judge_49 ((gF_put w103 (Or.inr (by decide))).trans e3) ?_
        refine t_get0 (ci := 3) X Y S ktp rfl i_By 1 (by decide) rfl lk_Ce_69 (fun _ h9 => h9) d_Ce_judge_52 ((gF_put w103 (Or.inr (by decide))).trans g0) ?_
        refine t_ui (t_runV (As := [.int (iI (256 + z101)), .int (iI 0), .int (iI sz0)]) (rest := [.ref h]) (n := 3) X Y S ktp hml hl.1 (c_By_isAX l D E T κ L f103 H.size tp 4000 ktp (by omega) (256 + z101) (by omega) (by omega) 0 (by omega) (by omega) sz0 (by omega) (by omega) S.1 sz0 ((gF_put w103 (Or.inr (by decide))).trans g0) (by omega) (by omega) (by omega)) (ok_k X Y hA KS KR) rfl kl_Ce_By_isA ks_By_isA kx_By_isA ki_By_isA ini_By ⟨rfl, rfl⟩ hd_By_isA ⟨Nat.le_of_ble_eq_true rfl, Nat.le_of_ble_eq_true rfl⟩ rfl (Nat.le_of_ble_eq_true rfl) d_Ce_judge_55 ⟨Nat.le_of_ble_eq_true rfl, Nat.le_of_ble_eq_true rfl⟩) X Y hA (fun z108 H locs Y p108 => ?_)
        obtain ⟨l108, u108, x108⟩ := p108
        have ft109 : z108 = 1 → FitP (rb f tp) sz0 (256 + z101) 0 sz0 := by rw [← rb_S S ktp (by decide) (by decide)]; exact x108
        refine z_if_eq (tgt := 65) X.1 X.2.1 d_Ce_judge_58 (by decide) ⟨by omega, by omega⟩ (fun h110 => ?_) (fun h110 => ?_)
        · refine lv_iconst (v := iI 0) X.1 X.2.1 d_Ce_judge_65 (by decide) ?_
          refine t_put (ci := 4) X Y S k0 rfl i_Ce t_Ce t_Ce_ok n_Ce 7 (by decide) rfl lk_Ce_76 (fun _ h9 => h9) rfl (t_Ce_ok 7 (by decide)) (iI_bool (by omega) (by omega)).1 (iI_bool (by omega) (by omega)).2 ⟨_, rfl, (show (0 : Int) ≤ 0 by omega), (show 0 ≤ (1 : Int) by omega)⟩ (nF_of S k0 (by decide)) d_Ce_judge_66 (fun f111 H locs Y S w111 => ?_)
          refine lv_aload_n X.1 X.2.1 d_Ce_judge_69 rfl (lv_at hl 1 rfl) ?_
          refine t_get0 (ci := 4) X Y S k0 rfl i_Ce 7 (by decide) rfl lk_Ce_76 (fun _ h9 => h9) d_Ce_judge_70 w111.2.1 ?_
          refine z_if_ne (tgt := 79) X.1 X.2.1 d_Ce_judge_73 (by decide) ⟨by omega, by omega⟩ (fun h112 => False.elim (by omega)) (fun h112 => ?_)
          · refine lv_bipush (v := iI 60) X.1 X.2.1 d_Ce_judge_76 (by decide) ?_
            exact c_reti hQQ X Y hr hlk ⟨rfl, S, 60, rfl, ⟨by omega, by omega, fun h9 => absurd h9 (by omega), (((gF_put w111 (Or.inr (by decide))).trans ((gF_put w103 (Or.inr (by decide))).trans e3))).trans e3.symm⟩⟩ d_Ce_judge_78
        · refine lv_iconst (v := iI 1) X.1 X.2.1 d_Ce_judge_61 (by decide) ?_
          refine lv_goto (tgt := 66) X.1 X.2.1 d_Ce_judge_62 (by decide) ?_
          refine t_put (ci := 4) X Y S k0 rfl i_Ce t_Ce t_Ce_ok n_Ce 7 (by decide) rfl lk_Ce_76 (fun _ h9 => h9) rfl (t_Ce_ok 7 (by decide)) (iI_bool (by omega) (by omega)).1 (iI_bool (by omega) (by omega)).2 ⟨_, rfl, (show (0 : Int) ≤ 1 by omega), (show 1 ≤ (1 : Int) by omega)⟩ (nF_of S k0 (by decide)) d_Ce_judge_66 (fun f113 H locs Y S w113 => ?_)
          refine lv_aload_n X.1 X.2.1 d_Ce_judge_69 rfl (lv_at hl 1 rfl) ?_
          refine t_get0 (ci := 4) X Y S k0 rfl i_Ce 7 (by decide) rfl lk_Ce_76 (fun _ h9 => h9) d_Ce_judge_70 w113.2.1 ?_
          refine z_if_ne (tgt := 79) X.1 X.2.1 d_Ce_judge_73 (by decide) ⟨by omega, by omega⟩ (fun h114 => ?_) (fun h114 => False.elim (by omega))
          · refine lv_aload_n X.1 X.2.1 d_Ce_judge_79 rfl (lv_at hl 1 rfl) ?_
            refine t_get0 (ci := 4) X Y S k0 rfl i_Ce 3 (by decide) rfl lk_Ce_30 (fun _ h9 => h9) d_Ce_judge_80 ((gF_put w113 (Or.inr (by decide))).trans ((gF_put w103 (Or.inr (by decide))).trans e3)) ?_
            refine lv_aload_n X.1 X.2.1 d_Ce_judge_83 rfl (lv_at hl 1 rfl) ?_
            refine t_get0 (ci := 4) X Y S k0 rfl i_Ce 3 (by decide) rfl lk_Ce_30 (fun _ h9 => h9) d_Ce_judge_84 ((gF_put w113 (Or.inr (by decide))).trans ((gF_put w103 (Or.inr (by decide))).trans e3)) ?_
            refine lv_iconst (v := iI 0) X.1 X.2.1 d_Ce_judge_87 (by decide) ?_
            refine lv_iconst (v := iI 1) X.1 X.2.1 d_Ce_judge_88 (by decide) ?_
            refine t_ui (t_runV (As := [.int (iI 0), .int (iI 1)]) (rest := [.ref tp]) (n := 2) X Y S ktp hml hl.1 (c_By_field l D E T κ L f113 H.size tp 4000 ktp (by omega) 0 (by omega) (by omega) 1 (by omega) (by omega) S.1) (ok_k X Y hA KS KR) rfl kl_Ce_By_field ks_By_field kx_By_field ki_By_field ini_By ⟨rfl, rfl⟩ hd_By_field ⟨Nat.le_of_ble_eq_true rfl, Nat.le_of_ble_eq_true rfl⟩ rfl (Nat.le_of_ble_eq_true rfl) d_Ce_judge_89 ⟨Nat.le_of_ble_eq_true rfl, Nat.le_of_ble_eq_true rfl⟩) X Y hA (fun z115 H locs Y p115 => ?_)
            obtain ⟨l115, u115⟩ := p115
            refine t_ul (t_runV (As := [.int (iI z115)]) (rest := []) (n := 1) X Y S ktp hml hl.1 (c_By_numberAt l D E T κ L f113 H.size tp 4000 ktp (by omega) z115 (by omega) (by omega) S.1) (ok_k X Y hA KS KR) rfl kl_Ce_By_numberAt ks_By_numberAt kx_By_numberAt ki_By_numberAt ini_By ⟨rfl, rfl⟩ hd_By_numberAt ⟨Nat.le_of_ble_eq_true rfl, Nat.le_of_ble_eq_true rfl⟩ rfl (Nat.le_of_ble_eq_true rfl) d_Ce_judge_92 ⟨Nat.le_of_ble_eq_true rfl, Nat.le_of_ble_eq_true rfl⟩) X Y hA (fun v116 H locs Y p116 => ?_)
            refine lv_ldc2 (v := (5)) X.1 X.2.1 X.2.2.2.1 (X.2.2.1 _ cl_Ce_79) d_Ce_judge_95 ?_
            refine W.lcmp X.1 X.2.1 d_Ce_judge_98 ?_
            refine t_u (fun z117 l117 u117 => ?_)
            refine z_if_eq (tgt := 104) X.1 X.2.1 d_Ce_judge_99 (by decide) ⟨by omega, by omega⟩ (fun h118 => ?_) (fun h118 => ?_)
            · refine lv_aload_n X.1 X.2.1 d_Ce_judge_104 rfl (lv_at hl 1 rfl) ?_
              refine t_get0 (ci := 4) X Y S k0 rfl i_Ce 3 (by decide) rfl lk_Ce_30 (fun _ h9 => h9) d_Ce_judge_105 ((gF_put w113 (Or.inr (by decide))).trans ((gF_put w103 (Or.inr (by decide))).trans e3)) ?_
              refine lv_aload_n X.1 X.2.1 d_Ce_judge_108 rfl (lv_at hl 1 rfl) ?_
              refine t_get0 (ci := 4) X Y S k0 rfl i_Ce 3 (by decide) rfl lk_Ce_30 (fun _ h9 => h9) d_Ce_judge_109 ((gF_put w113 (Or.inr (by decide))).trans ((gF_put w103 (Or.inr (by decide))).trans e3)) ?_
              refine lv_iconst (v := iI 0) X.1 X.2.1 d_Ce_judge_112 (by decide) ?_
              refine lv_iconst (v := iI 2) X.1 X.2.1 d_Ce_judge_113 (by decide) ?_
              refine t_ui (t_runV (As := [.int (iI 0), .int (iI 2)]) (rest := [.ref tp]) (n := 2) X Y S ktp hml hl.1 (c_By_field l D E T κ L f113 H.size tp 4000 ktp (by omega) 0 (by omega) (by omega) 2 (by omega) (by omega) S.1) (ok_k X Y hA KS KR) rfl kl_Ce_By_field ks_By_field kx_By_field ki_By_field ini_By ⟨rfl, rfl⟩ hd_By_field ⟨Nat.le_of_ble_eq_true rfl, Nat.le_of_ble_eq_true rfl⟩ rfl (Nat.le_of_ble_eq_true rfl) d_Ce_judge_114 ⟨Nat.le_of_ble_eq_true rfl, Nat.le_of_ble_eq_true rfl⟩) X Y hA (fun z119 H locs Y p119 => ?_)
              obtain ⟨l119, u119⟩ := p119
              refine t_ul (t_runV (As := [.int (iI z119)]) (rest := []) (n := 1) X Y S ktp hml hl.1 (c_By_numberAt l D E T κ L f113 H.size tp 4000 ktp (by omega) z119 (by omega) (by omega) S.1) (ok_k X Y hA KS KR) rfl kl_Ce_By_numberAt ks_By_numberAt kx_By_numberAt ki_By_numberAt ini_By ⟨rfl, rfl⟩ hd_By_numberAt ⟨Nat.le_of_ble_eq_true rfl, Nat.le_of_ble_eq_true rfl⟩ rfl (Nat.le_of_ble_eq_true rfl) d_Ce_judge_117 ⟨Nat.le_of_ble_eq_true rfl, Nat.le_of_ble_eq_true rfl⟩) X Y hA (fun v120 H locs Y p120 => ?_)
              refine lv_aload_n X.1 X.2.1 d_Ce_judge_120 rfl (lv_at hl 1 rfl) ?_
              refine t_get0 (ci := 4) X Y S k0 rfl i_Ce 6 (by decide) rfl lk_Ce_65 (fun _ h9 => h9) d_Ce_judge_121 ((gF_put w113 (Or.inr (by decide))).trans w103.2.1) ?_
              refine z_if_eq (tgt := 132) X.1 X.2.1 d_Ce_judge_124 (by decide) ⟨by omega, by omega⟩ (fun h121 => ?_) (fun h121 => False.elim (by omega))
              · refine lv_bipush (v := iI 12) X.1 X.2.1 d_Ce_judge_132 (by decide) ?_
                refine lv_i2l X.1 X.2.1 d_Ce_judge_134 rfl ?_
                refine t_anyl (fun v122 => ?_)
                refine W.lcmp X.1 X.2.1 d_Ce_judge_135 ?_
                refine t_u (fun z123 l123 u123 => ?_)
                refine z_if_eq (tgt := 142) X.1 X.2.1 d_Ce_judge_136 (by decide) ⟨by omega, by omega⟩ (fun h124 => ?_) (fun h124 => ?_)
                · refine lv_aload_n X.1 X.2.1 d_Ce_judge_142 rfl (lv_at hl 1 rfl) ?_
                  refine lv_aload_n X.1 X.2.1 d_Ce_judge_143 rfl (lv_at hl 1 rfl) ?_
                  refine t_get0 (ci := 4) X Y S k0 rfl i_Ce 3 (by decide) rfl lk_Ce_30 (fun _ h9 => h9) d_Ce_judge_144 ((gF_put w113 (Or.inr (by decide))).trans ((gF_put w103 (Or.inr (by decide))).trans e3)) ?_
                  refine lv_iconst (v := iI 0) X.1 X.2.1 d_Ce_judge_147 (by decide) ?_
                  refine lv_iconst (v := iI 4) X.1 X.2.1 d_Ce_judge_148 (by decide) ?_
                  refine t_ui (t_runV (As := [.int (iI 0), .int (iI 4)]) (rest := [.ref h]) (n := 2) X Y S ktp hml hl.1 (c_By_field l D E T κ L f113 H.size tp 4000 ktp (by omega) 0 (by omega) (by omega) 4 (by omega) (by omega) S.1) (ok_k X Y hA KS KR) rfl kl_Ce_By_field ks_By_field kx_By_field ki_By_field ini_By ⟨rfl, rfl⟩ hd_By_field ⟨Nat.le_of_ble_eq_true rfl, Nat.le_of_ble_eq_true rfl⟩ rfl (Nat.le_of_ble_eq_true rfl) d_Ce_judge_149 ⟨Nat.le_of_ble_eq_true rfl, Nat.le_of_ble_eq_true rfl⟩) X Y hA (fun z125 H locs Y p125 => ?_)
                  obtain ⟨l125, u125⟩ := p125
                  refine t_put (ci := 4) X Y S k0 rfl i_Ce t_Ce t_Ce_ok n_Ce 8 (by decide) rfl lk_Ce_81 (fun _ h9 => h9) rfl (t_Ce_ok 8 (by decide)) rfl rfl ⟨_, rfl, (show ((-1) : Int) ≤ z125 by omega), (show z125 ≤ (20200 : Int) by omega)⟩ (nF_of S k0 (by decide)) d_Ce_judge_152 (fun f126 H locs Y S w126 => ?_)
                  refine lv_aload_n X.1 X.2.1 d_Ce_judge_155 rfl (lv_at hl 1 rfl) ?_
                  refine lv_aload_n X.1 X.2.1 d_Ce_judge_156 rfl (lv_at hl 1 rfl) ?_
                  refine t_get0 (ci := 4) X Y S k0 rfl i_Ce 3 (by decide) rfl lk_Ce_30 (fun _ h9 => h9) d_Ce_judge_157 ((gF_put w126 (Or.inr (by decide))).trans ((gF_put w113 (Or.inr (by decide))).trans ((gF_put w103 (Or.inr (by decide))).trans e3))) ?_
                  refine lv_aload_n X.1 X.2.1 d_Ce_judge_160 rfl (lv_at hl 1 rfl) ?_
                  refine t_get0 (ci := 4) X Y S k0 rfl i_Ce 3 (by decide) rfl lk_Ce_30 (fun _ h9 => h9) d_Ce_judge_161 ((gF_put w126 (Or.inr (by decide))).trans ((gF_put w113 (Or.inr (by decide))).trans ((gF_put w103 (Or.inr (by decide))).trans e3))) ?_
                  refine lv_aload_n X.1 X.2.1 d_Ce_judge_164 rfl (lv_at hl 1 rfl) ?_
                  refine t_get0 (ci := 4) X Y S k0 rfl i_Ce 8 (by decide) rfl lk_Ce_81 (fun _ h9 => h9) d_Ce_judge_165 w126.2.1 ?_
                  refine lv_iconst (v := iI 0) X.1 X.2.1 d_Ce_judge_168 (by decide) ?_
                  refine t_ui (t_runV (As := [.int (iI z125), .int (iI 0)]) (rest := [.ref tp, .ref h]) (n := 2) X Y S ktp hml hl.1 (c_By_field l D E T κ L f126 H.size tp 4000 ktp (by omega) z125 (by omega) (by omega) 0 (by omega) (by omega) S.1) (ok_k X Y hA KS KR) rfl kl_Ce_By_field ks_By_field kx_By_field ki_By_field ini_By ⟨rfl, rfl⟩ hd_By_field ⟨Nat.le_of_ble_eq_true rfl, Nat.le_of_ble_eq_true rfl⟩ rfl (Nat.le_of_ble_eq_true rfl) d_Ce_judge_169 ⟨Nat.le_of_ble_eq_true rfl, Nat.le_of_ble_eq_true rfl⟩) X Y hA (fun z127 H locs Y p127 => ?_)
                  obtain ⟨l127, u127⟩ := p127
                  refine t_ui (t_runV (As := [.int (iI z127)]) (rest := [.ref h]) (n := 1) X Y S ktp hml hl.1 (c_By_bitsAt l D E T κ L f126 H.size tp 4000 ktp (by omega) z127 (by omega) (by omega) S.1) (ok_k X Y hA KS KR) rfl kl_Ce_By_bitsAt ks_By_bitsAt kx_By_bitsAt ki_By_bitsAt ini_By ⟨rfl, rfl⟩ hd_By_bitsAt ⟨Nat.le_of_ble_eq_true rfl, Nat.le_of_ble_eq_true rfl⟩ rfl (Nat.le_of_ble_eq_true rfl) d_Ce_judge_172 ⟨Nat.le_of_ble_eq_true rfl, Nat.le_of_ble_eq_true rfl⟩) X Y hA (fun z128 H locs Y p128 => ?_)
                  obtain ⟨l128, u128⟩ := p128
                  refine t_put (ci := 4) X Y S k0 rfl i_Ce t_Ce t_Ce_ok n_Ce 9 (by decide) rfl lk_Ce_44 (fun _ h9 => h9) rfl (t_Ce_ok 9 (by decide)) rfl rfl ⟨_, rfl, (show ((-2147483648) : Int) ≤ z128 by omega), (show z128 ≤ (2147483647 : Int) by omega)⟩ (nF_of S k0 (by decide)) d_Ce_judge_175 (fun f129 H locs Y S w129 => ?_)
                  refine lv_aload_n X.1 X.2.1 d_Ce_judge_178 rfl (lv_at hl 1 rfl) ?_
                  refine t_get0 (ci := 4) X Y S k0 rfl i_Ce 3 (by decide) rfl lk_Ce_30 (fun _ h9 => h9) d_Ce_judge_179 ((gF_put w129 (Or.inr (by decide))).trans ((gF_put w126 (Or.inr (by decide))).trans ((gF_put w113 (Or.inr (by decide))).trans ((gF_put w103 (Or.inr (by decide))).trans e3)))) ?_
                  refine lv_aload_n X.1 X.2.1 d_Ce_judge_182 rfl (lv_at hl 1 rfl) ?_
                  refine t_get0 (ci := 4) X Y S k0 rfl i_Ce 8 (by decide) rfl lk_Ce_81 (fun _ h9 => h9) d_Ce_judge_183 ((gF_put w129 (Or.inr (by decide))).trans w126.2.1) ?_
                  refine lv_iconst (v := iI 3) X.1 X.2.1 d_Ce_judge_186 (by decide) ?_
                  refine t_ui (t_runV (As := [.int (iI z125), .int (iI 3)]) (rest := []) (n := 2) X Y S ktp hml hl.1 (c_By_field l D E T κ L f129 H.size tp 4000 ktp (by omega) z125 (by omega) (by omega) 3 (by omega) (by omega) S.1) (ok_k X Y hA KS KR) rfl kl_Ce_By_field ks_By_field kx_By_field ki_By_field ini_By ⟨rfl, rfl⟩ hd_By_field ⟨Nat.le_of_ble_eq_true rfl, Nat.le_of_ble_eq_true rfl⟩ rfl (Nat.le_of_ble_eq_true rfl) d_Ce_judge_187 ⟨Nat.le_of_ble_eq_true rfl, Nat.le_of_ble_eq_true rfl⟩) X Y hA (fun z130 H locs Y p130 => ?_)
                  obtain ⟨l130, u130⟩ := p130
                  refine z_if_ge (tgt := 196) X.1 X.2.1 d_Ce_judge_190 (by decide) ⟨by omega, by omega⟩ (fun h131 => ?_) (fun h131 => ?_)
                  · refine lv_aload_n X.1 X.2.1 d_Ce_judge_196 rfl (lv_at hl 1 rfl) ?_
                    refine t_get0 (ci := 4) X Y S k0 rfl i_Ce 3 (by decide) rfl lk_Ce_30 (fun _ h9 => h9) d_Ce_judge_197 ((gF_put w129 (Or.inr (by decide))).trans ((gF_put w126 (Or.inr (by decide))).trans ((gF_put w113 (Or.inr (by decide))).trans ((gF_put w103 (Or.inr (by decide))).trans e3)))) ?_
                    refine lv_aload_n X.1 X.2.1 d_Ce_judge_200 rfl (lv_at hl 1 rfl) ?_
                    refine t_get0 (ci := 4) X Y S k0 rfl i_Ce 3 (by decide) rfl lk_Ce_30 (fun _ h9 => h9) d_Ce_judge_201 ((gF_put w129 (Or.inr (by decide))).trans ((gF_put w126 (Or.inr (by decide))).trans ((gF_put w113 (Or.inr (by decide))).trans ((gF_put w103 (Or.inr (by decide))).trans e3)))) ?_
                    refine lv_aload_n X.1 X.2.1 d_Ce_judge_204 rfl (lv_at hl 1 rfl) ?_
                    refine t_get0 (ci := 4) X Y S k0 rfl i_Ce 8 (by decide) rfl lk_Ce_81 (fun _ h9 => h9) d_Ce_judge_205 ((gF_put w129 (Or.inr (by decide))).trans w126.2.1) ?_
                    refine lv_iconst (v := iI 2) X.1 X.2.1 d_Ce_judge_208 (by decide) ?_
                    refine t_ui (t_runV (As := [.int (iI z125), .int (iI 2)]) (rest := [.ref tp]) (n := 2) X Y S ktp hml hl.1 (c_By_field l D E T κ L f129 H.size tp 4000 ktp (by omega) z125 (by omega) (by omega) 2 (by omega) (by omega) S.1) (ok_k X Y hA KS KR) rfl kl_Ce_By_field ks_By_field kx_By_field ki_By_field ini_By ⟨rfl, rfl⟩ hd_By_field ⟨Nat.le_of_ble_eq_true rfl, Nat.le_of_ble_eq_true rfl⟩ rfl (Nat.le_of_ble_eq_true rfl) d_Ce_judge_209 ⟨Nat.le_of_ble_eq_true rfl, Nat.le_of_ble_eq_true rfl⟩) X Y hA (fun z132 H locs Y p132 => ?_)
                    obtain ⟨l132, u132⟩ := p132
                    refine t_ui (t_runV (As := [.int (iI z132)]) (rest := []) (n := 1) X Y S ktp hml hl.1 (c_By_isRealm l D E T κ L f129 H.size tp 4000 ktp (by omega) z132 (by omega) (by omega) S.1) (ok_k X Y hA KS KR) rfl kl_Ce_By_isRealm ks_By_isRealm kx_By_isRealm ki_By_isRealm ini_By ⟨rfl, rfl⟩ hd_By_isRealm ⟨Nat.le_of_ble_eq_true rfl, Nat.le_of_ble_eq_true rfl⟩ rfl (Nat.le_of_ble_eq_true rfl) d_Ce_judge_212 ⟨Nat.le_of_ble_eq_true rfl, Nat.le_of_ble_eq_true rfl⟩) X Y hA (fun z133 H locs Y p133 => ?_)
                    obtain ⟨l133, u133⟩ := p133
                    refine z_if_ne (tgt := 221) X.1 X.2.1 d_Ce_judge_215 (by decide) ⟨by omega, by omega⟩ (fun h134 => ?_) (fun h134 => ?_)
                    · refine lv_aload_n X.1 X.2.1 d_Ce_judge_221 rfl (lv_at hl 1 rfl) ?_
                      refine t_get0 (ci := 4) X Y S k0 rfl i_Ce 6 (by decide) rfl lk_Ce_65 (fun _ h9 => h9) d_Ce_judge_222 ((gF_put w129 (Or.inr (by decide))).trans ((gF_put w126 (Or.inr (by decide))).trans ((gF_put w113 (Or.inr (by decide))).trans w103.2.1))) ?_
                      refine z_if_ne (tgt := 241) X.1 X.2.1 d_Ce_judge_225 (by decide) ⟨by omega, by omega⟩ (fun h135 => False.elim (by omega)) (fun h135 => ?_)
                      · refine lv_aload_n X.1 X.2.1 d_Ce_judge_228 rfl (lv_at hl 1 rfl) ?_
                        refine lv_iconst (v := iI 1) X.1 X.2.1 d_Ce_judge_229 (by decide) ?_
                        refine t_ui (t_runV (As := [.int (iI 1)]) (rest := []) (n := 1) X Y S k0 hml hl.1 (c_Ce_shown l D E T κ L f129 H.size h k0 1 (by omega) (by omega) S.1) (ok_k X Y hA KS KR) rfl kl_Ce_Ce_shown ks_Ce_shown kx_Ce_shown ki_Ce_shown ini_Ce ⟨rfl, rfl⟩ hd_Ce_shown ⟨Nat.le_of_ble_eq_true rfl, Nat.le_of_ble_eq_true rfl⟩ rfl (Nat.le_of_ble_eq_true rfl) d_Ce_judge_230 ⟨Nat.le_of_ble_eq_true rfl, Nat.le_of_ble_eq_true rfl⟩) X Y hA (fun z136 H locs Y p136 => ?_)
                        obtain ⟨l136, u136⟩ := p136
                        refine z_if_ge (tgt := 241) X.1 X.2.1 d_Ce_judge_233 (by decide) ⟨by omega, by omega⟩ (fun h137 => ?_) (fun h137 => ?_)
                        · refine lv_iconst (v := iI 0) X.1 X.2.1 d_Ce_judge_241 (by decide) ?_
                          exact c_reti hQQ X Y hr hlk ⟨rfl, S, 0, rfl, ⟨by omega, by omega, fun h9 => Top_of (ft109 (by omega)) (by omega), (((gF_put w129 (Or.inr (by decide))).trans ((gF_put w126 (Or.inr (by decide))).trans ((gF_put w113 (Or.inr (by decide))).trans ((gF_put w103 (Or.inr (by decide))).trans e3))))).trans e3.symm⟩⟩ d_Ce_judge_242
                        · refine lv_bipush (v := iI 25) X.1 X.2.1 d_Ce_judge_236 (by decide) ?_
                          refine lv_goto (tgt := 242) X.1 X.2.1 d_Ce_judge_238 (by decide) ?_
                          exact c_reti hQQ X Y hr hlk ⟨rfl, S, 25, rfl, ⟨by omega, by omega, fun h9 => absurd h9 (by omega), (((gF_put w129 (Or.inr (by decide))).trans ((gF_put w126 (Or.inr (by decide))).trans ((gF_put w113 (Or.inr (by decide))).trans ((gF_put w103 (Or.inr (by decide))).trans e3))))).trans e3.symm⟩⟩ d_Ce_judge_242
                    · refine lv_bipush (v := iI 68) X.1 X.2.1 d_Ce_judge_218 (by decide) ?_
                      exact c_reti hQQ X Y hr hlk ⟨rfl, S, 68, rfl, ⟨by omega, by omega, fun h9 => absurd h9 (by omega), (((gF_put w129 (Or.inr (by decide))).trans ((gF_put w126 (Or.inr (by decide))).trans ((gF_put w113 (Or.inr (by decide))).trans ((gF_put w103 (Or.inr (by decide))).trans e3))))).trans e3.symm⟩⟩ d_Ce_judge_220
                  · refine lv_bipush (v := iI 7) X.1 X.2.1 d_Ce_judge_193 (by decide) ?_
                    exact c_reti hQQ X Y hr hlk ⟨rfl, S, 7, rfl, ⟨by omega, by omega, fun h9 => absurd h9 (by omega), (((gF_put w129 (Or.inr (by decide))).trans ((gF_put w126 (Or.inr (by decide))).trans ((gF_put w113 (Or.inr (by decide))).trans ((gF_put w103 (Or.inr (by decide))).trans e3))))).trans e3.symm⟩⟩ d_Ce_judge_195
                · refine lv_bipush (v := iI 40) X.1 X.2.1 d_Ce_judge_139 (by decide) ?_
                  exact c_reti hQQ X Y hr hlk ⟨rfl, S, 40, rfl, ⟨by omega, by omega, fun h9 => absurd h9 (by omega), (((gF_put w113 (Or.inr (by decide))).trans ((gF_put w103 (Or.inr (by decide))).trans e3))).trans e3.symm⟩⟩ d_Ce_judge_141
            · refine lv_iconst (v := iI 3) X.1 X.2.1 d_Ce_judge_102 (by decide) ?_
              exact c_reti hQQ X Y hr hlk ⟨rfl, S, 3, rfl, ⟨by omega, by omega, fun h9 => absurd h9 (by omega), (((gF_put w113 (Or.inr (by decide))).trans ((gF_put w103 (Or.inr (by decide))).trans e3))).trans e3.symm⟩⟩ d_Ce_judge_103
  · refine lv_iconst (v := iI 1) X.1 X.2.1 d_Ce_judge_16 (by decide) ?_
    refine lv_goto (tgt := 21) X.1 X.2.1 d_Ce_judge_17 (by decide) ?_
    refine t_put (ci := 4) X Y S k0 rfl i_Ce t_Ce t_Ce_ok n_Ce 6 (by decide) rfl lk_Ce_65 (fun _ h9 => h9) rfl (t_Ce_ok 6 (by decide)) (iI_bool (by omega) (by omega)).1 (iI_bool (by omega) (by omega)).2 ⟨_, rfl, (show (0 : Int) ≤ 1 by omega), (show 1 ≤ (1 : Int) by omega)⟩ (nF_of S k0 (by decide)) d_Ce_judge_21 (fun f138 H locs Y S w138 => ?_)
    refine lv_aload_n X.1 X.2.1 d_Ce_judge_24 rfl (lv_at hl 1 rfl) ?_
    refine lv_aload_n X.1 X.2.1 d_Ce_judge_25 rfl (lv_at hl 1 rfl) ?_
    refine t_get0 (ci := 4) X Y S k0 rfl i_Ce 6 (by decide) rfl lk_Ce_65 (fun _ h9 => h9) d_Ce_judge_26 w138.2.1 ?_
    refine z_if_ne (tgt := 38) X.1 X.2.1 d_Ce_judge_29 (by decide) ⟨by omega, by omega⟩ (fun h139 => ?_) (fun h139 => False.elim (by omega))
    · refine lv_aload_n X.1 X.2.1 d_Ce_judge_38 rfl (lv_at hl 1 rfl) ?_
      refine t_get0 (ci := 4) X Y S k0 rfl i_Ce 3 (by decide) rfl lk_Ce_30 (fun _ h9 => h9) d_Ce_judge_39 ((gF_put w138 (Or.inr (by decide))).trans e3) ?_
      refine lv_sipush (v := iI 256) X.1 X.2.1 d_Ce_judge_42 (by decide) ?_
      refine lv_iload_n X.1 X.2.1 d_Ce_judge_45 rfl (lv_at hl 0 rfl) ?_
      refine z_iadd X.1 X.2.1 d_Ce_judge_46 ?_
      refine lv_iconst (v := iI 0) X.1 X.2.1 d_Ce_judge_47 (by decide) ?_
      refine lv_aload_n X.1 X.2.1 d_Ce_judge_48 rfl (lv_at hl 1 rfl) ?_
      refine t_get0 (ci := 4) X Y S k0 rfl i_Ce 3 (by decide) rfl lk_Ce_30 (fun _ h9 => h9) d_Ce_judge_49 ((gF_put w138 (Or.inr (by decide))).trans e3) ?_
      refine t_get0 (ci := 3) X Y S ktp rfl i_By 1 (by decide) rfl lk_Ce_69 (fun _ h9 => h9) d_Ce_judge_52 ((gF_put w138 (Or.inr (by decide))).trans g0) ?_
      refine t_ui (t_runV (As := [.int (iI (256 + z101)), .int (iI 0), .int (iI sz0)]) (rest := [.ref h]) (n := 3) X Y S ktp hml hl.1 (c_By_isAX l D E T κ L f138 H.size tp 4000 ktp (by omega) (256 + z101) (by omega) (by omega) 0 (by omega) (by omega) sz0 (by omega) (by omega) S.1 sz0 ((gF_put w138 (Or.inr (by decide))).trans g0) (by omega) (by omega) (by omega)) (ok_k X Y hA KS KR) rfl kl_Ce_By_isA ks_By_isA kx_By_isA ki_By_isA ini_By ⟨rfl, rfl⟩ hd_By_isA ⟨Nat.le_of_ble_eq_true rfl, Nat.le_of_ble_eq_true rfl⟩ rfl (Nat.le_of_ble_eq_true rfl) d_Ce_judge_55 ⟨Nat.le_of_ble_eq_true rfl, Nat.le_of_ble_eq_true rfl⟩) X Y hA (fun z140 H locs Y p140 => ?_)
      obtain ⟨l140, u140, x140⟩ := p140
      have ft141 : z140 = 1 → FitP (rb f tp) sz0 (256 + z101) 0 sz0 := by rw [← rb_S S ktp (by decide) (by decide)]; exact x140
      refine z_if_eq (tgt := 65) X.1 X.2.1 d_Ce_judge_58 (by decide) ⟨by omega, by omega⟩ (fun h142 => ?_) (fun h142 => ?_)
      · refine lv_iconst (v := iI 0) X.1 X.2.1 d_Ce_judge_65 (by decide) ?_
        refine t_put (ci := 4) X Y S k0 rfl i_Ce t_Ce t_Ce_ok n_Ce 7 (by decide) rfl lk_Ce_76 (fun _ h9 => h9) rfl (t_Ce_ok 7 (by decide)) (iI_bool (by omega) (by omega)).1 (iI_bool (by omega) (by omega)).2 ⟨_, rfl, (show (0 : Int) ≤ 0 by omega), (show 0 ≤ (1 : Int) by omega)⟩ (nF_of S k0 (by decide)) d_Ce_judge_66 (fun f143 H locs Y S w143 => ?_)
        refine lv_aload_n X.1 X.2.1 d_Ce_judge_69 rfl (lv_at hl 1 rfl) ?_
        refine t_get0 (ci := 4) X Y S k0 rfl i_Ce 7 (by decide) rfl lk_Ce_76 (fun _ h9 => h9) d_Ce_judge_70 w143.2.1 ?_
        refine z_if_ne (tgt := 79) X.1 X.2.1 d_Ce_judge_73 (by decide) ⟨by omega, by omega⟩ (fun h144 => False.elim (by omega)) (fun h144 => ?_)
        · refine lv_bipush (v := iI 60) X.1 X.2.1 d_Ce_judge_76 (by decide) ?_
          exact c_reti hQQ X Y hr hlk ⟨rfl, S, 60, rfl, ⟨by omega, by omega, fun h9 => absurd h9 (by omega), (((gF_put w143 (Or.inr (by decide))).trans ((gF_put w138 (Or.inr (by decide))).trans e3))).trans e3.symm⟩⟩ d_Ce_judge_78
      · refine lv_iconst (v := iI 1) X.1 X.2.1 d_Ce_judge_61 (by decide) ?_
        refine lv_goto (tgt := 66) X.1 X.2.1 d_Ce_judge_62 (by decide) ?_
        refine t_put (ci := 4) X Y S k0 rfl i_Ce t_Ce t_Ce_ok n_Ce 7 (by decide) rfl lk_Ce_76 (fun _ h9 => h9) rfl (t_Ce_ok 7 (by decide)) (iI_bool (by omega) (by omega)).1 (iI_bool (by omega) (by omega)).2 ⟨_, rfl, (show (0 : Int) ≤ 1 by omega), (show 1 ≤ (1 : Int) by omega)⟩ (nF_of S k0 (by decide)) d_Ce_judge_66 (fun f145 H locs Y S w145 => ?_)
        refine lv_aload_n X.1 X.2.1 d_Ce_judge_69 rfl (lv_at hl 1 rfl) ?_
        refine t_get0 (ci := 4) X Y S k0 rfl i_Ce 7 (by decide) rfl lk_Ce_76 (fun _ h9 => h9) d_Ce_judge_70 w145.2.1 ?_
        refine z_if_ne (tgt := 79) X.1 X.2.1 d_Ce_judge_73 (by decide) ⟨by omega, by omega⟩ (fun h146 => ?_) (fun h146 => False.elim (by omega))
        · refine lv_aload_n X.1 X.2.1 d_Ce_judge_79 rfl (lv_at hl 1 rfl) ?_
          refine t_get0 (ci := 4) X Y S k0 rfl i_Ce 3 (by decide) rfl lk_Ce_30 (fun _ h9 => h9) d_Ce_judge_80 ((gF_put w145 (Or.inr (by decide))).trans ((gF_put w138 (Or.inr (by decide))).trans e3)) ?_
          refine lv_aload_n X.1 X.2.1 d_Ce_judge_83 rfl (lv_at hl 1 rfl) ?_
          refine t_get0 (ci := 4) X Y S k0 rfl i_Ce 3 (by decide) rfl lk_Ce_30 (fun _ h9 => h9) d_Ce_judge_84 ((gF_put w145 (Or.inr (by decide))).trans ((gF_put w138 (Or.inr (by decide))).trans e3)) ?_
          refine lv_iconst (v := iI 0) X.1 X.2.1 d_Ce_judge_87 (by decide) ?_
          refine lv_iconst (v := iI 1) X.1 X.2.1 d_Ce_judge_88 (by decide) ?_
          refine t_ui (t_runV (As := [.int (iI 0), .int (iI 1)]) (rest := [.ref tp]) (n := 2) X Y S ktp hml hl.1 (c_By_field l D E T κ L f145 H.size tp 4000 ktp (by omega) 0 (by omega) (by omega) 1 (by omega) (by omega) S.1) (ok_k X Y hA KS KR) rfl kl_Ce_By_field ks_By_field kx_By_field ki_By_field ini_By ⟨rfl, rfl⟩ hd_By_field ⟨Nat.le_of_ble_eq_true rfl, Nat.le_of_ble_eq_true rfl⟩ rfl (Nat.le_of_ble_eq_true rfl) d_Ce_judge_89 ⟨Nat.le_of_ble_eq_true rfl, Nat.le_of_ble_eq_true rfl⟩) X Y hA (fun z147 H locs Y p147 => ?_)
          obtain ⟨l147, u147⟩ := p147
          refine t_ul (t_runV (As := [.int (iI z147)]) (rest := []) (n := 1) X Y S ktp hml hl.1 (c_By_numberAt l D E T κ L f145 H.size tp 4000 ktp (by omega) z147 (by omega) (by omega) S.1) (ok_k X Y hA KS KR) rfl kl_Ce_By_numberAt ks_By_numberAt kx_By_numberAt ki_By_numberAt ini_By ⟨rfl, rfl⟩ hd_By_numberAt ⟨Nat.le_of_ble_eq_true rfl, Nat.le_of_ble_eq_true rfl⟩ rfl (Nat.le_of_ble_eq_true rfl) d_Ce_judge_92 ⟨Nat.le_of_ble_eq_true rfl, Nat.le_of_ble_eq_true rfl⟩) X Y hA (fun v148 H locs Y p148 => ?_)
          refine lv_ldc2 (v := (5)) X.1 X.2.1 X.2.2.2.1 (X.2.2.1 _ cl_Ce_79) d_Ce_judge_95 ?_
          refine W.lcmp X.1 X.2.1 d_Ce_judge_98 ?_
          refine t_u (fun z149 l149 u149 => ?_)
          refine z_if_eq (tgt := 104) X.1 X.2.1 d_Ce_judge_99 (by decide) ⟨by omega, by omega⟩ (fun h150 => ?_) (fun h150 => ?_)
          · refine lv_aload_n X.1 X.2.1 d_Ce_judge_104 rfl (lv_at hl 1 rfl) ?_
            refine t_get0 (ci := 4) X Y S k0 rfl i_Ce 3 (by decide) rfl lk_Ce_30 (fun _ h9 => h9) d_Ce_judge_105 ((gF_put w145 (Or.inr (by decide))).trans ((gF_put w138 (Or.inr (by decide))).trans e3)) ?_
            refine lv_aload_n X.1 X.2.1 d_Ce_judge_108 rfl (lv_at hl 1 rfl) ?_
            refine t_get0 (ci := 4) X Y S k0 rfl i_Ce 3 (by decide) rfl lk_Ce_30 (fun _ h9 => h9) d_Ce_judge_109 ((gF_put w145 (Or.inr (by decide))).trans ((gF_put w138 (Or.inr (by decide))).trans e3)) ?_
            refine lv_iconst (v := iI 0) X.1 X.2.1 d_Ce_judge_112 (by decide) ?_
            refine lv_iconst (v := iI 2) X.1 X.2.1 d_Ce_judge_113 (by decide) ?_
            refine t_ui (t_runV (As := [.int (iI 0), .int (iI 2)]) (rest := [.ref tp]) (n := 2) X Y S ktp hml hl.1 (c_By_field l D E T κ L f145 H.size tp 4000 ktp (by omega) 0 (by omega) (by omega) 2 (by omega) (by omega) S.1) (ok_k X Y hA KS KR) rfl kl_Ce_By_field ks_By_field kx_By_field ki_By_field ini_By ⟨rfl, rfl⟩ hd_By_field ⟨Nat.le_of_ble_eq_true rfl, Nat.le_of_ble_eq_true rfl⟩ rfl (Nat.le_of_ble_eq_true rfl) d_Ce_judge_114 ⟨Nat.le_of_ble_eq_true rfl, Nat.le_of_ble_eq_true rfl⟩) X Y hA (fun z151 H locs Y p151 => ?_)
            obtain ⟨l151, u151⟩ := p151
            refine t_ul (t_runV (As := [.int (iI z151)]) (rest := []) (n := 1) X Y S ktp hml hl.1 (c_By_numberAt l D E T κ L f145 H.size tp 4000 ktp (by omega) z151 (by omega) (by omega) S.1) (ok_k X Y hA KS KR) rfl kl_Ce_By_numberAt ks_By_numberAt kx_By_numberAt ki_By_numberAt ini_By ⟨rfl, rfl⟩ hd_By_numberAt ⟨Nat.le_of_ble_eq_true rfl, Nat.le_of_ble_eq_true rfl⟩ rfl (Nat.le_of_ble_eq_true rfl) d_Ce_judge_117 ⟨Nat.le_of_ble_eq_true rfl, Nat.le_of_ble_eq_true rfl⟩) X Y hA (fun v152 H locs Y p152 => ?_)
            refine lv_aload_n X.1 X.2.1 d_Ce_judge_120 rfl (lv_at hl 1 rfl) ?_
            refine t_get0 (ci := 4) X Y S k0 rfl i_Ce 6 (by decide) rfl lk_Ce_65 (fun _ h9 => h9) d_Ce_judge_121 ((gF_put w145 (Or.inr (by decide))).trans w138.2.1) ?_
            refine z_if_eq (tgt := 132) X.1 X.2.1 d_Ce_judge_124 (by decide) ⟨by omega, by omega⟩ (fun h153 => False.elim (by omega)) (fun h153 => ?_)
            · refine lv_bipush (v := iI 10) X.1 X.2.1 d_Ce_judge_127 (by decide) ?_
              refine lv_goto (tgt := 134) X.1 X.2.1 d_Ce_judge_129 (by decide) ?_
              refine lv_i2l X.1 X.2.1 d_Ce_judge_134 rfl ?_
              refine t_anyl (fun v154 => ?_)
              refine W.lcmp X.1 X.2.1 d_Ce_judge_135 ?_
              refine t_u (fun z155 l155 u155 => ?_)
              refine z_if_eq (tgt := 142) X.1 X.2.1 d_Ce_judge_136 (by decide) ⟨by omega, by omega⟩ (fun h156 => ?_) (fun h156 => ?_)
              · refine lv_aload_n X.1 X.2.1 d_Ce_judge_142 rfl (lv_at hl 1 rfl) ?_
                refine lv_aload_n X.1 X.2.1 d_Ce_judge_143 rfl (lv_at hl 1 rfl) ?_
                refine t_get0 (ci := 4) X Y S k0 rfl i_Ce 3 (by decide) rfl lk_Ce_30 (fun _ h9 => h9) d_Ce_judge_144 ((gF_put w145 (Or.inr (by decide))).trans ((gF_put w138 (Or.inr (by decide))).trans e3)) ?_
                refine lv_iconst (v := iI 0) X.1 X.2.1 d_Ce_judge_147 (by decide) ?_
                refine lv_iconst (v := iI 4) X.1 X.2.1 d_Ce_judge_148 (by decide) ?_
                refine t_ui (t_runV (As := [.int (iI 0), .int (iI 4)]) (rest := [.ref h]) (n := 2) X Y S ktp hml hl.1 (c_By_field l D E T κ L f145 H.size tp 4000 ktp (by omega) 0 (by omega) (by omega) 4 (by omega) (by omega) S.1) (ok_k X Y hA KS KR) rfl kl_Ce_By_field ks_By_field kx_By_field ki_By_field ini_By ⟨rfl, rfl⟩ hd_By_field ⟨Nat.le_of_ble_eq_true rfl, Nat.le_of_ble_eq_true rfl⟩ rfl (Nat.le_of_ble_eq_true rfl) d_Ce_judge_149 ⟨Nat.le_of_ble_eq_true rfl, Nat.le_of_ble_eq_true rfl⟩) X Y hA (fun z157 H locs Y p157 => ?_)
                obtain ⟨l157, u157⟩ := p157
                refine t_put (ci := 4) X Y S k0 rfl i_Ce t_Ce t_Ce_ok n_Ce 8 (by decide) rfl lk_Ce_81 (fun _ h9 => h9) rfl (t_Ce_ok 8 (by decide)) rfl rfl ⟨_, rfl, (show ((-1) : Int) ≤ z157 by omega), (show z157 ≤ (20200 : Int) by omega)⟩ (nF_of S k0 (by decide)) d_Ce_judge_152 (fun f158 H locs Y S w158 => ?_)
                refine lv_aload_n X.1 X.2.1 d_Ce_judge_155 rfl (lv_at hl 1 rfl) ?_
                refine lv_aload_n X.1 X.2.1 d_Ce_judge_156 rfl (lv_at hl 1 rfl) ?_
                refine t_get0 (ci := 4) X Y S k0 rfl i_Ce 3 (by decide) rfl lk_Ce_30 (fun _ h9 => h9) d_Ce_judge_157 ((gF_put w158 (Or.inr (by decide))).trans ((gF_put w145 (Or.inr (by decide))).trans ((gF_put w138 (Or.inr (by decide))).trans e3))) ?_
                refine lv_aload_n X.1 X.2.1 d_Ce_judge_160 rfl (lv_at hl 1 rfl) ?_
                refine t_get0 (ci := 4) X Y S k0 rfl i_Ce 3 (by decide) rfl lk_Ce_30 (fun _ h9 => h9) d_Ce_judge_161 ((gF_put w158 (Or.inr (by decide))).trans ((gF_put w145 (Or.inr (by decide))).trans ((gF_put w138 (Or.inr (by decide))).trans e3))) ?_
                refine lv_aload_n X.1 X.2.1 d_Ce_judge_164 rfl (lv_at hl 1 rfl) ?_
                refine t_get0 (ci := 4) X Y S k0 rfl i_Ce 8 (by decide) rfl lk_Ce_81 (fun _ h9 => h9) d_Ce_judge_165 w158.2.1 ?_
                refine lv_iconst (v := iI 0) X.1 X.2.1 d_Ce_judge_168 (by decide) ?_
                refine t_ui (t_runV (As := [.int (iI z157), .int (iI 0)]) (rest := [.ref tp, .ref h]) (n := 2) X Y S ktp hml hl.1 (c_By_field l D E T κ L f158 H.size tp 4000 ktp (by omega) z157 (by omega) (by omega) 0 (by omega) (by omega) S.1) (ok_k X Y hA KS KR) rfl kl_Ce_By_field ks_By_field kx_By_field ki_By_field ini_By ⟨rfl, rfl⟩ hd_By_field ⟨Nat.le_of_ble_eq_true rfl, Nat.le_of_ble_eq_true rfl⟩ rfl (Nat.le_of_ble_eq_true rfl) d_Ce_judge_169 ⟨Nat.le_of_ble_eq_true rfl, Nat.le_of_ble_eq_true rfl⟩) X Y hA (fun z159 H locs Y p159 => ?_)
                obtain ⟨l159, u159⟩ := p159
                refine t_ui (t_runV (As := [.int (iI z159)]) (rest := [.ref h]) (n := 1) X Y S ktp hml hl.1 (c_By_bitsAt l D E T κ L f158 H.size tp 4000 ktp (by omega) z159 (by omega) (by omega) S.1) (ok_k X Y hA KS KR) rfl kl_Ce_By_bitsAt ks_By_bitsAt kx_By_bitsAt ki_By_bitsAt ini_By ⟨rfl, rfl⟩ hd_By_bitsAt ⟨Nat.le_of_ble_eq_true rfl, Nat.le_of_ble_eq_true rfl⟩ rfl (Nat.le_of_ble_eq_true rfl) d_Ce_judge_172 ⟨Nat.le_of_ble_eq_true rfl, Nat.le_of_ble_eq_true rfl⟩) X Y hA (fun z160 H locs Y p160 => ?_)
                obtain ⟨l160, u160⟩ := p160
                refine t_put (ci := 4) X Y S k0 rfl i_Ce t_Ce t_Ce_ok n_Ce 9 (by decide) rfl lk_Ce_44 (fun _ h9 => h9) rfl (t_Ce_ok 9 (by decide)) rfl rfl ⟨_, rfl, (show ((-2147483648) : Int) ≤ z160 by omega), (show z160 ≤ (2147483647 : Int) by omega)⟩ (nF_of S k0 (by decide)) d_Ce_judge_175 (fun f161 H locs Y S w161 => ?_)
                refine lv_aload_n X.1 X.2.1 d_Ce_judge_178 rfl (lv_at hl 1 rfl) ?_
                refine t_get0 (ci := 4) X Y S k0 rfl i_Ce 3 (by decide) rfl lk_Ce_30 (fun _ h9 => h9) d_Ce_judge_179 ((gF_put w161 (Or.inr (by decide))).trans ((gF_put w158 (Or.inr (by decide))).trans ((gF_put w145 (Or.inr (by decide))).trans ((gF_put w138 (Or.inr (by decide))).trans e3)))) ?_
                refine lv_aload_n X.1 X.2.1 d_Ce_judge_182 rfl (lv_at hl 1 rfl) ?_
                refine t_get0 (ci := 4) X Y S k0 rfl i_Ce 8 (by decide) rfl lk_Ce_81 (fun _ h9 => h9) d_Ce_judge_183 ((gF_put w161 (Or.inr (by decide))).trans w158.2.1) ?_
                refine lv_iconst (v := iI 3) X.1 X.2.1 d_Ce_judge_186 (by decide) ?_
                refine t_ui (t_runV (As := [.int (iI z157), .int (iI 3)]) (rest := []) (n := 2) X Y S ktp hml hl.1 (c_By_field l D E T κ L f161 H.size tp 4000 ktp (by omega) z157 (by omega) (by omega) 3 (by omega) (by omega) S.1) (ok_k X Y hA KS KR) rfl kl_Ce_By_field ks_By_field kx_By_field ki_By_field ini_By ⟨rfl, rfl⟩ hd_By_field ⟨Nat.le_of_ble_eq_true rfl, Nat.le_of_ble_eq_true rfl⟩ rfl (Nat.le_of_ble_eq_true rfl) d_Ce_judge_187 ⟨Nat.le_of_ble_eq_true rfl, Nat.le_of_ble_eq_true rfl⟩) X Y hA (fun z162 H locs Y p162 => ?_)
                obtain ⟨l162, u162⟩ := p162
                refine z_if_ge (tgt := 196) X.1 X.2.1 d_Ce_judge_190 (by decide) ⟨by omega, by omega⟩ (fun h163 => ?_) (fun h163 => ?_)
                · refine lv_aload_n X.1 X.2.1 d_Ce_judge_196 rfl (lv_at hl 1 rfl) ?_
                  refine t_get0 (ci := 4) X Y S k0 rfl i_Ce 3 (by decide) rfl lk_Ce_30 (fun _ h9 => h9) d_Ce_judge_197 ((gF_put w161 (Or.inr (by decide))).trans ((gF_put w158 (Or.inr (by decide))).trans ((gF_put w145 (Or.inr (by decide))).trans ((gF_put w138 (Or.inr (by decide))).trans e3)))) ?_
                  refine lv_aload_n X.1 X.2.1 d_Ce_judge_200 rfl (lv_at hl 1 rfl) ?_
                  refine t_get0 (ci := 4) X Y S k0 rfl i_Ce 3 (by decide) rfl lk_Ce_30 (fun _ h9 => h9) d_Ce_judge_201 ((gF_put w161 (Or.inr (by decide))).trans ((gF_put w158 (Or.inr (by decide))).trans ((gF_put w145 (Or.inr (by decide))).trans ((gF_put w138 (Or.inr (by decide))).trans e3)))) ?_
                  refine lv_aload_n X.1 X.2.1 d_Ce_judge_204 rfl (lv_at hl 1 rfl) ?_
                  refine t_get0 (ci := 4) X Y S k0 rfl i_Ce 8 (by decide) rfl lk_Ce_81 (fun _ h9 => h9) d_Ce_judge_205 ((gF_put w161 (Or.inr (by decide))).trans w158.2.1) ?_
                  refine lv_iconst (v := iI 2) X.1 X.2.1 d_Ce_judge_208 (by decide) ?_
                  refine t_ui (t_runV (As := [.int (iI z157), .int (iI 2)]) (rest := [.ref tp]) (n := 2) X Y S ktp hml hl.1 (c_By_field l D E T κ L f161 H.size tp 4000 ktp (by omega) z157 (by omega) (by omega) 2 (by omega) (by omega) S.1) (ok_k X Y hA KS KR) rfl kl_Ce_By_field ks_By_field kx_By_field ki_By_field ini_By ⟨rfl, rfl⟩ hd_By_field ⟨Nat.le_of_ble_eq_true rfl, Nat.le_of_ble_eq_true rfl⟩ rfl (Nat.le_of_ble_eq_true rfl) d_Ce_judge_209 ⟨Nat.le_of_ble_eq_true rfl, Nat.le_of_ble_eq_true rfl⟩) X Y hA (fun z164 H locs Y p164 => ?_)
                  obtain ⟨l164, u164⟩ := p164
                  refine t_ui (t_runV (As := [.int (iI z164)]) (rest := []) (n := 1) X Y S ktp hml hl.1 (c_By_isRealm l D E T κ L f161 H.size tp 4000 ktp (by omega) z164 (by omega) (by omega) S.1) (ok_k X Y hA KS KR) rfl kl_Ce_By_isRealm ks_By_isRealm kx_By_isRealm ki_By_isRealm ini_By ⟨rfl, rfl⟩ hd_By_isRealm ⟨Nat.le_of_ble_eq_true rfl, Nat.le_of_ble_eq_true rfl⟩ rfl (Nat.le_of_ble_eq_true rfl) d_Ce_judge_212 ⟨Nat.le_of_ble_eq_true rfl, Nat.le_of_ble_eq_true rfl⟩) X Y hA (fun z165 H locs Y p165 => ?_)
                  obtain ⟨l165, u165⟩ := p165
                  refine z_if_ne (tgt := 221) X.1 X.2.1 d_Ce_judge_215 (by decide) ⟨by omega, by omega⟩ (fun h166 => ?_) (fun h166 => ?_)
                  · refine lv_aload_n X.1 X.2.1 d_Ce_judge_221 rfl (lv_at hl 1 rfl) ?_
                    refine t_get0 (ci := 4) X Y S k0 rfl i_Ce 6 (by decide) rfl lk_Ce_65 (fun _ h9 => h9) d_Ce_judge_222 ((gF_put w161 (Or.inr (by decide))).trans ((gF_put w158 (Or.inr (by decide))).trans ((gF_put w145 (Or.inr (by decide))).trans w138.2.1))) ?_
                    refine z_if_ne (tgt := 241) X.1 X.2.1 d_Ce_judge_225 (by decide) ⟨by omega, by omega⟩ (fun h167 => ?_) (fun h167 => False.elim (by omega))
                    · refine lv_iconst (v := iI 0) X.1 X.2.1 d_Ce_judge_241 (by decide) ?_
                      exact c_reti hQQ X Y hr hlk ⟨rfl, S, 0, rfl, ⟨by omega, by omega, fun h9 => Top_of (ft141 (by omega)) (by omega), (((gF_put w161 (Or.inr (by decide))).trans ((gF_put w158 (Or.inr (by decide))).trans ((gF_put w145 (Or.inr (by decide))).trans ((gF_put w138 (Or.inr (by decide))).trans e3))))).trans e3.symm⟩⟩ d_Ce_judge_242
                  · refine lv_bipush (v := iI 68) X.1 X.2.1 d_Ce_judge_218 (by decide) ?_
                    exact c_reti hQQ X Y hr hlk ⟨rfl, S, 68, rfl, ⟨by omega, by omega, fun h9 => absurd h9 (by omega), (((gF_put w161 (Or.inr (by decide))).trans ((gF_put w158 (Or.inr (by decide))).trans ((gF_put w145 (Or.inr (by decide))).trans ((gF_put w138 (Or.inr (by decide))).trans e3))))).trans e3.symm⟩⟩ d_Ce_judge_220
                · refine lv_bipush (v := iI 7) X.1 X.2.1 d_Ce_judge_193 (by decide) ?_
                  exact c_reti hQQ X Y hr hlk ⟨rfl, S, 7, rfl, ⟨by omega, by omega, fun h9 => absurd h9 (by omega), (((gF_put w161 (Or.inr (by decide))).trans ((gF_put w158 (Or.inr (by decide))).trans ((gF_put w145 (Or.inr (by decide))).trans ((gF_put w138 (Or.inr (by decide))).trans e3))))).trans e3.symm⟩⟩ d_Ce_judge_195
              · refine lv_bipush (v := iI 40) X.1 X.2.1 d_Ce_judge_139 (by decide) ?_
                exact c_reti hQQ X Y hr hlk ⟨rfl, S, 40, rfl, ⟨by omega, by omega, fun h9 => absurd h9 (by omega), (((gF_put w145 (Or.inr (by decide))).trans ((gF_put w138 (Or.inr (by decide))).trans e3))).trans e3.symm⟩⟩ d_Ce_judge_141
          · refine lv_iconst (v := iI 3) X.1 X.2.1 d_Ce_judge_102 (by decide) ?_
            exact c_reti hQQ X Y hr hlk ⟨rfl, S, 3, rfl, ⟨by omega, by omega, fun h9 => absurd h9 (by omega), (((gF_put w145 (Or.inr (by decide))).trans ((gF_put w138 (Or.inr (by decide))).trans e3))).trans e3.symm⟩⟩ d_Ce_judge_103
set_option maxHeartbeats 4000000 in
set_option maxRecDepth 100000 in
theorem c_Ce_judgeShownX (l : Launch) (D : va_G) (E : cE) (T : cT) (κ : tK) (L : List Nat) (f : pF) (sz : Nat) (h : Nat) (k0 : κ h = (14, 0)) (hw : tW E T κ L f) (tp : Nat) (ktp : κ tp = (13, 4000)) (e3 : gF f h 3 = .ref tp) (sz0 : Int) (g0 : gF f tp 1 = .int (iI sz0)) (g1 : 0 ≤ sz0) (g2 : sz0 ≤ 4000) (q0 : TopP (rb f tp) sz0) : Met l y_Ce_judgeShown (k_Ce_judgeShown :: lw_tg) (kRm 71 2363 0 0) (va_Pc [.ref h] (kPre D E T L f sz)) (va_Qi (nPi E T [1, 2, 3, 4, 11, 13, 16] κ L f (fun (z : Int) (g : pF) => (-2147483648) ≤ z ∧ z ≤ 2147483647)) (cPost D E (pA L sz)) (pA L sz)) 0 0 (pA L sz) := by
  refine k_enter (own := R_Ce) (by decide) rfl (Nat.le_of_ble_eq_true rfl) (fun p e s m below meth c ls AV QQ H locs hQQ X Y hA hin hr hlk hml hl KS KR => ?_)
  have hl : lv_has ls 6 [(0, .ref h)] := hl
  have S : tS E T (tFr κ L [1, 2, 3, 4, 11, 13, 16] []) κ L f κ L f := tS_rf hw
  refine lv_aload_n X.1 X.2.1 d_Ce_judgeShown_0 rfl (lv_at hl 0 rfl) ?_
  refine lv_iconst (v := iI 2) X.1 X.2.1 d_Ce_judgeShown_1 (by decide) ?_
  refine t_ui (t_runV (As := [.int (iI 2)]) (rest := []) (n := 1) X Y S k0 hml hl.1 (c_Ce_shownX l D E T κ L f H.size h k0 2 (by omega) (by omega) S.1 tp ktp e3 sz0 g0 (by omega) (by omega) q0) (ok_k X Y hA KS KR) rfl kl_Ce_Ce_shown ks_Ce_shown kx_Ce_shown ki_Ce_shown ini_Ce ⟨rfl, rfl⟩ hd_Ce_shown ⟨Nat.le_of_ble_eq_true rfl, Nat.le_of_ble_eq_true rfl⟩ rfl (Nat.le_of_ble_eq_true rfl) d_Ce_judgeShown_2 ⟨Nat.le_of_ble_eq_true rfl, Nat.le_of_ble_eq_true rfl⟩) X Y hA (fun z101 H locs Y p101 => ?_)
  obtain ⟨l101, u101, x101⟩ := p101
  refine lv_istore_n (lv' := [(1, .int (iI z101)), (0, .ref h)]) X.1 X.2.1 d_Ce_judgeShown_5 rfl hl (by decide) rfl (fun ls hl => ?_)
  refine lv_iload_n X.1 X.2.1 d_Ce_judgeShown_6 rfl (lv_at hl 0 rfl) ?_
  refine z_if_ge (tgt := 13) X.1 X.2.1 d_Ce_judgeShown_7 (by decide) ⟨by omega, by omega⟩ (fun h102 => ?_) (fun h102 => ?_)
  · refine lv_aload_n X.1 X.2.1 d_Ce_judgeShown_13 rfl (lv_at hl 1 rfl) ?_
    refine t_get0 (ci := 4) X Y S k0 rfl i_Ce 3 (by decide) rfl lk_Ce_30 (fun _ h9 => h9) d_Ce_judgeShown_14 e3 ?_
    refine lv_iload_n X.1 X.2.1 d_Ce_judgeShown_17 rfl (lv_at hl 0 rfl) ?_
    refine t_ui (t_runV (As := [.int (iI z101)]) (rest := []) (n := 1) X Y S ktp hml hl.1 (c_By_body l D E T κ L f H.size tp 4000 ktp (by omega) z101 (by omega) (by omega) S.1 sz0 g0 (by omega) (by omega)) (ok_k X Y hA KS KR) rfl kl_Ce_By_body ks_By_body kx_By_body ki_By_body ini_By ⟨rfl, rfl⟩ hd_By_body ⟨Nat.le_of_ble_eq_true rfl, Nat.le_of_ble_eq_true rfl⟩ rfl (Nat.le_of_ble_eq_true rfl) d_Ce_judgeShown_18 ⟨Nat.le_of_ble_eq_true rfl, Nat.le_of_ble_eq_true rfl⟩) X Y hA (fun z103 H locs Y p103 => ?_)
    obtain ⟨l103, u103, x103⟩ := p103
    refine lv_istore_n (lv' := [(2, .int (iI z103)), (1, .int (iI z101)), (0, .ref h)]) X.1 X.2.1 d_Ce_judgeShown_21 rfl hl (by decide) rfl (fun ls hl => ?_)
    refine lv_aload_n X.1 X.2.1 d_Ce_judgeShown_22 rfl (lv_at hl 2 rfl) ?_
    refine t_get0 (ci := 4) X Y S k0 rfl i_Ce 3 (by decide) rfl lk_Ce_30 (fun _ h9 => h9) d_Ce_judgeShown_23 e3 ?_
    refine lv_bipush (v := iI 101) X.1 X.2.1 d_Ce_judgeShown_26 (by decide) ?_
    refine lv_iload_n X.1 X.2.1 d_Ce_judgeShown_28 rfl (lv_at hl 0 rfl) ?_
    refine lv_aload_n X.1 X.2.1 d_Ce_judgeShown_29 rfl (lv_at hl 2 rfl) ?_
    refine t_get0 (ci := 4) X Y S k0 rfl i_Ce 3 (by decide) rfl lk_Ce_30 (fun _ h9 => h9) d_Ce_judgeShown_30 e3 ?_
    refine lv_iload_n X.1 X.2.1 d_Ce_judgeShown_33 rfl (lv_at hl 1 rfl) ?_
    refine lv_aload_n X.1 X.2.1 d_Ce_judgeShown_34 rfl (lv_at hl 2 rfl) ?_
    refine t_get0 (ci := 4) X Y S k0 rfl i_Ce 3 (by decide) rfl lk_Ce_30 (fun _ h9 => h9) d_Ce_judgeShown_35 e3 ?_
    refine t_get0 (ci := 3) X Y S ktp rfl i_By 1 (by decide) rfl lk_Ce_69 (fun _ h9 => h9) d_Ce_judgeShown_38 g0 ?_
    refine t_ui (t_runV (As := [.int (iI z101), .int (iI sz0)]) (rest := [.int (iI z103), .int (iI 101), .ref tp]) (n := 2) X Y S ktp hml hl.1 (c_By_stopX l D E T κ L f H.size tp 4000 ktp (by omega) z101 (by omega) (by omega) sz0 (by omega) (by omega) S.1 sz0 g0 (by omega) (by omega)) (ok_k X Y hA KS KR) rfl kl_Ce_By_stop ks_By_stop kx_By_stop ki_By_stop ini_By ⟨rfl, rfl⟩ hd_By_stop ⟨Nat.le_of_ble_eq_true rfl, Nat.le_of_ble_eq_true rfl⟩ rfl (Nat.le_of_ble_eq_true rfl) d_Ce_judgeShown_41 ⟨Nat.le_of_ble_eq_true rfl, Nat.le_of_ble_eq_true rfl⟩) X Y hA (fun z104 H locs Y p104 => ?_)
    obtain ⟨l104, u104, x104, st104⟩ := p104
    have nn104 : 0 ≤ z101 → 0 ≤ z104 := fun h9 => x101 h9 _ st104
    refine t_ui (t_runV (As := [.int (iI 101), .int (iI z103), .int (iI z104)]) (rest := []) (n := 3) X Y S ktp hml hl.1 (c_By_isA l D E T κ L f H.size tp 4000 ktp (by omega) 101 (by omega) (by omega) z103 (by omega) (by omega) z104 (by omega) (by omega) S.1) (ok_k X Y hA KS KR) rfl kl_Ce_By_isA ks_By_isA kx_By_isA ki_By_isA ini_By ⟨rfl, rfl⟩ hd_By_isA ⟨Nat.le_of_ble_eq_true rfl, Nat.le_of_ble_eq_true rfl⟩ rfl (Nat.le_of_ble_eq_true rfl) d_Ce_judgeShown_44 ⟨Nat.le_of_ble_eq_true rfl, Nat.le_of_ble_eq_true rfl⟩) X Y hA (fun z105 H locs Y p105 => ?_)
    obtain ⟨l105, u105⟩ := p105
    refine z_if_ne (tgt := 53) X.1 X.2.1 d_Ce_judgeShown_47 (by decide) ⟨by omega, by omega⟩ (fun h106 => ?_) (fun h106 => ?_)
    · refine lv_aload_n X.1 X.2.1 d_Ce_judgeShown_53 rfl (lv_at hl 2 rfl) ?_
      refine t_get0 (ci := 4) X Y S k0 rfl i_Ce 3 (by decide) rfl lk_Ce_30 (fun _ h9 => h9) d_Ce_judgeShown_54 e3 ?_
      refine lv_aload_n X.1 X.2.1 d_Ce_judgeShown_57 rfl (lv_at hl 2 rfl) ?_
      refine t_get0 (ci := 4) X Y S k0 rfl i_Ce 3 (by decide) rfl lk_Ce_30 (fun _ h9 => h9) d_Ce_judgeShown_58 e3 ?_
      refine lv_iload_n X.1 X.2.1 d_Ce_judgeShown_61 rfl (lv_at hl 0 rfl) ?_
      refine lv_iconst (v := iI 0) X.1 X.2.1 d_Ce_judgeShown_62 (by decide) ?_
      refine t_ui (t_runV (As := [.int (iI z103), .int (iI 0)]) (rest := [.ref tp]) (n := 2) X Y S ktp hml hl.1 (c_By_field l D E T κ L f H.size tp 4000 ktp (by omega) z103 (by omega) (by omega) 0 (by omega) (by omega) S.1) (ok_k X Y hA KS KR) rfl kl_Ce_By_field ks_By_field kx_By_field ki_By_field ini_By ⟨rfl, rfl⟩ hd_By_field ⟨Nat.le_of_ble_eq_true rfl, Nat.le_of_ble_eq_true rfl⟩ rfl (Nat.le_of_ble_eq_true rfl) d_Ce_judgeShown_63 ⟨Nat.le_of_ble_eq_true rfl, Nat.le_of_ble_eq_true rfl⟩) X Y hA (fun z107 H locs Y p107 => ?_)
      obtain ⟨l107, u107⟩ := p107
      refine t_ul (t_runV (As := [.int (iI z107)]) (rest := []) (n := 1) X Y S ktp hml hl.1 (c_By_numberAt l D E T κ L f H.size tp 4000 ktp (by omega) z107 (by omega) (by omega) S.1) (ok_k X Y hA KS KR) rfl kl_Ce_By_numberAt ks_By_numberAt kx_By_numberAt ki_By_numberAt ini_By ⟨rfl, rfl⟩ hd_By_numberAt ⟨Nat.le_of_ble_eq_true rfl, Nat.le_of_ble_eq_true rfl⟩ rfl (Nat.le_of_ble_eq_true rfl) d_Ce_judgeShown_66 ⟨Nat.le_of_ble_eq_true rfl, Nat.le_of_ble_eq_true rfl⟩) X Y hA (fun v108 H locs Y p108 => ?_)
      refine lv_lstore_n (lv' := [(3, .long v108), (2, .int (iI z103)), (1, .int (iI z101)), (0, .ref h)]) X.1 X.2.1 d_Ce_judgeShown_69 rfl hl (by decide) rfl (fun ls hl => ?_)
      refine lv_aload_n X.1 X.2.1 d_Ce_judgeShown_70 rfl (lv_at hl 3 rfl) ?_
      refine t_getr (ci := 4) X Y S k0 rfl i_Ce 0 (by decide) rfl (k1 := 21) (k2 := 0) rfl rfl lk_Ce_18 (fun _ h9 => h9) d_Ce_judgeShown_71 (fun b109 e109 k109 => ?_)
      refine t_getr (ci := 11) X Y S k109 rfl i_Va 1 (by decide) rfl (k1 := 13) (k2 := 6144) rfl rfl lk_Ce_165 (fun _ h9 => h9) d_Ce_judgeShown_74 (fun b110 e110 k110 => ?_)
      refine lv_astore (lv' := [(5, .ref b110), (3, .long v108), (2, .int (iI z103)), (1, .int (iI z101)), (0, .ref h)]) X.1 X.2.1 d_Ce_judgeShown_77 hl (by decide) rfl (fun ls hl => ?_)
      refine lv_lload_n X.1 X.2.1 d_Ce_judgeShown_79 rfl (lv_at hl 1 rfl) ?_
      refine lv_ldc2 (v := (17)) X.1 X.2.1 X.2.2.2.1 (X.2.2.1 _ cl_Ce_153) d_Ce_judgeShown_80 ?_
      refine W.lcmp X.1 X.2.1 d_Ce_judgeShown_83 ?_
      refine t_u (fun z111 l111 u111 => ?_)
      have J112 : ∀  (H : Heap) (locs : List Loc) (ls : Array Slot), pH D cCl (pA L sz) s.heap L f H locs → tS E T (tFr κ L [1, 2, 3, 4, 11, 13, 16] []) κ L f κ L f → lv_has ls 6 [(0, .ref h), (2, .int (iI z103)), (3, .long v108), (5, .ref b110)] → W p l e (kRm 71 2363 0 0) s m AV below meth c H locs 0 0 QQ (F0 m 95 ls []) := by
        intro  H locs ls  Y S hl
        refine lv_aload_n X.1 X.2.1 d_Ce_judgeShown_95 rfl (lv_at hl 0 rfl) ?_
        refine t_get0 (ci := 4) X Y S k0 rfl i_Ce 0 (by decide) rfl lk_Ce_18 (fun _ h9 => h9) d_Ce_judgeShown_96 e109 ?_
        refine lv_aload_n X.1 X.2.1 d_Ce_judgeShown_99 rfl (lv_at hl 0 rfl) ?_
        refine t_get0 (ci := 4) X Y S k0 rfl i_Ce 3 (by decide) rfl lk_Ce_30 (fun _ h9 => h9) d_Ce_judgeShown_100 e3 ?_
        refine lv_iload_n X.1 X.2.1 d_Ce_judgeShown_103 rfl (lv_at hl 1 rfl) ?_
        refine lv_aload_n X.1 X.2.1 d_Ce_judgeShown_104 rfl (lv_at hl 0 rfl) ?_
        refine t_getr (ci := 4) X Y S k0 rfl i_Ce 10 (by decide) rfl (k1 := 17) (k2 := 0) rfl rfl lk_Ce_37 (fun _ h9 => h9) d_Ce_judgeShown_105 (fun b116 e116 k116 => ?_)
        refine lv_lload_n X.1 X.2.1 d_Ce_judgeShown_108 rfl (lv_at hl 2 rfl) ?_
        refine t_ur (t_runV (As := [.long v108]) (rest := [.int (iI z103), .ref tp, .ref b109]) (n := 1) X Y S k116 hml hl.1 (c_Pr_latestKey l D E T κ L f H.size b116 k116 v108 S.1) (ok_k X Y hA KS KR) rfl kl_Ce_Pr_latestKey ks_Pr_latestKey kx_Pr_latestKey ki_Pr_latestKey ini_Pr ⟨rfl, rfl⟩ hd_Pr_latestKey ⟨Nat.le_of_ble_eq_true rfl, Nat.le_of_ble_eq_true rfl⟩ rfl (Nat.le_of_ble_eq_true rfl) d_Ce_judgeShown_109 ⟨Nat.le_of_ble_eq_true rfl, Nat.le_of_ble_eq_true rfl⟩) X Y hA (fun b117 H locs Y p117 => ?_)
        obtain ⟨n117, k117⟩ := p117
        have x117 := tKey_n k117
        refine lv_iconst (v := iI 1) X.1 X.2.1 d_Ce_judgeShown_112 (by decide) ?_
        refine lv_aload X.1 X.2.1 d_Ce_judgeShown_113 (lv_at hl 3 rfl) ?_
        refine t_ni (t_runV (As := [.ref tp, .int (iI z103), .ref b117, .int (iI 1), .ref b110]) (rest := []) (n := 5) X Y S k109 hml hl.1 (c_Va_opens l D E T κ L f H.size b109 k109 tp 4000 ktp (by omega) z103 (by omega) (by omega) b117 n117 k117 (by omega) 1 (by omega) (by omega) b110 6144 k110 (by omega) S.1) (ok_k X Y hA KS KR) rfl kl_Ce_Va_opens ks_Va_opens kx_Va_opens ki_Va_opens ini_Va ⟨rfl, rfl⟩ hd_Va_opens ⟨Nat.le_of_ble_eq_true rfl, Nat.le_of_ble_eq_true rfl⟩ rfl (Nat.le_of_ble_eq_true rfl) d_Ce_judgeShown_115 ⟨Nat.le_of_ble_eq_true rfl, Nat.le_of_ble_eq_true rfl⟩) X Y hA S (by decide) (fun z118 f118 H locs Y S s118 p118 => ?_)
        obtain ⟨l118, u118⟩ := p118
        refine z_if_eq (tgt := 137) X.1 X.2.1 d_Ce_judgeShown_118 (by decide) ⟨by omega, by omega⟩ (fun h119 => ?_) (fun h119 => ?_)
        · refine lv_bipush (v := iI 24) X.1 X.2.1 d_Ce_judgeShown_137 (by decide) ?_
          exact c_reti hQQ X Y hr hlk ⟨rfl, S, 24, rfl, ⟨by omega, by omega⟩⟩ d_Ce_judgeShown_139
        · refine lv_aload X.1 X.2.1 d_Ce_judgeShown_121 (lv_at hl 3 rfl) ?_
          refine lv_bipush (v := iI 120) X.1 X.2.1 d_Ce_judgeShown_123 (by decide) ?_
          refine lv_iconst (v := iI 0) X.1 X.2.1 d_Ce_judgeShown_125 (by decide) ?_
          refine lv_aload X.1 X.2.1 d_Ce_judgeShown_126 (lv_at hl 3 rfl) ?_
          refine t_gets (ci := 3) X Y S k110 rfl i_By 1 (by decide) rfl lk_Ce_69 (fun _ h9 => h9) d_Ce_judgeShown_128 (fun z120 e120 l120 u120 => ?_)
          refine t_ui (t_runV (As := [.int (iI 120), .int (iI 0), .int (iI z120)]) (rest := []) (n := 3) X Y S k110 hml hl.1 (c_By_isA l D E T κ L f118 H.size b110 6144 k110 (by omega) 120 (by omega) (by omega) 0 (by omega) (by omega) z120 (by omega) (by omega) S.1) (ok_k X Y hA KS KR) rfl kl_Ce_By_isA ks_By_isA kx_By_isA ki_By_isA ini_By ⟨rfl, rfl⟩ hd_By_isA ⟨Nat.le_of_ble_eq_true rfl, Nat.le_of_ble_eq_true rfl⟩ rfl (Nat.le_of_ble_eq_true rfl) d_Ce_judgeShown_131 ⟨Nat.le_of_ble_eq_true rfl, Nat.le_of_ble_eq_true rfl⟩) X Y hA (fun z121 H locs Y p121 => ?_)
          obtain ⟨l121, u121⟩ := p121
          refine z_if_ne (tgt := 140) X.1 X.2.1 d_Ce_judgeShown_134 (by decide) ⟨by omega, by omega⟩ (fun h122 => ?_) (fun h122 => ?_)
          · refine lv_aload X.1 X.2.1 d_Ce_judgeShown_140 (lv_at hl 3 rfl) ?_
            refine lv_aload X.1 X.2.1 d_Ce_judgeShown_142 (lv_at hl 3 rfl) ?_
            refine lv_iconst (v := iI 0) X.1 X.2.1 d_Ce_judgeShown_144 (by decide) ?_
            refine lv_iconst (v := iI 0) X.1 X.2.1 d_Ce_judgeShown_145 (by decide) ?_
            refine t_ui (t_runV (As := [.int (iI 0), .int (iI 0)]) (rest := [.ref b110]) (n := 2) X Y S k110 hml hl.1 (c_By_field l D E T κ L f118 H.size b110 6144 k110 (by omega) 0 (by omega) (by omega) 0 (by omega) (by omega) S.1) (ok_k X Y hA KS KR) rfl kl_Ce_By_field ks_By_field kx_By_field ki_By_field ini_By ⟨rfl, rfl⟩ hd_By_field ⟨Nat.le_of_ble_eq_true rfl, Nat.le_of_ble_eq_true rfl⟩ rfl (Nat.le_of_ble_eq_true rfl) d_Ce_judgeShown_146 ⟨Nat.le_of_ble_eq_true rfl, Nat.le_of_ble_eq_true rfl⟩) X Y hA (fun z123 H locs Y p123 => ?_)
            obtain ⟨l123, u123⟩ := p123
            refine t_ui (t_runV (As := [.int (iI z123)]) (rest := []) (n := 1) X Y S k110 hml hl.1 (c_By_timeAt l D E T κ L f118 H.size b110 6144 k110 (by omega) z123 (by omega) (by omega) S.1) (ok_k X Y hA KS KR) rfl kl_Ce_By_timeAt ks_By_timeAt kx_By_timeAt ki_By_timeAt ini_By ⟨rfl, rfl⟩ hd_By_timeAt ⟨Nat.le_of_ble_eq_true rfl, Nat.le_of_ble_eq_true rfl⟩ rfl (Nat.le_of_ble_eq_true rfl) d_Ce_judgeShown_149 ⟨Nat.le_of_ble_eq_true rfl, Nat.le_of_ble_eq_true rfl⟩) X Y hA (fun z124 H locs Y p124 => ?_)
            obtain ⟨l124, u124⟩ := p124
            refine lv_aload_n X.1 X.2.1 d_Ce_judgeShown_152 rfl (lv_at hl 0 rfl) ?_
            refine t_get0 (ci := 4) X Y S k0 rfl i_Ce 0 (by decide) rfl lk_Ce_18 (fun _ h9 => h9) d_Ce_judgeShown_153 ((gF_same (s118.2.2.2 _ ⟨(t_obj S.1 k0).1, nM_of k0 (by decide), by simp⟩).1 0).trans e109) ?_
            refine t_geti (ci := 11) X Y S k109 rfl i_Va 0 (by decide) rfl lk_Ce_112 (fun _ h9 => h9) d_Ce_judgeShown_156 (fun z125 e125 l125 u125 => ?_)
            refine lv_isub X.1 X.2.1 d_Ce_judgeShown_159 ?_
            refine t_u (fun z126 l126 u126 => ?_)
            refine va_mabs X.1 X.2.1 (hml.trans hl.1.symm) X.2.2.2.1 (X.2.2.1 _ kl_Ce_mabs) (X.2.2.1 _ ks_mabs) (X.2.2.1 _ ini_Math) (X.2.2.1 _ ki_mabs) (Nat.le_of_ble_eq_true rfl) (Nat.le_of_ble_eq_true rfl) (Nat.le_of_ble_eq_true rfl) (Nat.le_of_ble_eq_true rfl) d_Ce_judgeShown_160 ?_
            refine t_u (fun z127 l127 u127 => ?_)
            refine lv_sipush (v := iI 300) X.1 X.2.1 d_Ce_judgeShown_163 (by decide) ?_
            refine z_icmp_le (tgt := 174) X.1 X.2.1 d_Ce_judgeShown_166 (by decide) ⟨by omega, by omega⟩ ⟨by omega, by omega⟩ (fun h128 => ?_) (fun h128 => ?_)
            · refine lv_iconst (v := iI 0) X.1 X.2.1 d_Ce_judgeShown_174 (by decide) ?_
              exact c_reti hQQ X Y hr hlk ⟨rfl, S, 0, rfl, ⟨by omega, by omega⟩⟩ d_Ce_judgeShown_175
            · refine lv_bipush (v := iI 37) X.1 X.2.1 d_Ce_judgeShown_169 (by decide) ?_
              refine lv_goto (tgt := 175) X.1 X.2.1 d_Ce_judgeShown_171 (by decide) ?_
              exact c_reti hQQ X Y hr hlk ⟨rfl, S, 37, rfl, ⟨by omega, by omega⟩⟩ d_Ce_judgeShown_175
          · refine lv_bipush (v := iI 24) X.1 X.2.1 d_Ce_judgeShown_137 (by decide) ?_
            exact c_reti hQQ X Y hr hlk ⟨rfl, S, 24, rfl, ⟨by omega, by omega⟩⟩ d_Ce_judgeShown_139
      refine z_if_eq (tgt := 95) X.1 X.2.1 d_Ce_judgeShown_84 (by decide) ⟨by omega, by omega⟩ (fun h129 => ?_) (fun h129 => ?_)
      · exact J112  _ _ _  Y S (lv_sub hl [4, 2, 1, 0] rfl)
      · refine lv_lload_n X.1 X.2.1 d_Ce_judgeShown_87 rfl (lv_at hl 1 rfl) ?_
        refine lv_ldc2 (v := (18)) X.1 X.2.1 X.2.2.2.1 (X.2.2.1 _ cl_Ce_155) d_Ce_judgeShown_88 ?_
        refine W.lcmp X.1 X.2.1 d_Ce_judgeShown_91 ?_
        refine t_u (fun z130 l130 u130 => ?_)
        refine z_if_ne (tgt := 137) X.1 X.2.1 d_Ce_judgeShown_92 (by decide) ⟨by omega, by omega⟩ (fun h131 => ?_) (fun h131 => ?_)
        · refine lv_bipush (v := iI 24) X.1 X.2.1 d_Ce_judgeShown_137 (by decide) ?_
          exact c_reti hQQ X Y hr hlk ⟨rfl, S, 24, rfl, ⟨by omega, by omega⟩⟩ d_Ce_judgeShown_139
        · exact J112  _ _ _  Y S (lv_sub hl [4, 2, 1, 0] rfl)
    · refine lv_bipush (v := iI 24) X.1 X.2.1 d_Ce_judgeShown_50 (by decide) ?_
      exact c_reti hQQ X Y hr hlk ⟨rfl, S, 24, rfl, ⟨by omega, by omega⟩⟩ d_Ce_judgeShown_52
  · refine lv_bipush (v := iI 25) X.1 X.2.1 d_Ce_judgeShown_10 (by decide) ?_
    exact c_reti hQQ X Y hr hlk ⟨rfl, S, 25, rfl, ⟨by omega, by omega⟩⟩ d_Ce_judgeShown_12
set_option maxHeartbeats 4000000 in
set_option maxRecDepth 100000 in
theorem c_Ce_judgeAsX (l : Launch) (D : va_G) (E : cE) (T : cT) (κ : tK) (L : List Nat) (f : pF) (sz : Nat) (h : Nat) (k0 : κ h = (14, 0)) (hw : tW E T κ L f) (tp : Nat) (ktp : κ tp = (13, 4000)) (e3 : gF f h 3 = .ref tp) (sz0 : Int) (g0 : gF f tp 1 = .int (iI sz0)) (g1 : 0 ≤ sz0) (g2 : sz0 ≤ 4000) (q0 : TopP (rb f tp) sz0) : Met l y_Ce_judgeAs (k_Ce_judgeAs :: lw_tg) (kRm 72 2388 0 0) (va_Pc [.ref h] (kPre D E T L f sz)) (va_Qi (nPi E T [1, 2, 3, 4, 11, 13, 14, 16] κ L f (fun (z : Int) (g : pF) => (-2147483648) ≤ z ∧ z ≤ 2147483647 ∧ gF g h 3 = gF f h 3)) (cPost D E (pA L sz)) (pA L sz)) 0 0 (pA L sz) := by
  refine k_enter (own := R_Ce) (by decide) rfl (Nat.le_of_ble_eq_true rfl) (fun p e s m below meth c ls AV QQ H locs hQQ X Y hA hin hr hlk hml hl KS KR => ?_)
  have hl : lv_has ls 2 [(0, .ref h)] := hl
  have S : tS E T (tFr κ L [1, 2, 3, 4, 11, 13, 14, 16] []) κ L f κ L f := tS_rf hw
  refine lv_aload_n X.1 X.2.1 d_Ce_judgeAs_0 rfl (lv_at hl 0 rfl) ?_
  refine lv_aload_n X.1 X.2.1 d_Ce_judgeAs_1 rfl (lv_at hl 0 rfl) ?_
  refine t_get0 (ci := 4) X Y S k0 rfl i_Ce 3 (by decide) rfl lk_Ce_30 (fun _ h9 => h9) d_Ce_judgeAs_2 e3 ?_
  refine lv_aload_n X.1 X.2.1 d_Ce_judgeAs_5 rfl (lv_at hl 0 rfl) ?_
  refine t_get0 (ci := 4) X Y S k0 rfl i_Ce 3 (by decide) rfl lk_Ce_30 (fun _ h9 => h9) d_Ce_judgeAs_6 e3 ?_
  refine lv_aload_n X.1 X.2.1 d_Ce_judgeAs_9 rfl (lv_at hl 0 rfl) ?_
  refine t_geti (ci := 4) X Y S k0 rfl i_Ce 8 (by decide) rfl lk_Ce_81 (fun _ h9 => h9) d_Ce_judgeAs_10 (fun z101 e101 l101 u101 => ?_)
  refine lv_iconst (v := iI 1) X.1 X.2.1 d_Ce_judgeAs_13 (by decide) ?_
  refine t_ui (t_runV (As := [.int (iI z101), .int (iI 1)]) (rest := [.ref tp, .ref h]) (n := 2) X Y S ktp hml hl.1 (c_By_field l D E T κ L f H.size tp 4000 ktp (by omega) z101 (by omega) (by omega) 1 (by omega) (by omega) S.1) (ok_k X Y hA KS KR) rfl kl_Ce_By_field ks_By_field kx_By_field ki_By_field ini_By ⟨rfl, rfl⟩ hd_By_field ⟨Nat.le_of_ble_eq_true rfl, Nat.le_of_ble_eq_true rfl⟩ rfl (Nat.le_of_ble_eq_true rfl) d_Ce_judgeAs_14 ⟨Nat.le_of_ble_eq_true rfl, Nat.le_of_ble_eq_true rfl⟩) X Y hA (fun z102 H locs Y p102 => ?_)
  obtain ⟨l102, u102⟩ := p102
  refine t_ni (t_runV (As := [.ref tp, .int (iI z102)]) (rest := []) (n := 2) X Y S k0 hml hl.1 (c_Ce_judgeClient l D E T κ L f H.size h k0 tp 4000 ktp (by omega) z102 (by omega) (by omega) S.1) (ok_k X Y hA KS KR) rfl kl_Ce_Ce_judgeClient ks_Ce_judgeClient kx_Ce_judgeClient ki_Ce_judgeClient ini_Ce ⟨rfl, rfl⟩ hd_Ce_judgeClient ⟨Nat.le_of_ble_eq_true rfl, Nat.le_of_ble_eq_true rfl⟩ rfl (Nat.le_of_ble_eq_true rfl) d_Ce_judgeAs_17 ⟨Nat.le_of_ble_eq_true rfl, Nat.le_of_ble_eq_true rfl⟩) X Y hA S (by decide) (fun z103 f103 H locs Y S s103 p103 => ?_)
  obtain ⟨l103, u103, x103⟩ := p103
  have kp104 : TopP (rb f103 tp) sz0 := by rw [rb_S s103 ktp (by decide) (by decide)]; exact q0
  refine lv_istore_n (lv' := [(1, .int (iI z103)), (0, .ref h)]) X.1 X.2.1 d_Ce_judgeAs_20 rfl hl (by decide) rfl (fun ls hl => ?_)
  refine lv_iload_n X.1 X.2.1 d_Ce_judgeAs_21 rfl (lv_at hl 0 rfl) ?_
  have J110 : ∀ (z106 : Int) (f105 : pF) (H : Heap) (locs : List Loc) (ls : Array Slot), ((-2147483648) ≤ z106) → (z106 ≤ 2147483647) → (TopP (rb f105 tp) sz0) → (gF f105 h 3 = .ref tp) → (gF f105 tp 1 = .int (iI sz0)) → pH D cCl (pA L sz) s.heap L f105 H locs → tS E T (tFr κ L [1, 2, 3, 4, 11, 13, 14, 16] []) κ L f κ L f105 → lv_has ls 2 [(0, .ref h), (1, .int (iI z106))] → W p l e (kRm 72 2388 0 0) s m AV below meth c H locs 0 0 QQ (F0 m 30 ls []) := by
    intro z106 f105 H locs ls l106 u106 kp107 e108 e109 Y S hl
    refine lv_iload_n X.1 X.2.1 d_Ce_judgeAs_30 rfl (lv_at hl 1 rfl) ?_
    refine z_if_eq (tgt := 36) X.1 X.2.1 d_Ce_judgeAs_31 (by decide) ⟨by omega, by omega⟩ (fun h114 => ?_) (fun h114 => ?_)
    · refine lv_aload_n X.1 X.2.1 d_Ce_judgeAs_36 rfl (lv_at hl 0 rfl) ?_
      refine lv_ldc (v := (-1350631473)) X.1 X.2.1 X.2.2.2.1 (X.2.2.1 _ cn_Ce_102) d_Ce_judgeAs_37 ?_
      refine t_eq (y := iI (-1350631473)) (by decide) ?_
      refine t_ui (t_runV (As := [.int (iI ((-1350631473)))]) (rest := []) (n := 1) X Y S k0 hml hl.1 (c_Ce_asks l D E T κ L f105 H.size h k0 ((-1350631473)) (by omega) (by omega) S.1) (ok_k X Y hA KS KR) rfl kl_Ce_Ce_asks ks_Ce_asks kx_Ce_asks ki_Ce_asks ini_Ce ⟨rfl, rfl⟩ hd_Ce_asks ⟨Nat.le_of_ble_eq_true rfl, Nat.le_of_ble_eq_true rfl⟩ rfl (Nat.le_of_ble_eq_true rfl) d_Ce_judgeAs_39 ⟨Nat.le_of_ble_eq_true rfl, Nat.le_of_ble_eq_true rfl⟩) X Y hA (fun z115 H locs Y p115 => ?_)
      obtain ⟨l115, u115⟩ := p115
      refine z_if_ne (tgt := 67) X.1 X.2.1 d_Ce_judgeAs_42 (by decide) ⟨by omega, by omega⟩ (fun h116 => ?_) (fun h116 => ?_)
      · refine lv_bipush (v := iI 13) X.1 X.2.1 d_Ce_judgeAs_67 (by decide) ?_
        exact c_reti hQQ X Y hr hlk ⟨rfl, S, 13, rfl, ⟨by omega, by omega, (e108).trans e3.symm⟩⟩ d_Ce_judgeAs_69
      · refine lv_aload_n X.1 X.2.1 d_Ce_judgeAs_45 rfl (lv_at hl 0 rfl) ?_
        refine t_get0 (ci := 4) X Y S k0 rfl i_Ce 3 (by decide) rfl lk_Ce_30 (fun _ h9 => h9) d_Ce_judgeAs_46 e108 ?_
        refine lv_aload_n X.1 X.2.1 d_Ce_judgeAs_49 rfl (lv_at hl 0 rfl) ?_
        refine t_get0 (ci := 4) X Y S k0 rfl i_Ce 3 (by decide) rfl lk_Ce_30 (fun _ h9 => h9) d_Ce_judgeAs_50 e108 ?_
        refine lv_aload_n X.1 X.2.1 d_Ce_judgeAs_53 rfl (lv_at hl 0 rfl) ?_
        refine t_geti (ci := 4) X Y S k0 rfl i_Ce 8 (by decide) rfl lk_Ce_81 (fun _ h9 => h9) d_Ce_judgeAs_54 (fun z117 e117 l117 u117 => ?_)
        refine lv_iconst (v := iI 0) X.1 X.2.1 d_Ce_judgeAs_57 (by decide) ?_
        refine t_ui (t_runV (As := [.int (iI z117), .int (iI 0)]) (rest := [.ref tp]) (n := 2) X Y S ktp hml hl.1 (c_By_field l D E T κ L f105 H.size tp 4000 ktp (by omega) z117 (by omega) (by omega) 0 (by omega) (by omega) S.1) (ok_k X Y hA KS KR) rfl kl_Ce_By_field ks_By_field kx_By_field ki_By_field ini_By ⟨rfl, rfl⟩ hd_By_field ⟨Nat.le_of_ble_eq_true rfl, Nat.le_of_ble_eq_true rfl⟩ rfl (Nat.le_of_ble_eq_true rfl) d_Ce_judgeAs_58 ⟨Nat.le_of_ble_eq_true rfl, Nat.le_of_ble_eq_true rfl⟩) X Y hA (fun z118 H locs Y p118 => ?_)
        obtain ⟨l118, u118⟩ := p118
        refine t_ui (t_runV (As := [.int (iI z118)]) (rest := []) (n := 1) X Y S ktp hml hl.1 (c_By_hasFarBits l D E T κ L f105 H.size tp 4000 ktp (by omega) z118 (by omega) (by omega) S.1) (ok_k X Y hA KS KR) rfl kl_Ce_By_hasFarBits ks_By_hasFarBits kx_By_hasFarBits ki_By_hasFarBits ini_By ⟨rfl, rfl⟩ hd_By_hasFarBits ⟨Nat.le_of_ble_eq_true rfl, Nat.le_of_ble_eq_true rfl⟩ rfl (Nat.le_of_ble_eq_true rfl) d_Ce_judgeAs_61 ⟨Nat.le_of_ble_eq_true rfl, Nat.le_of_ble_eq_true rfl⟩) X Y hA (fun z119 H locs Y p119 => ?_)
        obtain ⟨l119, u119⟩ := p119
        refine z_if_eq (tgt := 70) X.1 X.2.1 d_Ce_judgeAs_64 (by decide) ⟨by omega, by omega⟩ (fun h120 => ?_) (fun h120 => ?_)
        · refine lv_aload_n X.1 X.2.1 d_Ce_judgeAs_70 rfl (lv_at hl 0 rfl) ?_
          refine t_get0 (ci := 4) X Y S k0 rfl i_Ce 3 (by decide) rfl lk_Ce_30 (fun _ h9 => h9) d_Ce_judgeAs_71 e108 ?_
          refine lv_aload_n X.1 X.2.1 d_Ce_judgeAs_74 rfl (lv_at hl 0 rfl) ?_
          refine t_get0 (ci := 4) X Y S k0 rfl i_Ce 3 (by decide) rfl lk_Ce_30 (fun _ h9 => h9) d_Ce_judgeAs_75 e108 ?_
          refine lv_aload_n X.1 X.2.1 d_Ce_judgeAs_78 rfl (lv_at hl 0 rfl) ?_
          refine t_get0 (ci := 4) X Y S k0 rfl i_Ce 8 (by decide) rfl lk_Ce_81 (fun _ h9 => h9) d_Ce_judgeAs_79 e117 ?_
          refine lv_iconst (v := iI 4) X.1 X.2.1 d_Ce_judgeAs_82 (by decide) ?_
          refine t_ui (t_runV (As := [.int (iI z117), .int (iI 4)]) (rest := [.ref tp]) (n := 2) X Y S ktp hml hl.1 (c_By_field l D E T κ L f105 H.size tp 4000 ktp (by omega) z117 (by omega) (by omega) 4 (by omega) (by omega) S.1) (ok_k X Y hA KS KR) rfl kl_Ce_By_field ks_By_field kx_By_field ki_By_field ini_By ⟨rfl, rfl⟩ hd_By_field ⟨Nat.le_of_ble_eq_true rfl, Nat.le_of_ble_eq_true rfl⟩ rfl (Nat.le_of_ble_eq_true rfl) d_Ce_judgeAs_83 ⟨Nat.le_of_ble_eq_true rfl, Nat.le_of_ble_eq_true rfl⟩) X Y hA (fun z121 H locs Y p121 => ?_)
          obtain ⟨l121, u121⟩ := p121
          refine t_ui (t_runV (As := [.int (iI z121)]) (rest := []) (n := 1) X Y S ktp hml hl.1 (c_By_timeAt l D E T κ L f105 H.size tp 4000 ktp (by omega) z121 (by omega) (by omega) S.1) (ok_k X Y hA KS KR) rfl kl_Ce_By_timeAt ks_By_timeAt kx_By_timeAt ki_By_timeAt ini_By ⟨rfl, rfl⟩ hd_By_timeAt ⟨Nat.le_of_ble_eq_true rfl, Nat.le_of_ble_eq_true rfl⟩ rfl (Nat.le_of_ble_eq_true rfl) d_Ce_judgeAs_86 ⟨Nat.le_of_ble_eq_true rfl, Nat.le_of_ble_eq_true rfl⟩) X Y hA (fun z122 H locs Y p122 => ?_)
          obtain ⟨l122, u122⟩ := p122
          refine lv_aload_n X.1 X.2.1 d_Ce_judgeAs_89 rfl (lv_at hl 0 rfl) ?_
          refine t_getr (ci := 4) X Y S k0 rfl i_Ce 0 (by decide) rfl (k1 := 21) (k2 := 0) rfl rfl lk_Ce_18 (fun _ h9 => h9) d_Ce_judgeAs_90 (fun b123 e123 k123 => ?_)
          refine t_geti (ci := 11) X Y S k123 rfl i_Va 0 (by decide) rfl lk_Ce_112 (fun _ h9 => h9) d_Ce_judgeAs_93 (fun z124 e124 l124 u124 => ?_)
          refine lv_isub X.1 X.2.1 d_Ce_judgeAs_96 ?_
          refine t_u (fun z125 l125 u125 => ?_)
          refine lv_sipush (v := iI 300) X.1 X.2.1 d_Ce_judgeAs_97 (by decide) ?_
          refine z_icmp_le (tgt := 106) X.1 X.2.1 d_Ce_judgeAs_100 (by decide) ⟨by omega, by omega⟩ ⟨by omega, by omega⟩ (fun h126 => ?_) (fun h126 => ?_)
          · refine lv_aload_n X.1 X.2.1 d_Ce_judgeAs_106 rfl (lv_at hl 0 rfl) ?_
            refine t_ni (t_runV (As := []) (rest := []) (n := 0) X Y S k0 hml hl.1 (c_Ce_findType l D E T κ L f105 H.size h k0 S.1) (ok_k X Y hA KS KR) rfl kl_Ce_Ce_findType ks_Ce_findType kx_Ce_findType ki_Ce_findType ini_Ce ⟨rfl, rfl⟩ hd_Ce_findType ⟨Nat.le_of_ble_eq_true rfl, Nat.le_of_ble_eq_true rfl⟩ rfl (Nat.le_of_ble_eq_true rfl) d_Ce_judgeAs_107 ⟨Nat.le_of_ble_eq_true rfl, Nat.le_of_ble_eq_true rfl⟩) X Y hA S (by decide) (fun z127 f127 H locs Y S s127 p127 => ?_)
            obtain ⟨l127, u127, x127⟩ := p127
            have kp128 : TopP (rb f127 tp) sz0 := by rw [rb_S s127 ktp (by decide) (by decide)]; exact kp107
            refine z_if_ne (tgt := 116) X.1 X.2.1 d_Ce_judgeAs_110 (by decide) ⟨by omega, by omega⟩ (fun h129 => ?_) (fun h129 => ?_)
            · refine lv_aload_n X.1 X.2.1 d_Ce_judgeAs_116 rfl (lv_at hl 0 rfl) ?_
              refine t_getr (ci := 4) X Y S k0 rfl i_Ce 10 (by decide) rfl (k1 := 17) (k2 := 0) rfl rfl lk_Ce_37 (fun _ h9 => h9) d_Ce_judgeAs_117 (fun b130 e130 k130 => ?_)
              refine lv_iconst (v := iI 1) X.1 X.2.1 d_Ce_judgeAs_120 (by decide) ?_
              refine t_ui (t_runV (As := [.int (iI 1)]) (rest := []) (n := 1) X Y S k130 hml hl.1 (c_Pr_is l D E T κ L f127 H.size b130 k130 1 (by omega) (by omega) S.1) (ok_k X Y hA KS KR) rfl kl_Ce_Pr_is ks_Pr_is kx_Pr_is ki_Pr_is ini_Pr ⟨rfl, rfl⟩ hd_Pr_is ⟨Nat.le_of_ble_eq_true rfl, Nat.le_of_ble_eq_true rfl⟩ rfl (Nat.le_of_ble_eq_true rfl) d_Ce_judgeAs_121 ⟨Nat.le_of_ble_eq_true rfl, Nat.le_of_ble_eq_true rfl⟩) X Y hA (fun z131 H locs Y p131 => ?_)
              obtain ⟨l131, u131⟩ := p131
              have J135 : ∀ (z133 : Int) (f132 : pF) (H : Heap) (locs : List Loc) (ls : Array Slot), ((-2147483648) ≤ z133) → (z133 ≤ 2147483647) → (gF f132 h 3 = .ref tp) → pH D cCl (pA L sz) s.heap L f132 H locs → tS E T (tFr κ L [1, 2, 3, 4, 11, 13, 14, 16] []) κ L f κ L f132 → lv_has ls 2 [(0, .ref h), (1, .int (iI z133))] → W p l e (kRm 72 2388 0 0) s m AV below meth c H locs 0 0 QQ (F0 m 132 ls []) := by
                intro z133 f132 H locs ls l133 u133 e134 Y S hl
                refine lv_iload_n X.1 X.2.1 d_Ce_judgeAs_132 rfl (lv_at hl 1 rfl) ?_
                refine z_if_ne (tgt := 143) X.1 X.2.1 d_Ce_judgeAs_133 (by decide) ⟨by omega, by omega⟩ (fun h139 => ?_) (fun h139 => ?_)
                · refine lv_iload_n X.1 X.2.1 d_Ce_judgeAs_143 rfl (lv_at hl 1 rfl) ?_
                  exact c_reti hQQ X Y hr hlk ⟨rfl, S, z133, rfl, ⟨by omega, by omega, (e134).trans e3.symm⟩⟩ d_Ce_judgeAs_144
                · refine lv_aload_n X.1 X.2.1 d_Ce_judgeAs_136 rfl (lv_at hl 0 rfl) ?_
                  refine t_ni (t_runV (As := []) (rest := []) (n := 0) X Y S k0 hml hl.1 (c_Ce_setTimes l D E T κ L f132 H.size h k0 S.1) (ok_k X Y hA KS KR) rfl kl_Ce_Ce_setTimes ks_Ce_setTimes kx_Ce_setTimes ki_Ce_setTimes ini_Ce ⟨rfl, rfl⟩ hd_Ce_setTimes ⟨Nat.le_of_ble_eq_true rfl, Nat.le_of_ble_eq_true rfl⟩ rfl (Nat.le_of_ble_eq_true rfl) d_Ce_judgeAs_137 ⟨Nat.le_of_ble_eq_true rfl, Nat.le_of_ble_eq_true rfl⟩) X Y hA S (by decide) (fun z140 f140 H locs Y S s140 p140 => ?_)
                  obtain ⟨l140, u140, x140⟩ := p140
                  refine lv_goto (tgt := 144) X.1 X.2.1 d_Ce_judgeAs_140 (by decide) ?_
                  exact c_reti hQQ X Y hr hlk ⟨rfl, S, z140, rfl, ⟨by omega, by omega, ((x140.trans e134)).trans e3.symm⟩⟩ d_Ce_judgeAs_144
              refine z_if_eq (tgt := 132) X.1 X.2.1 d_Ce_judgeAs_124 (by decide) ⟨by omega, by omega⟩ (fun h141 => ?_) (fun h141 => ?_)
              · exact J135 z106 f127 _ _ _ (by omega) (by omega) (x127.trans e108) Y S (lv_sub hl [0, 1] rfl)
              · refine lv_aload_n X.1 X.2.1 d_Ce_judgeAs_127 rfl (lv_at hl 0 rfl) ?_
                refine t_ni (t_runV (As := []) (rest := []) (n := 0) X Y S k0 hml hl.1 (c_Ce_judgeShownX l D E T κ L f127 H.size h k0 S.1 tp ktp (x127.trans e108) sz0 ((gF_same (s127.2.2.2 _ ⟨(t_obj S.1 ktp).1, nM_of ktp (by decide), by simp⟩).1 1).trans e109) (by omega) (by omega) kp128) (ok_k X Y hA KS KR) rfl kl_Ce_Ce_judgeShown ks_Ce_judgeShown kx_Ce_judgeShown ki_Ce_judgeShown ini_Ce ⟨rfl, rfl⟩ hd_Ce_judgeShown ⟨Nat.le_of_ble_eq_true rfl, Nat.le_of_ble_eq_true rfl⟩ rfl (Nat.le_of_ble_eq_true rfl) d_Ce_judgeAs_128 ⟨Nat.le_of_ble_eq_true rfl, Nat.le_of_ble_eq_true rfl⟩) X Y hA S (by decide) (fun z142 f142 H locs Y S s142 p142 => ?_)
                obtain ⟨l142, u142⟩ := p142
                refine lv_istore_n (lv' := [(1, .int (iI z142)), (0, .ref h)]) X.1 X.2.1 d_Ce_judgeAs_131 rfl hl (by decide) rfl (fun ls hl => ?_)
                exact J135 z142 f142 _ _ _ (by omega) (by omega) ((gF_same (s142.2.2.2 _ ⟨(t_obj S.1 k0).1, nM_of k0 (by decide), by simp⟩).1 3).trans (x127.trans e108)) Y S (lv_sub hl [1, 0] rfl)
            · refine lv_bipush (v := iI 14) X.1 X.2.1 d_Ce_judgeAs_113 (by decide) ?_
              exact c_reti hQQ X Y hr hlk ⟨rfl, S, 14, rfl, ⟨by omega, by omega, ((x127.trans e108)).trans e3.symm⟩⟩ d_Ce_judgeAs_115
          · refine lv_bipush (v := iI 10) X.1 X.2.1 d_Ce_judgeAs_103 (by decide) ?_
            exact c_reti hQQ X Y hr hlk ⟨rfl, S, 10, rfl, ⟨by omega, by omega, (e108).trans e3.symm⟩⟩ d_Ce_judgeAs_105
        · refine lv_bipush (v := iI 13) X.1 X.2.1 d_Ce_judgeAs_67 (by decide) ?_
          exact c_reti hQQ X Y hr hlk ⟨rfl, S, 13, rfl, ⟨by omega, by omega, (e108).trans e3.symm⟩⟩ d_Ce_judgeAs_69
    · refine lv_iload_n X.1 X.2.1 d_Ce_judgeAs_34 rfl (lv_at hl 1 rfl) ?_
      exact c_reti hQQ X Y hr hlk ⟨rfl, S, z106, rfl, ⟨by omega, by omega, (e108).trans e3.symm⟩⟩ d_Ce_judgeAs_35
  refine z_if_ne (tgt := 30) X.1 X.2.1 d_Ce_judgeAs_22 (by decide) ⟨by omega, by omega⟩ (fun h143 => ?_) (fun h143 => ?_)
  · exact J110 z103 f103 _ _ _ (by omega) (by omega) kp104 (x103.trans e3) ((gF_same (s103.2.2.2 _ ⟨(t_obj S.1 ktp).1, nM_of ktp (by decide), by simp⟩).1 1).trans g0) Y S (lv_sub hl [1, 0] rfl)
  · refine lv_aload_n X.1 X.2.1 d_Ce_judgeAs_25 rfl (lv_at hl 1 rfl) ?_
    refine t_ni (t_runV (As := []) (rest := []) (n := 0) X Y S k0 hml hl.1 (c_Ce_judgeService l D E T κ L f103 H.size h k0 S.1) (ok_k X Y hA KS KR) rfl kl_Ce_Ce_judgeService ks_Ce_judgeService kx_Ce_judgeService ki_Ce_judgeService ini_Ce ⟨rfl, rfl⟩ hd_Ce_judgeService ⟨Nat.le_of_ble_eq_true rfl, Nat.le_of_ble_eq_true rfl⟩ rfl (Nat.le_of_ble_eq_true rfl) d_Ce_judgeAs_26 ⟨Nat.le_of_ble_eq_true rfl, Nat.le_of_ble_eq_true rfl⟩) X Y hA S (by decide) (fun z144 f144 H locs Y S s144 p144 => ?_)
    obtain ⟨l144, u144, x144⟩ := p144
    have kp145 : TopP (rb f144 tp) sz0 := by rw [rb_S s144 ktp (by decide) (by decide)]; exact kp104
    refine lv_istore_n (lv' := [(1, .int (iI z144)), (0, .ref h)]) X.1 X.2.1 d_Ce_judgeAs_29 rfl hl (by decide) rfl (fun ls hl => ?_)
    exact J110 z144 f144 _ _ _ (by omega) (by omega) kp145 (x144.trans (x103.trans e3)) ((gF_same (s144.2.2.2 _ ⟨(t_obj S.1 ktp).1, nM_of ktp (by decide), by simp⟩).1 1).trans ((gF_same (s103.2.2.2 _ ⟨(t_obj S.1 ktp).1, nM_of ktp (by decide), by simp⟩).1 1).trans g0)) Y S (lv_sub hl [1, 0] rfl)
set_option maxHeartbeats 4000000 in
set_option maxRecDepth 100000 in
theorem c_Ga_judgeX (l : Launch) (D : va_G) (E : cE) (T : cT) (κ : tK) (L : List Nat) (f : pF) (sz : Nat) (h : Nat) (k0 : κ h = (15, 0)) (a1 n1 : Nat) (k1 : κ a1 = (13, n1)) (x1 : n1 ≤ 12288) (a2 : Int) (l_a2 : (-1) ≤ a2) (u_a2 : a2 ≤ 20200) (a3 : Int) (l_a3 : (-1) ≤ a3) (u_a3 : a3 ≤ 20200) (a4 : Nat) (k4 : κ a4 = (17, 0)) (a5 : Nat) (k5 : κ a5 = (18, 0)) (a6 : Int) (l_a6 : (-2147483648) ≤ a6) (u_a6 : a6 ≤ 2147483647) (hw : tW E T κ L f) (q0 : 0 ≤ a3 ∨ a2 < 0) : Met l y_Ga_judge (k_Ga_judge :: lw_tg) (kRm 72 2392 1 32) (va_Pc [.ref h, .ref a1, .int (iI a2), .int (iI a3), .ref a4, .ref a5, .int (iI a6)] (kPre D E T L f sz)) (va_Qi (aPi E T [1, 2, 3, 4, 11, 13, 15, 16, 18] [] κ L f (fun (z : Int) (k : tK) (g : pF) => (-2147483648) ≤ z ∧ z ≤ 2147483647)) (cPost D E (pA L sz)) (pA L sz)) 1 32 (pA L sz) := by
  refine k_enter (own := R_Ga) (by decide) rfl (Nat.le_of_ble_eq_true rfl) (fun p e s m below meth c ls AV QQ H locs hQQ X Y hA hin hr hlk hml hl KS KR => ?_)
  have hl : lv_has ls 9 [(0, .ref h), (1, .ref a1), (2, .int (iI a2)), (3, .int (iI a3)), (4, .ref a4), (5, .ref a5), (6, .int (iI a6))] := hl
  have S : tS E T (tFr κ L [1, 2, 3, 4, 11, 13, 15, 16, 18] []) κ L f κ L f := tS_rf hw
  have hF0 : ∀ b, tFr κ L [1, 2, 3, 4, 11, 13, 15, 16, 18] [] b → b ∈ L := fun b h9 => h9.1
  refine lv_aload_n X.1 X.2.1 d_Ga_judge_0 rfl (lv_at hl 1 rfl) ?_
  refine lv_sipush (v := iI 366) X.1 X.2.1 d_Ga_judge_1 (by decide) ?_
  refine lv_iload_n X.1 X.2.1 d_Ga_judge_4 rfl (lv_at hl 2 rfl) ?_
  refine lv_iload_n X.1 X.2.1 d_Ga_judge_5 rfl (lv_at hl 3 rfl) ?_
  obtain ⟨z101, e101, l101, u101⟩ := t_size S k1
  refine t_ui (t_runV (As := [.int (iI 366), .int (iI a2), .int (iI a3)]) (rest := []) (n := 3) X Y S k1 hml hl.1 (c_By_isAX l D E T κ L f H.size a1 n1 k1 (by omega) 366 (by omega) (by omega) a2 (by omega) (by omega) a3 (by omega) (by omega) S.1 z101 e101 (by omega) (by omega) (by omega)) (ok_k X Y hA KS KR) rfl kl_Ga_By_isA ks_By_isA kx_By_isA ki_By_isA ini_By ⟨rfl, rfl⟩ hd_By_isA ⟨Nat.le_of_ble_eq_true rfl, Nat.le_of_ble_eq_true rfl⟩ rfl (Nat.le_of_ble_eq_true rfl) d_Ga_judge_6 ⟨Nat.le_of_ble_eq_true rfl, Nat.le_of_ble_eq_true rfl⟩) X Y hA (fun z102 H locs Y p102 => ?_)
  obtain ⟨l102, u102, x102⟩ := p102
  refine z_if_ne (tgt := 15) X.1 X.2.1 d_Ga_judge_9 (by decide) ⟨by omega, by omega⟩ (fun h103 => ?_) (fun h103 => ?_)
  · refine lv_aload_n X.1 X.2.1 d_Ga_judge_15 rfl (lv_at hl 1 rfl) ?_
    refine lv_aload_n X.1 X.2.1 d_Ga_judge_16 rfl (lv_at hl 1 rfl) ?_
    refine lv_iload_n X.1 X.2.1 d_Ga_judge_17 rfl (lv_at hl 2 rfl) ?_
    refine lv_iconst (v := iI 0) X.1 X.2.1 d_Ga_judge_18 (by decide) ?_
    refine t_ui (t_runV (As := [.int (iI a2), .int (iI 0)]) (rest := [.ref a1]) (n := 2) X Y S k1 hml hl.1 (c_By_field l D E T κ L f H.size a1 n1 k1 (by omega) a2 (by omega) (by omega) 0 (by omega) (by omega) S.1) (ok_k X Y hA KS KR) rfl kl_Ga_By_field ks_By_field kx_By_field ki_By_field ini_By ⟨rfl, rfl⟩ hd_By_field ⟨Nat.le_of_ble_eq_true rfl, Nat.le_of_ble_eq_true rfl⟩ rfl (Nat.le_of_ble_eq_true rfl) d_Ga_judge_19 ⟨Nat.le_of_ble_eq_true rfl, Nat.le_of_ble_eq_true rfl⟩) X Y hA (fun z104 H locs Y p104 => ?_)
    obtain ⟨l104, u104⟩ := p104
    refine t_ul (t_runV (As := [.int (iI z104)]) (rest := []) (n := 1) X Y S k1 hml hl.1 (c_By_numberAt l D E T κ L f H.size a1 n1 k1 (by omega) z104 (by omega) (by omega) S.1) (ok_k X Y hA KS KR) rfl kl_Ga_By_numberAt ks_By_numberAt kx_By_numberAt ki_By_numberAt ini_By ⟨rfl, rfl⟩ hd_By_numberAt ⟨Nat.le_of_ble_eq_true rfl, Nat.le_of_ble_eq_true rfl⟩ rfl (Nat.le_of_ble_eq_true rfl) d_Ga_judge_22 ⟨Nat.le_of_ble_eq_true rfl, Nat.le_of_ble_eq_true rfl⟩) X Y hA (fun v105 H locs Y p105 => ?_)
    refine lv_ldc2 (v := (5)) X.1 X.2.1 X.2.2.2.1 (X.2.2.1 _ cl_Ga_50) d_Ga_judge_25 ?_
    refine W.lcmp X.1 X.2.1 d_Ga_judge_28 ?_
    refine t_u (fun z106 l106 u106 => ?_)
    refine z_if_eq (tgt := 34) X.1 X.2.1 d_Ga_judge_29 (by decide) ⟨by omega, by omega⟩ (fun h107 => ?_) (fun h107 => ?_)
    · refine lv_aload_n X.1 X.2.1 d_Ga_judge_34 rfl (lv_at hl 1 rfl) ?_
      refine lv_aload_n X.1 X.2.1 d_Ga_judge_35 rfl (lv_at hl 1 rfl) ?_
      refine lv_iload_n X.1 X.2.1 d_Ga_judge_36 rfl (lv_at hl 2 rfl) ?_
      refine lv_iconst (v := iI 1) X.1 X.2.1 d_Ga_judge_37 (by decide) ?_
      refine t_ui (t_runV (As := [.int (iI a2), .int (iI 1)]) (rest := [.ref a1]) (n := 2) X Y S k1 hml hl.1 (c_By_field l D E T κ L f H.size a1 n1 k1 (by omega) a2 (by omega) (by omega) 1 (by omega) (by omega) S.1) (ok_k X Y hA KS KR) rfl kl_Ga_By_field ks_By_field kx_By_field ki_By_field ini_By ⟨rfl, rfl⟩ hd_By_field ⟨Nat.le_of_ble_eq_true rfl, Nat.le_of_ble_eq_true rfl⟩ rfl (Nat.le_of_ble_eq_true rfl) d_Ga_judge_38 ⟨Nat.le_of_ble_eq_true rfl, Nat.le_of_ble_eq_true rfl⟩) X Y hA (fun z108 H locs Y p108 => ?_)
      obtain ⟨l108, u108⟩ := p108
      refine t_ul (t_runV (As := [.int (iI z108)]) (rest := []) (n := 1) X Y S k1 hml hl.1 (c_By_numberAt l D E T κ L f H.size a1 n1 k1 (by omega) z108 (by omega) (by omega) S.1) (ok_k X Y hA KS KR) rfl kl_Ga_By_numberAt ks_By_numberAt kx_By_numberAt ki_By_numberAt ini_By ⟨rfl, rfl⟩ hd_By_numberAt ⟨Nat.le_of_ble_eq_true rfl, Nat.le_of_ble_eq_true rfl⟩ rfl (Nat.le_of_ble_eq_true rfl) d_Ga_judge_41 ⟨Nat.le_of_ble_eq_true rfl, Nat.le_of_ble_eq_true rfl⟩) X Y hA (fun v109 H locs Y p109 => ?_)
      refine lv_ldc2 (v := (14)) X.1 X.2.1 X.2.2.2.1 (X.2.2.1 _ cl_Ga_52) d_Ga_judge_44 ?_
      refine W.lcmp X.1 X.2.1 d_Ga_judge_47 ?_
      refine t_u (fun z110 l110 u110 => ?_)
      refine z_if_eq (tgt := 54) X.1 X.2.1 d_Ga_judge_48 (by decide) ⟨by omega, by omega⟩ (fun h111 => ?_) (fun h111 => ?_)
      · refine lv_aload_n X.1 X.2.1 d_Ga_judge_54 rfl (lv_at hl 1 rfl) ?_
        refine lv_iload_n X.1 X.2.1 d_Ga_judge_55 rfl (lv_at hl 2 rfl) ?_
        refine lv_iconst (v := iI 2) X.1 X.2.1 d_Ga_judge_56 (by decide) ?_
        refine t_ui (t_runV (As := [.int (iI a2), .int (iI 2)]) (rest := []) (n := 2) X Y S k1 hml hl.1 (c_By_field l D E T κ L f H.size a1 n1 k1 (by omega) a2 (by omega) (by omega) 2 (by omega) (by omega) S.1) (ok_k X Y hA KS KR) rfl kl_Ga_By_field ks_By_field kx_By_field ki_By_field ini_By ⟨rfl, rfl⟩ hd_By_field ⟨Nat.le_of_ble_eq_true rfl, Nat.le_of_ble_eq_true rfl⟩ rfl (Nat.le_of_ble_eq_true rfl) d_Ga_judge_57 ⟨Nat.le_of_ble_eq_true rfl, Nat.le_of_ble_eq_true rfl⟩) X Y hA (fun z112 H locs Y p112 => ?_)
        obtain ⟨l112, u112⟩ := p112
        refine lv_istore (lv' := [(7, .int (iI z112)), (0, .ref h), (1, .ref a1), (2, .int (iI a2)), (3, .int (iI a3)), (4, .ref a4), (5, .ref a5), (6, .int (iI a6))]) X.1 X.2.1 d_Ga_judge_60 hl (by decide) rfl (fun ls hl => ?_)
        refine lv_iload X.1 X.2.1 d_Ga_judge_62 (lv_at hl 7 rfl) ?_
        refine lv_bipush (v := iI 11) X.1 X.2.1 d_Ga_judge_64 (by decide) ?_
        have J113 : ∀  (H : Heap) (locs : List Loc) (ls : Array Slot), pH D cCl (pA L sz) s.heap L f H locs → tS E T (tFr κ L [1, 2, 3, 4, 11, 13, 15, 16, 18] []) κ L f κ L f → lv_has ls 9 [(0, .ref h), (1, .ref a1), (2, .int (iI a2)), (4, .ref a4), (5, .ref a5), (6, .int (iI a6))] → W p l e (kRm 72 2392 1 32) s m AV below meth c H locs 0 0 QQ (F0 m 93 ls []) := by
          intro  H locs ls  Y S hl
          refine lv_aload_n X.1 X.2.1 d_Ga_judge_93 rfl (lv_at hl 0 rfl) ?_
          refine lv_aload_n X.1 X.2.1 d_Ga_judge_94 rfl (lv_at hl 1 rfl) ?_
          refine lv_aload_n X.1 X.2.1 d_Ga_judge_95 rfl (lv_at hl 1 rfl) ?_
          refine lv_iload_n X.1 X.2.1 d_Ga_judge_96 rfl (lv_at hl 2 rfl) ?_
          refine lv_iconst (v := iI 3) X.1 X.2.1 d_Ga_judge_97 (by decide) ?_
          refine t_ui (t_runV (As := [.int (iI a2), .int (iI 3)]) (rest := [.ref a1, .ref h]) (n := 2) X Y S k1 hml hl.1 (c_By_field l D E T κ L f H.size a1 n1 k1 (by omega) a2 (by omega) (by omega) 3 (by omega) (by omega) S.1) (ok_k X Y hA KS KR) rfl kl_Ga_By_field ks_By_field kx_By_field ki_By_field ini_By ⟨rfl, rfl⟩ hd_By_field ⟨Nat.le_of_ble_eq_true rfl, Nat.le_of_ble_eq_true rfl⟩ rfl (Nat.le_of_ble_eq_true rfl) d_Ga_judge_98 ⟨Nat.le_of_ble_eq_true rfl, Nat.le_of_ble_eq_true rfl⟩) X Y hA (fun z117 H locs Y p117 => ?_)
          obtain ⟨l117, u117⟩ := p117
          refine lv_aload X.1 X.2.1 d_Ga_judge_101 (lv_at hl 3 rfl) ?_
          refine t_ai (t_runV (As := [.ref a1, .int (iI z117), .ref a4]) (rest := []) (n := 3) X Y S k0 hml hl.1 (c_Ga_openTicket l D E T κ L f H.size h k0 a1 n1 k1 (by omega) z117 (by omega) (by omega) a4 k4 S.1) (ok_k X Y hA KS KR) rfl kl_Ga_Ga_openTicket ks_Ga_openTicket kx_Ga_openTicket ki_Ga_openTicket ini_Ga ⟨rfl, rfl⟩ hd_Ga_openTicket ⟨Nat.le_of_ble_eq_true rfl, Nat.le_of_ble_eq_true rfl⟩ rfl (Nat.le_of_ble_eq_true rfl) d_Ga_judge_103 ⟨Nat.le_of_ble_eq_true rfl, Nat.le_of_ble_eq_true rfl⟩) X Y hA S (by decide) (fun z118 κ118 L118 f118 H locs Y S s118 p118 => ?_)
          obtain ⟨l118, u118⟩ := p118
          have k119 : κ118 h = (15, 0) := tLe_k s118.2.2.1 k0
          have k120 : κ118 a1 = (13, n1) := tLe_k s118.2.2.1 k1
          have k121 : κ118 a4 = (17, 0) := tLe_k s118.2.2.1 k4
          have k122 : κ118 a5 = (18, 0) := tLe_k s118.2.2.1 k5
          refine lv_istore (lv' := [(8, .int (iI z118)), (0, .ref h), (1, .ref a1), (2, .int (iI a2)), (4, .ref a4), (5, .ref a5), (6, .int (iI a6))]) X.1 X.2.1 d_Ga_judge_106 hl (by decide) rfl (fun ls hl => ?_)
          refine lv_iload X.1 X.2.1 d_Ga_judge_108 (lv_at hl 0 rfl) ?_
          have J125 : ∀ (z124 : Int) (f123 : pF) (H : Heap) (locs : List Loc) (ls : Array Slot), ((-2147483648) ≤ z124) → (z124 ≤ 2147483647) → pH D cCl (pA L sz) s.heap L118 f123 H locs → tS E T (tFr κ L [1, 2, 3, 4, 11, 13, 15, 16, 18] []) κ L f κ118 L118 f123 → lv_has ls 9 [(0, .ref h), (5, .ref a5), (8, .int (iI z124))] → W p l e (kRm 72 2392 1 32) s m AV below meth c H locs 1 32 QQ (F0 m 128 ls []) := by
            intro z124 f123 H locs ls l124 u124 Y S hl
            refine lv_iload X.1 X.2.1 d_Ga_judge_128 (lv_at hl 2 rfl) ?_
            refine z_if_ne (tgt := 142) X.1 X.2.1 d_Ga_judge_130 (by decide) ⟨by omega, by omega⟩ (fun h129 => ?_) (fun h129 => ?_)
            · refine lv_iload X.1 X.2.1 d_Ga_judge_142 (lv_at hl 2 rfl) ?_
              exact c_reti hQQ X Y hr hlk ⟨κ118, S, z124, rfl, ⟨by omega, by omega⟩⟩ d_Ga_judge_144
            · refine lv_aload_n X.1 X.2.1 d_Ga_judge_133 rfl (lv_at hl 0 rfl) ?_
              refine lv_aload X.1 X.2.1 d_Ga_judge_134 (lv_at hl 1 rfl) ?_
              refine t_ni (t_runV (As := [.ref a5]) (rest := []) (n := 1) X Y S k119 hml hl.1 (c_Ga_keep l D E T κ118 L118 f123 H.size h k119 a5 k122 S.1) (ok_k X Y hA KS KR) rfl kl_Ga_Ga_keep ks_Ga_keep kx_Ga_keep ki_Ga_keep ini_Ga ⟨rfl, rfl⟩ hd_Ga_keep ⟨Nat.le_of_ble_eq_true rfl, Nat.le_of_ble_eq_true rfl⟩ rfl (Nat.le_of_ble_eq_true rfl) d_Ga_judge_136 ⟨Nat.le_of_ble_eq_true rfl, Nat.le_of_ble_eq_true rfl⟩) X Y hA S (by decide) (fun z130 f130 H locs Y S s130 p130 => ?_)
              obtain ⟨l130, u130⟩ := p130
              refine lv_goto (tgt := 144) X.1 X.2.1 d_Ga_judge_139 (by decide) ?_
              exact c_reti hQQ X Y hr hlk ⟨κ118, S, z130, rfl, ⟨by omega, by omega⟩⟩ d_Ga_judge_144
          refine z_if_ne (tgt := 128) X.1 X.2.1 d_Ga_judge_110 (by decide) ⟨by omega, by omega⟩ (fun h131 => ?_) (fun h131 => ?_)
          · exact J125 z118 f118 _ _ _ (by omega) (by omega) Y S (lv_sub hl [1, 5, 0] rfl)
          · refine lv_aload_n X.1 X.2.1 d_Ga_judge_113 rfl (lv_at hl 1 rfl) ?_
            refine lv_aload_n X.1 X.2.1 d_Ga_judge_114 rfl (lv_at hl 2 rfl) ?_
            refine lv_aload_n X.1 X.2.1 d_Ga_judge_115 rfl (lv_at hl 2 rfl) ?_
            refine lv_iload_n X.1 X.2.1 d_Ga_judge_116 rfl (lv_at hl 3 rfl) ?_
            refine lv_iconst (v := iI 4) X.1 X.2.1 d_Ga_judge_117 (by decide) ?_
            refine t_ui (t_runV (As := [.int (iI a2), .int (iI 4)]) (rest := [.ref a1, .ref h]) (n := 2) X Y S k120 hml hl.1 (c_By_field l D E T κ118 L118 f118 H.size a1 n1 k120 (by omega) a2 (by omega) (by omega) 4 (by omega) (by omega) S.1) (ok_k X Y hA KS KR) rfl kl_Ga_By_field ks_By_field kx_By_field ki_By_field ini_By ⟨rfl, rfl⟩ hd_By_field ⟨Nat.le_of_ble_eq_true rfl, Nat.le_of_ble_eq_true rfl⟩ rfl (Nat.le_of_ble_eq_true rfl) d_Ga_judge_118 ⟨Nat.le_of_ble_eq_true rfl, Nat.le_of_ble_eq_true rfl⟩) X Y hA (fun z132 H locs Y p132 => ?_)
            obtain ⟨l132, u132⟩ := p132
            refine lv_iload X.1 X.2.1 d_Ga_judge_121 (lv_at hl 6 rfl) ?_
            refine t_ni (t_runV (As := [.ref a1, .int (iI z132), .int (iI a6)]) (rest := []) (n := 3) X Y S k119 hml hl.1 (c_Ga_openProof l D E T κ118 L118 f118 H.size h k119 a1 n1 k120 (by omega) z132 (by omega) (by omega) a6 (by omega) (by omega) S.1) (ok_k X Y hA KS KR) rfl kl_Ga_Ga_openProof ks_Ga_openProof kx_Ga_openProof ki_Ga_openProof ini_Ga ⟨rfl, rfl⟩ hd_Ga_openProof ⟨Nat.le_of_ble_eq_true rfl, Nat.le_of_ble_eq_true rfl⟩ rfl (Nat.le_of_ble_eq_true rfl) d_Ga_judge_123 ⟨Nat.le_of_ble_eq_true rfl, Nat.le_of_ble_eq_true rfl⟩) X Y hA S (by decide) (fun z133 f133 H locs Y S s133 p133 => ?_)
            obtain ⟨l133, u133⟩ := p133
            refine lv_istore (lv' := [(8, .int (iI z133)), (0, .ref h), (1, .ref a1), (2, .int (iI a2)), (4, .ref a4), (5, .ref a5), (6, .int (iI a6))]) X.1 X.2.1 d_Ga_judge_126 hl (by decide) rfl (fun ls hl => ?_)
            exact J125 z133 f133 _ _ _ (by omega) (by omega) Y S (lv_sub hl [1, 5, 0] rfl)
        refine z_icmp_ne (tgt := 93) X.1 X.2.1 d_Ga_judge_66 (by decide) ⟨by omega, by omega⟩ ⟨by omega, by omega⟩ (fun h134 => ?_) (fun h134 => ?_)
        · exact J113  _ _ _  Y S (lv_sub hl [1, 2, 3, 5, 6, 7] rfl)
        · refine lv_aload_n X.1 X.2.1 d_Ga_judge_69 rfl (lv_at hl 2 rfl) ?_
          refine lv_iload X.1 X.2.1 d_Ga_judge_70 (lv_at hl 0 rfl) ?_
          refine t_ui (t_runV (As := [.int (iI z112)]) (rest := []) (n := 1) X Y S k1 hml hl.1 (c_By_bitsAt l D E T κ L f H.size a1 n1 k1 (by omega) z112 (by omega) (by omega) S.1) (ok_k X Y hA KS KR) rfl kl_Ga_By_bitsAt ks_By_bitsAt kx_By_bitsAt ki_By_bitsAt ini_By ⟨rfl, rfl⟩ hd_By_bitsAt ⟨Nat.le_of_ble_eq_true rfl, Nat.le_of_ble_eq_true rfl⟩ rfl (Nat.le_of_ble_eq_true rfl) d_Ga_judge_72 ⟨Nat.le_of_ble_eq_true rfl, Nat.le_of_ble_eq_true rfl⟩) X Y hA (fun z135 H locs Y p135 => ?_)
          obtain ⟨l135, u135⟩ := p135
          refine lv_ldc (v := (-536870913)) X.1 X.2.1 X.2.2.2.1 (X.2.2.1 _ cn_Ga_58) d_Ga_judge_75 ?_
          refine t_eq (y := iI (-536870913)) (by decide) ?_
          refine lv_iand X.1 X.2.1 d_Ga_judge_77 ?_
          refine t_u (fun z137 l137 u137 => ?_)
          refine z_if_ne (tgt := 90) X.1 X.2.1 d_Ga_judge_78 (by decide) ⟨by omega, by omega⟩ (fun h138 => ?_) (fun h138 => ?_)
          · refine lv_bipush (v := iI 13) X.1 X.2.1 d_Ga_judge_90 (by decide) ?_
            refine W.widen (k := 1) (n := 32) (Nat.le_of_ble_eq_true rfl) (Nat.le_of_ble_eq_true rfl) ?_
            exact c_reti hQQ X Y hr hlk ⟨κ, S, 13, rfl, ⟨by omega, by omega⟩⟩ d_Ga_judge_92
          · refine lv_aload_n X.1 X.2.1 d_Ga_judge_81 rfl (lv_at hl 2 rfl) ?_
            refine lv_iload X.1 X.2.1 d_Ga_judge_82 (lv_at hl 0 rfl) ?_
            refine t_ui (t_runV (As := [.int (iI z112)]) (rest := []) (n := 1) X Y S k1 hml hl.1 (c_By_hasFarBits l D E T κ L f H.size a1 n1 k1 (by omega) z112 (by omega) (by omega) S.1) (ok_k X Y hA KS KR) rfl kl_Ga_By_hasFarBits ks_By_hasFarBits kx_By_hasFarBits ki_By_hasFarBits ini_By ⟨rfl, rfl⟩ hd_By_hasFarBits ⟨Nat.le_of_ble_eq_true rfl, Nat.le_of_ble_eq_true rfl⟩ rfl (Nat.le_of_ble_eq_true rfl) d_Ga_judge_84 ⟨Nat.le_of_ble_eq_true rfl, Nat.le_of_ble_eq_true rfl⟩) X Y hA (fun z139 H locs Y p139 => ?_)
            obtain ⟨l139, u139⟩ := p139
            refine z_if_eq (tgt := 93) X.1 X.2.1 d_Ga_judge_87 (by decide) ⟨by omega, by omega⟩ (fun h140 => ?_) (fun h140 => ?_)
            · exact J113  _ _ _  Y S (lv_sub hl [1, 2, 3, 5, 6, 7] rfl)
            · refine lv_bipush (v := iI 13) X.1 X.2.1 d_Ga_judge_90 (by decide) ?_
              refine W.widen (k := 1) (n := 32) (Nat.le_of_ble_eq_true rfl) (Nat.le_of_ble_eq_true rfl) ?_
              exact c_reti hQQ X Y hr hlk ⟨κ, S, 13, rfl, ⟨by omega, by omega⟩⟩ d_Ga_judge_92
      · refine lv_bipush (v := iI 40) X.1 X.2.1 d_Ga_judge_51 (by decide) ?_
        refine W.widen (k := 1) (n := 32) (Nat.le_of_ble_eq_true rfl) (Nat.le_of_ble_eq_true rfl) ?_
        exact c_reti hQQ X Y hr hlk ⟨κ, S, 40, rfl, ⟨by omega, by omega⟩⟩ d_Ga_judge_53
    · refine lv_iconst (v := iI 3) X.1 X.2.1 d_Ga_judge_32 (by decide) ?_
      refine W.widen (k := 1) (n := 32) (Nat.le_of_ble_eq_true rfl) (Nat.le_of_ble_eq_true rfl) ?_
      exact c_reti hQQ X Y hr hlk ⟨κ, S, 3, rfl, ⟨by omega, by omega⟩⟩ d_Ga_judge_33
  · refine lv_bipush (v := iI 60) X.1 X.2.1 d_Ga_judge_12 (by decide) ?_
    refine W.widen (k := 1) (n := 32) (Nat.le_of_ble_eq_true rfl) (Nat.le_of_ble_eq_true rfl) ?_
    exact c_reti hQQ X Y hr hlk ⟨κ, S, 60, rfl, ⟨by omega, by omega⟩⟩ d_Ga_judge_14
set_option maxHeartbeats 4000000 in
set_option maxRecDepth 100000 in
theorem c_H_kdcX (l : Launch) (D : va_G) (E : cE) (T : cT) (κ : tK) (L : List Nat) (f : pF) (sz : Nat) (h : Nat) (k0 : κ h = (10, 0)) (hw : tW E T κ L f) (cn tp : Nat) (c6 : gF f h 6 = .ref cn) (c3 : gF f cn 3 = .ref tp) (c1 : gF f h 1 = .ref tp) : Met l y_H_kdc (k_H_kdc :: lw_tg) (kRm 73 2420 3 96) (va_Pc [.ref h] (kPre D E T L f sz)) (va_Qi (aPi E T [1, 2, 3, 4, 11, 13, 14, 15, 16, 18, 21] [] κ L f (fun (z : Int) (k : tK) (g : pF) => (-2147483648) ≤ z ∧ z ≤ 2147483647 ∧ gF g h 6 = .ref cn ∧ gF g cn 3 = .ref tp ∧ gF g h 1 = .ref tp)) (cPost D E (pA L sz)) (pA L sz)) 3 96 (pA L sz) := by
  refine k_enter (own := R_H) (by decide) rfl (Nat.le_of_ble_eq_true rfl) (fun p e s m below meth c ls AV QQ H locs hQQ X Y hA hin hr hlk hml hl KS KR => ?_)
  have hl : lv_has ls 4 [(0, .ref h)] := hl
  have S : tS E T (tFr κ L [1, 2, 3, 4, 11, 13, 14, 15, 16, 18, 21] []) κ L f κ L f := tS_rf hw
  have hF0 : ∀ b, tFr κ L [1, 2, 3, 4, 11, 13, 14, 15, 16, 18, 21] [] b → b ∈ L := fun b h9 => h9.1
  have kcn : κ cn = (14, 0) := t_f6 S k0 c6
  have ktp : κ tp = (13, 4000) := t_f1 S k0 c1
  refine lv_aload_n X.1 X.2.1 d_H_kdc_0 rfl (lv_at hl 0 rfl) ?_
  refine t_get0 (ci := 0) X Y S k0 rfl i_H 6 (by decide) rfl lk_H_77 (fun _ h9 => h9) d_H_kdc_1 c6 ?_
  obtain ⟨z101, e101, l101, u101⟩ := t_size S ktp
  refine t_ni (t_runV (As := []) (rest := []) (n := 0) X Y S kcn hml hl.1 (c_Ce_judgeX l D E T κ L f H.size cn kcn S.1 tp ktp c3 z101 e101 (by omega) (by omega)) (ok_k X Y hA KS KR) rfl kl_H_Ce_judge ks_Ce_judge kx_Ce_judge ki_Ce_judge ini_Ce ⟨rfl, rfl⟩ hd_Ce_judge ⟨Nat.le_of_ble_eq_true rfl, Nat.le_of_ble_eq_true rfl⟩ rfl (Nat.le_of_ble_eq_true rfl) d_H_kdc_4 ⟨Nat.le_of_ble_eq_true rfl, Nat.le_of_ble_eq_true rfl⟩) X Y hA S (by decide) (fun z102 f102 H locs Y S s102 p102 => ?_)
  obtain ⟨l102, u102, x102, st102⟩ := p102
  have kp103 : z102 = 0 → TopP (rb f102 tp) z101 := by rw [rb_S s102 ktp (by decide) (by decide)]; exact x102
  refine lv_istore_n (lv' := [(1, .int (iI z102)), (0, .ref h)]) X.1 X.2.1 d_H_kdc_7 rfl hl (by decide) rfl (fun ls hl => ?_)
  refine lv_iload_n X.1 X.2.1 d_H_kdc_8 rfl (lv_at hl 0 rfl) ?_
  refine z_if_ne (tgt := 83) X.1 X.2.1 d_H_kdc_9 (by decide) ⟨by omega, by omega⟩ (fun h104 => ?_) (fun h104 => ?_)
  · refine lv_iload_n X.1 X.2.1 d_H_kdc_83 rfl (lv_at hl 0 rfl) ?_
    refine z_if_ne (tgt := 115) X.1 X.2.1 d_H_kdc_84 (by decide) ⟨by omega, by omega⟩ (fun h105 => ?_) (fun h105 => ?_)
    · refine lv_iload_n X.1 X.2.1 d_H_kdc_115 rfl (lv_at hl 0 rfl) ?_
      refine z_if_ne (tgt := 129) X.1 X.2.1 d_H_kdc_116 (by decide) ⟨by omega, by omega⟩ (fun h106 => ?_) (fun h106 => ?_)
      · refine lv_aload_n X.1 X.2.1 d_H_kdc_129 rfl (lv_at hl 1 rfl) ?_
        refine t_get0 (ci := 0) X Y S k0 rfl i_H 6 (by decide) rfl lk_H_77 (fun _ h9 => h9) d_H_kdc_130 ((gF_same (s102.2.2.2 _ ⟨(t_obj S.1 k0).1, nM_of k0 (by decide), by simp⟩).1 6).trans c6) ?_
        refine lv_iload_n X.1 X.2.1 d_H_kdc_133 rfl (lv_at hl 0 rfl) ?_
        refine t_nv (t_runV (As := [.int (iI z102)]) (rest := []) (n := 1) X Y S kcn hml hl.1 (c_Ce_putError l D E T κ L f102 H.size cn kcn z102 (by omega) (by omega) S.1) (ok_k X Y hA KS KR) rfl kl_H_Ce_putError ks_Ce_putError kx_Ce_putError ki_Ce_putError ini_Ce ⟨rfl, rfl⟩ hd_Ce_putError ⟨Nat.le_of_ble_eq_true rfl, Nat.le_of_ble_eq_true rfl⟩ rfl (Nat.le_of_ble_eq_true rfl) d_H_kdc_134 ⟨Nat.le_of_ble_eq_true rfl, Nat.le_of_ble_eq_true rfl⟩) X Y hA S (by decide) (fun f107 H locs Y S s107 p107 => ?_)
        refine lv_aload_n X.1 X.2.1 d_H_kdc_137 rfl (lv_at hl 1 rfl) ?_
        refine t_get0 (ci := 0) X Y S k0 rfl i_H 1 (by decide) rfl lk_H_21 (fun _ h9 => h9) d_H_kdc_138 ((gF_same (s107.2.2.2 _ ⟨(t_obj S.1 k0).1, nM_of k0 (by decide), by simp⟩).1 1).trans ((gF_same (s102.2.2.2 _ ⟨(t_obj S.1 k0).1, nM_of k0 (by decide), by simp⟩).1 1).trans c1)) ?_
        refine t_nv (t_runV (As := []) (rest := []) (n := 0) X Y S ktp hml hl.1 (c_By_clear l D E T κ L f107 H.size tp 4000 ktp (by omega) S.1) (ok_k X Y hA KS KR) rfl kl_H_By_clear ks_By_clear kx_By_clear ki_By_clear ini_By ⟨rfl, rfl⟩ hd_By_clear ⟨Nat.le_of_ble_eq_true rfl, Nat.le_of_ble_eq_true rfl⟩ rfl (Nat.le_of_ble_eq_true rfl) d_H_kdc_141 ⟨Nat.le_of_ble_eq_true rfl, Nat.le_of_ble_eq_true rfl⟩) X Y hA S (by decide) (fun f108 H locs Y S s108 p108 => ?_)
        refine lv_iload_n X.1 X.2.1 d_H_kdc_144 rfl (lv_at hl 0 rfl) ?_
        refine W.widen (k := 3) (n := 96) (Nat.le_of_ble_eq_true rfl) (Nat.le_of_ble_eq_true rfl) ?_
        exact c_reti hQQ X Y hr hlk ⟨κ, S, z102, rfl, ⟨by omega, by omega, ⟨((gF_same (s108.2.2.2 _ ⟨(t_obj S.1 k0).1, nM_of k0 (by decide), by simp⟩).1 6).trans ((gF_same (s107.2.2.2 _ ⟨(t_obj S.1 k0).1, nM_of k0 (by decide), by simp⟩).1 6).trans ((gF_same (s102.2.2.2 _ ⟨(t_obj S.1 k0).1, nM_of k0 (by decide), by simp⟩).1 6).trans c6))), ((gF_same (s108.2.2.2 _ ⟨(t_obj S.1 kcn).1, nM_of kcn (by decide), by simp⟩).1 3).trans ((gF_same (s107.2.2.2 _ ⟨(t_obj S.1 kcn).1, nM_of kcn (by decide), by simp⟩).1 3).trans (st102.trans c3))), ((gF_same (s108.2.2.2 _ ⟨(t_obj S.1 k0).1, nM_of k0 (by decide), by simp⟩).1 1).trans ((gF_same (s107.2.2.2 _ ⟨(t_obj S.1 k0).1, nM_of k0 (by decide), by simp⟩).1 1).trans ((gF_same (s102.2.2.2 _ ⟨(t_obj S.1 k0).1, nM_of k0 (by decide), by simp⟩).1 1).trans c1)))⟩⟩⟩ d_H_kdc_145
      · refine lv_aload_n X.1 X.2.1 d_H_kdc_119 rfl (lv_at hl 1 rfl) ?_
        refine t_get0 (ci := 0) X Y S k0 rfl i_H 6 (by decide) rfl lk_H_77 (fun _ h9 => h9) d_H_kdc_120 ((gF_same (s102.2.2.2 _ ⟨(t_obj S.1 k0).1, nM_of k0 (by decide), by simp⟩).1 6).trans c6) ?_
        have mL109 := (t_obj S.1 k0).1
        have eL110 : gF f102 h 6 = .ref cn := ((gF_same (s102.2.2.2 _ ⟨(t_obj S.1 k0).1, nM_of k0 (by decide), by simp⟩).1 6).trans c6)
        have mL111 := (t_obj S.1 k0).1
        have eL112 : gF f102 h 1 = .ref tp := ((gF_same (s102.2.2.2 _ ⟨(t_obj S.1 k0).1, nM_of k0 (by decide), by simp⟩).1 1).trans c1)
        have mL113 := (t_obj S.1 kcn).1
        have eL114 : gF f102 cn 3 = .ref tp := (st102.trans c3)
        refine t_av (t_runV (As := []) (rest := []) (n := 0) X Y S kcn hml hl.1 (c_Ce_putReply l D E T κ L f102 H.size cn kcn S.1) (ok_k X Y hA KS KR) rfl kl_H_Ce_putReply ks_Ce_putReply kx_Ce_putReply ki_Ce_putReply ini_Ce ⟨rfl, rfl⟩ hd_Ce_putReply ⟨Nat.le_of_ble_eq_true rfl, Nat.le_of_ble_eq_true rfl⟩ rfl (Nat.le_of_ble_eq_true rfl) d_H_kdc_123 ⟨Nat.le_of_ble_eq_true rfl, Nat.le_of_ble_eq_true rfl⟩) X Y hA S (by decide) (fun κ115 L115 f115 H locs Y S s115 p115 => ?_)
        have k116 : κ115 h = (10, 0) := tLe_k s115.2.2.1 k0
        have e117 : gF f115 h 6 = .ref cn := (gF_same (s115.2.2.2 _ ⟨mL109, nM_of k0 (by decide), by simp⟩).1 6).trans eL110
        have k118 : κ115 h = (10, 0) := tLe_k s115.2.2.1 k0
        have k119 : κ115 cn = (14, 0) := tLe_k s115.2.2.1 kcn
        have e120 : gF f115 h 1 = .ref tp := (gF_same (s115.2.2.2 _ ⟨mL111, nM_of k0 (by decide), by simp⟩).1 1).trans eL112
        have k121 : κ115 tp = (13, 4000) := tLe_k s115.2.2.1 ktp
        have e122 : gF f115 cn 3 = .ref tp := (gF_same (s115.2.2.2 _ ⟨mL113, nM_of kcn (by decide), by simp⟩).1 3).trans eL114
        refine lv_goto (tgt := 137) X.1 X.2.1 d_H_kdc_126 (by decide) ?_
        refine lv_aload_n X.1 X.2.1 d_H_kdc_137 rfl (lv_at hl 1 rfl) ?_
        refine t_get0 (ci := 0) X Y S k116 rfl i_H 1 (by decide) rfl lk_H_21 (fun _ h9 => h9) d_H_kdc_138 e120 ?_
        refine t_nv (t_runV (As := []) (rest := []) (n := 0) X Y S k121 hml hl.1 (c_By_clear l D E T κ115 L115 f115 H.size tp 4000 k121 (by omega) S.1) (ok_k X Y hA KS KR) rfl kl_H_By_clear ks_By_clear kx_By_clear ki_By_clear ini_By ⟨rfl, rfl⟩ hd_By_clear ⟨Nat.le_of_ble_eq_true rfl, Nat.le_of_ble_eq_true rfl⟩ rfl (Nat.le_of_ble_eq_true rfl) d_H_kdc_141 ⟨Nat.le_of_ble_eq_true rfl, Nat.le_of_ble_eq_true rfl⟩) X Y hA S (by decide) (fun f123 H locs Y S s123 p123 => ?_)
        refine lv_iload_n X.1 X.2.1 d_H_kdc_144 rfl (lv_at hl 0 rfl) ?_
        refine W.widen (k := 3) (n := 96) (Nat.le_of_ble_eq_true rfl) (Nat.le_of_ble_eq_true rfl) ?_
        exact c_reti hQQ X Y hr hlk ⟨κ115, S, z102, rfl, ⟨by omega, by omega, ⟨((gF_same (s123.2.2.2 _ ⟨(t_obj S.1 k118).1, nM_of k118 (by decide), by simp⟩).1 6).trans e117), ((gF_same (s123.2.2.2 _ ⟨(t_obj S.1 k119).1, nM_of k119 (by decide), by simp⟩).1 3).trans e122), ((gF_same (s123.2.2.2 _ ⟨(t_obj S.1 k118).1, nM_of k118 (by decide), by simp⟩).1 1).trans e120)⟩⟩⟩ d_H_kdc_145
    · refine lv_aload_n X.1 X.2.1 d_H_kdc_87 rfl (lv_at hl 1 rfl) ?_
      refine t_get0 (ci := 0) X Y S k0 rfl i_H 6 (by decide) rfl lk_H_77 (fun _ h9 => h9) d_H_kdc_88 ((gF_same (s102.2.2.2 _ ⟨(t_obj S.1 k0).1, nM_of k0 (by decide), by simp⟩).1 6).trans c6) ?_
      refine t_geti (ci := 4) X Y S kcn rfl i_Ce 6 (by decide) rfl lk_H_151 (fun _ h9 => h9) d_H_kdc_91 (fun z124 e124 l124 u124 => ?_)
      refine z_if_eq (tgt := 107) X.1 X.2.1 d_H_kdc_94 (by decide) ⟨by omega, by omega⟩ (fun h125 => ?_) (fun h125 => ?_)
      · refine lv_aload_n X.1 X.2.1 d_H_kdc_107 rfl (lv_at hl 1 rfl) ?_
        refine t_get0 (ci := 0) X Y S k0 rfl i_H 6 (by decide) rfl lk_H_77 (fun _ h9 => h9) d_H_kdc_108 ((gF_same (s102.2.2.2 _ ⟨(t_obj S.1 k0).1, nM_of k0 (by decide), by simp⟩).1 6).trans c6) ?_
        refine t_ni (t_runV (As := []) (rest := []) (n := 0) X Y S kcn hml hl.1 (c_Ce_judgeTgs l D E T κ L f102 H.size cn kcn S.1) (ok_k X Y hA KS KR) rfl kl_H_Ce_judgeTgs ks_Ce_judgeTgs kx_Ce_judgeTgs ki_Ce_judgeTgs ini_Ce ⟨rfl, rfl⟩ hd_Ce_judgeTgs ⟨Nat.le_of_ble_eq_true rfl, Nat.le_of_ble_eq_true rfl⟩ rfl (Nat.le_of_ble_eq_true rfl) d_H_kdc_111 ⟨Nat.le_of_ble_eq_true rfl, Nat.le_of_ble_eq_true rfl⟩) X Y hA S (by decide) (fun z126 f126 H locs Y S s126 p126 => ?_)
        obtain ⟨l126, u126, x126⟩ := p126
        refine lv_istore_n (lv' := [(1, .int (iI z126)), (0, .ref h)]) X.1 X.2.1 d_H_kdc_114 rfl hl (by decide) rfl (fun ls hl => ?_)
        refine lv_iload_n X.1 X.2.1 d_H_kdc_115 rfl (lv_at hl 0 rfl) ?_
        refine z_if_ne (tgt := 129) X.1 X.2.1 d_H_kdc_116 (by decide) ⟨by omega, by omega⟩ (fun h127 => ?_) (fun h127 => ?_)
        · refine lv_aload_n X.1 X.2.1 d_H_kdc_129 rfl (lv_at hl 1 rfl) ?_
          refine t_get0 (ci := 0) X Y S k0 rfl i_H 6 (by decide) rfl lk_H_77 (fun _ h9 => h9) d_H_kdc_130 ((gF_same (s126.2.2.2 _ ⟨(t_obj S.1 k0).1, nM_of k0 (by decide), by simp⟩).1 6).trans ((gF_same (s102.2.2.2 _ ⟨(t_obj S.1 k0).1, nM_of k0 (by decide), by simp⟩).1 6).trans c6)) ?_
          refine lv_iload_n X.1 X.2.1 d_H_kdc_133 rfl (lv_at hl 0 rfl) ?_
          refine t_nv (t_runV (As := [.int (iI z126)]) (rest := []) (n := 1) X Y S kcn hml hl.1 (c_Ce_putError l D E T κ L f126 H.size cn kcn z126 (by omega) (by omega) S.1) (ok_k X Y hA KS KR) rfl kl_H_Ce_putError ks_Ce_putError kx_Ce_putError ki_Ce_putError ini_Ce ⟨rfl, rfl⟩ hd_Ce_putError ⟨Nat.le_of_ble_eq_true rfl, Nat.le_of_ble_eq_true rfl⟩ rfl (Nat.le_of_ble_eq_true rfl) d_H_kdc_134 ⟨Nat.le_of_ble_eq_true rfl, Nat.le_of_ble_eq_true rfl⟩) X Y hA S (by decide) (fun f128 H locs Y S s128 p128 => ?_)
          refine lv_aload_n X.1 X.2.1 d_H_kdc_137 rfl (lv_at hl 1 rfl) ?_
          refine t_get0 (ci := 0) X Y S k0 rfl i_H 1 (by decide) rfl lk_H_21 (fun _ h9 => h9) d_H_kdc_138 ((gF_same (s128.2.2.2 _ ⟨(t_obj S.1 k0).1, nM_of k0 (by decide), by simp⟩).1 1).trans ((gF_same (s126.2.2.2 _ ⟨(t_obj S.1 k0).1, nM_of k0 (by decide), by simp⟩).1 1).trans ((gF_same (s102.2.2.2 _ ⟨(t_obj S.1 k0).1, nM_of k0 (by decide), by simp⟩).1 1).trans c1))) ?_
          refine t_nv (t_runV (As := []) (rest := []) (n := 0) X Y S ktp hml hl.1 (c_By_clear l D E T κ L f128 H.size tp 4000 ktp (by omega) S.1) (ok_k X Y hA KS KR) rfl kl_H_By_clear ks_By_clear kx_By_clear ki_By_clear ini_By ⟨rfl, rfl⟩ hd_By_clear ⟨Nat.le_of_ble_eq_true rfl, Nat.le_of_ble_eq_true rfl⟩ rfl (Nat.le_of_ble_eq_true rfl) d_H_kdc_141 ⟨Nat.le_of_ble_eq_true rfl, Nat.le_of_ble_eq_true rfl⟩) X Y hA S (by decide) (fun f129 H locs Y S s129 p129 => ?_)
          refine lv_iload_n X.1 X.2.1 d_H_kdc_144 rfl (lv_at hl 0 rfl) ?_
          refine W.widen (k := 3) (n := 96) (Nat.le_of_ble_eq_true rfl) (Nat.le_of_ble_eq_true rfl) ?_
          exact c_reti hQQ X Y hr hlk ⟨κ, S, z126, rfl, ⟨by omega, by omega, ⟨((gF_same (s129.2.2.2 _ ⟨(t_obj S.1 k0).1, nM_of k0 (by decide), by simp⟩).1 6).trans ((gF_same (s128.2.2.2 _ ⟨(t_obj S.1 k0).1, nM_of k0 (by decide), by simp⟩).1 6).trans ((gF_same (s126.2.2.2 _ ⟨(t_obj S.1 k0).1, nM_of k0 (by decide), by simp⟩).1 6).trans ((gF_same (s102.2.2.2 _ ⟨(t_obj S.1 k0).1, nM_of k0 (by decide), by simp⟩).1 6).trans c6)))), ((gF_same (s129.2.2.2 _ ⟨(t_obj S.1 kcn).1, nM_of kcn (by decide), by simp⟩).1 3).trans ((gF_same (s128.2.2.2 _ ⟨(t_obj S.1 kcn).1, nM_of kcn (by decide), by simp⟩).1 3).trans (x126.trans (st102.trans c3)))), ((gF_same (s129.2.2.2 _ ⟨(t_obj S.1 k0).1, nM_of k0 (by decide), by simp⟩).1 1).trans ((gF_same (s128.2.2.2 _ ⟨(t_obj S.1 k0).1, nM_of k0 (by decide), by simp⟩).1 1).trans ((gF_same (s126.2.2.2 _ ⟨(t_obj S.1 k0).1, nM_of k0 (by decide), by simp⟩).1 1).trans ((gF_same (s102.2.2.2 _ ⟨(t_obj S.1 k0).1, nM_of k0 (by decide), by simp⟩).1 1).trans c1))))⟩⟩⟩ d_H_kdc_145
        · refine lv_aload_n X.1 X.2.1 d_H_kdc_119 rfl (lv_at hl 1 rfl) ?_
          refine t_get0 (ci := 0) X Y S k0 rfl i_H 6 (by decide) rfl lk_H_77 (fun _ h9 => h9) d_H_kdc_120 ((gF_same (s126.2.2.2 _ ⟨(t_obj S.1 k0).1, nM_of k0 (by decide), by simp⟩).1 6).trans ((gF_same (s102.2.2.2 _ ⟨(t_obj S.1 k0).1, nM_of k0 (by decide), by simp⟩).1 6).trans c6)) ?_
          have mL130 := (t_obj S.1 k0).1
          have eL131 : gF f126 h 6 = .ref cn := ((gF_same (s126.2.2.2 _ ⟨(t_obj S.1 k0).1, nM_of k0 (by decide), by simp⟩).1 6).trans ((gF_same (s102.2.2.2 _ ⟨(t_obj S.1 k0).1, nM_of k0 (by decide), by simp⟩).1 6).trans c6))
          have mL132 := (t_obj S.1 k0).1
          have eL133 : gF f126 h 1 = .ref tp := ((gF_same (s126.2.2.2 _ ⟨(t_obj S.1 k0).1, nM_of k0 (by decide), by simp⟩).1 1).trans ((gF_same (s102.2.2.2 _ ⟨(t_obj S.1 k0).1, nM_of k0 (by decide), by simp⟩).1 1).trans c1))
          have mL134 := (t_obj S.1 kcn).1
          have eL135 : gF f126 cn 3 = .ref tp := (x126.trans (st102.trans c3))
          refine t_av (t_runV (As := []) (rest := []) (n := 0) X Y S kcn hml hl.1 (c_Ce_putReply l D E T κ L f126 H.size cn kcn S.1) (ok_k X Y hA KS KR) rfl kl_H_Ce_putReply ks_Ce_putReply kx_Ce_putReply ki_Ce_putReply ini_Ce ⟨rfl, rfl⟩ hd_Ce_putReply ⟨Nat.le_of_ble_eq_true rfl, Nat.le_of_ble_eq_true rfl⟩ rfl (Nat.le_of_ble_eq_true rfl) d_H_kdc_123 ⟨Nat.le_of_ble_eq_true rfl, Nat.le_of_ble_eq_true rfl⟩) X Y hA S (by decide) (fun κ136 L136 f136 H locs Y S s136 p136 => ?_)
          have k137 : κ136 h = (10, 0) := tLe_k s136.2.2.1 k0
          have e138 : gF f136 h 6 = .ref cn := (gF_same (s136.2.2.2 _ ⟨mL130, nM_of k0 (by decide), by simp⟩).1 6).trans eL131
          have k139 : κ136 h = (10, 0) := tLe_k s136.2.2.1 k0
          have k140 : κ136 cn = (14, 0) := tLe_k s136.2.2.1 kcn
          have e141 : gF f136 h 1 = .ref tp := (gF_same (s136.2.2.2 _ ⟨mL132, nM_of k0 (by decide), by simp⟩).1 1).trans eL133
          have k142 : κ136 tp = (13, 4000) := tLe_k s136.2.2.1 ktp
          have e143 : gF f136 cn 3 = .ref tp := (gF_same (s136.2.2.2 _ ⟨mL134, nM_of kcn (by decide), by simp⟩).1 3).trans eL135
          refine lv_goto (tgt := 137) X.1 X.2.1 d_H_kdc_126 (by decide) ?_
          refine lv_aload_n X.1 X.2.1 d_H_kdc_137 rfl (lv_at hl 1 rfl) ?_
          refine t_get0 (ci := 0) X Y S k137 rfl i_H 1 (by decide) rfl lk_H_21 (fun _ h9 => h9) d_H_kdc_138 e141 ?_
          refine t_nv (t_runV (As := []) (rest := []) (n := 0) X Y S k142 hml hl.1 (c_By_clear l D E T κ136 L136 f136 H.size tp 4000 k142 (by omega) S.1) (ok_k X Y hA KS KR) rfl kl_H_By_clear ks_By_clear kx_By_clear ki_By_clear ini_By ⟨rfl, rfl⟩ hd_By_clear ⟨Nat.le_of_ble_eq_true rfl, Nat.le_of_ble_eq_true rfl⟩ rfl (Nat.le_of_ble_eq_true rfl) d_H_kdc_141 ⟨Nat.le_of_ble_eq_true rfl, Nat.le_of_ble_eq_true rfl⟩) X Y hA S (by decide) (fun f144 H locs Y S s144 p144 => ?_)
          refine lv_iload_n X.1 X.2.1 d_H_kdc_144 rfl (lv_at hl 0 rfl) ?_
          refine W.widen (k := 3) (n := 96) (Nat.le_of_ble_eq_true rfl) (Nat.le_of_ble_eq_true rfl) ?_
          exact c_reti hQQ X Y hr hlk ⟨κ136, S, z126, rfl, ⟨by omega, by omega, ⟨((gF_same (s144.2.2.2 _ ⟨(t_obj S.1 k139).1, nM_of k139 (by decide), by simp⟩).1 6).trans e138), ((gF_same (s144.2.2.2 _ ⟨(t_obj S.1 k140).1, nM_of k140 (by decide), by simp⟩).1 3).trans e143), ((gF_same (s144.2.2.2 _ ⟨(t_obj S.1 k139).1, nM_of k139 (by decide), by simp⟩).1 1).trans e141)⟩⟩⟩ d_H_kdc_145
      · refine lv_aload_n X.1 X.2.1 d_H_kdc_97 rfl (lv_at hl 1 rfl) ?_
        refine t_get0 (ci := 0) X Y S k0 rfl i_H 6 (by decide) rfl lk_H_77 (fun _ h9 => h9) d_H_kdc_98 ((gF_same (s102.2.2.2 _ ⟨(t_obj S.1 k0).1, nM_of k0 (by decide), by simp⟩).1 6).trans c6) ?_
        refine t_ni (t_runV (As := []) (rest := []) (n := 0) X Y S kcn hml hl.1 (c_Ce_judgeAsX l D E T κ L f102 H.size cn kcn S.1 tp ktp (st102.trans c3) z101 ((gF_same (s102.2.2.2 _ ⟨(t_obj S.1 ktp).1, nM_of ktp (by decide), by simp⟩).1 1).trans e101) (by omega) (by omega) (kp103 (by omega))) (ok_k X Y hA KS KR) rfl kl_H_Ce_judgeAs ks_Ce_judgeAs kx_Ce_judgeAs ki_Ce_judgeAs ini_Ce ⟨rfl, rfl⟩ hd_Ce_judgeAs ⟨Nat.le_of_ble_eq_true rfl, Nat.le_of_ble_eq_true rfl⟩ rfl (Nat.le_of_ble_eq_true rfl) d_H_kdc_101 ⟨Nat.le_of_ble_eq_true rfl, Nat.le_of_ble_eq_true rfl⟩) X Y hA S (by decide) (fun z145 f145 H locs Y S s145 p145 => ?_)
        obtain ⟨l145, u145, x145⟩ := p145
        refine lv_goto (tgt := 114) X.1 X.2.1 d_H_kdc_104 (by decide) ?_
        refine lv_istore_n (lv' := [(1, .int (iI z145)), (0, .ref h)]) X.1 X.2.1 d_H_kdc_114 rfl hl (by decide) rfl (fun ls hl => ?_)
        refine lv_iload_n X.1 X.2.1 d_H_kdc_115 rfl (lv_at hl 0 rfl) ?_
        refine z_if_ne (tgt := 129) X.1 X.2.1 d_H_kdc_116 (by decide) ⟨by omega, by omega⟩ (fun h146 => ?_) (fun h146 => ?_)
        · refine lv_aload_n X.1 X.2.1 d_H_kdc_129 rfl (lv_at hl 1 rfl) ?_
          refine t_get0 (ci := 0) X Y S k0 rfl i_H 6 (by decide) rfl lk_H_77 (fun _ h9 => h9) d_H_kdc_130 ((gF_same (s145.2.2.2 _ ⟨(t_obj S.1 k0).1, nM_of k0 (by decide), by simp⟩).1 6).trans ((gF_same (s102.2.2.2 _ ⟨(t_obj S.1 k0).1, nM_of k0 (by decide), by simp⟩).1 6).trans c6)) ?_
          refine lv_iload_n X.1 X.2.1 d_H_kdc_133 rfl (lv_at hl 0 rfl) ?_
          refine t_nv (t_runV (As := [.int (iI z145)]) (rest := []) (n := 1) X Y S kcn hml hl.1 (c_Ce_putError l D E T κ L f145 H.size cn kcn z145 (by omega) (by omega) S.1) (ok_k X Y hA KS KR) rfl kl_H_Ce_putError ks_Ce_putError kx_Ce_putError ki_Ce_putError ini_Ce ⟨rfl, rfl⟩ hd_Ce_putError ⟨Nat.le_of_ble_eq_true rfl, Nat.le_of_ble_eq_true rfl⟩ rfl (Nat.le_of_ble_eq_true rfl) d_H_kdc_134 ⟨Nat.le_of_ble_eq_true rfl, Nat.le_of_ble_eq_true rfl⟩) X Y hA S (by decide) (fun f147 H locs Y S s147 p147 => ?_)
          refine lv_aload_n X.1 X.2.1 d_H_kdc_137 rfl (lv_at hl 1 rfl) ?_
          refine t_get0 (ci := 0) X Y S k0 rfl i_H 1 (by decide) rfl lk_H_21 (fun _ h9 => h9) d_H_kdc_138 ((gF_same (s147.2.2.2 _ ⟨(t_obj S.1 k0).1, nM_of k0 (by decide), by simp⟩).1 1).trans ((gF_same (s145.2.2.2 _ ⟨(t_obj S.1 k0).1, nM_of k0 (by decide), by simp⟩).1 1).trans ((gF_same (s102.2.2.2 _ ⟨(t_obj S.1 k0).1, nM_of k0 (by decide), by simp⟩).1 1).trans c1))) ?_
          refine t_nv (t_runV (As := []) (rest := []) (n := 0) X Y S ktp hml hl.1 (c_By_clear l D E T κ L f147 H.size tp 4000 ktp (by omega) S.1) (ok_k X Y hA KS KR) rfl kl_H_By_clear ks_By_clear kx_By_clear ki_By_clear ini_By ⟨rfl, rfl⟩ hd_By_clear ⟨Nat.le_of_ble_eq_true rfl, Nat.le_of_ble_eq_true rfl⟩ rfl (Nat.le_of_ble_eq_true rfl) d_H_kdc_141 ⟨Nat.le_of_ble_eq_true rfl, Nat.le_of_ble_eq_true rfl⟩) X Y hA S (by decide) (fun f148 H locs Y S s148 p148 => ?_)
          refine lv_iload_n X.1 X.2.1 d_H_kdc_144 rfl (lv_at hl 0 rfl) ?_
          refine W.widen (k := 3) (n := 96) (Nat.le_of_ble_eq_true rfl) (Nat.le_of_ble_eq_true rfl) ?_
          exact c_reti hQQ X Y hr hlk ⟨κ, S, z145, rfl, ⟨by omega, by omega, ⟨((gF_same (s148.2.2.2 _ ⟨(t_obj S.1 k0).1, nM_of k0 (by decide), by simp⟩).1 6).trans ((gF_same (s147.2.2.2 _ ⟨(t_obj S.1 k0).1, nM_of k0 (by decide), by simp⟩).1 6).trans ((gF_same (s145.2.2.2 _ ⟨(t_obj S.1 k0).1, nM_of k0 (by decide), by simp⟩).1 6).trans ((gF_same (s102.2.2.2 _ ⟨(t_obj S.1 k0).1, nM_of k0 (by decide), by simp⟩).1 6).trans c6)))), ((gF_same (s148.2.2.2 _ ⟨(t_obj S.1 kcn).1, nM_of kcn (by decide), by simp⟩).1 3).trans ((gF_same (s147.2.2.2 _ ⟨(t_obj S.1 kcn).1, nM_of kcn (by decide), by simp⟩).1 3).trans (x145.trans (st102.trans c3)))), ((gF_same (s148.2.2.2 _ ⟨(t_obj S.1 k0).1, nM_of k0 (by decide), by simp⟩).1 1).trans ((gF_same (s147.2.2.2 _ ⟨(t_obj S.1 k0).1, nM_of k0 (by decide), by simp⟩).1 1).trans ((gF_same (s145.2.2.2 _ ⟨(t_obj S.1 k0).1, nM_of k0 (by decide), by simp⟩).1 1).trans ((gF_same (s102.2.2.2 _ ⟨(t_obj S.1 k0).1, nM_of k0 (by decide), by simp⟩).1 1).trans c1))))⟩⟩⟩ d_H_kdc_145
        · refine lv_aload_n X.1 X.2.1 d_H_kdc_119 rfl (lv_at hl 1 rfl) ?_
          refine t_get0 (ci := 0) X Y S k0 rfl i_H 6 (by decide) rfl lk_H_77 (fun _ h9 => h9) d_H_kdc_120 ((gF_same (s145.2.2.2 _ ⟨(t_obj S.1 k0).1, nM_of k0 (by decide), by simp⟩).1 6).trans ((gF_same (s102.2.2.2 _ ⟨(t_obj S.1 k0).1, nM_of k0 (by decide), by simp⟩).1 6).trans c6)) ?_
          have mL149 := (t_obj S.1 k0).1
          have eL150 : gF f145 h 6 = .ref cn := ((gF_same (s145.2.2.2 _ ⟨(t_obj S.1 k0).1, nM_of k0 (by decide), by simp⟩).1 6).trans ((gF_same (s102.2.2.2 _ ⟨(t_obj S.1 k0).1, nM_of k0 (by decide), by simp⟩).1 6).trans c6))
          have mL151 := (t_obj S.1 k0).1
          have eL152 : gF f145 h 1 = .ref tp := ((gF_same (s145.2.2.2 _ ⟨(t_obj S.1 k0).1, nM_of k0 (by decide), by simp⟩).1 1).trans ((gF_same (s102.2.2.2 _ ⟨(t_obj S.1 k0).1, nM_of k0 (by decide), by simp⟩).1 1).trans c1))
          have mL153 := (t_obj S.1 kcn).1
          have eL154 : gF f145 cn 3 = .ref tp := (x145.trans (st102.trans c3))
          refine t_av (t_runV (As := []) (rest := []) (n := 0) X Y S kcn hml hl.1 (c_Ce_putReply l D E T κ L f145 H.size cn kcn S.1) (ok_k X Y hA KS KR) rfl kl_H_Ce_putReply ks_Ce_putReply kx_Ce_putReply ki_Ce_putReply ini_Ce ⟨rfl, rfl⟩ hd_Ce_putReply ⟨Nat.le_of_ble_eq_true rfl, Nat.le_of_ble_eq_true rfl⟩ rfl (Nat.le_of_ble_eq_true rfl) d_H_kdc_123 ⟨Nat.le_of_ble_eq_true rfl, Nat.le_of_ble_eq_true rfl⟩) X Y hA S (by decide) (fun κ155 L155 f155 H locs Y S s155 p155 => ?_)
          have k156 : κ155 h = (10, 0) := tLe_k s155.2.2.1 k0
          have e157 : gF f155 h 6 = .ref cn := (gF_same (s155.2.2.2 _ ⟨mL149, nM_of k0 (by decide), by simp⟩).1 6).trans eL150
          have k158 : κ155 h = (10, 0) := tLe_k s155.2.2.1 k0
          have k159 : κ155 cn = (14, 0) := tLe_k s155.2.2.1 kcn
          have e160 : gF f155 h 1 = .ref tp := (gF_same (s155.2.2.2 _ ⟨mL151, nM_of k0 (by decide), by simp⟩).1 1).trans eL152
          have k161 : κ155 tp = (13, 4000) := tLe_k s155.2.2.1 ktp
          have e162 : gF f155 cn 3 = .ref tp := (gF_same (s155.2.2.2 _ ⟨mL153, nM_of kcn (by decide), by simp⟩).1 3).trans eL154
          refine lv_goto (tgt := 137) X.1 X.2.1 d_H_kdc_126 (by decide) ?_
          refine lv_aload_n X.1 X.2.1 d_H_kdc_137 rfl (lv_at hl 1 rfl) ?_
          refine t_get0 (ci := 0) X Y S k156 rfl i_H 1 (by decide) rfl lk_H_21 (fun _ h9 => h9) d_H_kdc_138 e160 ?_
          refine t_nv (t_runV (As := []) (rest := []) (n := 0) X Y S k161 hml hl.1 (c_By_clear l D E T κ155 L155 f155 H.size tp 4000 k161 (by omega) S.1) (ok_k X Y hA KS KR) rfl kl_H_By_clear ks_By_clear kx_By_clear ki_By_clear ini_By ⟨rfl, rfl⟩ hd_By_clear ⟨Nat.le_of_ble_eq_true rfl, Nat.le_of_ble_eq_true rfl⟩ rfl (Nat.le_of_ble_eq_true rfl) d_H_kdc_141 ⟨Nat.le_of_ble_eq_true rfl, Nat.le_of_ble_eq_true rfl⟩) X Y hA S (by decide) (fun f163 H locs Y S s163 p163 => ?_)
          refine lv_iload_n X.1 X.2.1 d_H_kdc_144 rfl (lv_at hl 0 rfl) ?_
          refine W.widen (k := 3) (n := 96) (Nat.le_of_ble_eq_true rfl) (Nat.le_of_ble_eq_true rfl) ?_
          exact c_reti hQQ X Y hr hlk ⟨κ155, S, z145, rfl, ⟨by omega, by omega, ⟨((gF_same (s163.2.2.2 _ ⟨(t_obj S.1 k158).1, nM_of k158 (by decide), by simp⟩).1 6).trans e157), ((gF_same (s163.2.2.2 _ ⟨(t_obj S.1 k159).1, nM_of k159 (by decide), by simp⟩).1 3).trans e162), ((gF_same (s163.2.2.2 _ ⟨(t_obj S.1 k158).1, nM_of k158 (by decide), by simp⟩).1 1).trans e160)⟩⟩⟩ d_H_kdc_145
  · refine lv_aload_n X.1 X.2.1 d_H_kdc_12 rfl (lv_at hl 1 rfl) ?_
    refine t_get0 (ci := 0) X Y S k0 rfl i_H 6 (by decide) rfl lk_H_77 (fun _ h9 => h9) d_H_kdc_13 ((gF_same (s102.2.2.2 _ ⟨(t_obj S.1 k0).1, nM_of k0 (by decide), by simp⟩).1 6).trans c6) ?_
    refine t_geti (ci := 4) X Y S kcn rfl i_Ce 6 (by decide) rfl lk_H_151 (fun _ h9 => h9) d_H_kdc_16 (fun z164 e164 l164 u164 => ?_)
    refine z_if_ne (tgt := 83) X.1 X.2.1 d_H_kdc_19 (by decide) ⟨by omega, by omega⟩ (fun h165 => ?_) (fun h165 => ?_)
    · refine lv_iload_n X.1 X.2.1 d_H_kdc_83 rfl (lv_at hl 0 rfl) ?_
      refine z_if_ne (tgt := 115) X.1 X.2.1 d_H_kdc_84 (by decide) ⟨by omega, by omega⟩ (fun h166 => False.elim (by omega)) (fun h166 => ?_)
      · refine lv_aload_n X.1 X.2.1 d_H_kdc_87 rfl (lv_at hl 1 rfl) ?_
        refine t_get0 (ci := 0) X Y S k0 rfl i_H 6 (by decide) rfl lk_H_77 (fun _ h9 => h9) d_H_kdc_88 ((gF_same (s102.2.2.2 _ ⟨(t_obj S.1 k0).1, nM_of k0 (by decide), by simp⟩).1 6).trans c6) ?_
        refine t_get0 (ci := 4) X Y S kcn rfl i_Ce 6 (by decide) rfl lk_H_151 (fun _ h9 => h9) d_H_kdc_91 e164 ?_
        refine z_if_eq (tgt := 107) X.1 X.2.1 d_H_kdc_94 (by decide) ⟨by omega, by omega⟩ (fun h167 => False.elim (by omega)) (fun h167 => ?_)
        · refine lv_aload_n X.1 X.2.1 d_H_kdc_97 rfl (lv_at hl 1 rfl) ?_
          refine t_get0 (ci := 0) X Y S k0 rfl i_H 6 (by decide) rfl lk_H_77 (fun _ h9 => h9) d_H_kdc_98 ((gF_same (s102.2.2.2 _ ⟨(t_obj S.1 k0).1, nM_of k0 (by decide), by simp⟩).1 6).trans c6) ?_
          refine t_ni (t_runV (As := []) (rest := []) (n := 0) X Y S kcn hml hl.1 (c_Ce_judgeAsX l D E T κ L f102 H.size cn kcn S.1 tp ktp (st102.trans c3) z101 ((gF_same (s102.2.2.2 _ ⟨(t_obj S.1 ktp).1, nM_of ktp (by decide), by simp⟩).1 1).trans e101) (by omega) (by omega) (kp103 (by omega))) (ok_k X Y hA KS KR) rfl kl_H_Ce_judgeAs ks_Ce_judgeAs kx_Ce_judgeAs ki_Ce_judgeAs ini_Ce ⟨rfl, rfl⟩ hd_Ce_judgeAs ⟨Nat.le_of_ble_eq_true rfl, Nat.le_of_ble_eq_true rfl⟩ rfl (Nat.le_of_ble_eq_true rfl) d_H_kdc_101 ⟨Nat.le_of_ble_eq_true rfl, Nat.le_of_ble_eq_true rfl⟩) X Y hA S (by decide) (fun z168 f168 H locs Y S s168 p168 => ?_)
          obtain ⟨l168, u168, x168⟩ := p168
          refine lv_goto (tgt := 114) X.1 X.2.1 d_H_kdc_104 (by decide) ?_
          refine lv_istore_n (lv' := [(1, .int (iI z168)), (0, .ref h)]) X.1 X.2.1 d_H_kdc_114 rfl hl (by decide) rfl (fun ls hl => ?_)
          refine lv_iload_n X.1 X.2.1 d_H_kdc_115 rfl (lv_at hl 0 rfl) ?_
          refine z_if_ne (tgt := 129) X.1 X.2.1 d_H_kdc_116 (by decide) ⟨by omega, by omega⟩ (fun h169 => ?_) (fun h169 => ?_)
          · refine lv_aload_n X.1 X.2.1 d_H_kdc_129 rfl (lv_at hl 1 rfl) ?_
            refine t_get0 (ci := 0) X Y S k0 rfl i_H 6 (by decide) rfl lk_H_77 (fun _ h9 => h9) d_H_kdc_130 ((gF_same (s168.2.2.2 _ ⟨(t_obj S.1 k0).1, nM_of k0 (by decide), by simp⟩).1 6).trans ((gF_same (s102.2.2.2 _ ⟨(t_obj S.1 k0).1, nM_of k0 (by decide), by simp⟩).1 6).trans c6)) ?_
            refine lv_iload_n X.1 X.2.1 d_H_kdc_133 rfl (lv_at hl 0 rfl) ?_
            refine t_nv (t_runV (As := [.int (iI z168)]) (rest := []) (n := 1) X Y S kcn hml hl.1 (c_Ce_putError l D E T κ L f168 H.size cn kcn z168 (by omega) (by omega) S.1) (ok_k X Y hA KS KR) rfl kl_H_Ce_putError ks_Ce_putError kx_Ce_putError ki_Ce_putError ini_Ce ⟨rfl, rfl⟩ hd_Ce_putError ⟨Nat.le_of_ble_eq_true rfl, Nat.le_of_ble_eq_true rfl⟩ rfl (Nat.le_of_ble_eq_true rfl) d_H_kdc_134 ⟨Nat.le_of_ble_eq_true rfl, Nat.le_of_ble_eq_true rfl⟩) X Y hA S (by decide) (fun f170 H locs Y S s170 p170 => ?_)
            refine lv_aload_n X.1 X.2.1 d_H_kdc_137 rfl (lv_at hl 1 rfl) ?_
            refine t_get0 (ci := 0) X Y S k0 rfl i_H 1 (by decide) rfl lk_H_21 (fun _ h9 => h9) d_H_kdc_138 ((gF_same (s170.2.2.2 _ ⟨(t_obj S.1 k0).1, nM_of k0 (by decide), by simp⟩).1 1).trans ((gF_same (s168.2.2.2 _ ⟨(t_obj S.1 k0).1, nM_of k0 (by decide), by simp⟩).1 1).trans ((gF_same (s102.2.2.2 _ ⟨(t_obj S.1 k0).1, nM_of k0 (by decide), by simp⟩).1 1).trans c1))) ?_
            refine t_nv (t_runV (As := []) (rest := []) (n := 0) X Y S ktp hml hl.1 (c_By_clear l D E T κ L f170 H.size tp 4000 ktp (by omega) S.1) (ok_k X Y hA KS KR) rfl kl_H_By_clear ks_By_clear kx_By_clear ki_By_clear ini_By ⟨rfl, rfl⟩ hd_By_clear ⟨Nat.le_of_ble_eq_true rfl, Nat.le_of_ble_eq_true rfl⟩ rfl (Nat.le_of_ble_eq_true rfl) d_H_kdc_141 ⟨Nat.le_of_ble_eq_true rfl, Nat.le_of_ble_eq_true rfl⟩) X Y hA S (by decide) (fun f171 H locs Y S s171 p171 => ?_)
            refine lv_iload_n X.1 X.2.1 d_H_kdc_144 rfl (lv_at hl 0 rfl) ?_
            refine W.widen (k := 3) (n := 96) (Nat.le_of_ble_eq_true rfl) (Nat.le_of_ble_eq_true rfl) ?_
            exact c_reti hQQ X Y hr hlk ⟨κ, S, z168, rfl, ⟨by omega, by omega, ⟨((gF_same (s171.2.2.2 _ ⟨(t_obj S.1 k0).1, nM_of k0 (by decide), by simp⟩).1 6).trans ((gF_same (s170.2.2.2 _ ⟨(t_obj S.1 k0).1, nM_of k0 (by decide), by simp⟩).1 6).trans ((gF_same (s168.2.2.2 _ ⟨(t_obj S.1 k0).1, nM_of k0 (by decide), by simp⟩).1 6).trans ((gF_same (s102.2.2.2 _ ⟨(t_obj S.1 k0).1, nM_of k0 (by decide), by simp⟩).1 6).trans c6)))), ((gF_same (s171.2.2.2 _ ⟨(t_obj S.1 kcn).1, nM_of kcn (by decide), by simp⟩).1 3).trans ((gF_same (s170.2.2.2 _ ⟨(t_obj S.1 kcn).1, nM_of kcn (by decide), by simp⟩).1 3).trans (x168.trans (st102.trans c3)))), ((gF_same (s171.2.2.2 _ ⟨(t_obj S.1 k0).1, nM_of k0 (by decide), by simp⟩).1 1).trans ((gF_same (s170.2.2.2 _ ⟨(t_obj S.1 k0).1, nM_of k0 (by decide), by simp⟩).1 1).trans ((gF_same (s168.2.2.2 _ ⟨(t_obj S.1 k0).1, nM_of k0 (by decide), by simp⟩).1 1).trans ((gF_same (s102.2.2.2 _ ⟨(t_obj S.1 k0).1, nM_of k0 (by decide), by simp⟩).1 1).trans c1))))⟩⟩⟩ d_H_kdc_145
          · refine lv_aload_n X.1 X.2.1 d_H_kdc_119 rfl (lv_at hl 1 rfl) ?_
            refine t_get0 (ci := 0) X Y S k0 rfl i_H 6 (by decide) rfl lk_H_77 (fun _ h9 => h9) d_H_kdc_120 ((gF_same (s168.2.2.2 _ ⟨(t_obj S.1 k0).1, nM_of k0 (by decide), by simp⟩).1 6).trans ((gF_same (s102.2.2.2 _ ⟨(t_obj S.1 k0).1, nM_of k0 (by decide), by simp⟩).1 6).trans c6)) ?_
            have mL172 := (t_obj S.1 k0).1
            have eL173 : gF f168 h 6 = .ref cn := ((gF_same (s168.2.2.2 _ ⟨(t_obj S.1 k0).1, nM_of k0 (by decide), by simp⟩).1 6).trans ((gF_same (s102.2.2.2 _ ⟨(t_obj S.1 k0).1, nM_of k0 (by decide), by simp⟩).1 6).trans c6))
            have mL174 := (t_obj S.1 k0).1
            have eL175 : gF f168 h 1 = .ref tp := ((gF_same (s168.2.2.2 _ ⟨(t_obj S.1 k0).1, nM_of k0 (by decide), by simp⟩).1 1).trans ((gF_same (s102.2.2.2 _ ⟨(t_obj S.1 k0).1, nM_of k0 (by decide), by simp⟩).1 1).trans c1))
            have mL176 := (t_obj S.1 kcn).1
            have eL177 : gF f168 cn 3 = .ref tp := (x168.trans (st102.trans c3))
            refine t_av (t_runV (As := []) (rest := []) (n := 0) X Y S kcn hml hl.1 (c_Ce_putReply l D E T κ L f168 H.size cn kcn S.1) (ok_k X Y hA KS KR) rfl kl_H_Ce_putReply ks_Ce_putReply kx_Ce_putReply ki_Ce_putReply ini_Ce ⟨rfl, rfl⟩ hd_Ce_putReply ⟨Nat.le_of_ble_eq_true rfl, Nat.le_of_ble_eq_true rfl⟩ rfl (Nat.le_of_ble_eq_true rfl) d_H_kdc_123 ⟨Nat.le_of_ble_eq_true rfl, Nat.le_of_ble_eq_true rfl⟩) X Y hA S (by decide) (fun κ178 L178 f178 H locs Y S s178 p178 => ?_)
            have k179 : κ178 h = (10, 0) := tLe_k s178.2.2.1 k0
            have e180 : gF f178 h 6 = .ref cn := (gF_same (s178.2.2.2 _ ⟨mL172, nM_of k0 (by decide), by simp⟩).1 6).trans eL173
            have k181 : κ178 h = (10, 0) := tLe_k s178.2.2.1 k0
            have k182 : κ178 cn = (14, 0) := tLe_k s178.2.2.1 kcn
            have e183 : gF f178 h 1 = .ref tp := (gF_same (s178.2.2.2 _ ⟨mL174, nM_of k0 (by decide), by simp⟩).1 1).trans eL175
            have k184 : κ178 tp = (13, 4000) := tLe_k s178.2.2.1 ktp
            have e185 : gF f178 cn 3 = .ref tp := (gF_same (s178.2.2.2 _ ⟨mL176, nM_of kcn (by decide), by simp⟩).1 3).trans eL177
            refine lv_goto (tgt := 137) X.1 X.2.1 d_H_kdc_126 (by decide) ?_
            refine lv_aload_n X.1 X.2.1 d_H_kdc_137 rfl (lv_at hl 1 rfl) ?_
            refine t_get0 (ci := 0) X Y S k179 rfl i_H 1 (by decide) rfl lk_H_21 (fun _ h9 => h9) d_H_kdc_138 e183 ?_
            refine t_nv (t_runV (As := []) (rest := []) (n := 0) X Y S k184 hml hl.1 (c_By_clear l D E T κ178 L178 f178 H.size tp 4000 k184 (by omega) S.1) (ok_k X Y hA KS KR) rfl kl_H_By_clear ks_By_clear kx_By_clear ki_By_clear ini_By ⟨rfl, rfl⟩ hd_By_clear ⟨Nat.le_of_ble_eq_true rfl, Nat.le_of_ble_eq_true rfl⟩ rfl (Nat.le_of_ble_eq_true rfl) d_H_kdc_141 ⟨Nat.le_of_ble_eq_true rfl, Nat.le_of_ble_eq_true rfl⟩) X Y hA S (by decide) (fun f186 H locs Y S s186 p186 => ?_)
            refine lv_iload_n X.1 X.2.1 d_H_kdc_144 rfl (lv_at hl 0 rfl) ?_
            refine W.widen (k := 3) (n := 96) (Nat.le_of_ble_eq_true rfl) (Nat.le_of_ble_eq_true rfl) ?_
            exact c_reti hQQ X Y hr hlk ⟨κ178, S, z168, rfl, ⟨by omega, by omega, ⟨((gF_same (s186.2.2.2 _ ⟨(t_obj S.1 k181).1, nM_of k181 (by decide), by simp⟩).1 6).trans e180), ((gF_same (s186.2.2.2 _ ⟨(t_obj S.1 k182).1, nM_of k182 (by decide), by simp⟩).1 3).trans e185), ((gF_same (s186.2.2.2 _ ⟨(t_obj S.1 k181).1, nM_of k181 (by decide), by simp⟩).1 1).trans e183)⟩⟩⟩ d_H_kdc_145
    · refine lv_aload_n X.1 X.2.1 d_H_kdc_22 rfl (lv_at hl 1 rfl) ?_
      refine t_get0 (ci := 0) X Y S k0 rfl i_H 6 (by decide) rfl lk_H_77 (fun _ h9 => h9) d_H_kdc_23 ((gF_same (s102.2.2.2 _ ⟨(t_obj S.1 k0).1, nM_of k0 (by decide), by simp⟩).1 6).trans c6) ?_
      refine lv_iconst (v := iI 1) X.1 X.2.1 d_H_kdc_26 (by decide) ?_
      refine t_ui (t_runV (As := [.int (iI 1)]) (rest := []) (n := 1) X Y S kcn hml hl.1 (c_Ce_shownX l D E T κ L f102 H.size cn kcn 1 (by omega) (by omega) S.1 tp ktp (st102.trans c3) z101 ((gF_same (s102.2.2.2 _ ⟨(t_obj S.1 ktp).1, nM_of ktp (by decide), by simp⟩).1 1).trans e101) (by omega) (by omega) (kp103 (by omega))) (ok_k X Y hA KS KR) rfl kl_H_Ce_shown ks_Ce_shown kx_Ce_shown ki_Ce_shown ini_Ce ⟨rfl, rfl⟩ hd_Ce_shown ⟨Nat.le_of_ble_eq_true rfl, Nat.le_of_ble_eq_true rfl⟩ rfl (Nat.le_of_ble_eq_true rfl) d_H_kdc_27 ⟨Nat.le_of_ble_eq_true rfl, Nat.le_of_ble_eq_true rfl⟩) X Y hA (fun z187 H locs Y p187 => ?_)
      obtain ⟨l187, u187, x187⟩ := p187
      refine lv_istore_n (lv' := [(2, .int (iI z187)), (1, .int (iI z102)), (0, .ref h)]) X.1 X.2.1 d_H_kdc_30 rfl hl (by decide) rfl (fun ls hl => ?_)
      refine lv_aload_n X.1 X.2.1 d_H_kdc_31 rfl (lv_at hl 2 rfl) ?_
      refine t_get0 (ci := 0) X Y S k0 rfl i_H 1 (by decide) rfl lk_H_21 (fun _ h9 => h9) d_H_kdc_32 ((gF_same (s102.2.2.2 _ ⟨(t_obj S.1 k0).1, nM_of k0 (by decide), by simp⟩).1 1).trans c1) ?_
      refine lv_iload_n X.1 X.2.1 d_H_kdc_35 rfl (lv_at hl 0 rfl) ?_
      refine lv_aload_n X.1 X.2.1 d_H_kdc_36 rfl (lv_at hl 2 rfl) ?_
      refine t_get0 (ci := 0) X Y S k0 rfl i_H 1 (by decide) rfl lk_H_21 (fun _ h9 => h9) d_H_kdc_37 ((gF_same (s102.2.2.2 _ ⟨(t_obj S.1 k0).1, nM_of k0 (by decide), by simp⟩).1 1).trans c1) ?_
      refine t_get0 (ci := 3) X Y S ktp rfl i_By 1 (by decide) rfl lk_H_81 (fun _ h9 => h9) d_H_kdc_40 ((gF_same (s102.2.2.2 _ ⟨(t_obj S.1 ktp).1, nM_of ktp (by decide), by simp⟩).1 1).trans e101) ?_
      refine t_ui (t_runV (As := [.int (iI z187), .int (iI z101)]) (rest := []) (n := 2) X Y S ktp hml hl.1 (c_By_stopX l D E T κ L f102 H.size tp 4000 ktp (by omega) z187 (by omega) (by omega) z101 (by omega) (by omega) S.1 z101 ((gF_same (s102.2.2.2 _ ⟨(t_obj S.1 ktp).1, nM_of ktp (by decide), by simp⟩).1 1).trans e101) (by omega) (by omega)) (ok_k X Y hA KS KR) rfl kl_H_By_stop ks_By_stop kx_By_stop ki_By_stop ini_By ⟨rfl, rfl⟩ hd_By_stop ⟨Nat.le_of_ble_eq_true rfl, Nat.le_of_ble_eq_true rfl⟩ rfl (Nat.le_of_ble_eq_true rfl) d_H_kdc_43 ⟨Nat.le_of_ble_eq_true rfl, Nat.le_of_ble_eq_true rfl⟩) X Y hA (fun z188 H locs Y p188 => ?_)
      obtain ⟨l188, u188, x188, st188⟩ := p188
      have nn188 : 0 ≤ z187 → 0 ≤ z188 := fun h9 => x187 h9 _ st188
      refine lv_istore_n (lv' := [(3, .int (iI z188)), (2, .int (iI z187)), (1, .int (iI z102)), (0, .ref h)]) X.1 X.2.1 d_H_kdc_46 rfl hl (by decide) rfl (fun ls hl => ?_)
      refine lv_aload_n X.1 X.2.1 d_H_kdc_47 rfl (lv_at hl 3 rfl) ?_
      refine t_getr (ci := 0) X Y S k0 rfl i_H 5 (by decide) rfl (k1 := 15) (k2 := 0) rfl rfl lk_H_36 (fun _ h9 => h9) d_H_kdc_48 (fun b189 e189 k189 => ?_)
      refine lv_aload_n X.1 X.2.1 d_H_kdc_51 rfl (lv_at hl 3 rfl) ?_
      refine t_get0 (ci := 0) X Y S k0 rfl i_H 1 (by decide) rfl lk_H_21 (fun _ h9 => h9) d_H_kdc_52 ((gF_same (s102.2.2.2 _ ⟨(t_obj S.1 k0).1, nM_of k0 (by decide), by simp⟩).1 1).trans c1) ?_
      refine lv_aload_n X.1 X.2.1 d_H_kdc_55 rfl (lv_at hl 3 rfl) ?_
      refine t_get0 (ci := 0) X Y S k0 rfl i_H 1 (by decide) rfl lk_H_21 (fun _ h9 => h9) d_H_kdc_56 ((gF_same (s102.2.2.2 _ ⟨(t_obj S.1 k0).1, nM_of k0 (by decide), by simp⟩).1 1).trans c1) ?_
      refine lv_iload_n X.1 X.2.1 d_H_kdc_59 rfl (lv_at hl 1 rfl) ?_
      refine t_ui (t_runV (As := [.int (iI z187)]) (rest := [.ref tp, .ref b189]) (n := 1) X Y S ktp hml hl.1 (c_By_body l D E T κ L f102 H.size tp 4000 ktp (by omega) z187 (by omega) (by omega) S.1 z101 ((gF_same (s102.2.2.2 _ ⟨(t_obj S.1 ktp).1, nM_of ktp (by decide), by simp⟩).1 1).trans e101) (by omega) (by omega)) (ok_k X Y hA KS KR) rfl kl_H_By_body ks_By_body kx_By_body ki_By_body ini_By ⟨rfl, rfl⟩ hd_By_body ⟨Nat.le_of_ble_eq_true rfl, Nat.le_of_ble_eq_true rfl⟩ rfl (Nat.le_of_ble_eq_true rfl) d_H_kdc_60 ⟨Nat.le_of_ble_eq_true rfl, Nat.le_of_ble_eq_true rfl⟩) X Y hA (fun z190 H locs Y p190 => ?_)
      obtain ⟨l190, u190, x190⟩ := p190
      refine lv_iload_n X.1 X.2.1 d_H_kdc_63 rfl (lv_at hl 0 rfl) ?_
      refine lv_aload_n X.1 X.2.1 d_H_kdc_64 rfl (lv_at hl 3 rfl) ?_
      refine t_getr (ci := 0) X Y S k0 rfl i_H 4 (by decide) rfl (k1 := 5) (k2 := 12) rfl rfl lk_H_42 (fun _ h9 => h9) d_H_kdc_65 (fun b191 e191 k191 => ?_)
      refine lv_iconst (v := iI 0) X.1 X.2.1 d_H_kdc_68 (by decide) ?_
      refine t_aald X Y S k191 (fun h9 => h9) (t0 := 2) rfl (by omega) (by omega) (by omega) d_H_kdc_69 (fun b192 e192 k192 => ?_)
      refine lv_aload_n X.1 X.2.1 d_H_kdc_70 rfl (lv_at hl 3 rfl) ?_
      refine t_get0 (ci := 0) X Y S k0 rfl i_H 6 (by decide) rfl lk_H_77 (fun _ h9 => h9) d_H_kdc_71 ((gF_same (s102.2.2.2 _ ⟨(t_obj S.1 k0).1, nM_of k0 (by decide), by simp⟩).1 6).trans c6) ?_
      refine t_getr (ci := 4) X Y S kcn rfl i_Ce 5 (by decide) rfl (k1 := 18) (k2 := 0) rfl rfl lk_H_163 (fun _ h9 => h9) d_H_kdc_74 (fun b193 e193 k193 => ?_)
      refine lv_bipush (v := iI 7) X.1 X.2.1 d_H_kdc_77 (by decide) ?_
      have mL194 := (t_obj S.1 k0).1
      have eL195 : gF f102 h 6 = .ref cn := ((gF_same (s102.2.2.2 _ ⟨(t_obj S.1 k0).1, nM_of k0 (by decide), by simp⟩).1 6).trans c6)
      have mL196 := (t_obj S.1 k0).1
      have eL197 : gF f102 h 1 = .ref tp := ((gF_same (s102.2.2.2 _ ⟨(t_obj S.1 k0).1, nM_of k0 (by decide), by simp⟩).1 1).trans c1)
      have mL198 := (t_obj S.1 kcn).1
      have eL199 : gF f102 cn 3 = .ref tp := (st102.trans c3)
      have mL200 := (t_obj S.1 kcn).1
      have eL201 : gF f102 cn 6 = .int (iI z164) := e164
      refine t_ai (t_runV (As := [.ref tp, .int (iI z190), .int (iI z188), .ref b192, .ref b193, .int (iI 7)]) (rest := []) (n := 6) X Y S k189 hml hl.1 (c_Ga_judgeX l D E T κ L f102 H.size b189 k189 tp 4000 ktp (by omega) z190 (by omega) (by omega) z188 (by omega) (by omega) b192 k192 b193 k193 7 (by omega) (by omega) S.1 (by omega)) (ok_k X Y hA KS KR) rfl kl_H_Ga_judge ks_Ga_judge kx_Ga_judge ki_Ga_judge ini_Ga ⟨rfl, rfl⟩ hd_Ga_judge ⟨Nat.le_of_ble_eq_true rfl, Nat.le_of_ble_eq_true rfl⟩ rfl (Nat.le_of_ble_eq_true rfl) d_H_kdc_79 ⟨Nat.le_of_ble_eq_true rfl, Nat.le_of_ble_eq_true rfl⟩) X Y hA S (by decide) (fun z202 κ202 L202 f202 H locs Y S s202 p202 => ?_)
      obtain ⟨l202, u202⟩ := p202
      have k203 : κ202 h = (10, 0) := tLe_k s202.2.2.1 k0
      have e204 : gF f202 h 6 = .ref cn := (gF_same (s202.2.2.2 _ ⟨mL194, nM_of k0 (by decide), by simp⟩).1 6).trans eL195
      have k205 : κ202 h = (10, 0) := tLe_k s202.2.2.1 k0
      have k206 : κ202 cn = (14, 0) := tLe_k s202.2.2.1 kcn
      have e207 : gF f202 h 1 = .ref tp := (gF_same (s202.2.2.2 _ ⟨mL196, nM_of k0 (by decide), by simp⟩).1 1).trans eL197
      have k208 : κ202 tp = (13, 4000) := tLe_k s202.2.2.1 ktp
      have e209 : gF f202 cn 3 = .ref tp := (gF_same (s202.2.2.2 _ ⟨mL198, nM_of kcn (by decide), by simp⟩).1 3).trans eL199
      have e210 : gF f202 cn 6 = .int (iI z164) := (gF_same (s202.2.2.2 _ ⟨mL200, nM_of kcn (by decide), by simp⟩).1 6).trans eL201
      refine lv_istore_n (lv' := [(1, .int (iI z202)), (3, .int (iI z188)), (2, .int (iI z187)), (0, .ref h)]) X.1 X.2.1 d_H_kdc_82 rfl hl (by decide) rfl (fun ls hl => ?_)
      refine lv_iload_n X.1 X.2.1 d_H_kdc_83 rfl (lv_at hl 0 rfl) ?_
      refine z_if_ne (tgt := 115) X.1 X.2.1 d_H_kdc_84 (by decide) ⟨by omega, by omega⟩ (fun h211 => ?_) (fun h211 => ?_)
      · refine lv_iload_n X.1 X.2.1 d_H_kdc_115 rfl (lv_at hl 0 rfl) ?_
        refine z_if_ne (tgt := 129) X.1 X.2.1 d_H_kdc_116 (by decide) ⟨by omega, by omega⟩ (fun h212 => ?_) (fun h212 => ?_)
        · refine lv_aload_n X.1 X.2.1 d_H_kdc_129 rfl (lv_at hl 3 rfl) ?_
          refine t_get0 (ci := 0) X Y S k203 rfl i_H 6 (by decide) rfl lk_H_77 (fun _ h9 => h9) d_H_kdc_130 e204 ?_
          refine lv_iload_n X.1 X.2.1 d_H_kdc_133 rfl (lv_at hl 0 rfl) ?_
          refine t_nv (t_runV (As := [.int (iI z202)]) (rest := []) (n := 1) X Y S k206 hml hl.1 (c_Ce_putError l D E T κ202 L202 f202 H.size cn k206 z202 (by omega) (by omega) S.1) (ok_k X Y hA KS KR) rfl kl_H_Ce_putError ks_Ce_putError kx_Ce_putError ki_Ce_putError ini_Ce ⟨rfl, rfl⟩ hd_Ce_putError ⟨Nat.le_of_ble_eq_true rfl, Nat.le_of_ble_eq_true rfl⟩ rfl (Nat.le_of_ble_eq_true rfl) d_H_kdc_134 ⟨Nat.le_of_ble_eq_true rfl, Nat.le_of_ble_eq_true rfl⟩) X Y hA S (by decide) (fun f213 H locs Y S s213 p213 => ?_)
          refine lv_aload_n X.1 X.2.1 d_H_kdc_137 rfl (lv_at hl 3 rfl) ?_
          refine t_get0 (ci := 0) X Y S k203 rfl i_H 1 (by decide) rfl lk_H_21 (fun _ h9 => h9) d_H_kdc_138 ((gF_same (s213.2.2.2 _ ⟨(t_obj S.1 k205).1, nM_of k205 (by decide), by simp⟩).1 1).trans e207) ?_
          refine t_nv (t_runV (As := []) (rest := []) (n := 0) X Y S k208 hml hl.1 (c_By_clear l D E T κ202 L202 f213 H.size tp 4000 k208 (by omega) S.1) (ok_k X Y hA KS KR) rfl kl_H_By_clear ks_By_clear kx_By_clear ki_By_clear ini_By ⟨rfl, rfl⟩ hd_By_clear ⟨Nat.le_of_ble_eq_true rfl, Nat.le_of_ble_eq_true rfl⟩ rfl (Nat.le_of_ble_eq_true rfl) d_H_kdc_141 ⟨Nat.le_of_ble_eq_true rfl, Nat.le_of_ble_eq_true rfl⟩) X Y hA S (by decide) (fun f214 H locs Y S s214 p214 => ?_)
          refine lv_iload_n X.1 X.2.1 d_H_kdc_144 rfl (lv_at hl 0 rfl) ?_
          refine W.widen (k := 3) (n := 96) (Nat.le_of_ble_eq_true rfl) (Nat.le_of_ble_eq_true rfl) ?_
          exact c_reti hQQ X Y hr hlk ⟨κ202, S, z202, rfl, ⟨by omega, by omega, ⟨((gF_same (s214.2.2.2 _ ⟨(t_obj S.1 k205).1, nM_of k205 (by decide), by simp⟩).1 6).trans ((gF_same (s213.2.2.2 _ ⟨(t_obj S.1 k205).1, nM_of k205 (by decide), by simp⟩).1 6).trans e204)), ((gF_same (s214.2.2.2 _ ⟨(t_obj S.1 k206).1, nM_of k206 (by decide), by simp⟩).1 3).trans ((gF_same (s213.2.2.2 _ ⟨(t_obj S.1 k206).1, nM_of k206 (by decide), by simp⟩).1 3).trans e209)), ((gF_same (s214.2.2.2 _ ⟨(t_obj S.1 k205).1, nM_of k205 (by decide), by simp⟩).1 1).trans ((gF_same (s213.2.2.2 _ ⟨(t_obj S.1 k205).1, nM_of k205 (by decide), by simp⟩).1 1).trans e207))⟩⟩⟩ d_H_kdc_145
        · refine lv_aload_n X.1 X.2.1 d_H_kdc_119 rfl (lv_at hl 3 rfl) ?_
          refine t_get0 (ci := 0) X Y S k203 rfl i_H 6 (by decide) rfl lk_H_77 (fun _ h9 => h9) d_H_kdc_120 e204 ?_
          have mL215 := (t_obj S.1 k205).1
          have eL216 : gF f202 h 6 = .ref cn := e204
          have mL217 := (t_obj S.1 k205).1
          have eL218 : gF f202 h 1 = .ref tp := e207
          have mL219 := (t_obj S.1 k206).1
          have eL220 : gF f202 cn 3 = .ref tp := e209
          have mL221 := (t_obj S.1 k206).1
          have eL222 : gF f202 cn 6 = .int (iI z164) := e210
          refine t_av (t_runV (As := []) (rest := []) (n := 0) X Y S k206 hml hl.1 (c_Ce_putReply l D E T κ202 L202 f202 H.size cn k206 S.1) (ok_k X Y hA KS KR) rfl kl_H_Ce_putReply ks_Ce_putReply kx_Ce_putReply ki_Ce_putReply ini_Ce ⟨rfl, rfl⟩ hd_Ce_putReply ⟨Nat.le_of_ble_eq_true rfl, Nat.le_of_ble_eq_true rfl⟩ rfl (Nat.le_of_ble_eq_true rfl) d_H_kdc_123 ⟨Nat.le_of_ble_eq_true rfl, Nat.le_of_ble_eq_true rfl⟩) X Y hA S (by decide) (fun κ223 L223 f223 H locs Y S s223 p223 => ?_)
          have k224 : κ223 h = (10, 0) := tLe_k s223.2.2.1 k203
          have e225 : gF f223 h 6 = .ref cn := (gF_same (s223.2.2.2 _ ⟨mL215, nM_of k205 (by decide), by simp⟩).1 6).trans eL216
          have k226 : κ223 h = (10, 0) := tLe_k s223.2.2.1 k205
          have k227 : κ223 cn = (14, 0) := tLe_k s223.2.2.1 k206
          have e228 : gF f223 h 1 = .ref tp := (gF_same (s223.2.2.2 _ ⟨mL217, nM_of k205 (by decide), by simp⟩).1 1).trans eL218
          have k229 : κ223 tp = (13, 4000) := tLe_k s223.2.2.1 k208
          have e230 : gF f223 cn 3 = .ref tp := (gF_same (s223.2.2.2 _ ⟨mL219, nM_of k206 (by decide), by simp⟩).1 3).trans eL220
          have e231 : gF f223 cn 6 = .int (iI z164) := (gF_same (s223.2.2.2 _ ⟨mL221, nM_of k206 (by decide), by simp⟩).1 6).trans eL222
          refine lv_goto (tgt := 137) X.1 X.2.1 d_H_kdc_126 (by decide) ?_
          refine lv_aload_n X.1 X.2.1 d_H_kdc_137 rfl (lv_at hl 3 rfl) ?_
          refine t_get0 (ci := 0) X Y S k224 rfl i_H 1 (by decide) rfl lk_H_21 (fun _ h9 => h9) d_H_kdc_138 e228 ?_
          refine t_nv (t_runV (As := []) (rest := []) (n := 0) X Y S k229 hml hl.1 (c_By_clear l D E T κ223 L223 f223 H.size tp 4000 k229 (by omega) S.1) (ok_k X Y hA KS KR) rfl kl_H_By_clear ks_By_clear kx_By_clear ki_By_clear ini_By ⟨rfl, rfl⟩ hd_By_clear ⟨Nat.le_of_ble_eq_true rfl, Nat.le_of_ble_eq_true rfl⟩ rfl (Nat.le_of_ble_eq_true rfl) d_H_kdc_141 ⟨Nat.le_of_ble_eq_true rfl, Nat.le_of_ble_eq_true rfl⟩) X Y hA S (by decide) (fun f232 H locs Y S s232 p232 => ?_)
          refine lv_iload_n X.1 X.2.1 d_H_kdc_144 rfl (lv_at hl 0 rfl) ?_
          exact c_reti hQQ X Y hr hlk ⟨κ223, S, z202, rfl, ⟨by omega, by omega, ⟨((gF_same (s232.2.2.2 _ ⟨(t_obj S.1 k226).1, nM_of k226 (by decide), by simp⟩).1 6).trans e225), ((gF_same (s232.2.2.2 _ ⟨(t_obj S.1 k227).1, nM_of k227 (by decide), by simp⟩).1 3).trans e230), ((gF_same (s232.2.2.2 _ ⟨(t_obj S.1 k226).1, nM_of k226 (by decide), by simp⟩).1 1).trans e228)⟩⟩⟩ d_H_kdc_145
      · refine lv_aload_n X.1 X.2.1 d_H_kdc_87 rfl (lv_at hl 3 rfl) ?_
        refine t_get0 (ci := 0) X Y S k203 rfl i_H 6 (by decide) rfl lk_H_77 (fun _ h9 => h9) d_H_kdc_88 e204 ?_
        refine t_get0 (ci := 4) X Y S k206 rfl i_Ce 6 (by decide) rfl lk_H_151 (fun _ h9 => h9) d_H_kdc_91 e210 ?_
        refine z_if_eq (tgt := 107) X.1 X.2.1 d_H_kdc_94 (by decide) ⟨by omega, by omega⟩ (fun h233 => ?_) (fun h233 => False.elim (by omega))
        · refine lv_aload_n X.1 X.2.1 d_H_kdc_107 rfl (lv_at hl 3 rfl) ?_
          refine t_get0 (ci := 0) X Y S k203 rfl i_H 6 (by decide) rfl lk_H_77 (fun _ h9 => h9) d_H_kdc_108 e204 ?_
          refine t_ni (t_runV (As := []) (rest := []) (n := 0) X Y S k206 hml hl.1 (c_Ce_judgeTgs l D E T κ202 L202 f202 H.size cn k206 S.1) (ok_k X Y hA KS KR) rfl kl_H_Ce_judgeTgs ks_Ce_judgeTgs kx_Ce_judgeTgs ki_Ce_judgeTgs ini_Ce ⟨rfl, rfl⟩ hd_Ce_judgeTgs ⟨Nat.le_of_ble_eq_true rfl, Nat.le_of_ble_eq_true rfl⟩ rfl (Nat.le_of_ble_eq_true rfl) d_H_kdc_111 ⟨Nat.le_of_ble_eq_true rfl, Nat.le_of_ble_eq_true rfl⟩) X Y hA S (by decide) (fun z234 f234 H locs Y S s234 p234 => ?_)
          obtain ⟨l234, u234, x234⟩ := p234
          refine lv_istore_n (lv' := [(1, .int (iI z234)), (3, .int (iI z188)), (2, .int (iI z187)), (0, .ref h)]) X.1 X.2.1 d_H_kdc_114 rfl hl (by decide) rfl (fun ls hl => ?_)
          refine lv_iload_n X.1 X.2.1 d_H_kdc_115 rfl (lv_at hl 0 rfl) ?_
          refine z_if_ne (tgt := 129) X.1 X.2.1 d_H_kdc_116 (by decide) ⟨by omega, by omega⟩ (fun h235 => ?_) (fun h235 => ?_)
          · refine lv_aload_n X.1 X.2.1 d_H_kdc_129 rfl (lv_at hl 3 rfl) ?_
            refine t_get0 (ci := 0) X Y S k203 rfl i_H 6 (by decide) rfl lk_H_77 (fun _ h9 => h9) d_H_kdc_130 ((gF_same (s234.2.2.2 _ ⟨(t_obj S.1 k205).1, nM_of k205 (by decide), by simp⟩).1 6).trans e204) ?_
            refine lv_iload_n X.1 X.2.1 d_H_kdc_133 rfl (lv_at hl 0 rfl) ?_
            refine t_nv (t_runV (As := [.int (iI z234)]) (rest := []) (n := 1) X Y S k206 hml hl.1 (c_Ce_putError l D E T κ202 L202 f234 H.size cn k206 z234 (by omega) (by omega) S.1) (ok_k X Y hA KS KR) rfl kl_H_Ce_putError ks_Ce_putError kx_Ce_putError ki_Ce_putError ini_Ce ⟨rfl, rfl⟩ hd_Ce_putError ⟨Nat.le_of_ble_eq_true rfl, Nat.le_of_ble_eq_true rfl⟩ rfl (Nat.le_of_ble_eq_true rfl) d_H_kdc_134 ⟨Nat.le_of_ble_eq_true rfl, Nat.le_of_ble_eq_true rfl⟩) X Y hA S (by decide) (fun f236 H locs Y S s236 p236 => ?_)
            refine lv_aload_n X.1 X.2.1 d_H_kdc_137 rfl (lv_at hl 3 rfl) ?_
            refine t_get0 (ci := 0) X Y S k203 rfl i_H 1 (by decide) rfl lk_H_21 (fun _ h9 => h9) d_H_kdc_138 ((gF_same (s236.2.2.2 _ ⟨(t_obj S.1 k205).1, nM_of k205 (by decide), by simp⟩).1 1).trans ((gF_same (s234.2.2.2 _ ⟨(t_obj S.1 k205).1, nM_of k205 (by decide), by simp⟩).1 1).trans e207)) ?_
            refine t_nv (t_runV (As := []) (rest := []) (n := 0) X Y S k208 hml hl.1 (c_By_clear l D E T κ202 L202 f236 H.size tp 4000 k208 (by omega) S.1) (ok_k X Y hA KS KR) rfl kl_H_By_clear ks_By_clear kx_By_clear ki_By_clear ini_By ⟨rfl, rfl⟩ hd_By_clear ⟨Nat.le_of_ble_eq_true rfl, Nat.le_of_ble_eq_true rfl⟩ rfl (Nat.le_of_ble_eq_true rfl) d_H_kdc_141 ⟨Nat.le_of_ble_eq_true rfl, Nat.le_of_ble_eq_true rfl⟩) X Y hA S (by decide) (fun f237 H locs Y S s237 p237 => ?_)
            refine lv_iload_n X.1 X.2.1 d_H_kdc_144 rfl (lv_at hl 0 rfl) ?_
            refine W.widen (k := 3) (n := 96) (Nat.le_of_ble_eq_true rfl) (Nat.le_of_ble_eq_true rfl) ?_
            exact c_reti hQQ X Y hr hlk ⟨κ202, S, z234, rfl, ⟨by omega, by omega, ⟨((gF_same (s237.2.2.2 _ ⟨(t_obj S.1 k205).1, nM_of k205 (by decide), by simp⟩).1 6).trans ((gF_same (s236.2.2.2 _ ⟨(t_obj S.1 k205).1, nM_of k205 (by decide), by simp⟩).1 6).trans ((gF_same (s234.2.2.2 _ ⟨(t_obj S.1 k205).1, nM_of k205 (by decide), by simp⟩).1 6).trans e204))), ((gF_same (s237.2.2.2 _ ⟨(t_obj S.1 k206).1, nM_of k206 (by decide), by simp⟩).1 3).trans ((gF_same (s236.2.2.2 _ ⟨(t_obj S.1 k206).1, nM_of k206 (by decide), by simp⟩).1 3).trans (x234.trans e209))), ((gF_same (s237.2.2.2 _ ⟨(t_obj S.1 k205).1, nM_of k205 (by decide), by simp⟩).1 1).trans ((gF_same (s236.2.2.2 _ ⟨(t_obj S.1 k205).1, nM_of k205 (by decide), by simp⟩).1 1).trans ((gF_same (s234.2.2.2 _ ⟨(t_obj S.1 k205).1, nM_of k205 (by decide), by simp⟩).1 1).trans e207)))⟩⟩⟩ d_H_kdc_145
          · refine lv_aload_n X.1 X.2.1 d_H_kdc_119 rfl (lv_at hl 3 rfl) ?_
            refine t_get0 (ci := 0) X Y S k203 rfl i_H 6 (by decide) rfl lk_H_77 (fun _ h9 => h9) d_H_kdc_120 ((gF_same (s234.2.2.2 _ ⟨(t_obj S.1 k205).1, nM_of k205 (by decide), by simp⟩).1 6).trans e204) ?_
            have mL238 := (t_obj S.1 k205).1
            have eL239 : gF f234 h 6 = .ref cn := ((gF_same (s234.2.2.2 _ ⟨(t_obj S.1 k205).1, nM_of k205 (by decide), by simp⟩).1 6).trans e204)
            have mL240 := (t_obj S.1 k205).1
            have eL241 : gF f234 h 1 = .ref tp := ((gF_same (s234.2.2.2 _ ⟨(t_obj S.1 k205).1, nM_of k205 (by decide), by simp⟩).1 1).trans e207)
            have mL242 := (t_obj S.1 k206).1
            have eL243 : gF f234 cn 3 = .ref tp := (x234.trans e209)
            refine t_av (t_runV (As := []) (rest := []) (n := 0) X Y S k206 hml hl.1 (c_Ce_putReply l D E T κ202 L202 f234 H.size cn k206 S.1) (ok_k X Y hA KS KR) rfl kl_H_Ce_putReply ks_Ce_putReply kx_Ce_putReply ki_Ce_putReply ini_Ce ⟨rfl, rfl⟩ hd_Ce_putReply ⟨Nat.le_of_ble_eq_true rfl, Nat.le_of_ble_eq_true rfl⟩ rfl (Nat.le_of_ble_eq_true rfl) d_H_kdc_123 ⟨Nat.le_of_ble_eq_true rfl, Nat.le_of_ble_eq_true rfl⟩) X Y hA S (by decide) (fun κ244 L244 f244 H locs Y S s244 p244 => ?_)
            have k245 : κ244 h = (10, 0) := tLe_k s244.2.2.1 k203
            have e246 : gF f244 h 6 = .ref cn := (gF_same (s244.2.2.2 _ ⟨mL238, nM_of k205 (by decide), by simp⟩).1 6).trans eL239
            have k247 : κ244 h = (10, 0) := tLe_k s244.2.2.1 k205
            have k248 : κ244 cn = (14, 0) := tLe_k s244.2.2.1 k206
            have e249 : gF f244 h 1 = .ref tp := (gF_same (s244.2.2.2 _ ⟨mL240, nM_of k205 (by decide), by simp⟩).1 1).trans eL241
            have k250 : κ244 tp = (13, 4000) := tLe_k s244.2.2.1 k208
            have e251 : gF f244 cn 3 = .ref tp := (gF_same (s244.2.2.2 _ ⟨mL242, nM_of k206 (by decide), by simp⟩).1 3).trans eL243
            refine lv_goto (tgt := 137) X.1 X.2.1 d_H_kdc_126 (by decide) ?_
            refine lv_aload_n X.1 X.2.1 d_H_kdc_137 rfl (lv_at hl 3 rfl) ?_
            refine t_get0 (ci := 0) X Y S k245 rfl i_H 1 (by decide) rfl lk_H_21 (fun _ h9 => h9) d_H_kdc_138 e249 ?_
            refine t_nv (t_runV (As := []) (rest := []) (n := 0) X Y S k250 hml hl.1 (c_By_clear l D E T κ244 L244 f244 H.size tp 4000 k250 (by omega) S.1) (ok_k X Y hA KS KR) rfl kl_H_By_clear ks_By_clear kx_By_clear ki_By_clear ini_By ⟨rfl, rfl⟩ hd_By_clear ⟨Nat.le_of_ble_eq_true rfl, Nat.le_of_ble_eq_true rfl⟩ rfl (Nat.le_of_ble_eq_true rfl) d_H_kdc_141 ⟨Nat.le_of_ble_eq_true rfl, Nat.le_of_ble_eq_true rfl⟩) X Y hA S (by decide) (fun f252 H locs Y S s252 p252 => ?_)
            refine lv_iload_n X.1 X.2.1 d_H_kdc_144 rfl (lv_at hl 0 rfl) ?_
            exact c_reti hQQ X Y hr hlk ⟨κ244, S, z234, rfl, ⟨by omega, by omega, ⟨((gF_same (s252.2.2.2 _ ⟨(t_obj S.1 k247).1, nM_of k247 (by decide), by simp⟩).1 6).trans e246), ((gF_same (s252.2.2.2 _ ⟨(t_obj S.1 k248).1, nM_of k248 (by decide), by simp⟩).1 3).trans e251), ((gF_same (s252.2.2.2 _ ⟨(t_obj S.1 k247).1, nM_of k247 (by decide), by simp⟩).1 1).trans e249)⟩⟩⟩ d_H_kdc_145
