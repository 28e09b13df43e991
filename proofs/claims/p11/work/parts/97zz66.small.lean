set_option maxHeartbeats 4000000 in
set_option maxRecDepth 100000 in
theorem c_Se_forget (l : Launch) (D : va_G) (E : cE) (T : cT) (κ : tK) (L : List Nat) (f : pF) (sz : Nat) (h : Nat) (k0 : κ h = (18, 0)) (a1 : Int) (l_a1 : (-2147483648) ≤ a1) (u_a1 : a1 ≤ 2147483647) (hw : tW E T κ L f) : Met l y_Se_forget (k_Se_forget :: lw_tg) (kRm 1 60 0 0) (va_Pc [.ref h, .int (iI a1)] (kPre D E T L f sz)) (va_Qv (nPv E T [1, 2, 3, 4, 18] κ L f (fun (g : pF) => True)) (cPost D E (pA L sz)) (pA L sz)) 0 0 (pA L sz) := by
  refine k_enter (own := R_Se) (by decide) rfl (Nat.le_of_ble_eq_true rfl) (fun p e s m below meth c ls AV QQ H locs hQQ X Y hA hin hr hlk hml hl KS KR => ?_)
  have hl : lv_has ls 4 [(0, .ref h), (1, .int (iI a1))] := hl
  have S : tS E T (tFr κ L [1, 2, 3, 4, 18] []) κ L f κ L f := tS_rf hw
  refine lv_iconst (v := iI 0) X.1 X.2.1 d_Se_forget_0 (by decide) ?_
  refine lv_istore_n (lv' := [(2, .int (iI 0)), (0, .ref h), (1, .int (iI a1))]) X.1 X.2.1 d_Se_forget_1 rfl hl (by decide) rfl (fun ls hl => ?_)
  refine lv_iconst (v := iI 0) X.1 X.2.1 d_Se_forget_2 (by decide) ?_
  have J105 : ∀ (n107 : Nat) (z102 : Int) (z103 : Int) (f101 : pF) (H : Heap) (locs : List Loc) (ls : Array Slot), (32 - z103).toNat = n107 → (0 ≤ z102) → (z102 ≤ 32) → (0 ≤ z103) → (z103 ≤ 32) → (z102 ≤ z103) → pH D cCl (pA L sz) s.heap L f101 H locs → tS E T (tFr κ L [1, 2, 3, 4, 18] []) κ L f κ L f101 → lv_has ls 4 [(0, .ref h), (1, .int (iI a1)), (2, .int (iI z102)), (3, .int (iI z103))] → W p l e (kRm 1 60 0 0) s m AV below meth c H locs 0 0 QQ (F0 m 4 ls []) := by
    intro n107
    induction n107 using Nat.strongRecOn with
    | ind n107 ih106 =>
      intro z102 z103 f101 H locs ls hm108 l102 u102 l103 u103 i104 Y S hl
      refine lv_iload_n X.1 X.2.1 d_Se_forget_4 rfl (lv_at hl 3 rfl) ?_
      refine lv_aload_n X.1 X.2.1 d_Se_forget_5 rfl (lv_at hl 0 rfl) ?_
      refine t_geti (ci := 8) X Y S k0 rfl i_Se 4 (by decide) rfl lk_Se_25 (fun _ h9 => h9) d_Se_forget_6 (fun z109 e109 l109 u109 => ?_)
      refine z_icmp_ge (tgt := 92) X.1 X.2.1 d_Se_forget_9 (by decide) ⟨by omega, by omega⟩ ⟨by omega, by omega⟩ (fun h110 => ?_) (fun h110 => ?_)
      · refine lv_aload_n X.1 X.2.1 d_Se_forget_92 rfl (lv_at hl 0 rfl) ?_
        refine lv_iload_n X.1 X.2.1 d_Se_forget_93 rfl (lv_at hl 2 rfl) ?_
        refine t_put (ci := 8) X Y S k0 rfl i_Se t_Se t_Se_ok n_Se 4 (by decide) rfl lk_Se_25 (fun _ h9 => h9) rfl (t_Se_ok 4 (by decide)) rfl rfl ⟨_, rfl, (show (0 : Int) ≤ z102 by omega), (show z102 ≤ (32 : Int) by omega)⟩ (nF_of S k0 (by decide)) d_Se_forget_94 (fun f111 H locs Y S w111 => ?_)
        exact c_retv hQQ X Y hr hlk ⟨rfl, S, trivial⟩ d_Se_forget_97
      · refine lv_aload_n X.1 X.2.1 d_Se_forget_12 rfl (lv_at hl 0 rfl) ?_
        refine t_getr (ci := 8) X Y S k0 rfl i_Se 2 (by decide) rfl (k1 := 2) (k2 := 32) rfl rfl lk_Se_19 (fun _ h9 => h9) d_Se_forget_13 (fun b112 e112 k112 => ?_)
        refine lv_iload_n X.1 X.2.1 d_Se_forget_16 rfl (lv_at hl 3 rfl) ?_
        refine t_iald2 X Y S k112 (by omega) (by omega) (by omega) d_Se_forget_17 (fun z113 l113 u113 => ?_)
        refine lv_iload_n X.1 X.2.1 d_Se_forget_18 rfl (lv_at hl 1 rfl) ?_
        refine lv_sipush (v := iI 300) X.1 X.2.1 d_Se_forget_19 (by decide) ?_
        refine lv_isub X.1 X.2.1 d_Se_forget_22 ?_
        refine t_u (fun z114 l114 u114 => ?_)
        have J118 : ∀ (z116 : Int) (f115 : pF) (H : Heap) (locs : List Loc) (ls : Array Slot), (0 ≤ z116) → (z116 ≤ 33) → (z116 ≤ z103 + 1) → pH D cCl (pA L sz) s.heap L f115 H locs → tS E T (tFr κ L [1, 2, 3, 4, 18] []) κ L f κ L f115 → lv_has ls 4 [(0, .ref h), (1, .int (iI a1)), (2, .int (iI z116)), (3, .int (iI z103))] → W p l e (kRm 1 60 0 0) s m AV below meth c H locs 0 0 QQ (F0 m 86 ls []) := by
          intro z116 f115 H locs ls l116 u116 i117 Y S hl
          refine lv_iinc (v := iI (z103 + 1)) (lv' := [(3, .int (iI (z103 + 1))), (0, .ref h), (1, .int (iI a1)), (2, .int (iI z116))]) X.1 X.2.1 d_Se_forget_86 hl (k := 3) rfl ((iI_add _ _).trans (congrArg iI (by omega))) (by decide) rfl (fun ls hl => ?_)
          refine lv_goto (tgt := 4) X.1 X.2.1 d_Se_forget_89 (by decide) ?_
          exact ih106 ((32 - (z103 + 1)).toNat) (by omega) z116 (z103 + 1) f115 _ _ _ rfl (by omega) (by omega) (by omega) (by omega) (by omega) Y S (lv_sub hl [1, 2, 3, 0] rfl)
        refine z_icmp_lt (tgt := 86) X.1 X.2.1 d_Se_forget_23 (by decide) ⟨by omega, by omega⟩ ⟨by omega, by omega⟩ (fun h122 => ?_) (fun h122 => ?_)
        · exact J118 z102 f101 _ _ _ (by omega) (by omega) (by omega) Y S (lv_sub hl [0, 1, 2, 3] rfl)
        · refine lv_aload_n X.1 X.2.1 d_Se_forget_26 rfl (lv_at hl 0 rfl) ?_
          refine t_getr (ci := 8) X Y S k0 rfl i_Se 0 (by decide) rfl (k1 := 1) (k2 := 1280) rfl rfl lk_Se_9 (fun _ h9 => h9) d_Se_forget_27 (fun b123 e123 k123 => ?_)
          refine lv_iload_n X.1 X.2.1 d_Se_forget_30 rfl (lv_at hl 3 rfl) ?_
          refine lv_bipush (v := iI 40) X.1 X.2.1 d_Se_forget_31 (by decide) ?_
          refine z_imul X.1 X.2.1 d_Se_forget_33 ?_
          refine lv_aload_n X.1 X.2.1 d_Se_forget_34 rfl (lv_at hl 0 rfl) ?_
          refine t_get0 (ci := 8) X Y S k0 rfl i_Se 0 (by decide) rfl lk_Se_9 (fun _ h9 => h9) d_Se_forget_35 e123 ?_
          refine lv_iload_n X.1 X.2.1 d_Se_forget_38 rfl (lv_at hl 2 rfl) ?_
          refine lv_bipush (v := iI 40) X.1 X.2.1 d_Se_forget_39 (by decide) ?_
          refine z_imul X.1 X.2.1 d_Se_forget_41 ?_
          refine lv_bipush (v := iI 40) X.1 X.2.1 d_Se_forget_42 (by decide) ?_
          refine t_copyB X Y S KS (hml.trans hl.1.symm) kl_Se_copy (Or.inl k123) k123 (by omega) (by omega) (by omega) (by omega) (by omega) (by omega) (by omega) (nF_of S k123 (by decide)) (Nat.le_of_ble_eq_true rfl) (Nat.le_of_ble_eq_true rfl) d_Se_forget_44 (fun f124 H locs Y S w124 => ?_)
          refine lv_aload_n X.1 X.2.1 d_Se_forget_47 rfl (lv_at hl 0 rfl) ?_
          refine t_getr (ci := 8) X Y S k0 rfl i_Se 1 (by decide) rfl (k1 := 4) (k2 := 32) rfl rfl lk_Se_15 (fun _ h9 => h9) d_Se_forget_48 (fun b125 e125 k125 => ?_)
          refine lv_iload_n X.1 X.2.1 d_Se_forget_51 rfl (lv_at hl 2 rfl) ?_
          refine lv_aload_n X.1 X.2.1 d_Se_forget_52 rfl (lv_at hl 0 rfl) ?_
          refine t_get0 (ci := 8) X Y S k0 rfl i_Se 1 (by decide) rfl lk_Se_15 (fun _ h9 => h9) d_Se_forget_53 e125 ?_
          refine lv_iload_n X.1 X.2.1 d_Se_forget_56 rfl (lv_at hl 3 rfl) ?_
          refine t_iald4 X Y S k125 (by omega) (by omega) (by omega) d_Se_forget_57 (fun z126 l126 u126 => ?_)
          refine t_iast4 X Y S k125 (by omega) (by omega) (by omega) ⟨by omega, by omega⟩ (nF_of S k125 (by decide)) d_Se_forget_58 (fun f127 H locs Y S w127 => ?_)
          refine lv_aload_n X.1 X.2.1 d_Se_forget_59 rfl (lv_at hl 0 rfl) ?_
          refine t_get0 (ci := 8) X Y S k0 rfl i_Se 2 (by decide) rfl lk_Se_19 (fun _ h9 => h9) d_Se_forget_60 ((gF_same (w127 _ (k_ne k0 k125 (by decide))) 2).trans ((gF_same (w124 _ (k_ne k0 k123 (by decide))) 2).trans e112)) ?_
          refine lv_iload_n X.1 X.2.1 d_Se_forget_63 rfl (lv_at hl 2 rfl) ?_
          refine lv_aload_n X.1 X.2.1 d_Se_forget_64 rfl (lv_at hl 0 rfl) ?_
          refine t_get0 (ci := 8) X Y S k0 rfl i_Se 2 (by decide) rfl lk_Se_19 (fun _ h9 => h9) d_Se_forget_65 ((gF_same (w127 _ (k_ne k0 k125 (by decide))) 2).trans ((gF_same (w124 _ (k_ne k0 k123 (by decide))) 2).trans e112)) ?_
          refine lv_iload_n X.1 X.2.1 d_Se_forget_68 rfl (lv_at hl 3 rfl) ?_
          refine t_iald2 X Y S k112 (by omega) (by omega) (by omega) d_Se_forget_69 (fun z128 l128 u128 => ?_)
          refine t_iast2 X Y S k112 (by omega) (by omega) (by omega) (nF_of S k112 (by decide)) d_Se_forget_70 (fun f129 H locs Y S w129 => ?_)
          refine lv_aload_n X.1 X.2.1 d_Se_forget_71 rfl (lv_at hl 0 rfl) ?_
          refine t_getr (ci := 8) X Y S k0 rfl i_Se 3 (by decide) rfl (k1 := 2) (k2 := 32) rfl rfl lk_Se_22 (fun _ h9 => h9) d_Se_forget_72 (fun b130 e130 k130 => ?_)
          refine lv_iload_n X.1 X.2.1 d_Se_forget_75 rfl (lv_at hl 2 rfl) ?_
          refine lv_aload_n X.1 X.2.1 d_Se_forget_76 rfl (lv_at hl 0 rfl) ?_
          refine t_get0 (ci := 8) X Y S k0 rfl i_Se 3 (by decide) rfl lk_Se_22 (fun _ h9 => h9) d_Se_forget_77 e130 ?_
          refine lv_iload_n X.1 X.2.1 d_Se_forget_80 rfl (lv_at hl 3 rfl) ?_
          refine t_iald2 X Y S k130 (by omega) (by omega) (by omega) d_Se_forget_81 (fun z131 l131 u131 => ?_)
          refine t_iast2 X Y S k130 (by omega) (by omega) (by omega) (nF_of S k130 (by decide)) d_Se_forget_82 (fun f132 H locs Y S w132 => ?_)
          refine lv_iinc (v := iI (z102 + 1)) (lv' := [(2, .int (iI (z102 + 1))), (0, .ref h), (1, .int (iI a1)), (3, .int (iI z103))]) X.1 X.2.1 d_Se_forget_83 hl (k := 2) rfl ((iI_add _ _).trans (congrArg iI (by omega))) (by decide) rfl (fun ls hl => ?_)
          exact J118 (z102 + 1) f132 _ _ _ (by omega) (by omega) (by omega) Y S (lv_sub hl [1, 2, 0, 3] rfl)
  refine lv_istore_n (lv' := [(3, .int (iI 0)), (2, .int (iI 0)), (0, .ref h), (1, .int (iI a1))]) X.1 X.2.1 d_Se_forget_3 rfl hl (by decide) rfl (fun ls hl => ?_)
  exact J105 _ 0 0 f _ _ _ rfl (by omega) (by omega) (by omega) (by omega) (by omega) Y S (lv_sub hl [2, 3, 1, 0] rfl)
set_option maxHeartbeats 4000000 in
set_option maxRecDepth 100000 in
theorem c_Se_isName (l : Launch) (D : va_G) (E : cE) (T : cT) (κ : tK) (L : List Nat) (f : pF) (sz : Nat) (h : Nat) (k0 : κ h = (18, 0)) (a1 : Int) (l_a1 : 0 ≤ a1) (u_a1 : a1 ≤ 31) (a2 n2 : Nat) (k2 : κ a2 = (13, n2)) (x2 : n2 ≤ 12288) (a3 : Int) (l_a3 : (-1) ≤ a3) (u_a3 : a3 ≤ 20200) (a4 : Int) (l_a4 : (-1) ≤ a4) (u_a4 : a4 ≤ 20200) (hw : tW E T κ L f) : Met l y_Se_isName (k_Se_isName :: lw_tg) (kRm 2 81 0 0) (va_Pc [.ref h, .int (iI a1), .ref a2, .int (iI a3), .int (iI a4)] (kPre D E T L f sz)) (va_Qi (uPi L f (fun (z : Int) => 0 ≤ z ∧ z ≤ 1)) (cPost D E (pA L sz)) (pA L sz)) 0 0 (pA L sz) := by
  refine k_enter (own := R_Se) (by decide) rfl (Nat.le_of_ble_eq_true rfl) (fun p e s m below meth c ls AV QQ H locs hQQ X Y hA hin hr hlk hml hl KS KR => ?_)
  have hl : lv_has ls 6 [(0, .ref h), (1, .int (iI a1)), (2, .ref a2), (3, .int (iI a3)), (4, .int (iI a4))] := hl
  have S : tS E T (tFr κ L [] []) κ L f κ L f := tS_rf hw
  refine lv_aload_n X.1 X.2.1 d_Se_isName_0 rfl (lv_at hl 0 rfl) ?_
  refine t_getr (ci := 8) X Y S k0 rfl i_Se 1 (by decide) rfl (k1 := 4) (k2 := 32) rfl rfl lk_Se_15 (fun _ h9 => h9) d_Se_isName_1 (fun b101 e101 k101 => ?_)
  refine lv_iload_n X.1 X.2.1 d_Se_isName_4 rfl (lv_at hl 1 rfl) ?_
  refine t_iald4 X Y S k101 (by omega) (by omega) (by omega) d_Se_isName_5 (fun z102 l102 u102 => ?_)
  refine lv_iload X.1 X.2.1 d_Se_isName_6 (lv_at hl 4 rfl) ?_
  refine lv_iload_n X.1 X.2.1 d_Se_isName_8 rfl (lv_at hl 3 rfl) ?_
  refine z_isub X.1 X.2.1 d_Se_isName_9 ?_
  refine z_icmp_eq (tgt := 15) X.1 X.2.1 d_Se_isName_10 (by decide) ⟨by omega, by omega⟩ ⟨by omega, by omega⟩ (fun h103 => ?_) (fun h103 => ?_)
  · refine lv_iconst (v := iI 0) X.1 X.2.1 d_Se_isName_15 (by decide) ?_
    have J105 : ∀ (n107 : Nat) (z104 : Int) (H : Heap) (locs : List Loc) (ls : Array Slot), (40 - z104).toNat = n107 → (0 ≤ z104) → (z104 ≤ 40) → pH D cCl (pA L sz) s.heap L f H locs → tS E T (tFr κ L [] []) κ L f κ L f → lv_has ls 6 [(0, .ref h), (1, .int (iI a1)), (2, .ref a2), (3, .int (iI a3)), (5, .int (iI z104))] → W p l e (kRm 2 81 0 0) s m AV below meth c H locs 0 0 QQ (F0 m 18 ls []) := by
      intro n107
      induction n107 using Nat.strongRecOn with
      | ind n107 ih106 =>
        intro z104 H locs ls hm108 l104 u104 Y S hl
        refine lv_iload X.1 X.2.1 d_Se_isName_18 (lv_at hl 4 rfl) ?_
        refine lv_aload_n X.1 X.2.1 d_Se_isName_20 rfl (lv_at hl 0 rfl) ?_
        refine t_get0 (ci := 8) X Y S k0 rfl i_Se 1 (by decide) rfl lk_Se_15 (fun _ h9 => h9) d_Se_isName_21 e101 ?_
        refine lv_iload_n X.1 X.2.1 d_Se_isName_24 rfl (lv_at hl 1 rfl) ?_
        refine t_iald4 X Y S k101 (by omega) (by omega) (by omega) d_Se_isName_25 (fun z109 l109 u109 => ?_)
        refine z_icmp_ge (tgt := 64) X.1 X.2.1 d_Se_isName_26 (by decide) ⟨by omega, by omega⟩ ⟨by omega, by omega⟩ (fun h110 => ?_) (fun h110 => ?_)
        · refine lv_iconst (v := iI 1) X.1 X.2.1 d_Se_isName_64 (by decide) ?_
          exact c_retz hQQ X Y hr hlk (iI_bool (by omega) (by omega)).1 ⟨rfl, rfl, 1, rfl, ⟨by omega, by omega⟩⟩ d_Se_isName_65
        · refine lv_aload_n X.1 X.2.1 d_Se_isName_29 rfl (lv_at hl 0 rfl) ?_
          refine t_getr (ci := 8) X Y S k0 rfl i_Se 0 (by decide) rfl (k1 := 1) (k2 := 1280) rfl rfl lk_Se_9 (fun _ h9 => h9) d_Se_isName_30 (fun b111 e111 k111 => ?_)
          refine lv_iload_n X.1 X.2.1 d_Se_isName_33 rfl (lv_at hl 1 rfl) ?_
          refine lv_bipush (v := iI 40) X.1 X.2.1 d_Se_isName_34 (by decide) ?_
          refine z_imul X.1 X.2.1 d_Se_isName_36 ?_
          refine lv_iload X.1 X.2.1 d_Se_isName_37 (lv_at hl 4 rfl) ?_
          refine z_iadd X.1 X.2.1 d_Se_isName_39 ?_
          refine t_bald X Y S (Or.inl k111) (by omega) (by omega) (by omega) d_Se_isName_40 (fun z112 l112 u112 => ?_)
          refine lv_sipush (v := iI 255) X.1 X.2.1 d_Se_isName_41 (by decide) ?_
          refine z_iand X.1 X.2.1 (by omega) (by omega) d_Se_isName_44 (fun z113 l113 u113 => ?_)
          refine lv_aload_n X.1 X.2.1 d_Se_isName_45 rfl (lv_at hl 2 rfl) ?_
          refine lv_iload_n X.1 X.2.1 d_Se_isName_46 rfl (lv_at hl 3 rfl) ?_
          refine lv_iload X.1 X.2.1 d_Se_isName_47 (lv_at hl 4 rfl) ?_
          refine z_iadd X.1 X.2.1 d_Se_isName_49 ?_
          refine t_ui (t_runV (As := [.int (iI (a3 + z104))]) (rest := [.int (iI z113)]) (n := 1) X Y S k2 hml hl.1 (c_By_at l D E T κ L f H.size a2 n2 k2 (by omega) (a3 + z104) (by omega) (by omega) S.1) (ok_k X Y hA KS KR) rfl kl_Se_By_at ks_By_at kx_By_at ki_By_at ini_By ⟨rfl, rfl⟩ hd_By_at ⟨Nat.le_of_ble_eq_true rfl, Nat.le_of_ble_eq_true rfl⟩ rfl (Nat.le_of_ble_eq_true rfl) d_Se_isName_50 ⟨Nat.le_of_ble_eq_true rfl, Nat.le_of_ble_eq_true rfl⟩) X Y hA (fun z114 H locs Y p114 => ?_)
          obtain ⟨l114, u114⟩ := p114
          refine z_icmp_eq (tgt := 58) X.1 X.2.1 d_Se_isName_53 (by decide) ⟨by omega, by omega⟩ ⟨by omega, by omega⟩ (fun h115 => ?_) (fun h115 => ?_)
          · refine lv_iinc (v := iI (z104 + 1)) (lv' := [(5, .int (iI (z104 + 1))), (0, .ref h), (1, .int (iI a1)), (2, .ref a2), (3, .int (iI a3))]) X.1 X.2.1 d_Se_isName_58 hl (k := 4) rfl ((iI_add _ _).trans (congrArg iI (by omega))) (by decide) rfl (fun ls hl => ?_)
            refine lv_goto (tgt := 18) X.1 X.2.1 d_Se_isName_61 (by decide) ?_
            exact ih106 ((40 - (z104 + 1)).toNat) (by omega) (z104 + 1) _ _ _ rfl (by omega) (by omega) Y S (lv_sub hl [1, 2, 3, 4, 0] rfl)
          · refine lv_iconst (v := iI 0) X.1 X.2.1 d_Se_isName_56 (by decide) ?_
            exact c_retz hQQ X Y hr hlk (iI_bool (by omega) (by omega)).1 ⟨rfl, rfl, 0, rfl, ⟨by omega, by omega⟩⟩ d_Se_isName_57
    refine lv_istore (lv' := [(5, .int (iI 0)), (0, .ref h), (1, .int (iI a1)), (2, .ref a2), (3, .int (iI a3)), (4, .int (iI a4))]) X.1 X.2.1 d_Se_isName_16 hl (by decide) rfl (fun ls hl => ?_)
    exact J105 _ 0 _ _ _ rfl (by omega) (by omega) Y S (lv_sub hl [1, 2, 3, 4, 0] rfl)
  · refine lv_iconst (v := iI 0) X.1 X.2.1 d_Se_isName_13 (by decide) ?_
    exact c_retz hQQ X Y hr hlk (iI_bool (by omega) (by omega)).1 ⟨rfl, rfl, 0, rfl, ⟨by omega, by omega⟩⟩ d_Se_isName_14
set_option maxHeartbeats 4000000 in
set_option maxRecDepth 100000 in
theorem c_Se_has (l : Launch) (D : va_G) (E : cE) (T : cT) (κ : tK) (L : List Nat) (f : pF) (sz : Nat) (h : Nat) (k0 : κ h = (18, 0)) (a1 n1 : Nat) (k1 : κ a1 = (13, n1)) (x1 : n1 ≤ 12288) (a2 : Int) (l_a2 : (-1) ≤ a2) (u_a2 : a2 ≤ 20200) (a3 : Int) (l_a3 : (-1) ≤ a3) (u_a3 : a3 ≤ 20200) (a4 : Int) (l_a4 : (-2147483648) ≤ a4) (u_a4 : a4 ≤ 2147483647) (a5 : Int) (l_a5 : (-2147483648) ≤ a5) (u_a5 : a5 ≤ 2147483647) (hw : tW E T κ L f) : Met l y_Se_has (k_Se_has :: lw_tg) (kRm 3 106 0 0) (va_Pc [.ref h, .ref a1, .int (iI a2), .int (iI a3), .int (iI a4), .int (iI a5)] (kPre D E T L f sz)) (va_Qi (uPi L f (fun (z : Int) => 0 ≤ z ∧ z ≤ 1)) (cPost D E (pA L sz)) (pA L sz)) 0 0 (pA L sz) := by
  refine k_enter (own := R_Se) (by decide) rfl (Nat.le_of_ble_eq_true rfl) (fun p e s m below meth c ls AV QQ H locs hQQ X Y hA hin hr hlk hml hl KS KR => ?_)
  have hl : lv_has ls 7 [(0, .ref h), (1, .ref a1), (2, .int (iI a2)), (3, .int (iI a3)), (4, .int (iI a4)), (5, .int (iI a5))] := hl
  have S : tS E T (tFr κ L [] []) κ L f κ L f := tS_rf hw
  refine lv_iconst (v := iI 0) X.1 X.2.1 d_Se_has_0 (by decide) ?_
  have J102 : ∀ (n104 : Nat) (z101 : Int) (H : Heap) (locs : List Loc) (ls : Array Slot), (32 - z101).toNat = n104 → (0 ≤ z101) → (z101 ≤ 32) → pH D cCl (pA L sz) s.heap L f H locs → tS E T (tFr κ L [] []) κ L f κ L f → lv_has ls 7 [(0, .ref h), (1, .ref a1), (2, .int (iI a2)), (3, .int (iI a3)), (4, .int (iI a4)), (5, .int (iI a5)), (6, .int (iI z101))] → W p l e (kRm 3 106 0 0) s m AV below meth c H locs 0 0 QQ (F0 m 3 ls []) := by
    intro n104
    induction n104 using Nat.strongRecOn with
    | ind n104 ih103 =>
      intro z101 H locs ls hm105 l101 u101 Y S hl
      refine lv_iload X.1 X.2.1 d_Se_has_3 (lv_at hl 6 rfl) ?_
      refine lv_aload_n X.1 X.2.1 d_Se_has_5 rfl (lv_at hl 0 rfl) ?_
      refine t_geti (ci := 8) X Y S k0 rfl i_Se 4 (by decide) rfl lk_Se_25 (fun _ h9 => h9) d_Se_has_6 (fun z106 e106 l106 u106 => ?_)
      refine z_icmp_ge (tgt := 56) X.1 X.2.1 d_Se_has_9 (by decide) ⟨by omega, by omega⟩ ⟨by omega, by omega⟩ (fun h107 => ?_) (fun h107 => ?_)
      · refine lv_iconst (v := iI 0) X.1 X.2.1 d_Se_has_56 (by decide) ?_
        exact c_retz hQQ X Y hr hlk (iI_bool (by omega) (by omega)).1 ⟨rfl, rfl, 0, rfl, ⟨by omega, by omega⟩⟩ d_Se_has_57
      · refine lv_aload_n X.1 X.2.1 d_Se_has_12 rfl (lv_at hl 0 rfl) ?_
        refine t_getr (ci := 8) X Y S k0 rfl i_Se 2 (by decide) rfl (k1 := 2) (k2 := 32) rfl rfl lk_Se_19 (fun _ h9 => h9) d_Se_has_13 (fun b108 e108 k108 => ?_)
        refine lv_iload X.1 X.2.1 d_Se_has_16 (lv_at hl 6 rfl) ?_
        refine t_iald2 X Y S k108 (by omega) (by omega) (by omega) d_Se_has_18 (fun z109 l109 u109 => ?_)
        refine lv_iload X.1 X.2.1 d_Se_has_19 (lv_at hl 4 rfl) ?_
        have J110 : ∀  (H : Heap) (locs : List Loc) (ls : Array Slot), pH D cCl (pA L sz) s.heap L f H locs → tS E T (tFr κ L [] []) κ L f κ L f → lv_has ls 7 [(0, .ref h), (1, .ref a1), (2, .int (iI a2)), (3, .int (iI a3)), (4, .int (iI a4)), (5, .int (iI a5)), (6, .int (iI z101))] → W p l e (kRm 3 106 0 0) s m AV below meth c H locs 0 0 QQ (F0 m 50 ls []) := by
          intro  H locs ls  Y S hl
          refine lv_iinc (v := iI (z101 + 1)) (lv' := [(6, .int (iI (z101 + 1))), (0, .ref h), (1, .ref a1), (2, .int (iI a2)), (3, .int (iI a3)), (4, .int (iI a4)), (5, .int (iI a5))]) X.1 X.2.1 d_Se_has_50 hl (k := 6) rfl ((iI_add _ _).trans (congrArg iI (by omega))) (by decide) rfl (fun ls hl => ?_)
          refine lv_goto (tgt := 3) X.1 X.2.1 d_Se_has_53 (by decide) ?_
          exact ih103 ((32 - (z101 + 1)).toNat) (by omega) (z101 + 1) _ _ _ rfl (by omega) (by omega) Y S (lv_sub hl [1, 2, 3, 4, 5, 6, 0] rfl)
        refine z_icmp_ne (tgt := 50) X.1 X.2.1 d_Se_has_21 (by decide) ⟨by omega, by omega⟩ ⟨by omega, by omega⟩ (fun h114 => ?_) (fun h114 => ?_)
        · exact J110  _ _ _  Y S (lv_sub hl [0, 1, 2, 3, 4, 5, 6] rfl)
        · refine lv_aload_n X.1 X.2.1 d_Se_has_24 rfl (lv_at hl 0 rfl) ?_
          refine t_getr (ci := 8) X Y S k0 rfl i_Se 3 (by decide) rfl (k1 := 2) (k2 := 32) rfl rfl lk_Se_22 (fun _ h9 => h9) d_Se_has_25 (fun b115 e115 k115 => ?_)
          refine lv_iload X.1 X.2.1 d_Se_has_28 (lv_at hl 6 rfl) ?_
          refine t_iald2 X Y S k115 (by omega) (by omega) (by omega) d_Se_has_30 (fun z116 l116 u116 => ?_)
          refine lv_iload X.1 X.2.1 d_Se_has_31 (lv_at hl 5 rfl) ?_
          refine z_icmp_ne (tgt := 50) X.1 X.2.1 d_Se_has_33 (by decide) ⟨by omega, by omega⟩ ⟨by omega, by omega⟩ (fun h117 => ?_) (fun h117 => ?_)
          · exact J110  _ _ _  Y S (lv_sub hl [0, 1, 2, 3, 4, 5, 6] rfl)
          · refine lv_aload_n X.1 X.2.1 d_Se_has_36 rfl (lv_at hl 0 rfl) ?_
            refine lv_iload X.1 X.2.1 d_Se_has_37 (lv_at hl 6 rfl) ?_
            refine lv_aload_n X.1 X.2.1 d_Se_has_39 rfl (lv_at hl 1 rfl) ?_
            refine lv_iload_n X.1 X.2.1 d_Se_has_40 rfl (lv_at hl 2 rfl) ?_
            refine lv_iload_n X.1 X.2.1 d_Se_has_41 rfl (lv_at hl 3 rfl) ?_
            refine t_ui (t_runV (As := [.int (iI z101), .ref a1, .int (iI a2), .int (iI a3)]) (rest := []) (n := 4) X Y S k0 hml hl.1 (c_Se_isName l D E T κ L f H.size h k0 z101 (by omega) (by omega) a1 n1 k1 (by omega) a2 (by omega) (by omega) a3 (by omega) (by omega) S.1) (ok_k X Y hA KS KR) rfl kl_Se_Se_isName ks_Se_isName kx_Se_isName ki_Se_isName ini_Se ⟨rfl, rfl⟩ hd_Se_isName ⟨Nat.le_of_ble_eq_true rfl, Nat.le_of_ble_eq_true rfl⟩ rfl (Nat.le_of_ble_eq_true rfl) d_Se_has_42 ⟨Nat.le_of_ble_eq_true rfl, Nat.le_of_ble_eq_true rfl⟩) X Y hA (fun z118 H locs Y p118 => ?_)
            obtain ⟨l118, u118⟩ := p118
            refine z_if_eq (tgt := 50) X.1 X.2.1 d_Se_has_45 (by decide) ⟨by omega, by omega⟩ (fun h119 => ?_) (fun h119 => ?_)
            · exact J110  _ _ _  Y S (lv_sub hl [0, 1, 2, 3, 4, 5, 6] rfl)
            · refine lv_iconst (v := iI 1) X.1 X.2.1 d_Se_has_48 (by decide) ?_
              exact c_retz hQQ X Y hr hlk (iI_bool (by omega) (by omega)).1 ⟨rfl, rfl, 1, rfl, ⟨by omega, by omega⟩⟩ d_Se_has_49
  refine lv_istore (lv' := [(6, .int (iI 0)), (0, .ref h), (1, .ref a1), (2, .int (iI a2)), (3, .int (iI a3)), (4, .int (iI a4)), (5, .int (iI a5))]) X.1 X.2.1 d_Se_has_1 hl (by decide) rfl (fun ls hl => ?_)
  exact J102 _ 0 _ _ _ rfl (by omega) (by omega) Y S (lv_sub hl [1, 2, 3, 4, 5, 6, 0] rfl)
set_option maxHeartbeats 4000000 in
set_option maxRecDepth 100000 in
theorem c_Se_keep (l : Launch) (D : va_G) (E : cE) (T : cT) (κ : tK) (L : List Nat) (f : pF) (sz : Nat) (h : Nat) (k0 : κ h = (18, 0)) (a1 n1 : Nat) (k1 : κ a1 = (13, n1)) (x1 : n1 ≤ 12288) (a2 : Int) (l_a2 : (-1) ≤ a2) (u_a2 : a2 ≤ 20200) (a3 : Int) (l_a3 : (-1) ≤ a3) (u_a3 : a3 ≤ 20200) (a4 : Int) (l_a4 : (-2147483648) ≤ a4) (u_a4 : a4 ≤ 2147483647) (a5 : Int) (l_a5 : (-2147483648) ≤ a5) (u_a5 : a5 ≤ 2147483647) (a6 : Int) (l_a6 : (-2147483648) ≤ a6) (u_a6 : a6 ≤ 2147483647) (hw : tW E T κ L f) : Met l y_Se_keep (k_Se_keep :: lw_tg) (kRm 2 81 0 0) (va_Pc [.ref h, .ref a1, .int (iI a2), .int (iI a3), .int (iI a4), .int (iI a5), .int (iI a6)] (kPre D E T L f sz)) (va_Qi (nPi E T [1, 2, 3, 4, 18] κ L f (fun (z : Int) (g : pF) => 0 ≤ z ∧ z ≤ 1)) (cPost D E (pA L sz)) (pA L sz)) 0 0 (pA L sz) := by
  refine k_enter (own := R_Se) (by decide) rfl (Nat.le_of_ble_eq_true rfl) (fun p e s m below meth c ls AV QQ H locs hQQ X Y hA hin hr hlk hml hl KS KR => ?_)
  have hl : lv_has ls 8 [(0, .ref h), (1, .ref a1), (2, .int (iI a2)), (3, .int (iI a3)), (4, .int (iI a4)), (5, .int (iI a5)), (6, .int (iI a6))] := hl
  have S : tS E T (tFr κ L [1, 2, 3, 4, 18] []) κ L f κ L f := tS_rf hw
  refine lv_aload_n X.1 X.2.1 d_Se_keep_0 rfl (lv_at hl 0 rfl) ?_
  refine t_geti (ci := 8) X Y S k0 rfl i_Se 4 (by decide) rfl lk_Se_25 (fun _ h9 => h9) d_Se_keep_1 (fun z101 e101 l101 u101 => ?_)
  refine lv_iload X.1 X.2.1 d_Se_keep_4 (lv_at hl 6 rfl) ?_
  refine z_icmp_ge (tgt := 26) X.1 X.2.1 d_Se_keep_6 (by decide) ⟨by omega, by omega⟩ ⟨by omega, by omega⟩ (fun h102 => ?_) (fun h102 => ?_)
  · refine lv_iconst (v := iI 0) X.1 X.2.1 d_Se_keep_26 (by decide) ?_
    exact c_retz hQQ X Y hr hlk (iI_bool (by omega) (by omega)).1 ⟨rfl, S, 0, rfl, ⟨by omega, by omega⟩⟩ d_Se_keep_27
  · refine lv_aload_n X.1 X.2.1 d_Se_keep_9 rfl (lv_at hl 0 rfl) ?_
    refine t_get0 (ci := 8) X Y S k0 rfl i_Se 4 (by decide) rfl lk_Se_25 (fun _ h9 => h9) d_Se_keep_10 e101 ?_
    refine lv_bipush (v := iI 32) X.1 X.2.1 d_Se_keep_13 (by decide) ?_
    refine z_icmp_ge (tgt := 26) X.1 X.2.1 d_Se_keep_15 (by decide) ⟨by omega, by omega⟩ ⟨by omega, by omega⟩ (fun h103 => ?_) (fun h103 => ?_)
    · refine lv_iconst (v := iI 0) X.1 X.2.1 d_Se_keep_26 (by decide) ?_
      exact c_retz hQQ X Y hr hlk (iI_bool (by omega) (by omega)).1 ⟨rfl, S, 0, rfl, ⟨by omega, by omega⟩⟩ d_Se_keep_27
    · refine lv_iload_n X.1 X.2.1 d_Se_keep_18 rfl (lv_at hl 3 rfl) ?_
      refine lv_iload_n X.1 X.2.1 d_Se_keep_19 rfl (lv_at hl 2 rfl) ?_
      refine z_isub X.1 X.2.1 d_Se_keep_20 ?_
      refine lv_bipush (v := iI 40) X.1 X.2.1 d_Se_keep_21 (by decide) ?_
      refine z_icmp_le (tgt := 28) X.1 X.2.1 d_Se_keep_23 (by decide) ⟨by omega, by omega⟩ ⟨by omega, by omega⟩ (fun h104 => ?_) (fun h104 => ?_)
      · refine lv_iconst (v := iI 0) X.1 X.2.1 d_Se_keep_28 (by decide) ?_
        have J108 : ∀ (n110 : Nat) (z106 : Int) (z107 : Int) (f105 : pF) (H : Heap) (locs : List Loc) (ls : Array Slot), (20201 - z106).toNat = n110 → (0 ≤ z106) → (z106 ≤ 20201) → (gF f105 h 4 = .int (iI z107)) → (0 ≤ z107) → (z107 ≤ 31) → pH D cCl (pA L sz) s.heap L f105 H locs → tS E T (tFr κ L [1, 2, 3, 4, 18] []) κ L f κ L f105 → lv_has ls 8 [(0, .ref h), (1, .ref a1), (2, .int (iI a2)), (3, .int (iI a3)), (4, .int (iI a4)), (5, .int (iI a5)), (7, .int (iI z106))] → W p l e (kRm 2 81 0 0) s m AV below meth c H locs 0 0 QQ (F0 m 31 ls []) := by
          intro n110
          induction n110 using Nat.strongRecOn with
          | ind n110 ih109 =>
            intro z106 z107 f105 H locs ls hm111 l106 u106 e107 l107 u107 Y S hl
            refine lv_iload X.1 X.2.1 d_Se_keep_31 (lv_at hl 6 rfl) ?_
            refine lv_iload_n X.1 X.2.1 d_Se_keep_33 rfl (lv_at hl 3 rfl) ?_
            refine lv_iload_n X.1 X.2.1 d_Se_keep_34 rfl (lv_at hl 2 rfl) ?_
            refine z_isub X.1 X.2.1 d_Se_keep_35 ?_
            refine z_icmp_ge (tgt := 69) X.1 X.2.1 d_Se_keep_36 (by decide) ⟨by omega, by omega⟩ ⟨by omega, by omega⟩ (fun h112 => ?_) (fun h112 => ?_)
            · refine lv_aload_n X.1 X.2.1 d_Se_keep_69 rfl (lv_at hl 0 rfl) ?_
              refine t_getr (ci := 8) X Y S k0 rfl i_Se 1 (by decide) rfl (k1 := 4) (k2 := 32) rfl rfl lk_Se_15 (fun _ h9 => h9) d_Se_keep_70 (fun b113 e113 k113 => ?_)
              refine lv_aload_n X.1 X.2.1 d_Se_keep_73 rfl (lv_at hl 0 rfl) ?_
              refine t_get0 (ci := 8) X Y S k0 rfl i_Se 4 (by decide) rfl lk_Se_25 (fun _ h9 => h9) d_Se_keep_74 e107 ?_
              refine lv_iload_n X.1 X.2.1 d_Se_keep_77 rfl (lv_at hl 3 rfl) ?_
              refine lv_iload_n X.1 X.2.1 d_Se_keep_78 rfl (lv_at hl 2 rfl) ?_
              refine z_isub X.1 X.2.1 d_Se_keep_79 ?_
              refine t_iast4 X Y S k113 (by omega) (by omega) (by omega) ⟨by omega, by omega⟩ (nF_of S k113 (by decide)) d_Se_keep_80 (fun f114 H locs Y S w114 => ?_)
              refine lv_aload_n X.1 X.2.1 d_Se_keep_81 rfl (lv_at hl 0 rfl) ?_
              refine t_getr (ci := 8) X Y S k0 rfl i_Se 2 (by decide) rfl (k1 := 2) (k2 := 32) rfl rfl lk_Se_19 (fun _ h9 => h9) d_Se_keep_82 (fun b115 e115 k115 => ?_)
              refine lv_aload_n X.1 X.2.1 d_Se_keep_85 rfl (lv_at hl 0 rfl) ?_
              refine t_get0 (ci := 8) X Y S k0 rfl i_Se 4 (by decide) rfl lk_Se_25 (fun _ h9 => h9) d_Se_keep_86 ((gF_same (w114 _ (k_ne k0 k113 (by decide))) 4).trans e107) ?_
              refine lv_iload X.1 X.2.1 d_Se_keep_89 (lv_at hl 4 rfl) ?_
              refine t_iast2 X Y S k115 (by omega) (by omega) (by omega) (nF_of S k115 (by decide)) d_Se_keep_91 (fun f116 H locs Y S w116 => ?_)
              refine lv_aload_n X.1 X.2.1 d_Se_keep_92 rfl (lv_at hl 0 rfl) ?_
              refine t_getr (ci := 8) X Y S k0 rfl i_Se 3 (by decide) rfl (k1 := 2) (k2 := 32) rfl rfl lk_Se_22 (fun _ h9 => h9) d_Se_keep_93 (fun b117 e117 k117 => ?_)
              refine lv_aload_n X.1 X.2.1 d_Se_keep_96 rfl (lv_at hl 0 rfl) ?_
              refine t_get0 (ci := 8) X Y S k0 rfl i_Se 4 (by decide) rfl lk_Se_25 (fun _ h9 => h9) d_Se_keep_97 ((gF_same (w116 _ (k_ne k0 k115 (by decide))) 4).trans ((gF_same (w114 _ (k_ne k0 k113 (by decide))) 4).trans e107)) ?_
              refine lv_iload X.1 X.2.1 d_Se_keep_100 (lv_at hl 5 rfl) ?_
              refine t_iast2 X Y S k117 (by omega) (by omega) (by omega) (nF_of S k117 (by decide)) d_Se_keep_102 (fun f118 H locs Y S w118 => ?_)
              refine lv_aload_n X.1 X.2.1 d_Se_keep_103 rfl (lv_at hl 0 rfl) ?_
              refine lv_dup X.1 X.2.1 d_Se_keep_104 rfl ?_
              refine t_get0 (ci := 8) X Y S k0 rfl i_Se 4 (by decide) rfl lk_Se_25 (fun _ h9 => h9) d_Se_keep_105 ((gF_same (w118 _ (k_ne k0 k117 (by decide))) 4).trans ((gF_same (w116 _ (k_ne k0 k115 (by decide))) 4).trans ((gF_same (w114 _ (k_ne k0 k113 (by decide))) 4).trans e107))) ?_
              refine lv_iconst (v := iI 1) X.1 X.2.1 d_Se_keep_108 (by decide) ?_
              refine z_iadd X.1 X.2.1 d_Se_keep_109 ?_
              refine t_put (ci := 8) X Y S k0 rfl i_Se t_Se t_Se_ok n_Se 4 (by decide) rfl lk_Se_25 (fun _ h9 => h9) rfl (t_Se_ok 4 (by decide)) rfl rfl ⟨_, rfl, (show (0 : Int) ≤ z107 + 1 by omega), (show z107 + 1 ≤ (32 : Int) by omega)⟩ (nF_of S k0 (by decide)) d_Se_keep_110 (fun f119 H locs Y S w119 => ?_)
              refine lv_iconst (v := iI 1) X.1 X.2.1 d_Se_keep_113 (by decide) ?_
              exact c_retz hQQ X Y hr hlk (iI_bool (by omega) (by omega)).1 ⟨rfl, S, 1, rfl, ⟨by omega, by omega⟩⟩ d_Se_keep_114
            · refine lv_aload_n X.1 X.2.1 d_Se_keep_39 rfl (lv_at hl 0 rfl) ?_
              refine t_getr (ci := 8) X Y S k0 rfl i_Se 0 (by decide) rfl (k1 := 1) (k2 := 1280) rfl rfl lk_Se_9 (fun _ h9 => h9) d_Se_keep_40 (fun b120 e120 k120 => ?_)
              refine lv_aload_n X.1 X.2.1 d_Se_keep_43 rfl (lv_at hl 0 rfl) ?_
              refine t_get0 (ci := 8) X Y S k0 rfl i_Se 4 (by decide) rfl lk_Se_25 (fun _ h9 => h9) d_Se_keep_44 e107 ?_
              refine lv_bipush (v := iI 40) X.1 X.2.1 d_Se_keep_47 (by decide) ?_
              refine z_imul X.1 X.2.1 d_Se_keep_49 ?_
              refine lv_iload X.1 X.2.1 d_Se_keep_50 (lv_at hl 6 rfl) ?_
              refine z_iadd X.1 X.2.1 d_Se_keep_52 ?_
              refine lv_aload_n X.1 X.2.1 d_Se_keep_53 rfl (lv_at hl 1 rfl) ?_
              refine lv_iload_n X.1 X.2.1 d_Se_keep_54 rfl (lv_at hl 2 rfl) ?_
              refine lv_iload X.1 X.2.1 d_Se_keep_55 (lv_at hl 6 rfl) ?_
              refine z_iadd X.1 X.2.1 d_Se_keep_57 ?_
              refine t_ui (t_runV (As := [.int (iI (a2 + z106))]) (rest := [.int (iI ((z107 * 40) + z106)), .ref b120]) (n := 1) X Y S k1 hml hl.1 (c_By_at l D E T κ L f105 H.size a1 n1 k1 (by omega) (a2 + z106) (by omega) (by omega) S.1) (ok_k X Y hA KS KR) rfl kl_Se_By_at ks_By_at kx_By_at ki_By_at ini_By ⟨rfl, rfl⟩ hd_By_at ⟨Nat.le_of_ble_eq_true rfl, Nat.le_of_ble_eq_true rfl⟩ rfl (Nat.le_of_ble_eq_true rfl) d_Se_keep_58 ⟨Nat.le_of_ble_eq_true rfl, Nat.le_of_ble_eq_true rfl⟩) X Y hA (fun z121 H locs Y p121 => ?_)
              obtain ⟨l121, u121⟩ := p121
              refine lv_i2b X.1 X.2.1 d_Se_keep_61 rfl ?_
              refine t_u (fun z122 l122 u122 => ?_)
              refine t_bast X Y S k120 (by omega) (by omega) (by omega) (nF_of S k120 (by decide)) d_Se_keep_62 (fun f123 H locs Y S w123 => ?_)
              refine lv_iinc (v := iI (z106 + 1)) (lv' := [(7, .int (iI (z106 + 1))), (0, .ref h), (1, .ref a1), (2, .int (iI a2)), (3, .int (iI a3)), (4, .int (iI a4)), (5, .int (iI a5))]) X.1 X.2.1 d_Se_keep_63 hl (k := 6) rfl ((iI_add _ _).trans (congrArg iI (by omega))) (by decide) rfl (fun ls hl => ?_)
              refine lv_goto (tgt := 31) X.1 X.2.1 d_Se_keep_66 (by decide) ?_
              exact ih109 ((20201 - (z106 + 1)).toNat) (by omega) (z106 + 1) z107 f123 _ _ _ rfl (by omega) (by omega) ((gF_same (w123 _ (k_ne k0 k120 (by decide))) 4).trans e107) (by omega) (by omega) Y S (lv_sub hl [1, 2, 3, 4, 5, 6, 0] rfl)
        refine lv_istore (lv' := [(7, .int (iI 0)), (0, .ref h), (1, .ref a1), (2, .int (iI a2)), (3, .int (iI a3)), (4, .int (iI a4)), (5, .int (iI a5)), (6, .int (iI a6))]) X.1 X.2.1 d_Se_keep_29 hl (by decide) rfl (fun ls hl => ?_)
        exact J108 _ 0 z101 f _ _ _ rfl (by omega) (by omega) e101 (by omega) (by omega) Y S (lv_sub hl [1, 2, 3, 4, 5, 6, 0] rfl)
      · refine lv_iconst (v := iI 0) X.1 X.2.1 d_Se_keep_26 (by decide) ?_
        exact c_retz hQQ X Y hr hlk (iI_bool (by omega) (by omega)).1 ⟨rfl, S, 0, rfl, ⟨by omega, by omega⟩⟩ d_Se_keep_27
set_option maxHeartbeats 4000000 in
set_option maxRecDepth 100000 in
theorem c_Pr_findParts (l : Launch) (D : va_G) (E : cE) (T : cT) (κ : tK) (L : List Nat) (f : pF) (sz : Nat) (a1 : Nat) (k1 : κ a1 = (5, 12)) (a2 n2 : Nat) (k2 : κ a2 = (13, n2)) (x2 : n2 ≤ 12288) (hw : tW E T κ L f) : Met l y_Pr_findParts (k_Pr_findParts :: lw_tg) (kRm 2 86 0 0) (va_Pc [.ref a1, .ref a2] (kPre D E T L f sz)) (va_Qi (uPi L f (fun (z : Int) => (-1) ≤ z ∧ z ≤ 11)) (cPost D E (pA L sz)) (pA L sz)) 0 0 (pA L sz) := by
  refine k_enter (own := R_Pr) (by decide) rfl (Nat.le_of_ble_eq_true rfl) (fun p e s m below meth c ls AV QQ H locs hQQ X Y hA hin hr hlk hml hl KS KR => ?_)
  have hl : lv_has ls 3 [(0, .ref a1), (1, .ref a2)] := hl
  have S : tS E T (tFr κ L [] []) κ L f κ L f := tS_rf hw
  refine lv_iconst (v := iI 0) X.1 X.2.1 d_Pr_findParts_0 (by decide) ?_
  have J102 : ∀ (n104 : Nat) (z101 : Int) (H : Heap) (locs : List Loc) (ls : Array Slot), (12 - z101).toNat = n104 → (0 ≤ z101) → (z101 ≤ 12) → pH D cCl (pA L sz) s.heap L f H locs → tS E T (tFr κ L [] []) κ L f κ L f → lv_has ls 3 [(0, .ref a1), (1, .ref a2), (2, .int (iI z101))] → W p l e (kRm 2 86 0 0) s m AV below meth c H locs 0 0 QQ (F0 m 2 ls []) := by
    intro n104
    induction n104 using Nat.strongRecOn with
    | ind n104 ih103 =>
      intro z101 H locs ls hm105 l101 u101 Y S hl
      refine lv_iload_n X.1 X.2.1 d_Pr_findParts_2 rfl (lv_at hl 2 rfl) ?_
      refine lv_aload_n X.1 X.2.1 d_Pr_findParts_3 rfl (lv_at hl 0 rfl) ?_
      refine t_rlen X Y S k1 (fun h9 => h9) (t0 := 2) rfl (by omega) d_Pr_findParts_4 ?_
      refine z_icmp_ge (tgt := 53) X.1 X.2.1 d_Pr_findParts_5 (by decide) ⟨by omega, by omega⟩ ⟨by omega, by omega⟩ (fun h106 => ?_) (fun h106 => ?_)
      · refine lv_iconst (v := iI (-1)) X.1 X.2.1 d_Pr_findParts_53 (by decide) ?_
        exact c_reti hQQ X Y hr hlk ⟨rfl, rfl, (-1), rfl, ⟨by omega, by omega⟩⟩ d_Pr_findParts_54
      · refine lv_aload_n X.1 X.2.1 d_Pr_findParts_8 rfl (lv_at hl 0 rfl) ?_
        refine lv_iload_n X.1 X.2.1 d_Pr_findParts_9 rfl (lv_at hl 2 rfl) ?_
        refine t_aald X Y S k1 (fun h9 => h9) (t0 := 2) rfl (by omega) (by omega) (by omega) d_Pr_findParts_10 (fun b107 e107 k107 => ?_)
        refine t_geti (ci := 7) X Y S k107 rfl i_Pr 2 (by decide) rfl lk_Pr_55 (fun _ h9 => h9) d_Pr_findParts_11 (fun z108 e108 l108 u108 => ?_)
        have J109 : ∀  (H : Heap) (locs : List Loc) (ls : Array Slot), pH D cCl (pA L sz) s.heap L f H locs → tS E T (tFr κ L [] []) κ L f κ L f → lv_has ls 3 [(0, .ref a1), (1, .ref a2), (2, .int (iI z101))] → W p l e (kRm 2 86 0 0) s m AV below meth c H locs 0 0 QQ (F0 m 47 ls []) := by
          intro  H locs ls  Y S hl
          refine lv_iinc (v := iI (z101 + 1)) (lv' := [(2, .int (iI (z101 + 1))), (0, .ref a1), (1, .ref a2)]) X.1 X.2.1 d_Pr_findParts_47 hl (k := 2) rfl ((iI_add _ _).trans (congrArg iI (by omega))) (by decide) rfl (fun ls hl => ?_)
          refine lv_goto (tgt := 2) X.1 X.2.1 d_Pr_findParts_50 (by decide) ?_
          exact ih103 ((12 - (z101 + 1)).toNat) (by omega) (z101 + 1) _ _ _ rfl (by omega) (by omega) Y S (lv_sub hl [1, 2, 0] rfl)
        refine z_if_eq (tgt := 47) X.1 X.2.1 d_Pr_findParts_14 (by decide) ⟨by omega, by omega⟩ (fun h113 => ?_) (fun h113 => ?_)
        · exact J109  _ _ _  Y S (lv_sub hl [0, 1, 2] rfl)
        · refine lv_aload_n X.1 X.2.1 d_Pr_findParts_17 rfl (lv_at hl 1 rfl) ?_
          refine lv_iconst (v := iI 0) X.1 X.2.1 d_Pr_findParts_18 (by decide) ?_
          refine lv_aload_n X.1 X.2.1 d_Pr_findParts_19 rfl (lv_at hl 1 rfl) ?_
          refine t_gets (ci := 3) X Y S k2 rfl i_By 1 (by decide) rfl lk_Pr_59 (fun _ h9 => h9) d_Pr_findParts_20 (fun z114 e114 l114 u114 => ?_)
          refine lv_aload_n X.1 X.2.1 d_Pr_findParts_23 rfl (lv_at hl 0 rfl) ?_
          refine lv_iload_n X.1 X.2.1 d_Pr_findParts_24 rfl (lv_at hl 2 rfl) ?_
          refine t_aald0 X Y S k1 (fun h9 => h9) (t0 := 2) rfl (by omega) (by omega) (by omega) d_Pr_findParts_25 e107 ?_
          refine t_getr (ci := 7) X Y S k107 rfl i_Pr 0 (by decide) rfl (k1 := 13) (k2 := 40) rfl rfl lk_Pr_14 (fun _ h9 => h9) d_Pr_findParts_26 (fun b115 e115 k115 => ?_)
          refine lv_iconst (v := iI 0) X.1 X.2.1 d_Pr_findParts_29 (by decide) ?_
          refine lv_aload_n X.1 X.2.1 d_Pr_findParts_30 rfl (lv_at hl 0 rfl) ?_
          refine lv_iload_n X.1 X.2.1 d_Pr_findParts_31 rfl (lv_at hl 2 rfl) ?_
          refine t_aald0 X Y S k1 (fun h9 => h9) (t0 := 2) rfl (by omega) (by omega) (by omega) d_Pr_findParts_32 e107 ?_
          refine t_get0 (ci := 7) X Y S k107 rfl i_Pr 0 (by decide) rfl lk_Pr_14 (fun _ h9 => h9) d_Pr_findParts_33 e115 ?_
          refine t_gets (ci := 3) X Y S k115 rfl i_By 1 (by decide) rfl lk_Pr_59 (fun _ h9 => h9) d_Pr_findParts_36 (fun z116 e116 l116 u116 => ?_)
          refine t_ui (t_runV (As := [.int (iI 0), .int (iI z114), .ref b115, .int (iI 0), .int (iI z116)]) (rest := []) (n := 5) X Y S k2 hml hl.1 (c_By_sameAs l D E T κ L f H.size a2 n2 k2 (by omega) 0 (by omega) (by omega) z114 (by omega) (by omega) b115 40 k115 (by omega) 0 (by omega) (by omega) z116 (by omega) (by omega) S.1) (ok_k X Y hA KS KR) rfl kl_Pr_By_sameAs ks_By_sameAs kx_By_sameAs ki_By_sameAs ini_By ⟨rfl, rfl⟩ hd_By_sameAs ⟨Nat.le_of_ble_eq_true rfl, Nat.le_of_ble_eq_true rfl⟩ rfl (Nat.le_of_ble_eq_true rfl) d_Pr_findParts_39 ⟨Nat.le_of_ble_eq_true rfl, Nat.le_of_ble_eq_true rfl⟩) X Y hA (fun z117 H locs Y p117 => ?_)
          obtain ⟨l117, u117⟩ := p117
          refine z_if_eq (tgt := 47) X.1 X.2.1 d_Pr_findParts_42 (by decide) ⟨by omega, by omega⟩ (fun h118 => ?_) (fun h118 => ?_)
          · exact J109  _ _ _  Y S (lv_sub hl [0, 1, 2] rfl)
          · refine lv_iload_n X.1 X.2.1 d_Pr_findParts_45 rfl (lv_at hl 2 rfl) ?_
            exact c_reti hQQ X Y hr hlk ⟨rfl, rfl, z101, rfl, ⟨by omega, by omega⟩⟩ d_Pr_findParts_46
  refine lv_istore_n (lv' := [(2, .int (iI 0)), (0, .ref a1), (1, .ref a2)]) X.1 X.2.1 d_Pr_findParts_1 rfl hl (by decide) rfl (fun ls hl => ?_)
  exact J102 _ 0 _ _ _ rfl (by omega) (by omega) Y S (lv_sub hl [1, 2, 0] rfl)
set_option maxHeartbeats 4000000 in
set_option maxRecDepth 100000 in
theorem c_Pr_findNamed (l : Launch) (D : va_G) (E : cE) (T : cT) (κ : tK) (L : List Nat) (f : pF) (sz : Nat) (a1 : Nat) (k1 : κ a1 = (5, 12)) (a2 n2 : Nat) (k2 : κ a2 = (13, n2)) (x2 : n2 ≤ 12288) (a3 : Int) (l_a3 : (-1) ≤ a3) (u_a3 : a3 ≤ 20200) (hw : tW E T κ L f) : Met l y_Pr_findNamed (k_Pr_findNamed :: lw_tg) (kRm 4 135 0 0) (va_Pc [.ref a1, .ref a2, .int (iI a3)] (kPre D E T L f sz)) (va_Qi (uPi L f (fun (z : Int) => (-1) ≤ z ∧ z ≤ 11)) (cPost D E (pA L sz)) (pA L sz)) 0 0 (pA L sz) := by
  refine k_enter (own := R_Pr) (by decide) rfl (Nat.le_of_ble_eq_true rfl) (fun p e s m below meth c ls AV QQ H locs hQQ X Y hA hin hr hlk hml hl KS KR => ?_)
  have hl : lv_has ls 4 [(0, .ref a1), (1, .ref a2), (2, .int (iI a3))] := hl
  have S : tS E T (tFr κ L [] []) κ L f κ L f := tS_rf hw
  refine lv_iconst (v := iI 0) X.1 X.2.1 d_Pr_findNamed_0 (by decide) ?_
  have J102 : ∀ (n104 : Nat) (z101 : Int) (H : Heap) (locs : List Loc) (ls : Array Slot), (12 - z101).toNat = n104 → (0 ≤ z101) → (z101 ≤ 12) → pH D cCl (pA L sz) s.heap L f H locs → tS E T (tFr κ L [] []) κ L f κ L f → lv_has ls 4 [(0, .ref a1), (1, .ref a2), (2, .int (iI a3)), (3, .int (iI z101))] → W p l e (kRm 4 135 0 0) s m AV below meth c H locs 0 0 QQ (F0 m 2 ls []) := by
    intro n104
    induction n104 using Nat.strongRecOn with
    | ind n104 ih103 =>
      intro z101 H locs ls hm105 l101 u101 Y S hl
      refine lv_iload_n X.1 X.2.1 d_Pr_findNamed_2 rfl (lv_at hl 3 rfl) ?_
      refine lv_aload_n X.1 X.2.1 d_Pr_findNamed_3 rfl (lv_at hl 0 rfl) ?_
      refine t_rlen X Y S k1 (fun h9 => h9) (t0 := 2) rfl (by omega) d_Pr_findNamed_4 ?_
      refine z_icmp_ge (tgt := 39) X.1 X.2.1 d_Pr_findNamed_5 (by decide) ⟨by omega, by omega⟩ ⟨by omega, by omega⟩ (fun h106 => ?_) (fun h106 => ?_)
      · refine lv_iconst (v := iI (-1)) X.1 X.2.1 d_Pr_findNamed_39 (by decide) ?_
        exact c_reti hQQ X Y hr hlk ⟨rfl, rfl, (-1), rfl, ⟨by omega, by omega⟩⟩ d_Pr_findNamed_40
      · refine lv_aload_n X.1 X.2.1 d_Pr_findNamed_8 rfl (lv_at hl 0 rfl) ?_
        refine lv_iload_n X.1 X.2.1 d_Pr_findNamed_9 rfl (lv_at hl 3 rfl) ?_
        refine t_aald X Y S k1 (fun h9 => h9) (t0 := 2) rfl (by omega) (by omega) (by omega) d_Pr_findNamed_10 (fun b107 e107 k107 => ?_)
        refine t_geti (ci := 7) X Y S k107 rfl i_Pr 2 (by decide) rfl lk_Pr_55 (fun _ h9 => h9) d_Pr_findNamed_11 (fun z108 e108 l108 u108 => ?_)
        have J109 : ∀  (H : Heap) (locs : List Loc) (ls : Array Slot), pH D cCl (pA L sz) s.heap L f H locs → tS E T (tFr κ L [] []) κ L f κ L f → lv_has ls 4 [(0, .ref a1), (1, .ref a2), (2, .int (iI a3)), (3, .int (iI z101))] → W p l e (kRm 4 135 0 0) s m AV below meth c H locs 0 0 QQ (F0 m 33 ls []) := by
          intro  H locs ls  Y S hl
          refine lv_iinc (v := iI (z101 + 1)) (lv' := [(3, .int (iI (z101 + 1))), (0, .ref a1), (1, .ref a2), (2, .int (iI a3))]) X.1 X.2.1 d_Pr_findNamed_33 hl (k := 3) rfl ((iI_add _ _).trans (congrArg iI (by omega))) (by decide) rfl (fun ls hl => ?_)
          refine lv_goto (tgt := 2) X.1 X.2.1 d_Pr_findNamed_36 (by decide) ?_
          exact ih103 ((12 - (z101 + 1)).toNat) (by omega) (z101 + 1) _ _ _ rfl (by omega) (by omega) Y S (lv_sub hl [1, 2, 3, 0] rfl)
        refine z_if_eq (tgt := 33) X.1 X.2.1 d_Pr_findNamed_14 (by decide) ⟨by omega, by omega⟩ (fun h113 => ?_) (fun h113 => ?_)
        · exact J109  _ _ _  Y S (lv_sub hl [0, 1, 2, 3] rfl)
        · refine lv_aload_n X.1 X.2.1 d_Pr_findNamed_17 rfl (lv_at hl 1 rfl) ?_
          refine lv_iload_n X.1 X.2.1 d_Pr_findNamed_18 rfl (lv_at hl 2 rfl) ?_
          refine lv_aload_n X.1 X.2.1 d_Pr_findNamed_19 rfl (lv_at hl 0 rfl) ?_
          refine lv_iload_n X.1 X.2.1 d_Pr_findNamed_20 rfl (lv_at hl 3 rfl) ?_
          refine t_aald0 X Y S k1 (fun h9 => h9) (t0 := 2) rfl (by omega) (by omega) (by omega) d_Pr_findNamed_21 e107 ?_
          refine t_getr (ci := 7) X Y S k107 rfl i_Pr 0 (by decide) rfl (k1 := 13) (k2 := 40) rfl rfl lk_Pr_14 (fun _ h9 => h9) d_Pr_findNamed_22 (fun b114 e114 k114 => ?_)
          refine t_ui (t_runV (As := [.int (iI a3), .ref b114]) (rest := []) (n := 2) X Y S k2 hml hl.1 (c_By_isNamed l D E T κ L f H.size a2 n2 k2 (by omega) a3 (by omega) (by omega) b114 40 k114 (by omega) S.1) (ok_k X Y hA KS KR) rfl kl_Pr_By_isNamed ks_By_isNamed kx_By_isNamed ki_By_isNamed ini_By ⟨rfl, rfl⟩ hd_By_isNamed ⟨Nat.le_of_ble_eq_true rfl, Nat.le_of_ble_eq_true rfl⟩ rfl (Nat.le_of_ble_eq_true rfl) d_Pr_findNamed_25 ⟨Nat.le_of_ble_eq_true rfl, Nat.le_of_ble_eq_true rfl⟩) X Y hA (fun z115 H locs Y p115 => ?_)
          obtain ⟨l115, u115⟩ := p115
          refine z_if_eq (tgt := 33) X.1 X.2.1 d_Pr_findNamed_28 (by decide) ⟨by omega, by omega⟩ (fun h116 => ?_) (fun h116 => ?_)
          · exact J109  _ _ _  Y S (lv_sub hl [0, 1, 2, 3] rfl)
          · refine lv_iload_n X.1 X.2.1 d_Pr_findNamed_31 rfl (lv_at hl 3 rfl) ?_
            exact c_reti hQQ X Y hr hlk ⟨rfl, rfl, z101, rfl, ⟨by omega, by omega⟩⟩ d_Pr_findNamed_32
  refine lv_istore_n (lv' := [(3, .int (iI 0)), (0, .ref a1), (1, .ref a2), (2, .int (iI a3))]) X.1 X.2.1 d_Pr_findNamed_1 rfl hl (by decide) rfl (fun ls hl => ?_)
  exact J102 _ 0 _ _ _ rfl (by omega) (by omega) Y S (lv_sub hl [1, 2, 3, 0] rfl)
set_option maxHeartbeats 4000000 in
set_option maxRecDepth 100000 in
theorem c_Pr_begin (l : Launch) (D : va_G) (E : cE) (T : cT) (κ : tK) (L : List Nat) (f : pF) (sz : Nat) (h : Nat) (k0 : κ h = (17, 0)) (a1 n1 : Nat) (k1 : κ a1 = (13, n1)) (x1 : n1 ≤ 12288) (hw : tW E T κ L f) : Met l y_Pr_begin (k_Pr_begin :: lw_tg) (kRm 3 104 0 0) (va_Pc [.ref h, .ref a1] (kPre D E T L f sz)) (va_Qv (nPv E T [1, 13, 17] κ L f (fun (g : pF) => True)) (cPost D E (pA L sz)) (pA L sz)) 0 0 (pA L sz) := by
  refine k_enter (own := R_Pr) (by decide) rfl (Nat.le_of_ble_eq_true rfl) (fun p e s m below meth c ls AV QQ H locs hQQ X Y hA hin hr hlk hml hl KS KR => ?_)
  have hl : lv_has ls 2 [(0, .ref h), (1, .ref a1)] := hl
  have S : tS E T (tFr κ L [1, 13, 17] []) κ L f κ L f := tS_rf hw
  refine lv_aload_n X.1 X.2.1 d_Pr_begin_0 rfl (lv_at hl 0 rfl) ?_
  refine t_getr (ci := 7) X Y S k0 rfl i_Pr 0 (by decide) rfl (k1 := 13) (k2 := 40) rfl rfl lk_Pr_14 (fun _ h9 => h9) d_Pr_begin_1 (fun b101 e101 k101 => ?_)
  refine lv_aload_n X.1 X.2.1 d_Pr_begin_4 rfl (lv_at hl 1 rfl) ?_
  refine t_nv (t_runV (As := [.ref a1]) (rest := []) (n := 1) X Y S k101 hml hl.1 (c_By_copyOf l D E T κ L f H.size b101 40 k101 (by omega) a1 n1 k1 (by omega) S.1) (ok_k X Y hA KS KR) rfl kl_Pr_By_copyOf ks_By_copyOf kx_By_copyOf ki_By_copyOf ini_By ⟨rfl, rfl⟩ hd_By_copyOf ⟨Nat.le_of_ble_eq_true rfl, Nat.le_of_ble_eq_true rfl⟩ rfl (Nat.le_of_ble_eq_true rfl) d_Pr_begin_5 ⟨Nat.le_of_ble_eq_true rfl, Nat.le_of_ble_eq_true rfl⟩) X Y hA S (by decide) (fun f102 H locs Y S s102 p102 => ?_)
  refine lv_aload_n X.1 X.2.1 d_Pr_begin_8 rfl (lv_at hl 0 rfl) ?_
  refine lv_iconst (v := iI 1) X.1 X.2.1 d_Pr_begin_9 (by decide) ?_
  refine t_put (ci := 7) X Y S k0 rfl i_Pr t_Pr t_Pr_ok n_Pr 2 (by decide) rfl lk_Pr_55 (fun _ h9 => h9) rfl (t_Pr_ok 2 (by decide)) (iI_bool (by omega) (by omega)).1 (iI_bool (by omega) (by omega)).2 ⟨_, rfl, (show (0 : Int) ≤ 1 by omega), (show 1 ≤ (1 : Int) by omega)⟩ (nF_of S k0 (by decide)) d_Pr_begin_10 (fun f103 H locs Y S w103 => ?_)
  exact c_retv hQQ X Y hr hlk ⟨rfl, S, trivial⟩ d_Pr_begin_13
set_option maxHeartbeats 4000000 in
set_option maxRecDepth 100000 in
theorem c_Pr_rekey (l : Launch) (D : va_G) (E : cE) (T : cT) (κ : tK) (L : List Nat) (f : pF) (sz : Nat) (h : Nat) (k0 : κ h = (17, 0)) (a1 : Nat) (k1 : κ a1 = (21, 0)) (a2 n2 : Nat) (k2 : κ a2 = (13, n2)) (x2 : n2 ≤ 12288) (a3 : Int) (l_a3 : (-1) ≤ a3) (u_a3 : a3 ≤ 20200) (a4 : Int) (l_a4 : (-2147483648) ≤ a4) (u_a4 : a4 ≤ 2147483647) (hw : tW E T κ L f) : Met l y_Pr_rekey (k_Pr_rekey :: lw_tg) (kRm 7 181 2 64) (va_Pc [.ref h, .ref a1, .ref a2, .int (iI a3), .int (iI a4)] (kPre D E T L f sz)) (va_Qv (aPv E T [1, 2, 3, 4, 11, 13, 16, 17] [] κ L f (fun (k : tK) (g : pF) => True)) (cPost D E (pA L sz)) (pA L sz)) 2 64 (pA L sz) := by
  refine k_enter (own := R_Pr) (by decide) rfl (Nat.le_of_ble_eq_true rfl) (fun p e s m below meth c ls AV QQ H locs hQQ X Y hA hin hr hlk hml hl KS KR => ?_)
  have hl : lv_has ls 5 [(0, .ref h), (1, .ref a1), (2, .ref a2), (3, .int (iI a3)), (4, .int (iI a4))] := hl
  have S : tS E T (tFr κ L [1, 2, 3, 4, 11, 13, 16, 17] []) κ L f κ L f := tS_rf hw
  have hF0 : ∀ b, tFr κ L [1, 2, 3, 4, 11, 13, 16, 17] [] b → b ∈ L := fun b h9 => h9.1
  refine lv_aload_n X.1 X.2.1 d_Pr_rekey_0 rfl (lv_at hl 0 rfl) ?_
  refine lv_aload_n X.1 X.2.1 d_Pr_rekey_1 rfl (lv_at hl 0 rfl) ?_
  refine t_getk (ci := 7) X Y S k0 rfl i_Pr 5 (by decide) rfl lk_Pr_31 (fun _ h9 => h9) d_Pr_rekey_2 (fun b101 n101 e101 k101 x101 => ?_)
  refine t_put (ci := 7) X Y S k0 rfl i_Pr t_Pr t_Pr_ok n_Pr 7 (by decide) rfl lk_Pr_37 (fun _ h9 => h9) rfl (t_Pr_ok 7 (by decide)) rfl rfl ⟨_, n101, rfl, k101⟩ (nF_of S k0 (by decide)) d_Pr_rekey_5 (fun f102 H locs Y S w102 => ?_)
  refine lv_aload_n X.1 X.2.1 d_Pr_rekey_8 rfl (lv_at hl 0 rfl) ?_
  refine lv_aload_n X.1 X.2.1 d_Pr_rekey_9 rfl (lv_at hl 0 rfl) ?_
  refine t_getk (ci := 7) X Y S k0 rfl i_Pr 6 (by decide) rfl lk_Pr_34 (fun _ h9 => h9) d_Pr_rekey_10 (fun b103 n103 e103 k103 x103 => ?_)
  refine t_put (ci := 7) X Y S k0 rfl i_Pr t_Pr t_Pr_ok n_Pr 8 (by decide) rfl lk_Pr_40 (fun _ h9 => h9) rfl (t_Pr_ok 8 (by decide)) rfl rfl ⟨_, n103, rfl, k103⟩ (nF_of S k0 (by decide)) d_Pr_rekey_13 (fun f104 H locs Y S w104 => ?_)
  refine lv_aload_n X.1 X.2.1 d_Pr_rekey_16 rfl (lv_at hl 0 rfl) ?_
  refine lv_aload_n X.1 X.2.1 d_Pr_rekey_17 rfl (lv_at hl 1 rfl) ?_
  refine lv_bipush (v := iI 18) X.1 X.2.1 d_Pr_rekey_18 (by decide) ?_
  refine lv_aload_n X.1 X.2.1 d_Pr_rekey_20 rfl (lv_at hl 0 rfl) ?_
  refine t_getr (ci := 7) X Y S k0 rfl i_Pr 0 (by decide) rfl (k1 := 13) (k2 := 40) rfl rfl lk_Pr_14 (fun _ h9 => h9) d_Pr_rekey_21 (fun b105 e105 k105 => ?_)
  refine lv_aload_n X.1 X.2.1 d_Pr_rekey_24 rfl (lv_at hl 2 rfl) ?_
  refine lv_iload_n X.1 X.2.1 d_Pr_rekey_25 rfl (lv_at hl 3 rfl) ?_
  refine lv_iload X.1 X.2.1 d_Pr_rekey_26 (lv_at hl 4 rfl) ?_
  refine t_ar (t_runV (As := [.int (iI 18), .ref b105, .ref a2, .int (iI a3), .int (iI a4)]) (rest := [.ref h]) (n := 5) X Y S k1 hml hl.1 (c_Va_passwordKey l D E T κ L f104 H.size a1 k1 18 (by omega) (by omega) b105 40 k105 (by omega) a2 n2 k2 (by omega) a3 (by omega) (by omega) a4 (by omega) (by omega) S.1) (ok_k X Y hA KS KR) rfl kl_Pr_Va_passwordKey ks_Va_passwordKey kx_Va_passwordKey ki_Va_passwordKey ini_Va ⟨rfl, rfl⟩ hd_Va_passwordKey ⟨Nat.le_of_ble_eq_true rfl, Nat.le_of_ble_eq_true rfl⟩ rfl (Nat.le_of_ble_eq_true rfl) d_Pr_rekey_28 ⟨Nat.le_of_ble_eq_true rfl, Nat.le_of_ble_eq_true rfl⟩) X Y hA S (by decide) (fun b106 κ106 L106 f106 H locs Y S s106 p106 => ?_)
  obtain ⟨n106, k106⟩ := p106
  have x106 := tKey_n k106
  have k107 : κ106 h = (17, 0) := tLe_k s106.2.2.1 k0
  have k108 : κ106 a1 = (21, 0) := tLe_k s106.2.2.1 k1
  have k109 : κ106 a2 = (13, n2) := tLe_k s106.2.2.1 k2
  refine t_put (ci := 7) X Y S k107 rfl i_Pr t_Pr t_Pr_ok n_Pr 5 (by decide) rfl lk_Pr_31 (fun _ h9 => h9) rfl (t_Pr_ok 5 (by decide)) rfl rfl ⟨_, n106, rfl, k106⟩ (nF_of S k107 (by decide)) d_Pr_rekey_31 (fun f110 H locs Y S w110 => ?_)
  refine lv_aload_n X.1 X.2.1 d_Pr_rekey_34 rfl (lv_at hl 0 rfl) ?_
  refine lv_aload_n X.1 X.2.1 d_Pr_rekey_35 rfl (lv_at hl 1 rfl) ?_
  refine lv_bipush (v := iI 17) X.1 X.2.1 d_Pr_rekey_36 (by decide) ?_
  refine lv_aload_n X.1 X.2.1 d_Pr_rekey_38 rfl (lv_at hl 0 rfl) ?_
  refine t_getr (ci := 7) X Y S k107 rfl i_Pr 0 (by decide) rfl (k1 := 13) (k2 := 40) rfl rfl lk_Pr_14 (fun _ h9 => h9) d_Pr_rekey_39 (fun b111 e111 k111 => ?_)
  refine lv_aload_n X.1 X.2.1 d_Pr_rekey_42 rfl (lv_at hl 2 rfl) ?_
  refine lv_iload_n X.1 X.2.1 d_Pr_rekey_43 rfl (lv_at hl 3 rfl) ?_
  refine lv_iload X.1 X.2.1 d_Pr_rekey_44 (lv_at hl 4 rfl) ?_
  refine t_ar (t_runV (As := [.int (iI 17), .ref b111, .ref a2, .int (iI a3), .int (iI a4)]) (rest := [.ref h]) (n := 5) X Y S k108 hml hl.1 (c_Va_passwordKey l D E T κ106 L106 f110 H.size a1 k108 17 (by omega) (by omega) b111 40 k111 (by omega) a2 n2 k109 (by omega) a3 (by omega) (by omega) a4 (by omega) (by omega) S.1) (ok_k X Y hA KS KR) rfl kl_Pr_Va_passwordKey ks_Va_passwordKey kx_Va_passwordKey ki_Va_passwordKey ini_Va ⟨rfl, rfl⟩ hd_Va_passwordKey ⟨Nat.le_of_ble_eq_true rfl, Nat.le_of_ble_eq_true rfl⟩ rfl (Nat.le_of_ble_eq_true rfl) d_Pr_rekey_46 ⟨Nat.le_of_ble_eq_true rfl, Nat.le_of_ble_eq_true rfl⟩) X Y hA S (by decide) (fun b112 κ112 L112 f112 H locs Y S s112 p112 => ?_)
  obtain ⟨n112, k112⟩ := p112
  have x112 := tKey_n k112
  have k113 : κ112 h = (17, 0) := tLe_k s112.2.2.1 k107
  have k114 : κ112 a1 = (21, 0) := tLe_k s112.2.2.1 k108
  have k115 : κ112 a2 = (13, n2) := tLe_k s112.2.2.1 k109
  refine t_put (ci := 7) X Y S k113 rfl i_Pr t_Pr t_Pr_ok n_Pr 6 (by decide) rfl lk_Pr_34 (fun _ h9 => h9) rfl (t_Pr_ok 6 (by decide)) rfl rfl ⟨_, n112, rfl, k112⟩ (nF_of S k113 (by decide)) d_Pr_rekey_49 (fun f116 H locs Y S w116 => ?_)
  refine lv_aload_n X.1 X.2.1 d_Pr_rekey_52 rfl (lv_at hl 0 rfl) ?_
  refine lv_iload X.1 X.2.1 d_Pr_rekey_53 (lv_at hl 4 rfl) ?_
  refine t_put (ci := 7) X Y S k113 rfl i_Pr t_Pr t_Pr_ok n_Pr 4 (by decide) rfl lk_Pr_80 (fun _ h9 => h9) rfl (t_Pr_ok 4 (by decide)) rfl rfl ⟨_, rfl, (show ((-2147483648) : Int) ≤ a4 by omega), (show a4 ≤ (2147483647 : Int) by omega)⟩ (nF_of S k113 (by decide)) d_Pr_rekey_55 (fun f117 H locs Y S w117 => ?_)
  refine lv_aload_n X.1 X.2.1 d_Pr_rekey_58 rfl (lv_at hl 0 rfl) ?_
  refine lv_dup X.1 X.2.1 d_Pr_rekey_59 rfl ?_
  refine t_geti (ci := 7) X Y S k113 rfl i_Pr 3 (by decide) rfl lk_Pr_83 (fun _ h9 => h9) d_Pr_rekey_60 (fun z118 e118 l118 u118 => ?_)
  refine lv_iconst (v := iI 1) X.1 X.2.1 d_Pr_rekey_63 (by decide) ?_
  refine lv_iadd X.1 X.2.1 d_Pr_rekey_64 ?_
  refine t_u (fun z119 l119 u119 => ?_)
  refine t_put (ci := 7) X Y S k113 rfl i_Pr t_Pr t_Pr_ok n_Pr 3 (by decide) rfl lk_Pr_83 (fun _ h9 => h9) rfl (t_Pr_ok 3 (by decide)) rfl rfl ⟨_, rfl, (show ((-2147483648) : Int) ≤ z119 by omega), (show z119 ≤ (2147483647 : Int) by omega)⟩ (nF_of S k113 (by decide)) d_Pr_rekey_65 (fun f120 H locs Y S w120 => ?_)
  exact c_retv hQQ X Y hr hlk ⟨κ112, S, trivial⟩ d_Pr_rekey_68
set_option maxHeartbeats 4000000 in
set_option maxRecDepth 100000 in
theorem c_Pr_rule (l : Launch) (D : va_G) (E : cE) (T : cT) (κ : tK) (L : List Nat) (f : pF) (sz : Nat) (h : Nat) (k0 : κ h = (17, 0)) (a1 : Int) (l_a1 : (-2147483648) ≤ a1) (u_a1 : a1 ≤ 2147483647) (a2 : Int) (l_a2 : (-2147483648) ≤ a2) (u_a2 : a2 ≤ 2147483647) (hw : tW E T κ L f) : Met l y_Pr_rule (k_Pr_rule :: lw_tg) (kRm 1 60 0 0) (va_Pc [.ref h, .int (iI a1), .int (iI a2)] (kPre D E T L f sz)) (va_Qi (nPi E T [17] κ L f (fun (z : Int) (g : pF) => 0 ≤ z ∧ z ≤ 1)) (cPost D E (pA L sz)) (pA L sz)) 0 0 (pA L sz) := by
  refine k_enter (own := R_Pr) (by decide) rfl (Nat.le_of_ble_eq_true rfl) (fun p e s m below meth c ls AV QQ H locs hQQ X Y hA hin hr hlk hml hl KS KR => ?_)
  have hl : lv_has ls 3 [(0, .ref h), (1, .int (iI a1)), (2, .int (iI a2))] := hl
  have S : tS E T (tFr κ L [17] []) κ L f κ L f := tS_rf hw
  refine lv_iload_n X.1 X.2.1 d_Pr_rule_0 rfl (lv_at hl 1 rfl) ?_
  refine z_if_lt (tgt := 27) X.1 X.2.1 d_Pr_rule_1 (by decide) ⟨by omega, by omega⟩ (fun h101 => ?_) (fun h101 => ?_)
  · refine lv_iconst (v := iI 0) X.1 X.2.1 d_Pr_rule_27 (by decide) ?_
    exact c_retz hQQ X Y hr hlk (iI_bool (by omega) (by omega)).1 ⟨rfl, S, 0, rfl, ⟨by omega, by omega⟩⟩ d_Pr_rule_28
  · refine lv_iload_n X.1 X.2.1 d_Pr_rule_4 rfl (lv_at hl 1 rfl) ?_
    refine lv_iconst (v := iI 3) X.1 X.2.1 d_Pr_rule_5 (by decide) ?_
    refine z_icmp_gt (tgt := 27) X.1 X.2.1 d_Pr_rule_6 (by decide) ⟨by omega, by omega⟩ ⟨by omega, by omega⟩ (fun h102 => ?_) (fun h102 => ?_)
    · refine lv_iconst (v := iI 0) X.1 X.2.1 d_Pr_rule_27 (by decide) ?_
      exact c_retz hQQ X Y hr hlk (iI_bool (by omega) (by omega)).1 ⟨rfl, S, 0, rfl, ⟨by omega, by omega⟩⟩ d_Pr_rule_28
    · refine lv_iload_n X.1 X.2.1 d_Pr_rule_9 rfl (lv_at hl 2 rfl) ?_
      refine k_gets 4 (by decide) X Y KS sk_Pr_86 d_Pr_rule_10 ?_
      refine lv_iload_n X.1 X.2.1 d_Pr_rule_13 rfl (lv_at hl 1 rfl) ?_
      refine t_sald 4 (by decide) rfl X Y KS (by omega) (show a1 < ((4 : Nat) : Int) by omega) (by omega) d_Pr_rule_14 (fun z103 l103 u103 => ?_)
      refine z_icmp_lt (tgt := 27) X.1 X.2.1 d_Pr_rule_15 (by decide) ⟨by omega, by omega⟩ ⟨by omega, by omega⟩ (fun h104 => ?_) (fun h104 => ?_)
      · refine lv_iconst (v := iI 0) X.1 X.2.1 d_Pr_rule_27 (by decide) ?_
        exact c_retz hQQ X Y hr hlk (iI_bool (by omega) (by omega)).1 ⟨rfl, S, 0, rfl, ⟨by omega, by omega⟩⟩ d_Pr_rule_28
      · refine lv_iload_n X.1 X.2.1 d_Pr_rule_18 rfl (lv_at hl 2 rfl) ?_
        refine k_gets 5 (by decide) X Y KS sk_Pr_90 d_Pr_rule_19 ?_
        refine lv_iload_n X.1 X.2.1 d_Pr_rule_22 rfl (lv_at hl 1 rfl) ?_
        refine t_sald 5 (by decide) rfl X Y KS (by omega) (show a1 < ((4 : Nat) : Int) by omega) (by omega) d_Pr_rule_23 (fun z105 l105 u105 => ?_)
        refine z_icmp_le (tgt := 29) X.1 X.2.1 d_Pr_rule_24 (by decide) ⟨by omega, by omega⟩ ⟨by omega, by omega⟩ (fun h106 => ?_) (fun h106 => ?_)
        · refine lv_iload_n X.1 X.2.1 d_Pr_rule_29 rfl (lv_at hl 1 rfl) ?_
          by_cases h107 : a1 = 0
          · rw [h107]
            refine lv_tableIn (off := 26) (tgt := 56) X.1 X.2.1 d_Pr_rule_30 (by decide) (by decide) (by decide) (by decide) ?_
            refine lv_aload_n X.1 X.2.1 d_Pr_rule_56 rfl (lv_at hl 0 rfl) ?_
            refine lv_iload_n X.1 X.2.1 d_Pr_rule_57 rfl (lv_at hl 2 rfl) ?_
            refine t_put (ci := 7) X Y S k0 rfl i_Pr t_Pr t_Pr_ok n_Pr 9 (by decide) rfl lk_Pr_44 (fun _ h9 => h9) rfl (t_Pr_ok 9 (by decide)) rfl rfl ⟨_, rfl, (show ((-2147483648) : Int) ≤ a2 by omega), (show a2 ≤ (2147483647 : Int) by omega)⟩ (nF_of S k0 (by decide)) d_Pr_rule_58 (fun f108 H locs Y S w108 => ?_)
            refine lv_goto (tgt := 85) X.1 X.2.1 d_Pr_rule_61 (by decide) ?_
            refine lv_iconst (v := iI 1) X.1 X.2.1 d_Pr_rule_85 (by decide) ?_
            exact c_retz hQQ X Y hr hlk (iI_bool (by omega) (by omega)).1 ⟨rfl, S, 1, rfl, ⟨by omega, by omega⟩⟩ d_Pr_rule_86
          by_cases h109 : a1 = 1
          · rw [h109]
            refine lv_tableIn (off := 34) (tgt := 64) X.1 X.2.1 d_Pr_rule_30 (by decide) (by decide) (by decide) (by decide) ?_
            refine lv_aload_n X.1 X.2.1 d_Pr_rule_64 rfl (lv_at hl 0 rfl) ?_
            refine lv_iload_n X.1 X.2.1 d_Pr_rule_65 rfl (lv_at hl 2 rfl) ?_
            refine t_put (ci := 7) X Y S k0 rfl i_Pr t_Pr t_Pr_ok n_Pr 10 (by decide) rfl lk_Pr_49 (fun _ h9 => h9) rfl (t_Pr_ok 10 (by decide)) rfl rfl ⟨_, rfl, (show ((-2147483648) : Int) ≤ a2 by omega), (show a2 ≤ (2147483647 : Int) by omega)⟩ (nF_of S k0 (by decide)) d_Pr_rule_66 (fun f110 H locs Y S w110 => ?_)
            refine lv_goto (tgt := 85) X.1 X.2.1 d_Pr_rule_69 (by decide) ?_
            refine lv_iconst (v := iI 1) X.1 X.2.1 d_Pr_rule_85 (by decide) ?_
            exact c_retz hQQ X Y hr hlk (iI_bool (by omega) (by omega)).1 ⟨rfl, S, 1, rfl, ⟨by omega, by omega⟩⟩ d_Pr_rule_86
          by_cases h111 : a1 = 2
          · rw [h111]
            refine lv_tableIn (off := 42) (tgt := 72) X.1 X.2.1 d_Pr_rule_30 (by decide) (by decide) (by decide) (by decide) ?_
            refine lv_aload_n X.1 X.2.1 d_Pr_rule_72 rfl (lv_at hl 0 rfl) ?_
            refine lv_iload_n X.1 X.2.1 d_Pr_rule_73 rfl (lv_at hl 2 rfl) ?_
            refine t_put (ci := 7) X Y S k0 rfl i_Pr t_Pr t_Pr_ok n_Pr 11 (by decide) rfl lk_Pr_52 (fun _ h9 => h9) rfl (t_Pr_ok 11 (by decide)) rfl rfl ⟨_, rfl, (show ((-2147483648) : Int) ≤ a2 by omega), (show a2 ≤ (2147483647 : Int) by omega)⟩ (nF_of S k0 (by decide)) d_Pr_rule_74 (fun f112 H locs Y S w112 => ?_)
            refine lv_goto (tgt := 85) X.1 X.2.1 d_Pr_rule_77 (by decide) ?_
            refine lv_iconst (v := iI 1) X.1 X.2.1 d_Pr_rule_85 (by decide) ?_
            exact c_retz hQQ X Y hr hlk (iI_bool (by omega) (by omega)).1 ⟨rfl, S, 1, rfl, ⟨by omega, by omega⟩⟩ d_Pr_rule_86
          refine lv_tableOut (tgt := 80) X.1 X.2.1 d_Pr_rule_30 (by rw [iI_toInt ⟨by omega, by omega⟩]; omega) (by decide) ?_
          refine lv_aload_n X.1 X.2.1 d_Pr_rule_80 rfl (lv_at hl 0 rfl) ?_
          refine lv_iload_n X.1 X.2.1 d_Pr_rule_81 rfl (lv_at hl 2 rfl) ?_
          refine t_put (ci := 7) X Y S k0 rfl i_Pr t_Pr t_Pr_ok n_Pr 12 (by decide) rfl lk_Pr_93 (fun _ h9 => h9) rfl (t_Pr_ok 12 (by decide)) rfl rfl ⟨_, rfl, (show ((-2147483648) : Int) ≤ a2 by omega), (show a2 ≤ (2147483647 : Int) by omega)⟩ (nF_of S k0 (by decide)) d_Pr_rule_82 (fun f113 H locs Y S w113 => ?_)
          refine lv_iconst (v := iI 1) X.1 X.2.1 d_Pr_rule_85 (by decide) ?_
          exact c_retz hQQ X Y hr hlk (iI_bool (by omega) (by omega)).1 ⟨rfl, S, 1, rfl, ⟨by omega, by omega⟩⟩ d_Pr_rule_86
        · refine lv_iconst (v := iI 0) X.1 X.2.1 d_Pr_rule_27 (by decide) ?_
          exact c_retz hQQ X Y hr hlk (iI_bool (by omega) (by omega)).1 ⟨rfl, S, 0, rfl, ⟨by omega, by omega⟩⟩ d_Pr_rule_28
set_option maxHeartbeats 4000000 in
set_option maxRecDepth 100000 in
theorem c_Pr_is (l : Launch) (D : va_G) (E : cE) (T : cT) (κ : tK) (L : List Nat) (f : pF) (sz : Nat) (h : Nat) (k0 : κ h = (17, 0)) (a1 : Int) (l_a1 : (-2147483648) ≤ a1) (u_a1 : a1 ≤ 2147483647) (hw : tW E T κ L f) : Met l y_Pr_is (k_Pr_is :: lw_tg) (kRm 1 60 0 0) (va_Pc [.ref h, .int (iI a1)] (kPre D E T L f sz)) (va_Qi (uPi L f (fun (z : Int) => 0 ≤ z ∧ z ≤ 1)) (cPost D E (pA L sz)) (pA L sz)) 0 0 (pA L sz) := by
  refine k_enter (own := R_Pr) (by decide) rfl (Nat.le_of_ble_eq_true rfl) (fun p e s m below meth c ls AV QQ H locs hQQ X Y hA hin hr hlk hml hl KS KR => ?_)
  have hl : lv_has ls 2 [(0, .ref h), (1, .int (iI a1))] := hl
  have S : tS E T (tFr κ L [] []) κ L f κ L f := tS_rf hw
  refine lv_aload_n X.1 X.2.1 d_Pr_is_0 rfl (lv_at hl 0 rfl) ?_
  refine t_geti (ci := 7) X Y S k0 rfl i_Pr 11 (by decide) rfl lk_Pr_52 (fun _ h9 => h9) d_Pr_is_1 (fun z101 e101 l101 u101 => ?_)
  refine lv_iload_n X.1 X.2.1 d_Pr_is_4 rfl (lv_at hl 1 rfl) ?_
  refine lv_iand X.1 X.2.1 d_Pr_is_5 ?_
  refine t_u (fun z103 l103 u103 => ?_)
  refine z_if_eq (tgt := 13) X.1 X.2.1 d_Pr_is_6 (by decide) ⟨by omega, by omega⟩ (fun h104 => ?_) (fun h104 => ?_)
  · refine lv_iconst (v := iI 0) X.1 X.2.1 d_Pr_is_13 (by decide) ?_
    exact c_retz hQQ X Y hr hlk (iI_bool (by omega) (by omega)).1 ⟨rfl, rfl, 0, rfl, ⟨by omega, by omega⟩⟩ d_Pr_is_14
  · refine lv_iconst (v := iI 1) X.1 X.2.1 d_Pr_is_9 (by decide) ?_
    refine lv_goto (tgt := 14) X.1 X.2.1 d_Pr_is_10 (by decide) ?_
    exact c_retz hQQ X Y hr hlk (iI_bool (by omega) (by omega)).1 ⟨rfl, rfl, 1, rfl, ⟨by omega, by omega⟩⟩ d_Pr_is_14
set_option maxHeartbeats 4000000 in
set_option maxRecDepth 100000 in
theorem c_Pr_isOver (l : Launch) (D : va_G) (E : cE) (T : cT) (κ : tK) (L : List Nat) (f : pF) (sz : Nat) (h : Nat) (k0 : κ h = (17, 0)) (a1 : Int) (l_a1 : (-2147483648) ≤ a1) (u_a1 : a1 ≤ 2147483647) (hw : tW E T κ L f) : Met l y_Pr_isOver (k_Pr_isOver :: lw_tg) (kRm 1 60 0 0) (va_Pc [.ref h, .int (iI a1)] (kPre D E T L f sz)) (va_Qi (uPi L f (fun (z : Int) => 0 ≤ z ∧ z ≤ 1)) (cPost D E (pA L sz)) (pA L sz)) 0 0 (pA L sz) := by
  refine k_enter (own := R_Pr) (by decide) rfl (Nat.le_of_ble_eq_true rfl) (fun p e s m below meth c ls AV QQ H locs hQQ X Y hA hin hr hlk hml hl KS KR => ?_)
  have hl : lv_has ls 2 [(0, .ref h), (1, .int (iI a1))] := hl
  have S : tS E T (tFr κ L [] []) κ L f κ L f := tS_rf hw
  refine lv_aload_n X.1 X.2.1 d_Pr_isOver_0 rfl (lv_at hl 0 rfl) ?_
  refine t_geti (ci := 7) X Y S k0 rfl i_Pr 12 (by decide) rfl lk_Pr_93 (fun _ h9 => h9) d_Pr_isOver_1 (fun z101 e101 l101 u101 => ?_)
  refine z_if_le (tgt := 19) X.1 X.2.1 d_Pr_isOver_4 (by decide) ⟨by omega, by omega⟩ (fun h102 => ?_) (fun h102 => ?_)
  · refine lv_iconst (v := iI 0) X.1 X.2.1 d_Pr_isOver_19 (by decide) ?_
    exact c_retz hQQ X Y hr hlk (iI_bool (by omega) (by omega)).1 ⟨rfl, rfl, 0, rfl, ⟨by omega, by omega⟩⟩ d_Pr_isOver_20
  · refine lv_iload_n X.1 X.2.1 d_Pr_isOver_7 rfl (lv_at hl 1 rfl) ?_
    refine lv_aload_n X.1 X.2.1 d_Pr_isOver_8 rfl (lv_at hl 0 rfl) ?_
    refine t_get0 (ci := 7) X Y S k0 rfl i_Pr 12 (by decide) rfl lk_Pr_93 (fun _ h9 => h9) d_Pr_isOver_9 e101 ?_
    refine z_icmp_lt (tgt := 19) X.1 X.2.1 d_Pr_isOver_12 (by decide) ⟨by omega, by omega⟩ ⟨by omega, by omega⟩ (fun h103 => ?_) (fun h103 => ?_)
    · refine lv_iconst (v := iI 0) X.1 X.2.1 d_Pr_isOver_19 (by decide) ?_
      exact c_retz hQQ X Y hr hlk (iI_bool (by omega) (by omega)).1 ⟨rfl, rfl, 0, rfl, ⟨by omega, by omega⟩⟩ d_Pr_isOver_20
    · refine lv_iconst (v := iI 1) X.1 X.2.1 d_Pr_isOver_15 (by decide) ?_
      refine lv_goto (tgt := 20) X.1 X.2.1 d_Pr_isOver_16 (by decide) ?_
      exact c_retz hQQ X Y hr hlk (iI_bool (by omega) (by omega)).1 ⟨rfl, rfl, 1, rfl, ⟨by omega, by omega⟩⟩ d_Pr_isOver_20
set_option maxHeartbeats 4000000 in
set_option maxRecDepth 100000 in
theorem c_Pr_canOpen (l : Launch) (D : va_G) (E : cE) (T : cT) (κ : tK) (L : List Nat) (f : pF) (sz : Nat) (h : Nat) (k0 : κ h = (17, 0)) (a1 : Int64) (hw : tW E T κ L f) : Met l y_Pr_canOpen (k_Pr_canOpen :: lw_tg) (kRm 1 60 0 0) (va_Pc [.ref h, .long a1] (kPre D E T L f sz)) (va_Qi (uPi L f (fun (z : Int) => 0 ≤ z ∧ z ≤ 1)) (cPost D E (pA L sz)) (pA L sz)) 0 0 (pA L sz) := by
  refine k_enter (own := R_Pr) (by decide) rfl (Nat.le_of_ble_eq_true rfl) (fun p e s m below meth c ls AV QQ H locs hQQ X Y hA hin hr hlk hml hl KS KR => ?_)
  have hl : lv_has ls 3 [(0, .ref h), (1, .long a1)] := hl
  have S : tS E T (tFr κ L [] []) κ L f κ L f := tS_rf hw
  refine lv_lload_n X.1 X.2.1 d_Pr_canOpen_0 rfl (lv_at hl 1 rfl) ?_
  refine lv_lconst (v := 1) X.1 X.2.1 d_Pr_canOpen_1 rfl ?_
  refine W.lcmp X.1 X.2.1 d_Pr_canOpen_2 ?_
  refine t_u (fun z101 l101 u101 => ?_)
  refine z_if_lt (tgt := 32) X.1 X.2.1 d_Pr_canOpen_3 (by decide) ⟨by omega, by omega⟩ (fun h102 => ?_) (fun h102 => ?_)
  · refine lv_iconst (v := iI 0) X.1 X.2.1 d_Pr_canOpen_32 (by decide) ?_
    exact c_retz hQQ X Y hr hlk (iI_bool (by omega) (by omega)).1 ⟨rfl, rfl, 0, rfl, ⟨by omega, by omega⟩⟩ d_Pr_canOpen_33
  · refine lv_lload_n X.1 X.2.1 d_Pr_canOpen_6 rfl (lv_at hl 1 rfl) ?_
    refine lv_aload_n X.1 X.2.1 d_Pr_canOpen_7 rfl (lv_at hl 0 rfl) ?_
    refine t_geti (ci := 7) X Y S k0 rfl i_Pr 3 (by decide) rfl lk_Pr_83 (fun _ h9 => h9) d_Pr_canOpen_8 (fun z103 e103 l103 u103 => ?_)
    refine lv_i2l X.1 X.2.1 d_Pr_canOpen_11 rfl ?_
    refine t_anyl (fun v104 => ?_)
    refine W.lcmp X.1 X.2.1 d_Pr_canOpen_12 ?_
    refine t_u (fun z105 l105 u105 => ?_)
    refine z_if_eq (tgt := 28) X.1 X.2.1 d_Pr_canOpen_13 (by decide) ⟨by omega, by omega⟩ (fun h106 => ?_) (fun h106 => ?_)
    · refine lv_iconst (v := iI 1) X.1 X.2.1 d_Pr_canOpen_28 (by decide) ?_
      refine lv_goto (tgt := 33) X.1 X.2.1 d_Pr_canOpen_29 (by decide) ?_
      exact c_retz hQQ X Y hr hlk (iI_bool (by omega) (by omega)).1 ⟨rfl, rfl, 1, rfl, ⟨by omega, by omega⟩⟩ d_Pr_canOpen_33
    · refine lv_lload_n X.1 X.2.1 d_Pr_canOpen_16 rfl (lv_at hl 1 rfl) ?_
      refine lv_aload_n X.1 X.2.1 d_Pr_canOpen_17 rfl (lv_at hl 0 rfl) ?_
      refine t_get0 (ci := 7) X Y S k0 rfl i_Pr 3 (by decide) rfl lk_Pr_83 (fun _ h9 => h9) d_Pr_canOpen_18 e103 ?_
      refine lv_iconst (v := iI 1) X.1 X.2.1 d_Pr_canOpen_21 (by decide) ?_
      refine lv_isub X.1 X.2.1 d_Pr_canOpen_22 ?_
      refine t_u (fun z107 l107 u107 => ?_)
      refine lv_i2l X.1 X.2.1 d_Pr_canOpen_23 rfl ?_
      refine t_anyl (fun v108 => ?_)
      refine W.lcmp X.1 X.2.1 d_Pr_canOpen_24 ?_
      refine t_u (fun z109 l109 u109 => ?_)
      refine z_if_ne (tgt := 32) X.1 X.2.1 d_Pr_canOpen_25 (by decide) ⟨by omega, by omega⟩ (fun h110 => ?_) (fun h110 => ?_)
      · refine lv_iconst (v := iI 0) X.1 X.2.1 d_Pr_canOpen_32 (by decide) ?_
        exact c_retz hQQ X Y hr hlk (iI_bool (by omega) (by omega)).1 ⟨rfl, rfl, 0, rfl, ⟨by omega, by omega⟩⟩ d_Pr_canOpen_33
      · refine lv_iconst (v := iI 1) X.1 X.2.1 d_Pr_canOpen_28 (by decide) ?_
        refine lv_goto (tgt := 33) X.1 X.2.1 d_Pr_canOpen_29 (by decide) ?_
        exact c_retz hQQ X Y hr hlk (iI_bool (by omega) (by omega)).1 ⟨rfl, rfl, 1, rfl, ⟨by omega, by omega⟩⟩ d_Pr_canOpen_33
set_option maxHeartbeats 4000000 in
set_option maxRecDepth 100000 in
theorem c_Pr_latestKey (l : Launch) (D : va_G) (E : cE) (T : cT) (κ : tK) (L : List Nat) (f : pF) (sz : Nat) (h : Nat) (k0 : κ h = (17, 0)) (a1 : Int64) (hw : tW E T κ L f) : Met l y_Pr_latestKey (k_Pr_latestKey :: lw_tg) (kRm 1 60 0 0) (va_Pc [.ref h, .long a1] (kPre D E T L f sz)) (va_Qr (fun _ : cU => True) (fun u r t => uPr L f (fun (z : Nat) => (∃ n : Nat, tKey T κ z n)) r u ∧ cPost D E (pA L sz) u t) (pA L sz)) 0 0 (pA L sz) := by
  refine k_enter (own := R_Pr) (by decide) rfl (Nat.le_of_ble_eq_true rfl) (fun p e s m below meth c ls AV QQ H locs hQQ X Y hA hin hr hlk hml hl KS KR => ?_)
  have hl : lv_has ls 3 [(0, .ref h), (1, .long a1)] := hl
  have S : tS E T (tFr κ L [] []) κ L f κ L f := tS_rf hw
  refine lv_lload_n X.1 X.2.1 d_Pr_latestKey_0 rfl (lv_at hl 1 rfl) ?_
  refine lv_ldc2 (v := (18)) X.1 X.2.1 X.2.2.2.1 (X.2.2.1 _ cl_Pr_96) d_Pr_latestKey_1 ?_
  refine W.lcmp X.1 X.2.1 d_Pr_latestKey_4 ?_
  refine t_u (fun z101 l101 u101 => ?_)
  refine z_if_ne (tgt := 15) X.1 X.2.1 d_Pr_latestKey_5 (by decide) ⟨by omega, by omega⟩ (fun h102 => ?_) (fun h102 => ?_)
  · refine lv_aload_n X.1 X.2.1 d_Pr_latestKey_15 rfl (lv_at hl 0 rfl) ?_
    refine t_getk (ci := 7) X Y S k0 rfl i_Pr 6 (by decide) rfl lk_Pr_34 (fun _ h9 => h9) d_Pr_latestKey_16 (fun b103 n103 e103 k103 x103 => ?_)
    exact k_retr hQQ X Y hr (Or.inr ⟨_, rfl⟩) hlk ⟨rfl, rfl, ⟨n103, k103⟩⟩ d_Pr_latestKey_19
  · refine lv_aload_n X.1 X.2.1 d_Pr_latestKey_8 rfl (lv_at hl 0 rfl) ?_
    refine t_getk (ci := 7) X Y S k0 rfl i_Pr 5 (by decide) rfl lk_Pr_31 (fun _ h9 => h9) d_Pr_latestKey_9 (fun b104 n104 e104 k104 x104 => ?_)
    refine lv_goto (tgt := 19) X.1 X.2.1 d_Pr_latestKey_12 (by decide) ?_
    exact k_retr hQQ X Y hr (Or.inr ⟨_, rfl⟩) hlk ⟨rfl, rfl, ⟨n104, k104⟩⟩ d_Pr_latestKey_19
set_option maxHeartbeats 4000000 in
set_option maxRecDepth 100000 in
theorem c_Pr_keyOf (l : Launch) (D : va_G) (E : cE) (T : cT) (κ : tK) (L : List Nat) (f : pF) (sz : Nat) (h : Nat) (k0 : κ h = (17, 0)) (a1 : Int64) (a2 : Int64) (hw : tW E T κ L f) : Met l y_Pr_keyOf (k_Pr_keyOf :: lw_tg) (kRm 2 82 0 0) (va_Pc [.ref h, .long a1, .long a2] (kPre D E T L f sz)) (va_Qr (fun _ : cU => True) (fun u r t => uPr L f (fun (z : Nat) => (∃ n : Nat, tKey T κ z n)) r u ∧ cPost D E (pA L sz) u t) (pA L sz)) 0 0 (pA L sz) := by
  refine k_enter (own := R_Pr) (by decide) rfl (Nat.le_of_ble_eq_true rfl) (fun p e s m below meth c ls AV QQ H locs hQQ X Y hA hin hr hlk hml hl KS KR => ?_)
  have hl : lv_has ls 5 [(0, .ref h), (1, .long a1), (3, .long a2)] := hl
  have S : tS E T (tFr κ L [] []) κ L f κ L f := tS_rf hw
  refine lv_lload_n X.1 X.2.1 d_Pr_keyOf_0 rfl (lv_at hl 1 rfl) ?_
  refine lv_aload_n X.1 X.2.1 d_Pr_keyOf_1 rfl (lv_at hl 0 rfl) ?_
  refine t_geti (ci := 7) X Y S k0 rfl i_Pr 3 (by decide) rfl lk_Pr_83 (fun _ h9 => h9) d_Pr_keyOf_2 (fun z101 e101 l101 u101 => ?_)
  refine lv_i2l X.1 X.2.1 d_Pr_keyOf_5 rfl ?_
  refine t_anyl (fun v102 => ?_)
  refine W.lcmp X.1 X.2.1 d_Pr_keyOf_6 ?_
  refine t_u (fun z103 l103 u103 => ?_)
  refine z_if_ne (tgt := 16) X.1 X.2.1 d_Pr_keyOf_7 (by decide) ⟨by omega, by omega⟩ (fun h104 => ?_) (fun h104 => ?_)
  · refine lv_lload_n X.1 X.2.1 d_Pr_keyOf_16 rfl (lv_at hl 2 rfl) ?_
    refine lv_ldc2 (v := (18)) X.1 X.2.1 X.2.2.2.1 (X.2.2.1 _ cl_Pr_96) d_Pr_keyOf_17 ?_
    refine W.lcmp X.1 X.2.1 d_Pr_keyOf_20 ?_
    refine t_u (fun z105 l105 u105 => ?_)
    refine z_if_ne (tgt := 31) X.1 X.2.1 d_Pr_keyOf_21 (by decide) ⟨by omega, by omega⟩ (fun h106 => ?_) (fun h106 => ?_)
    · refine lv_aload_n X.1 X.2.1 d_Pr_keyOf_31 rfl (lv_at hl 0 rfl) ?_
      refine t_getk (ci := 7) X Y S k0 rfl i_Pr 8 (by decide) rfl lk_Pr_40 (fun _ h9 => h9) d_Pr_keyOf_32 (fun b107 n107 e107 k107 x107 => ?_)
      exact k_retr hQQ X Y hr (Or.inr ⟨_, rfl⟩) hlk ⟨rfl, rfl, ⟨n107, k107⟩⟩ d_Pr_keyOf_35
    · refine lv_aload_n X.1 X.2.1 d_Pr_keyOf_24 rfl (lv_at hl 0 rfl) ?_
      refine t_getk (ci := 7) X Y S k0 rfl i_Pr 7 (by decide) rfl lk_Pr_37 (fun _ h9 => h9) d_Pr_keyOf_25 (fun b108 n108 e108 k108 x108 => ?_)
      refine lv_goto (tgt := 35) X.1 X.2.1 d_Pr_keyOf_28 (by decide) ?_
      exact k_retr hQQ X Y hr (Or.inr ⟨_, rfl⟩) hlk ⟨rfl, rfl, ⟨n108, k108⟩⟩ d_Pr_keyOf_35
  · refine lv_aload_n X.1 X.2.1 d_Pr_keyOf_10 rfl (lv_at hl 0 rfl) ?_
    refine lv_lload_n X.1 X.2.1 d_Pr_keyOf_11 rfl (lv_at hl 2 rfl) ?_
    refine t_ur (t_runV (As := [.long a2]) (rest := []) (n := 1) X Y S k0 hml hl.1 (c_Pr_latestKey l D E T κ L f H.size h k0 a2 S.1) (ok_k X Y hA KS KR) rfl kl_Pr_Pr_latestKey ks_Pr_latestKey kx_Pr_latestKey ki_Pr_latestKey ini_Pr ⟨rfl, rfl⟩ hd_Pr_latestKey ⟨Nat.le_of_ble_eq_true rfl, Nat.le_of_ble_eq_true rfl⟩ rfl (Nat.le_of_ble_eq_true rfl) d_Pr_keyOf_12 ⟨Nat.le_of_ble_eq_true rfl, Nat.le_of_ble_eq_true rfl⟩) X Y hA (fun b109 H locs Y p109 => ?_)
    obtain ⟨n109, k109⟩ := p109
    have x109 := tKey_n k109
    exact k_retr hQQ X Y hr (Or.inr ⟨_, rfl⟩) hlk ⟨rfl, rfl, ⟨n109, k109⟩⟩ d_Pr_keyOf_15
set_option maxHeartbeats 4000000 in
set_option maxRecDepth 100000 in
theorem c_Ti_tell (l : Launch) (D : va_G) (E : cE) (T : cT) (κ : tK) (L : List Nat) (f : pF) (sz : Nat) (h : Nat) (k0 : κ h = (20, 0)) (a1 : Int) (l_a1 : (-2147483648) ≤ a1) (u_a1 : a1 ≤ 2147483647) (hw : tW E T κ L f) : Met l y_Ti_tell (k_Ti_tell :: lw_tg) (kRm 2 80 0 0) (va_Pc [.ref h, .int (iI a1)] (kPre D E T L f sz)) (va_Qi (uPi L f (fun (z : Int) => (-2147483648) ≤ z ∧ z ≤ 2147483647)) (cPost D E (pA L sz)) (pA L sz)) 0 0 (pA L sz) := by
  refine k_enter (own := R_Ti) (by decide) rfl (Nat.le_of_ble_eq_true rfl) (fun p e s m below meth c ls AV QQ H locs hQQ X Y hA hin hr hlk hml hl KS KR => ?_)
  have hl : lv_has ls 2 [(0, .ref h), (1, .int (iI a1))] := hl
  have S : tS E T (tFr κ L [] []) κ L f κ L f := tS_rf hw
  refine lv_iload_n X.1 X.2.1 d_Ti_tell_0 rfl (lv_at hl 1 rfl) ?_
  by_cases h101 : a1 = 0
  · rw [h101]
    refine lv_tableIn (off := 39) (tgt := 40) X.1 X.2.1 d_Ti_tell_1 (by decide) (by decide) (by decide) (by decide) ?_
    refine lv_aload_n X.1 X.2.1 d_Ti_tell_40 rfl (lv_at hl 0 rfl) ?_
    refine t_geti (ci := 10) X Y S k0 rfl i_Ti 5 (by decide) rfl lk_Ti_30 (fun _ h9 => h9) d_Ti_tell_41 (fun z102 e102 l102 u102 => ?_)
    exact c_reti hQQ X Y hr hlk ⟨rfl, rfl, z102, rfl, ⟨by omega, by omega⟩⟩ d_Ti_tell_44
  by_cases h103 : a1 = 1
  · rw [h103]
    refine lv_tableIn (off := 44) (tgt := 45) X.1 X.2.1 d_Ti_tell_1 (by decide) (by decide) (by decide) (by decide) ?_
    refine lv_aload_n X.1 X.2.1 d_Ti_tell_45 rfl (lv_at hl 0 rfl) ?_
    refine t_geti (ci := 10) X Y S k0 rfl i_Ti 6 (by decide) rfl lk_Ti_34 (fun _ h9 => h9) d_Ti_tell_46 (fun z104 e104 l104 u104 => ?_)
    exact c_reti hQQ X Y hr hlk ⟨rfl, rfl, z104, rfl, ⟨by omega, by omega⟩⟩ d_Ti_tell_49
  by_cases h105 : a1 = 2
  · rw [h105]
    refine lv_tableIn (off := 49) (tgt := 50) X.1 X.2.1 d_Ti_tell_1 (by decide) (by decide) (by decide) (by decide) ?_
    refine lv_aload_n X.1 X.2.1 d_Ti_tell_50 rfl (lv_at hl 0 rfl) ?_
    refine t_geti (ci := 10) X Y S k0 rfl i_Ti 7 (by decide) rfl lk_Ti_37 (fun _ h9 => h9) d_Ti_tell_51 (fun z106 e106 l106 u106 => ?_)
    exact c_reti hQQ X Y hr hlk ⟨rfl, rfl, z106, rfl, ⟨by omega, by omega⟩⟩ d_Ti_tell_54
  by_cases h107 : a1 = 3
  · rw [h107]
    refine lv_tableIn (off := 54) (tgt := 55) X.1 X.2.1 d_Ti_tell_1 (by decide) (by decide) (by decide) (by decide) ?_
    refine lv_aload_n X.1 X.2.1 d_Ti_tell_55 rfl (lv_at hl 0 rfl) ?_
    refine t_geti (ci := 10) X Y S k0 rfl i_Ti 8 (by decide) rfl lk_Ti_40 (fun _ h9 => h9) d_Ti_tell_56 (fun z108 e108 l108 u108 => ?_)
    exact c_reti hQQ X Y hr hlk ⟨rfl, rfl, z108, rfl, ⟨by omega, by omega⟩⟩ d_Ti_tell_59
  by_cases h109 : a1 = 4
  · rw [h109]
    refine lv_tableIn (off := 59) (tgt := 60) X.1 X.2.1 d_Ti_tell_1 (by decide) (by decide) (by decide) (by decide) ?_
    refine lv_aload_n X.1 X.2.1 d_Ti_tell_60 rfl (lv_at hl 0 rfl) ?_
    refine t_geti (ci := 10) X Y S k0 rfl i_Ti 9 (by decide) rfl lk_Ti_43 (fun _ h9 => h9) d_Ti_tell_61 (fun z110 e110 l110 u110 => ?_)
    exact c_reti hQQ X Y hr hlk ⟨rfl, rfl, z110, rfl, ⟨by omega, by omega⟩⟩ d_Ti_tell_64
  by_cases h111 : a1 = 5
  · rw [h111]
    refine lv_tableIn (off := 64) (tgt := 65) X.1 X.2.1 d_Ti_tell_1 (by decide) (by decide) (by decide) (by decide) ?_
    refine lv_aload_n X.1 X.2.1 d_Ti_tell_65 rfl (lv_at hl 0 rfl) ?_
    refine t_getk (ci := 10) X Y S k0 rfl i_Ti 4 (by decide) rfl lk_Ti_27 (fun _ h9 => h9) d_Ti_tell_66 (fun b112 n112 e112 k112 x112 => ?_)
    refine t_ui (x_runS (As := [.ref b112]) (rest := []) (n := 1) X hml hl.1 (c_Va_typeOf l D E T κ L f H.size b112 n112 k112 (by omega) S.1) (ok_k X Y hA KS KR) kl_Ti_Va_typeOf ks_Va_typeOf ki_Va_typeOf ini_Va ⟨rfl, rfl⟩ hd_Va_typeOf.2 ⟨Nat.le_of_ble_eq_true rfl, Nat.le_of_ble_eq_true rfl⟩ rfl (Nat.le_of_ble_eq_true rfl) d_Ti_tell_69 ⟨Nat.le_of_ble_eq_true rfl, Nat.le_of_ble_eq_true rfl⟩) X Y hA (fun z113 H locs Y p113 => ?_)
    obtain ⟨l113, u113⟩ := p113
    exact c_reti hQQ X Y hr hlk ⟨rfl, rfl, z113, rfl, ⟨by omega, by omega⟩⟩ d_Ti_tell_72
  refine lv_tableOut (tgt := 73) X.1 X.2.1 d_Ti_tell_1 (by rw [iI_toInt ⟨by omega, by omega⟩]; omega) (by decide) ?_
  refine lv_iconst (v := iI (-1)) X.1 X.2.1 d_Ti_tell_73 (by decide) ?_
  exact c_reti hQQ X Y hr hlk ⟨rfl, rfl, (-1), rfl, ⟨by omega, by omega⟩⟩ d_Ti_tell_74
set_option maxHeartbeats 4000000 in
set_option maxRecDepth 100000 in
theorem c_Ti_setName (l : Launch) (D : va_G) (E : cE) (T : cT) (κ : tK) (L : List Nat) (f : pF) (sz : Nat) (h : Nat) (k0 : κ h = (20, 0)) (a1 n1 : Nat) (k1 : κ a1 = (13, n1)) (x1 : n1 ≤ 12288) (a2 : Int) (l_a2 : (-1) ≤ a2) (u_a2 : a2 ≤ 20200) (hw : tW E T κ L f) : Met l y_Ti_setName (k_Ti_setName :: lw_tg) (kRm 3 112 0 0) (va_Pc [.ref h, .ref a1, .int (iI a2)] (kPre D E T L f sz)) (va_Qv (nPv E T [1, 13, 20] κ L f (fun (g : pF) => True)) (cPost D E (pA L sz)) (pA L sz)) 0 0 (pA L sz) := by
  refine k_enter (own := R_Ti) (by decide) rfl (Nat.le_of_ble_eq_true rfl) (fun p e s m below meth c ls AV QQ H locs hQQ X Y hA hin hr hlk hml hl KS KR => ?_)
  have hl : lv_has ls 5 [(0, .ref h), (1, .ref a1), (2, .int (iI a2))] := hl
  have S : tS E T (tFr κ L [1, 13, 20] []) κ L f κ L f := tS_rf hw
  refine lv_aload_n X.1 X.2.1 d_Ti_setName_0 rfl (lv_at hl 1 rfl) ?_
  refine lv_iload_n X.1 X.2.1 d_Ti_setName_1 rfl (lv_at hl 2 rfl) ?_
  refine lv_iconst (v := iI 1) X.1 X.2.1 d_Ti_setName_2 (by decide) ?_
  refine t_ui (t_runV (As := [.int (iI a2), .int (iI 1)]) (rest := []) (n := 2) X Y S k1 hml hl.1 (c_By_field l D E T κ L f H.size a1 n1 k1 (by omega) a2 (by omega) (by omega) 1 (by omega) (by omega) S.1) (ok_k X Y hA KS KR) rfl kl_Ti_By_field ks_By_field kx_By_field ki_By_field ini_By ⟨rfl, rfl⟩ hd_By_field ⟨Nat.le_of_ble_eq_true rfl, Nat.le_of_ble_eq_true rfl⟩ rfl (Nat.le_of_ble_eq_true rfl) d_Ti_setName_3 ⟨Nat.le_of_ble_eq_true rfl, Nat.le_of_ble_eq_true rfl⟩) X Y hA (fun z101 H locs Y p101 => ?_)
  obtain ⟨l101, u101⟩ := p101
  refine lv_istore_n (lv' := [(3, .int (iI z101)), (0, .ref h), (1, .ref a1), (2, .int (iI a2))]) X.1 X.2.1 d_Ti_setName_6 rfl hl (by decide) rfl (fun ls hl => ?_)
  refine lv_aload_n X.1 X.2.1 d_Ti_setName_7 rfl (lv_at hl 2 rfl) ?_
  refine lv_iload_n X.1 X.2.1 d_Ti_setName_8 rfl (lv_at hl 0 rfl) ?_
  obtain ⟨z102, e102, l102, u102⟩ := t_size S k1
  refine t_ui (t_runV (As := [.int (iI z101)]) (rest := []) (n := 1) X Y S k1 hml hl.1 (c_By_body l D E T κ L f H.size a1 n1 k1 (by omega) z101 (by omega) (by omega) S.1 z102 e102 (by omega) (by omega)) (ok_k X Y hA KS KR) rfl kl_Ti_By_body ks_By_body kx_By_body ki_By_body ini_By ⟨rfl, rfl⟩ hd_By_body ⟨Nat.le_of_ble_eq_true rfl, Nat.le_of_ble_eq_true rfl⟩ rfl (Nat.le_of_ble_eq_true rfl) d_Ti_setName_9 ⟨Nat.le_of_ble_eq_true rfl, Nat.le_of_ble_eq_true rfl⟩) X Y hA (fun z103 H locs Y p103 => ?_)
  obtain ⟨l103, u103, x103⟩ := p103
  refine lv_istore (lv' := [(4, .int (iI z103)), (3, .int (iI z101)), (0, .ref h), (1, .ref a1), (2, .int (iI a2))]) X.1 X.2.1 d_Ti_setName_12 hl (by decide) rfl (fun ls hl => ?_)
  refine lv_aload_n X.1 X.2.1 d_Ti_setName_14 rfl (lv_at hl 2 rfl) ?_
  refine lv_aload_n X.1 X.2.1 d_Ti_setName_15 rfl (lv_at hl 3 rfl) ?_
  refine lv_aload_n X.1 X.2.1 d_Ti_setName_16 rfl (lv_at hl 3 rfl) ?_
  refine lv_iload_n X.1 X.2.1 d_Ti_setName_17 rfl (lv_at hl 4 rfl) ?_
  refine lv_iconst (v := iI 0) X.1 X.2.1 d_Ti_setName_18 (by decide) ?_
  refine t_ui (t_runV (As := [.int (iI a2), .int (iI 0)]) (rest := [.ref a1, .ref h]) (n := 2) X Y S k1 hml hl.1 (c_By_field l D E T κ L f H.size a1 n1 k1 (by omega) a2 (by omega) (by omega) 0 (by omega) (by omega) S.1) (ok_k X Y hA KS KR) rfl kl_Ti_By_field ks_By_field kx_By_field ki_By_field ini_By ⟨rfl, rfl⟩ hd_By_field ⟨Nat.le_of_ble_eq_true rfl, Nat.le_of_ble_eq_true rfl⟩ rfl (Nat.le_of_ble_eq_true rfl) d_Ti_setName_19 ⟨Nat.le_of_ble_eq_true rfl, Nat.le_of_ble_eq_true rfl⟩) X Y hA (fun z104 H locs Y p104 => ?_)
  obtain ⟨l104, u104⟩ := p104
  refine t_ul (t_runV (As := [.int (iI z104)]) (rest := [.ref h]) (n := 1) X Y S k1 hml hl.1 (c_By_numberAt l D E T κ L f H.size a1 n1 k1 (by omega) z104 (by omega) (by omega) S.1) (ok_k X Y hA KS KR) rfl kl_Ti_By_numberAt ks_By_numberAt kx_By_numberAt ki_By_numberAt ini_By ⟨rfl, rfl⟩ hd_By_numberAt ⟨Nat.le_of_ble_eq_true rfl, Nat.le_of_ble_eq_true rfl⟩ rfl (Nat.le_of_ble_eq_true rfl) d_Ti_setName_22 ⟨Nat.le_of_ble_eq_true rfl, Nat.le_of_ble_eq_true rfl⟩) X Y hA (fun v105 H locs Y p105 => ?_)
  refine lv_l2i X.1 X.2.1 d_Ti_setName_25 rfl ?_
  refine t_u (fun z106 l106 u106 => ?_)
  refine t_put (ci := 10) X Y S k0 rfl i_Ti t_Ti t_Ti_ok n_Ti 2 (by decide) rfl lk_Ti_64 (fun _ h9 => h9) rfl (t_Ti_ok 2 (by decide)) rfl rfl ⟨_, rfl, (show ((-2147483648) : Int) ≤ z106 by omega), (show z106 ≤ (2147483647 : Int) by omega)⟩ (nF_of S k0 (by decide)) d_Ti_setName_26 (fun f107 H locs Y S w107 => ?_)
  refine lv_aload_n X.1 X.2.1 d_Ti_setName_29 rfl (lv_at hl 2 rfl) ?_
  refine t_getr (ci := 10) X Y S k0 rfl i_Ti 1 (by decide) rfl (k1 := 13) (k2 := 40) rfl rfl lk_Ti_20 (fun _ h9 => h9) d_Ti_setName_30 (fun b108 e108 k108 => ?_)
  refine t_nv (t_runV (As := []) (rest := []) (n := 0) X Y S k108 hml hl.1 (c_By_clear l D E T κ L f107 H.size b108 40 k108 (by omega) S.1) (ok_k X Y hA KS KR) rfl kl_Ti_By_clear ks_By_clear kx_By_clear ki_By_clear ini_By ⟨rfl, rfl⟩ hd_By_clear ⟨Nat.le_of_ble_eq_true rfl, Nat.le_of_ble_eq_true rfl⟩ rfl (Nat.le_of_ble_eq_true rfl) d_Ti_setName_33 ⟨Nat.le_of_ble_eq_true rfl, Nat.le_of_ble_eq_true rfl⟩) X Y hA S (by decide) (fun f109 H locs Y S s109 p109 => ?_)
  refine lv_aload_n X.1 X.2.1 d_Ti_setName_36 rfl (lv_at hl 2 rfl) ?_
  refine t_get0 (ci := 10) X Y S k0 rfl i_Ti 1 (by decide) rfl lk_Ti_20 (fun _ h9 => h9) d_Ti_setName_37 ((gF_same (s109.2.2.2 _ ⟨(t_obj S.1 k0).1, nM_of k0 (by decide), by simp⟩).1 1).trans e108) ?_
  refine lv_aload_n X.1 X.2.1 d_Ti_setName_40 rfl (lv_at hl 3 rfl) ?_
  refine t_getrow (ci := 3) X Y S k1 rfl i_By 0 (by decide) rfl lk_Ti_70 (fun _ h9 => h9) d_Ti_setName_41 (fun b110 e110 k110 => ?_)
  refine lv_iload X.1 X.2.1 d_Ti_setName_44 (lv_at hl 0 rfl) ?_
  refine lv_aload_n X.1 X.2.1 d_Ti_setName_46 rfl (lv_at hl 3 rfl) ?_
  refine lv_iload_n X.1 X.2.1 d_Ti_setName_47 rfl (lv_at hl 1 rfl) ?_
  refine lv_aload_n X.1 X.2.1 d_Ti_setName_48 rfl (lv_at hl 3 rfl) ?_
  refine t_gets (ci := 3) X Y S k1 rfl i_By 1 (by decide) rfl lk_Ti_73 (fun _ h9 => h9) d_Ti_setName_49 (fun z111 e111 l111 u111 => ?_)
  refine t_ui (t_runV (As := [.int (iI z101), .int (iI z111)]) (rest := [.int (iI z103), .ref b110, .ref b108]) (n := 2) X Y S k1 hml hl.1 (c_By_stop l D E T κ L f109 H.size a1 n1 k1 (by omega) z101 (by omega) (by omega) z111 (by omega) (by omega) S.1 z111 e111 (by omega) (by omega)) (ok_k X Y hA KS KR) rfl kl_Ti_By_stop ks_By_stop kx_By_stop ki_By_stop ini_By ⟨rfl, rfl⟩ hd_By_stop ⟨Nat.le_of_ble_eq_true rfl, Nat.le_of_ble_eq_true rfl⟩ rfl (Nat.le_of_ble_eq_true rfl) d_Ti_setName_52 ⟨Nat.le_of_ble_eq_true rfl, Nat.le_of_ble_eq_true rfl⟩) X Y hA (fun z112 H locs Y p112 => ?_)
  obtain ⟨l112, u112, x112⟩ := p112
  refine lv_iload X.1 X.2.1 d_Ti_setName_55 (lv_at hl 0 rfl) ?_
  refine z_isub X.1 X.2.1 d_Ti_setName_57 ?_
  refine t_nv (t_runV (As := [.ref b110, .int (iI z103), .int (iI (z112 - z103))]) (rest := []) (n := 3) X Y S k108 hml hl.1 (c_By_append l D E T κ L f109 H.size b108 40 k108 (by omega) b110 n1 (Or.inl k110) (by omega) z103 (by omega) (by omega) (z112 - z103) (by omega) (by omega) S.1) (ok_k X Y hA KS KR) rfl kl_Ti_By_append ks_By_append kx_By_append ki_By_append ini_By ⟨rfl, rfl⟩ hd_By_append ⟨Nat.le_of_ble_eq_true rfl, Nat.le_of_ble_eq_true rfl⟩ rfl (Nat.le_of_ble_eq_true rfl) d_Ti_setName_58 ⟨Nat.le_of_ble_eq_true rfl, Nat.le_of_ble_eq_true rfl⟩) X Y hA S (by decide) (fun f113 H locs Y S s113 p113 => ?_)
  exact c_retv hQQ X Y hr hlk ⟨rfl, S, trivial⟩ d_Ti_setName_61
set_option maxHeartbeats 4000000 in
set_option maxRecDepth 100000 in
theorem c_Ti_setRaw (l : Launch) (D : va_G) (E : cE) (T : cT) (κ : tK) (L : List Nat) (f : pF) (sz : Nat) (h : Nat) (k0 : κ h = (20, 0)) (a1 n1 : Nat) (k1 : κ a1 = (13, n1)) (x1 : n1 ≤ 4000) (a2 : Int) (l_a2 : (-1) ≤ a2) (u_a2 : a2 ≤ 20200) (hw : tW E T κ L f) : Met l y_Ti_setRaw (k_Ti_setRaw :: lw_tg) (kRm 2 85 2 4003) (va_Pc [.ref h, .ref a1, .int (iI a2)] (kPre D E T L f sz)) (va_Qv (aPv E T [1, 13, 20] [] κ L f (fun (k : tK) (g : pF) => True)) (cPost D E (pA L sz)) (pA L sz)) 2 4003 (pA L sz) := by
  refine k_enter (own := R_Ti) (by decide) rfl (Nat.le_of_ble_eq_true rfl) (fun p e s m below meth c ls AV QQ H locs hQQ X Y hA hin hr hlk hml hl KS KR => ?_)
  have hl : lv_has ls 4 [(0, .ref h), (1, .ref a1), (2, .int (iI a2))] := hl
  have S : tS E T (tFr κ L [1, 13, 20] []) κ L f κ L f := tS_rf hw
  have hF0 : ∀ b, tFr κ L [1, 13, 20] [] b → b ∈ L := fun b h9 => h9.1
  refine lv_aload_n X.1 X.2.1 d_Ti_setRaw_0 rfl (lv_at hl 1 rfl) ?_
  refine lv_iload_n X.1 X.2.1 d_Ti_setRaw_1 rfl (lv_at hl 2 rfl) ?_
  refine lv_aload_n X.1 X.2.1 d_Ti_setRaw_2 rfl (lv_at hl 1 rfl) ?_
  refine t_gets (ci := 3) X Y S k1 rfl i_By 1 (by decide) rfl lk_Ti_73 (fun _ h9 => h9) d_Ti_setRaw_3 (fun z101 e101 l101 u101 => ?_)
  refine t_ui (t_runV (As := [.int (iI a2), .int (iI z101)]) (rest := []) (n := 2) X Y S k1 hml hl.1 (c_By_stop l D E T κ L f H.size a1 n1 k1 (by omega) a2 (by omega) (by omega) z101 (by omega) (by omega) S.1 z101 e101 (by omega) (by omega)) (ok_k X Y hA KS KR) rfl kl_Ti_By_stop ks_By_stop kx_By_stop ki_By_stop ini_By ⟨rfl, rfl⟩ hd_By_stop ⟨Nat.le_of_ble_eq_true rfl, Nat.le_of_ble_eq_true rfl⟩ rfl (Nat.le_of_ble_eq_true rfl) d_Ti_setRaw_6 ⟨Nat.le_of_ble_eq_true rfl, Nat.le_of_ble_eq_true rfl⟩) X Y hA (fun z102 H locs Y p102 => ?_)
  obtain ⟨l102, u102, x102⟩ := p102
  refine lv_iload_n X.1 X.2.1 d_Ti_setRaw_9 rfl (lv_at hl 2 rfl) ?_
  refine z_isub X.1 X.2.1 d_Ti_setRaw_10 ?_
  refine lv_istore_n (lv' := [(3, .int (iI (z102 - a2))), (0, .ref h), (1, .ref a1), (2, .int (iI a2))]) X.1 X.2.1 d_Ti_setRaw_11 rfl hl (by decide) rfl (fun ls hl => ?_)
  refine lv_iload_n X.1 X.2.1 d_Ti_setRaw_12 rfl (lv_at hl 0 rfl) ?_
  refine lv_aload_n X.1 X.2.1 d_Ti_setRaw_13 rfl (lv_at hl 1 rfl) ?_
  refine t_getm (ci := 10) X Y S k0 rfl i_Ti 0 (by decide) rfl (k1 := 13) (k2 := 4000) rfl rfl lk_Ti_14 (fun _ h9 => h9) d_Ti_setRaw_14 (fun b103 n103 e103 k103 x103 => ?_)
  refine t_getrow (ci := 3) X Y S k103 rfl i_By 0 (by decide) rfl lk_Ti_70 (fun _ h9 => h9) d_Ti_setRaw_17 (fun b104 e104 k104 => ?_)
  refine t_alen X Y S KS (Or.inl k104) (by omega) d_Ti_setRaw_20 ?_
  have J110 : ∀ (κ106 : tK) (L107 : List Nat) (f105 : pF) (H : Heap) (locs : List Loc) (ls : Array Slot), (κ106 h = (20, 0)) → (κ106 a1 = (13, n1)) → pH D cCl (pA L sz) s.heap L107 f105 H locs → tS E T (tFr κ L [1, 13, 20] []) κ L f κ106 L107 f105 → lv_has ls 4 [(0, .ref h), (1, .ref a1), (2, .int (iI a2)), (3, .int (iI (z102 - a2)))] → W p l e (kRm 2 85 2 4003) s m AV below meth c H locs 2 4003 QQ (F0 m 36 ls []) := by
    intro κ106 L107 f105 H locs ls k108 k109 Y S hl
    refine lv_aload_n X.1 X.2.1 d_Ti_setRaw_36 rfl (lv_at hl 0 rfl) ?_
    refine t_getm (ci := 10) X Y S k108 rfl i_Ti 0 (by decide) rfl (k1 := 13) (k2 := 4000) rfl rfl lk_Ti_14 (fun _ h9 => h9) d_Ti_setRaw_37 (fun b114 n114 e114 k114 x114 => ?_)
    refine t_nv (t_runV (As := []) (rest := []) (n := 0) X Y S k114 hml hl.1 (c_By_clear l D E T κ106 L107 f105 H.size b114 n114 k114 (by omega) S.1) (ok_k X Y hA KS KR) rfl kl_Ti_By_clear ks_By_clear kx_By_clear ki_By_clear ini_By ⟨rfl, rfl⟩ hd_By_clear ⟨Nat.le_of_ble_eq_true rfl, Nat.le_of_ble_eq_true rfl⟩ rfl (Nat.le_of_ble_eq_true rfl) d_Ti_setRaw_40 ⟨Nat.le_of_ble_eq_true rfl, Nat.le_of_ble_eq_true rfl⟩) X Y hA S (by decide) (fun f115 H locs Y S s115 p115 => ?_)
    refine lv_aload_n X.1 X.2.1 d_Ti_setRaw_43 rfl (lv_at hl 0 rfl) ?_
    refine t_get0 (ci := 10) X Y S k108 rfl i_Ti 0 (by decide) rfl lk_Ti_14 (fun _ h9 => h9) d_Ti_setRaw_44 ((gF_same (s115.2.2.2 _ ⟨(t_obj S.1 k108).1, nM_of k108 (by decide), by simp⟩).1 0).trans e114) ?_
    refine lv_aload_n X.1 X.2.1 d_Ti_setRaw_47 rfl (lv_at hl 1 rfl) ?_
    refine t_getrow (ci := 3) X Y S k109 rfl i_By 0 (by decide) rfl lk_Ti_70 (fun _ h9 => h9) d_Ti_setRaw_48 (fun b116 e116 k116 => ?_)
    refine lv_iload_n X.1 X.2.1 d_Ti_setRaw_51 rfl (lv_at hl 2 rfl) ?_
    refine lv_iload_n X.1 X.2.1 d_Ti_setRaw_52 rfl (lv_at hl 3 rfl) ?_
    refine t_nv (t_runV (As := [.ref b116, .int (iI a2), .int (iI (z102 - a2))]) (rest := []) (n := 3) X Y S k114 hml hl.1 (c_By_append l D E T κ106 L107 f115 H.size b114 n114 k114 (by omega) b116 n1 (Or.inl k116) (by omega) a2 (by omega) (by omega) (z102 - a2) (by omega) (by omega) S.1) (ok_k X Y hA KS KR) rfl kl_Ti_By_append ks_By_append kx_By_append ki_By_append ini_By ⟨rfl, rfl⟩ hd_By_append ⟨Nat.le_of_ble_eq_true rfl, Nat.le_of_ble_eq_true rfl⟩ rfl (Nat.le_of_ble_eq_true rfl) d_Ti_setRaw_53 ⟨Nat.le_of_ble_eq_true rfl, Nat.le_of_ble_eq_true rfl⟩) X Y hA S (by decide) (fun f117 H locs Y S s117 p117 => ?_)
    exact c_retv hQQ X Y hr hlk ⟨κ106, S, trivial⟩ d_Ti_setRaw_56
  refine z_icmp_le (tgt := 36) X.1 X.2.1 d_Ti_setRaw_21 (by decide) ⟨by omega, by omega⟩ ⟨by omega, by omega⟩ (fun h118 => ?_) (fun h118 => ?_)
  · refine W.widen (k := 2) (n := 4003) (Nat.le_of_ble_eq_true rfl) (Nat.le_of_ble_eq_true rfl) ?_
    exact J110 κ L f _ _ _ k0 k1 Y S (lv_sub hl [1, 2, 3, 0] rfl)
  · refine lv_aload_n X.1 X.2.1 d_Ti_setRaw_24 rfl (lv_at hl 1 rfl) ?_
    refine t_new (ci := 3) X Y S hA hF0 i_By t_By t_By_ok ck_Ti_9 mk_By ini_By rfl (fs := [.null, .int (iI 0)]) (fun j hj => match j, hj with | 0, _ => rfl | 1, _ => rfl | n9 + 2, h9 => absurd (show n9 + 2 < 2 from h9) (by omega)) (Nat.le_of_ble_eq_true rfl) (Nat.le_of_ble_eq_true rfl) d_Ti_setRaw_25 (fun q119 L119 f119 H Y S s119 nl119 m119 r119 e119 nz119 => ?_)
    have k120 : κ h = (20, 0) := tLe_k s119.2.2.1 k0
    have k121 : κ a1 = (13, n1) := tLe_k s119.2.2.1 k1
    refine lv_dup X.1 X.2.1 d_Ti_setRaw_28 rfl ?_
    refine lv_iload_n X.1 X.2.1 d_Ti_setRaw_29 rfl (lv_at hl 0 rfl) ?_
    refine t_mk (x_runI (As := [.int (iI (z102 - a2))]) (rest := [.ref q119, .ref h]) (n := 1) X hml hl.1 (c_By_init l D E T κ L119 f119 H.size q119 m119 r119 e119 (z102 - a2) (by omega) (by omega) S.1 (z102 - a2).toNat 4001 (by omega) (by omega) (by decide)) (ok_k X Y hA KS KR) kl_Ti_By_init ks_By_init ki_By_init ini_By rfl ⟨rfl, rfl⟩ hd_By_init.2 ⟨Nat.le_of_ble_eq_true rfl, Nat.le_of_ble_eq_true rfl⟩ rfl (Nat.le_of_ble_eq_true rfl) d_Ti_setRaw_30 ⟨Nat.le_of_ble_eq_true rfl, Nat.le_of_ble_eq_true rfl⟩) X Y hA S (by decide) nl119 (fun κ122 L122 f122 H locs Y S s122 p122 => ?_)
    have k122 := p122
    have k123 : κ122 h = (20, 0) := tLe_k s122.2.2.1 k120
    have k124 : κ122 a1 = (13, n1) := tLe_k s122.2.2.1 k121
    refine t_put (ci := 10) X Y S k123 rfl i_Ti t_Ti t_Ti_ok n_Ti 0 (by decide) rfl lk_Ti_14 (fun _ h9 => h9) rfl (t_Ti_ok 0 (by decide)) rfl rfl ⟨_, _, rfl, k122, (show (((z102 - a2).toNat : Nat) : Int) ≤ 4000 by omega)⟩ (nF_of S k123 (by decide)) d_Ti_setRaw_33 (fun f125 H locs Y S w125 => ?_)
    exact J110 κ122 L122 f125 _ _ _ k123 k124 Y S (lv_sub hl [1, 2, 3, 0] rfl)
set_option maxHeartbeats 4000000 in
set_option maxRecDepth 100000 in
theorem c_Ti_setTold (l : Launch) (D : va_G) (E : cE) (T : cT) (κ : tK) (L : List Nat) (f : pF) (sz : Nat) (h : Nat) (k0 : κ h = (20, 0)) (a1 n1 : Nat) (k1 : tKey T κ a1 n1) (x1 : n1 = 0 ∨ n1 = 16 ∨ n1 = 32) (a2 n2 : Nat) (k2 : κ a2 = (13, n2)) (x2 : n2 ≤ 12288) (a3 : Int) (l_a3 : (-1) ≤ a3) (u_a3 : a3 ≤ 20200) (a4 : Int) (l_a4 : 0 ≤ a4) (u_a4 : a4 ≤ 8) (hw : tW E T κ L f) : Met l y_Ti_setTold (k_Ti_setTold :: lw_tg) (kRm 4 130 0 0) (va_Pc [.ref h, .ref a1, .ref a2, .int (iI a3), .int (iI a4)] (kPre D E T L f sz)) (va_Qv (nPv E T [20] κ L f (fun (g : pF) => True)) (cPost D E (pA L sz)) (pA L sz)) 0 0 (pA L sz) := by
  refine k_enter (own := R_Ti) (by decide) rfl (Nat.le_of_ble_eq_true rfl) (fun p e s m below meth c ls AV QQ H locs hQQ X Y hA hin hr hlk hml hl KS KR => ?_)
  have hl : lv_has ls 5 [(0, .ref h), (1, .ref a1), (2, .ref a2), (3, .int (iI a3)), (4, .int (iI a4))] := hl
  have S : tS E T (tFr κ L [20] []) κ L f κ L f := tS_rf hw
  refine lv_aload_n X.1 X.2.1 d_Ti_setTold_0 rfl (lv_at hl 0 rfl) ?_
  refine lv_aload_n X.1 X.2.1 d_Ti_setTold_1 rfl (lv_at hl 1 rfl) ?_
  refine t_put (ci := 10) X Y S k0 rfl i_Ti t_Ti t_Ti_ok n_Ti 4 (by decide) rfl lk_Ti_27 (fun _ h9 => h9) rfl (t_Ti_ok 4 (by decide)) rfl rfl ⟨_, n1, rfl, k1⟩ (nF_of S k0 (by decide)) d_Ti_setTold_2 (fun f101 H locs Y S w101 => ?_)
  refine lv_aload_n X.1 X.2.1 d_Ti_setTold_5 rfl (lv_at hl 0 rfl) ?_
  refine lv_aload_n X.1 X.2.1 d_Ti_setTold_6 rfl (lv_at hl 2 rfl) ?_
  refine lv_aload_n X.1 X.2.1 d_Ti_setTold_7 rfl (lv_at hl 2 rfl) ?_
  refine lv_iload_n X.1 X.2.1 d_Ti_setTold_8 rfl (lv_at hl 3 rfl) ?_
  refine lv_iload X.1 X.2.1 d_Ti_setTold_9 (lv_at hl 4 rfl) ?_
  refine t_ui (t_runV (As := [.int (iI a3), .int (iI a4)]) (rest := [.ref a2, .ref h]) (n := 2) X Y S k2 hml hl.1 (c_By_field l D E T κ L f101 H.size a2 n2 k2 (by omega) a3 (by omega) (by omega) a4 (by omega) (by omega) S.1) (ok_k X Y hA KS KR) rfl kl_Ti_By_field ks_By_field kx_By_field ki_By_field ini_By ⟨rfl, rfl⟩ hd_By_field ⟨Nat.le_of_ble_eq_true rfl, Nat.le_of_ble_eq_true rfl⟩ rfl (Nat.le_of_ble_eq_true rfl) d_Ti_setTold_11 ⟨Nat.le_of_ble_eq_true rfl, Nat.le_of_ble_eq_true rfl⟩) X Y hA (fun z102 H locs Y p102 => ?_)
  obtain ⟨l102, u102⟩ := p102
  refine t_ui (t_runV (As := [.int (iI z102)]) (rest := [.ref h]) (n := 1) X Y S k2 hml hl.1 (c_By_bitsAt l D E T κ L f101 H.size a2 n2 k2 (by omega) z102 (by omega) (by omega) S.1) (ok_k X Y hA KS KR) rfl kl_Ti_By_bitsAt ks_By_bitsAt kx_By_bitsAt ki_By_bitsAt ini_By ⟨rfl, rfl⟩ hd_By_bitsAt ⟨Nat.le_of_ble_eq_true rfl, Nat.le_of_ble_eq_true rfl⟩ rfl (Nat.le_of_ble_eq_true rfl) d_Ti_setTold_14 ⟨Nat.le_of_ble_eq_true rfl, Nat.le_of_ble_eq_true rfl⟩) X Y hA (fun z103 H locs Y p103 => ?_)
  obtain ⟨l103, u103⟩ := p103
  refine t_put (ci := 10) X Y S k0 rfl i_Ti t_Ti t_Ti_ok n_Ti 5 (by decide) rfl lk_Ti_30 (fun _ h9 => h9) rfl (t_Ti_ok 5 (by decide)) rfl rfl ⟨_, rfl, (show ((-2147483648) : Int) ≤ z103 by omega), (show z103 ≤ (2147483647 : Int) by omega)⟩ (nF_of S k0 (by decide)) d_Ti_setTold_17 (fun f104 H locs Y S w104 => ?_)
  refine lv_aload_n X.1 X.2.1 d_Ti_setTold_20 rfl (lv_at hl 0 rfl) ?_
  refine lv_aload_n X.1 X.2.1 d_Ti_setTold_21 rfl (lv_at hl 2 rfl) ?_
  refine lv_aload_n X.1 X.2.1 d_Ti_setTold_22 rfl (lv_at hl 2 rfl) ?_
  refine lv_iload_n X.1 X.2.1 d_Ti_setTold_23 rfl (lv_at hl 3 rfl) ?_
  refine lv_iload X.1 X.2.1 d_Ti_setTold_24 (lv_at hl 4 rfl) ?_
  refine lv_iconst (v := iI 1) X.1 X.2.1 d_Ti_setTold_26 (by decide) ?_
  refine z_iadd X.1 X.2.1 d_Ti_setTold_27 ?_
  refine t_ui (t_runV (As := [.int (iI a3), .int (iI (a4 + 1))]) (rest := [.ref a2, .ref h]) (n := 2) X Y S k2 hml hl.1 (c_By_field l D E T κ L f104 H.size a2 n2 k2 (by omega) a3 (by omega) (by omega) (a4 + 1) (by omega) (by omega) S.1) (ok_k X Y hA KS KR) rfl kl_Ti_By_field ks_By_field kx_By_field ki_By_field ini_By ⟨rfl, rfl⟩ hd_By_field ⟨Nat.le_of_ble_eq_true rfl, Nat.le_of_ble_eq_true rfl⟩ rfl (Nat.le_of_ble_eq_true rfl) d_Ti_setTold_28 ⟨Nat.le_of_ble_eq_true rfl, Nat.le_of_ble_eq_true rfl⟩) X Y hA (fun z105 H locs Y p105 => ?_)
  obtain ⟨l105, u105⟩ := p105
  refine t_ui (t_runV (As := [.int (iI z105)]) (rest := [.ref h]) (n := 1) X Y S k2 hml hl.1 (c_By_timeAt l D E T κ L f104 H.size a2 n2 k2 (by omega) z105 (by omega) (by omega) S.1) (ok_k X Y hA KS KR) rfl kl_Ti_By_timeAt ks_By_timeAt kx_By_timeAt ki_By_timeAt ini_By ⟨rfl, rfl⟩ hd_By_timeAt ⟨Nat.le_of_ble_eq_true rfl, Nat.le_of_ble_eq_true rfl⟩ rfl (Nat.le_of_ble_eq_true rfl) d_Ti_setTold_31 ⟨Nat.le_of_ble_eq_true rfl, Nat.le_of_ble_eq_true rfl⟩) X Y hA (fun z106 H locs Y p106 => ?_)
  obtain ⟨l106, u106⟩ := p106
  refine t_put (ci := 10) X Y S k0 rfl i_Ti t_Ti t_Ti_ok n_Ti 6 (by decide) rfl lk_Ti_34 (fun _ h9 => h9) rfl (t_Ti_ok 6 (by decide)) rfl rfl ⟨_, rfl, (show ((-2147483648) : Int) ≤ z106 by omega), (show z106 ≤ (2147483647 : Int) by omega)⟩ (nF_of S k0 (by decide)) d_Ti_setTold_34 (fun f107 H locs Y S w107 => ?_)
  refine lv_aload_n X.1 X.2.1 d_Ti_setTold_37 rfl (lv_at hl 0 rfl) ?_
  refine lv_aload_n X.1 X.2.1 d_Ti_setTold_38 rfl (lv_at hl 2 rfl) ?_
  refine lv_aload_n X.1 X.2.1 d_Ti_setTold_39 rfl (lv_at hl 2 rfl) ?_
  refine lv_iload_n X.1 X.2.1 d_Ti_setTold_40 rfl (lv_at hl 3 rfl) ?_
  refine lv_iload X.1 X.2.1 d_Ti_setTold_41 (lv_at hl 4 rfl) ?_
  refine lv_iconst (v := iI 2) X.1 X.2.1 d_Ti_setTold_43 (by decide) ?_
  refine z_iadd X.1 X.2.1 d_Ti_setTold_44 ?_
  refine t_ui (t_runV (As := [.int (iI a3), .int (iI (a4 + 2))]) (rest := [.ref a2, .ref h]) (n := 2) X Y S k2 hml hl.1 (c_By_field l D E T κ L f107 H.size a2 n2 k2 (by omega) a3 (by omega) (by omega) (a4 + 2) (by omega) (by omega) S.1) (ok_k X Y hA KS KR) rfl kl_Ti_By_field ks_By_field kx_By_field ki_By_field ini_By ⟨rfl, rfl⟩ hd_By_field ⟨Nat.le_of_ble_eq_true rfl, Nat.le_of_ble_eq_true rfl⟩ rfl (Nat.le_of_ble_eq_true rfl) d_Ti_setTold_45 ⟨Nat.le_of_ble_eq_true rfl, Nat.le_of_ble_eq_true rfl⟩) X Y hA (fun z108 H locs Y p108 => ?_)
  obtain ⟨l108, u108⟩ := p108
  refine t_ui (t_runV (As := [.int (iI z108)]) (rest := [.ref h]) (n := 1) X Y S k2 hml hl.1 (c_By_timeAt l D E T κ L f107 H.size a2 n2 k2 (by omega) z108 (by omega) (by omega) S.1) (ok_k X Y hA KS KR) rfl kl_Ti_By_timeAt ks_By_timeAt kx_By_timeAt ki_By_timeAt ini_By ⟨rfl, rfl⟩ hd_By_timeAt ⟨Nat.le_of_ble_eq_true rfl, Nat.le_of_ble_eq_true rfl⟩ rfl (Nat.le_of_ble_eq_true rfl) d_Ti_setTold_48 ⟨Nat.le_of_ble_eq_true rfl, Nat.le_of_ble_eq_true rfl⟩) X Y hA (fun z109 H locs Y p109 => ?_)
  obtain ⟨l109, u109⟩ := p109
  refine t_put (ci := 10) X Y S k0 rfl i_Ti t_Ti t_Ti_ok n_Ti 7 (by decide) rfl lk_Ti_37 (fun _ h9 => h9) rfl (t_Ti_ok 7 (by decide)) rfl rfl ⟨_, rfl, (show ((-2147483648) : Int) ≤ z109 by omega), (show z109 ≤ (2147483647 : Int) by omega)⟩ (nF_of S k0 (by decide)) d_Ti_setTold_51 (fun f110 H locs Y S w110 => ?_)
  refine lv_aload_n X.1 X.2.1 d_Ti_setTold_54 rfl (lv_at hl 0 rfl) ?_
  refine lv_aload_n X.1 X.2.1 d_Ti_setTold_55 rfl (lv_at hl 2 rfl) ?_
  refine lv_aload_n X.1 X.2.1 d_Ti_setTold_56 rfl (lv_at hl 2 rfl) ?_
  refine lv_iload_n X.1 X.2.1 d_Ti_setTold_57 rfl (lv_at hl 3 rfl) ?_
  refine lv_iload X.1 X.2.1 d_Ti_setTold_58 (lv_at hl 4 rfl) ?_
  refine lv_iconst (v := iI 3) X.1 X.2.1 d_Ti_setTold_60 (by decide) ?_
  refine z_iadd X.1 X.2.1 d_Ti_setTold_61 ?_
  refine t_ui (t_runV (As := [.int (iI a3), .int (iI (a4 + 3))]) (rest := [.ref a2, .ref h]) (n := 2) X Y S k2 hml hl.1 (c_By_field l D E T κ L f110 H.size a2 n2 k2 (by omega) a3 (by omega) (by omega) (a4 + 3) (by omega) (by omega) S.1) (ok_k X Y hA KS KR) rfl kl_Ti_By_field ks_By_field kx_By_field ki_By_field ini_By ⟨rfl, rfl⟩ hd_By_field ⟨Nat.le_of_ble_eq_true rfl, Nat.le_of_ble_eq_true rfl⟩ rfl (Nat.le_of_ble_eq_true rfl) d_Ti_setTold_62 ⟨Nat.le_of_ble_eq_true rfl, Nat.le_of_ble_eq_true rfl⟩) X Y hA (fun z111 H locs Y p111 => ?_)
  obtain ⟨l111, u111⟩ := p111
  refine t_ui (t_runV (As := [.int (iI z111)]) (rest := [.ref h]) (n := 1) X Y S k2 hml hl.1 (c_By_timeAt l D E T κ L f110 H.size a2 n2 k2 (by omega) z111 (by omega) (by omega) S.1) (ok_k X Y hA KS KR) rfl kl_Ti_By_timeAt ks_By_timeAt kx_By_timeAt ki_By_timeAt ini_By ⟨rfl, rfl⟩ hd_By_timeAt ⟨Nat.le_of_ble_eq_true rfl, Nat.le_of_ble_eq_true rfl⟩ rfl (Nat.le_of_ble_eq_true rfl) d_Ti_setTold_65 ⟨Nat.le_of_ble_eq_true rfl, Nat.le_of_ble_eq_true rfl⟩) X Y hA (fun z112 H locs Y p112 => ?_)
  obtain ⟨l112, u112⟩ := p112
  refine t_put (ci := 10) X Y S k0 rfl i_Ti t_Ti t_Ti_ok n_Ti 8 (by decide) rfl lk_Ti_40 (fun _ h9 => h9) rfl (t_Ti_ok 8 (by decide)) rfl rfl ⟨_, rfl, (show ((-2147483648) : Int) ≤ z112 by omega), (show z112 ≤ (2147483647 : Int) by omega)⟩ (nF_of S k0 (by decide)) d_Ti_setTold_68 (fun f113 H locs Y S w113 => ?_)
  refine lv_aload_n X.1 X.2.1 d_Ti_setTold_71 rfl (lv_at hl 0 rfl) ?_
  refine lv_aload_n X.1 X.2.1 d_Ti_setTold_72 rfl (lv_at hl 2 rfl) ?_
  refine lv_aload_n X.1 X.2.1 d_Ti_setTold_73 rfl (lv_at hl 2 rfl) ?_
  refine lv_iload_n X.1 X.2.1 d_Ti_setTold_74 rfl (lv_at hl 3 rfl) ?_
  refine lv_iload X.1 X.2.1 d_Ti_setTold_75 (lv_at hl 4 rfl) ?_
  refine lv_iconst (v := iI 4) X.1 X.2.1 d_Ti_setTold_77 (by decide) ?_
  refine z_iadd X.1 X.2.1 d_Ti_setTold_78 ?_
  refine t_ui (t_runV (As := [.int (iI a3), .int (iI (a4 + 4))]) (rest := [.ref a2, .ref h]) (n := 2) X Y S k2 hml hl.1 (c_By_field l D E T κ L f113 H.size a2 n2 k2 (by omega) a3 (by omega) (by omega) (a4 + 4) (by omega) (by omega) S.1) (ok_k X Y hA KS KR) rfl kl_Ti_By_field ks_By_field kx_By_field ki_By_field ini_By ⟨rfl, rfl⟩ hd_By_field ⟨Nat.le_of_ble_eq_true rfl, Nat.le_of_ble_eq_true rfl⟩ rfl (Nat.le_of_ble_eq_true rfl) d_Ti_setTold_79 ⟨Nat.le_of_ble_eq_true rfl, Nat.le_of_ble_eq_true rfl⟩) X Y hA (fun z114 H locs Y p114 => ?_)
  obtain ⟨l114, u114⟩ := p114
  refine t_ui (t_runV (As := [.int (iI z114)]) (rest := [.ref h]) (n := 1) X Y S k2 hml hl.1 (c_By_timeAt l D E T κ L f113 H.size a2 n2 k2 (by omega) z114 (by omega) (by omega) S.1) (ok_k X Y hA KS KR) rfl kl_Ti_By_timeAt ks_By_timeAt kx_By_timeAt ki_By_timeAt ini_By ⟨rfl, rfl⟩ hd_By_timeAt ⟨Nat.le_of_ble_eq_true rfl, Nat.le_of_ble_eq_true rfl⟩ rfl (Nat.le_of_ble_eq_true rfl) d_Ti_setTold_82 ⟨Nat.le_of_ble_eq_true rfl, Nat.le_of_ble_eq_true rfl⟩) X Y hA (fun z115 H locs Y p115 => ?_)
  obtain ⟨l115, u115⟩ := p115
  refine t_put (ci := 10) X Y S k0 rfl i_Ti t_Ti t_Ti_ok n_Ti 9 (by decide) rfl lk_Ti_43 (fun _ h9 => h9) rfl (t_Ti_ok 9 (by decide)) rfl rfl ⟨_, rfl, (show ((-2147483648) : Int) ≤ z115 by omega), (show z115 ≤ (2147483647 : Int) by omega)⟩ (nF_of S k0 (by decide)) d_Ti_setTold_85 (fun f116 H locs Y S w116 => ?_)
  refine lv_aload_n X.1 X.2.1 d_Ti_setTold_88 rfl (lv_at hl 0 rfl) ?_
  refine lv_iconst (v := iI 1) X.1 X.2.1 d_Ti_setTold_89 (by decide) ?_
  refine t_put (ci := 10) X Y S k0 rfl i_Ti t_Ti t_Ti_ok n_Ti 3 (by decide) rfl lk_Ti_89 (fun _ h9 => h9) rfl (t_Ti_ok 3 (by decide)) (iI_bool (by omega) (by omega)).1 (iI_bool (by omega) (by omega)).2 ⟨_, rfl, (show (0 : Int) ≤ 1 by omega), (show 1 ≤ (1 : Int) by omega)⟩ (nF_of S k0 (by decide)) d_Ti_setTold_90 (fun f117 H locs Y S w117 => ?_)
  exact c_retv hQQ X Y hr hlk ⟨rfl, S, trivial⟩ d_Ti_setTold_93
set_option maxHeartbeats 4000000 in
set_option maxRecDepth 100000 in
theorem c_Ti_putInfo (l : Launch) (D : va_G) (E : cE) (T : cT) (κ : tK) (L : List Nat) (f : pF) (sz : Nat) (h : Nat) (k0 : κ h = (20, 0)) (a1 n1 : Nat) (k1 : κ a1 = (13, n1)) (x1 : n1 ≤ 12288) (hw : tW E T κ L f) : Met l y_Ti_putInfo (k_Ti_putInfo :: lw_tg) (kRm 7 181 0 0) (va_Pc [.ref h, .ref a1] (kPre D E T L f sz)) (va_Qv (nPv E T [1, 13] κ L f (fun (g : pF) => True)) (cPost D E (pA L sz)) (pA L sz)) 0 0 (pA L sz) := by
  refine k_enter (own := R_Ti) (by decide) rfl (Nat.le_of_ble_eq_true rfl) (fun p e s m below meth c ls AV QQ H locs hQQ X Y hA hin hr hlk hml hl KS KR => ?_)
  have hl : lv_has ls 3 [(0, .ref h), (1, .ref a1)] := hl
  have S : tS E T (tFr κ L [1, 13] []) κ L f κ L f := tS_rf hw
  refine lv_aload_n X.1 X.2.1 d_Ti_putInfo_0 rfl (lv_at hl 1 rfl) ?_
  refine lv_bipush (v := iI 48) X.1 X.2.1 d_Ti_putInfo_1 (by decide) ?_
  refine t_ni (t_runV (As := [.int (iI 48)]) (rest := []) (n := 1) X Y S k1 hml hl.1 (c_By_open l D E T κ L f H.size a1 n1 k1 (by omega) 48 (by omega) (by omega) S.1) (ok_k X Y hA KS KR) rfl kl_Ti_By_open ks_By_open kx_By_open ki_By_open ini_By ⟨rfl, rfl⟩ hd_By_open ⟨Nat.le_of_ble_eq_true rfl, Nat.le_of_ble_eq_true rfl⟩ rfl (Nat.le_of_ble_eq_true rfl) d_Ti_putInfo_3 ⟨Nat.le_of_ble_eq_true rfl, Nat.le_of_ble_eq_true rfl⟩) X Y hA S (by decide) (fun z101 f101 H locs Y S s101 p101 => ?_)
  obtain ⟨l101, u101⟩ := p101
  refine lv_istore_n (lv' := [(2, .int (iI z101)), (0, .ref h), (1, .ref a1)]) X.1 X.2.1 d_Ti_putInfo_6 rfl hl (by decide) rfl (fun ls hl => ?_)
  refine lv_aload_n X.1 X.2.1 d_Ti_putInfo_7 rfl (lv_at hl 2 rfl) ?_
  refine lv_iconst (v := iI 0) X.1 X.2.1 d_Ti_putInfo_8 (by decide) ?_
  refine lv_aload_n X.1 X.2.1 d_Ti_putInfo_9 rfl (lv_at hl 1 rfl) ?_
  refine t_getk (ci := 10) X Y S k0 rfl i_Ti 4 (by decide) rfl lk_Ti_27 (fun _ h9 => h9) d_Ti_putInfo_10 (fun b102 n102 e102 k102 x102 => ?_)
  refine t_nv (t_runV (As := [.int (iI 0), .ref b102]) (rest := []) (n := 2) X Y S k1 hml hl.1 (c_By_putKey l D E T κ L f101 H.size a1 n1 k1 (by omega) 0 (by omega) (by omega) b102 n102 k102 (by omega) S.1) (ok_k X Y hA KS KR) rfl kl_Ti_By_putKey ks_By_putKey kx_By_putKey ki_By_putKey ini_By ⟨rfl, rfl⟩ hd_By_putKey ⟨Nat.le_of_ble_eq_true rfl, Nat.le_of_ble_eq_true rfl⟩ rfl (Nat.le_of_ble_eq_true rfl) d_Ti_putInfo_13 ⟨Nat.le_of_ble_eq_true rfl, Nat.le_of_ble_eq_true rfl⟩) X Y hA S (by decide) (fun f103 H locs Y S s103 p103 => ?_)
  refine lv_aload_n X.1 X.2.1 d_Ti_putInfo_16 rfl (lv_at hl 2 rfl) ?_
  refine lv_iconst (v := iI 1) X.1 X.2.1 d_Ti_putInfo_17 (by decide) ?_
  refine t_nv (t_runV (As := [.int (iI 1)]) (rest := []) (n := 1) X Y S k1 hml hl.1 (c_By_putRealm l D E T κ L f103 H.size a1 n1 k1 (by omega) 1 (by omega) (by omega) S.1) (ok_k X Y hA KS KR) rfl kl_Ti_By_putRealm ks_By_putRealm kx_By_putRealm ki_By_putRealm ini_By ⟨rfl, rfl⟩ hd_By_putRealm ⟨Nat.le_of_ble_eq_true rfl, Nat.le_of_ble_eq_true rfl⟩ rfl (Nat.le_of_ble_eq_true rfl) d_Ti_putInfo_18 ⟨Nat.le_of_ble_eq_true rfl, Nat.le_of_ble_eq_true rfl⟩) X Y hA S (by decide) (fun f104 H locs Y S s104 p104 => ?_)
  refine lv_aload_n X.1 X.2.1 d_Ti_putInfo_21 rfl (lv_at hl 2 rfl) ?_
  refine lv_iconst (v := iI 2) X.1 X.2.1 d_Ti_putInfo_22 (by decide) ?_
  refine lv_aload_n X.1 X.2.1 d_Ti_putInfo_23 rfl (lv_at hl 1 rfl) ?_
  refine t_geti (ci := 10) X Y S k0 rfl i_Ti 2 (by decide) rfl lk_Ti_64 (fun _ h9 => h9) d_Ti_putInfo_24 (fun z105 e105 l105 u105 => ?_)
  refine lv_aload_n X.1 X.2.1 d_Ti_putInfo_27 rfl (lv_at hl 1 rfl) ?_
  refine t_getr (ci := 10) X Y S k0 rfl i_Ti 1 (by decide) rfl (k1 := 13) (k2 := 40) rfl rfl lk_Ti_20 (fun _ h9 => h9) d_Ti_putInfo_28 (fun b106 e106 k106 => ?_)
  refine t_nv (t_runV (As := [.int (iI 2), .int (iI z105), .ref b106]) (rest := []) (n := 3) X Y S k1 hml hl.1 (c_By_putName l D E T κ L f104 H.size a1 n1 k1 (by omega) 2 (by omega) (by omega) z105 (by omega) (by omega) b106 40 k106 (by omega) S.1) (ok_k X Y hA KS KR) rfl kl_Ti_By_putName ks_By_putName kx_By_putName ki_By_putName ini_By ⟨rfl, rfl⟩ hd_By_putName ⟨Nat.le_of_ble_eq_true rfl, Nat.le_of_ble_eq_true rfl⟩ rfl (Nat.le_of_ble_eq_true rfl) d_Ti_putInfo_31 ⟨Nat.le_of_ble_eq_true rfl, Nat.le_of_ble_eq_true rfl⟩) X Y hA S (by decide) (fun f107 H locs Y S s107 p107 => ?_)
  refine lv_aload_n X.1 X.2.1 d_Ti_putInfo_34 rfl (lv_at hl 2 rfl) ?_
  refine lv_iconst (v := iI 3) X.1 X.2.1 d_Ti_putInfo_35 (by decide) ?_
  refine lv_aload_n X.1 X.2.1 d_Ti_putInfo_36 rfl (lv_at hl 1 rfl) ?_
  refine t_geti (ci := 10) X Y S k0 rfl i_Ti 5 (by decide) rfl lk_Ti_30 (fun _ h9 => h9) d_Ti_putInfo_37 (fun z108 e108 l108 u108 => ?_)
  refine t_nv (t_runV (As := [.int (iI 3), .int (iI z108)]) (rest := []) (n := 2) X Y S k1 hml hl.1 (c_By_putBits l D E T κ L f107 H.size a1 n1 k1 (by omega) 3 (by omega) (by omega) z108 (by omega) (by omega) S.1) (ok_k X Y hA KS KR) rfl kl_Ti_By_putBits ks_By_putBits kx_By_putBits ki_By_putBits ini_By ⟨rfl, rfl⟩ hd_By_putBits ⟨Nat.le_of_ble_eq_true rfl, Nat.le_of_ble_eq_true rfl⟩ rfl (Nat.le_of_ble_eq_true rfl) d_Ti_putInfo_40 ⟨Nat.le_of_ble_eq_true rfl, Nat.le_of_ble_eq_true rfl⟩) X Y hA S (by decide) (fun f109 H locs Y S s109 p109 => ?_)
  refine lv_aload_n X.1 X.2.1 d_Ti_putInfo_43 rfl (lv_at hl 2 rfl) ?_
  refine lv_iconst (v := iI 4) X.1 X.2.1 d_Ti_putInfo_44 (by decide) ?_
  refine lv_aload_n X.1 X.2.1 d_Ti_putInfo_45 rfl (lv_at hl 1 rfl) ?_
  refine t_geti (ci := 10) X Y S k0 rfl i_Ti 6 (by decide) rfl lk_Ti_34 (fun _ h9 => h9) d_Ti_putInfo_46 (fun z110 e110 l110 u110 => ?_)
  refine t_nv (t_runV (As := [.int (iI 4), .int (iI z110)]) (rest := []) (n := 2) X Y S k1 hml hl.1 (c_By_putTime l D E T κ L f109 H.size a1 n1 k1 (by omega) 4 (by omega) (by omega) z110 (by omega) (by omega) S.1) (ok_k X Y hA KS KR) rfl kl_Ti_By_putTime ks_By_putTime kx_By_putTime ki_By_putTime ini_By ⟨rfl, rfl⟩ hd_By_putTime ⟨Nat.le_of_ble_eq_true rfl, Nat.le_of_ble_eq_true rfl⟩ rfl (Nat.le_of_ble_eq_true rfl) d_Ti_putInfo_49 ⟨Nat.le_of_ble_eq_true rfl, Nat.le_of_ble_eq_true rfl⟩) X Y hA S (by decide) (fun f111 H locs Y S s111 p111 => ?_)
  refine lv_aload_n X.1 X.2.1 d_Ti_putInfo_52 rfl (lv_at hl 1 rfl) ?_
  refine t_geti (ci := 10) X Y S k0 rfl i_Ti 7 (by decide) rfl lk_Ti_37 (fun _ h9 => h9) d_Ti_putInfo_53 (fun z112 e112 l112 u112 => ?_)
  have J114 : ∀ (f113 : pF) (H : Heap) (locs : List Loc) (ls : Array Slot), pH D cCl (pA L sz) s.heap L f113 H locs → tS E T (tFr κ L [1, 13] []) κ L f κ L f113 → lv_has ls 3 [(0, .ref h), (1, .ref a1), (2, .int (iI z101))] → W p l e (kRm 7 181 0 0) s m AV below meth c H locs 0 0 QQ (F0 m 68 ls []) := by
    intro f113 H locs ls  Y S hl
    refine lv_aload_n X.1 X.2.1 d_Ti_putInfo_68 rfl (lv_at hl 1 rfl) ?_
    refine lv_bipush (v := iI 6) X.1 X.2.1 d_Ti_putInfo_69 (by decide) ?_
    refine lv_aload_n X.1 X.2.1 d_Ti_putInfo_71 rfl (lv_at hl 0 rfl) ?_
    refine t_geti (ci := 10) X Y S k0 rfl i_Ti 8 (by decide) rfl lk_Ti_40 (fun _ h9 => h9) d_Ti_putInfo_72 (fun z118 e118 l118 u118 => ?_)
    refine t_nv (t_runV (As := [.int (iI 6), .int (iI z118)]) (rest := []) (n := 2) X Y S k1 hml hl.1 (c_By_putTime l D E T κ L f113 H.size a1 n1 k1 (by omega) 6 (by omega) (by omega) z118 (by omega) (by omega) S.1) (ok_k X Y hA KS KR) rfl kl_Ti_By_putTime ks_By_putTime kx_By_putTime ki_By_putTime ini_By ⟨rfl, rfl⟩ hd_By_putTime ⟨Nat.le_of_ble_eq_true rfl, Nat.le_of_ble_eq_true rfl⟩ rfl (Nat.le_of_ble_eq_true rfl) d_Ti_putInfo_75 ⟨Nat.le_of_ble_eq_true rfl, Nat.le_of_ble_eq_true rfl⟩) X Y hA S (by decide) (fun f119 H locs Y S s119 p119 => ?_)
    refine lv_aload_n X.1 X.2.1 d_Ti_putInfo_78 rfl (lv_at hl 0 rfl) ?_
    refine t_geti (ci := 10) X Y S k0 rfl i_Ti 9 (by decide) rfl lk_Ti_43 (fun _ h9 => h9) d_Ti_putInfo_79 (fun z120 e120 l120 u120 => ?_)
    have J122 : ∀ (f121 : pF) (H : Heap) (locs : List Loc) (ls : Array Slot), pH D cCl (pA L sz) s.heap L f121 H locs → tS E T (tFr κ L [1, 13] []) κ L f κ L f121 → lv_has ls 3 [(0, .ref h), (1, .ref a1), (2, .int (iI z101))] → W p l e (kRm 7 181 0 0) s m AV below meth c H locs 0 0 QQ (F0 m 95 ls []) := by
      intro f121 H locs ls  Y S hl
      refine lv_aload_n X.1 X.2.1 d_Ti_putInfo_95 rfl (lv_at hl 1 rfl) ?_
      refine lv_bipush (v := iI 8) X.1 X.2.1 d_Ti_putInfo_96 (by decide) ?_
      refine t_nv (t_runV (As := [.int (iI 8)]) (rest := []) (n := 1) X Y S k1 hml hl.1 (c_By_putRealm l D E T κ L f121 H.size a1 n1 k1 (by omega) 8 (by omega) (by omega) S.1) (ok_k X Y hA KS KR) rfl kl_Ti_By_putRealm ks_By_putRealm kx_By_putRealm ki_By_putRealm ini_By ⟨rfl, rfl⟩ hd_By_putRealm ⟨Nat.le_of_ble_eq_true rfl, Nat.le_of_ble_eq_true rfl⟩ rfl (Nat.le_of_ble_eq_true rfl) d_Ti_putInfo_98 ⟨Nat.le_of_ble_eq_true rfl, Nat.le_of_ble_eq_true rfl⟩) X Y hA S (by decide) (fun f126 H locs Y S s126 p126 => ?_)
      refine lv_aload_n X.1 X.2.1 d_Ti_putInfo_101 rfl (lv_at hl 1 rfl) ?_
      refine lv_bipush (v := iI 9) X.1 X.2.1 d_Ti_putInfo_102 (by decide) ?_
      refine lv_aload_n X.1 X.2.1 d_Ti_putInfo_104 rfl (lv_at hl 0 rfl) ?_
      refine t_getm (ci := 10) X Y S k0 rfl i_Ti 0 (by decide) rfl (k1 := 13) (k2 := 4000) rfl rfl lk_Ti_14 (fun _ h9 => h9) d_Ti_putInfo_105 (fun b127 n127 e127 k127 x127 => ?_)
      refine lv_aload_n X.1 X.2.1 d_Ti_putInfo_108 rfl (lv_at hl 0 rfl) ?_
      refine t_get0 (ci := 10) X Y S k0 rfl i_Ti 0 (by decide) rfl lk_Ti_14 (fun _ h9 => h9) d_Ti_putInfo_109 e127 ?_
      refine lv_iconst (v := iI 0) X.1 X.2.1 d_Ti_putInfo_112 (by decide) ?_
      refine lv_iconst (v := iI 2) X.1 X.2.1 d_Ti_putInfo_113 (by decide) ?_
      refine t_ui (t_runV (As := [.int (iI 0), .int (iI 2)]) (rest := [.ref b127, .int (iI 9), .ref a1]) (n := 2) X Y S k127 hml hl.1 (c_By_field l D E T κ L f126 H.size b127 n127 k127 (by omega) 0 (by omega) (by omega) 2 (by omega) (by omega) S.1) (ok_k X Y hA KS KR) rfl kl_Ti_By_field ks_By_field kx_By_field ki_By_field ini_By ⟨rfl, rfl⟩ hd_By_field ⟨Nat.le_of_ble_eq_true rfl, Nat.le_of_ble_eq_true rfl⟩ rfl (Nat.le_of_ble_eq_true rfl) d_Ti_putInfo_114 ⟨Nat.le_of_ble_eq_true rfl, Nat.le_of_ble_eq_true rfl⟩) X Y hA (fun z128 H locs Y p128 => ?_)
      obtain ⟨l128, u128⟩ := p128
      refine t_nv (t_runV (As := [.int (iI 9), .ref b127, .int (iI z128)]) (rest := []) (n := 3) X Y S k1 hml hl.1 (c_By_putCopy l D E T κ L f126 H.size a1 n1 k1 (by omega) 9 (by omega) (by omega) b127 n127 k127 (by omega) z128 (by omega) (by omega) S.1) (ok_k X Y hA KS KR) rfl kl_Ti_By_putCopy ks_By_putCopy kx_By_putCopy ki_By_putCopy ini_By ⟨rfl, rfl⟩ hd_By_putCopy ⟨Nat.le_of_ble_eq_true rfl, Nat.le_of_ble_eq_true rfl⟩ rfl (Nat.le_of_ble_eq_true rfl) d_Ti_putInfo_117 ⟨Nat.le_of_ble_eq_true rfl, Nat.le_of_ble_eq_true rfl⟩) X Y hA S (by decide) (fun f129 H locs Y S s129 p129 => ?_)
      refine lv_aload_n X.1 X.2.1 d_Ti_putInfo_120 rfl (lv_at hl 1 rfl) ?_
      refine lv_iload_n X.1 X.2.1 d_Ti_putInfo_121 rfl (lv_at hl 2 rfl) ?_
      refine t_nv (t_runV (As := [.int (iI z101)]) (rest := []) (n := 1) X Y S k1 hml hl.1 (c_By_close l D E T κ L f129 H.size a1 n1 k1 (by omega) z101 (by omega) (by omega) S.1) (ok_k X Y hA KS KR) rfl kl_Ti_By_close ks_By_close kx_By_close ki_By_close ini_By ⟨rfl, rfl⟩ hd_By_close ⟨Nat.le_of_ble_eq_true rfl, Nat.le_of_ble_eq_true rfl⟩ rfl (Nat.le_of_ble_eq_true rfl) d_Ti_putInfo_122 ⟨Nat.le_of_ble_eq_true rfl, Nat.le_of_ble_eq_true rfl⟩) X Y hA S (by decide) (fun f130 H locs Y S s130 p130 => ?_)
      exact c_retv hQQ X Y hr hlk ⟨rfl, S, trivial⟩ d_Ti_putInfo_125
    refine z_if_lt (tgt := 95) X.1 X.2.1 d_Ti_putInfo_82 (by decide) ⟨by omega, by omega⟩ (fun h131 => ?_) (fun h131 => ?_)
    · exact J122 f119 _ _ _  Y S (lv_sub hl [0, 1, 2] rfl)
    · refine lv_aload_n X.1 X.2.1 d_Ti_putInfo_85 rfl (lv_at hl 1 rfl) ?_
      refine lv_bipush (v := iI 7) X.1 X.2.1 d_Ti_putInfo_86 (by decide) ?_
      refine lv_aload_n X.1 X.2.1 d_Ti_putInfo_88 rfl (lv_at hl 0 rfl) ?_
      refine t_get0 (ci := 10) X Y S k0 rfl i_Ti 9 (by decide) rfl lk_Ti_43 (fun _ h9 => h9) d_Ti_putInfo_89 e120 ?_
      refine t_nv (t_runV (As := [.int (iI 7), .int (iI z120)]) (rest := []) (n := 2) X Y S k1 hml hl.1 (c_By_putTime l D E T κ L f119 H.size a1 n1 k1 (by omega) 7 (by omega) (by omega) z120 (by omega) (by omega) S.1) (ok_k X Y hA KS KR) rfl kl_Ti_By_putTime ks_By_putTime kx_By_putTime ki_By_putTime ini_By ⟨rfl, rfl⟩ hd_By_putTime ⟨Nat.le_of_ble_eq_true rfl, Nat.le_of_ble_eq_true rfl⟩ rfl (Nat.le_of_ble_eq_true rfl) d_Ti_putInfo_92 ⟨Nat.le_of_ble_eq_true rfl, Nat.le_of_ble_eq_true rfl⟩) X Y hA S (by decide) (fun f132 H locs Y S s132 p132 => ?_)
      exact J122 f132 _ _ _  Y S (lv_sub hl [0, 1, 2] rfl)
  refine z_if_lt (tgt := 68) X.1 X.2.1 d_Ti_putInfo_56 (by decide) ⟨by omega, by omega⟩ (fun h133 => ?_) (fun h133 => ?_)
  · exact J114 f111 _ _ _  Y S (lv_sub hl [1, 2, 0] rfl)
  · refine lv_aload_n X.1 X.2.1 d_Ti_putInfo_59 rfl (lv_at hl 2 rfl) ?_
    refine lv_iconst (v := iI 5) X.1 X.2.1 d_Ti_putInfo_60 (by decide) ?_
    refine lv_aload_n X.1 X.2.1 d_Ti_putInfo_61 rfl (lv_at hl 1 rfl) ?_
    refine t_get0 (ci := 10) X Y S k0 rfl i_Ti 7 (by decide) rfl lk_Ti_37 (fun _ h9 => h9) d_Ti_putInfo_62 e112 ?_
    refine t_nv (t_runV (As := [.int (iI 5), .int (iI z112)]) (rest := []) (n := 2) X Y S k1 hml hl.1 (c_By_putTime l D E T κ L f111 H.size a1 n1 k1 (by omega) 5 (by omega) (by omega) z112 (by omega) (by omega) S.1) (ok_k X Y hA KS KR) rfl kl_Ti_By_putTime ks_By_putTime kx_By_putTime ki_By_putTime ini_By ⟨rfl, rfl⟩ hd_By_putTime ⟨Nat.le_of_ble_eq_true rfl, Nat.le_of_ble_eq_true rfl⟩ rfl (Nat.le_of_ble_eq_true rfl) d_Ti_putInfo_65 ⟨Nat.le_of_ble_eq_true rfl, Nat.le_of_ble_eq_true rfl⟩) X Y hA S (by decide) (fun f134 H locs Y S s134 p134 => ?_)
    exact J114 f134 _ _ _  Y S (lv_sub hl [1, 2, 0] rfl)
