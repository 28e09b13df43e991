set_option maxHeartbeats 4000000 in
set_option maxRecDepth 100000 in
theorem c_Se_forget (l : Launch) (D : va_G) (E : cE) (T : cT) (κ : tK) (L : List Nat) (f : pF) (sz : Nat) (h : Nat) (k0 : κ h = (18, 0)) (a1 : Int) (l_a1 : (-2147483648) ≤ a1) (u_a1 : a1 ≤ 2147483647) (hw : tW E T κ L f) : Met l y_Se_forget (k_Se_forget :: lw_tg) (kRm 1 60 0 0) (va_Pc [.ref h, .int (iI a1)] (kPre D E T L f sz)) (va_Qv (nPv E T [1, 2, 3, 4, 18] κ L f (fun (g : pF) => True)) (cPost D E (pA L sz)) (pA L sz)) 0 0 (pA L sz) := by
  refine k_enter (own := R_Se) (by decide) rfl (Nat.le_of_ble_eq_true rfl) (fun p e s m below meth c ls AV QQ H locs hQQ X Y hA hin hr hlk hml hl KS KR => ?_)
  have hl : lv_has ls 4 [(0, .ref h), (1, .int (iI a1))] := hl
  have S : tS E T (tFr κ L [1, 2, 3, 4, 18] []) κ L f κ L f := tS_rf hw
  refine lv_iconst (v := iI 0) X.1 X.2.1 d_Se_forget_0 (by decide) ?_
  refine lv_istore_n (lv' := [(2, .int (iI 0)), (0, .ref h), (1, .int (iI a1))]) X.1 X.2.1 d_Se_forget_1 rfl hl (by decide) rfl (fun ls hl => ?_)
  refine lv_iconst (v := iI 0) X.1 X.2.1 d_Se_forget_2 (by decide) ?_
  have J5 : ∀ (n7 : Nat) (z2 : Int) (z3 : Int) (f1 : pF) (H : Heap) (locs : List Loc) (ls : Array Slot), (32 - z3).toNat = n7 → (0 ≤ z2) → (z2 ≤ 32) → (0 ≤ z3) → (z3 ≤ 32) → (z2 ≤ z3) → pH D cCl (pA L sz) s.heap L f1 H locs → tS E T (tFr κ L [1, 2, 3, 4, 18] []) κ L f κ L f1 → lv_has ls 4 [(0, .ref h), (1, .int (iI a1)), (2, .int (iI z2)), (3, .int (iI z3))] → W p l e (kRm 1 60 0 0) s m AV below meth c H locs 0 0 QQ (F0 m 4 ls []) := by
    intro n7
    induction n7 using Nat.strongRecOn with
    | ind n7 ih6 =>
      intro z2 z3 f1 H locs ls hm8 l2 u2 l3 u3 i4 Y S hl
      refine lv_iload_n X.1 X.2.1 d_Se_forget_4 rfl (lv_at hl 3 rfl) ?_
      refine lv_aload_n X.1 X.2.1 d_Se_forget_5 rfl (lv_at hl 0 rfl) ?_
      refine t_geti (ci := 8) X Y S k0 rfl i_Se 4 (by decide) rfl lk_Se_25 (fun _ h9 => h9) d_Se_forget_6 (fun z9 e9 l9 u9 => ?_)
      refine z_icmp_ge (tgt := 92) X.1 X.2.1 d_Se_forget_9 (by decide) ⟨by omega, by omega⟩ ⟨by omega, by omega⟩ (fun h10 => ?_) (fun h10 => ?_)
      · refine lv_aload_n X.1 X.2.1 d_Se_forget_92 rfl (lv_at hl 0 rfl) ?_
        refine lv_iload_n X.1 X.2.1 d_Se_forget_93 rfl (lv_at hl 2 rfl) ?_
        refine t_put (ci := 8) X Y S k0 rfl i_Se t_Se t_Se_ok n_Se 4 (by decide) rfl lk_Se_25 (fun _ h9 => h9) rfl (t_Se_ok 4 (by decide)) rfl rfl ⟨_, rfl, by omega, by omega⟩ (fun h9 => h9.2.1 (by rw [← (S.2.2.2 _ h9).2, k0]; decide)) d_Se_forget_94 (fun f11 H locs Y S w11 => ?_)
        exact c_retv hQQ X Y hr hlk ⟨rfl, S, trivial⟩ d_Se_forget_97
      · refine lv_aload_n X.1 X.2.1 d_Se_forget_12 rfl (lv_at hl 0 rfl) ?_
        refine t_getr (ci := 8) X Y S k0 rfl i_Se 2 (by decide) rfl (k1 := 2) (k2 := 32) rfl rfl lk_Se_19 (fun _ h9 => h9) d_Se_forget_13 (fun b12 e12 k12 => ?_)
        refine lv_iload_n X.1 X.2.1 d_Se_forget_16 rfl (lv_at hl 3 rfl) ?_
        refine t_iald2 X Y S k12 (by omega) (by omega) (by omega) d_Se_forget_17 (fun z13 l13 u13 => ?_)
        refine lv_iload_n X.1 X.2.1 d_Se_forget_18 rfl (lv_at hl 1 rfl) ?_
        refine lv_sipush (v := iI 300) X.1 X.2.1 d_Se_forget_19 (by decide) ?_
        refine lv_isub X.1 X.2.1 d_Se_forget_22 ?_
        refine t_u (fun z14 l14 u14 => ?_)
        have J18 : ∀ (z16 : Int) (f15 : pF) (H : Heap) (locs : List Loc) (ls : Array Slot), (0 ≤ z16) → (z16 ≤ 33) → (z16 ≤ z463 + 1) → pH D cCl (pA L sz) s.heap L f15 H locs → tS E T (tFr κ L [1, 2, 3, 4, 18] []) κ L f κ L f15 → lv_has ls 4 [(0, .ref h), (1, .int (iI a1)), (2, .int (iI z16)), (3, .int (iI z463))] → W p l e (kRm 1 60 0 0) s m AV below meth c H locs 0 0 QQ (F0 m 86 ls []) := by
          intro z16 f15 H locs ls l16 u16 i17 Y S hl
          refine lv_iinc (v := iI (z463 + 1)) (lv' := [(3, .int (iI (z463 + 1))), (0, .ref h), (1, .int (iI a1)), (2, .int (iI z16))]) X.1 X.2.1 d_Se_forget_86 hl (k := 3) rfl ((iI_add _ _).trans (congrArg iI (by omega))) (by decide) rfl (fun ls hl => ?_)
          refine lv_goto (tgt := 4) X.1 X.2.1 d_Se_forget_89 (by decide) ?_
          exact ih6 ((32 - (z463 + 1)).toNat) (by omega) z16 (z463 + 1) f15 _ _ _ rfl (by omega) (by omega) (by omega) (by omega) (by omega) Y S (lv_sub hl [1, 2, 3, 0] rfl)
        refine z_icmp_lt (tgt := 86) X.1 X.2.1 d_Se_forget_23 (by decide) ⟨by omega, by omega⟩ ⟨by omega, by omega⟩ (fun h22 => ?_) (fun h22 => ?_)
        · exact J18 z2 f1 _ _ _ (by omega) (by omega) (by omega) Y S (lv_sub hl [0, 1, 2, 3] rfl)
        · refine lv_aload_n X.1 X.2.1 d_Se_forget_26 rfl (lv_at hl 0 rfl) ?_
          refine t_getr (ci := 8) X Y S k0 rfl i_Se 0 (by decide) rfl (k1 := 1) (k2 := 1280) rfl rfl lk_Se_9 (fun _ h9 => h9) d_Se_forget_27 (fun b23 e23 k23 => ?_)
          refine lv_iload_n X.1 X.2.1 d_Se_forget_30 rfl (lv_at hl 3 rfl) ?_
          refine lv_bipush (v := iI 40) X.1 X.2.1 d_Se_forget_31 (by decide) ?_
          refine z_imul X.1 X.2.1 d_Se_forget_33 ?_
          refine lv_aload_n X.1 X.2.1 d_Se_forget_34 rfl (lv_at hl 0 rfl) ?_
          refine t_get0 (ci := 8) X Y S k0 rfl i_Se 0 (by decide) rfl lk_Se_9 (fun _ h9 => h9) d_Se_forget_35 e23 ?_
          refine lv_iload_n X.1 X.2.1 d_Se_forget_38 rfl (lv_at hl 2 rfl) ?_
          refine lv_bipush (v := iI 40) X.1 X.2.1 d_Se_forget_39 (by decide) ?_
          refine z_imul X.1 X.2.1 d_Se_forget_41 ?_
          refine lv_bipush (v := iI 40) X.1 X.2.1 d_Se_forget_42 (by decide) ?_
          refine t_copyB X Y S KS (hml.trans hl.1.symm) kl_Se_copy (Or.inl k23) k23 (by omega) (by omega) (by omega) (by omega) (by omega) (by omega) (by omega) (fun h9 => h9.2.1 (by rw [← (S.2.2.2 _ h9).2, k23]; decide)) (Nat.le_of_ble_eq_true rfl) (Nat.le_of_ble_eq_true rfl) d_Se_forget_44 (fun f24 H locs Y S w24 => ?_)
          refine lv_aload_n X.1 X.2.1 d_Se_forget_47 rfl (lv_at hl 0 rfl) ?_
          refine t_getr (ci := 8) X Y S k0 rfl i_Se 1 (by decide) rfl (k1 := 4) (k2 := 32) rfl rfl lk_Se_15 (fun _ h9 => h9) d_Se_forget_48 (fun b25 e25 k25 => ?_)
          refine lv_iload_n X.1 X.2.1 d_Se_forget_51 rfl (lv_at hl 2 rfl) ?_
          refine lv_aload_n X.1 X.2.1 d_Se_forget_52 rfl (lv_at hl 0 rfl) ?_
          refine t_get0 (ci := 8) X Y S k0 rfl i_Se 1 (by decide) rfl lk_Se_15 (fun _ h9 => h9) d_Se_forget_53 e25 ?_
          refine lv_iload_n X.1 X.2.1 d_Se_forget_56 rfl (lv_at hl 3 rfl) ?_
          refine t_iald4 X Y S k25 (by omega) (by omega) (by omega) d_Se_forget_57 (fun z26 l26 u26 => ?_)
          refine t_iast4 X Y S k25 (by omega) (by omega) (by omega) ⟨by omega, by omega⟩ (fun h9 => h9.2.1 (by rw [← (S.2.2.2 _ h9).2, k25]; decide)) d_Se_forget_58 (fun f27 H locs Y S w27 => ?_)
          refine lv_aload_n X.1 X.2.1 d_Se_forget_59 rfl (lv_at hl 0 rfl) ?_
          refine t_get0 (ci := 8) X Y S k0 rfl i_Se 2 (by decide) rfl lk_Se_19 (fun _ h9 => h9) d_Se_forget_60 ((gF_same (w27 _ (k_ne k0 k25 (by decide))) 2).trans ((gF_same (w24 _ (k_ne k0 k23 (by decide))) 2).trans e12)) ?_
          refine lv_iload_n X.1 X.2.1 d_Se_forget_63 rfl (lv_at hl 2 rfl) ?_
          refine lv_aload_n X.1 X.2.1 d_Se_forget_64 rfl (lv_at hl 0 rfl) ?_
          refine t_get0 (ci := 8) X Y S k0 rfl i_Se 2 (by decide) rfl lk_Se_19 (fun _ h9 => h9) d_Se_forget_65 ((gF_same (w27 _ (k_ne k0 k25 (by decide))) 2).trans ((gF_same (w24 _ (k_ne k0 k23 (by decide))) 2).trans e12)) ?_
          refine lv_iload_n X.1 X.2.1 d_Se_forget_68 rfl (lv_at hl 3 rfl) ?_
          refine t_iald2 X Y S k12 (by omega) (by omega) (by omega) d_Se_forget_69 (fun z28 l28 u28 => ?_)
          refine t_iast2 X Y S k12 (by omega) (by omega) (by omega) (fun h9 => h9.2.1 (by rw [← (S.2.2.2 _ h9).2, k12]; decide)) d_Se_forget_70 (fun f29 H locs Y S w29 => ?_)
          refine lv_aload_n X.1 X.2.1 d_Se_forget_71 rfl (lv_at hl 0 rfl) ?_
          refine t_getr (ci := 8) X Y S k0 rfl i_Se 3 (by decide) rfl (k1 := 2) (k2 := 32) rfl rfl lk_Se_22 (fun _ h9 => h9) d_Se_forget_72 (fun b30 e30 k30 => ?_)
          refine lv_iload_n X.1 X.2.1 d_Se_forget_75 rfl (lv_at hl 2 rfl) ?_
          refine lv_aload_n X.1 X.2.1 d_Se_forget_76 rfl (lv_at hl 0 rfl) ?_
          refine t_get0 (ci := 8) X Y S k0 rfl i_Se 3 (by decide) rfl lk_Se_22 (fun _ h9 => h9) d_Se_forget_77 e30 ?_
          refine lv_iload_n X.1 X.2.1 d_Se_forget_80 rfl (lv_at hl 3 rfl) ?_
          refine t_iald2 X Y S k30 (by omega) (by omega) (by omega) d_Se_forget_81 (fun z31 l31 u31 => ?_)
          refine t_iast2 X Y S k30 (by omega) (by omega) (by omega) (fun h9 => h9.2.1 (by rw [← (S.2.2.2 _ h9).2, k30]; decide)) d_Se_forget_82 (fun f32 H locs Y S w32 => ?_)
          refine lv_iinc (v := iI (z2 + 1)) (lv' := [(2, .int (iI (z2 + 1))), (0, .ref h), (1, .int (iI a1)), (3, .int (iI z3))]) X.1 X.2.1 d_Se_forget_83 hl (k := 2) rfl ((iI_add _ _).trans (congrArg iI (by omega))) (by decide) rfl (fun ls hl => ?_)
          exact J18 (z2 + 1) f32 _ _ _ (by omega) (by omega) (by omega) Y S (lv_sub hl [1, 2, 0, 3] rfl)
  refine lv_istore_n (lv' := [(3, .int (iI 0)), (2, .int (iI 0)), (0, .ref h), (1, .int (iI a1))]) X.1 X.2.1 d_Se_forget_3 rfl hl (by decide) rfl (fun ls hl => ?_)
  exact J5 _ 0 0 f _ _ _ rfl (by omega) (by omega) (by omega) (by omega) (by omega) Y S (lv_sub hl [2, 3, 1, 0] rfl)
set_option maxHeartbeats 4000000 in
set_option maxRecDepth 100000 in
theorem c_Se_isName (l : Launch) (D : va_G) (E : cE) (T : cT) (κ : tK) (L : List Nat) (f : pF) (sz : Nat) (h : Nat) (k0 : κ h = (18, 0)) (a1 : Int) (l_a1 : 0 ≤ a1) (u_a1 : a1 ≤ 31) (a2 n2 : Nat) (k2 : κ a2 = (13, n2)) (x2 : n2 ≤ 12288) (a3 : Int) (l_a3 : (-1) ≤ a3) (u_a3 : a3 ≤ 20200) (a4 : Int) (l_a4 : (-1) ≤ a4) (u_a4 : a4 ≤ 20200) (hw : tW E T κ L f) : Met l y_Se_isName (k_Se_isName :: lw_tg) (kRm 2 81 0 0) (va_Pc [.ref h, .int (iI a1), .ref a2, .int (iI a3), .int (iI a4)] (kPre D E T L f sz)) (va_Qi (uPi L f (fun (z : Int) => 0 ≤ z ∧ z ≤ 1)) (cPost D E (pA L sz)) (pA L sz)) 0 0 (pA L sz) := by
  refine k_enter (own := R_Se) (by decide) rfl (Nat.le_of_ble_eq_true rfl) (fun p e s m below meth c ls AV QQ H locs hQQ X Y hA hin hr hlk hml hl KS KR => ?_)
  have hl : lv_has ls 6 [(0, .ref h), (1, .int (iI a1)), (2, .ref a2), (3, .int (iI a3)), (4, .int (iI a4))] := hl
  have S : tS E T (tFr κ L [] []) κ L f κ L f := tS_rf hw
  refine lv_aload_n X.1 X.2.1 d_Se_isName_0 rfl (lv_at hl 0 rfl) ?_
  refine t_getr (ci := 8) X Y S k0 rfl i_Se 1 (by decide) rfl (k1 := 4) (k2 := 32) rfl rfl lk_Se_15 (fun _ h9 => h9) d_Se_isName_1 (fun b1 e1 k1 => ?_)
  refine lv_iload_n X.1 X.2.1 d_Se_isName_4 rfl (lv_at hl 1 rfl) ?_
  refine t_iald4 X Y S k1 (by omega) (by omega) (by omega) d_Se_isName_5 (fun z2 l2 u2 => ?_)
  refine lv_iload X.1 X.2.1 d_Se_isName_6 (lv_at hl 4 rfl) ?_
  refine lv_iload_n X.1 X.2.1 d_Se_isName_8 rfl (lv_at hl 3 rfl) ?_
  refine z_isub X.1 X.2.1 d_Se_isName_9 ?_
  refine z_icmp_eq (tgt := 15) X.1 X.2.1 d_Se_isName_10 (by decide) ⟨by omega, by omega⟩ ⟨by omega, by omega⟩ (fun h3 => ?_) (fun h3 => ?_)
  · refine lv_iconst (v := iI 0) X.1 X.2.1 d_Se_isName_15 (by decide) ?_
    have J5 : ∀ (n7 : Nat) (z4 : Int) (H : Heap) (locs : List Loc) (ls : Array Slot), (40 - z4).toNat = n7 → (0 ≤ z4) → (z4 ≤ 40) → pH D cCl (pA L sz) s.heap L f H locs → tS E T (tFr κ L [] []) κ L f κ L f → lv_has ls 6 [(0, .ref h), (1, .int (iI a1)), (2, .ref a2), (3, .int (iI a3)), (5, .int (iI z4))] → W p l e (kRm 2 81 0 0) s m AV below meth c H locs 0 0 QQ (F0 m 18 ls []) := by
      intro n7
      induction n7 using Nat.strongRecOn with
      | ind n7 ih6 =>
        intro z4 H locs ls hm8 l4 u4 Y S hl
        refine lv_iload X.1 X.2.1 d_Se_isName_18 (lv_at hl 4 rfl) ?_
        refine lv_aload_n X.1 X.2.1 d_Se_isName_20 rfl (lv_at hl 0 rfl) ?_
        refine t_get0 (ci := 8) X Y S k0 rfl i_Se 1 (by decide) rfl lk_Se_15 (fun _ h9 => h9) d_Se_isName_21 e1 ?_
        refine lv_iload_n X.1 X.2.1 d_Se_isName_24 rfl (lv_at hl 1 rfl) ?_
        refine t_iald4 X Y S k1 (by omega) (by omega) (by omega) d_Se_isName_25 (fun z9 l9 u9 => ?_)
        refine z_icmp_ge (tgt := 64) X.1 X.2.1 d_Se_isName_26 (by decide) ⟨by omega, by omega⟩ ⟨by omega, by omega⟩ (fun h10 => ?_) (fun h10 => ?_)
        · refine lv_iconst (v := iI 1) X.1 X.2.1 d_Se_isName_64 (by decide) ?_
          exact c_retz hQQ X Y hr hlk (iI_bool (by omega) (by omega)).1 ⟨rfl, rfl, 1, rfl, ⟨by omega, by omega⟩⟩ d_Se_isName_65
        · refine lv_aload_n X.1 X.2.1 d_Se_isName_29 rfl (lv_at hl 0 rfl) ?_
          refine t_getr (ci := 8) X Y S k0 rfl i_Se 0 (by decide) rfl (k1 := 1) (k2 := 1280) rfl rfl lk_Se_9 (fun _ h9 => h9) d_Se_isName_30 (fun b11 e11 k11 => ?_)
          refine lv_iload_n X.1 X.2.1 d_Se_isName_33 rfl (lv_at hl 1 rfl) ?_
          refine lv_bipush (v := iI 40) X.1 X.2.1 d_Se_isName_34 (by decide) ?_
          refine z_imul X.1 X.2.1 d_Se_isName_36 ?_
          refine lv_iload X.1 X.2.1 d_Se_isName_37 (lv_at hl 4 rfl) ?_
          refine z_iadd X.1 X.2.1 d_Se_isName_39 ?_
          refine t_bald X Y S (Or.inl k11) (by omega) (by omega) (by omega) d_Se_isName_40 (fun z12 l12 u12 => ?_)
          refine lv_sipush (v := iI 255) X.1 X.2.1 d_Se_isName_41 (by decide) ?_
          refine z_iand X.1 X.2.1 (by omega) (by omega) d_Se_isName_44 (fun z13 l13 u13 => ?_)
          refine lv_aload_n X.1 X.2.1 d_Se_isName_45 rfl (lv_at hl 2 rfl) ?_
          refine lv_iload_n X.1 X.2.1 d_Se_isName_46 rfl (lv_at hl 3 rfl) ?_
          refine lv_iload X.1 X.2.1 d_Se_isName_47 (lv_at hl 4 rfl) ?_
          refine z_iadd X.1 X.2.1 d_Se_isName_49 ?_
          refine t_ui (t_runV (As := [.int (iI (a3 + z4))]) (rest := [.int (iI z13)]) (n := 1) X Y S k2 hml hl.1 (c_By_at l D E T κ L f H.size a2 n2 k2 (by omega) (a3 + z4) (by omega) (by omega) S.1) (ok_k X Y hA KS KR) rfl kl_Se_By_at ks_By_at kx_By_at ki_By_at ini_By ⟨rfl, rfl⟩ hd_By_at ⟨Nat.le_of_ble_eq_true rfl, Nat.le_of_ble_eq_true rfl⟩ rfl (Nat.le_of_ble_eq_true rfl) d_Se_isName_50 ⟨Nat.le_of_ble_eq_true rfl, Nat.le_of_ble_eq_true rfl⟩) X Y hA (fun z14 H locs Y p14 => ?_)
          obtain ⟨l14, u14⟩ := p14
          refine z_icmp_eq (tgt := 58) X.1 X.2.1 d_Se_isName_53 (by decide) ⟨by omega, by omega⟩ ⟨by omega, by omega⟩ (fun h15 => ?_) (fun h15 => ?_)
          · refine lv_iinc (v := iI (z4 + 1)) (lv' := [(5, .int (iI (z4 + 1))), (0, .ref h), (1, .int (iI a1)), (2, .ref a2), (3, .int (iI a3))]) X.1 X.2.1 d_Se_isName_58 hl (k := 4) rfl ((iI_add _ _).trans (congrArg iI (by omega))) (by decide) rfl (fun ls hl => ?_)
            refine lv_goto (tgt := 18) X.1 X.2.1 d_Se_isName_61 (by decide) ?_
            exact ih6 ((40 - (z4 + 1)).toNat) (by omega) (z4 + 1) _ _ _ rfl (by omega) (by omega) Y S (lv_sub hl [1, 2, 3, 4, 0] rfl)
          · refine lv_iconst (v := iI 0) X.1 X.2.1 d_Se_isName_56 (by decide) ?_
            exact c_retz hQQ X Y hr hlk (iI_bool (by omega) (by omega)).1 ⟨rfl, rfl, 0, rfl, ⟨by omega, by omega⟩⟩ d_Se_isName_57
    refine lv_istore (lv' := [(5, .int (iI 0)), (0, .ref h), (1, .int (iI a1)), (2, .ref a2), (3, .int (iI a3)), (4, .int (iI a4))]) X.1 X.2.1 d_Se_isName_16 hl (by decide) rfl (fun ls hl => ?_)
    exact J5 _ 0 _ _ _ rfl (by omega) (by omega) Y S (lv_sub hl [1, 2, 3, 4, 0] rfl)
  · refine lv_iconst (v := iI 0) X.1 X.2.1 d_Se_isName_13 (by decide) ?_
    exact c_retz hQQ X Y hr hlk (iI_bool (by omega) (by omega)).1 ⟨rfl, rfl, 0, rfl, ⟨by omega, by omega⟩⟩ d_Se_isName_14
set_option maxHeartbeats 4000000 in
set_option maxRecDepth 100000 in
theorem c_Se_has (l : Launch) (D : va_G) (E : cE) (T : cT) (κ : tK) (L : List Nat) (f : pF) (sz : Nat) (h : Nat) (k0 : κ h = (18, 0)) (a1 n1 : Nat) (k1 : κ a1 = (13, n1)) (x1 : n1 ≤ 12288) (a2 : Int) (l_a2 : (-1) ≤ a2) (u_a2 : a2 ≤ 20200) (a3 : Int) (l_a3 : (-1) ≤ a3) (u_a3 : a3 ≤ 20200) (a4 : Int) (l_a4 : (-2147483648) ≤ a4) (u_a4 : a4 ≤ 2147483647) (a5 : Int) (l_a5 : (-2147483648) ≤ a5) (u_a5 : a5 ≤ 2147483647) (hw : tW E T κ L f) : Met l y_Se_has (k_Se_has :: lw_tg) (kRm 3 106 0 0) (va_Pc [.ref h, .ref a1, .int (iI a2), .int (iI a3), .int (iI a4), .int (iI a5)] (kPre D E T L f sz)) (va_Qi (uPi L f (fun (z : Int) => 0 ≤ z ∧ z ≤ 1)) (cPost D E (pA L sz)) (pA L sz)) 0 0 (pA L sz) := by
  refine k_enter (own := R_Se) (by decide) rfl (Nat.le_of_ble_eq_true rfl) (fun p e s m below meth c ls AV QQ H locs hQQ X Y hA hin hr hlk hml hl KS KR => ?_)
  have hl : lv_has ls 7 [(0, .ref h), (1, .ref a1), (2, .int (iI a2)), (3, .int (iI a3)), (4, .int (iI a4)), (5, .int (iI a5))] := hl
  have S : tS E T (tFr κ L [] []) κ L f κ L f := tS_rf hw
  refine lv_iconst (v := iI 0) X.1 X.2.1 d_Se_has_0 (by decide) ?_
  have J2 : ∀ (n4 : Nat) (z1 : Int) (H : Heap) (locs : List Loc) (ls : Array Slot), (32 - z1).toNat = n4 → (0 ≤ z1) → (z1 ≤ 32) → pH D cCl (pA L sz) s.heap L f H locs → tS E T (tFr κ L [] []) κ L f κ L f → lv_has ls 7 [(0, .ref h), (1, .ref a1), (2, .int (iI a2)), (3, .int (iI a3)), (4, .int (iI a4)), (5, .int (iI a5)), (6, .int (iI z1))] → W p l e (kRm 3 106 0 0) s m AV below meth c H locs 0 0 QQ (F0 m 3 ls []) := by
    intro n4
    induction n4 using Nat.strongRecOn with
    | ind n4 ih3 =>
      intro z1 H locs ls hm5 l1 u1 Y S hl
      refine lv_iload X.1 X.2.1 d_Se_has_3 (lv_at hl 6 rfl) ?_
      refine lv_aload_n X.1 X.2.1 d_Se_has_5 rfl (lv_at hl 0 rfl) ?_
      refine t_geti (ci := 8) X Y S k0 rfl i_Se 4 (by decide) rfl lk_Se_25 (fun _ h9 => h9) d_Se_has_6 (fun z6 e6 l6 u6 => ?_)
      refine z_icmp_ge (tgt := 56) X.1 X.2.1 d_Se_has_9 (by decide) ⟨by omega, by omega⟩ ⟨by omega, by omega⟩ (fun h7 => ?_) (fun h7 => ?_)
      · refine lv_iconst (v := iI 0) X.1 X.2.1 d_Se_has_56 (by decide) ?_
        exact c_retz hQQ X Y hr hlk (iI_bool (by omega) (by omega)).1 ⟨rfl, rfl, 0, rfl, ⟨by omega, by omega⟩⟩ d_Se_has_57
      · refine lv_aload_n X.1 X.2.1 d_Se_has_12 rfl (lv_at hl 0 rfl) ?_
        refine t_getr (ci := 8) X Y S k0 rfl i_Se 2 (by decide) rfl (k1 := 2) (k2 := 32) rfl rfl lk_Se_19 (fun _ h9 => h9) d_Se_has_13 (fun b8 e8 k8 => ?_)
        refine lv_iload X.1 X.2.1 d_Se_has_16 (lv_at hl 6 rfl) ?_
        refine t_iald2 X Y S k8 (by omega) (by omega) (by omega) d_Se_has_18 (fun z9 l9 u9 => ?_)
        refine lv_iload X.1 X.2.1 d_Se_has_19 (lv_at hl 4 rfl) ?_
        have J10 : ∀  (H : Heap) (locs : List Loc) (ls : Array Slot), pH D cCl (pA L sz) s.heap L f H locs → tS E T (tFr κ L [] []) κ L f κ L f → lv_has ls 7 [(0, .ref h), (1, .ref a1), (2, .int (iI a2)), (3, .int (iI a3)), (4, .int (iI a4)), (5, .int (iI a5)), (6, .int (iI z232))] → W p l e (kRm 3 106 0 0) s m AV below meth c H locs 0 0 QQ (F0 m 50 ls []) := by
          intro  H locs ls  Y S hl
          refine lv_iinc (v := iI (z232 + 1)) (lv' := [(6, .int (iI (z232 + 1))), (0, .ref h), (1, .ref a1), (2, .int (iI a2)), (3, .int (iI a3)), (4, .int (iI a4)), (5, .int (iI a5))]) X.1 X.2.1 d_Se_has_50 hl (k := 6) rfl ((iI_add _ _).trans (congrArg iI (by omega))) (by decide) rfl (fun ls hl => ?_)
          refine lv_goto (tgt := 3) X.1 X.2.1 d_Se_has_53 (by decide) ?_
          exact ih3 ((32 - (z232 + 1)).toNat) (by omega) (z232 + 1) _ _ _ rfl (by omega) (by omega) Y S (lv_sub hl [1, 2, 3, 4, 5, 6, 0] rfl)
        refine z_icmp_ne (tgt := 50) X.1 X.2.1 d_Se_has_21 (by decide) ⟨by omega, by omega⟩ ⟨by omega, by omega⟩ (fun h14 => ?_) (fun h14 => ?_)
        · exact J10  _ _ _  Y S (lv_sub hl [0, 1, 2, 3, 4, 5, 6] rfl)
        · refine lv_aload_n X.1 X.2.1 d_Se_has_24 rfl (lv_at hl 0 rfl) ?_
          refine t_getr (ci := 8) X Y S k0 rfl i_Se 3 (by decide) rfl (k1 := 2) (k2 := 32) rfl rfl lk_Se_22 (fun _ h9 => h9) d_Se_has_25 (fun b15 e15 k15 => ?_)
          refine lv_iload X.1 X.2.1 d_Se_has_28 (lv_at hl 6 rfl) ?_
          refine t_iald2 X Y S k15 (by omega) (by omega) (by omega) d_Se_has_30 (fun z16 l16 u16 => ?_)
          refine lv_iload X.1 X.2.1 d_Se_has_31 (lv_at hl 5 rfl) ?_
          refine z_icmp_ne (tgt := 50) X.1 X.2.1 d_Se_has_33 (by decide) ⟨by omega, by omega⟩ ⟨by omega, by omega⟩ (fun h17 => ?_) (fun h17 => ?_)
          · exact J10  _ _ _  Y S (lv_sub hl [0, 1, 2, 3, 4, 5, 6] rfl)
          · refine lv_aload_n X.1 X.2.1 d_Se_has_36 rfl (lv_at hl 0 rfl) ?_
            refine lv_iload X.1 X.2.1 d_Se_has_37 (lv_at hl 6 rfl) ?_
            refine lv_aload_n X.1 X.2.1 d_Se_has_39 rfl (lv_at hl 1 rfl) ?_
            refine lv_iload_n X.1 X.2.1 d_Se_has_40 rfl (lv_at hl 2 rfl) ?_
            refine lv_iload_n X.1 X.2.1 d_Se_has_41 rfl (lv_at hl 3 rfl) ?_
            refine t_ui (t_runV (As := [.int (iI z1), .ref a1, .int (iI a2), .int (iI a3)]) (rest := []) (n := 4) X Y S k0 hml hl.1 (c_Se_isName l D E T κ L f H.size h k0 z1 (by omega) (by omega) a1 n1 k1 (by omega) a2 (by omega) (by omega) a3 (by omega) (by omega) S.1) (ok_k X Y hA KS KR) rfl kl_Se_Se_isName ks_Se_isName kx_Se_isName ki_Se_isName ini_Se ⟨rfl, rfl⟩ hd_Se_isName ⟨Nat.le_of_ble_eq_true rfl, Nat.le_of_ble_eq_true rfl⟩ rfl (Nat.le_of_ble_eq_true rfl) d_Se_has_42 ⟨Nat.le_of_ble_eq_true rfl, Nat.le_of_ble_eq_true rfl⟩) X Y hA (fun z18 H locs Y p18 => ?_)
            obtain ⟨l18, u18⟩ := p18
            refine z_if_eq (tgt := 50) X.1 X.2.1 d_Se_has_45 (by decide) ⟨by omega, by omega⟩ (fun h19 => ?_) (fun h19 => ?_)
            · exact J10  _ _ _  Y S (lv_sub hl [0, 1, 2, 3, 4, 5, 6] rfl)
            · refine lv_iconst (v := iI 1) X.1 X.2.1 d_Se_has_48 (by decide) ?_
              exact c_retz hQQ X Y hr hlk (iI_bool (by omega) (by omega)).1 ⟨rfl, rfl, 1, rfl, ⟨by omega, by omega⟩⟩ d_Se_has_49
  refine lv_istore (lv' := [(6, .int (iI 0)), (0, .ref h), (1, .ref a1), (2, .int (iI a2)), (3, .int (iI a3)), (4, .int (iI a4)), (5, .int (iI a5))]) X.1 X.2.1 d_Se_has_1 hl (by decide) rfl (fun ls hl => ?_)
  exact J2 _ 0 _ _ _ rfl (by omega) (by omega) Y S (lv_sub hl [1, 2, 3, 4, 5, 6, 0] rfl)
set_option maxHeartbeats 4000000 in
set_option maxRecDepth 100000 in
theorem c_Se_keep (l : Launch) (D : va_G) (E : cE) (T : cT) (κ : tK) (L : List Nat) (f : pF) (sz : Nat) (h : Nat) (k0 : κ h = (18, 0)) (a1 n1 : Nat) (k1 : κ a1 = (13, n1)) (x1 : n1 ≤ 12288) (a2 : Int) (l_a2 : (-1) ≤ a2) (u_a2 : a2 ≤ 20200) (a3 : Int) (l_a3 : (-1) ≤ a3) (u_a3 : a3 ≤ 20200) (a4 : Int) (l_a4 : (-2147483648) ≤ a4) (u_a4 : a4 ≤ 2147483647) (a5 : Int) (l_a5 : (-2147483648) ≤ a5) (u_a5 : a5 ≤ 2147483647) (a6 : Int) (l_a6 : (-2147483648) ≤ a6) (u_a6 : a6 ≤ 2147483647) (hw : tW E T κ L f) : Met l y_Se_keep (k_Se_keep :: lw_tg) (kRm 2 81 0 0) (va_Pc [.ref h, .ref a1, .int (iI a2), .int (iI a3), .int (iI a4), .int (iI a5), .int (iI a6)] (kPre D E T L f sz)) (va_Qi (nPi E T [1, 2, 3, 4, 18] κ L f (fun (z : Int) (g : pF) => 0 ≤ z ∧ z ≤ 1)) (cPost D E (pA L sz)) (pA L sz)) 0 0 (pA L sz) := by
  refine k_enter (own := R_Se) (by decide) rfl (Nat.le_of_ble_eq_true rfl) (fun p e s m below meth c ls AV QQ H locs hQQ X Y hA hin hr hlk hml hl KS KR => ?_)
  have hl : lv_has ls 8 [(0, .ref h), (1, .ref a1), (2, .int (iI a2)), (3, .int (iI a3)), (4, .int (iI a4)), (5, .int (iI a5)), (6, .int (iI a6))] := hl
  have S : tS E T (tFr κ L [1, 2, 3, 4, 18] []) κ L f κ L f := tS_rf hw
  refine lv_aload_n X.1 X.2.1 d_Se_keep_0 rfl (lv_at hl 0 rfl) ?_
  refine t_geti (ci := 8) X Y S k0 rfl i_Se 4 (by decide) rfl lk_Se_25 (fun _ h9 => h9) d_Se_keep_1 (fun z1 e1 l1 u1 => ?_)
  refine lv_iload X.1 X.2.1 d_Se_keep_4 (lv_at hl 6 rfl) ?_
  refine z_icmp_ge (tgt := 26) X.1 X.2.1 d_Se_keep_6 (by decide) ⟨by omega, by omega⟩ ⟨by omega, by omega⟩ (fun h2 => ?_) (fun h2 => ?_)
  · refine lv_iconst (v := iI 0) X.1 X.2.1 d_Se_keep_26 (by decide) ?_
    exact c_retz hQQ X Y hr hlk (iI_bool (by omega) (by omega)).1 ⟨rfl, S, 0, rfl, ⟨by omega, by omega⟩⟩ d_Se_keep_27
  · refine lv_aload_n X.1 X.2.1 d_Se_keep_9 rfl (lv_at hl 0 rfl) ?_
    refine t_get0 (ci := 8) X Y S k0 rfl i_Se 4 (by decide) rfl lk_Se_25 (fun _ h9 => h9) d_Se_keep_10 e1 ?_
    refine lv_bipush (v := iI 32) X.1 X.2.1 d_Se_keep_13 (by decide) ?_
    refine z_icmp_ge (tgt := 26) X.1 X.2.1 d_Se_keep_15 (by decide) ⟨by omega, by omega⟩ ⟨by omega, by omega⟩ (fun h3 => ?_) (fun h3 => ?_)
    · refine lv_iconst (v := iI 0) X.1 X.2.1 d_Se_keep_26 (by decide) ?_
      exact c_retz hQQ X Y hr hlk (iI_bool (by omega) (by omega)).1 ⟨rfl, S, 0, rfl, ⟨by omega, by omega⟩⟩ d_Se_keep_27
    · refine lv_iload_n X.1 X.2.1 d_Se_keep_18 rfl (lv_at hl 3 rfl) ?_
      refine lv_iload_n X.1 X.2.1 d_Se_keep_19 rfl (lv_at hl 2 rfl) ?_
      refine z_isub X.1 X.2.1 d_Se_keep_20 ?_
      refine lv_bipush (v := iI 40) X.1 X.2.1 d_Se_keep_21 (by decide) ?_
      refine z_icmp_le (tgt := 28) X.1 X.2.1 d_Se_keep_23 (by decide) ⟨by omega, by omega⟩ ⟨by omega, by omega⟩ (fun h4 => ?_) (fun h4 => ?_)
      · refine lv_iconst (v := iI 0) X.1 X.2.1 d_Se_keep_28 (by decide) ?_
        have J8 : ∀ (n10 : Nat) (z6 : Int) (z7 : Int) (f5 : pF) (H : Heap) (locs : List Loc) (ls : Array Slot), (20201 - z6).toNat = n10 → (0 ≤ z6) → (z6 ≤ 20201) → (gF f5 h 4 = .int (iI z7)) → (0 ≤ z7) → (z7 ≤ 31) → pH D cCl (pA L sz) s.heap L f5 H locs → tS E T (tFr κ L [1, 2, 3, 4, 18] []) κ L f κ L f5 → lv_has ls 8 [(0, .ref h), (1, .ref a1), (2, .int (iI a2)), (3, .int (iI a3)), (4, .int (iI a4)), (5, .int (iI a5)), (7, .int (iI z6))] → W p l e (kRm 2 81 0 0) s m AV below meth c H locs 0 0 QQ (F0 m 31 ls []) := by
          intro n10
          induction n10 using Nat.strongRecOn with
          | ind n10 ih9 =>
            intro z6 z7 f5 H locs ls hm11 l6 u6 e7 l7 u7 Y S hl
            refine lv_iload X.1 X.2.1 d_Se_keep_31 (lv_at hl 6 rfl) ?_
            refine lv_iload_n X.1 X.2.1 d_Se_keep_33 rfl (lv_at hl 3 rfl) ?_
            refine lv_iload_n X.1 X.2.1 d_Se_keep_34 rfl (lv_at hl 2 rfl) ?_
            refine z_isub X.1 X.2.1 d_Se_keep_35 ?_
            refine z_icmp_ge (tgt := 69) X.1 X.2.1 d_Se_keep_36 (by decide) ⟨by omega, by omega⟩ ⟨by omega, by omega⟩ (fun h12 => ?_) (fun h12 => ?_)
            · refine lv_aload_n X.1 X.2.1 d_Se_keep_69 rfl (lv_at hl 0 rfl) ?_
              refine t_getr (ci := 8) X Y S k0 rfl i_Se 1 (by decide) rfl (k1 := 4) (k2 := 32) rfl rfl lk_Se_15 (fun _ h9 => h9) d_Se_keep_70 (fun b13 e13 k13 => ?_)
              refine lv_aload_n X.1 X.2.1 d_Se_keep_73 rfl (lv_at hl 0 rfl) ?_
              refine t_get0 (ci := 8) X Y S k0 rfl i_Se 4 (by decide) rfl lk_Se_25 (fun _ h9 => h9) d_Se_keep_74 e7 ?_
              refine lv_iload_n X.1 X.2.1 d_Se_keep_77 rfl (lv_at hl 3 rfl) ?_
              refine lv_iload_n X.1 X.2.1 d_Se_keep_78 rfl (lv_at hl 2 rfl) ?_
              refine z_isub X.1 X.2.1 d_Se_keep_79 ?_
              refine t_iast4 X Y S k13 (by omega) (by omega) (by omega) ⟨by omega, by omega⟩ (fun h9 => h9.2.1 (by rw [← (S.2.2.2 _ h9).2, k13]; decide)) d_Se_keep_80 (fun f14 H locs Y S w14 => ?_)
              refine lv_aload_n X.1 X.2.1 d_Se_keep_81 rfl (lv_at hl 0 rfl) ?_
              refine t_getr (ci := 8) X Y S k0 rfl i_Se 2 (by decide) rfl (k1 := 2) (k2 := 32) rfl rfl lk_Se_19 (fun _ h9 => h9) d_Se_keep_82 (fun b15 e15 k15 => ?_)
              refine lv_aload_n X.1 X.2.1 d_Se_keep_85 rfl (lv_at hl 0 rfl) ?_
              refine t_get0 (ci := 8) X Y S k0 rfl i_Se 4 (by decide) rfl lk_Se_25 (fun _ h9 => h9) d_Se_keep_86 ((gF_same (w14 _ (k_ne k0 k13 (by decide))) 4).trans e7) ?_
              refine lv_iload X.1 X.2.1 d_Se_keep_89 (lv_at hl 4 rfl) ?_
              refine t_iast2 X Y S k15 (by omega) (by omega) (by omega) (fun h9 => h9.2.1 (by rw [← (S.2.2.2 _ h9).2, k15]; decide)) d_Se_keep_91 (fun f16 H locs Y S w16 => ?_)
              refine lv_aload_n X.1 X.2.1 d_Se_keep_92 rfl (lv_at hl 0 rfl) ?_
              refine t_getr (ci := 8) X Y S k0 rfl i_Se 3 (by decide) rfl (k1 := 2) (k2 := 32) rfl rfl lk_Se_22 (fun _ h9 => h9) d_Se_keep_93 (fun b17 e17 k17 => ?_)
              refine lv_aload_n X.1 X.2.1 d_Se_keep_96 rfl (lv_at hl 0 rfl) ?_
              refine t_get0 (ci := 8) X Y S k0 rfl i_Se 4 (by decide) rfl lk_Se_25 (fun _ h9 => h9) d_Se_keep_97 ((gF_same (w16 _ (k_ne k0 k15 (by decide))) 4).trans ((gF_same (w14 _ (k_ne k0 k13 (by decide))) 4).trans e7)) ?_
              refine lv_iload X.1 X.2.1 d_Se_keep_100 (lv_at hl 5 rfl) ?_
              refine t_iast2 X Y S k17 (by omega) (by omega) (by omega) (fun h9 => h9.2.1 (by rw [← (S.2.2.2 _ h9).2, k17]; decide)) d_Se_keep_102 (fun f18 H locs Y S w18 => ?_)
              refine lv_aload_n X.1 X.2.1 d_Se_keep_103 rfl (lv_at hl 0 rfl) ?_
              refine lv_dup X.1 X.2.1 d_Se_keep_104 rfl ?_
              refine t_get0 (ci := 8) X Y S k0 rfl i_Se 4 (by decide) rfl lk_Se_25 (fun _ h9 => h9) d_Se_keep_105 ((gF_same (w18 _ (k_ne k0 k17 (by decide))) 4).trans ((gF_same (w16 _ (k_ne k0 k15 (by decide))) 4).trans ((gF_same (w14 _ (k_ne k0 k13 (by decide))) 4).trans e7))) ?_
              refine lv_iconst (v := iI 1) X.1 X.2.1 d_Se_keep_108 (by decide) ?_
              refine z_iadd X.1 X.2.1 d_Se_keep_109 ?_
              refine t_put (ci := 8) X Y S k0 rfl i_Se t_Se t_Se_ok n_Se 4 (by decide) rfl lk_Se_25 (fun _ h9 => h9) rfl (t_Se_ok 4 (by decide)) rfl rfl ⟨_, rfl, by omega, by omega⟩ (fun h9 => h9.2.1 (by rw [← (S.2.2.2 _ h9).2, k0]; decide)) d_Se_keep_110 (fun f19 H locs Y S w19 => ?_)
              refine lv_iconst (v := iI 1) X.1 X.2.1 d_Se_keep_113 (by decide) ?_
              exact c_retz hQQ X Y hr hlk (iI_bool (by omega) (by omega)).1 ⟨rfl, S, 1, rfl, ⟨by omega, by omega⟩⟩ d_Se_keep_114
            · refine lv_aload_n X.1 X.2.1 d_Se_keep_39 rfl (lv_at hl 0 rfl) ?_
              refine t_getr (ci := 8) X Y S k0 rfl i_Se 0 (by decide) rfl (k1 := 1) (k2 := 1280) rfl rfl lk_Se_9 (fun _ h9 => h9) d_Se_keep_40 (fun b20 e20 k20 => ?_)
              refine lv_aload_n X.1 X.2.1 d_Se_keep_43 rfl (lv_at hl 0 rfl) ?_
              refine t_get0 (ci := 8) X Y S k0 rfl i_Se 4 (by decide) rfl lk_Se_25 (fun _ h9 => h9) d_Se_keep_44 e7 ?_
              refine lv_bipush (v := iI 40) X.1 X.2.1 d_Se_keep_47 (by decide) ?_
              refine z_imul X.1 X.2.1 d_Se_keep_49 ?_
              refine lv_iload X.1 X.2.1 d_Se_keep_50 (lv_at hl 6 rfl) ?_
              refine z_iadd X.1 X.2.1 d_Se_keep_52 ?_
              refine lv_aload_n X.1 X.2.1 d_Se_keep_53 rfl (lv_at hl 1 rfl) ?_
              refine lv_iload_n X.1 X.2.1 d_Se_keep_54 rfl (lv_at hl 2 rfl) ?_
              refine lv_iload X.1 X.2.1 d_Se_keep_55 (lv_at hl 6 rfl) ?_
              refine z_iadd X.1 X.2.1 d_Se_keep_57 ?_
              refine t_ui (t_runV (As := [.int (iI (a2 + z6))]) (rest := [.int (iI ((z7 * 40) + z6)), .ref b20]) (n := 1) X Y S k1 hml hl.1 (c_By_at l D E T κ L f5 H.size a1 n1 k1 (by omega) (a2 + z6) (by omega) (by omega) S.1) (ok_k X Y hA KS KR) rfl kl_Se_By_at ks_By_at kx_By_at ki_By_at ini_By ⟨rfl, rfl⟩ hd_By_at ⟨Nat.le_of_ble_eq_true rfl, Nat.le_of_ble_eq_true rfl⟩ rfl (Nat.le_of_ble_eq_true rfl) d_Se_keep_58 ⟨Nat.le_of_ble_eq_true rfl, Nat.le_of_ble_eq_true rfl⟩) X Y hA (fun z21 H locs Y p21 => ?_)
              obtain ⟨l21, u21⟩ := p21
              refine lv_i2b X.1 X.2.1 d_Se_keep_61 rfl ?_
              refine t_u (fun z22 l22 u22 => ?_)
              refine t_bast X Y S k20 (by omega) (by omega) (by omega) (fun h9 => h9.2.1 (by rw [← (S.2.2.2 _ h9).2, k20]; decide)) d_Se_keep_62 (fun f23 H locs Y S w23 => ?_)
              refine lv_iinc (v := iI (z6 + 1)) (lv' := [(7, .int (iI (z6 + 1))), (0, .ref h), (1, .ref a1), (2, .int (iI a2)), (3, .int (iI a3)), (4, .int (iI a4)), (5, .int (iI a5))]) X.1 X.2.1 d_Se_keep_63 hl (k := 6) rfl ((iI_add _ _).trans (congrArg iI (by omega))) (by decide) rfl (fun ls hl => ?_)
              refine lv_goto (tgt := 31) X.1 X.2.1 d_Se_keep_66 (by decide) ?_
              exact ih9 ((20201 - (z6 + 1)).toNat) (by omega) (z6 + 1) z7 f23 _ _ _ rfl (by omega) (by omega) ((gF_same (w23 _ (k_ne k0 k20 (by decide))) 4).trans e7) (by omega) (by omega) Y S (lv_sub hl [1, 2, 3, 4, 5, 6, 0] rfl)
        refine lv_istore (lv' := [(7, .int (iI 0)), (0, .ref h), (1, .ref a1), (2, .int (iI a2)), (3, .int (iI a3)), (4, .int (iI a4)), (5, .int (iI a5)), (6, .int (iI a6))]) X.1 X.2.1 d_Se_keep_29 hl (by decide) rfl (fun ls hl => ?_)
        exact J8 _ 0 z1 f _ _ _ rfl (by omega) (by omega) e1 (by omega) (by omega) Y S (lv_sub hl [1, 2, 3, 4, 5, 6, 0] rfl)
      · refine lv_iconst (v := iI 0) X.1 X.2.1 d_Se_keep_26 (by decide) ?_
        exact c_retz hQQ X Y hr hlk (iI_bool (by omega) (by omega)).1 ⟨rfl, S, 0, rfl, ⟨by omega, by omega⟩⟩ d_Se_keep_27
set_option maxHeartbeats 4000000 in
set_option maxRecDepth 100000 in
theorem c_Pr_findParts (l : Launch) (D : va_G) (E : cE) (T : cT) (κ : tK) (L : List Nat) (f : pF) (sz : Nat) (a1 : Nat) (k1 : κ a1 = (5, 12)) (a2 n2 : Nat) (k2 : κ a2 = (13, n2)) (x2 : n2 ≤ 12288) (hw : tW E T κ L f) : Met l y_Pr_findParts (k_Pr_findParts :: lw_tg) (kRm 2 86 0 0) (va_Pc [.ref a1, .ref a2] (kPre D E T L f sz)) (va_Qi (uPi L f (fun (z : Int) => (-1) ≤ z ∧ z ≤ 11)) (cPost D E (pA L sz)) (pA L sz)) 0 0 (pA L sz) := by
  refine k_enter (own := R_Pr) (by decide) rfl (Nat.le_of_ble_eq_true rfl) (fun p e s m below meth c ls AV QQ H locs hQQ X Y hA hin hr hlk hml hl KS KR => ?_)
  have hl : lv_has ls 3 [(0, .ref a1), (1, .ref a2)] := hl
  have S : tS E T (tFr κ L [] []) κ L f κ L f := tS_rf hw
  refine lv_iconst (v := iI 0) X.1 X.2.1 d_Pr_findParts_0 (by decide) ?_
  have J2 : ∀ (n4 : Nat) (z1 : Int) (H : Heap) (locs : List Loc) (ls : Array Slot), (12 - z1).toNat = n4 → (0 ≤ z1) → (z1 ≤ 12) → pH D cCl (pA L sz) s.heap L f H locs → tS E T (tFr κ L [] []) κ L f κ L f → lv_has ls 3 [(0, .ref a1), (1, .ref a2), (2, .int (iI z1))] → W p l e (kRm 2 86 0 0) s m AV below meth c H locs 0 0 QQ (F0 m 2 ls []) := by
    intro n4
    induction n4 using Nat.strongRecOn with
    | ind n4 ih3 =>
      intro z1 H locs ls hm5 l1 u1 Y S hl
      refine lv_iload_n X.1 X.2.1 d_Pr_findParts_2 rfl (lv_at hl 2 rfl) ?_
      refine lv_aload_n X.1 X.2.1 d_Pr_findParts_3 rfl (lv_at hl 0 rfl) ?_
      refine t_rlen X Y S k1 (fun h9 => h9) (t0 := 2) rfl (by omega) d_Pr_findParts_4 ?_
      refine z_icmp_ge (tgt := 53) X.1 X.2.1 d_Pr_findParts_5 (by decide) ⟨by omega, by omega⟩ ⟨by omega, by omega⟩ (fun h6 => ?_) (fun h6 => ?_)
      · refine lv_iconst (v := iI (-1)) X.1 X.2.1 d_Pr_findParts_53 (by decide) ?_
        exact c_reti hQQ X Y hr hlk ⟨rfl, rfl, (-1), rfl, ⟨by omega, by omega⟩⟩ d_Pr_findParts_54
      · refine lv_aload_n X.1 X.2.1 d_Pr_findParts_8 rfl (lv_at hl 0 rfl) ?_
        refine lv_iload_n X.1 X.2.1 d_Pr_findParts_9 rfl (lv_at hl 2 rfl) ?_
        refine t_aald X Y S k1 (fun h9 => h9) (t0 := 2) rfl (by omega) (by omega) (by omega) d_Pr_findParts_10 (fun b7 e7 k7 => ?_)
        refine t_geti (ci := 7) X Y S k7 rfl i_Pr 2 (by decide) rfl lk_Pr_55 (fun _ h9 => h9) d_Pr_findParts_11 (fun z8 e8 l8 u8 => ?_)
        have J9 : ∀  (H : Heap) (locs : List Loc) (ls : Array Slot), pH D cCl (pA L sz) s.heap L f H locs → tS E T (tFr κ L [] []) κ L f κ L f → lv_has ls 3 [(0, .ref a1), (1, .ref a2), (2, .int (iI z111))] → W p l e (kRm 2 86 0 0) s m AV below meth c H locs 0 0 QQ (F0 m 47 ls []) := by
          intro  H locs ls  Y S hl
          refine lv_iinc (v := iI (z111 + 1)) (lv' := [(2, .int (iI (z111 + 1))), (0, .ref a1), (1, .ref a2)]) X.1 X.2.1 d_Pr_findParts_47 hl (k := 2) rfl ((iI_add _ _).trans (congrArg iI (by omega))) (by decide) rfl (fun ls hl => ?_)
          refine lv_goto (tgt := 2) X.1 X.2.1 d_Pr_findParts_50 (by decide) ?_
          exact ih3 ((12 - (z111 + 1)).toNat) (by omega) (z111 + 1) _ _ _ rfl (by omega) (by omega) Y S (lv_sub hl [1, 2, 0] rfl)
        refine z_if_eq (tgt := 47) X.1 X.2.1 d_Pr_findParts_14 (by decide) ⟨by omega, by omega⟩ (fun h13 => ?_) (fun h13 => ?_)
        · exact J9  _ _ _  Y S (lv_sub hl [0, 1, 2] rfl)
        · refine lv_aload_n X.1 X.2.1 d_Pr_findParts_17 rfl (lv_at hl 1 rfl) ?_
          refine lv_iconst (v := iI 0) X.1 X.2.1 d_Pr_findParts_18 (by decide) ?_
          refine lv_aload_n X.1 X.2.1 d_Pr_findParts_19 rfl (lv_at hl 1 rfl) ?_
          refine t_gets (ci := 3) X Y S k2 rfl i_By 1 (by decide) rfl lk_Pr_59 (fun _ h9 => h9) d_Pr_findParts_20 (fun z14 e14 l14 u14 => ?_)
          refine lv_aload_n X.1 X.2.1 d_Pr_findParts_23 rfl (lv_at hl 0 rfl) ?_
          refine lv_iload_n X.1 X.2.1 d_Pr_findParts_24 rfl (lv_at hl 2 rfl) ?_
          refine t_aald0 X Y S k1 (fun h9 => h9) (t0 := 2) rfl (by omega) (by omega) (by omega) d_Pr_findParts_25 e7 ?_
          refine t_getr (ci := 7) X Y S k7 rfl i_Pr 0 (by decide) rfl (k1 := 13) (k2 := 40) rfl rfl lk_Pr_14 (fun _ h9 => h9) d_Pr_findParts_26 (fun b15 e15 k15 => ?_)
          refine lv_iconst (v := iI 0) X.1 X.2.1 d_Pr_findParts_29 (by decide) ?_
          refine lv_aload_n X.1 X.2.1 d_Pr_findParts_30 rfl (lv_at hl 0 rfl) ?_
          refine lv_iload_n X.1 X.2.1 d_Pr_findParts_31 rfl (lv_at hl 2 rfl) ?_
          refine t_aald0 X Y S k1 (fun h9 => h9) (t0 := 2) rfl (by omega) (by omega) (by omega) d_Pr_findParts_32 e7 ?_
          refine t_get0 (ci := 7) X Y S k7 rfl i_Pr 0 (by decide) rfl lk_Pr_14 (fun _ h9 => h9) d_Pr_findParts_33 e15 ?_
          refine t_gets (ci := 3) X Y S k15 rfl i_By 1 (by decide) rfl lk_Pr_59 (fun _ h9 => h9) d_Pr_findParts_36 (fun z16 e16 l16 u16 => ?_)
          refine t_ui (t_runV (As := [.int (iI 0), .int (iI z14), .ref b15, .int (iI 0), .int (iI z16)]) (rest := []) (n := 5) X Y S k2 hml hl.1 (c_By_sameAs l D E T κ L f H.size a2 n2 k2 (by omega) 0 (by omega) (by omega) z14 (by omega) (by omega) b15 40 k15 (by omega) 0 (by omega) (by omega) z16 (by omega) (by omega) S.1) (ok_k X Y hA KS KR) rfl kl_Pr_By_sameAs ks_By_sameAs kx_By_sameAs ki_By_sameAs ini_By ⟨rfl, rfl⟩ hd_By_sameAs ⟨Nat.le_of_ble_eq_true rfl, Nat.le_of_ble_eq_true rfl⟩ rfl (Nat.le_of_ble_eq_true rfl) d_Pr_findParts_39 ⟨Nat.le_of_ble_eq_true rfl, Nat.le_of_ble_eq_true rfl⟩) X Y hA (fun z17 H locs Y p17 => ?_)
          obtain ⟨l17, u17⟩ := p17
          refine z_if_eq (tgt := 47) X.1 X.2.1 d_Pr_findParts_42 (by decide) ⟨by omega, by omega⟩ (fun h18 => ?_) (fun h18 => ?_)
          · exact J9  _ _ _  Y S (lv_sub hl [0, 1, 2] rfl)
          · refine lv_iload_n X.1 X.2.1 d_Pr_findParts_45 rfl (lv_at hl 2 rfl) ?_
            exact c_reti hQQ X Y hr hlk ⟨rfl, rfl, z1, rfl, ⟨by omega, by omega⟩⟩ d_Pr_findParts_46
  refine lv_istore_n (lv' := [(2, .int (iI 0)), (0, .ref a1), (1, .ref a2)]) X.1 X.2.1 d_Pr_findParts_1 rfl hl (by decide) rfl (fun ls hl => ?_)
  exact J2 _ 0 _ _ _ rfl (by omega) (by omega) Y S (lv_sub hl [1, 2, 0] rfl)
set_option maxHeartbeats 4000000 in
set_option maxRecDepth 100000 in
theorem c_Pr_findNamed (l : Launch) (D : va_G) (E : cE) (T : cT) (κ : tK) (L : List Nat) (f : pF) (sz : Nat) (a1 : Nat) (k1 : κ a1 = (5, 12)) (a2 n2 : Nat) (k2 : κ a2 = (13, n2)) (x2 : n2 ≤ 12288) (a3 : Int) (l_a3 : (-1) ≤ a3) (u_a3 : a3 ≤ 20200) (hw : tW E T κ L f) : Met l y_Pr_findNamed (k_Pr_findNamed :: lw_tg) (kRm 4 135 0 0) (va_Pc [.ref a1, .ref a2, .int (iI a3)] (kPre D E T L f sz)) (va_Qi (uPi L f (fun (z : Int) => (-1) ≤ z ∧ z ≤ 11)) (cPost D E (pA L sz)) (pA L sz)) 0 0 (pA L sz) := by
  refine k_enter (own := R_Pr) (by decide) rfl (Nat.le_of_ble_eq_true rfl) (fun p e s m below meth c ls AV QQ H locs hQQ X Y hA hin hr hlk hml hl KS KR => ?_)
  have hl : lv_has ls 4 [(0, .ref a1), (1, .ref a2), (2, .int (iI a3))] := hl
  have S : tS E T (tFr κ L [] []) κ L f κ L f := tS_rf hw
  refine lv_iconst (v := iI 0) X.1 X.2.1 d_Pr_findNamed_0 (by decide) ?_
  have J2 : ∀ (n4 : Nat) (z1 : Int) (H : Heap) (locs : List Loc) (ls : Array Slot), (12 - z1).toNat = n4 → (0 ≤ z1) → (z1 ≤ 12) → pH D cCl (pA L sz) s.heap L f H locs → tS E T (tFr κ L [] []) κ L f κ L f → lv_has ls 4 [(0, .ref a1), (1, .ref a2), (2, .int (iI a3)), (3, .int (iI z1))] → W p l e (kRm 4 135 0 0) s m AV below meth c H locs 0 0 QQ (F0 m 2 ls []) := by
    intro n4
    induction n4 using Nat.strongRecOn with
    | ind n4 ih3 =>
      intro z1 H locs ls hm5 l1 u1 Y S hl
      refine lv_iload_n X.1 X.2.1 d_Pr_findNamed_2 rfl (lv_at hl 3 rfl) ?_
      refine lv_aload_n X.1 X.2.1 d_Pr_findNamed_3 rfl (lv_at hl 0 rfl) ?_
      refine t_rlen X Y S k1 (fun h9 => h9) (t0 := 2) rfl (by omega) d_Pr_findNamed_4 ?_
      refine z_icmp_ge (tgt := 39) X.1 X.2.1 d_Pr_findNamed_5 (by decide) ⟨by omega, by omega⟩ ⟨by omega, by omega⟩ (fun h6 => ?_) (fun h6 => ?_)
      · refine lv_iconst (v := iI (-1)) X.1 X.2.1 d_Pr_findNamed_39 (by decide) ?_
        exact c_reti hQQ X Y hr hlk ⟨rfl, rfl, (-1), rfl, ⟨by omega, by omega⟩⟩ d_Pr_findNamed_40
      · refine lv_aload_n X.1 X.2.1 d_Pr_findNamed_8 rfl (lv_at hl 0 rfl) ?_
        refine lv_iload_n X.1 X.2.1 d_Pr_findNamed_9 rfl (lv_at hl 3 rfl) ?_
        refine t_aald X Y S k1 (fun h9 => h9) (t0 := 2) rfl (by omega) (by omega) (by omega) d_Pr_findNamed_10 (fun b7 e7 k7 => ?_)
        refine t_geti (ci := 7) X Y S k7 rfl i_Pr 2 (by decide) rfl lk_Pr_55 (fun _ h9 => h9) d_Pr_findNamed_11 (fun z8 e8 l8 u8 => ?_)
        have J9 : ∀  (H : Heap) (locs : List Loc) (ls : Array Slot), pH D cCl (pA L sz) s.heap L f H locs → tS E T (tFr κ L [] []) κ L f κ L f → lv_has ls 4 [(0, .ref a1), (1, .ref a2), (2, .int (iI a3)), (3, .int (iI z89))] → W p l e (kRm 4 135 0 0) s m AV below meth c H locs 0 0 QQ (F0 m 33 ls []) := by
          intro  H locs ls  Y S hl
          refine lv_iinc (v := iI (z89 + 1)) (lv' := [(3, .int (iI (z89 + 1))), (0, .ref a1), (1, .ref a2), (2, .int (iI a3))]) X.1 X.2.1 d_Pr_findNamed_33 hl (k := 3) rfl ((iI_add _ _).trans (congrArg iI (by omega))) (by decide) rfl (fun ls hl => ?_)
          refine lv_goto (tgt := 2) X.1 X.2.1 d_Pr_findNamed_36 (by decide) ?_
          exact ih3 ((12 - (z89 + 1)).toNat) (by omega) (z89 + 1) _ _ _ rfl (by omega) (by omega) Y S (lv_sub hl [1, 2, 3, 0] rfl)
        refine z_if_eq (tgt := 33) X.1 X.2.1 d_Pr_findNamed_14 (by decide) ⟨by omega, by omega⟩ (fun h13 => ?_) (fun h13 => ?_)
        · exact J9  _ _ _  Y S (lv_sub hl [0, 1, 2, 3] rfl)
        · refine lv_aload_n X.1 X.2.1 d_Pr_findNamed_17 rfl (lv_at hl 1 rfl) ?_
          refine lv_iload_n X.1 X.2.1 d_Pr_findNamed_18 rfl (lv_at hl 2 rfl) ?_
          refine lv_aload_n X.1 X.2.1 d_Pr_findNamed_19 rfl (lv_at hl 0 rfl) ?_
          refine lv_iload_n X.1 X.2.1 d_Pr_findNamed_20 rfl (lv_at hl 3 rfl) ?_
          refine t_aald0 X Y S k1 (fun h9 => h9) (t0 := 2) rfl (by omega) (by omega) (by omega) d_Pr_findNamed_21 e7 ?_
          refine t_getr (ci := 7) X Y S k7 rfl i_Pr 0 (by decide) rfl (k1 := 13) (k2 := 40) rfl rfl lk_Pr_14 (fun _ h9 => h9) d_Pr_findNamed_22 (fun b14 e14 k14 => ?_)
          refine t_ui (t_runV (As := [.int (iI a3), .ref b14]) (rest := []) (n := 2) X Y S k2 hml hl.1 (c_By_isNamed l D E T κ L f H.size a2 n2 k2 (by omega) a3 (by omega) (by omega) b14 40 k14 (by omega) S.1) (ok_k X Y hA KS KR) rfl kl_Pr_By_isNamed ks_By_isNamed kx_By_isNamed ki_By_isNamed ini_By ⟨rfl, rfl⟩ hd_By_isNamed ⟨Nat.le_of_ble_eq_true rfl, Nat.le_of_ble_eq_true rfl⟩ rfl (Nat.le_of_ble_eq_true rfl) d_Pr_findNamed_25 ⟨Nat.le_of_ble_eq_true rfl, Nat.le_of_ble_eq_true rfl⟩) X Y hA (fun z15 H locs Y p15 => ?_)
          obtain ⟨l15, u15⟩ := p15
          refine z_if_eq (tgt := 33) X.1 X.2.1 d_Pr_findNamed_28 (by decide) ⟨by omega, by omega⟩ (fun h16 => ?_) (fun h16 => ?_)
          · exact J9  _ _ _  Y S (lv_sub hl [0, 1, 2, 3] rfl)
          · refine lv_iload_n X.1 X.2.1 d_Pr_findNamed_31 rfl (lv_at hl 3 rfl) ?_
            exact c_reti hQQ X Y hr hlk ⟨rfl, rfl, z1, rfl, ⟨by omega, by omega⟩⟩ d_Pr_findNamed_32
  refine lv_istore_n (lv' := [(3, .int (iI 0)), (0, .ref a1), (1, .ref a2), (2, .int (iI a3))]) X.1 X.2.1 d_Pr_findNamed_1 rfl hl (by decide) rfl (fun ls hl => ?_)
  exact J2 _ 0 _ _ _ rfl (by omega) (by omega) Y S (lv_sub hl [1, 2, 3, 0] rfl)
set_option maxHeartbeats 4000000 in
set_option maxRecDepth 100000 in
theorem c_Pr_begin (l : Launch) (D : va_G) (E : cE) (T : cT) (κ : tK) (L : List Nat) (f : pF) (sz : Nat) (h : Nat) (k0 : κ h = (17, 0)) (a1 n1 : Nat) (k1 : κ a1 = (13, n1)) (x1 : n1 ≤ 12288) (hw : tW E T κ L f) : Met l y_Pr_begin (k_Pr_begin :: lw_tg) (kRm 3 104 0 0) (va_Pc [.ref h, .ref a1] (kPre D E T L f sz)) (va_Qv (nPv E T [1, 13, 17] κ L f (fun (g : pF) => True)) (cPost D E (pA L sz)) (pA L sz)) 0 0 (pA L sz) := by
  refine k_enter (own := R_Pr) (by decide) rfl (Nat.le_of_ble_eq_true rfl) (fun p e s m below meth c ls AV QQ H locs hQQ X Y hA hin hr hlk hml hl KS KR => ?_)
  have hl : lv_has ls 2 [(0, .ref h), (1, .ref a1)] := hl
  have S : tS E T (tFr κ L [1, 13, 17] []) κ L f κ L f := tS_rf hw
  refine lv_aload_n X.1 X.2.1 d_Pr_begin_0 rfl (lv_at hl 0 rfl) ?_
  refine t_getr (ci := 7) X Y S k0 rfl i_Pr 0 (by decide) rfl (k1 := 13) (k2 := 40) rfl rfl lk_Pr_14 (fun _ h9 => h9) d_Pr_begin_1 (fun b1 e1 k1 => ?_)
  refine lv_aload_n X.1 X.2.1 d_Pr_begin_4 rfl (lv_at hl 1 rfl) ?_
  refine t_nv (t_runV (As := [.ref a1]) (rest := []) (n := 1) X Y S k1 hml hl.1 (c_By_copyOf l D E T κ L f H.size b1 40 k1 (by omega) a1 n1 k1 (by omega) S.1) (ok_k X Y hA KS KR) rfl kl_Pr_By_copyOf ks_By_copyOf kx_By_copyOf ki_By_copyOf ini_By ⟨rfl, rfl⟩ hd_By_copyOf ⟨Nat.le_of_ble_eq_true rfl, Nat.le_of_ble_eq_true rfl⟩ rfl (Nat.le_of_ble_eq_true rfl) d_Pr_begin_5 ⟨Nat.le_of_ble_eq_true rfl, Nat.le_of_ble_eq_true rfl⟩) X Y hA S (by decide) (fun f2 H locs Y S s2 p2 => ?_)
  refine lv_aload_n X.1 X.2.1 d_Pr_begin_8 rfl (lv_at hl 0 rfl) ?_
  refine lv_iconst (v := iI 1) X.1 X.2.1 d_Pr_begin_9 (by decide) ?_
  refine t_put (ci := 7) X Y S k0 rfl i_Pr t_Pr t_Pr_ok n_Pr 2 (by decide) rfl lk_Pr_55 (fun _ h9 => h9) rfl (t_Pr_ok 2 (by decide)) (iI_bool (by omega) (by omega)).1 (iI_bool (by omega) (by omega)).2 ⟨_, rfl, by omega, by omega⟩ (fun h9 => h9.2.1 (by rw [← (S.2.2.2 _ h9).2, k0]; decide)) d_Pr_begin_10 (fun f3 H locs Y S w3 => ?_)
  exact c_retv hQQ X Y hr hlk ⟨rfl, S, trivial⟩ d_Pr_begin_13
set_option maxHeartbeats 4000000 in
set_option maxRecDepth 100000 in
theorem c_Pr_rekey (l : Launch) (D : va_G) (E : cE) (T : cT) (κ : tK) (L : List Nat) (f : pF) (sz : Nat) (h : Nat) (k0 : κ h = (17, 0)) (a1 : Nat) (k1 : κ a1 = (21, 0)) (a2 n2 : Nat) (k2 : κ a2 = (13, n2)) (x2 : n2 ≤ 12288) (a3 : Int) (l_a3 : (-1) ≤ a3) (u_a3 : a3 ≤ 20200) (a4 : Int) (l_a4 : (-2147483648) ≤ a4) (u_a4 : a4 ≤ 2147483647) (hw : tW E T κ L f) : Met l y_Pr_rekey (k_Pr_rekey :: lw_tg) (kRm 7 181 2 64) (va_Pc [.ref h, .ref a1, .ref a2, .int (iI a3), .int (iI a4)] (kPre D E T L f sz)) (va_Qv (aPv E T [1, 2, 3, 4, 5, 6, 7, 8, 9, 10, 11, 12, 13, 14, 15, 16, 17, 18, 19, 20, 21] [] κ L f (fun (k : tK) (g : pF) => True)) (cPost D E (pA L sz)) (pA L sz)) 2 64 (pA L sz) := by
  refine k_enter (own := R_Pr) (by decide) rfl (Nat.le_of_ble_eq_true rfl) (fun p e s m below meth c ls AV QQ H locs hQQ X Y hA hin hr hlk hml hl KS KR => ?_)
  have hl : lv_has ls 5 [(0, .ref h), (1, .ref a1), (2, .ref a2), (3, .int (iI a3)), (4, .int (iI a4))] := hl
  have S : tS E T (tFr κ L [1, 2, 3, 4, 5, 6, 7, 8, 9, 10, 11, 12, 13, 14, 15, 16, 17, 18, 19, 20, 21] []) κ L f κ L f := tS_rf hw
  have hF0 : ∀ b, tFr κ L [1, 2, 3, 4, 5, 6, 7, 8, 9, 10, 11, 12, 13, 14, 15, 16, 17, 18, 19, 20, 21] [] b → b ∈ L := fun b h9 => h9.1
  refine lv_aload_n X.1 X.2.1 d_Pr_rekey_0 rfl (lv_at hl 0 rfl) ?_
  refine lv_aload_n X.1 X.2.1 d_Pr_rekey_1 rfl (lv_at hl 0 rfl) ?_
  refine t_getk (ci := 7) X Y S k0 rfl i_Pr 5 (by decide) rfl lk_Pr_31 (fun _ h9 => h9) d_Pr_rekey_2 (fun b1 n1 e1 k1 x1 => ?_)
  refine t_put (ci := 7) X Y S k0 rfl i_Pr t_Pr t_Pr_ok n_Pr 7 (by decide) rfl lk_Pr_37 (fun _ h9 => h9) rfl (t_Pr_ok 7 (by decide)) rfl rfl ⟨_, n1, rfl, k1⟩ (fun h9 => h9.2.1 (by rw [← (S.2.2.2 _ h9).2, k0]; decide)) d_Pr_rekey_5 (fun f2 H locs Y S w2 => ?_)
  refine lv_aload_n X.1 X.2.1 d_Pr_rekey_8 rfl (lv_at hl 0 rfl) ?_
  refine lv_aload_n X.1 X.2.1 d_Pr_rekey_9 rfl (lv_at hl 0 rfl) ?_
  refine t_getk (ci := 7) X Y S k0 rfl i_Pr 6 (by decide) rfl lk_Pr_34 (fun _ h9 => h9) d_Pr_rekey_10 (fun b3 n3 e3 k3 x3 => ?_)
  refine t_put (ci := 7) X Y S k0 rfl i_Pr t_Pr t_Pr_ok n_Pr 8 (by decide) rfl lk_Pr_40 (fun _ h9 => h9) rfl (t_Pr_ok 8 (by decide)) rfl rfl ⟨_, n3, rfl, k3⟩ (fun h9 => h9.2.1 (by rw [← (S.2.2.2 _ h9).2, k0]; decide)) d_Pr_rekey_13 (fun f4 H locs Y S w4 => ?_)
  refine lv_aload_n X.1 X.2.1 d_Pr_rekey_16 rfl (lv_at hl 0 rfl) ?_
  refine lv_aload_n X.1 X.2.1 d_Pr_rekey_17 rfl (lv_at hl 1 rfl) ?_
  refine lv_bipush (v := iI 18) X.1 X.2.1 d_Pr_rekey_18 (by decide) ?_
  refine lv_aload_n X.1 X.2.1 d_Pr_rekey_20 rfl (lv_at hl 0 rfl) ?_
  refine t_getr (ci := 7) X Y S k0 rfl i_Pr 0 (by decide) rfl (k1 := 13) (k2 := 40) rfl rfl lk_Pr_14 (fun _ h9 => h9) d_Pr_rekey_21 (fun b5 e5 k5 => ?_)
  refine lv_aload_n X.1 X.2.1 d_Pr_rekey_24 rfl (lv_at hl 2 rfl) ?_
  refine lv_iload_n X.1 X.2.1 d_Pr_rekey_25 rfl (lv_at hl 3 rfl) ?_
  refine lv_iload X.1 X.2.1 d_Pr_rekey_26 (lv_at hl 4 rfl) ?_
  refine t_ar (t_runV (As := [.int (iI 18), .ref b5, .ref a2, .int (iI a3), .int (iI a4)]) (rest := [.ref h]) (n := 5) X Y S k1 hml hl.1 (c_Va_passwordKey l D E T κ L f4 H.size a1 k1 18 (by omega) (by omega) b5 40 k5 (by omega) a2 n2 k2 (by omega) a3 (by omega) (by omega) a4 (by omega) (by omega) S.1) (ok_k X Y hA KS KR) rfl kl_Pr_Va_passwordKey ks_Va_passwordKey kx_Va_passwordKey ki_Va_passwordKey ini_Va ⟨rfl, rfl⟩ hd_Va_passwordKey ⟨Nat.le_of_ble_eq_true rfl, Nat.le_of_ble_eq_true rfl⟩ rfl (Nat.le_of_ble_eq_true rfl) d_Pr_rekey_28 ⟨Nat.le_of_ble_eq_true rfl, Nat.le_of_ble_eq_true rfl⟩) X Y hA S (by decide) (fun b6 κ6 L6 f6 H locs Y S s6 p6 => ?_)
  obtain ⟨n6, k6⟩ := p6
  have x6 := tKey_n k6
  have k7 : κ6 h = (17, 0) := tLe_k s6.2.2.1 k0
  have k8 : κ6 a1 = (21, 0) := tLe_k s6.2.2.1 k1
  have k9 : κ6 a2 = (13, n2) := tLe_k s6.2.2.1 k2
  refine t_put (ci := 7) X Y S k7 rfl i_Pr t_Pr t_Pr_ok n_Pr 5 (by decide) rfl lk_Pr_31 (fun _ h9 => h9) rfl (t_Pr_ok 5 (by decide)) rfl rfl ⟨_, n6, rfl, k6⟩ (fun h9 => h9.2.1 (by rw [← (S.2.2.2 _ h9).2, k7]; decide)) d_Pr_rekey_31 (fun f10 H locs Y S w10 => ?_)
  refine lv_aload_n X.1 X.2.1 d_Pr_rekey_34 rfl (lv_at hl 0 rfl) ?_
  refine lv_aload_n X.1 X.2.1 d_Pr_rekey_35 rfl (lv_at hl 1 rfl) ?_
  refine lv_bipush (v := iI 17) X.1 X.2.1 d_Pr_rekey_36 (by decide) ?_
  refine lv_aload_n X.1 X.2.1 d_Pr_rekey_38 rfl (lv_at hl 0 rfl) ?_
  refine t_getr (ci := 7) X Y S k7 rfl i_Pr 0 (by decide) rfl (k1 := 13) (k2 := 40) rfl rfl lk_Pr_14 (fun _ h9 => h9) d_Pr_rekey_39 (fun b11 e11 k11 => ?_)
  refine lv_aload_n X.1 X.2.1 d_Pr_rekey_42 rfl (lv_at hl 2 rfl) ?_
  refine lv_iload_n X.1 X.2.1 d_Pr_rekey_43 rfl (lv_at hl 3 rfl) ?_
  refine lv_iload X.1 X.2.1 d_Pr_rekey_44 (lv_at hl 4 rfl) ?_
  refine t_ar (t_runV (As := [.int (iI 17), .ref b11, .ref a2, .int (iI a3), .int (iI a4)]) (rest := [.ref h]) (n := 5) X Y S k8 hml hl.1 (c_Va_passwordKey l D E T κ6 L6 f10 H.size a1 k8 17 (by omega) (by omega) b11 40 k11 (by omega) a2 n2 k9 (by omega) a3 (by omega) (by omega) a4 (by omega) (by omega) S.1) (ok_k X Y hA KS KR) rfl kl_Pr_Va_passwordKey ks_Va_passwordKey kx_Va_passwordKey ki_Va_passwordKey ini_Va ⟨rfl, rfl⟩ hd_Va_passwordKey ⟨Nat.le_of_ble_eq_true rfl, Nat.le_of_ble_eq_true rfl⟩ rfl (Nat.le_of_ble_eq_true rfl) d_Pr_rekey_46 ⟨Nat.le_of_ble_eq_true rfl, Nat.le_of_ble_eq_true rfl⟩) X Y hA S (by decide) (fun b12 κ12 L12 f12 H locs Y S s12 p12 => ?_)
  obtain ⟨n12, k12⟩ := p12
  have x12 := tKey_n k12
  have k13 : κ12 h = (17, 0) := tLe_k s12.2.2.1 k7
  have k14 : κ12 a1 = (21, 0) := tLe_k s12.2.2.1 k8
  have k15 : κ12 a2 = (13, n2) := tLe_k s12.2.2.1 k9
  refine t_put (ci := 7) X Y S k13 rfl i_Pr t_Pr t_Pr_ok n_Pr 6 (by decide) rfl lk_Pr_34 (fun _ h9 => h9) rfl (t_Pr_ok 6 (by decide)) rfl rfl ⟨_, n12, rfl, k12⟩ (fun h9 => h9.2.1 (by rw [← (S.2.2.2 _ h9).2, k13]; decide)) d_Pr_rekey_49 (fun f16 H locs Y S w16 => ?_)
  refine lv_aload_n X.1 X.2.1 d_Pr_rekey_52 rfl (lv_at hl 0 rfl) ?_
  refine lv_iload X.1 X.2.1 d_Pr_rekey_53 (lv_at hl 4 rfl) ?_
  refine t_put (ci := 7) X Y S k13 rfl i_Pr t_Pr t_Pr_ok n_Pr 4 (by decide) rfl lk_Pr_80 (fun _ h9 => h9) rfl (t_Pr_ok 4 (by decide)) rfl rfl ⟨_, rfl, by omega, by omega⟩ (fun h9 => h9.2.1 (by rw [← (S.2.2.2 _ h9).2, k13]; decide)) d_Pr_rekey_55 (fun f17 H locs Y S w17 => ?_)
  refine lv_aload_n X.1 X.2.1 d_Pr_rekey_58 rfl (lv_at hl 0 rfl) ?_
  refine lv_dup X.1 X.2.1 d_Pr_rekey_59 rfl ?_
  refine t_geti (ci := 7) X Y S k13 rfl i_Pr 3 (by decide) rfl lk_Pr_83 (fun _ h9 => h9) d_Pr_rekey_60 (fun z18 e18 l18 u18 => ?_)
  refine lv_iconst (v := iI 1) X.1 X.2.1 d_Pr_rekey_63 (by decide) ?_
  refine lv_iadd X.1 X.2.1 d_Pr_rekey_64 ?_
  refine t_u (fun z19 l19 u19 => ?_)
  refine t_put (ci := 7) X Y S k13 rfl i_Pr t_Pr t_Pr_ok n_Pr 3 (by decide) rfl lk_Pr_83 (fun _ h9 => h9) rfl (t_Pr_ok 3 (by decide)) rfl rfl ⟨_, rfl, by omega, by omega⟩ (fun h9 => h9.2.1 (by rw [← (S.2.2.2 _ h9).2, k13]; decide)) d_Pr_rekey_65 (fun f20 H locs Y S w20 => ?_)
  exact c_retv hQQ X Y hr hlk ⟨κ12, S, trivial⟩ d_Pr_rekey_68
set_option maxHeartbeats 4000000 in
set_option maxRecDepth 100000 in
theorem c_Pr_rule (l : Launch) (D : va_G) (E : cE) (T : cT) (κ : tK) (L : List Nat) (f : pF) (sz : Nat) (h : Nat) (k0 : κ h = (17, 0)) (a1 : Int) (l_a1 : (-2147483648) ≤ a1) (u_a1 : a1 ≤ 2147483647) (a2 : Int) (l_a2 : (-2147483648) ≤ a2) (u_a2 : a2 ≤ 2147483647) (hw : tW E T κ L f) : Met l y_Pr_rule (k_Pr_rule :: lw_tg) (kRm 1 60 0 0) (va_Pc [.ref h, .int (iI a1), .int (iI a2)] (kPre D E T L f sz)) (va_Qi (nPi E T [17] κ L f (fun (z : Int) (g : pF) => 0 ≤ z ∧ z ≤ 1)) (cPost D E (pA L sz)) (pA L sz)) 0 0 (pA L sz) := by
  refine k_enter (own := R_Pr) (by decide) rfl (Nat.le_of_ble_eq_true rfl) (fun p e s m below meth c ls AV QQ H locs hQQ X Y hA hin hr hlk hml hl KS KR => ?_)
  have hl : lv_has ls 3 [(0, .ref h), (1, .int (iI a1)), (2, .int (iI a2))] := hl
  have S : tS E T (tFr κ L [17] []) κ L f κ L f := tS_rf hw
  refine lv_iload_n X.1 X.2.1 d_Pr_rule_0 rfl (lv_at hl 1 rfl) ?_
  refine z_if_lt (tgt := 27) X.1 X.2.1 d_Pr_rule_1 (by decide) ⟨by omega, by omega⟩ (fun h1 => ?_) (fun h1 => ?_)
  · refine lv_iconst (v := iI 0) X.1 X.2.1 d_Pr_rule_27 (by decide) ?_
    exact c_retz hQQ X Y hr hlk (iI_bool (by omega) (by omega)).1 ⟨rfl, S, 0, rfl, ⟨by omega, by omega⟩⟩ d_Pr_rule_28
  · refine lv_iload_n X.1 X.2.1 d_Pr_rule_4 rfl (lv_at hl 1 rfl) ?_
    refine lv_iconst (v := iI 3) X.1 X.2.1 d_Pr_rule_5 (by decide) ?_
    refine z_icmp_gt (tgt := 27) X.1 X.2.1 d_Pr_rule_6 (by decide) ⟨by omega, by omega⟩ ⟨by omega, by omega⟩ (fun h2 => ?_) (fun h2 => ?_)
    · refine lv_iconst (v := iI 0) X.1 X.2.1 d_Pr_rule_27 (by decide) ?_
      exact c_retz hQQ X Y hr hlk (iI_bool (by omega) (by omega)).1 ⟨rfl, S, 0, rfl, ⟨by omega, by omega⟩⟩ d_Pr_rule_28
    · refine lv_iload_n X.1 X.2.1 d_Pr_rule_9 rfl (lv_at hl 2 rfl) ?_
      refine k_gets 4 (by decide) X Y KS sk_Pr_86 d_Pr_rule_10 ?_
      refine lv_iload_n X.1 X.2.1 d_Pr_rule_13 rfl (lv_at hl 1 rfl) ?_
      refine t_sald 4 (by decide) rfl X Y KS (by omega) (show a1 < ((4 : Nat) : Int) by omega) (by omega) d_Pr_rule_14 (fun z3 l3 u3 => ?_)
      refine z_icmp_lt (tgt := 27) X.1 X.2.1 d_Pr_rule_15 (by decide) ⟨by omega, by omega⟩ ⟨by omega, by omega⟩ (fun h4 => ?_) (fun h4 => ?_)
      · refine lv_iconst (v := iI 0) X.1 X.2.1 d_Pr_rule_27 (by decide) ?_
        exact c_retz hQQ X Y hr hlk (iI_bool (by omega) (by omega)).1 ⟨rfl, S, 0, rfl, ⟨by omega, by omega⟩⟩ d_Pr_rule_28
      · refine lv_iload_n X.1 X.2.1 d_Pr_rule_18 rfl (lv_at hl 2 rfl) ?_
        refine k_gets 5 (by decide) X Y KS sk_Pr_90 d_Pr_rule_19 ?_
        refine lv_iload_n X.1 X.2.1 d_Pr_rule_22 rfl (lv_at hl 1 rfl) ?_
        refine t_sald 5 (by decide) rfl X Y KS (by omega) (show a1 < ((4 : Nat) : Int) by omega) (by omega) d_Pr_rule_23 (fun z5 l5 u5 => ?_)
        refine z_icmp_le (tgt := 29) X.1 X.2.1 d_Pr_rule_24 (by decide) ⟨by omega, by omega⟩ ⟨by omega, by omega⟩ (fun h6 => ?_) (fun h6 => ?_)
        · refine lv_iload_n X.1 X.2.1 d_Pr_rule_29 rfl (lv_at hl 1 rfl) ?_
          by_cases h7 : a1 = 0
          · rw [h7]
            refine lv_tableIn (off := 26) (tgt := 56) X.1 X.2.1 d_Pr_rule_30 (by decide) (by decide) (by decide) (by decide) ?_
            refine lv_aload_n X.1 X.2.1 d_Pr_rule_56 rfl (lv_at hl 0 rfl) ?_
            refine lv_iload_n X.1 X.2.1 d_Pr_rule_57 rfl (lv_at hl 2 rfl) ?_
            refine t_put (ci := 7) X Y S k0 rfl i_Pr t_Pr t_Pr_ok n_Pr 9 (by decide) rfl lk_Pr_44 (fun _ h9 => h9) rfl (t_Pr_ok 9 (by decide)) rfl rfl ⟨_, rfl, by omega, by omega⟩ (fun h9 => h9.2.1 (by rw [← (S.2.2.2 _ h9).2, k0]; decide)) d_Pr_rule_58 (fun f8 H locs Y S w8 => ?_)
            refine lv_goto (tgt := 85) X.1 X.2.1 d_Pr_rule_61 (by decide) ?_
            refine lv_iconst (v := iI 1) X.1 X.2.1 d_Pr_rule_85 (by decide) ?_
            exact c_retz hQQ X Y hr hlk (iI_bool (by omega) (by omega)).1 ⟨rfl, S, 1, rfl, ⟨by omega, by omega⟩⟩ d_Pr_rule_86
          by_cases h9 : a1 = 1
          · rw [h9]
            refine lv_tableIn (off := 34) (tgt := 64) X.1 X.2.1 d_Pr_rule_30 (by decide) (by decide) (by decide) (by decide) ?_
            refine lv_aload_n X.1 X.2.1 d_Pr_rule_64 rfl (lv_at hl 0 rfl) ?_
            refine lv_iload_n X.1 X.2.1 d_Pr_rule_65 rfl (lv_at hl 2 rfl) ?_
            refine t_put (ci := 7) X Y S k0 rfl i_Pr t_Pr t_Pr_ok n_Pr 10 (by decide) rfl lk_Pr_49 (fun _ h9 => h9) rfl (t_Pr_ok 10 (by decide)) rfl rfl ⟨_, rfl, by omega, by omega⟩ (fun h9 => h9.2.1 (by rw [← (S.2.2.2 _ h9).2, k0]; decide)) d_Pr_rule_66 (fun f10 H locs Y S w10 => ?_)
            refine lv_goto (tgt := 85) X.1 X.2.1 d_Pr_rule_69 (by decide) ?_
            refine lv_iconst (v := iI 1) X.1 X.2.1 d_Pr_rule_85 (by decide) ?_
            exact c_retz hQQ X Y hr hlk (iI_bool (by omega) (by omega)).1 ⟨rfl, S, 1, rfl, ⟨by omega, by omega⟩⟩ d_Pr_rule_86
          by_cases h11 : a1 = 2
          · rw [h11]
            refine lv_tableIn (off := 42) (tgt := 72) X.1 X.2.1 d_Pr_rule_30 (by decide) (by decide) (by decide) (by decide) ?_
            refine lv_aload_n X.1 X.2.1 d_Pr_rule_72 rfl (lv_at hl 0 rfl) ?_
            refine lv_iload_n X.1 X.2.1 d_Pr_rule_73 rfl (lv_at hl 2 rfl) ?_
            refine t_put (ci := 7) X Y S k0 rfl i_Pr t_Pr t_Pr_ok n_Pr 11 (by decide) rfl lk_Pr_52 (fun _ h9 => h9) rfl (t_Pr_ok 11 (by decide)) rfl rfl ⟨_, rfl, by omega, by omega⟩ (fun h9 => h9.2.1 (by rw [← (S.2.2.2 _ h9).2, k0]; decide)) d_Pr_rule_74 (fun f12 H locs Y S w12 => ?_)
            refine lv_goto (tgt := 85) X.1 X.2.1 d_Pr_rule_77 (by decide) ?_
            refine lv_iconst (v := iI 1) X.1 X.2.1 d_Pr_rule_85 (by decide) ?_
            exact c_retz hQQ X Y hr hlk (iI_bool (by omega) (by omega)).1 ⟨rfl, S, 1, rfl, ⟨by omega, by omega⟩⟩ d_Pr_rule_86
          refine lv_tableOut (tgt := 80) X.1 X.2.1 d_Pr_rule_30 (by rw [iI_toInt ⟨by omega, by omega⟩]; omega) (by decide) ?_
          refine lv_aload_n X.1 X.2.1 d_Pr_rule_80 rfl (lv_at hl 0 rfl) ?_
          refine lv_iload_n X.1 X.2.1 d_Pr_rule_81 rfl (lv_at hl 2 rfl) ?_
          refine t_put (ci := 7) X Y S k0 rfl i_Pr t_Pr t_Pr_ok n_Pr 12 (by decide) rfl lk_Pr_93 (fun _ h9 => h9) rfl (t_Pr_ok 12 (by decide)) rfl rfl ⟨_, rfl, by omega, by omega⟩ (fun h9 => h9.2.1 (by rw [← (S.2.2.2 _ h9).2, k0]; decide)) d_Pr_rule_82 (fun f13 H locs Y S w13 => ?_)
          refine lv_iconst (v := iI 1) X.1 X.2.1 d_Pr_rule_85 (by decide) ?_
          exact c_retz hQQ X Y hr hlk (iI_bool (by omega) (by omega)).1 ⟨rfl, S, 1, rfl, ⟨by omega, by omega⟩⟩ d_Pr_rule_86
        · refine lv_iconst (v := iI 0) X.1 X.2.1 d_Pr_rule_27 (by decide) ?_
          exact c_retz hQQ X Y hr hlk (iI_bool (by omega) (by omega)).1 ⟨rfl, S, 0, rfl, ⟨by omega, by omega⟩⟩ d_Pr_rule_28
set_option maxHeartbeats 4000000 in
set_option maxRecDepth 100000 in
theorem c_Pr_is (l : Launch) (D : va_G) (E : cE) (T : cT) (κ : tK) (L : List Nat) (f : pF) (sz : Nat) (h : Nat) (k0 : κ h = (17, 0)) (a1 : Int) (l_a1 : (-2147483648) ≤ a1) (u_a1 : a1 ≤ 2147483647) (hw : tW E T κ L f) : Met l y_Pr_is (k_Pr_is :: lw_tg) (kRm 1 60 0 0) (va_Pc [.ref h, .int (iI a1)] (kPre D E T L f sz)) (va_Qi (uPi L f (fun (z : Int) => 0 ≤ z ∧ z ≤ 1)) (cPost D E (pA L sz)) (pA L sz)) 0 0 (pA L sz) := by
  refine k_enter (own := R_Pr) (by decide) rfl (Nat.le_of_ble_eq_true rfl) (fun p e s m below meth c ls AV QQ H locs hQQ X Y hA hin hr hlk hml hl KS KR => ?_)
  have hl : lv_has ls 2 [(0, .ref h), (1, .int (iI a1))] := hl
  have S : tS E T (tFr κ L [] []) κ L f κ L f := tS_rf hw
  refine lv_aload_n X.1 X.2.1 d_Pr_is_0 rfl (lv_at hl 0 rfl) ?_
  refine t_geti (ci := 7) X Y S k0 rfl i_Pr 11 (by decide) rfl lk_Pr_52 (fun _ h9 => h9) d_Pr_is_1 (fun z1 e1 l1 u1 => ?_)
  refine lv_iload_n X.1 X.2.1 d_Pr_is_4 rfl (lv_at hl 1 rfl) ?_
  refine lv_iand X.1 X.2.1 d_Pr_is_5 ?_
  refine t_u (fun z3 l3 u3 => ?_)
  refine z_if_eq (tgt := 13) X.1 X.2.1 d_Pr_is_6 (by decide) ⟨by omega, by omega⟩ (fun h4 => ?_) (fun h4 => ?_)
  · refine lv_iconst (v := iI 0) X.1 X.2.1 d_Pr_is_13 (by decide) ?_
    exact c_retz hQQ X Y hr hlk (iI_bool (by omega) (by omega)).1 ⟨rfl, rfl, 0, rfl, ⟨by omega, by omega⟩⟩ d_Pr_is_14
  · refine lv_iconst (v := iI 1) X.1 X.2.1 d_Pr_is_9 (by decide) ?_
    refine lv_goto (tgt := 14) X.1 X.2.1 d_Pr_is_10 (by decide) ?_
    exact c_retz hQQ X Y hr hlk (iI_bool (by omega) (by omega)).1 ⟨rfl, rfl, 1, rfl, ⟨by omega, by omega⟩⟩ d_Pr_is_14
set_option maxHeartbeats 4000000 in
set_option maxRecDepth 100000 in
theorem c_Pr_isOver (l : Launch) (D : va_G) (E : cE) (T : cT) (κ : tK) (L : List Nat) (f : pF) (sz : Nat) (h : Nat) (k0 : κ h = (17, 0)) (a1 : Int) (l_a1 : (-2147483648) ≤ a1) (u_a1 : a1 ≤ 2147483647) (hw : tW E T κ L f) : Met l y_Pr_isOver (k_Pr_isOver :: lw_tg) (kRm 1 60 0 0) (va_Pc [.ref h, .int (iI a1)] (kPre D E T L f sz)) (va_Qi (uPi L f (fun (z : Int) => 0 ≤ z ∧ z ≤ 1)) (cPost D E (pA L sz)) (pA L sz)) 0 0 (pA L sz) := by
  refine k_enter (own := R_Pr) (by decide) rfl (Nat.le_of_ble_eq_true rfl) (fun p e s m below meth c ls AV QQ H locs hQQ X Y hA hin hr hlk hml hl KS KR => ?_)
  have hl : lv_has ls 2 [(0, .ref h), (1, .int (iI a1))] := hl
  have S : tS E T (tFr κ L [] []) κ L f κ L f := tS_rf hw
  refine lv_aload_n X.1 X.2.1 d_Pr_isOver_0 rfl (lv_at hl 0 rfl) ?_
  refine t_geti (ci := 7) X Y S k0 rfl i_Pr 12 (by decide) rfl lk_Pr_93 (fun _ h9 => h9) d_Pr_isOver_1 (fun z1 e1 l1 u1 => ?_)
  refine z_if_le (tgt := 19) X.1 X.2.1 d_Pr_isOver_4 (by decide) ⟨by omega, by omega⟩ (fun h2 => ?_) (fun h2 => ?_)
  · refine lv_iconst (v := iI 0) X.1 X.2.1 d_Pr_isOver_19 (by decide) ?_
    exact c_retz hQQ X Y hr hlk (iI_bool (by omega) (by omega)).1 ⟨rfl, rfl, 0, rfl, ⟨by omega, by omega⟩⟩ d_Pr_isOver_20
  · refine lv_iload_n X.1 X.2.1 d_Pr_isOver_7 rfl (lv_at hl 1 rfl) ?_
    refine lv_aload_n X.1 X.2.1 d_Pr_isOver_8 rfl (lv_at hl 0 rfl) ?_
    refine t_get0 (ci := 7) X Y S k0 rfl i_Pr 12 (by decide) rfl lk_Pr_93 (fun _ h9 => h9) d_Pr_isOver_9 e1 ?_
    refine z_icmp_lt (tgt := 19) X.1 X.2.1 d_Pr_isOver_12 (by decide) ⟨by omega, by omega⟩ ⟨by omega, by omega⟩ (fun h3 => ?_) (fun h3 => ?_)
    · refine lv_iconst (v := iI 0) X.1 X.2.1 d_Pr_isOver_19 (by decide) ?_
      exact c_retz hQQ X Y hr hlk (iI_bool (by omega) (by omega)).1 ⟨rfl, rfl, 0, rfl, ⟨by omega, by omega⟩⟩ d_Pr_isOver_20
    · refine lv_iconst (v := iI 1) X.1 X.2.1 d_Pr_isOver_15 (by decide) ?_
      refine lv_goto (tgt := 20) X.1 X.2.1 d_Pr_isOver_16 (by decide) ?_
      exact c_retz hQQ X Y hr hlk (iI_bool (by omega) (by omega)).1 ⟨rfl, rfl, 1, rfl, ⟨by omega, by omega⟩⟩ d_Pr_isOver_20
set_option maxHeartbeats 4000000 in
set_option maxRecDepth 100000 in
theorem c_Pr_canOpen (l : Launch) (D : va_G) (E : cE) (T : cT) (κ : tK) (L : List Nat) (f : pF) (sz : Nat) (h : Nat) (k0 : κ h = (17, 0)) (a1 : Int64) (hw : tW E T κ L f) : Met l y_Pr_canOpen (k_Pr_canOpen :: lw_tg) (kRm 1 60 0 0) (va_Pc [.ref h, .long a1] (kPre D E T L f sz)) (va_Qi (uPi L f (fun (z : Int) => 0 ≤ z ∧ z ≤ 1)) (cPost D E (pA L sz)) (pA L sz)) 0 0 (pA L sz) := by
  refine k_enter (own := R_Pr) (by decide) rfl (Nat.le_of_ble_eq_true rfl) (fun p e s m below meth c ls AV QQ H locs hQQ X Y hA hin hr hlk hml hl KS KR => ?_)
  have hl : lv_has ls 3 [(0, .ref h), (1, .long a1)] := hl
  have S : tS E T (tFr κ L [] []) κ L f κ L f := tS_rf hw
  refine lv_lload_n X.1 X.2.1 d_Pr_canOpen_0 rfl (lv_at hl 1 rfl) ?_
  refine lv_lconst (v := 1) X.1 X.2.1 d_Pr_canOpen_1 rfl ?_
  refine W.lcmp X.1 X.2.1 d_Pr_canOpen_2 ?_
  refine t_u (fun z1 l1 u1 => ?_)
  refine z_if_lt (tgt := 32) X.1 X.2.1 d_Pr_canOpen_3 (by decide) ⟨by omega, by omega⟩ (fun h2 => ?_) (fun h2 => ?_)
  · refine lv_iconst (v := iI 0) X.1 X.2.1 d_Pr_canOpen_32 (by decide) ?_
    exact c_retz hQQ X Y hr hlk (iI_bool (by omega) (by omega)).1 ⟨rfl, rfl, 0, rfl, ⟨by omega, by omega⟩⟩ d_Pr_canOpen_33
  · refine lv_lload_n X.1 X.2.1 d_Pr_canOpen_6 rfl (lv_at hl 1 rfl) ?_
    refine lv_aload_n X.1 X.2.1 d_Pr_canOpen_7 rfl (lv_at hl 0 rfl) ?_
    refine t_geti (ci := 7) X Y S k0 rfl i_Pr 3 (by decide) rfl lk_Pr_83 (fun _ h9 => h9) d_Pr_canOpen_8 (fun z3 e3 l3 u3 => ?_)
    refine lv_i2l X.1 X.2.1 d_Pr_canOpen_11 rfl ?_
    refine t_anyl (fun v4 => ?_)
    refine W.lcmp X.1 X.2.1 d_Pr_canOpen_12 ?_
    refine t_u (fun z5 l5 u5 => ?_)
    refine z_if_eq (tgt := 28) X.1 X.2.1 d_Pr_canOpen_13 (by decide) ⟨by omega, by omega⟩ (fun h6 => ?_) (fun h6 => ?_)
    · refine lv_iconst (v := iI 1) X.1 X.2.1 d_Pr_canOpen_28 (by decide) ?_
      refine lv_goto (tgt := 33) X.1 X.2.1 d_Pr_canOpen_29 (by decide) ?_
      exact c_retz hQQ X Y hr hlk (iI_bool (by omega) (by omega)).1 ⟨rfl, rfl, 1, rfl, ⟨by omega, by omega⟩⟩ d_Pr_canOpen_33
    · refine lv_lload_n X.1 X.2.1 d_Pr_canOpen_16 rfl (lv_at hl 1 rfl) ?_
      refine lv_aload_n X.1 X.2.1 d_Pr_canOpen_17 rfl (lv_at hl 0 rfl) ?_
      refine t_get0 (ci := 7) X Y S k0 rfl i_Pr 3 (by decide) rfl lk_Pr_83 (fun _ h9 => h9) d_Pr_canOpen_18 e3 ?_
      refine lv_iconst (v := iI 1) X.1 X.2.1 d_Pr_canOpen_21 (by decide) ?_
      refine lv_isub X.1 X.2.1 d_Pr_canOpen_22 ?_
      refine t_u (fun z7 l7 u7 => ?_)
      refine lv_i2l X.1 X.2.1 d_Pr_canOpen_23 rfl ?_
      refine t_anyl (fun v8 => ?_)
      refine W.lcmp X.1 X.2.1 d_Pr_canOpen_24 ?_
      refine t_u (fun z9 l9 u9 => ?_)
      refine z_if_ne (tgt := 32) X.1 X.2.1 d_Pr_canOpen_25 (by decide) ⟨by omega, by omega⟩ (fun h10 => ?_) (fun h10 => ?_)
      · refine lv_iconst (v := iI 0) X.1 X.2.1 d_Pr_canOpen_32 (by decide) ?_
        exact c_retz hQQ X Y hr hlk (iI_bool (by omega) (by omega)).1 ⟨rfl, rfl, 0, rfl, ⟨by omega, by omega⟩⟩ d_Pr_canOpen_33
      · refine lv_iconst (v := iI 1) X.1 X.2.1 d_Pr_canOpen_28 (by decide) ?_
        refine lv_goto (tgt := 33) X.1 X.2.1 d_Pr_canOpen_29 (by decide) ?_
        exact c_retz hQQ X Y hr hlk (iI_bool (by omega) (by omega)).1 ⟨rfl, rfl, 1, rfl, ⟨by omega, by omega⟩⟩ d_Pr_canOpen_33
set_option maxHeartbeats 4000000 in
set_option maxRecDepth 100000 in
theorem c_Pr_latestKey (l : Launch) (D : va_G) (E : cE) (T : cT) (κ : tK) (L : List Nat) (f : pF) (sz : Nat) (h : Nat) (k0 : κ h = (17, 0)) (a1 : Int64) (hw : tW E T κ L f) : Met l y_Pr_latestKey (k_Pr_latestKey :: lw_tg) (kRm 1 60 0 0) (va_Pc [.ref h, .long a1] (kPre D E T L f sz)) (va_Qr (fun _ : cU => True) (fun u r t => uPr L f (fun (z : Nat) => (∃ n : Nat, tKey T κ z n)) r u ∧ cPost D E (pA L sz) u t) (pA L sz)) 0 0 (pA L sz) := by
  refine k_enter (own := R_Pr) (by decide) rfl (Nat.le_of_ble_eq_true rfl) (fun p e s m below meth c ls AV QQ H locs hQQ X Y hA hin hr hlk hml hl KS KR => ?_)
  have hl : lv_has ls 3 [(0, .ref h), (1, .long a1)] := hl
  have S : tS E T (tFr κ L [] []) κ L f κ L f := tS_rf hw
  refine lv_lload_n X.1 X.2.1 d_Pr_latestKey_0 rfl (lv_at hl 1 rfl) ?_
  refine lv_ldc2 (v := (18)) X.1 X.2.1 X.2.2.2.1 (X.2.2.1 _ cl_Pr_96) d_Pr_latestKey_1 ?_
  refine W.lcmp X.1 X.2.1 d_Pr_latestKey_4 ?_
  refine t_u (fun z1 l1 u1 => ?_)
  refine z_if_ne (tgt := 15) X.1 X.2.1 d_Pr_latestKey_5 (by decide) ⟨by omega, by omega⟩ (fun h2 => ?_) (fun h2 => ?_)
  · refine lv_aload_n X.1 X.2.1 d_Pr_latestKey_15 rfl (lv_at hl 0 rfl) ?_
    refine t_getk (ci := 7) X Y S k0 rfl i_Pr 6 (by decide) rfl lk_Pr_34 (fun _ h9 => h9) d_Pr_latestKey_16 (fun b3 n3 e3 k3 x3 => ?_)
    exact k_retr hQQ X Y hr (Or.inr ⟨_, rfl⟩) hlk ⟨rfl, rfl, ⟨n3, k3⟩⟩ d_Pr_latestKey_19
  · refine lv_aload_n X.1 X.2.1 d_Pr_latestKey_8 rfl (lv_at hl 0 rfl) ?_
    refine t_getk (ci := 7) X Y S k0 rfl i_Pr 5 (by decide) rfl lk_Pr_31 (fun _ h9 => h9) d_Pr_latestKey_9 (fun b4 n4 e4 k4 x4 => ?_)
    refine lv_goto (tgt := 19) X.1 X.2.1 d_Pr_latestKey_12 (by decide) ?_
    exact k_retr hQQ X Y hr (Or.inr ⟨_, rfl⟩) hlk ⟨rfl, rfl, ⟨n4, k4⟩⟩ d_Pr_latestKey_19
set_option maxHeartbeats 4000000 in
set_option maxRecDepth 100000 in
theorem c_Pr_keyOf (l : Launch) (D : va_G) (E : cE) (T : cT) (κ : tK) (L : List Nat) (f : pF) (sz : Nat) (h : Nat) (k0 : κ h = (17, 0)) (a1 : Int64) (a2 : Int64) (hw : tW E T κ L f) : Met l y_Pr_keyOf (k_Pr_keyOf :: lw_tg) (kRm 2 82 0 0) (va_Pc [.ref h, .long a1, .long a2] (kPre D E T L f sz)) (va_Qr (fun _ : cU => True) (fun u r t => uPr L f (fun (z : Nat) => (∃ n : Nat, tKey T κ z n)) r u ∧ cPost D E (pA L sz) u t) (pA L sz)) 0 0 (pA L sz) := by
  refine k_enter (own := R_Pr) (by decide) rfl (Nat.le_of_ble_eq_true rfl) (fun p e s m below meth c ls AV QQ H locs hQQ X Y hA hin hr hlk hml hl KS KR => ?_)
  have hl : lv_has ls 5 [(0, .ref h), (1, .long a1), (3, .long a2)] := hl
  have S : tS E T (tFr κ L [] []) κ L f κ L f := tS_rf hw
  refine lv_lload_n X.1 X.2.1 d_Pr_keyOf_0 rfl (lv_at hl 1 rfl) ?_
  refine lv_aload_n X.1 X.2.1 d_Pr_keyOf_1 rfl (lv_at hl 0 rfl) ?_
  refine t_geti (ci := 7) X Y S k0 rfl i_Pr 3 (by decide) rfl lk_Pr_83 (fun _ h9 => h9) d_Pr_keyOf_2 (fun z1 e1 l1 u1 => ?_)
  refine lv_i2l X.1 X.2.1 d_Pr_keyOf_5 rfl ?_
  refine t_anyl (fun v2 => ?_)
  refine W.lcmp X.1 X.2.1 d_Pr_keyOf_6 ?_
  refine t_u (fun z3 l3 u3 => ?_)
  refine z_if_ne (tgt := 16) X.1 X.2.1 d_Pr_keyOf_7 (by decide) ⟨by omega, by omega⟩ (fun h4 => ?_) (fun h4 => ?_)
  · refine lv_lload_n X.1 X.2.1 d_Pr_keyOf_16 rfl (lv_at hl 2 rfl) ?_
    refine lv_ldc2 (v := (18)) X.1 X.2.1 X.2.2.2.1 (X.2.2.1 _ cl_Pr_96) d_Pr_keyOf_17 ?_
    refine W.lcmp X.1 X.2.1 d_Pr_keyOf_20 ?_
    refine t_u (fun z5 l5 u5 => ?_)
    refine z_if_ne (tgt := 31) X.1 X.2.1 d_Pr_keyOf_21 (by decide) ⟨by omega, by omega⟩ (fun h6 => ?_) (fun h6 => ?_)
    · refine lv_aload_n X.1 X.2.1 d_Pr_keyOf_31 rfl (lv_at hl 0 rfl) ?_
      refine t_getk (ci := 7) X Y S k0 rfl i_Pr 8 (by decide) rfl lk_Pr_40 (fun _ h9 => h9) d_Pr_keyOf_32 (fun b7 n7 e7 k7 x7 => ?_)
      exact k_retr hQQ X Y hr (Or.inr ⟨_, rfl⟩) hlk ⟨rfl, rfl, ⟨n7, k7⟩⟩ d_Pr_keyOf_35
    · refine lv_aload_n X.1 X.2.1 d_Pr_keyOf_24 rfl (lv_at hl 0 rfl) ?_
      refine t_getk (ci := 7) X Y S k0 rfl i_Pr 7 (by decide) rfl lk_Pr_37 (fun _ h9 => h9) d_Pr_keyOf_25 (fun b8 n8 e8 k8 x8 => ?_)
      refine lv_goto (tgt := 35) X.1 X.2.1 d_Pr_keyOf_28 (by decide) ?_
      exact k_retr hQQ X Y hr (Or.inr ⟨_, rfl⟩) hlk ⟨rfl, rfl, ⟨n8, k8⟩⟩ d_Pr_keyOf_35
  · refine lv_aload_n X.1 X.2.1 d_Pr_keyOf_10 rfl (lv_at hl 0 rfl) ?_
    refine lv_lload_n X.1 X.2.1 d_Pr_keyOf_11 rfl (lv_at hl 2 rfl) ?_
    refine t_ur (t_runV (As := [.long a2]) (rest := []) (n := 1) X Y S k0 hml hl.1 (c_Pr_latestKey l D E T κ L f H.size h k0 a2 S.1) (ok_k X Y hA KS KR) rfl kl_Pr_Pr_latestKey ks_Pr_latestKey kx_Pr_latestKey ki_Pr_latestKey ini_Pr ⟨rfl, rfl⟩ hd_Pr_latestKey ⟨Nat.le_of_ble_eq_true rfl, Nat.le_of_ble_eq_true rfl⟩ rfl (Nat.le_of_ble_eq_true rfl) d_Pr_keyOf_12 ⟨Nat.le_of_ble_eq_true rfl, Nat.le_of_ble_eq_true rfl⟩) X Y hA (fun b9 H locs Y p9 => ?_)
    obtain ⟨n9, k9⟩ := p9
    have x9 := tKey_n k9
    exact k_retr hQQ X Y hr (Or.inr ⟨_, rfl⟩) hlk ⟨rfl, rfl, ⟨n9, k9⟩⟩ d_Pr_keyOf_15
set_option maxHeartbeats 4000000 in
set_option maxRecDepth 100000 in
theorem c_Ti_tell (l : Launch) (D : va_G) (E : cE) (T : cT) (κ : tK) (L : List Nat) (f : pF) (sz : Nat) (h : Nat) (k0 : κ h = (20, 0)) (a1 : Int) (l_a1 : (-2147483648) ≤ a1) (u_a1 : a1 ≤ 2147483647) (hw : tW E T κ L f) : Met l y_Ti_tell (k_Ti_tell :: lw_tg) (kRm 2 80 0 0) (va_Pc [.ref h, .int (iI a1)] (kPre D E T L f sz)) (va_Qi (uPi L f (fun (z : Int) => (-2147483648) ≤ z ∧ z ≤ 2147483647)) (cPost D E (pA L sz)) (pA L sz)) 0 0 (pA L sz) := by
  refine k_enter (own := R_Ti) (by decide) rfl (Nat.le_of_ble_eq_true rfl) (fun p e s m below meth c ls AV QQ H locs hQQ X Y hA hin hr hlk hml hl KS KR => ?_)
  have hl : lv_has ls 2 [(0, .ref h), (1, .int (iI a1))] := hl
  have S : tS E T (tFr κ L [] []) κ L f κ L f := tS_rf hw
  refine lv_iload_n X.1 X.2.1 d_Ti_tell_0 rfl (lv_at hl 1 rfl) ?_
  by_cases h1 : a1 = 0
  · rw [h1]
    refine lv_tableIn (off := 39) (tgt := 40) X.1 X.2.1 d_Ti_tell_1 (by decide) (by decide) (by decide) (by decide) ?_
    refine lv_aload_n X.1 X.2.1 d_Ti_tell_40 rfl (lv_at hl 0 rfl) ?_
    refine t_geti (ci := 10) X Y S k0 rfl i_Ti 5 (by decide) rfl lk_Ti_30 (fun _ h9 => h9) d_Ti_tell_41 (fun z2 e2 l2 u2 => ?_)
    exact c_reti hQQ X Y hr hlk ⟨rfl, rfl, z2, rfl, ⟨by omega, by omega⟩⟩ d_Ti_tell_44
  by_cases h3 : a1 = 1
  · rw [h3]
    refine lv_tableIn (off := 44) (tgt := 45) X.1 X.2.1 d_Ti_tell_1 (by decide) (by decide) (by decide) (by decide) ?_
    refine lv_aload_n X.1 X.2.1 d_Ti_tell_45 rfl (lv_at hl 0 rfl) ?_
    refine t_geti (ci := 10) X Y S k0 rfl i_Ti 6 (by decide) rfl lk_Ti_34 (fun _ h9 => h9) d_Ti_tell_46 (fun z4 e4 l4 u4 => ?_)
    exact c_reti hQQ X Y hr hlk ⟨rfl, rfl, z4, rfl, ⟨by omega, by omega⟩⟩ d_Ti_tell_49
  by_cases h5 : a1 = 2
  · rw [h5]
    refine lv_tableIn (off := 49) (tgt := 50) X.1 X.2.1 d_Ti_tell_1 (by decide) (by decide) (by decide) (by decide) ?_
    refine lv_aload_n X.1 X.2.1 d_Ti_tell_50 rfl (lv_at hl 0 rfl) ?_
    refine t_geti (ci := 10) X Y S k0 rfl i_Ti 7 (by decide) rfl lk_Ti_37 (fun _ h9 => h9) d_Ti_tell_51 (fun z6 e6 l6 u6 => ?_)
    exact c_reti hQQ X Y hr hlk ⟨rfl, rfl, z6, rfl, ⟨by omega, by omega⟩⟩ d_Ti_tell_54
  by_cases h7 : a1 = 3
  · rw [h7]
    refine lv_tableIn (off := 54) (tgt := 55) X.1 X.2.1 d_Ti_tell_1 (by decide) (by decide) (by decide) (by decide) ?_
    refine lv_aload_n X.1 X.2.1 d_Ti_tell_55 rfl (lv_at hl 0 rfl) ?_
    refine t_geti (ci := 10) X Y S k0 rfl i_Ti 8 (by decide) rfl lk_Ti_40 (fun _ h9 => h9) d_Ti_tell_56 (fun z8 e8 l8 u8 => ?_)
    exact c_reti hQQ X Y hr hlk ⟨rfl, rfl, z8, rfl, ⟨by omega, by omega⟩⟩ d_Ti_tell_59
  by_cases h9 : a1 = 4
  · rw [h9]
    refine lv_tableIn (off := 59) (tgt := 60) X.1 X.2.1 d_Ti_tell_1 (by decide) (by decide) (by decide) (by decide) ?_
    refine lv_aload_n X.1 X.2.1 d_Ti_tell_60 rfl (lv_at hl 0 rfl) ?_
    refine t_geti (ci := 10) X Y S k0 rfl i_Ti 9 (by decide) rfl lk_Ti_43 (fun _ h9 => h9) d_Ti_tell_61 (fun z10 e10 l10 u10 => ?_)
    exact c_reti hQQ X Y hr hlk ⟨rfl, rfl, z10, rfl, ⟨by omega, by omega⟩⟩ d_Ti_tell_64
  by_cases h11 : a1 = 5
  · rw [h11]
    refine lv_tableIn (off := 64) (tgt := 65) X.1 X.2.1 d_Ti_tell_1 (by decide) (by decide) (by decide) (by decide) ?_
    refine lv_aload_n X.1 X.2.1 d_Ti_tell_65 rfl (lv_at hl 0 rfl) ?_
    refine t_getk (ci := 10) X Y S k0 rfl i_Ti 4 (by decide) rfl lk_Ti_27 (fun _ h9 => h9) d_Ti_tell_66 (fun b12 n12 e12 k12 x12 => ?_)
    refine t_ui (x_runS (As := [.ref b12]) (rest := []) (n := 1) X hml hl.1 (c_Va_typeOf l D E T κ L f H.size b12 n12 k12 (by omega) S.1) (ok_k X Y hA KS KR) kl_Ti_Va_typeOf ks_Va_typeOf ki_Va_typeOf ini_Va ⟨rfl, rfl⟩ hd_Va_typeOf.2 ⟨Nat.le_of_ble_eq_true rfl, Nat.le_of_ble_eq_true rfl⟩ rfl (Nat.le_of_ble_eq_true rfl) d_Ti_tell_69 ⟨Nat.le_of_ble_eq_true rfl, Nat.le_of_ble_eq_true rfl⟩) X Y hA (fun z13 H locs Y p13 => ?_)
    obtain ⟨l13, u13⟩ := p13
    exact c_reti hQQ X Y hr hlk ⟨rfl, rfl, z13, rfl, ⟨by omega, by omega⟩⟩ d_Ti_tell_72
  refine lv_tableOut (tgt := 73) X.1 X.2.1 d_Ti_tell_1 (by rw [iI_toInt ⟨by omega, by omega⟩]; omega) (by decide) ?_
  refine lv_iconst (v := iI (-1)) X.1 X.2.1 d_Ti_tell_73 (by decide) ?_
  exact c_reti hQQ X Y hr hlk ⟨rfl, rfl, (-1), rfl, ⟨by omega, by omega⟩⟩ d_Ti_tell_74
set_option maxHeartbeats 4000000 in
set_option maxRecDepth 100000 in
theorem c_Ti_setName (l : Launch) (D : va_G) (E : cE) (T : cT) (κ : tK) (L : List Nat) (f : pF) (sz : Nat) (h : Nat) (k0 : κ h = (20, 0)) (a1 n1 : Nat) (k1 : κ a1 = (13, n1)) (x1 : n1 ≤ 12288) (a2 : Int) (l_a2 : (-1) ≤ a2) (u_a2 : a2 ≤ 20200) (hw : tW E T κ L f) : Met l y_Ti_setName (k_Ti_setName :: lw_tg) (kRm 3 112 0 0) (va_Pc [.ref h, .ref a1, .int (iI a2)] (kPre D E T L f sz)) (va_Qv (nPv E T [1, 13, 20] κ L f (fun (g : pF) => True)) (cPost D E (pA L sz)) (pA L sz)) 0 0 (pA L sz) := by
  refine k_enter (own := R_Ti) (by decide) rfl (Nat.le_of_ble_eq_true rfl) (fun p e s m below meth c ls AV QQ H locs hQQ X Y hA hin hr hlk hml hl KS KR => ?_)
  have hl : lv_has ls 5 [(0, .ref h), (1, .ref a1), (2, .int (iI a2))] := hl
  have S : tS E T (tFr κ L [1, 13, 20] []) κ L f κ L f := tS_rf hw
  refine lv_aload_n X.1 X.2.1 d_Ti_setName_0 rfl (lv_at hl 1 rfl) ?_
  refine lv_iload_n X.1 X.2.1 d_Ti_setName_1 rfl (lv_at hl 2 rfl) ?_
  refine lv_iconst (v := iI 1) X.1 X.2.1 d_Ti_setName_2 (by decide) ?_
  refine t_ui (t_runV (As := [.int (iI a2), .int (iI 1)]) (rest := []) (n := 2) X Y S k1 hml hl.1 (c_By_field l D E T κ L f H.size a1 n1 k1 (by omega) a2 (by omega) (by omega) 1 (by omega) (by omega) S.1) (ok_k X Y hA KS KR) rfl kl_Ti_By_field ks_By_field kx_By_field ki_By_field ini_By ⟨rfl, rfl⟩ hd_By_field ⟨Nat.le_of_ble_eq_true rfl, Nat.le_of_ble_eq_true rfl⟩ rfl (Nat.le_of_ble_eq_true rfl) d_Ti_setName_3 ⟨Nat.le_of_ble_eq_true rfl, Nat.le_of_ble_eq_true rfl⟩) X Y hA (fun z1 H locs Y p1 => ?_)
  obtain ⟨l1, u1⟩ := p1
  refine lv_istore_n (lv' := [(3, .int (iI z1)), (0, .ref h), (1, .ref a1), (2, .int (iI a2))]) X.1 X.2.1 d_Ti_setName_6 rfl hl (by decide) rfl (fun ls hl => ?_)
  refine lv_aload_n X.1 X.2.1 d_Ti_setName_7 rfl (lv_at hl 2 rfl) ?_
  refine lv_iload_n X.1 X.2.1 d_Ti_setName_8 rfl (lv_at hl 0 rfl) ?_
  obtain ⟨z2, e2, l2, u2⟩ := t_size S k1
  refine t_ui (t_runV (As := [.int (iI z1)]) (rest := []) (n := 1) X Y S k1 hml hl.1 (c_By_body l D E T κ L f H.size a1 n1 k1 (by omega) z1 (by omega) (by omega) S.1 z2 e2 (by omega) (by omega)) (ok_k X Y hA KS KR) rfl kl_Ti_By_body ks_By_body kx_By_body ki_By_body ini_By ⟨rfl, rfl⟩ hd_By_body ⟨Nat.le_of_ble_eq_true rfl, Nat.le_of_ble_eq_true rfl⟩ rfl (Nat.le_of_ble_eq_true rfl) d_Ti_setName_9 ⟨Nat.le_of_ble_eq_true rfl, Nat.le_of_ble_eq_true rfl⟩) X Y hA (fun z3 H locs Y p3 => ?_)
  obtain ⟨l3, u3, x3⟩ := p3
  refine lv_istore (lv' := [(4, .int (iI z3)), (3, .int (iI z1)), (0, .ref h), (1, .ref a1), (2, .int (iI a2))]) X.1 X.2.1 d_Ti_setName_12 hl (by decide) rfl (fun ls hl => ?_)
  refine lv_aload_n X.1 X.2.1 d_Ti_setName_14 rfl (lv_at hl 2 rfl) ?_
  refine lv_aload_n X.1 X.2.1 d_Ti_setName_15 rfl (lv_at hl 3 rfl) ?_
  refine lv_aload_n X.1 X.2.1 d_Ti_setName_16 rfl (lv_at hl 3 rfl) ?_
  refine lv_iload_n X.1 X.2.1 d_Ti_setName_17 rfl (lv_at hl 4 rfl) ?_
  refine lv_iconst (v := iI 0) X.1 X.2.1 d_Ti_setName_18 (by decide) ?_
  refine t_ui (t_runV (As := [.int (iI a2), .int (iI 0)]) (rest := [.ref a1, .ref h]) (n := 2) X Y S k1 hml hl.1 (c_By_field l D E T κ L f H.size a1 n1 k1 (by omega) a2 (by omega) (by omega) 0 (by omega) (by omega) S.1) (ok_k X Y hA KS KR) rfl kl_Ti_By_field ks_By_field kx_By_field ki_By_field ini_By ⟨rfl, rfl⟩ hd_By_field ⟨Nat.le_of_ble_eq_true rfl, Nat.le_of_ble_eq_true rfl⟩ rfl (Nat.le_of_ble_eq_true rfl) d_Ti_setName_19 ⟨Nat.le_of_ble_eq_true rfl, Nat.le_of_ble_eq_true rfl⟩) X Y hA (fun z4 H locs Y p4 => ?_)
  obtain ⟨l4, u4⟩ := p4
  refine t_ul (t_runV (As := [.int (iI z4)]) (rest := [.ref h]) (n := 1) X Y S k1 hml hl.1 (c_By_numberAt l D E T κ L f H.size a1 n1 k1 (by omega) z4 (by omega) (by omega) S.1) (ok_k X Y hA KS KR) rfl kl_Ti_By_numberAt ks_By_numberAt kx_By_numberAt ki_By_numberAt ini_By ⟨rfl, rfl⟩ hd_By_numberAt ⟨Nat.le_of_ble_eq_true rfl, Nat.le_of_ble_eq_true rfl⟩ rfl (Nat.le_of_ble_eq_true rfl) d_Ti_setName_22 ⟨Nat.le_of_ble_eq_true rfl, Nat.le_of_ble_eq_true rfl⟩) X Y hA (fun v5 H locs Y p5 => ?_)
  refine lv_l2i X.1 X.2.1 d_Ti_setName_25 rfl ?_
  refine t_u (fun z6 l6 u6 => ?_)
  refine t_put (ci := 10) X Y S k0 rfl i_Ti t_Ti t_Ti_ok n_Ti 2 (by decide) rfl lk_Ti_64 (fun _ h9 => h9) rfl (t_Ti_ok 2 (by decide)) rfl rfl ⟨_, rfl, by omega, by omega⟩ (fun h9 => h9.2.1 (by rw [← (S.2.2.2 _ h9).2, k0]; decide)) d_Ti_setName_26 (fun f7 H locs Y S w7 => ?_)
  refine lv_aload_n X.1 X.2.1 d_Ti_setName_29 rfl (lv_at hl 2 rfl) ?_
  refine t_getr (ci := 10) X Y S k0 rfl i_Ti 1 (by decide) rfl (k1 := 13) (k2 := 40) rfl rfl lk_Ti_20 (fun _ h9 => h9) d_Ti_setName_30 (fun b8 e8 k8 => ?_)
  refine t_nv (t_runV (As := []) (rest := []) (n := 0) X Y S k8 hml hl.1 (c_By_clear l D E T κ L f7 H.size b8 40 k8 (by omega) S.1) (ok_k X Y hA KS KR) rfl kl_Ti_By_clear ks_By_clear kx_By_clear ki_By_clear ini_By ⟨rfl, rfl⟩ hd_By_clear ⟨Nat.le_of_ble_eq_true rfl, Nat.le_of_ble_eq_true rfl⟩ rfl (Nat.le_of_ble_eq_true rfl) d_Ti_setName_33 ⟨Nat.le_of_ble_eq_true rfl, Nat.le_of_ble_eq_true rfl⟩) X Y hA S (by decide) (fun f9 H locs Y S s9 p9 => ?_)
  refine lv_aload_n X.1 X.2.1 d_Ti_setName_36 rfl (lv_at hl 2 rfl) ?_
  refine t_get0 (ci := 10) X Y S k0 rfl i_Ti 1 (by decide) rfl lk_Ti_20 (fun _ h9 => h9) d_Ti_setName_37 ((gF_same (s9.2.2.2 _ ⟨(t_obj S.1 k0).1, by rw [k0]; decide, by simp⟩).1 1).trans e8) ?_
  refine lv_aload_n X.1 X.2.1 d_Ti_setName_40 rfl (lv_at hl 3 rfl) ?_
  refine t_getrow (ci := 3) X Y S k1 rfl i_By 0 (by decide) rfl lk_Ti_70 (fun _ h9 => h9) d_Ti_setName_41 (fun b10 e10 k10 => ?_)
  refine lv_iload X.1 X.2.1 d_Ti_setName_44 (lv_at hl 0 rfl) ?_
  refine lv_aload_n X.1 X.2.1 d_Ti_setName_46 rfl (lv_at hl 3 rfl) ?_
  refine lv_iload_n X.1 X.2.1 d_Ti_setName_47 rfl (lv_at hl 1 rfl) ?_
  refine lv_aload_n X.1 X.2.1 d_Ti_setName_48 rfl (lv_at hl 3 rfl) ?_
  refine t_gets (ci := 3) X Y S k1 rfl i_By 1 (by decide) rfl lk_Ti_73 (fun _ h9 => h9) d_Ti_setName_49 (fun z11 e11 l11 u11 => ?_)
  refine t_ui (t_runV (As := [.int (iI z1), .int (iI z11)]) (rest := [.int (iI z3), .ref b10, .ref b8]) (n := 2) X Y S k1 hml hl.1 (c_By_stop l D E T κ L f9 H.size a1 n1 k1 (by omega) z1 (by omega) (by omega) z11 (by omega) (by omega) S.1 z11 e11 (by omega) (by omega)) (ok_k X Y hA KS KR) rfl kl_Ti_By_stop ks_By_stop kx_By_stop ki_By_stop ini_By ⟨rfl, rfl⟩ hd_By_stop ⟨Nat.le_of_ble_eq_true rfl, Nat.le_of_ble_eq_true rfl⟩ rfl (Nat.le_of_ble_eq_true rfl) d_Ti_setName_52 ⟨Nat.le_of_ble_eq_true rfl, Nat.le_of_ble_eq_true rfl⟩) X Y hA (fun z12 H locs Y p12 => ?_)
  obtain ⟨l12, u12, x12⟩ := p12
  refine lv_iload X.1 X.2.1 d_Ti_setName_55 (lv_at hl 0 rfl) ?_
  refine z_isub X.1 X.2.1 d_Ti_setName_57 ?_
  refine t_nv (t_runV (As := [.ref b10, .int (iI z3), .int (iI (z12 - z3))]) (rest := []) (n := 3) X Y S k8 hml hl.1 (c_By_append l D E T κ L f9 H.size b8 40 k8 (by omega) b10 n1 (Or.inl k10) (by omega) z3 (by omega) (by omega) (z12 - z3) (by omega) (by omega) S.1) (ok_k X Y hA KS KR) rfl kl_Ti_By_append ks_By_append kx_By_append ki_By_append ini_By ⟨rfl, rfl⟩ hd_By_append ⟨Nat.le_of_ble_eq_true rfl, Nat.le_of_ble_eq_true rfl⟩ rfl (Nat.le_of_ble_eq_true rfl) d_Ti_setName_58 ⟨Nat.le_of_ble_eq_true rfl, Nat.le_of_ble_eq_true rfl⟩) X Y hA S (by decide) (fun f13 H locs Y S s13 p13 => ?_)
  exact c_retv hQQ X Y hr hlk ⟨rfl, S, trivial⟩ d_Ti_setName_61
set_option maxHeartbeats 4000000 in
set_option maxRecDepth 100000 in
theorem c_Ti_setRaw (l : Launch) (D : va_G) (E : cE) (T : cT) (κ : tK) (L : List Nat) (f : pF) (sz : Nat) (h : Nat) (k0 : κ h = (20, 0)) (a1 n1 : Nat) (k1 : κ a1 = (13, n1)) (x1 : n1 ≤ 4000) (a2 : Int) (l_a2 : (-1) ≤ a2) (u_a2 : a2 ≤ 20200) (hw : tW E T κ L f) : Met l y_Ti_setRaw (k_Ti_setRaw :: lw_tg) (kRm 2 85 2 4003) (va_Pc [.ref h, .ref a1, .int (iI a2)] (kPre D E T L f sz)) (va_Qv (aPv E T [1, 2, 3, 4, 5, 6, 7, 8, 9, 10, 11, 12, 13, 14, 15, 16, 17, 18, 19, 20, 21] [] κ L f (fun (k : tK) (g : pF) => True)) (cPost D E (pA L sz)) (pA L sz)) 2 4003 (pA L sz) := by
  refine k_enter (own := R_Ti) (by decide) rfl (Nat.le_of_ble_eq_true rfl) (fun p e s m below meth c ls AV QQ H locs hQQ X Y hA hin hr hlk hml hl KS KR => ?_)
  have hl : lv_has ls 4 [(0, .ref h), (1, .ref a1), (2, .int (iI a2))] := hl
  have S : tS E T (tFr κ L [1, 2, 3, 4, 5, 6, 7, 8, 9, 10, 11, 12, 13, 14, 15, 16, 17, 18, 19, 20, 21] []) κ L f κ L f := tS_rf hw
  have hF0 : ∀ b, tFr κ L [1, 2, 3, 4, 5, 6, 7, 8, 9, 10, 11, 12, 13, 14, 15, 16, 17, 18, 19, 20, 21] [] b → b ∈ L := fun b h9 => h9.1
  refine lv_aload_n X.1 X.2.1 d_Ti_setRaw_0 rfl (lv_at hl 1 rfl) ?_
  refine lv_iload_n X.1 X.2.1 d_Ti_setRaw_1 rfl (lv_at hl 2 rfl) ?_
  refine lv_aload_n X.1 X.2.1 d_Ti_setRaw_2 rfl (lv_at hl 1 rfl) ?_
  refine t_gets (ci := 3) X Y S k1 rfl i_By 1 (by decide) rfl lk_Ti_73 (fun _ h9 => h9) d_Ti_setRaw_3 (fun z1 e1 l1 u1 => ?_)
  refine t_ui (t_runV (As := [.int (iI a2), .int (iI z1)]) (rest := []) (n := 2) X Y S k1 hml hl.1 (c_By_stop l D E T κ L f H.size a1 n1 k1 (by omega) a2 (by omega) (by omega) z1 (by omega) (by omega) S.1 z1 e1 (by omega) (by omega)) (ok_k X Y hA KS KR) rfl kl_Ti_By_stop ks_By_stop kx_By_stop ki_By_stop ini_By ⟨rfl, rfl⟩ hd_By_stop ⟨Nat.le_of_ble_eq_true rfl, Nat.le_of_ble_eq_true rfl⟩ rfl (Nat.le_of_ble_eq_true rfl) d_Ti_setRaw_6 ⟨Nat.le_of_ble_eq_true rfl, Nat.le_of_ble_eq_true rfl⟩) X Y hA (fun z2 H locs Y p2 => ?_)
  obtain ⟨l2, u2, x2⟩ := p2
  refine lv_iload_n X.1 X.2.1 d_Ti_setRaw_9 rfl (lv_at hl 2 rfl) ?_
  refine z_isub X.1 X.2.1 d_Ti_setRaw_10 ?_
  refine lv_istore_n (lv' := [(3, .int (iI (z2 - a2))), (0, .ref h), (1, .ref a1), (2, .int (iI a2))]) X.1 X.2.1 d_Ti_setRaw_11 rfl hl (by decide) rfl (fun ls hl => ?_)
  refine lv_iload_n X.1 X.2.1 d_Ti_setRaw_12 rfl (lv_at hl 0 rfl) ?_
  refine lv_aload_n X.1 X.2.1 d_Ti_setRaw_13 rfl (lv_at hl 1 rfl) ?_
  refine t_getm (ci := 10) X Y S k0 rfl i_Ti 0 (by decide) rfl (k1 := 13) (k2 := 4000) rfl rfl lk_Ti_14 (fun _ h9 => h9) d_Ti_setRaw_14 (fun b3 n3 e3 k3 x3 => ?_)
  refine t_getrow (ci := 3) X Y S k3 rfl i_By 0 (by decide) rfl lk_Ti_70 (fun _ h9 => h9) d_Ti_setRaw_17 (fun b4 e4 k4 => ?_)
  refine t_alen X Y S KS (Or.inl k4) (by omega) d_Ti_setRaw_20 ?_
  have J10 : ∀ (κ6 : tK) (L7 : List Nat) (f5 : pF) (H : Heap) (locs : List Loc) (ls : Array Slot), (κ6 h = (20, 0)) → (κ6 a1 = (13, n1)) → pH D cCl (pA L sz) s.heap L7 f5 H locs → tS E T (tFr κ L [1, 2, 3, 4, 5, 6, 7, 8, 9, 10, 11, 12, 13, 14, 15, 16, 17, 18, 19, 20, 21] []) κ L f κ6 L7 f5 → lv_has ls 4 [(0, .ref h), (1, .ref a1), (2, .int (iI a2)), (3, .int (iI (z2 - a2)))] → W p l e (kRm 2 85 2 4003) s m AV below meth c H locs 2 4003 QQ (F0 m 36 ls []) := by
    intro κ6 L7 f5 H locs ls k8 k9 Y S hl
    refine lv_aload_n X.1 X.2.1 d_Ti_setRaw_36 rfl (lv_at hl 0 rfl) ?_
    refine t_getm (ci := 10) X Y S k8 rfl i_Ti 0 (by decide) rfl (k1 := 13) (k2 := 4000) rfl rfl lk_Ti_14 (fun _ h9 => h9) d_Ti_setRaw_37 (fun b14 n14 e14 k14 x14 => ?_)
    refine t_nv (t_runV (As := []) (rest := []) (n := 0) X Y S k14 hml hl.1 (c_By_clear l D E T κ6 L7 f5 H.size b14 n14 k14 (by omega) S.1) (ok_k X Y hA KS KR) rfl kl_Ti_By_clear ks_By_clear kx_By_clear ki_By_clear ini_By ⟨rfl, rfl⟩ hd_By_clear ⟨Nat.le_of_ble_eq_true rfl, Nat.le_of_ble_eq_true rfl⟩ rfl (Nat.le_of_ble_eq_true rfl) d_Ti_setRaw_40 ⟨Nat.le_of_ble_eq_true rfl, Nat.le_of_ble_eq_true rfl⟩) X Y hA S (by decide) (fun f15 H locs Y S s15 p15 => ?_)
    refine lv_aload_n X.1 X.2.1 d_Ti_setRaw_43 rfl (lv_at hl 0 rfl) ?_
    refine t_get0 (ci := 10) X Y S k8 rfl i_Ti 0 (by decide) rfl lk_Ti_14 (fun _ h9 => h9) d_Ti_setRaw_44 ((gF_same (s15.2.2.2 _ ⟨(t_obj S.1 k8).1, by rw [k8]; decide, by simp⟩).1 0).trans e14) ?_
    refine lv_aload_n X.1 X.2.1 d_Ti_setRaw_47 rfl (lv_at hl 1 rfl) ?_
    refine t_getrow (ci := 3) X Y S k9 rfl i_By 0 (by decide) rfl lk_Ti_70 (fun _ h9 => h9) d_Ti_setRaw_48 (fun b16 e16 k16 => ?_)
    refine lv_iload_n X.1 X.2.1 d_Ti_setRaw_51 rfl (lv_at hl 2 rfl) ?_
    refine lv_iload_n X.1 X.2.1 d_Ti_setRaw_52 rfl (lv_at hl 3 rfl) ?_
    refine t_nv (t_runV (As := [.ref b16, .int (iI a2), .int (iI (z2 - a2))]) (rest := []) (n := 3) X Y S k14 hml hl.1 (c_By_append l D E T κ6 L7 f15 H.size b14 n14 k14 (by omega) b16 n1 (Or.inl k16) (by omega) a2 (by omega) (by omega) (z2 - a2) (by omega) (by omega) S.1) (ok_k X Y hA KS KR) rfl kl_Ti_By_append ks_By_append kx_By_append ki_By_append ini_By ⟨rfl, rfl⟩ hd_By_append ⟨Nat.le_of_ble_eq_true rfl, Nat.le_of_ble_eq_true rfl⟩ rfl (Nat.le_of_ble_eq_true rfl) d_Ti_setRaw_53 ⟨Nat.le_of_ble_eq_true rfl, Nat.le_of_ble_eq_true rfl⟩) X Y hA S (by decide) (fun f17 H locs Y S s17 p17 => ?_)
    exact c_retv hQQ X Y hr hlk ⟨κ6, S, trivial⟩ d_Ti_setRaw_56
  refine z_icmp_le (tgt := 36) X.1 X.2.1 d_Ti_setRaw_21 (by decide) ⟨by omega, by omega⟩ ⟨by omega, by omega⟩ (fun h18 => ?_) (fun h18 => ?_)
  · refine W.widen (k := 2) (n := 4003) (Nat.le_of_ble_eq_true rfl) (Nat.le_of_ble_eq_true rfl) ?_
    exact J10 κ L f _ _ _ k0 k1 Y S (lv_sub hl [1, 2, 3, 0] rfl)
  · refine lv_aload_n X.1 X.2.1 d_Ti_setRaw_24 rfl (lv_at hl 1 rfl) ?_
    refine t_new (ci := 3) X Y S hA hF0 i_By t_By t_By_ok ck_Ti_9 mk_By ini_By rfl (fs := [.null, .int (iI 0)]) (fun j hj => match j, hj with | 0, _ => rfl | 1, _ => rfl | n9 + 2, h9 => absurd (show n9 + 2 < 2 from h9) (by omega)) (Nat.le_of_ble_eq_true rfl) (Nat.le_of_ble_eq_true rfl) d_Ti_setRaw_25 (fun q19 L19 f19 H Y S s19 nl19 m19 r19 e19 nz19 => ?_)
    have k20 : κ h = (20, 0) := tLe_k s19.2.2.1 k0
    have k21 : κ a1 = (13, n1) := tLe_k s19.2.2.1 k1
    refine lv_dup X.1 X.2.1 d_Ti_setRaw_28 rfl ?_
    refine lv_iload_n X.1 X.2.1 d_Ti_setRaw_29 rfl (lv_at hl 0 rfl) ?_
    refine t_mk (x_runI (As := [.int (iI (z2 - a2))]) (rest := [.ref q19, .ref h]) (n := 1) X hml hl.1 (c_By_init l D E T κ L19 f19 H.size q19 m19 r19 e19 (z2 - a2) (by omega) (by omega) S.1 (z2 - a2).toNat 4001 (by omega) (by omega) (by decide)) (ok_k X Y hA KS KR) kl_Ti_By_init ks_By_init ki_By_init ini_By rfl ⟨rfl, rfl⟩ hd_By_init.2 ⟨Nat.le_of_ble_eq_true rfl, Nat.le_of_ble_eq_true rfl⟩ rfl (Nat.le_of_ble_eq_true rfl) d_Ti_setRaw_30 ⟨Nat.le_of_ble_eq_true rfl, Nat.le_of_ble_eq_true rfl⟩) X Y hA S (by decide) nl19 (fun κ22 L22 f22 H locs Y S s22 p22 => ?_)
    obtain k22 := p22
    have k23 : κ22 h = (20, 0) := tLe_k s22.2.2.1 k20
    have k24 : κ22 a1 = (13, n1) := tLe_k s22.2.2.1 k21
    refine t_put (ci := 10) X Y S k23 rfl i_Ti t_Ti t_Ti_ok n_Ti 0 (by decide) rfl lk_Ti_14 (fun _ h9 => h9) rfl (t_Ti_ok 0 (by decide)) rfl rfl ⟨_, _, rfl, k22, by omega⟩ (fun h9 => h9.2.1 (by rw [← (S.2.2.2 _ h9).2, k23]; decide)) d_Ti_setRaw_33 (fun f25 H locs Y S w25 => ?_)
    exact J10 κ22 L22 f25 _ _ _ k23 k24 Y S (lv_sub hl [1, 2, 3, 0] rfl)
set_option maxHeartbeats 4000000 in
set_option maxRecDepth 100000 in
theorem c_Ti_setTold (l : Launch) (D : va_G) (E : cE) (T : cT) (κ : tK) (L : List Nat) (f : pF) (sz : Nat) (h : Nat) (k0 : κ h = (20, 0)) (a1 n1 : Nat) (k1 : tKey T κ a1 n1) (x1 : n1 = 0 ∨ n1 = 16 ∨ n1 = 32) (a2 n2 : Nat) (k2 : κ a2 = (13, n2)) (x2 : n2 ≤ 12288) (a3 : Int) (l_a3 : (-1) ≤ a3) (u_a3 : a3 ≤ 20200) (a4 : Int) (l_a4 : 0 ≤ a4) (u_a4 : a4 ≤ 8) (hw : tW E T κ L f) : Met l y_Ti_setTold (k_Ti_setTold :: lw_tg) (kRm 4 130 0 0) (va_Pc [.ref h, .ref a1, .ref a2, .int (iI a3), .int (iI a4)] (kPre D E T L f sz)) (va_Qv (nPv E T [20] κ L f (fun (g : pF) => True)) (cPost D E (pA L sz)) (pA L sz)) 0 0 (pA L sz) := by
  refine k_enter (own := R_Ti) (by decide) rfl (Nat.le_of_ble_eq_true rfl) (fun p e s m below meth c ls AV QQ H locs hQQ X Y hA hin hr hlk hml hl KS KR => ?_)
  have hl : lv_has ls 5 [(0, .ref h), (1, .ref a1), (2, .ref a2), (3, .int (iI a3)), (4, .int (iI a4))] := hl
  have S : tS E T (tFr κ L [20] []) κ L f κ L f := tS_rf hw
  refine lv_aload_n X.1 X.2.1 d_Ti_setTold_0 rfl (lv_at hl 0 rfl) ?_
  refine lv_aload_n X.1 X.2.1 d_Ti_setTold_1 rfl (lv_at hl 1 rfl) ?_
  refine t_put (ci := 10) X Y S k0 rfl i_Ti t_Ti t_Ti_ok n_Ti 4 (by decide) rfl lk_Ti_27 (fun _ h9 => h9) rfl (t_Ti_ok 4 (by decide)) rfl rfl ⟨_, n1, rfl, k1⟩ (fun h9 => h9.2.1 (by rw [← (S.2.2.2 _ h9).2, k0]; decide)) d_Ti_setTold_2 (fun f1 H locs Y S w1 => ?_)
  refine lv_aload_n X.1 X.2.1 d_Ti_setTold_5 rfl (lv_at hl 0 rfl) ?_
  refine lv_aload_n X.1 X.2.1 d_Ti_setTold_6 rfl (lv_at hl 2 rfl) ?_
  refine lv_aload_n X.1 X.2.1 d_Ti_setTold_7 rfl (lv_at hl 2 rfl) ?_
  refine lv_iload_n X.1 X.2.1 d_Ti_setTold_8 rfl (lv_at hl 3 rfl) ?_
  refine lv_iload X.1 X.2.1 d_Ti_setTold_9 (lv_at hl 4 rfl) ?_
  refine t_ui (t_runV (As := [.int (iI a3), .int (iI a4)]) (rest := [.ref a2, .ref h]) (n := 2) X Y S k2 hml hl.1 (c_By_field l D E T κ L f1 H.size a2 n2 k2 (by omega) a3 (by omega) (by omega) a4 (by omega) (by omega) S.1) (ok_k X Y hA KS KR) rfl kl_Ti_By_field ks_By_field kx_By_field ki_By_field ini_By ⟨rfl, rfl⟩ hd_By_field ⟨Nat.le_of_ble_eq_true rfl, Nat.le_of_ble_eq_true rfl⟩ rfl (Nat.le_of_ble_eq_true rfl) d_Ti_setTold_11 ⟨Nat.le_of_ble_eq_true rfl, Nat.le_of_ble_eq_true rfl⟩) X Y hA (fun z2 H locs Y p2 => ?_)
  obtain ⟨l2, u2⟩ := p2
  refine t_ui (t_runV (As := [.int (iI z2)]) (rest := [.ref h]) (n := 1) X Y S k2 hml hl.1 (c_By_bitsAt l D E T κ L f1 H.size a2 n2 k2 (by omega) z2 (by omega) (by omega) S.1) (ok_k X Y hA KS KR) rfl kl_Ti_By_bitsAt ks_By_bitsAt kx_By_bitsAt ki_By_bitsAt ini_By ⟨rfl, rfl⟩ hd_By_bitsAt ⟨Nat.le_of_ble_eq_true rfl, Nat.le_of_ble_eq_true rfl⟩ rfl (Nat.le_of_ble_eq_true rfl) d_Ti_setTold_14 ⟨Nat.le_of_ble_eq_true rfl, Nat.le_of_ble_eq_true rfl⟩) X Y hA (fun z3 H locs Y p3 => ?_)
  obtain ⟨l3, u3⟩ := p3
  refine t_put (ci := 10) X Y S k0 rfl i_Ti t_Ti t_Ti_ok n_Ti 5 (by decide) rfl lk_Ti_30 (fun _ h9 => h9) rfl (t_Ti_ok 5 (by decide)) rfl rfl ⟨_, rfl, by omega, by omega⟩ (fun h9 => h9.2.1 (by rw [← (S.2.2.2 _ h9).2, k0]; decide)) d_Ti_setTold_17 (fun f4 H locs Y S w4 => ?_)
  refine lv_aload_n X.1 X.2.1 d_Ti_setTold_20 rfl (lv_at hl 0 rfl) ?_
  refine lv_aload_n X.1 X.2.1 d_Ti_setTold_21 rfl (lv_at hl 2 rfl) ?_
  refine lv_aload_n X.1 X.2.1 d_Ti_setTold_22 rfl (lv_at hl 2 rfl) ?_
  refine lv_iload_n X.1 X.2.1 d_Ti_setTold_23 rfl (lv_at hl 3 rfl) ?_
  refine lv_iload X.1 X.2.1 d_Ti_setTold_24 (lv_at hl 4 rfl) ?_
  refine lv_iconst (v := iI 1) X.1 X.2.1 d_Ti_setTold_26 (by decide) ?_
  refine z_iadd X.1 X.2.1 d_Ti_setTold_27 ?_
  refine t_ui (t_runV (As := [.int (iI a3), .int (iI (a4 + 1))]) (rest := [.ref a2, .ref h]) (n := 2) X Y S k2 hml hl.1 (c_By_field l D E T κ L f4 H.size a2 n2 k2 (by omega) a3 (by omega) (by omega) (a4 + 1) (by omega) (by omega) S.1) (ok_k X Y hA KS KR) rfl kl_Ti_By_field ks_By_field kx_By_field ki_By_field ini_By ⟨rfl, rfl⟩ hd_By_field ⟨Nat.le_of_ble_eq_true rfl, Nat.le_of_ble_eq_true rfl⟩ rfl (Nat.le_of_ble_eq_true rfl) d_Ti_setTold_28 ⟨Nat.le_of_ble_eq_true rfl, Nat.le_of_ble_eq_true rfl⟩) X Y hA (fun z5 H locs Y p5 => ?_)
  obtain ⟨l5, u5⟩ := p5
  refine t_ui (t_runV (As := [.int (iI z5)]) (rest := [.ref h]) (n := 1) X Y S k2 hml hl.1 (c_By_timeAt l D E T κ L f4 H.size a2 n2 k2 (by omega) z5 (by omega) (by omega) S.1) (ok_k X Y hA KS KR) rfl kl_Ti_By_timeAt ks_By_timeAt kx_By_timeAt ki_By_timeAt ini_By ⟨rfl, rfl⟩ hd_By_timeAt ⟨Nat.le_of_ble_eq_true rfl, Nat.le_of_ble_eq_true rfl⟩ rfl (Nat.le_of_ble_eq_true rfl) d_Ti_setTold_31 ⟨Nat.le_of_ble_eq_true rfl, Nat.le_of_ble_eq_true rfl⟩) X Y hA (fun z6 H locs Y p6 => ?_)
  obtain ⟨l6, u6⟩ := p6
  refine t_put (ci := 10) X Y S k0 rfl i_Ti t_Ti t_Ti_ok n_Ti 6 (by decide) rfl lk_Ti_34 (fun _ h9 => h9) rfl (t_Ti_ok 6 (by decide)) rfl rfl ⟨_, rfl, by omega, by omega⟩ (fun h9 => h9.2.1 (by rw [← (S.2.2.2 _ h9).2, k0]; decide)) d_Ti_setTold_34 (fun f7 H locs Y S w7 => ?_)
  refine lv_aload_n X.1 X.2.1 d_Ti_setTold_37 rfl (lv_at hl 0 rfl) ?_
  refine lv_aload_n X.1 X.2.1 d_Ti_setTold_38 rfl (lv_at hl 2 rfl) ?_
  refine lv_aload_n X.1 X.2.1 d_Ti_setTold_39 rfl (lv_at hl 2 rfl) ?_
  refine lv_iload_n X.1 X.2.1 d_Ti_setTold_40 rfl (lv_at hl 3 rfl) ?_
  refine lv_iload X.1 X.2.1 d_Ti_setTold_41 (lv_at hl 4 rfl) ?_
  refine lv_iconst (v := iI 2) X.1 X.2.1 d_Ti_setTold_43 (by decide) ?_
  refine z_iadd X.1 X.2.1 d_Ti_setTold_44 ?_
  refine t_ui (t_runV (As := [.int (iI a3), .int (iI (a4 + 2))]) (rest := [.ref a2, .ref h]) (n := 2) X Y S k2 hml hl.1 (c_By_field l D E T κ L f7 H.size a2 n2 k2 (by omega) a3 (by omega) (by omega) (a4 + 2) (by omega) (by omega) S.1) (ok_k X Y hA KS KR) rfl kl_Ti_By_field ks_By_field kx_By_field ki_By_field ini_By ⟨rfl, rfl⟩ hd_By_field ⟨Nat.le_of_ble_eq_true rfl, Nat.le_of_ble_eq_true rfl⟩ rfl (Nat.le_of_ble_eq_true rfl) d_Ti_setTold_45 ⟨Nat.le_of_ble_eq_true rfl, Nat.le_of_ble_eq_true rfl⟩) X Y hA (fun z8 H locs Y p8 => ?_)
  obtain ⟨l8, u8⟩ := p8
  refine t_ui (t_runV (As := [.int (iI z8)]) (rest := [.ref h]) (n := 1) X Y S k2 hml hl.1 (c_By_timeAt l D E T κ L f7 H.size a2 n2 k2 (by omega) z8 (by omega) (by omega) S.1) (ok_k X Y hA KS KR) rfl kl_Ti_By_timeAt ks_By_timeAt kx_By_timeAt ki_By_timeAt ini_By ⟨rfl, rfl⟩ hd_By_timeAt ⟨Nat.le_of_ble_eq_true rfl, Nat.le_of_ble_eq_true rfl⟩ rfl (Nat.le_of_ble_eq_true rfl) d_Ti_setTold_48 ⟨Nat.le_of_ble_eq_true rfl, Nat.le_of_ble_eq_true rfl⟩) X Y hA (fun z9 H locs Y p9 => ?_)
  obtain ⟨l9, u9⟩ := p9
  refine t_put (ci := 10) X Y S k0 rfl i_Ti t_Ti t_Ti_ok n_Ti 7 (by decide) rfl lk_Ti_37 (fun _ h9 => h9) rfl (t_Ti_ok 7 (by decide)) rfl rfl ⟨_, rfl, by omega, by omega⟩ (fun h9 => h9.2.1 (by rw [← (S.2.2.2 _ h9).2, k0]; decide)) d_Ti_setTold_51 (fun f10 H locs Y S w10 => ?_)
  refine lv_aload_n X.1 X.2.1 d_Ti_setTold_54 rfl (lv_at hl 0 rfl) ?_
  refine lv_aload_n X.1 X.2.1 d_Ti_setTold_55 rfl (lv_at hl 2 rfl) ?_
  refine lv_aload_n X.1 X.2.1 d_Ti_setTold_56 rfl (lv_at hl 2 rfl) ?_
  refine lv_iload_n X.1 X.2.1 d_Ti_setTold_57 rfl (lv_at hl 3 rfl) ?_
  refine lv_iload X.1 X.2.1 d_Ti_setTold_58 (lv_at hl 4 rfl) ?_
  refine lv_iconst (v := iI 3) X.1 X.2.1 d_Ti_setTold_60 (by decide) ?_
  refine z_iadd X.1 X.2.1 d_Ti_setTold_61 ?_
  refine t_ui (t_runV (As := [.int (iI a3), .int (iI (a4 + 3))]) (rest := [.ref a2, .ref h]) (n := 2) X Y S k2 hml hl.1 (c_By_field l D E T κ L f10 H.size a2 n2 k2 (by omega) a3 (by omega) (by omega) (a4 + 3) (by omega) (by omega) S.1) (ok_k X Y hA KS KR) rfl kl_Ti_By_field ks_By_field kx_By_field ki_By_field ini_By ⟨rfl, rfl⟩ hd_By_field ⟨Nat.le_of_ble_eq_true rfl, Nat.le_of_ble_eq_true rfl⟩ rfl (Nat.le_of_ble_eq_true rfl) d_Ti_setTold_62 ⟨Nat.le_of_ble_eq_true rfl, Nat.le_of_ble_eq_true rfl⟩) X Y hA (fun z11 H locs Y p11 => ?_)
  obtain ⟨l11, u11⟩ := p11
  refine t_ui (t_runV (As := [.int (iI z11)]) (rest := [.ref h]) (n := 1) X Y S k2 hml hl.1 (c_By_timeAt l D E T κ L f10 H.size a2 n2 k2 (by omega) z11 (by omega) (by omega) S.1) (ok_k X Y hA KS KR) rfl kl_Ti_By_timeAt ks_By_timeAt kx_By_timeAt ki_By_timeAt ini_By ⟨rfl, rfl⟩ hd_By_timeAt ⟨Nat.le_of_ble_eq_true rfl, Nat.le_of_ble_eq_true rfl⟩ rfl (Nat.le_of_ble_eq_true rfl) d_Ti_setTold_65 ⟨Nat.le_of_ble_eq_true rfl, Nat.le_of_ble_eq_true rfl⟩) X Y hA (fun z12 H locs Y p12 => ?_)
  obtain ⟨l12, u12⟩ := p12
  refine t_put (ci := 10) X Y S k0 rfl i_Ti t_Ti t_Ti_ok n_Ti 8 (by decide) rfl lk_Ti_40 (fun _ h9 => h9) rfl (t_Ti_ok 8 (by decide)) rfl rfl ⟨_, rfl, by omega, by omega⟩ (fun h9 => h9.2.1 (by rw [← (S.2.2.2 _ h9).2, k0]; decide)) d_Ti_setTold_68 (fun f13 H locs Y S w13 => ?_)
  refine lv_aload_n X.1 X.2.1 d_Ti_setTold_71 rfl (lv_at hl 0 rfl) ?_
  refine lv_aload_n X.1 X.2.1 d_Ti_setTold_72 rfl (lv_at hl 2 rfl) ?_
  refine lv_aload_n X.1 X.2.1 d_Ti_setTold_73 rfl (lv_at hl 2 rfl) ?_
  refine lv_iload_n X.1 X.2.1 d_Ti_setTold_74 rfl (lv_at hl 3 rfl) ?_
  refine lv_iload X.1 X.2.1 d_Ti_setTold_75 (lv_at hl 4 rfl) ?_
  refine lv_iconst (v := iI 4) X.1 X.2.1 d_Ti_setTold_77 (by decide) ?_
  refine z_iadd X.1 X.2.1 d_Ti_setTold_78 ?_
  refine t_ui (t_runV (As := [.int (iI a3), .int (iI (a4 + 4))]) (rest := [.ref a2, .ref h]) (n := 2) X Y S k2 hml hl.1 (c_By_field l D E T κ L f13 H.size a2 n2 k2 (by omega) a3 (by omega) (by omega) (a4 + 4) (by omega) (by omega) S.1) (ok_k X Y hA KS KR) rfl kl_Ti_By_field ks_By_field kx_By_field ki_By_field ini_By ⟨rfl, rfl⟩ hd_By_field ⟨Nat.le_of_ble_eq_true rfl, Nat.le_of_ble_eq_true rfl⟩ rfl (Nat.le_of_ble_eq_true rfl) d_Ti_setTold_79 ⟨Nat.le_of_ble_eq_true rfl, Nat.le_of_ble_eq_true rfl⟩) X Y hA (fun z14 H locs Y p14 => ?_)
  obtain ⟨l14, u14⟩ := p14
  refine t_ui (t_runV (As := [.int (iI z14)]) (rest := [.ref h]) (n := 1) X Y S k2 hml hl.1 (c_By_timeAt l D E T κ L f13 H.size a2 n2 k2 (by omega) z14 (by omega) (by omega) S.1) (ok_k X Y hA KS KR) rfl kl_Ti_By_timeAt ks_By_timeAt kx_By_timeAt ki_By_timeAt ini_By ⟨rfl, rfl⟩ hd_By_timeAt ⟨Nat.le_of_ble_eq_true rfl, Nat.le_of_ble_eq_true rfl⟩ rfl (Nat.le_of_ble_eq_true rfl) d_Ti_setTold_82 ⟨Nat.le_of_ble_eq_true rfl, Nat.le_of_ble_eq_true rfl⟩) X Y hA (fun z15 H locs Y p15 => ?_)
  obtain ⟨l15, u15⟩ := p15
  refine t_put (ci := 10) X Y S k0 rfl i_Ti t_Ti t_Ti_ok n_Ti 9 (by decide) rfl lk_Ti_43 (fun _ h9 => h9) rfl (t_Ti_ok 9 (by decide)) rfl rfl ⟨_, rfl, by omega, by omega⟩ (fun h9 => h9.2.1 (by rw [← (S.2.2.2 _ h9).2, k0]; decide)) d_Ti_setTold_85 (fun f16 H locs Y S w16 => ?_)
  refine lv_aload_n X.1 X.2.1 d_Ti_setTold_88 rfl (lv_at hl 0 rfl) ?_
  refine lv_iconst (v := iI 1) X.1 X.2.1 d_Ti_setTold_89 (by decide) ?_
  refine t_put (ci := 10) X Y S k0 rfl i_Ti t_Ti t_Ti_ok n_Ti 3 (by decide) rfl lk_Ti_89 (fun _ h9 => h9) rfl (t_Ti_ok 3 (by decide)) (iI_bool (by omega) (by omega)).1 (iI_bool (by omega) (by omega)).2 ⟨_, rfl, by omega, by omega⟩ (fun h9 => h9.2.1 (by rw [← (S.2.2.2 _ h9).2, k0]; decide)) d_Ti_setTold_90 (fun f17 H locs Y S w17 => ?_)
  exact c_retv hQQ X Y hr hlk ⟨rfl, S, trivial⟩ d_Ti_setTold_93
set_option maxHeartbeats 4000000 in
set_option maxRecDepth 100000 in
theorem c_Ti_putInfo (l : Launch) (D : va_G) (E : cE) (T : cT) (κ : tK) (L : List Nat) (f : pF) (sz : Nat) (h : Nat) (k0 : κ h = (20, 0)) (a1 n1 : Nat) (k1 : κ a1 = (13, n1)) (x1 : n1 ≤ 12288) (hw : tW E T κ L f) : Met l y_Ti_putInfo (k_Ti_putInfo :: lw_tg) (kRm 7 181 0 0) (va_Pc [.ref h, .ref a1] (kPre D E T L f sz)) (va_Qv (nPv E T [1, 13] κ L f (fun (g : pF) => True)) (cPost D E (pA L sz)) (pA L sz)) 0 0 (pA L sz) := by
  refine k_enter (own := R_Ti) (by decide) rfl (Nat.le_of_ble_eq_true rfl) (fun p e s m below meth c ls AV QQ H locs hQQ X Y hA hin hr hlk hml hl KS KR => ?_)
  have hl : lv_has ls 3 [(0, .ref h), (1, .ref a1)] := hl
  have S : tS E T (tFr κ L [1, 13] []) κ L f κ L f := tS_rf hw
  refine lv_aload_n X.1 X.2.1 d_Ti_putInfo_0 rfl (lv_at hl 1 rfl) ?_
  refine lv_bipush (v := iI 48) X.1 X.2.1 d_Ti_putInfo_1 (by decide) ?_
  refine t_ni (t_runV (As := [.int (iI 48)]) (rest := []) (n := 1) X Y S k1 hml hl.1 (c_By_open l D E T κ L f H.size a1 n1 k1 (by omega) 48 (by omega) (by omega) S.1) (ok_k X Y hA KS KR) rfl kl_Ti_By_open ks_By_open kx_By_open ki_By_open ini_By ⟨rfl, rfl⟩ hd_By_open ⟨Nat.le_of_ble_eq_true rfl, Nat.le_of_ble_eq_true rfl⟩ rfl (Nat.le_of_ble_eq_true rfl) d_Ti_putInfo_3 ⟨Nat.le_of_ble_eq_true rfl, Nat.le_of_ble_eq_true rfl⟩) X Y hA S (by decide) (fun z1 f1 H locs Y S s1 p1 => ?_)
  obtain ⟨l1, u1⟩ := p1
  refine lv_istore_n (lv' := [(2, .int (iI z1)), (0, .ref h), (1, .ref a1)]) X.1 X.2.1 d_Ti_putInfo_6 rfl hl (by decide) rfl (fun ls hl => ?_)
  refine lv_aload_n X.1 X.2.1 d_Ti_putInfo_7 rfl (lv_at hl 2 rfl) ?_
  refine lv_iconst (v := iI 0) X.1 X.2.1 d_Ti_putInfo_8 (by decide) ?_
  refine lv_aload_n X.1 X.2.1 d_Ti_putInfo_9 rfl (lv_at hl 1 rfl) ?_
  refine t_getk (ci := 10) X Y S k0 rfl i_Ti 4 (by decide) rfl lk_Ti_27 (fun _ h9 => h9) d_Ti_putInfo_10 (fun b2 n2 e2 k2 x2 => ?_)
  refine t_nv (t_runV (As := [.int (iI 0), .ref b2]) (rest := []) (n := 2) X Y S k1 hml hl.1 (c_By_putKey l D E T κ L f1 H.size a1 n1 k1 (by omega) 0 (by omega) (by omega) b2 n2 k2 (by omega) S.1) (ok_k X Y hA KS KR) rfl kl_Ti_By_putKey ks_By_putKey kx_By_putKey ki_By_putKey ini_By ⟨rfl, rfl⟩ hd_By_putKey ⟨Nat.le_of_ble_eq_true rfl, Nat.le_of_ble_eq_true rfl⟩ rfl (Nat.le_of_ble_eq_true rfl) d_Ti_putInfo_13 ⟨Nat.le_of_ble_eq_true rfl, Nat.le_of_ble_eq_true rfl⟩) X Y hA S (by decide) (fun f3 H locs Y S s3 p3 => ?_)
  refine lv_aload_n X.1 X.2.1 d_Ti_putInfo_16 rfl (lv_at hl 2 rfl) ?_
  refine lv_iconst (v := iI 1) X.1 X.2.1 d_Ti_putInfo_17 (by decide) ?_
  refine t_nv (t_runV (As := [.int (iI 1)]) (rest := []) (n := 1) X Y S k1 hml hl.1 (c_By_putRealm l D E T κ L f3 H.size a1 n1 k1 (by omega) 1 (by omega) (by omega) S.1) (ok_k X Y hA KS KR) rfl kl_Ti_By_putRealm ks_By_putRealm kx_By_putRealm ki_By_putRealm ini_By ⟨rfl, rfl⟩ hd_By_putRealm ⟨Nat.le_of_ble_eq_true rfl, Nat.le_of_ble_eq_true rfl⟩ rfl (Nat.le_of_ble_eq_true rfl) d_Ti_putInfo_18 ⟨Nat.le_of_ble_eq_true rfl, Nat.le_of_ble_eq_true rfl⟩) X Y hA S (by decide) (fun f4 H locs Y S s4 p4 => ?_)
  refine lv_aload_n X.1 X.2.1 d_Ti_putInfo_21 rfl (lv_at hl 2 rfl) ?_
  refine lv_iconst (v := iI 2) X.1 X.2.1 d_Ti_putInfo_22 (by decide) ?_
  refine lv_aload_n X.1 X.2.1 d_Ti_putInfo_23 rfl (lv_at hl 1 rfl) ?_
  refine t_geti (ci := 10) X Y S k0 rfl i_Ti 2 (by decide) rfl lk_Ti_64 (fun _ h9 => h9) d_Ti_putInfo_24 (fun z5 e5 l5 u5 => ?_)
  refine lv_aload_n X.1 X.2.1 d_Ti_putInfo_27 rfl (lv_at hl 1 rfl) ?_
  refine t_getr (ci := 10) X Y S k0 rfl i_Ti 1 (by decide) rfl (k1 := 13) (k2 := 40) rfl rfl lk_Ti_20 (fun _ h9 => h9) d_Ti_putInfo_28 (fun b6 e6 k6 => ?_)
  refine t_nv (t_runV (As := [.int (iI 2), .int (iI z5), .ref b6]) (rest := []) (n := 3) X Y S k1 hml hl.1 (c_By_putName l D E T κ L f4 H.size a1 n1 k1 (by omega) 2 (by omega) (by omega) z5 (by omega) (by omega) b6 40 k6 (by omega) S.1) (ok_k X Y hA KS KR) rfl kl_Ti_By_putName ks_By_putName kx_By_putName ki_By_putName ini_By ⟨rfl, rfl⟩ hd_By_putName ⟨Nat.le_of_ble_eq_true rfl, Nat.le_of_ble_eq_true rfl⟩ rfl (Nat.le_of_ble_eq_true rfl) d_Ti_putInfo_31 ⟨Nat.le_of_ble_eq_true rfl, Nat.le_of_ble_eq_true rfl⟩) X Y hA S (by decide) (fun f7 H locs Y S s7 p7 => ?_)
  refine lv_aload_n X.1 X.2.1 d_Ti_putInfo_34 rfl (lv_at hl 2 rfl) ?_
  refine lv_iconst (v := iI 3) X.1 X.2.1 d_Ti_putInfo_35 (by decide) ?_
  refine lv_aload_n X.1 X.2.1 d_Ti_putInfo_36 rfl (lv_at hl 1 rfl) ?_
  refine t_geti (ci := 10) X Y S k0 rfl i_Ti 5 (by decide) rfl lk_Ti_30 (fun _ h9 => h9) d_Ti_putInfo_37 (fun z8 e8 l8 u8 => ?_)
  refine t_nv (t_runV (As := [.int (iI 3), .int (iI z8)]) (rest := []) (n := 2) X Y S k1 hml hl.1 (c_By_putBits l D E T κ L f7 H.size a1 n1 k1 (by omega) 3 (by omega) (by omega) z8 (by omega) (by omega) S.1) (ok_k X Y hA KS KR) rfl kl_Ti_By_putBits ks_By_putBits kx_By_putBits ki_By_putBits ini_By ⟨rfl, rfl⟩ hd_By_putBits ⟨Nat.le_of_ble_eq_true rfl, Nat.le_of_ble_eq_true rfl⟩ rfl (Nat.le_of_ble_eq_true rfl) d_Ti_putInfo_40 ⟨Nat.le_of_ble_eq_true rfl, Nat.le_of_ble_eq_true rfl⟩) X Y hA S (by decide) (fun f9 H locs Y S s9 p9 => ?_)
  refine lv_aload_n X.1 X.2.1 d_Ti_putInfo_43 rfl (lv_at hl 2 rfl) ?_
  refine lv_iconst (v := iI 4) X.1 X.2.1 d_Ti_putInfo_44 (by decide) ?_
  refine lv_aload_n X.1 X.2.1 d_Ti_putInfo_45 rfl (lv_at hl 1 rfl) ?_
  refine t_geti (ci := 10) X Y S k0 rfl i_Ti 6 (by decide) rfl lk_Ti_34 (fun _ h9 => h9) d_Ti_putInfo_46 (fun z10 e10 l10 u10 => ?_)
  refine t_nv (t_runV (As := [.int (iI 4), .int (iI z10)]) (rest := []) (n := 2) X Y S k1 hml hl.1 (c_By_putTime l D E T κ L f9 H.size a1 n1 k1 (by omega) 4 (by omega) (by omega) z10 (by omega) (by omega) S.1) (ok_k X Y hA KS KR) rfl kl_Ti_By_putTime ks_By_putTime kx_By_putTime ki_By_putTime ini_By ⟨rfl, rfl⟩ hd_By_putTime ⟨Nat.le_of_ble_eq_true rfl, Nat.le_of_ble_eq_true rfl⟩ rfl (Nat.le_of_ble_eq_true rfl) d_Ti_putInfo_49 ⟨Nat.le_of_ble_eq_true rfl, Nat.le_of_ble_eq_true rfl⟩) X Y hA S (by decide) (fun f11 H locs Y S s11 p11 => ?_)
  refine lv_aload_n X.1 X.2.1 d_Ti_putInfo_52 rfl (lv_at hl 1 rfl) ?_
  refine t_geti (ci := 10) X Y S k0 rfl i_Ti 7 (by decide) rfl lk_Ti_37 (fun _ h9 => h9) d_Ti_putInfo_53 (fun z12 e12 l12 u12 => ?_)
  have J14 : ∀ (f13 : pF) (H : Heap) (locs : List Loc) (ls : Array Slot), pH D cCl (pA L sz) s.heap L f13 H locs → tS E T (tFr κ L [1, 13] []) κ L f κ L f13 → lv_has ls 3 [(0, .ref h), (1, .ref a1), (2, .int (iI z1))] → W p l e (kRm 7 181 0 0) s m AV below meth c H locs 0 0 QQ (F0 m 68 ls []) := by
    intro f13 H locs ls  Y S hl
    refine lv_aload_n X.1 X.2.1 d_Ti_putInfo_68 rfl (lv_at hl 1 rfl) ?_
    refine lv_bipush (v := iI 6) X.1 X.2.1 d_Ti_putInfo_69 (by decide) ?_
    refine lv_aload_n X.1 X.2.1 d_Ti_putInfo_71 rfl (lv_at hl 0 rfl) ?_
    refine t_geti (ci := 10) X Y S k0 rfl i_Ti 8 (by decide) rfl lk_Ti_40 (fun _ h9 => h9) d_Ti_putInfo_72 (fun z18 e18 l18 u18 => ?_)
    refine t_nv (t_runV (As := [.int (iI 6), .int (iI z18)]) (rest := []) (n := 2) X Y S k1 hml hl.1 (c_By_putTime l D E T κ L f13 H.size a1 n1 k1 (by omega) 6 (by omega) (by omega) z18 (by omega) (by omega) S.1) (ok_k X Y hA KS KR) rfl kl_Ti_By_putTime ks_By_putTime kx_By_putTime ki_By_putTime ini_By ⟨rfl, rfl⟩ hd_By_putTime ⟨Nat.le_of_ble_eq_true rfl, Nat.le_of_ble_eq_true rfl⟩ rfl (Nat.le_of_ble_eq_true rfl) d_Ti_putInfo_75 ⟨Nat.le_of_ble_eq_true rfl, Nat.le_of_ble_eq_true rfl⟩) X Y hA S (by decide) (fun f19 H locs Y S s19 p19 => ?_)
    refine lv_aload_n X.1 X.2.1 d_Ti_putInfo_78 rfl (lv_at hl 0 rfl) ?_
    refine t_geti (ci := 10) X Y S k0 rfl i_Ti 9 (by decide) rfl lk_Ti_43 (fun _ h9 => h9) d_Ti_putInfo_79 (fun z20 e20 l20 u20 => ?_)
    have J22 : ∀ (f21 : pF) (H : Heap) (locs : List Loc) (ls : Array Slot), pH D cCl (pA L sz) s.heap L f21 H locs → tS E T (tFr κ L [1, 13] []) κ L f κ L f21 → lv_has ls 3 [(0, .ref h), (1, .ref a1), (2, .int (iI z1))] → W p l e (kRm 7 181 0 0) s m AV below meth c H locs 0 0 QQ (F0 m 95 ls []) := by
      intro f21 H locs ls  Y S hl
      refine lv_aload_n X.1 X.2.1 d_Ti_putInfo_95 rfl (lv_at hl 1 rfl) ?_
      refine lv_bipush (v := iI 8) X.1 X.2.1 d_Ti_putInfo_96 (by decide) ?_
      refine t_nv (t_runV (As := [.int (iI 8)]) (rest := []) (n := 1) X Y S k1 hml hl.1 (c_By_putRealm l D E T κ L f21 H.size a1 n1 k1 (by omega) 8 (by omega) (by omega) S.1) (ok_k X Y hA KS KR) rfl kl_Ti_By_putRealm ks_By_putRealm kx_By_putRealm ki_By_putRealm ini_By ⟨rfl, rfl⟩ hd_By_putRealm ⟨Nat.le_of_ble_eq_true rfl, Nat.le_of_ble_eq_true rfl⟩ rfl (Nat.le_of_ble_eq_true rfl) d_Ti_putInfo_98 ⟨Nat.le_of_ble_eq_true rfl, Nat.le_of_ble_eq_true rfl⟩) X Y hA S (by decide) (fun f26 H locs Y S s26 p26 => ?_)
      refine lv_aload_n X.1 X.2.1 d_Ti_putInfo_101 rfl (lv_at hl 1 rfl) ?_
      refine lv_bipush (v := iI 9) X.1 X.2.1 d_Ti_putInfo_102 (by decide) ?_
      refine lv_aload_n X.1 X.2.1 d_Ti_putInfo_104 rfl (lv_at hl 0 rfl) ?_
      refine t_getm (ci := 10) X Y S k0 rfl i_Ti 0 (by decide) rfl (k1 := 13) (k2 := 4000) rfl rfl lk_Ti_14 (fun _ h9 => h9) d_Ti_putInfo_105 (fun b27 n27 e27 k27 x27 => ?_)
      refine lv_aload_n X.1 X.2.1 d_Ti_putInfo_108 rfl (lv_at hl 0 rfl) ?_
      refine t_get0 (ci := 10) X Y S k0 rfl i_Ti 0 (by decide) rfl lk_Ti_14 (fun _ h9 => h9) d_Ti_putInfo_109 e27 ?_
      refine lv_iconst (v := iI 0) X.1 X.2.1 d_Ti_putInfo_112 (by decide) ?_
      refine lv_iconst (v := iI 2) X.1 X.2.1 d_Ti_putInfo_113 (by decide) ?_
      refine t_ui (t_runV (As := [.int (iI 0), .int (iI 2)]) (rest := [.ref b27, .int (iI 9), .ref a1]) (n := 2) X Y S k27 hml hl.1 (c_By_field l D E T κ L f26 H.size b27 n27 k27 (by omega) 0 (by omega) (by omega) 2 (by omega) (by omega) S.1) (ok_k X Y hA KS KR) rfl kl_Ti_By_field ks_By_field kx_By_field ki_By_field ini_By ⟨rfl, rfl⟩ hd_By_field ⟨Nat.le_of_ble_eq_true rfl, Nat.le_of_ble_eq_true rfl⟩ rfl (Nat.le_of_ble_eq_true rfl) d_Ti_putInfo_114 ⟨Nat.le_of_ble_eq_true rfl, Nat.le_of_ble_eq_true rfl⟩) X Y hA (fun z28 H locs Y p28 => ?_)
      obtain ⟨l28, u28⟩ := p28
      refine t_nv (t_runV (As := [.int (iI 9), .ref b27, .int (iI z28)]) (rest := []) (n := 3) X Y S k1 hml hl.1 (c_By_putCopy l D E T κ L f26 H.size a1 n1 k1 (by omega) 9 (by omega) (by omega) b27 n27 k27 (by omega) z28 (by omega) (by omega) S.1) (ok_k X Y hA KS KR) rfl kl_Ti_By_putCopy ks_By_putCopy kx_By_putCopy ki_By_putCopy ini_By ⟨rfl, rfl⟩ hd_By_putCopy ⟨Nat.le_of_ble_eq_true rfl, Nat.le_of_ble_eq_true rfl⟩ rfl (Nat.le_of_ble_eq_true rfl) d_Ti_putInfo_117 ⟨Nat.le_of_ble_eq_true rfl, Nat.le_of_ble_eq_true rfl⟩) X Y hA S (by decide) (fun f29 H locs Y S s29 p29 => ?_)
      refine lv_aload_n X.1 X.2.1 d_Ti_putInfo_120 rfl (lv_at hl 1 rfl) ?_
      refine lv_iload_n X.1 X.2.1 d_Ti_putInfo_121 rfl (lv_at hl 2 rfl) ?_
      refine t_nv (t_runV (As := [.int (iI z1)]) (rest := []) (n := 1) X Y S k1 hml hl.1 (c_By_close l D E T κ L f29 H.size a1 n1 k1 (by omega) z1 (by omega) (by omega) S.1) (ok_k X Y hA KS KR) rfl kl_Ti_By_close ks_By_close kx_By_close ki_By_close ini_By ⟨rfl, rfl⟩ hd_By_close ⟨Nat.le_of_ble_eq_true rfl, Nat.le_of_ble_eq_true rfl⟩ rfl (Nat.le_of_ble_eq_true rfl) d_Ti_putInfo_122 ⟨Nat.le_of_ble_eq_true rfl, Nat.le_of_ble_eq_true rfl⟩) X Y hA S (by decide) (fun f30 H locs Y S s30 p30 => ?_)
      exact c_retv hQQ X Y hr hlk ⟨rfl, S, trivial⟩ d_Ti_putInfo_125
    refine z_if_lt (tgt := 95) X.1 X.2.1 d_Ti_putInfo_82 (by decide) ⟨by omega, by omega⟩ (fun h31 => ?_) (fun h31 => ?_)
    · exact J22 f19 _ _ _  Y S (lv_sub hl [0, 1, 2] rfl)
    · refine lv_aload_n X.1 X.2.1 d_Ti_putInfo_85 rfl (lv_at hl 1 rfl) ?_
      refine lv_bipush (v := iI 7) X.1 X.2.1 d_Ti_putInfo_86 (by decide) ?_
      refine lv_aload_n X.1 X.2.1 d_Ti_putInfo_88 rfl (lv_at hl 0 rfl) ?_
      refine t_get0 (ci := 10) X Y S k0 rfl i_Ti 9 (by decide) rfl lk_Ti_43 (fun _ h9 => h9) d_Ti_putInfo_89 e20 ?_
      refine t_nv (t_runV (As := [.int (iI 7), .int (iI z20)]) (rest := []) (n := 2) X Y S k1 hml hl.1 (c_By_putTime l D E T κ L f19 H.size a1 n1 k1 (by omega) 7 (by omega) (by omega) z20 (by omega) (by omega) S.1) (ok_k X Y hA KS KR) rfl kl_Ti_By_putTime ks_By_putTime kx_By_putTime ki_By_putTime ini_By ⟨rfl, rfl⟩ hd_By_putTime ⟨Nat.le_of_ble_eq_true rfl, Nat.le_of_ble_eq_true rfl⟩ rfl (Nat.le_of_ble_eq_true rfl) d_Ti_putInfo_92 ⟨Nat.le_of_ble_eq_true rfl, Nat.le_of_ble_eq_true rfl⟩) X Y hA S (by decide) (fun f32 H locs Y S s32 p32 => ?_)
      exact J22 f32 _ _ _  Y S (lv_sub hl [0, 1, 2] rfl)
  refine z_if_lt (tgt := 68) X.1 X.2.1 d_Ti_putInfo_56 (by decide) ⟨by omega, by omega⟩ (fun h33 => ?_) (fun h33 => ?_)
  · exact J14 f11 _ _ _  Y S (lv_sub hl [1, 2, 0] rfl)
  · refine lv_aload_n X.1 X.2.1 d_Ti_putInfo_59 rfl (lv_at hl 2 rfl) ?_
    refine lv_iconst (v := iI 5) X.1 X.2.1 d_Ti_putInfo_60 (by decide) ?_
    refine lv_aload_n X.1 X.2.1 d_Ti_putInfo_61 rfl (lv_at hl 1 rfl) ?_
    refine t_get0 (ci := 10) X Y S k0 rfl i_Ti 7 (by decide) rfl lk_Ti_37 (fun _ h9 => h9) d_Ti_putInfo_62 e12 ?_
    refine t_nv (t_runV (As := [.int (iI 5), .int (iI z12)]) (rest := []) (n := 2) X Y S k1 hml hl.1 (c_By_putTime l D E T κ L f11 H.size a1 n1 k1 (by omega) 5 (by omega) (by omega) z12 (by omega) (by omega) S.1) (ok_k X Y hA KS KR) rfl kl_Ti_By_putTime ks_By_putTime kx_By_putTime ki_By_putTime ini_By ⟨rfl, rfl⟩ hd_By_putTime ⟨Nat.le_of_ble_eq_true rfl, Nat.le_of_ble_eq_true rfl⟩ rfl (Nat.le_of_ble_eq_true rfl) d_Ti_putInfo_65 ⟨Nat.le_of_ble_eq_true rfl, Nat.le_of_ble_eq_true rfl⟩) X Y hA S (by decide) (fun f34 H locs Y S s34 p34 => ?_)
    exact J14 f34 _ _ _  Y S (lv_sub hl [1, 2, 0] rfl)
