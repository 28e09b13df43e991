/-! Bytes: numbers. -/
abbrev b_By_putInteger : ByteArray := prog_4_method_14_code
def y_By_putInteger : MethodName := ⟨R_By, "putInteger", "(J)V"⟩
abbrev k_By_putInteger : Cond := .code y_By_putInteger b_By_putInteger 5 none
theorem ki_By_putInteger : k_By_putInteger ∈ lw_tg := in_t 1246 (by decide +kernel)
theorem ks_By_putInteger : Cond.instanceMethod y_By_putInteger ∈ lw_tg := in_t 1244 (by decide +kernel)
theorem kx_By_putInteger : Cond.selects R_By y_By_putInteger y_By_putInteger ∈ lw_tg := in_t 1245 (by decide +kernel)
theorem kl_By_By_putInteger : Cond.methodLink R_By 49 y_By_putInteger ∈ lw_tg := in_t 1243 (by decide +kernel)
theorem kl_Ag_By_putInteger : Cond.methodLink R_Ag 172 y_By_putInteger ∈ lw_tg := in_t 1439 (by decide +kernel)
theorem hd_By_putInteger : y_By_putInteger.cls = R_By ∧ y_By_putInteger.cls ≠ "java/lang/invoke/MethodHandle" ∧ y_By_putInteger.cls ≠ "java/lang/invoke/VarHandle" ∧ (parseMethodDescriptor y_By_putInteger.desc).map (fun d => d.parameters.length) = some 1 := by decide +kernel
theorem d_By_putInteger_0 : decode b_By_putInteger 0 = .ok (.iconst 1, 1) := by decide +kernel
theorem d_By_putInteger_1 : decode b_By_putInteger 1 = .ok (.istore_n 3, 1) := by decide +kernel
theorem d_By_putInteger_2 : decode b_By_putInteger 2 = .ok (.iload_n 3, 1) := by decide +kernel
theorem d_By_putInteger_3 : decode b_By_putInteger 3 = .ok (.bipush 8, 2) := by decide +kernel
theorem d_By_putInteger_5 : decode b_By_putInteger 5 = .ok (.if_icmp .ge 37, 3) := by decide +kernel
theorem d_By_putInteger_8 : decode b_By_putInteger 8 = .ok (.lload_n 1, 1) := by decide +kernel
theorem d_By_putInteger_9 : decode b_By_putInteger 9 = .ok (.bipush 8, 2) := by decide +kernel
theorem d_By_putInteger_11 : decode b_By_putInteger 11 = .ok (.iload_n 3, 1) := by decide +kernel
theorem d_By_putInteger_12 : decode b_By_putInteger 12 = .ok (.imul, 1) := by decide +kernel
theorem d_By_putInteger_13 : decode b_By_putInteger 13 = .ok (.iconst 1, 1) := by decide +kernel
theorem d_By_putInteger_14 : decode b_By_putInteger 14 = .ok (.isub, 1) := by decide +kernel
theorem d_By_putInteger_15 : decode b_By_putInteger 15 = .ok (.lshr, 1) := by decide +kernel
theorem d_By_putInteger_16 : decode b_By_putInteger 16 = .ok (.lconst 0, 1) := by decide +kernel
theorem d_By_putInteger_17 : decode b_By_putInteger 17 = .ok (.lcmp, 1) := by decide +kernel
theorem d_By_putInteger_18 : decode b_By_putInteger 18 = .ok (.ifCond .eq 24, 3) := by decide +kernel
theorem d_By_putInteger_21 : decode b_By_putInteger 21 = .ok (.lload_n 1, 1) := by decide +kernel
theorem d_By_putInteger_22 : decode b_By_putInteger 22 = .ok (.bipush 8, 2) := by decide +kernel
theorem d_By_putInteger_24 : decode b_By_putInteger 24 = .ok (.iload_n 3, 1) := by decide +kernel
theorem d_By_putInteger_25 : decode b_By_putInteger 25 = .ok (.imul, 1) := by decide +kernel
theorem d_By_putInteger_26 : decode b_By_putInteger 26 = .ok (.iconst 1, 1) := by decide +kernel
theorem d_By_putInteger_27 : decode b_By_putInteger 27 = .ok (.isub, 1) := by decide +kernel
theorem d_By_putInteger_28 : decode b_By_putInteger 28 = .ok (.lshr, 1) := by decide +kernel
theorem d_By_putInteger_29 : decode b_By_putInteger 29 = .ok (.ldc2_w 53, 3) := by decide +kernel
theorem cl_By_53 : Cond.constantLong R_By 53 (-1) ∈ lw_tg := in_t 1247 (by decide +kernel)
theorem d_By_putInteger_32 : decode b_By_putInteger 32 = .ok (.lcmp, 1) := by decide +kernel
theorem d_By_putInteger_33 : decode b_By_putInteger 33 = .ok (.ifCond .eq 9, 3) := by decide +kernel
theorem d_By_putInteger_36 : decode b_By_putInteger 36 = .ok (.iinc 3 1, 3) := by decide +kernel
theorem d_By_putInteger_39 : decode b_By_putInteger 39 = .ok (.goto (-37), 3) := by decide +kernel
theorem d_By_putInteger_42 : decode b_By_putInteger 42 = .ok (.aload_n 0, 1) := by decide +kernel
theorem d_By_putInteger_43 : decode b_By_putInteger 43 = .ok (.iconst 2, 1) := by decide +kernel
theorem d_By_putInteger_44 : decode b_By_putInteger 44 = .ok (.invokevirtual 25, 3) := by decide +kernel
theorem d_By_putInteger_47 : decode b_By_putInteger 47 = .ok (.aload_n 0, 1) := by decide +kernel
theorem d_By_putInteger_48 : decode b_By_putInteger 48 = .ok (.iload_n 3, 1) := by decide +kernel
theorem d_By_putInteger_49 : decode b_By_putInteger 49 = .ok (.invokevirtual 25, 3) := by decide +kernel
theorem d_By_putInteger_52 : decode b_By_putInteger 52 = .ok (.iload_n 3, 1) := by decide +kernel
theorem d_By_putInteger_53 : decode b_By_putInteger 53 = .ok (.iconst 1, 1) := by decide +kernel
theorem d_By_putInteger_54 : decode b_By_putInteger 54 = .ok (.isub, 1) := by decide +kernel
theorem d_By_putInteger_55 : decode b_By_putInteger 55 = .ok (.istore 4, 2) := by decide +kernel
theorem d_By_putInteger_57 : decode b_By_putInteger 57 = .ok (.iload 4, 2) := by decide +kernel
theorem d_By_putInteger_59 : decode b_By_putInteger 59 = .ok (.ifCond .lt 21, 3) := by decide +kernel
theorem d_By_putInteger_62 : decode b_By_putInteger 62 = .ok (.aload_n 0, 1) := by decide +kernel
theorem d_By_putInteger_63 : decode b_By_putInteger 63 = .ok (.lload_n 1, 1) := by decide +kernel
theorem d_By_putInteger_64 : decode b_By_putInteger 64 = .ok (.bipush 8, 2) := by decide +kernel
theorem d_By_putInteger_66 : decode b_By_putInteger 66 = .ok (.iload 4, 2) := by decide +kernel
theorem d_By_putInteger_68 : decode b_By_putInteger 68 = .ok (.imul, 1) := by decide +kernel
theorem d_By_putInteger_69 : decode b_By_putInteger 69 = .ok (.lshr, 1) := by decide +kernel
theorem d_By_putInteger_70 : decode b_By_putInteger 70 = .ok (.l2i, 1) := by decide +kernel
theorem d_By_putInteger_71 : decode b_By_putInteger 71 = .ok (.invokevirtual 25, 3) := by decide +kernel
theorem d_By_putInteger_74 : decode b_By_putInteger 74 = .ok (.iinc 4 (-1), 3) := by decide +kernel
theorem d_By_putInteger_77 : decode b_By_putInteger 77 = .ok (.goto (-20), 3) := by decide +kernel
theorem d_By_putInteger_80 : decode b_By_putInteger 80 = .ok (.return_, 1) := by decide +kernel
abbrev b_By_putNumber : ByteArray := prog_4_method_13_code
def y_By_putNumber : MethodName := ⟨R_By, "putNumber", "(IJ)V"⟩
abbrev k_By_putNumber : Cond := .code y_By_putNumber b_By_putNumber 5 none
theorem ki_By_putNumber : k_By_putNumber ∈ lw_tg := in_t 1238 (by decide +kernel)
theorem ks_By_putNumber : Cond.instanceMethod y_By_putNumber ∈ lw_tg := in_t 1236 (by decide +kernel)
theorem kx_By_putNumber : Cond.selects R_By y_By_putNumber y_By_putNumber ∈ lw_tg := in_t 1237 (by decide +kernel)
theorem kl_Ce_By_putNumber : Cond.methodLink R_Ce 271 y_By_putNumber ∈ lw_tg := in_t 1235 (by decide +kernel)
theorem kl_By_By_putNumber : Cond.methodLink R_By 81 y_By_putNumber ∈ lw_tg := in_t 1296 (by decide +kernel)
theorem kl_Va_By_putNumber : Cond.methodLink R_Va 173 y_By_putNumber ∈ lw_tg := in_t 1325 (by decide +kernel)
theorem kl_Ag_By_putNumber : Cond.methodLink R_Ag 165 y_By_putNumber ∈ lw_tg := in_t 1437 (by decide +kernel)
theorem kl_So_By_putNumber : Cond.methodLink R_So 104 y_By_putNumber ∈ lw_tg := in_t 1597 (by decide +kernel)
theorem hd_By_putNumber : y_By_putNumber.cls = R_By ∧ y_By_putNumber.cls ≠ "java/lang/invoke/MethodHandle" ∧ y_By_putNumber.cls ≠ "java/lang/invoke/VarHandle" ∧ (parseMethodDescriptor y_By_putNumber.desc).map (fun d => d.parameters.length) = some 2 := by decide +kernel
theorem d_By_putNumber_0 : decode b_By_putNumber 0 = .ok (.aload_n 0, 1) := by decide +kernel
theorem d_By_putNumber_1 : decode b_By_putNumber 1 = .ok (.iload_n 1, 1) := by decide +kernel
theorem d_By_putNumber_2 : decode b_By_putNumber 2 = .ok (.invokevirtual 46, 3) := by decide +kernel
theorem d_By_putNumber_5 : decode b_By_putNumber 5 = .ok (.istore 4, 2) := by decide +kernel
theorem d_By_putNumber_7 : decode b_By_putNumber 7 = .ok (.aload_n 0, 1) := by decide +kernel
theorem d_By_putNumber_8 : decode b_By_putNumber 8 = .ok (.lload_n 2, 1) := by decide +kernel
theorem d_By_putNumber_9 : decode b_By_putNumber 9 = .ok (.invokevirtual 49, 3) := by decide +kernel
theorem d_By_putNumber_12 : decode b_By_putNumber 12 = .ok (.aload_n 0, 1) := by decide +kernel
theorem d_By_putNumber_13 : decode b_By_putNumber 13 = .ok (.iload 4, 2) := by decide +kernel
theorem d_By_putNumber_15 : decode b_By_putNumber 15 = .ok (.invokevirtual 43, 3) := by decide +kernel
theorem d_By_putNumber_18 : decode b_By_putNumber 18 = .ok (.return_, 1) := by decide +kernel
set_option maxHeartbeats 4000000 in
set_option maxRecDepth 100000 in
theorem c_By_putInteger (l : Launch) (D : va_G) (E : cE) (L : List Nat) (f : pF) (sz : Nat) (v : Int64) (b r N n : Nat) (g : Nat → Int32) (hb : b ∈ L) (eb : f b = .inr (3, [.ref r, .int (nI n)])) (hr0 : r ∈ L) (er : f r = .inl (E.1, N, .inl g)) (hn : n ≤ N) (hN : N < 100000) (hg : fB g) : Met l y_By_putInteger (k_By_putInteger :: lw_tg) (mR 1 21) (va_Pc [.ref b, .long v] (cPre D E L f sz)) (va_Qv (fun (u : cU) => u.1 = L ∧ (∀ x, x ≠ b → x ≠ r → u.2 x = f x) ∧ ∃ (n2 : Nat) (g2 : Nat → Int32), n2 ≤ N ∧ fB g2 ∧ n ≤ n2 ∧ n2 ≤ n + 10 ∧ u.2 b = .inr (3, [.ref r, .int (nI n2)]) ∧ u.2 r = .inl (E.1, N, .inl g2)) (cPost D E (pA L sz)) (pA L sz)) 0 0 (pA L sz) := by
  refine c_enter (own := R_By) (by decide) rfl (Nat.le_of_ble_eq_true rfl) ⟨rfl, rfl⟩ (fun p e s m below meth c ls AV QQ H locs hQQ X Y hA hin hr hlk hml hl => ?_)
  have hl : lv_has ls 5 [(0, .ref b), (1, .long v)] := hl
  refine lv_iconst (v := (nI 1)) X.1 X.2.1 d_By_putInteger_0 (by decide) ?_
  refine lv_istore_n (lv' := [(3, .int (nI 1)), (0, .ref b), (1, .long v)]) X.1 X.2.1 d_By_putInteger_1 rfl hl (by decide) rfl (fun ls hl => ?_)
  have ct1 : ∀ (c1 : Nat) (H : Heap) (locs : List Loc) (ls : Array Slot), (1 ≤ c1) → (c1 ≤ 8) → pH D cCl (pA L sz) s.heap L f H locs → lv_has ls 5 [(3, .int (nI c1)), (0, .ref b), (1, .long v)] → W p l e (mR 1 21) s m AV below meth c H locs 0 0 QQ (F0 m 42 ls []) := by
    intro c1 H locs ls hc2 hc3 Y hl
    refine lv_aload_n X.1 X.2.1 d_By_putInteger_42 rfl (lv_at hl 1 rfl) ?_
    refine lv_iconst (v := (nI 2)) X.1 X.2.1 d_By_putInteger_43 (by decide) ?_
    refine c_callv (As := [.int (nI 2)]) (rest := []) (n := 1) X Y hA hml hl.1 (c_By_put l D E L f H.size (nI 2) b r (N) (n) g hb eb hr0 er (by omega) (by omega) hg) hb eb rfl kl_By_By_put ks_By_put kx_By_put ki_By_put ini_By ⟨rfl, rfl⟩ hd_By_put ⟨by decide, by decide⟩ rfl (Nat.le_of_ble_eq_true rfl) d_By_putInteger_44 ⟨Nat.le_refl _, Nat.le_refl _⟩ (fun u H locs hp Y => ?_)
    obtain ⟨L5, f4⟩ := u
    obtain ⟨eL16, hF6, n7, g8, h10, h11, h12, h13, e14, e15⟩ := hp
    dsimp only at eL16 hF6 e14 e15 Y
    rw [eL16] at Y
    have hF18 : ∀ x, x ≠ b → x ≠ r → f4 x = f x := fun x h0 h1 => (hF6 x h0 h1).trans rfl
    refine lv_aload_n X.1 X.2.1 d_By_putInteger_47 rfl (lv_at hl 1 rfl) ?_
    refine lv_iload_n X.1 X.2.1 d_By_putInteger_48 rfl (lv_at hl 0 rfl) ?_
    refine c_callv (As := [.int (nI c1)]) (rest := []) (n := 1) X Y hA hml hl.1 (c_By_put l D E L f4 H.size (nI c1) b r (N) (n7) g8 hb e14 hr0 e15 (by omega) (by omega) h11) hb e14 rfl kl_By_By_put ks_By_put kx_By_put ki_By_put ini_By ⟨rfl, rfl⟩ hd_By_put ⟨by decide, by decide⟩ rfl (Nat.le_of_ble_eq_true rfl) d_By_putInteger_49 ⟨Nat.le_refl _, Nat.le_refl _⟩ (fun u H locs hp Y => ?_)
    obtain ⟨L20, f19⟩ := u
    obtain ⟨eL31, hF21, n22, g23, h25, h26, h27, h28, e29, e30⟩ := hp
    dsimp only at eL31 hF21 e29 e30 Y
    rw [eL31] at Y
    have hF33 : ∀ x, x ≠ b → x ≠ r → f19 x = f x := fun x h0 h1 => (hF21 x h0 h1).trans (hF18 x h0 h1)
    refine lv_iload_n X.1 X.2.1 d_By_putInteger_52 rfl (lv_at hl 0 rfl) ?_
    refine lv_iconst (v := (nI 1)) X.1 X.2.1 d_By_putInteger_53 (by decide) ?_
    refine lv_isub X.1 X.2.1 d_By_putInteger_54 ?_
    refine t_eq (y := nI (c1 - (1))) (pk_sub (by omega)) ?_
    refine lv_istore (lv' := [(4, .int (nI (c1 - (1)))), (3, .int (nI c1)), (0, .ref b), (1, .long v)]) X.1 X.2.1 d_By_putInteger_55 hl (by decide) rfl (fun ls hl => ?_)
    have lp34 : ∀ (n35 k n40 : Nat) (g42 : Nat → Int32) (f37 : pF) (H : Heap) (locs : List Loc) (ls : Array Slot), k ≤ n35 → (k ≤ 7) → ((n40) ≤ N) → (n ≤ (n40)) → ((n40) + k + 1 ≤ n + 10) → fB g42 → f37 b = .inr (3, [.ref r, .int (nI n40)]) → f37 r = .inl (E.1, N, .inl g42) → (∀ x, x ≠ b → x ≠ r → f37 x = f x) → pH D cCl (pA L sz) s.heap L f37 H locs → lv_has ls 5 [(4, .int (nI k)), (0, .ref b), (1, .long v)] → W p l e (mR 1 21) s m AV below meth c H locs 0 0 QQ (F0 m 57 ls []) := by
      intro n35
      induction n35 with
      | zero =>
        intro k n40 g42 f37 H locs ls hm48 hc44 hc45 hc46 hc47 hg43 e39 e41 hF38 Y hl
        refine lv_iload X.1 X.2.1 d_By_putInteger_57 (lv_at hl 0 rfl) ?_
        refine lv_if_lt (tgt := 80) X.1 X.2.1 d_By_putInteger_59 (by decide) (fun c49 => ?_) (fun c49 => ?_)
        · skip
          rw [← nI_0] at c49
          rw [nI_ltI (by omega) (by omega)] at c49
          exact c_retv hQQ X Y hr hlk ⟨rfl, hF38, n40, g42, (by omega), hg43, (by omega), (by omega), e39, e41⟩ d_By_putInteger_80
        · skip
          rw [← nI_0] at c49
          rw [nI_ltI (by omega) (by omega)] at c49
          refine lv_aload_n X.1 X.2.1 d_By_putInteger_62 rfl (lv_at hl 1 rfl) ?_
          refine lv_lload_n X.1 X.2.1 d_By_putInteger_63 rfl (lv_at hl 2 rfl) ?_
          refine lv_bipush (v := (nI 8)) X.1 X.2.1 d_By_putInteger_64 (by decide) ?_
          refine lv_iload X.1 X.2.1 d_By_putInteger_66 (lv_at hl 0 rfl) ?_
          refine lv_imul X.1 X.2.1 d_By_putInteger_68 ?_
          refine t_eq (y := nI ((8) * (k))) (pk_mul _ _) ?_
          obtain ⟨v50, ev50⟩ : ∃ z : Int64, (v : Int64) >>> (((nI ((8) * (k))) : Int32).toInt64 &&& 63) = z := ⟨_, rfl⟩
          refine lv_lshr (v := v50) X.1 X.2.1 d_By_putInteger_69 ev50 ?_
          obtain ⟨v51, ev51⟩ : ∃ z : Int32, (v50 : Int64).toInt32 = z := ⟨_, rfl⟩
          refine lv_l2i (v := v51) X.1 X.2.1 d_By_putInteger_70 ev51 ?_
          refine c_callv (As := [.int v51]) (rest := []) (n := 1) X Y hA hml hl.1 (c_By_put l D E L f37 H.size v51 b r (N) (n40) g42 hb e39 hr0 e41 (by omega) (by omega) hg43) hb e39 rfl kl_By_By_put ks_By_put kx_By_put ki_By_put ini_By ⟨rfl, rfl⟩ hd_By_put ⟨by decide, by decide⟩ rfl (Nat.le_of_ble_eq_true rfl) d_By_putInteger_71 ⟨Nat.le_refl _, Nat.le_refl _⟩ (fun u H locs hp Y => ?_)
          obtain ⟨L53, f52⟩ := u
          obtain ⟨eL64, hF54, n55, g56, h58, h59, h60, h61, e62, e63⟩ := hp
          dsimp only at eL64 hF54 e62 e63 Y
          rw [eL64] at Y
          have hF66 : ∀ x, x ≠ b → x ≠ r → f52 x = f x := fun x h0 h1 => (hF54 x h0 h1).trans (hF38 x h0 h1)
          rcases Nat.eq_zero_or_pos (k) with hz | hz
          · skip
            refine lv_iinc (v := (-1)) (lv' := [(4, .int (-1)), (0, .ref b), (1, .long v)]) X.1 X.2.1 d_By_putInteger_74 hl (k := 0) rfl (by rw [hz]; decide) (by decide) rfl (fun ls hl => ?_)
            refine lv_goto (tgt := 57) X.1 X.2.1 d_By_putInteger_77 (by decide) ?_
            refine lv_iload X.1 X.2.1 d_By_putInteger_57 (lv_at hl 0 rfl) ?_
            refine lv_if_lt (tgt := 80) X.1 X.2.1 d_By_putInteger_59 (by decide) (fun c67 => ?_) (fun c67 => absurd ?_ c67)
            rotate_left
            · decide
            exact c_retv hQQ X Y hr hlk ⟨rfl, hF66, n55, g56, (by omega), h59, (by omega), (by omega), e62, e63⟩ d_By_putInteger_80
          · skip
            refine lv_iinc (v := (nI (k - 1))) (lv' := [(4, .int (nI (k - 1))), (0, .ref b), (1, .long v)]) X.1 X.2.1 d_By_putInteger_74 hl (k := 0) rfl (sb_m1 (by omega)) (by decide) rfl (fun ls hl => ?_)
            refine lv_goto (tgt := 57) X.1 X.2.1 d_By_putInteger_77 (by decide) ?_
            exact False.elim (by omega)
      | succ n35 ih36 =>
        intro k n40 g42 f37 H locs ls hm48 hc44 hc45 hc46 hc47 hg43 e39 e41 hF38 Y hl
        refine lv_iload X.1 X.2.1 d_By_putInteger_57 (lv_at hl 0 rfl) ?_
        refine lv_if_lt (tgt := 80) X.1 X.2.1 d_By_putInteger_59 (by decide) (fun c68 => ?_) (fun c68 => ?_)
        · skip
          rw [← nI_0] at c68
          rw [nI_ltI (by omega) (by omega)] at c68
          exact c_retv hQQ X Y hr hlk ⟨rfl, hF38, n40, g42, (by omega), hg43, (by omega), (by omega), e39, e41⟩ d_By_putInteger_80
        · skip
          rw [← nI_0] at c68
          rw [nI_ltI (by omega) (by omega)] at c68
          refine lv_aload_n X.1 X.2.1 d_By_putInteger_62 rfl (lv_at hl 1 rfl) ?_
          refine lv_lload_n X.1 X.2.1 d_By_putInteger_63 rfl (lv_at hl 2 rfl) ?_
          refine lv_bipush (v := (nI 8)) X.1 X.2.1 d_By_putInteger_64 (by decide) ?_
          refine lv_iload X.1 X.2.1 d_By_putInteger_66 (lv_at hl 0 rfl) ?_
          refine lv_imul X.1 X.2.1 d_By_putInteger_68 ?_
          refine t_eq (y := nI ((8) * (k))) (pk_mul _ _) ?_
          obtain ⟨v69, ev69⟩ : ∃ z : Int64, (v : Int64) >>> (((nI ((8) * (k))) : Int32).toInt64 &&& 63) = z := ⟨_, rfl⟩
          refine lv_lshr (v := v69) X.1 X.2.1 d_By_putInteger_69 ev69 ?_
          obtain ⟨v70, ev70⟩ : ∃ z : Int32, (v69 : Int64).toInt32 = z := ⟨_, rfl⟩
          refine lv_l2i (v := v70) X.1 X.2.1 d_By_putInteger_70 ev70 ?_
          refine c_callv (As := [.int v70]) (rest := []) (n := 1) X Y hA hml hl.1 (c_By_put l D E L f37 H.size v70 b r (N) (n40) g42 hb e39 hr0 e41 (by omega) (by omega) hg43) hb e39 rfl kl_By_By_put ks_By_put kx_By_put ki_By_put ini_By ⟨rfl, rfl⟩ hd_By_put ⟨by decide, by decide⟩ rfl (Nat.le_of_ble_eq_true rfl) d_By_putInteger_71 ⟨Nat.le_refl _, Nat.le_refl _⟩ (fun u H locs hp Y => ?_)
          obtain ⟨L72, f71⟩ := u
          obtain ⟨eL83, hF73, n74, g75, h77, h78, h79, h80, e81, e82⟩ := hp
          dsimp only at eL83 hF73 e81 e82 Y
          rw [eL83] at Y
          have hF85 : ∀ x, x ≠ b → x ≠ r → f71 x = f x := fun x h0 h1 => (hF73 x h0 h1).trans (hF38 x h0 h1)
          rcases Nat.eq_zero_or_pos (k) with hz | hz
          · skip
            refine lv_iinc (v := (-1)) (lv' := [(4, .int (-1)), (0, .ref b), (1, .long v)]) X.1 X.2.1 d_By_putInteger_74 hl (k := 0) rfl (by rw [hz]; decide) (by decide) rfl (fun ls hl => ?_)
            refine lv_goto (tgt := 57) X.1 X.2.1 d_By_putInteger_77 (by decide) ?_
            refine lv_iload X.1 X.2.1 d_By_putInteger_57 (lv_at hl 0 rfl) ?_
            refine lv_if_lt (tgt := 80) X.1 X.2.1 d_By_putInteger_59 (by decide) (fun c86 => ?_) (fun c86 => absurd ?_ c86)
            rotate_left
            · decide
            exact c_retv hQQ X Y hr hlk ⟨rfl, hF85, n74, g75, (by omega), h78, (by omega), (by omega), e81, e82⟩ d_By_putInteger_80
          · skip
            refine lv_iinc (v := (nI (k - 1))) (lv' := [(4, .int (nI (k - 1))), (0, .ref b), (1, .long v)]) X.1 X.2.1 d_By_putInteger_74 hl (k := 0) rfl (sb_m1 (by omega)) (by decide) rfl (fun ls hl => ?_)
            refine lv_goto (tgt := 57) X.1 X.2.1 d_By_putInteger_77 (by decide) ?_
            exact ih36  (k - 1) (n74)   g75 f71 _ _ _ (by omega) (by omega) (by omega) (by omega) (by omega) h78 e81 e82 hF85 Y (lv_sub hl [0, 1, 2] rfl)
    exact lp34 (7) (c1 - (1)) (n22)   g23 f19 _ _ _ (by omega) (by omega) (by omega) (by omega) (by omega) h26 e29 e30 hF33 Y (lv_sub hl [0, 2, 3] rfl)
  have lp87 : ∀ (n88 c1 : Nat) (H : Heap) (locs : List Loc) (ls : Array Slot), 8 - c1 ≤ n88 → (1 ≤ c1) → (c1 ≤ 8) → pH D cCl (pA L sz) s.heap L f H locs → lv_has ls 5 [(3, .int (nI c1)), (0, .ref b), (1, .long v)] → W p l e (mR 1 21) s m AV below meth c H locs 0 0 QQ (F0 m 2 ls []) := by
    intro n88
    induction n88 with
    | zero =>
      intro c1 H locs ls hm90 hc91 hc92 Y hl
      refine lv_iload_n X.1 X.2.1 d_By_putInteger_2 rfl (lv_at hl 0 rfl) ?_
      refine lv_bipush (v := (nI 8)) X.1 X.2.1 d_By_putInteger_3 (by decide) ?_
      refine lv_icmp_ge (tgt := 42) X.1 X.2.1 d_By_putInteger_5 (by decide) (fun c93 => ?_) (fun c93 => ?_)
      · skip
        rw [nI_leI (by omega) (by omega)] at c93
        exact ct1 (c1) _ _ _ (by omega) (by omega) Y (lv_sub hl [0, 1, 2] rfl)
      · skip
        rw [nI_leI (by omega) (by omega)] at c93
        refine lv_lload_n X.1 X.2.1 d_By_putInteger_8 rfl (lv_at hl 2 rfl) ?_
        refine lv_bipush (v := (nI 8)) X.1 X.2.1 d_By_putInteger_9 (by decide) ?_
        refine lv_iload_n X.1 X.2.1 d_By_putInteger_11 rfl (lv_at hl 0 rfl) ?_
        refine lv_imul X.1 X.2.1 d_By_putInteger_12 ?_
        refine t_eq (y := nI ((8) * (c1))) (pk_mul _ _) ?_
        refine lv_iconst (v := (nI 1)) X.1 X.2.1 d_By_putInteger_13 (by decide) ?_
        refine lv_isub X.1 X.2.1 d_By_putInteger_14 ?_
        refine t_eq (y := nI ((8) * (c1) - (1))) (pk_sub (by omega)) ?_
        obtain ⟨v94, ev94⟩ : ∃ z : Int64, (v : Int64) >>> (((nI ((8) * (c1) - (1))) : Int32).toInt64 &&& 63) = z := ⟨_, rfl⟩
        refine lv_lshr (v := v94) X.1 X.2.1 d_By_putInteger_15 ev94 ?_
        refine lv_lconst (v := 0) X.1 X.2.1 d_By_putInteger_16 rfl ?_
        refine W.lcmp X.1 X.2.1 d_By_putInteger_17 ?_
        refine t_any (fun v95 => ?_)
        refine lv_if_eq (tgt := 42) X.1 X.2.1 d_By_putInteger_18 (by decide) (fun c96 => ?_) (fun c96 => ?_)
        · skip
          exact ct1 (c1) _ _ _ (by omega) (by omega) Y (lv_sub hl [0, 1, 2] rfl)
        · skip
          refine lv_lload_n X.1 X.2.1 d_By_putInteger_21 rfl (lv_at hl 2 rfl) ?_
          refine lv_bipush (v := (nI 8)) X.1 X.2.1 d_By_putInteger_22 (by decide) ?_
          refine lv_iload_n X.1 X.2.1 d_By_putInteger_24 rfl (lv_at hl 0 rfl) ?_
          refine lv_imul X.1 X.2.1 d_By_putInteger_25 ?_
          refine t_eq (y := nI ((8) * (c1))) (pk_mul _ _) ?_
          refine lv_iconst (v := (nI 1)) X.1 X.2.1 d_By_putInteger_26 (by decide) ?_
          refine lv_isub X.1 X.2.1 d_By_putInteger_27 ?_
          refine t_eq (y := nI ((8) * (c1) - (1))) (pk_sub (by omega)) ?_
          obtain ⟨v97, ev97⟩ : ∃ z : Int64, (v : Int64) >>> (((nI ((8) * (c1) - (1))) : Int32).toInt64 &&& 63) = z := ⟨_, rfl⟩
          refine lv_lshr (v := v97) X.1 X.2.1 d_By_putInteger_28 ev97 ?_
          refine lv_ldc2 (v := (-1)) X.1 X.2.1 X.2.2.2.1 (X.2.2.1 _ cl_By_53) d_By_putInteger_29 ?_
          refine W.lcmp X.1 X.2.1 d_By_putInteger_32 ?_
          refine t_any (fun v98 => ?_)
          refine lv_if_eq (tgt := 42) X.1 X.2.1 d_By_putInteger_33 (by decide) (fun c99 => ?_) (fun c99 => ?_)
          · skip
            exact ct1 (c1) _ _ _ (by omega) (by omega) Y (lv_sub hl [0, 1, 2] rfl)
          · skip
            refine lv_iinc (v := (nI (c1 + 1))) (lv' := [(3, .int (nI (c1 + 1))), (0, .ref b), (1, .long v)]) X.1 X.2.1 d_By_putInteger_36 hl (k := 0) rfl (nI_add _ 1) (by decide) rfl (fun ls hl => ?_)
            refine lv_goto (tgt := 2) X.1 X.2.1 d_By_putInteger_39 (by decide) ?_
            exact False.elim (by omega)
    | succ n88 ih89 =>
      intro c1 H locs ls hm90 hc91 hc92 Y hl
      refine lv_iload_n X.1 X.2.1 d_By_putInteger_2 rfl (lv_at hl 0 rfl) ?_
      refine lv_bipush (v := (nI 8)) X.1 X.2.1 d_By_putInteger_3 (by decide) ?_
      refine lv_icmp_ge (tgt := 42) X.1 X.2.1 d_By_putInteger_5 (by decide) (fun c100 => ?_) (fun c100 => ?_)
      · skip
        rw [nI_leI (by omega) (by omega)] at c100
        exact ct1 (c1) _ _ _ (by omega) (by omega) Y (lv_sub hl [0, 1, 2] rfl)
      · skip
        rw [nI_leI (by omega) (by omega)] at c100
        refine lv_lload_n X.1 X.2.1 d_By_putInteger_8 rfl (lv_at hl 2 rfl) ?_
        refine lv_bipush (v := (nI 8)) X.1 X.2.1 d_By_putInteger_9 (by decide) ?_
        refine lv_iload_n X.1 X.2.1 d_By_putInteger_11 rfl (lv_at hl 0 rfl) ?_
        refine lv_imul X.1 X.2.1 d_By_putInteger_12 ?_
        refine t_eq (y := nI ((8) * (c1))) (pk_mul _ _) ?_
        refine lv_iconst (v := (nI 1)) X.1 X.2.1 d_By_putInteger_13 (by decide) ?_
        refine lv_isub X.1 X.2.1 d_By_putInteger_14 ?_
        refine t_eq (y := nI ((8) * (c1) - (1))) (pk_sub (by omega)) ?_
        obtain ⟨v101, ev101⟩ : ∃ z : Int64, (v : Int64) >>> (((nI ((8) * (c1) - (1))) : Int32).toInt64 &&& 63) = z := ⟨_, rfl⟩
        refine lv_lshr (v := v101) X.1 X.2.1 d_By_putInteger_15 ev101 ?_
        refine lv_lconst (v := 0) X.1 X.2.1 d_By_putInteger_16 rfl ?_
        refine W.lcmp X.1 X.2.1 d_By_putInteger_17 ?_
        refine t_any (fun v102 => ?_)
        refine lv_if_eq (tgt := 42) X.1 X.2.1 d_By_putInteger_18 (by decide) (fun c103 => ?_) (fun c103 => ?_)
        · skip
          exact ct1 (c1) _ _ _ (by omega) (by omega) Y (lv_sub hl [0, 1, 2] rfl)
        · skip
          refine lv_lload_n X.1 X.2.1 d_By_putInteger_21 rfl (lv_at hl 2 rfl) ?_
          refine lv_bipush (v := (nI 8)) X.1 X.2.1 d_By_putInteger_22 (by decide) ?_
          refine lv_iload_n X.1 X.2.1 d_By_putInteger_24 rfl (lv_at hl 0 rfl) ?_
          refine lv_imul X.1 X.2.1 d_By_putInteger_25 ?_
          refine t_eq (y := nI ((8) * (c1))) (pk_mul _ _) ?_
          refine lv_iconst (v := (nI 1)) X.1 X.2.1 d_By_putInteger_26 (by decide) ?_
          refine lv_isub X.1 X.2.1 d_By_putInteger_27 ?_
          refine t_eq (y := nI ((8) * (c1) - (1))) (pk_sub (by omega)) ?_
          obtain ⟨v104, ev104⟩ : ∃ z : Int64, (v : Int64) >>> (((nI ((8) * (c1) - (1))) : Int32).toInt64 &&& 63) = z := ⟨_, rfl⟩
          refine lv_lshr (v := v104) X.1 X.2.1 d_By_putInteger_28 ev104 ?_
          refine lv_ldc2 (v := (-1)) X.1 X.2.1 X.2.2.2.1 (X.2.2.1 _ cl_By_53) d_By_putInteger_29 ?_
          refine W.lcmp X.1 X.2.1 d_By_putInteger_32 ?_
          refine t_any (fun v105 => ?_)
          refine lv_if_eq (tgt := 42) X.1 X.2.1 d_By_putInteger_33 (by decide) (fun c106 => ?_) (fun c106 => ?_)
          · skip
            exact ct1 (c1) _ _ _ (by omega) (by omega) Y (lv_sub hl [0, 1, 2] rfl)
          · skip
            refine lv_iinc (v := (nI (c1 + 1))) (lv' := [(3, .int (nI (c1 + 1))), (0, .ref b), (1, .long v)]) X.1 X.2.1 d_By_putInteger_36 hl (k := 0) rfl (nI_add _ 1) (by decide) rfl (fun ls hl => ?_)
            refine lv_goto (tgt := 2) X.1 X.2.1 d_By_putInteger_39 (by decide) ?_
            exact ih89  (c1 + 1) _ _ _ (by omega) (by omega) (by omega) Y (lv_sub hl [0, 1, 2] rfl)
  exact lp87 (8) (1) _ _ _ (by omega) (by omega) (by omega) Y (lv_sub hl [0, 1, 2] rfl)
set_option maxHeartbeats 4000000 in
set_option maxRecDepth 100000 in
theorem c_By_putNumber (l : Launch) (D : va_G) (E : cE) (L : List Nat) (f : pF) (sz : Nat) (a1 : Int32) (v : Int64) (b r N n : Nat) (g : Nat → Int32) (hb : b ∈ L) (eb : f b = .inr (3, [.ref r, .int (nI n)])) (hr0 : r ∈ L) (er : f r = .inl (E.1, N, .inl g)) (hn : n ≤ N) (hN : N < 100000) (hg : fB g) : Met l y_By_putNumber (k_By_putNumber :: lw_tg) (mR 2 83) (va_Pc [.ref b, .int a1, .long v] (cPre D E L f sz)) (va_Qv (fun (u : cU) => u.1 = L ∧ (∀ x, x ≠ b → x ≠ r → u.2 x = f x) ∧ ∃ (n2 : Nat) (g2 : Nat → Int32), n2 ≤ N ∧ fB g2 ∧ n ≤ n2 ∧ n2 ≤ n + 14 ∧ u.2 b = .inr (3, [.ref r, .int (nI n2)]) ∧ u.2 r = .inl (E.1, N, .inl g2)) (cPost D E (pA L sz)) (pA L sz)) 0 0 (pA L sz) := by
  refine c_enter (own := R_By) (by decide) rfl (Nat.le_of_ble_eq_true rfl) ⟨rfl, rfl⟩ (fun p e s m below meth c ls AV QQ H locs hQQ X Y hA hin hr hlk hml hl => ?_)
  have hl : lv_has ls 5 [(0, .ref b), (1, .int a1), (2, .long v)] := hl
  refine lv_aload_n X.1 X.2.1 d_By_putNumber_0 rfl (lv_at hl 0 rfl) ?_
  refine lv_iload_n X.1 X.2.1 d_By_putNumber_1 rfl (lv_at hl 1 rfl) ?_
  refine c_calli (As := [.int a1]) (rest := []) (n := 1) X Y hA hml hl.1 (c_By_openField l D E L f H.size a1 b r (N) (n) g hb eb hr0 er (by omega) (by omega) hg) hb eb rfl kl_By_By_openField ks_By_openField kx_By_openField ki_By_openField ini_By ⟨rfl, rfl⟩ hd_By_openField ⟨by decide, by decide⟩ rfl (Nat.le_of_ble_eq_true rfl) d_By_putNumber_2 ⟨Nat.le_refl _, Nat.le_refl _⟩ (fun r6 u H locs hp Y => ?_)
  obtain ⟨L2, f1⟩ := u
  obtain ⟨eL13, hF3, n4, g5, h7, h8, h9, h10, e11, e12, pr14⟩ := hp
  dsimp only at eL13 hF3 e11 e12 Y pr14
  rw [eL13] at Y
  have hF15 : ∀ x, x ≠ b → x ≠ r → f1 x = f x := fun x h0 h1 => (hF3 x h0 h1).trans rfl
  refine lv_istore (lv' := [(4, .int r6), (0, .ref b), (1, .int a1), (2, .long v)]) X.1 X.2.1 d_By_putNumber_5 hl (by decide) rfl (fun ls hl => ?_)
  refine lv_aload_n X.1 X.2.1 d_By_putNumber_7 rfl (lv_at hl 1 rfl) ?_
  refine lv_lload_n X.1 X.2.1 d_By_putNumber_8 rfl (lv_at hl 3 rfl) ?_
  refine c_callv (As := [.long v]) (rest := []) (n := 1) X Y hA hml hl.1 (c_By_putInteger l D E L f1 H.size v b r (N) (n4) g5 hb e11 hr0 e12 (by omega) (by omega) h8) hb e11 rfl kl_By_By_putInteger ks_By_putInteger kx_By_putInteger ki_By_putInteger ini_By ⟨rfl, rfl⟩ hd_By_putInteger ⟨by decide, by decide⟩ rfl (Nat.le_of_ble_eq_true rfl) d_By_putNumber_9 ⟨Nat.le_refl _, Nat.le_refl _⟩ (fun u H locs hp Y => ?_)
  obtain ⟨L17, f16⟩ := u
  obtain ⟨eL28, hF18, n19, g20, h22, h23, h24, h25, e26, e27⟩ := hp
  dsimp only at eL28 hF18 e26 e27 Y
  rw [eL28] at Y
  have hF30 : ∀ x, x ≠ b → x ≠ r → f16 x = f x := fun x h0 h1 => (hF18 x h0 h1).trans (hF15 x h0 h1)
  refine lv_aload_n X.1 X.2.1 d_By_putNumber_12 rfl (lv_at hl 1 rfl) ?_
  refine lv_iload X.1 X.2.1 d_By_putNumber_13 (lv_at hl 0 rfl) ?_
  refine c_callv (As := [.int r6]) (rest := []) (n := 1) X Y hA hml hl.1 (c_By_close l D E L f16 H.size r6 b r (N) (n19) g20 hb e26 hr0 e27 (by omega) (by omega) h23) hb e26 rfl kl_By_By_close ks_By_close kx_By_close ki_By_close ini_By ⟨rfl, rfl⟩ hd_By_close ⟨by decide, by decide⟩ rfl (Nat.le_of_ble_eq_true rfl) d_By_putNumber_15 ⟨Nat.le_refl _, Nat.le_refl _⟩ (fun u H locs hp Y => ?_)
  obtain ⟨L32, f31⟩ := u
  obtain ⟨eL43, hF33, n34, g35, h37, h38, h39, h40, e41, e42⟩ := hp
  dsimp only at eL43 hF33 e41 e42 Y
  rw [eL43] at Y
  have hF45 : ∀ x, x ≠ b → x ≠ r → f31 x = f x := fun x h0 h1 => (hF33 x h0 h1).trans (hF30 x h0 h1)
  exact c_retv hQQ X Y hr hlk ⟨rfl, hF45, n34, g35, (by omega), h38, (by omega), (by omega), e41, e42⟩ d_By_putNumber_18
