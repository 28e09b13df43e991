theorem FitP_leaf {g : Int → Int} {s kind a t : Int} (h1 : StR g s a t t) (k1 : kind ≠ 97) (k2 : kind ≠ 65) (k3 : kind ≠ 362) (k4 : kind ≠ 364) : FitP g s kind a t := ⟨h1, fun h => absurd h k1, fun h => absurd h k2, fun h => h.elim (fun h => absurd h k3) (fun h => absurd h k4)⟩
theorem FitP_of {g : Int → Int} {s kind a t b tag : Int} (h1 : StR g s a t t) (h2 : BdR g s a b) (h3 : InP g s kind b t) (h4 : (256 ≤ kind → tag = kind - 256) ∧ (kind < 256 → kind ≠ 107 → tag = 48)) (h5 : g a = tag) : FitP g s kind a t := by
  refine ⟨h1, fun h => ⟨by omega, b, ?_⟩, fun h => ⟨b, ?_⟩, fun h => ⟨by omega, b, ?_⟩⟩
  · exact (h3.1 h).elim (fun j hj => ⟨j, h2, hj⟩)
  · exact (h3.2.1 h).elim (fun j hj => ⟨j, h2, hj⟩)
  · obtain ⟨b2, j, q1, q2, q3⟩ := h3.2.2 h
    exact ⟨b2, j, h2, q1, q2, q3⟩
theorem RwSeg_fit {g : Int → Int} {s t : Int} (k : Nat) (a b st : Int) (h : RwSeg g s t k a b) (h1 : StR g s b t st) (h2 : 0 ≤ st) (h3 : FitP g s 97 b st) : RwSeg g s t (k + 1) a st := by
  obtain ⟨q1, bd, j, q2, q3⟩ := h3.2.1 rfl
  exact RwSeg_snoc k a b st bd h h1 h2 q1 q2 ⟨j, q3⟩
theorem lit3A {a1 : Nat} {k zs zk : Int} (h8 : a1 = 13) (h0 : 0 ≤ k) (h3 : k % 3 = 0) (hk : k + 2 < (yn a1 : Int)) (e1 : yb a1 k.toNat &&& 255 = iI zs) (e2 : yb a1 (k + 2).toNat &&& 255 = iI zk) (r1 : 0 ≤ zs) (r2 : zs ≤ 255) (r3 : 0 ≤ zk) (r4 : zk ≤ 255) (hn : zs = 51 ∨ zs = 90) : zk = 65 := by
  subst h8
  have hy : yn 13 = 12 := by decide
  rw [hy] at hk
  have q : k = 0 ∨ k = 3 ∨ k = 6 ∨ k = 9 := by omega
  have f : ∀ {x y : Int}, 0 ≤ x → x ≤ 255 → 0 ≤ y → y ≤ 255 → iI x = iI y → x = y := fun a b c d h => (iI_eq ⟨by omega, by omega⟩ ⟨by omega, by omega⟩).mp h
  rcases q with rfl | rfl | rfl | rfl
  · have := f (by decide) (by decide) r1 r2 ((show iI 49 = _ by decide).trans e1); omega
  · have := f (by decide) (by decide) r1 r2 ((show iI 50 = _ by decide).trans e1); omega
  · exact (f (by decide) (by decide) r3 r4 ((show iI 65 = _ by decide).trans e2)).symm
  · have := f (by decide) (by decide) r1 r2 ((show iI 52 = _ by decide).trans e1); omega
def C_fitsX (d : Nat) : Prop := ∀ (l : Launch) (D : va_G) (E : cE) (T : cT) (κ : tK) (L : List Nat) (f : pF) (sz : Nat) (h n0 : Nat) (k0 : κ h = (13, n0)) (x0 : n0 ≤ 12288) (a1 : Int) (l_a1 : (-2147483648) ≤ a1) (u_a1 : a1 ≤ 2147483647) (a2 : Int) (l_a2 : (-1) ≤ a2) (u_a2 : a2 ≤ 20200) (a3 : Int) (l_a3 : (-1) ≤ a3) (u_a3 : a3 ≤ 20200) (a4 : Int) (l_a4 : 0 ≤ a4) (u_a4 : a4 ≤ 21) (hw : tW E T κ L f) (sz0 : Int) (g0 : gF f h 1 = .int (iI sz0)) (g1 : 0 ≤ sz0) (g2 : sz0 ≤ (n0 : Int)) (hd : 21 ≤ a4 + d) (q0 : 0 ≤ a3 ∨ a2 < 0), Met l y_By_fits (k_By_fits :: lw_tg) (kRm (6 + 3 * d) (110 + 100 * d) 0 0) (va_Pc [.ref h, .int (iI a1), .int (iI a2), .int (iI a3), .int (iI a4)] (kPre D E T L f sz)) (va_Qi (uPi L f (fun (z : Int) => 0 ≤ z ∧ z ≤ 1 ∧ (z = 1 → FitP (rb f h) sz0 a1 a2 a3))) (cPost D E (pA L sz)) (pA L sz)) 0 0 (pA L sz)
set_option maxHeartbeats 4000000 in
set_option maxRecDepth 100000 in
theorem c_By_fitsRowX (d : Nat) (IH : C_fitsX d) (l : Launch) (D : va_G) (E : cE) (T : cT) (κ : tK) (L : List Nat) (f : pF) (sz : Nat) (h n0 : Nat) (k0 : κ h = (13, n0)) (x0 : n0 ≤ 12288) (a1 : Int) (l_a1 : (-2147483648) ≤ a1) (u_a1 : a1 ≤ 2147483647) (a2 : Int) (l_a2 : (-1) ≤ a2) (u_a2 : a2 ≤ 20200) (a3 : Int) (l_a3 : 0 ≤ a3) (u_a3 : a3 ≤ 20200) (a4 : Int) (l_a4 : 0 ≤ a4) (u_a4 : a4 ≤ 20) (hw : tW E T κ L f) (sz0 : Int) (g0 : gF f h 1 = .int (iI sz0)) (g1 : 0 ≤ sz0) (g2 : sz0 ≤ (n0 : Int)) (hd : 21 ≤ a4 + (d + 1)) : Met l y_By_fitsRow (k_By_fitsRow :: lw_tg) (kRm (7 + 3 * d) (150 + 100 * d) 0 0) (va_Pc [.ref h, .int (iI a1), .int (iI a2), .int (iI a3), .int (iI a4)] (kPre D E T L f sz)) (va_Qi (uPi L f (fun (z : Int) => 0 ≤ z ∧ z ≤ 1 ∧ (z = 1 → a1 = 97 → ∃ j : Nat, RwSeg (rb f h) sz0 a3 j a2 a3))) (cPost D E (pA L sz)) (pA L sz)) 0 0 (pA L sz) := by
  refine k_enter (own := R_By) (by decide) rfl (Nat.le_of_ble_eq_true rfl) (fun p e s m below meth c ls AV QQ H locs hQQ X Y hA hin hr hlk hml hl KS KR => ?_)
  have hl : lv_has ls 8 [(0, .ref h), (1, .int (iI a1)), (2, .int (iI a2)), (3, .int (iI a3)), (4, .int (iI a4))] := hl
  have S : tS E T (tFr κ L [] []) κ L f κ L f := tS_rf hw
  refine lv_iload_n X.1 X.2.1 d_By_fitsRow_0 rfl (lv_at hl 2 rfl) ?_
  refine lv_istore (lv' := [(5, .int (iI a2)), (0, .ref h), (1, .int (iI a1)), (2, .int (iI a2)), (3, .int (iI a3)), (4, .int (iI a4))]) X.1 X.2.1 d_By_fitsRow_1 hl (by decide) rfl (fun ls hl => ?_)
  refine lv_iconst (v := iI 0) X.1 X.2.1 d_By_fitsRow_3 (by decide) ?_
  have J104 : ∀ (n106 : Nat) (z101 : Int) (z102 : Int) (H : Heap) (locs : List Loc) (ls : Array Slot), (16 - z102).toNat = n106 → ((-1) ≤ z101) → (z101 ≤ 20200) → (0 ≤ z102) → (z102 ≤ 16) → (a1 = 97 → ∃ j : Nat, RwSeg (rb f h) sz0 a3 j a2 z101) → pH D cCl (pA L sz) s.heap L f H locs → tS E T (tFr κ L [] []) κ L f κ L f → lv_has ls 8 [(0, .ref h), (1, .int (iI a1)), (3, .int (iI a3)), (4, .int (iI a4)), (5, .int (iI z101)), (6, .int (iI z102))] → W p l e (kRm (7 + 3 * d) (150 + 100 * d) 0 0) s m AV below meth c H locs 0 0 QQ (F0 m 6 ls []) := by
    intro n106
    induction n106 using Nat.strongRecOn with
    | ind n106 ih105 =>
      intro z101 z102 H locs ls hm107 l101 u101 l102 u102 i103 Y S hl
      refine lv_iload X.1 X.2.1 d_By_fitsRow_6 (lv_at hl 5 rfl) ?_
      refine lv_bipush (v := iI 16) X.1 X.2.1 d_By_fitsRow_8 (by decide) ?_
      have J108 : ∀  (H : Heap) (locs : List Loc) (ls : Array Slot), pH D cCl (pA L sz) s.heap L f H locs → tS E T (tFr κ L [] []) κ L f κ L f → lv_has ls 8 [(3, .int (iI a3)), (5, .int (iI z101))] → W p l e (kRm (7 + 3 * d) (150 + 100 * d) 0 0) s m AV below meth c H locs 0 0 QQ (F0 m 61 ls []) := by
        intro  H locs ls  Y S hl
        refine lv_iload X.1 X.2.1 d_By_fitsRow_61 (lv_at hl 1 rfl) ?_
        refine lv_iload_n X.1 X.2.1 d_By_fitsRow_63 rfl (lv_at hl 0 rfl) ?_
        refine z_icmp_ne (tgt := 71) X.1 X.2.1 d_By_fitsRow_64 (by decide) ⟨by omega, by omega⟩ ⟨by omega, by omega⟩ (fun h112 => ?_) (fun h112 => ?_)
        · refine lv_iconst (v := iI 0) X.1 X.2.1 d_By_fitsRow_71 (by decide) ?_
          exact c_retz hQQ X Y hr hlk (iI_bool (by omega) (by omega)).1 ⟨rfl, rfl, 0, rfl, ⟨by omega, by omega, fun h9 => absurd h9 (by decide)⟩⟩ d_By_fitsRow_72
        · refine lv_iconst (v := iI 1) X.1 X.2.1 d_By_fitsRow_67 (by decide) ?_
          refine lv_goto (tgt := 72) X.1 X.2.1 d_By_fitsRow_68 (by decide) ?_
          exact c_retz hQQ X Y hr hlk (iI_bool (by omega) (by omega)).1 ⟨rfl, rfl, 1, rfl, ⟨by omega, by omega, fun h9 h8 => by have q9 := i103 h8; rw [show z101 = a3 by omega] at q9; exact q9⟩⟩ d_By_fitsRow_72
      refine z_icmp_ge (tgt := 61) X.1 X.2.1 d_By_fitsRow_10 (by decide) ⟨by omega, by omega⟩ ⟨by omega, by omega⟩ (fun h113 => ?_) (fun h113 => ?_)
      · exact J108  _ _ _  Y S (lv_sub hl [2, 4] rfl)
      · refine lv_iload X.1 X.2.1 d_By_fitsRow_13 (lv_at hl 4 rfl) ?_
        refine lv_iload_n X.1 X.2.1 d_By_fitsRow_15 rfl (lv_at hl 2 rfl) ?_
        refine z_icmp_ge (tgt := 61) X.1 X.2.1 d_By_fitsRow_16 (by decide) ⟨by omega, by omega⟩ ⟨by omega, by omega⟩ (fun h114 => ?_) (fun h114 => ?_)
        · exact J108  _ _ _  Y S (lv_sub hl [2, 4] rfl)
        · refine lv_aload_n X.1 X.2.1 d_By_fitsRow_19 rfl (lv_at hl 0 rfl) ?_
          refine lv_iload X.1 X.2.1 d_By_fitsRow_20 (lv_at hl 4 rfl) ?_
          refine lv_iload_n X.1 X.2.1 d_By_fitsRow_22 rfl (lv_at hl 2 rfl) ?_
          refine t_ui (t_runV (As := [.int (iI z101), .int (iI a3)]) (rest := []) (n := 2) X Y S k0 hml hl.1 (c_By_stopX l D E T κ L f H.size h n0 k0 (by omega) z101 (by omega) (by omega) a3 (by omega) (by omega) S.1 sz0 g0 (by omega) (by omega)) (ok_k X Y hA KS KR) rfl kl_By_By_stop ks_By_stop kx_By_stop ki_By_stop ini_By ⟨rfl, rfl⟩ hd_By_stop ⟨by simp only [kRm]; omega, by simp only [kRm]; omega⟩ rfl (Nat.le_of_ble_eq_true rfl) d_By_fitsRow_23 ⟨Nat.le_of_ble_eq_true rfl, Nat.le_of_ble_eq_true rfl⟩) X Y hA (fun z115 H locs Y p115 => ?_)
          obtain ⟨l115, u115, x115, st115⟩ := p115
          refine lv_istore (lv' := [(7, .int (iI z115)), (0, .ref h), (1, .int (iI a1)), (3, .int (iI a3)), (4, .int (iI a4)), (5, .int (iI z101)), (6, .int (iI z102))]) X.1 X.2.1 d_By_fitsRow_26 hl (by decide) rfl (fun ls hl => ?_)
          refine lv_iload X.1 X.2.1 d_By_fitsRow_28 (lv_at hl 0 rfl) ?_
          refine z_if_lt (tgt := 49) X.1 X.2.1 d_By_fitsRow_30 (by decide) ⟨by omega, by omega⟩ (fun h116 => ?_) (fun h116 => ?_)
          · refine lv_iconst (v := iI 0) X.1 X.2.1 d_By_fitsRow_49 (by decide) ?_
            exact c_retz hQQ X Y hr hlk (iI_bool (by omega) (by omega)).1 ⟨rfl, rfl, 0, rfl, ⟨by omega, by omega, fun h9 => absurd h9 (by decide)⟩⟩ d_By_fitsRow_50
          · refine lv_aload_n X.1 X.2.1 d_By_fitsRow_33 rfl (lv_at hl 1 rfl) ?_
            refine lv_iload_n X.1 X.2.1 d_By_fitsRow_34 rfl (lv_at hl 2 rfl) ?_
            refine lv_iload X.1 X.2.1 d_By_fitsRow_35 (lv_at hl 5 rfl) ?_
            refine lv_iload X.1 X.2.1 d_By_fitsRow_37 (lv_at hl 0 rfl) ?_
            refine lv_iload X.1 X.2.1 d_By_fitsRow_39 (lv_at hl 4 rfl) ?_
            refine lv_iconst (v := iI 1) X.1 X.2.1 d_By_fitsRow_41 (by decide) ?_
            refine z_iadd X.1 X.2.1 d_By_fitsRow_42 ?_
            refine t_ui (t_runV (As := [.int (iI a1), .int (iI z101), .int (iI z115), .int (iI (a4 + 1))]) (rest := []) (n := 4) X Y S k0 hml hl.1 (IH l D E T κ L f H.size h n0 k0 (by omega) a1 (by omega) (by omega) z101 (by omega) (by omega) z115 (by omega) (by omega) (a4 + 1) (by omega) (by omega) S.1 sz0 g0 (by omega) (by omega) (by omega) (by omega)) (ok_k X Y hA KS KR) rfl kl_By_By_fits ks_By_fits kx_By_fits ki_By_fits ini_By ⟨rfl, rfl⟩ hd_By_fits ⟨by simp only [kRm]; omega, by simp only [kRm]; omega⟩ rfl (Nat.le_of_ble_eq_true rfl) d_By_fitsRow_43 ⟨Nat.le_of_ble_eq_true rfl, Nat.le_of_ble_eq_true rfl⟩) X Y hA (fun z117 H locs Y p117 => ?_)
            obtain ⟨l117, u117, x117⟩ := p117
            refine z_if_ne (tgt := 51) X.1 X.2.1 d_By_fitsRow_46 (by decide) ⟨by omega, by omega⟩ (fun h118 => ?_) (fun h118 => ?_)
            · refine lv_iload X.1 X.2.1 d_By_fitsRow_51 (lv_at hl 0 rfl) ?_
              refine lv_istore (lv' := [(5, .int (iI z115)), (7, .int (iI z115)), (0, .ref h), (1, .int (iI a1)), (3, .int (iI a3)), (4, .int (iI a4)), (6, .int (iI z102))]) X.1 X.2.1 d_By_fitsRow_53 hl (by decide) rfl (fun ls hl => ?_)
              refine lv_iinc (v := iI (z102 + 1)) (lv' := [(6, .int (iI (z102 + 1))), (5, .int (iI z115)), (7, .int (iI z115)), (0, .ref h), (1, .int (iI a1)), (3, .int (iI a3)), (4, .int (iI a4))]) X.1 X.2.1 d_By_fitsRow_55 hl (k := 6) rfl ((iI_add _ _).trans (congrArg iI (by omega))) (by decide) rfl (fun ls hl => ?_)
              refine lv_goto (tgt := 6) X.1 X.2.1 d_By_fitsRow_58 (by decide) ?_
              exact ih105 ((16 - (z102 + 1)).toNat) (by omega) z115 (z102 + 1) _ _ _ rfl (by omega) (by omega) (by omega) (by omega) (fun h8 => (i103 h8).elim (fun j hj => ⟨j + 1, RwSeg_fit j _ _ _ hj st115 (by omega) (by have q9 := x117 (by omega); rw [h8] at q9; exact q9)⟩)) Y S (lv_sub hl [3, 4, 5, 6, 1, 0] rfl)
            · refine lv_iconst (v := iI 0) X.1 X.2.1 d_By_fitsRow_49 (by decide) ?_
              exact c_retz hQQ X Y hr hlk (iI_bool (by omega) (by omega)).1 ⟨rfl, rfl, 0, rfl, ⟨by omega, by omega, fun h9 => absurd h9 (by decide)⟩⟩ d_By_fitsRow_50
  refine lv_istore (lv' := [(6, .int (iI 0)), (5, .int (iI a2)), (0, .ref h), (1, .int (iI a1)), (2, .int (iI a2)), (3, .int (iI a3)), (4, .int (iI a4))]) X.1 X.2.1 d_By_fitsRow_4 hl (by decide) rfl (fun ls hl => ?_)
  exact J104 _ a2 0 _ _ _ rfl (by omega) (by omega) (by omega) (by omega) (fun h8 => ⟨0, rfl⟩) Y S (lv_sub hl [2, 3, 5, 6, 1, 0] rfl)
set_option maxHeartbeats 4000000 in
set_option maxRecDepth 100000 in
theorem c_By_fitsFieldsX (d : Nat) (IH : C_fitsX d) (l : Launch) (D : va_G) (E : cE) (T : cT) (κ : tK) (L : List Nat) (f : pF) (sz : Nat) (h n0 : Nat) (k0 : κ h = (13, n0)) (x0 : n0 ≤ 12288) (a1 : Nat) (k1 : a1 < nY) (a2 : Int) (l_a2 : (-1) ≤ a2) (u_a2 : a2 ≤ 20200) (a3 : Int) (l_a3 : 0 ≤ a3) (u_a3 : a3 ≤ 20200) (a4 : Int) (l_a4 : 0 ≤ a4) (u_a4 : a4 ≤ 20) (hw : tW E T κ L f) (sz0 : Int) (g0 : gF f h 1 = .int (iI sz0)) (g1 : 0 ≤ sz0) (g2 : sz0 ≤ (n0 : Int)) (hd : 21 ≤ a4 + (d + 1)) : Met l y_By_fitsFields (k_By_fitsFields :: lw_tg) (kRm (7 + 3 * d) (150 + 100 * d) 0 0) (va_Pc [.ref h, .ref (T.2.1 a1), .int (iI a2), .int (iI a3), .int (iI a4)] (kPre D E T L f sz)) (va_Qi (uPi L f (fun (z : Int) => 0 ≤ z ∧ z ≤ 1 ∧ (z = 1 → (∃ j : Nat, FdSeg (rb f h) sz0 a3 pT j a2 a3) ∧ (a1 = 13 → ∃ j : Nat, FdSeg (rb f h) sz0 a3 (p3 (rb f h) sz0) j a2 a3)))) (cPost D E (pA L sz)) (pA L sz)) 0 0 (pA L sz) := by
  refine k_enter (own := R_By) (by decide) rfl (Nat.le_of_ble_eq_true rfl) (fun p e s m below meth c ls AV QQ H locs hQQ X Y hA hin hr hlk hml hl KS KR => ?_)
  have hl : lv_has ls 10 [(0, .ref h), (1, .ref ((T.2.1 a1))), (2, .int (iI a2)), (3, .int (iI a3)), (4, .int (iI a4))] := hl
  have S : tS E T (tFr κ L [] []) κ L f κ L f := tS_rf hw
  refine lv_iload_n X.1 X.2.1 d_By_fitsFields_0 rfl (lv_at hl 2 rfl) ?_
  refine lv_istore (lv' := [(5, .int (iI a2)), (0, .ref h), (1, .ref ((T.2.1 a1))), (2, .int (iI a2)), (3, .int (iI a3)), (4, .int (iI a4))]) X.1 X.2.1 d_By_fitsFields_1 hl (by decide) rfl (fun ls hl => ?_)
  refine lv_iconst (v := iI 0) X.1 X.2.1 d_By_fitsFields_3 (by decide) ?_
  have J105 : ∀ (n107 : Nat) (z101 : Int) (z102 : Int) (H : Heap) (locs : List Loc) (ls : Array Slot), (64 - z102).toNat = n107 → ((-1) ≤ z101) → (z101 ≤ 20200) → (0 ≤ z102) → (z102 ≤ 64) → ((∃ j : Nat, FdSeg (rb f h) sz0 a3 pT j a2 z101) ∧ (a1 = 13 → ∃ j : Nat, FdSeg (rb f h) sz0 a3 (p3 (rb f h) sz0) j a2 z101)) → (z102 % 3 = 0) → pH D cCl (pA L sz) s.heap L f H locs → tS E T (tFr κ L [] []) κ L f κ L f → lv_has ls 10 [(0, .ref h), (1, .ref ((T.2.1 a1))), (3, .int (iI a3)), (4, .int (iI a4)), (5, .int (iI z101)), (6, .int (iI z102))] → W p l e (kRm (7 + 3 * d) (150 + 100 * d) 0 0) s m AV below meth c H locs 0 0 QQ (F0 m 6 ls []) := by
    intro n107
    induction n107 using Nat.strongRecOn with
    | ind n107 ih106 =>
      intro z101 z102 H locs ls hm108 l101 u101 l102 u102 i103 i104 Y S hl
      refine lv_iload X.1 X.2.1 d_By_fitsFields_6 (lv_at hl 5 rfl) ?_
      refine lv_iconst (v := iI 2) X.1 X.2.1 d_By_fitsFields_8 (by decide) ?_
      refine z_iadd X.1 X.2.1 d_By_fitsFields_9 ?_
      refine lv_aload_n X.1 X.2.1 d_By_fitsFields_10 rfl (lv_at hl 1 rfl) ?_
      refine t_length (i := a1) X Y KS k1 hml hl.1 kl_By_length ⟨by simp only [kRm]; omega, by simp only [kRm]; omega⟩ (Nat.le_of_ble_eq_true rfl) d_By_fitsFields_11 ⟨Nat.le_of_ble_eq_true rfl, Nat.le_of_ble_eq_true rfl⟩ (fun H locs Y => ?_)
      have y109 := yn_40 a1 k1
      refine z_icmp_ge (tgt := 142) X.1 X.2.1 d_By_fitsFields_14 (by decide) ⟨by omega, by omega⟩ ⟨by omega, by omega⟩ (fun h110 => ?_) (fun h110 => ?_)
      · refine lv_iload X.1 X.2.1 d_By_fitsFields_142 (lv_at hl 4 rfl) ?_
        refine lv_iload_n X.1 X.2.1 d_By_fitsFields_144 rfl (lv_at hl 2 rfl) ?_
        refine z_icmp_ne (tgt := 152) X.1 X.2.1 d_By_fitsFields_145 (by decide) ⟨by omega, by omega⟩ ⟨by omega, by omega⟩ (fun h111 => ?_) (fun h111 => ?_)
        · refine lv_iconst (v := iI 0) X.1 X.2.1 d_By_fitsFields_152 (by decide) ?_
          exact c_retz hQQ X Y hr hlk (iI_bool (by omega) (by omega)).1 ⟨rfl, rfl, 0, rfl, ⟨by omega, by omega, fun h9 => absurd h9 (by decide)⟩⟩ d_By_fitsFields_153
        · refine lv_iconst (v := iI 1) X.1 X.2.1 d_By_fitsFields_148 (by decide) ?_
          refine lv_goto (tgt := 153) X.1 X.2.1 d_By_fitsFields_149 (by decide) ?_
          exact c_retz hQQ X Y hr hlk (iI_bool (by omega) (by omega)).1 ⟨rfl, rfl, 1, rfl, ⟨by omega, by omega, fun h9 => ⟨by have q9 := i103.1; rw [show z101 = a3 by omega] at q9; exact q9, fun h8 => by have q9 := i103.2 h8; rw [show z101 = a3 by omega] at q9; exact q9⟩⟩⟩ d_By_fitsFields_153
      · refine lv_aload_n X.1 X.2.1 d_By_fitsFields_17 rfl (lv_at hl 1 rfl) ?_
        refine lv_iload X.1 X.2.1 d_By_fitsFields_18 (lv_at hl 5 rfl) ?_
        refine t_charAt (i := a1) X Y KS k1 (by omega) (by omega) hml hl.1 kl_By_charAt ⟨by simp only [kRm]; omega, by simp only [kRm]; omega⟩ (Nat.le_of_ble_eq_true rfl) d_By_fitsFields_20 ⟨Nat.le_of_ble_eq_true rfl, Nat.le_of_ble_eq_true rfl⟩ (fun H locs z112 Y e112 l112 u112 => ?_)
        refine lv_istore (lv' := [(7, .int (iI z112)), (0, .ref h), (1, .ref ((T.2.1 a1))), (3, .int (iI a3)), (4, .int (iI a4)), (5, .int (iI z101)), (6, .int (iI z102))]) X.1 X.2.1 d_By_fitsFields_23 hl (by decide) rfl (fun ls hl => ?_)
        refine lv_iload X.1 X.2.1 d_By_fitsFields_25 (lv_at hl 0 rfl) ?_
        refine lv_bipush (v := iI 57) X.1 X.2.1 d_By_fitsFields_27 (by decide) ?_
        refine z_icmp_gt (tgt := 40) X.1 X.2.1 d_By_fitsFields_29 (by decide) ⟨by omega, by omega⟩ ⟨by omega, by omega⟩ (fun h113 => ?_) (fun h113 => ?_)
        · refine lv_iload X.1 X.2.1 d_By_fitsFields_40 (lv_at hl 0 rfl) ?_
          refine lv_bipush (v := iI 97) X.1 X.2.1 d_By_fitsFields_42 (by decide) ?_
          refine z_isub X.1 X.2.1 d_By_fitsFields_44 ?_
          refine lv_bipush (v := iI 10) X.1 X.2.1 d_By_fitsFields_45 (by decide) ?_
          refine z_iadd X.1 X.2.1 d_By_fitsFields_47 ?_
          refine lv_istore (lv' := [(8, .int (iI ((z112 - 97) + 10))), (7, .int (iI z112)), (0, .ref h), (1, .ref ((T.2.1 a1))), (3, .int (iI a3)), (4, .int (iI a4)), (5, .int (iI z101)), (6, .int (iI z102))]) X.1 X.2.1 d_By_fitsFields_48 hl (by decide) rfl (fun ls hl => ?_)
          refine lv_iload X.1 X.2.1 d_By_fitsFields_50 (lv_at hl 6 rfl) ?_
          refine lv_iload_n X.1 X.2.1 d_By_fitsFields_52 rfl (lv_at hl 4 rfl) ?_
          refine z_icmp_ge (tgt := 121) X.1 X.2.1 d_By_fitsFields_53 (by decide) ⟨by omega, by omega⟩ ⟨by omega, by omega⟩ (fun h114 => ?_) (fun h114 => ?_)
          · refine lv_aload_n X.1 X.2.1 d_By_fitsFields_121 rfl (lv_at hl 3 rfl) ?_
            refine lv_iload X.1 X.2.1 d_By_fitsFields_122 (lv_at hl 7 rfl) ?_
            refine lv_iconst (v := iI 1) X.1 X.2.1 d_By_fitsFields_124 (by decide) ?_
            refine z_iadd X.1 X.2.1 d_By_fitsFields_125 ?_
            refine t_charAt (i := a1) X Y KS k1 (by omega) (by omega) hml hl.1 kl_By_charAt ⟨by simp only [kRm]; omega, by simp only [kRm]; omega⟩ (Nat.le_of_ble_eq_true rfl) d_By_fitsFields_126 ⟨Nat.le_of_ble_eq_true rfl, Nat.le_of_ble_eq_true rfl⟩ (fun H locs z115 Y e115 l115 u115 => ?_)
            refine lv_bipush (v := iI 33) X.1 X.2.1 d_By_fitsFields_129 (by decide) ?_
            refine z_icmp_ne (tgt := 136) X.1 X.2.1 d_By_fitsFields_131 (by decide) ⟨by omega, by omega⟩ ⟨by omega, by omega⟩ (fun h116 => ?_) (fun h116 => ?_)
            · refine lv_iinc (v := iI (z102 + 3)) (lv' := [(6, .int (iI (z102 + 3))), (8, .int (iI ((z112 - 97) + 10))), (7, .int (iI z112)), (0, .ref h), (1, .ref ((T.2.1 a1))), (3, .int (iI a3)), (4, .int (iI a4)), (5, .int (iI z101))]) X.1 X.2.1 d_By_fitsFields_136 hl (k := 7) rfl ((iI_add _ _).trans (congrArg iI (by omega))) (by decide) rfl (fun ls hl => ?_)
              refine lv_goto (tgt := 6) X.1 X.2.1 d_By_fitsFields_139 (by decide) ?_
              exact ih106 ((64 - (z102 + 3)).toNat) (by omega) z101 (z102 + 3) _ _ _ rfl (by omega) (by omega) (by omega) (by omega) i103 (by omega) Y S (lv_sub hl [3, 4, 5, 6, 7, 0] rfl)
            · refine lv_iconst (v := iI 0) X.1 X.2.1 d_By_fitsFields_134 (by decide) ?_
              exact c_retz hQQ X Y hr hlk (iI_bool (by omega) (by omega)).1 ⟨rfl, rfl, 0, rfl, ⟨by omega, by omega, fun h9 => absurd h9 (by decide)⟩⟩ d_By_fitsFields_135
          · refine lv_aload_n X.1 X.2.1 d_By_fitsFields_56 rfl (lv_at hl 2 rfl) ?_
            refine lv_iload X.1 X.2.1 d_By_fitsFields_57 (lv_at hl 6 rfl) ?_
            refine t_ui (t_runV (As := [.int (iI z101)]) (rest := []) (n := 1) X Y S k0 hml hl.1 (c_By_atX l D E T κ L f H.size h n0 k0 (by omega) z101 (by omega) (by omega) S.1 sz0 g0 (by omega) (by omega)) (ok_k X Y hA KS KR) rfl kl_By_By_at ks_By_at kx_By_at ki_By_at ini_By ⟨rfl, rfl⟩ hd_By_at ⟨by simp only [kRm]; omega, by simp only [kRm]; omega⟩ rfl (Nat.le_of_ble_eq_true rfl) d_By_fitsFields_59 ⟨Nat.le_of_ble_eq_true rfl, Nat.le_of_ble_eq_true rfl⟩) X Y hA (fun z117 H locs Y p117 => ?_)
            obtain ⟨l117, u117, x117⟩ := p117
            refine lv_sipush (v := iI 160) X.1 X.2.1 d_By_fitsFields_62 (by decide) ?_
            refine lv_iload X.1 X.2.1 d_By_fitsFields_65 (lv_at hl 0 rfl) ?_
            refine z_iadd X.1 X.2.1 d_By_fitsFields_67 ?_
            refine z_icmp_ne (tgt := 121) X.1 X.2.1 d_By_fitsFields_68 (by decide) ⟨by omega, by omega⟩ ⟨by omega, by omega⟩ (fun h118 => ?_) (fun h118 => ?_)
            · refine lv_aload_n X.1 X.2.1 d_By_fitsFields_121 rfl (lv_at hl 3 rfl) ?_
              refine lv_iload X.1 X.2.1 d_By_fitsFields_122 (lv_at hl 7 rfl) ?_
              refine lv_iconst (v := iI 1) X.1 X.2.1 d_By_fitsFields_124 (by decide) ?_
              refine z_iadd X.1 X.2.1 d_By_fitsFields_125 ?_
              refine t_charAt (i := a1) X Y KS k1 (by omega) (by omega) hml hl.1 kl_By_charAt ⟨by simp only [kRm]; omega, by simp only [kRm]; omega⟩ (Nat.le_of_ble_eq_true rfl) d_By_fitsFields_126 ⟨Nat.le_of_ble_eq_true rfl, Nat.le_of_ble_eq_true rfl⟩ (fun H locs z119 Y e119 l119 u119 => ?_)
              refine lv_bipush (v := iI 33) X.1 X.2.1 d_By_fitsFields_129 (by decide) ?_
              refine z_icmp_ne (tgt := 136) X.1 X.2.1 d_By_fitsFields_131 (by decide) ⟨by omega, by omega⟩ ⟨by omega, by omega⟩ (fun h120 => ?_) (fun h120 => ?_)
              · refine lv_iinc (v := iI (z102 + 3)) (lv' := [(6, .int (iI (z102 + 3))), (8, .int (iI ((z112 - 97) + 10))), (7, .int (iI z112)), (0, .ref h), (1, .ref ((T.2.1 a1))), (3, .int (iI a3)), (4, .int (iI a4)), (5, .int (iI z101))]) X.1 X.2.1 d_By_fitsFields_136 hl (k := 7) rfl ((iI_add _ _).trans (congrArg iI (by omega))) (by decide) rfl (fun ls hl => ?_)
                refine lv_goto (tgt := 6) X.1 X.2.1 d_By_fitsFields_139 (by decide) ?_
                exact ih106 ((64 - (z102 + 3)).toNat) (by omega) z101 (z102 + 3) _ _ _ rfl (by omega) (by omega) (by omega) (by omega) i103 (by omega) Y S (lv_sub hl [3, 4, 5, 6, 7, 0] rfl)
              · refine lv_iconst (v := iI 0) X.1 X.2.1 d_By_fitsFields_134 (by decide) ?_
                exact c_retz hQQ X Y hr hlk (iI_bool (by omega) (by omega)).1 ⟨rfl, rfl, 0, rfl, ⟨by omega, by omega, fun h9 => absurd h9 (by decide)⟩⟩ d_By_fitsFields_135
            · refine lv_aload_n X.1 X.2.1 d_By_fitsFields_71 rfl (lv_at hl 2 rfl) ?_
              refine lv_iload X.1 X.2.1 d_By_fitsFields_72 (lv_at hl 6 rfl) ?_
              refine lv_iload_n X.1 X.2.1 d_By_fitsFields_74 rfl (lv_at hl 4 rfl) ?_
              refine t_ui (t_runV (As := [.int (iI z101), .int (iI a3)]) (rest := []) (n := 2) X Y S k0 hml hl.1 (c_By_stopX l D E T κ L f H.size h n0 k0 (by omega) z101 (by omega) (by omega) a3 (by omega) (by omega) S.1 sz0 g0 (by omega) (by omega)) (ok_k X Y hA KS KR) rfl kl_By_By_stop ks_By_stop kx_By_stop ki_By_stop ini_By ⟨rfl, rfl⟩ hd_By_stop ⟨by simp only [kRm]; omega, by simp only [kRm]; omega⟩ rfl (Nat.le_of_ble_eq_true rfl) d_By_fitsFields_75 ⟨Nat.le_of_ble_eq_true rfl, Nat.le_of_ble_eq_true rfl⟩) X Y hA (fun z121 H locs Y p121 => ?_)
              obtain ⟨l121, u121, x121, st121⟩ := p121
              refine lv_istore (lv' := [(9, .int (iI z121)), (8, .int (iI ((z112 - 97) + 10))), (7, .int (iI z112)), (0, .ref h), (1, .ref ((T.2.1 a1))), (3, .int (iI a3)), (4, .int (iI a4)), (5, .int (iI z101)), (6, .int (iI z102))]) X.1 X.2.1 d_By_fitsFields_78 hl (by decide) rfl (fun ls hl => ?_)
              refine lv_iload X.1 X.2.1 d_By_fitsFields_80 (lv_at hl 0 rfl) ?_
              refine z_if_lt (tgt := 112) X.1 X.2.1 d_By_fitsFields_82 (by decide) ⟨by omega, by omega⟩ (fun h122 => ?_) (fun h122 => ?_)
              · refine lv_iconst (v := iI 0) X.1 X.2.1 d_By_fitsFields_112 (by decide) ?_
                exact c_retz hQQ X Y hr hlk (iI_bool (by omega) (by omega)).1 ⟨rfl, rfl, 0, rfl, ⟨by omega, by omega, fun h9 => absurd h9 (by decide)⟩⟩ d_By_fitsFields_113
              · refine lv_aload_n X.1 X.2.1 d_By_fitsFields_85 rfl (lv_at hl 3 rfl) ?_
                refine lv_aload_n X.1 X.2.1 d_By_fitsFields_86 rfl (lv_at hl 4 rfl) ?_
                refine lv_iload X.1 X.2.1 d_By_fitsFields_87 (lv_at hl 8 rfl) ?_
                refine lv_iconst (v := iI 2) X.1 X.2.1 d_By_fitsFields_89 (by decide) ?_
                refine z_iadd X.1 X.2.1 d_By_fitsFields_90 ?_
                refine t_charAt (i := a1) X Y KS k1 (by omega) (by omega) hml hl.1 kl_By_charAt ⟨by simp only [kRm]; omega, by simp only [kRm]; omega⟩ (Nat.le_of_ble_eq_true rfl) d_By_fitsFields_91 ⟨Nat.le_of_ble_eq_true rfl, Nat.le_of_ble_eq_true rfl⟩ (fun H locs z123 Y e123 l123 u123 => ?_)
                refine lv_aload_n X.1 X.2.1 d_By_fitsFields_94 rfl (lv_at hl 3 rfl) ?_
                refine lv_iload X.1 X.2.1 d_By_fitsFields_95 (lv_at hl 7 rfl) ?_
                refine t_ui (t_runV (As := [.int (iI z101)]) (rest := [.int (iI z123), .ref h]) (n := 1) X Y S k0 hml hl.1 (c_By_bodyX l D E T κ L f H.size h n0 k0 (by omega) z101 (by omega) (by omega) S.1 sz0 g0 (by omega) (by omega)) (ok_k X Y hA KS KR) rfl kl_By_By_body ks_By_body kx_By_body ki_By_body ini_By ⟨rfl, rfl⟩ hd_By_body ⟨by simp only [kRm]; omega, by simp only [kRm]; omega⟩ rfl (Nat.le_of_ble_eq_true rfl) d_By_fitsFields_97 ⟨Nat.le_of_ble_eq_true rfl, Nat.le_of_ble_eq_true rfl⟩) X Y hA (fun z124 H locs Y p124 => ?_)
                obtain ⟨l124, u124, x124, st124⟩ := p124
                refine lv_iload X.1 X.2.1 d_By_fitsFields_100 (lv_at hl 0 rfl) ?_
                refine lv_iload X.1 X.2.1 d_By_fitsFields_102 (lv_at hl 6 rfl) ?_
                refine lv_iconst (v := iI 1) X.1 X.2.1 d_By_fitsFields_104 (by decide) ?_
                refine z_iadd X.1 X.2.1 d_By_fitsFields_105 ?_
                refine t_ui (t_runV (As := [.int (iI z123), .int (iI z124), .int (iI z121), .int (iI (a4 + 1))]) (rest := []) (n := 4) X Y S k0 hml hl.1 (IH l D E T κ L f H.size h n0 k0 (by omega) z123 (by omega) (by omega) z124 (by omega) (by omega) z121 (by omega) (by omega) (a4 + 1) (by omega) (by omega) S.1 sz0 g0 (by omega) (by omega) (by omega) (by omega)) (ok_k X Y hA KS KR) rfl kl_By_By_fits ks_By_fits kx_By_fits ki_By_fits ini_By ⟨rfl, rfl⟩ hd_By_fits ⟨by simp only [kRm]; omega, by simp only [kRm]; omega⟩ rfl (Nat.le_of_ble_eq_true rfl) d_By_fitsFields_106 ⟨Nat.le_of_ble_eq_true rfl, Nat.le_of_ble_eq_true rfl⟩) X Y hA (fun z125 H locs Y p125 => ?_)
                obtain ⟨l125, u125, x125⟩ := p125
                refine z_if_ne (tgt := 114) X.1 X.2.1 d_By_fitsFields_109 (by decide) ⟨by omega, by omega⟩ (fun h126 => ?_) (fun h126 => ?_)
                · refine lv_iload X.1 X.2.1 d_By_fitsFields_114 (lv_at hl 0 rfl) ?_
                  refine lv_istore (lv' := [(5, .int (iI z121)), (9, .int (iI z121)), (8, .int (iI ((z112 - 97) + 10))), (7, .int (iI z112)), (0, .ref h), (1, .ref ((T.2.1 a1))), (3, .int (iI a3)), (4, .int (iI a4)), (6, .int (iI z102))]) X.1 X.2.1 d_By_fitsFields_116 hl (by decide) rfl (fun ls hl => ?_)
                  refine lv_goto (tgt := 136) X.1 X.2.1 d_By_fitsFields_118 (by decide) ?_
                  refine lv_iinc (v := iI (z102 + 3)) (lv' := [(6, .int (iI (z102 + 3))), (5, .int (iI z121)), (9, .int (iI z121)), (8, .int (iI ((z112 - 97) + 10))), (7, .int (iI z112)), (0, .ref h), (1, .ref ((T.2.1 a1))), (3, .int (iI a3)), (4, .int (iI a4))]) X.1 X.2.1 d_By_fitsFields_136 hl (k := 8) rfl ((iI_add _ _).trans (congrArg iI (by omega))) (by decide) rfl (fun ls hl => ?_)
                  refine lv_goto (tgt := 6) X.1 X.2.1 d_By_fitsFields_139 (by decide) ?_
                  exact ih106 ((64 - (z102 + 3)).toNat) (by omega) z121 (z102 + 3) _ _ _ rfl (by omega) (by omega) (by omega) (by omega) ⟨i103.1.elim (fun j hj => ⟨j + 1, FdSeg_snoc j _ _ _ _ hj ⟨st121, by omega, st124, (x125 (by omega)).1⟩ trivial⟩), fun h8 => (i103.2 h8).elim (fun j hj => ⟨j + 1, FdSeg_snoc j _ _ _ _ hj ⟨st121, by omega, st124, (x125 (by omega)).1⟩ (fun h7 => (x125 (by omega)).2.2.1 (lit3A h8 (by omega) (by omega) (by omega) e112 e123 (by omega) (by omega) (by omega) (by omega) (by omega)))⟩)⟩ (by omega) Y S (lv_sub hl [5, 6, 7, 8, 1, 0] rfl)
                · refine lv_iconst (v := iI 0) X.1 X.2.1 d_By_fitsFields_112 (by decide) ?_
                  exact c_retz hQQ X Y hr hlk (iI_bool (by omega) (by omega)).1 ⟨rfl, rfl, 0, rfl, ⟨by omega, by omega, fun h9 => absurd h9 (by decide)⟩⟩ d_By_fitsFields_113
        · refine lv_iload X.1 X.2.1 d_By_fitsFields_32 (lv_at hl 0 rfl) ?_
          refine lv_bipush (v := iI 48) X.1 X.2.1 d_By_fitsFields_34 (by decide) ?_
          refine z_isub X.1 X.2.1 d_By_fitsFields_36 ?_
          refine lv_goto (tgt := 48) X.1 X.2.1 d_By_fitsFields_37 (by decide) ?_
          refine lv_istore (lv' := [(8, .int (iI (z112 - 48))), (7, .int (iI z112)), (0, .ref h), (1, .ref ((T.2.1 a1))), (3, .int (iI a3)), (4, .int (iI a4)), (5, .int (iI z101)), (6, .int (iI z102))]) X.1 X.2.1 d_By_fitsFields_48 hl (by decide) rfl (fun ls hl => ?_)
          refine lv_iload X.1 X.2.1 d_By_fitsFields_50 (lv_at hl 6 rfl) ?_
          refine lv_iload_n X.1 X.2.1 d_By_fitsFields_52 rfl (lv_at hl 4 rfl) ?_
          refine z_icmp_ge (tgt := 121) X.1 X.2.1 d_By_fitsFields_53 (by decide) ⟨by omega, by omega⟩ ⟨by omega, by omega⟩ (fun h127 => ?_) (fun h127 => ?_)
          · refine lv_aload_n X.1 X.2.1 d_By_fitsFields_121 rfl (lv_at hl 3 rfl) ?_
            refine lv_iload X.1 X.2.1 d_By_fitsFields_122 (lv_at hl 7 rfl) ?_
            refine lv_iconst (v := iI 1) X.1 X.2.1 d_By_fitsFields_124 (by decide) ?_
            refine z_iadd X.1 X.2.1 d_By_fitsFields_125 ?_
            refine t_charAt (i := a1) X Y KS k1 (by omega) (by omega) hml hl.1 kl_By_charAt ⟨by simp only [kRm]; omega, by simp only [kRm]; omega⟩ (Nat.le_of_ble_eq_true rfl) d_By_fitsFields_126 ⟨Nat.le_of_ble_eq_true rfl, Nat.le_of_ble_eq_true rfl⟩ (fun H locs z128 Y e128 l128 u128 => ?_)
            refine lv_bipush (v := iI 33) X.1 X.2.1 d_By_fitsFields_129 (by decide) ?_
            refine z_icmp_ne (tgt := 136) X.1 X.2.1 d_By_fitsFields_131 (by decide) ⟨by omega, by omega⟩ ⟨by omega, by omega⟩ (fun h129 => ?_) (fun h129 => ?_)
            · refine lv_iinc (v := iI (z102 + 3)) (lv' := [(6, .int (iI (z102 + 3))), (8, .int (iI (z112 - 48))), (7, .int (iI z112)), (0, .ref h), (1, .ref ((T.2.1 a1))), (3, .int (iI a3)), (4, .int (iI a4)), (5, .int (iI z101))]) X.1 X.2.1 d_By_fitsFields_136 hl (k := 7) rfl ((iI_add _ _).trans (congrArg iI (by omega))) (by decide) rfl (fun ls hl => ?_)
              refine lv_goto (tgt := 6) X.1 X.2.1 d_By_fitsFields_139 (by decide) ?_
              exact ih106 ((64 - (z102 + 3)).toNat) (by omega) z101 (z102 + 3) _ _ _ rfl (by omega) (by omega) (by omega) (by omega) i103 (by omega) Y S (lv_sub hl [3, 4, 5, 6, 7, 0] rfl)
            · refine lv_iconst (v := iI 0) X.1 X.2.1 d_By_fitsFields_134 (by decide) ?_
              exact c_retz hQQ X Y hr hlk (iI_bool (by omega) (by omega)).1 ⟨rfl, rfl, 0, rfl, ⟨by omega, by omega, fun h9 => absurd h9 (by decide)⟩⟩ d_By_fitsFields_135
          · refine lv_aload_n X.1 X.2.1 d_By_fitsFields_56 rfl (lv_at hl 2 rfl) ?_
            refine lv_iload X.1 X.2.1 d_By_fitsFields_57 (lv_at hl 6 rfl) ?_
            refine t_ui (t_runV (As := [.int (iI z101)]) (rest := []) (n := 1) X Y S k0 hml hl.1 (c_By_atX l D E T κ L f H.size h n0 k0 (by omega) z101 (by omega) (by omega) S.1 sz0 g0 (by omega) (by omega)) (ok_k X Y hA KS KR) rfl kl_By_By_at ks_By_at kx_By_at ki_By_at ini_By ⟨rfl, rfl⟩ hd_By_at ⟨by simp only [kRm]; omega, by simp only [kRm]; omega⟩ rfl (Nat.le_of_ble_eq_true rfl) d_By_fitsFields_59 ⟨Nat.le_of_ble_eq_true rfl, Nat.le_of_ble_eq_true rfl⟩) X Y hA (fun z130 H locs Y p130 => ?_)
            obtain ⟨l130, u130, x130⟩ := p130
            refine lv_sipush (v := iI 160) X.1 X.2.1 d_By_fitsFields_62 (by decide) ?_
            refine lv_iload X.1 X.2.1 d_By_fitsFields_65 (lv_at hl 0 rfl) ?_
            refine z_iadd X.1 X.2.1 d_By_fitsFields_67 ?_
            refine z_icmp_ne (tgt := 121) X.1 X.2.1 d_By_fitsFields_68 (by decide) ⟨by omega, by omega⟩ ⟨by omega, by omega⟩ (fun h131 => ?_) (fun h131 => ?_)
            · refine lv_aload_n X.1 X.2.1 d_By_fitsFields_121 rfl (lv_at hl 3 rfl) ?_
              refine lv_iload X.1 X.2.1 d_By_fitsFields_122 (lv_at hl 7 rfl) ?_
              refine lv_iconst (v := iI 1) X.1 X.2.1 d_By_fitsFields_124 (by decide) ?_
              refine z_iadd X.1 X.2.1 d_By_fitsFields_125 ?_
              refine t_charAt (i := a1) X Y KS k1 (by omega) (by omega) hml hl.1 kl_By_charAt ⟨by simp only [kRm]; omega, by simp only [kRm]; omega⟩ (Nat.le_of_ble_eq_true rfl) d_By_fitsFields_126 ⟨Nat.le_of_ble_eq_true rfl, Nat.le_of_ble_eq_true rfl⟩ (fun H locs z132 Y e132 l132 u132 => ?_)
              refine lv_bipush (v := iI 33) X.1 X.2.1 d_By_fitsFields_129 (by decide) ?_
              refine z_icmp_ne (tgt := 136) X.1 X.2.1 d_By_fitsFields_131 (by decide) ⟨by omega, by omega⟩ ⟨by omega, by omega⟩ (fun h133 => ?_) (fun h133 => ?_)
              · refine lv_iinc (v := iI (z102 + 3)) (lv' := [(6, .int (iI (z102 + 3))), (8, .int (iI (z112 - 48))), (7, .int (iI z112)), (0, .ref h), (1, .ref ((T.2.1 a1))), (3, .int (iI a3)), (4, .int (iI a4)), (5, .int (iI z101))]) X.1 X.2.1 d_By_fitsFields_136 hl (k := 7) rfl ((iI_add _ _).trans (congrArg iI (by omega))) (by decide) rfl (fun ls hl => ?_)
                refine lv_goto (tgt := 6) X.1 X.2.1 d_By_fitsFields_139 (by decide) ?_
                exact ih106 ((64 - (z102 + 3)).toNat) (by omega) z101 (z102 + 3) _ _ _ rfl (by omega) (by omega) (by omega) (by omega) i103 (by omega) Y S (lv_sub hl [3, 4, 5, 6, 7, 0] rfl)
              · refine lv_iconst (v := iI 0) X.1 X.2.1 d_By_fitsFields_134 (by decide) ?_
                exact c_retz hQQ X Y hr hlk (iI_bool (by omega) (by omega)).1 ⟨rfl, rfl, 0, rfl, ⟨by omega, by omega, fun h9 => absurd h9 (by decide)⟩⟩ d_By_fitsFields_135
            · refine lv_aload_n X.1 X.2.1 d_By_fitsFields_71 rfl (lv_at hl 2 rfl) ?_
              refine lv_iload X.1 X.2.1 d_By_fitsFields_72 (lv_at hl 6 rfl) ?_
              refine lv_iload_n X.1 X.2.1 d_By_fitsFields_74 rfl (lv_at hl 4 rfl) ?_
              refine t_ui (t_runV (As := [.int (iI z101), .int (iI a3)]) (rest := []) (n := 2) X Y S k0 hml hl.1 (c_By_stopX l D E T κ L f H.size h n0 k0 (by omega) z101 (by omega) (by omega) a3 (by omega) (by omega) S.1 sz0 g0 (by omega) (by omega)) (ok_k X Y hA KS KR) rfl kl_By_By_stop ks_By_stop kx_By_stop ki_By_stop ini_By ⟨rfl, rfl⟩ hd_By_stop ⟨by simp only [kRm]; omega, by simp only [kRm]; omega⟩ rfl (Nat.le_of_ble_eq_true rfl) d_By_fitsFields_75 ⟨Nat.le_of_ble_eq_true rfl, Nat.le_of_ble_eq_true rfl⟩) X Y hA (fun z134 H locs Y p134 => ?_)
              obtain ⟨l134, u134, x134, st134⟩ := p134
              refine lv_istore (lv' := [(9, .int (iI z134)), (8, .int (iI (z112 - 48))), (7, .int (iI z112)), (0, .ref h), (1, .ref ((T.2.1 a1))), (3, .int (iI a3)), (4, .int (iI a4)), (5, .int (iI z101)), (6, .int (iI z102))]) X.1 X.2.1 d_By_fitsFields_78 hl (by decide) rfl (fun ls hl => ?_)
              refine lv_iload X.1 X.2.1 d_By_fitsFields_80 (lv_at hl 0 rfl) ?_
              refine z_if_lt (tgt := 112) X.1 X.2.1 d_By_fitsFields_82 (by decide) ⟨by omega, by omega⟩ (fun h135 => ?_) (fun h135 => ?_)
              · refine lv_iconst (v := iI 0) X.1 X.2.1 d_By_fitsFields_112 (by decide) ?_
                exact c_retz hQQ X Y hr hlk (iI_bool (by omega) (by omega)).1 ⟨rfl, rfl, 0, rfl, ⟨by omega, by omega, fun h9 => absurd h9 (by decide)⟩⟩ d_By_fitsFields_113
              · refine lv_aload_n X.1 X.2.1 d_By_fitsFields_85 rfl (lv_at hl 3 rfl) ?_
                refine lv_aload_n X.1 X.2.1 d_By_fitsFields_86 rfl (lv_at hl 4 rfl) ?_
                refine lv_iload X.1 X.2.1 d_By_fitsFields_87 (lv_at hl 8 rfl) ?_
                refine lv_iconst (v := iI 2) X.1 X.2.1 d_By_fitsFields_89 (by decide) ?_
                refine z_iadd X.1 X.2.1 d_By_fitsFields_90 ?_
                refine t_charAt (i := a1) X Y KS k1 (by omega) (by omega) hml hl.1 kl_By_charAt ⟨by simp only [kRm]; omega, by simp only [kRm]; omega⟩ (Nat.le_of_ble_eq_true rfl) d_By_fitsFields_91 ⟨Nat.le_of_ble_eq_true rfl, Nat.le_of_ble_eq_true rfl⟩ (fun H locs z136 Y e136 l136 u136 => ?_)
                refine lv_aload_n X.1 X.2.1 d_By_fitsFields_94 rfl (lv_at hl 3 rfl) ?_
                refine lv_iload X.1 X.2.1 d_By_fitsFields_95 (lv_at hl 7 rfl) ?_
                refine t_ui (t_runV (As := [.int (iI z101)]) (rest := [.int (iI z136), .ref h]) (n := 1) X Y S k0 hml hl.1 (c_By_bodyX l D E T κ L f H.size h n0 k0 (by omega) z101 (by omega) (by omega) S.1 sz0 g0 (by omega) (by omega)) (ok_k X Y hA KS KR) rfl kl_By_By_body ks_By_body kx_By_body ki_By_body ini_By ⟨rfl, rfl⟩ hd_By_body ⟨by simp only [kRm]; omega, by simp only [kRm]; omega⟩ rfl (Nat.le_of_ble_eq_true rfl) d_By_fitsFields_97 ⟨Nat.le_of_ble_eq_true rfl, Nat.le_of_ble_eq_true rfl⟩) X Y hA (fun z137 H locs Y p137 => ?_)
                obtain ⟨l137, u137, x137, st137⟩ := p137
                refine lv_iload X.1 X.2.1 d_By_fitsFields_100 (lv_at hl 0 rfl) ?_
                refine lv_iload X.1 X.2.1 d_By_fitsFields_102 (lv_at hl 6 rfl) ?_
                refine lv_iconst (v := iI 1) X.1 X.2.1 d_By_fitsFields_104 (by decide) ?_
                refine z_iadd X.1 X.2.1 d_By_fitsFields_105 ?_
                refine t_ui (t_runV (As := [.int (iI z136), .int (iI z137), .int (iI z134), .int (iI (a4 + 1))]) (rest := []) (n := 4) X Y S k0 hml hl.1 (IH l D E T κ L f H.size h n0 k0 (by omega) z136 (by omega) (by omega) z137 (by omega) (by omega) z134 (by omega) (by omega) (a4 + 1) (by omega) (by omega) S.1 sz0 g0 (by omega) (by omega) (by omega) (by omega)) (ok_k X Y hA KS KR) rfl kl_By_By_fits ks_By_fits kx_By_fits ki_By_fits ini_By ⟨rfl, rfl⟩ hd_By_fits ⟨by simp only [kRm]; omega, by simp only [kRm]; omega⟩ rfl (Nat.le_of_ble_eq_true rfl) d_By_fitsFields_106 ⟨Nat.le_of_ble_eq_true rfl, Nat.le_of_ble_eq_true rfl⟩) X Y hA (fun z138 H locs Y p138 => ?_)
                obtain ⟨l138, u138, x138⟩ := p138
                refine z_if_ne (tgt := 114) X.1 X.2.1 d_By_fitsFields_109 (by decide) ⟨by omega, by omega⟩ (fun h139 => ?_) (fun h139 => ?_)
                · refine lv_iload X.1 X.2.1 d_By_fitsFields_114 (lv_at hl 0 rfl) ?_
                  refine lv_istore (lv' := [(5, .int (iI z134)), (9, .int (iI z134)), (8, .int (iI (z112 - 48))), (7, .int (iI z112)), (0, .ref h), (1, .ref ((T.2.1 a1))), (3, .int (iI a3)), (4, .int (iI a4)), (6, .int (iI z102))]) X.1 X.2.1 d_By_fitsFields_116 hl (by decide) rfl (fun ls hl => ?_)
                  refine lv_goto (tgt := 136) X.1 X.2.1 d_By_fitsFields_118 (by decide) ?_
                  refine lv_iinc (v := iI (z102 + 3)) (lv' := [(6, .int (iI (z102 + 3))), (5, .int (iI z134)), (9, .int (iI z134)), (8, .int (iI (z112 - 48))), (7, .int (iI z112)), (0, .ref h), (1, .ref ((T.2.1 a1))), (3, .int (iI a3)), (4, .int (iI a4))]) X.1 X.2.1 d_By_fitsFields_136 hl (k := 8) rfl ((iI_add _ _).trans (congrArg iI (by omega))) (by decide) rfl (fun ls hl => ?_)
                  refine lv_goto (tgt := 6) X.1 X.2.1 d_By_fitsFields_139 (by decide) ?_
                  exact ih106 ((64 - (z102 + 3)).toNat) (by omega) z134 (z102 + 3) _ _ _ rfl (by omega) (by omega) (by omega) (by omega) ⟨i103.1.elim (fun j hj => ⟨j + 1, FdSeg_snoc j _ _ _ _ hj ⟨st134, by omega, st137, (x138 (by omega)).1⟩ trivial⟩), fun h8 => (i103.2 h8).elim (fun j hj => ⟨j + 1, FdSeg_snoc j _ _ _ _ hj ⟨st134, by omega, st137, (x138 (by omega)).1⟩ (fun h7 => (x138 (by omega)).2.2.1 (lit3A h8 (by omega) (by omega) (by omega) e112 e136 (by omega) (by omega) (by omega) (by omega) (by omega)))⟩)⟩ (by omega) Y S (lv_sub hl [5, 6, 7, 8, 1, 0] rfl)
                · refine lv_iconst (v := iI 0) X.1 X.2.1 d_By_fitsFields_112 (by decide) ?_
                  exact c_retz hQQ X Y hr hlk (iI_bool (by omega) (by omega)).1 ⟨rfl, rfl, 0, rfl, ⟨by omega, by omega, fun h9 => absurd h9 (by decide)⟩⟩ d_By_fitsFields_113
  refine lv_istore (lv' := [(6, .int (iI 0)), (5, .int (iI a2)), (0, .ref h), (1, .ref ((T.2.1 a1))), (2, .int (iI a2)), (3, .int (iI a3)), (4, .int (iI a4))]) X.1 X.2.1 d_By_fitsFields_4 hl (by decide) rfl (fun ls hl => ?_)
  exact J105 _ a2 0 _ _ _ rfl (by omega) (by omega) (by omega) (by omega) ⟨⟨0, rfl⟩, fun h8 => ⟨0, rfl⟩⟩ (by omega) Y S (lv_sub hl [2, 3, 5, 6, 1, 0] rfl)
set_option maxHeartbeats 4000000 in
set_option maxRecDepth 100000 in
theorem c_By_fitsInsideX (d : Nat) (IH : C_fitsX d) (l : Launch) (D : va_G) (E : cE) (T : cT) (κ : tK) (L : List Nat) (f : pF) (sz : Nat) (h n0 : Nat) (k0 : κ h = (13, n0)) (x0 : n0 ≤ 12288) (a1 : Int) (l_a1 : (-2147483648) ≤ a1) (u_a1 : a1 ≤ 2147483647) (a2 : Int) (l_a2 : (-1) ≤ a2) (u_a2 : a2 ≤ 20200) (a3 : Int) (l_a3 : 0 ≤ a3) (u_a3 : a3 ≤ 20200) (a4 : Int) (l_a4 : 0 ≤ a4) (u_a4 : a4 ≤ 20) (hw : tW E T κ L f) (sz0 : Int) (g0 : gF f h 1 = .int (iI sz0)) (g1 : 0 ≤ sz0) (g2 : sz0 ≤ (n0 : Int)) (hd : 21 ≤ a4 + (d + 1)) : Met l y_By_fitsInside (k_By_fitsInside :: lw_tg) (kRm (8 + 3 * d) (180 + 100 * d) 0 0) (va_Pc [.ref h, .int (iI a1), .int (iI a2), .int (iI a3), .int (iI a4)] (kPre D E T L f sz)) (va_Qi (uPi L f (fun (z : Int) => 0 ≤ z ∧ z ≤ 1 ∧ (z = 1 → InP (rb f h) sz0 a1 a2 a3))) (cPost D E (pA L sz)) (pA L sz)) 0 0 (pA L sz) := by
  refine k_enter (own := R_By) (by decide) rfl (Nat.le_of_ble_eq_true rfl) (fun p e s m below meth c ls AV QQ H locs hQQ X Y hA hin hr hlk hml hl KS KR => ?_)
  have hl : lv_has ls 5 [(0, .ref h), (1, .int (iI a1)), (2, .int (iI a2)), (3, .int (iI a3)), (4, .int (iI a4))] := hl
  have S : tS E T (tFr κ L [] []) κ L f κ L f := tS_rf hw
  refine lv_iload_n X.1 X.2.1 d_By_fitsInside_0 rfl (lv_at hl 1 rfl) ?_
  refine lv_bipush (v := iI 65) X.1 X.2.1 d_By_fitsInside_1 (by decide) ?_
  refine z_icmp_lt (tgt := 28) X.1 X.2.1 d_By_fitsInside_3 (by decide) ⟨by omega, by omega⟩ ⟨by omega, by omega⟩ (fun h101 => ?_) (fun h101 => ?_)
  · refine lv_iload_n X.1 X.2.1 d_By_fitsInside_28 rfl (lv_at hl 1 rfl) ?_
    refine t_ui (x_runS (As := [.int (iI a1)]) (rest := []) (n := 1) X hml hl.1 (c_By_tagOfX l D E T κ L f H.size a1 (by omega) (by omega) S.1) (ok_k X Y hA KS KR) kl_By_By_tagOf ks_By_tagOf ki_By_tagOf ini_By ⟨rfl, rfl⟩ hd_By_tagOf.2 ⟨by simp only [kRm]; omega, by simp only [kRm]; omega⟩ rfl (Nat.le_of_ble_eq_true rfl) d_By_fitsInside_29 ⟨Nat.le_of_ble_eq_true rfl, Nat.le_of_ble_eq_true rfl⟩) X Y hA (fun z102 H locs Y p102 => ?_)
    obtain ⟨l102, u102, x102⟩ := p102
    refine lv_bipush (v := iI 48) X.1 X.2.1 d_By_fitsInside_32 (by decide) ?_
    refine z_icmp_ne (tgt := 50) X.1 X.2.1 d_By_fitsInside_34 (by decide) ⟨by omega, by omega⟩ ⟨by omega, by omega⟩ (fun h103 => ?_) (fun h103 => ?_)
    · refine lv_aload_n X.1 X.2.1 d_By_fitsInside_50 rfl (lv_at hl 0 rfl) ?_
      refine lv_iload_n X.1 X.2.1 d_By_fitsInside_51 rfl (lv_at hl 2 rfl) ?_
      refine t_ui (t_runV (As := [.int (iI a2)]) (rest := []) (n := 1) X Y S k0 hml hl.1 (c_By_atX l D E T κ L f H.size h n0 k0 (by omega) a2 (by omega) (by omega) S.1 sz0 g0 (by omega) (by omega)) (ok_k X Y hA KS KR) rfl kl_By_By_at ks_By_at kx_By_at ki_By_at ini_By ⟨rfl, rfl⟩ hd_By_at ⟨by simp only [kRm]; omega, by simp only [kRm]; omega⟩ rfl (Nat.le_of_ble_eq_true rfl) d_By_fitsInside_52 ⟨Nat.le_of_ble_eq_true rfl, Nat.le_of_ble_eq_true rfl⟩) X Y hA (fun z104 H locs Y p104 => ?_)
      obtain ⟨l104, u104, x104⟩ := p104
      refine lv_bipush (v := iI 48) X.1 X.2.1 d_By_fitsInside_55 (by decide) ?_
      refine z_icmp_ne (tgt := 93) X.1 X.2.1 d_By_fitsInside_57 (by decide) ⟨by omega, by omega⟩ ⟨by omega, by omega⟩ (fun h105 => ?_) (fun h105 => ?_)
      · refine lv_iconst (v := iI 0) X.1 X.2.1 d_By_fitsInside_93 (by decide) ?_
        exact c_retz hQQ X Y hr hlk (iI_bool (by omega) (by omega)).1 ⟨rfl, rfl, 0, rfl, ⟨by omega, by omega, fun h9 => absurd h9 (by decide)⟩⟩ d_By_fitsInside_94
      · refine lv_aload_n X.1 X.2.1 d_By_fitsInside_60 rfl (lv_at hl 0 rfl) ?_
        refine lv_iload_n X.1 X.2.1 d_By_fitsInside_61 rfl (lv_at hl 2 rfl) ?_
        refine lv_iload_n X.1 X.2.1 d_By_fitsInside_62 rfl (lv_at hl 3 rfl) ?_
        refine t_ui (t_runV (As := [.int (iI a2), .int (iI a3)]) (rest := []) (n := 2) X Y S k0 hml hl.1 (c_By_stopX l D E T κ L f H.size h n0 k0 (by omega) a2 (by omega) (by omega) a3 (by omega) (by omega) S.1 sz0 g0 (by omega) (by omega)) (ok_k X Y hA KS KR) rfl kl_By_By_stop ks_By_stop kx_By_stop ki_By_stop ini_By ⟨rfl, rfl⟩ hd_By_stop ⟨by simp only [kRm]; omega, by simp only [kRm]; omega⟩ rfl (Nat.le_of_ble_eq_true rfl) d_By_fitsInside_63 ⟨Nat.le_of_ble_eq_true rfl, Nat.le_of_ble_eq_true rfl⟩) X Y hA (fun z106 H locs Y p106 => ?_)
        obtain ⟨l106, u106, x106, st106⟩ := p106
        refine lv_iload_n X.1 X.2.1 d_By_fitsInside_66 rfl (lv_at hl 3 rfl) ?_
        refine z_icmp_ne (tgt := 93) X.1 X.2.1 d_By_fitsInside_67 (by decide) ⟨by omega, by omega⟩ ⟨by omega, by omega⟩ (fun h107 => ?_) (fun h107 => ?_)
        · refine lv_iconst (v := iI 0) X.1 X.2.1 d_By_fitsInside_93 (by decide) ?_
          exact c_retz hQQ X Y hr hlk (iI_bool (by omega) (by omega)).1 ⟨rfl, rfl, 0, rfl, ⟨by omega, by omega, fun h9 => absurd h9 (by decide)⟩⟩ d_By_fitsInside_94
        · refine lv_aload_n X.1 X.2.1 d_By_fitsInside_70 rfl (lv_at hl 0 rfl) ?_
          refine lv_iload_n X.1 X.2.1 d_By_fitsInside_71 rfl (lv_at hl 1 rfl) ?_
          refine t_ur (x_runS (As := [.int (iI a1)]) (rest := [.ref h]) (n := 1) X hml hl.1 (c_By_shapeOfX l D E T κ L f H.size a1 (by omega) (by omega) S.1) (ok_k X Y hA KS KR) kl_By_By_shapeOf ks_By_shapeOf ki_By_shapeOf ini_By ⟨rfl, rfl⟩ hd_By_shapeOf.2 ⟨by simp only [kRm]; omega, by simp only [kRm]; omega⟩ rfl (Nat.le_of_ble_eq_true rfl) d_By_fitsInside_72 ⟨Nat.le_of_ble_eq_true rfl, Nat.le_of_ble_eq_true rfl⟩) X Y hA (fun b108 H locs Y p108 => ?_)
          obtain ⟨y108, k108, q108, yx108⟩ := p108
          subst q108
          refine lv_aload_n X.1 X.2.1 d_By_fitsInside_75 rfl (lv_at hl 0 rfl) ?_
          refine lv_iload_n X.1 X.2.1 d_By_fitsInside_76 rfl (lv_at hl 2 rfl) ?_
          refine t_ui (t_runV (As := [.int (iI a2)]) (rest := [.ref ((T.2.1 y108)), .ref h]) (n := 1) X Y S k0 hml hl.1 (c_By_bodyX l D E T κ L f H.size h n0 k0 (by omega) a2 (by omega) (by omega) S.1 sz0 g0 (by omega) (by omega)) (ok_k X Y hA KS KR) rfl kl_By_By_body ks_By_body kx_By_body ki_By_body ini_By ⟨rfl, rfl⟩ hd_By_body ⟨by simp only [kRm]; omega, by simp only [kRm]; omega⟩ rfl (Nat.le_of_ble_eq_true rfl) d_By_fitsInside_77 ⟨Nat.le_of_ble_eq_true rfl, Nat.le_of_ble_eq_true rfl⟩) X Y hA (fun z109 H locs Y p109 => ?_)
          obtain ⟨l109, u109, x109, st109⟩ := p109
          refine lv_iload_n X.1 X.2.1 d_By_fitsInside_80 rfl (lv_at hl 3 rfl) ?_
          refine lv_iload X.1 X.2.1 d_By_fitsInside_81 (lv_at hl 4 rfl) ?_
          refine t_ui (t_runV (As := [.ref ((T.2.1 y108)), .int (iI z109), .int (iI a3), .int (iI a4)]) (rest := []) (n := 4) X Y S k0 hml hl.1 (c_By_fitsFieldsX d IH l D E T κ L f H.size h n0 k0 (by omega) y108 k108 z109 (by omega) (by omega) a3 (by omega) (by omega) a4 (by omega) (by omega) S.1 sz0 g0 (by omega) (by omega) hd) (ok_k X Y hA KS KR) rfl kl_By_By_fitsFields ks_By_fitsFields kx_By_fitsFields ki_By_fitsFields ini_By ⟨rfl, rfl⟩ hd_By_fitsFields ⟨by simp only [kRm]; omega, by simp only [kRm]; omega⟩ rfl (Nat.le_of_ble_eq_true rfl) d_By_fitsInside_83 ⟨Nat.le_of_ble_eq_true rfl, Nat.le_of_ble_eq_true rfl⟩) X Y hA (fun z110 H locs Y p110 => ?_)
          obtain ⟨l110, u110, x110⟩ := p110
          refine z_if_eq (tgt := 93) X.1 X.2.1 d_By_fitsInside_86 (by decide) ⟨by omega, by omega⟩ (fun h111 => ?_) (fun h111 => ?_)
          · refine lv_iconst (v := iI 0) X.1 X.2.1 d_By_fitsInside_93 (by decide) ?_
            exact c_retz hQQ X Y hr hlk (iI_bool (by omega) (by omega)).1 ⟨rfl, rfl, 0, rfl, ⟨by omega, by omega, fun h9 => absurd h9 (by decide)⟩⟩ d_By_fitsInside_94
          · refine lv_iconst (v := iI 1) X.1 X.2.1 d_By_fitsInside_89 (by decide) ?_
            refine lv_goto (tgt := 94) X.1 X.2.1 d_By_fitsInside_90 (by decide) ?_
            exact c_retz hQQ X Y hr hlk (iI_bool (by omega) (by omega)).1 ⟨rfl, rfl, 1, rfl, ⟨by omega, by omega, fun h9 => ⟨fun h8 => absurd h8 (by omega), fun h8 => absurd h8 (by omega), fun h8 => ((x110 (by omega)).2 (yx108 h8)).elim (fun j hj => ⟨z109, j, (by have q9 := st106; rw [show z106 = a3 by omega] at q9; exact q9), st109, hj⟩)⟩⟩⟩ d_By_fitsInside_94
    · refine lv_aload_n X.1 X.2.1 d_By_fitsInside_37 rfl (lv_at hl 0 rfl) ?_
      refine lv_iload_n X.1 X.2.1 d_By_fitsInside_38 rfl (lv_at hl 1 rfl) ?_
      refine t_ur (x_runS (As := [.int (iI a1)]) (rest := [.ref h]) (n := 1) X hml hl.1 (c_By_shapeOfX l D E T κ L f H.size a1 (by omega) (by omega) S.1) (ok_k X Y hA KS KR) kl_By_By_shapeOf ks_By_shapeOf ki_By_shapeOf ini_By ⟨rfl, rfl⟩ hd_By_shapeOf.2 ⟨by simp only [kRm]; omega, by simp only [kRm]; omega⟩ rfl (Nat.le_of_ble_eq_true rfl) d_By_fitsInside_39 ⟨Nat.le_of_ble_eq_true rfl, Nat.le_of_ble_eq_true rfl⟩) X Y hA (fun b112 H locs Y p112 => ?_)
      obtain ⟨y112, k112, q112, yx112⟩ := p112
      subst q112
      refine lv_iload_n X.1 X.2.1 d_By_fitsInside_42 rfl (lv_at hl 2 rfl) ?_
      refine lv_iload_n X.1 X.2.1 d_By_fitsInside_43 rfl (lv_at hl 3 rfl) ?_
      refine lv_iload X.1 X.2.1 d_By_fitsInside_44 (lv_at hl 4 rfl) ?_
      refine t_ui (t_runV (As := [.ref ((T.2.1 y112)), .int (iI a2), .int (iI a3), .int (iI a4)]) (rest := []) (n := 4) X Y S k0 hml hl.1 (c_By_fitsFieldsX d IH l D E T κ L f H.size h n0 k0 (by omega) y112 k112 a2 (by omega) (by omega) a3 (by omega) (by omega) a4 (by omega) (by omega) S.1 sz0 g0 (by omega) (by omega) hd) (ok_k X Y hA KS KR) rfl kl_By_By_fitsFields ks_By_fitsFields kx_By_fitsFields ki_By_fitsFields ini_By ⟨rfl, rfl⟩ hd_By_fitsFields ⟨by simp only [kRm]; omega, by simp only [kRm]; omega⟩ rfl (Nat.le_of_ble_eq_true rfl) d_By_fitsInside_46 ⟨Nat.le_of_ble_eq_true rfl, Nat.le_of_ble_eq_true rfl⟩) X Y hA (fun z113 H locs Y p113 => ?_)
      obtain ⟨l113, u113, x113⟩ := p113
      exact c_retz hQQ X Y hr hlk (iI_bool (by omega) (by omega)).1 ⟨rfl, rfl, z113, rfl, ⟨by omega, by omega, fun h9 => ⟨fun h8 => (x113 (by omega)).1, fun h8 => absurd h8 (by omega), fun h8 => absurd h8 (by omega)⟩⟩⟩ d_By_fitsInside_49
  · refine lv_iload_n X.1 X.2.1 d_By_fitsInside_6 rfl (lv_at hl 1 rfl) ?_
    refine lv_bipush (v := iI 90) X.1 X.2.1 d_By_fitsInside_7 (by decide) ?_
    refine z_icmp_gt (tgt := 28) X.1 X.2.1 d_By_fitsInside_9 (by decide) ⟨by omega, by omega⟩ ⟨by omega, by omega⟩ (fun h114 => ?_) (fun h114 => ?_)
    · refine lv_iload_n X.1 X.2.1 d_By_fitsInside_28 rfl (lv_at hl 1 rfl) ?_
      refine t_ui (x_runS (As := [.int (iI a1)]) (rest := []) (n := 1) X hml hl.1 (c_By_tagOfX l D E T κ L f H.size a1 (by omega) (by omega) S.1) (ok_k X Y hA KS KR) kl_By_By_tagOf ks_By_tagOf ki_By_tagOf ini_By ⟨rfl, rfl⟩ hd_By_tagOf.2 ⟨by simp only [kRm]; omega, by simp only [kRm]; omega⟩ rfl (Nat.le_of_ble_eq_true rfl) d_By_fitsInside_29 ⟨Nat.le_of_ble_eq_true rfl, Nat.le_of_ble_eq_true rfl⟩) X Y hA (fun z115 H locs Y p115 => ?_)
      obtain ⟨l115, u115, x115⟩ := p115
      refine lv_bipush (v := iI 48) X.1 X.2.1 d_By_fitsInside_32 (by decide) ?_
      refine z_icmp_ne (tgt := 50) X.1 X.2.1 d_By_fitsInside_34 (by decide) ⟨by omega, by omega⟩ ⟨by omega, by omega⟩ (fun h116 => ?_) (fun h116 => ?_)
      · refine lv_aload_n X.1 X.2.1 d_By_fitsInside_50 rfl (lv_at hl 0 rfl) ?_
        refine lv_iload_n X.1 X.2.1 d_By_fitsInside_51 rfl (lv_at hl 2 rfl) ?_
        refine t_ui (t_runV (As := [.int (iI a2)]) (rest := []) (n := 1) X Y S k0 hml hl.1 (c_By_atX l D E T κ L f H.size h n0 k0 (by omega) a2 (by omega) (by omega) S.1 sz0 g0 (by omega) (by omega)) (ok_k X Y hA KS KR) rfl kl_By_By_at ks_By_at kx_By_at ki_By_at ini_By ⟨rfl, rfl⟩ hd_By_at ⟨by simp only [kRm]; omega, by simp only [kRm]; omega⟩ rfl (Nat.le_of_ble_eq_true rfl) d_By_fitsInside_52 ⟨Nat.le_of_ble_eq_true rfl, Nat.le_of_ble_eq_true rfl⟩) X Y hA (fun z117 H locs Y p117 => ?_)
        obtain ⟨l117, u117, x117⟩ := p117
        refine lv_bipush (v := iI 48) X.1 X.2.1 d_By_fitsInside_55 (by decide) ?_
        refine z_icmp_ne (tgt := 93) X.1 X.2.1 d_By_fitsInside_57 (by decide) ⟨by omega, by omega⟩ ⟨by omega, by omega⟩ (fun h118 => ?_) (fun h118 => ?_)
        · refine lv_iconst (v := iI 0) X.1 X.2.1 d_By_fitsInside_93 (by decide) ?_
          exact c_retz hQQ X Y hr hlk (iI_bool (by omega) (by omega)).1 ⟨rfl, rfl, 0, rfl, ⟨by omega, by omega, fun h9 => absurd h9 (by decide)⟩⟩ d_By_fitsInside_94
        · refine lv_aload_n X.1 X.2.1 d_By_fitsInside_60 rfl (lv_at hl 0 rfl) ?_
          refine lv_iload_n X.1 X.2.1 d_By_fitsInside_61 rfl (lv_at hl 2 rfl) ?_
          refine lv_iload_n X.1 X.2.1 d_By_fitsInside_62 rfl (lv_at hl 3 rfl) ?_
          refine t_ui (t_runV (As := [.int (iI a2), .int (iI a3)]) (rest := []) (n := 2) X Y S k0 hml hl.1 (c_By_stopX l D E T κ L f H.size h n0 k0 (by omega) a2 (by omega) (by omega) a3 (by omega) (by omega) S.1 sz0 g0 (by omega) (by omega)) (ok_k X Y hA KS KR) rfl kl_By_By_stop ks_By_stop kx_By_stop ki_By_stop ini_By ⟨rfl, rfl⟩ hd_By_stop ⟨by simp only [kRm]; omega, by simp only [kRm]; omega⟩ rfl (Nat.le_of_ble_eq_true rfl) d_By_fitsInside_63 ⟨Nat.le_of_ble_eq_true rfl, Nat.le_of_ble_eq_true rfl⟩) X Y hA (fun z119 H locs Y p119 => ?_)
          obtain ⟨l119, u119, x119, st119⟩ := p119
          refine lv_iload_n X.1 X.2.1 d_By_fitsInside_66 rfl (lv_at hl 3 rfl) ?_
          refine z_icmp_ne (tgt := 93) X.1 X.2.1 d_By_fitsInside_67 (by decide) ⟨by omega, by omega⟩ ⟨by omega, by omega⟩ (fun h120 => ?_) (fun h120 => ?_)
          · refine lv_iconst (v := iI 0) X.1 X.2.1 d_By_fitsInside_93 (by decide) ?_
            exact c_retz hQQ X Y hr hlk (iI_bool (by omega) (by omega)).1 ⟨rfl, rfl, 0, rfl, ⟨by omega, by omega, fun h9 => absurd h9 (by decide)⟩⟩ d_By_fitsInside_94
          · refine lv_aload_n X.1 X.2.1 d_By_fitsInside_70 rfl (lv_at hl 0 rfl) ?_
            refine lv_iload_n X.1 X.2.1 d_By_fitsInside_71 rfl (lv_at hl 1 rfl) ?_
            refine t_ur (x_runS (As := [.int (iI a1)]) (rest := [.ref h]) (n := 1) X hml hl.1 (c_By_shapeOfX l D E T κ L f H.size a1 (by omega) (by omega) S.1) (ok_k X Y hA KS KR) kl_By_By_shapeOf ks_By_shapeOf ki_By_shapeOf ini_By ⟨rfl, rfl⟩ hd_By_shapeOf.2 ⟨by simp only [kRm]; omega, by simp only [kRm]; omega⟩ rfl (Nat.le_of_ble_eq_true rfl) d_By_fitsInside_72 ⟨Nat.le_of_ble_eq_true rfl, Nat.le_of_ble_eq_true rfl⟩) X Y hA (fun b121 H locs Y p121 => ?_)
            obtain ⟨y121, k121, q121, yx121⟩ := p121
            subst q121
            refine lv_aload_n X.1 X.2.1 d_By_fitsInside_75 rfl (lv_at hl 0 rfl) ?_
            refine lv_iload_n X.1 X.2.1 d_By_fitsInside_76 rfl (lv_at hl 2 rfl) ?_
            refine t_ui (t_runV (As := [.int (iI a2)]) (rest := [.ref ((T.2.1 y121)), .ref h]) (n := 1) X Y S k0 hml hl.1 (c_By_bodyX l D E T κ L f H.size h n0 k0 (by omega) a2 (by omega) (by omega) S.1 sz0 g0 (by omega) (by omega)) (ok_k X Y hA KS KR) rfl kl_By_By_body ks_By_body kx_By_body ki_By_body ini_By ⟨rfl, rfl⟩ hd_By_body ⟨by simp only [kRm]; omega, by simp only [kRm]; omega⟩ rfl (Nat.le_of_ble_eq_true rfl) d_By_fitsInside_77 ⟨Nat.le_of_ble_eq_true rfl, Nat.le_of_ble_eq_true rfl⟩) X Y hA (fun z122 H locs Y p122 => ?_)
            obtain ⟨l122, u122, x122, st122⟩ := p122
            refine lv_iload_n X.1 X.2.1 d_By_fitsInside_80 rfl (lv_at hl 3 rfl) ?_
            refine lv_iload X.1 X.2.1 d_By_fitsInside_81 (lv_at hl 4 rfl) ?_
            refine t_ui (t_runV (As := [.ref ((T.2.1 y121)), .int (iI z122), .int (iI a3), .int (iI a4)]) (rest := []) (n := 4) X Y S k0 hml hl.1 (c_By_fitsFieldsX d IH l D E T κ L f H.size h n0 k0 (by omega) y121 k121 z122 (by omega) (by omega) a3 (by omega) (by omega) a4 (by omega) (by omega) S.1 sz0 g0 (by omega) (by omega) hd) (ok_k X Y hA KS KR) rfl kl_By_By_fitsFields ks_By_fitsFields kx_By_fitsFields ki_By_fitsFields ini_By ⟨rfl, rfl⟩ hd_By_fitsFields ⟨by simp only [kRm]; omega, by simp only [kRm]; omega⟩ rfl (Nat.le_of_ble_eq_true rfl) d_By_fitsInside_83 ⟨Nat.le_of_ble_eq_true rfl, Nat.le_of_ble_eq_true rfl⟩) X Y hA (fun z123 H locs Y p123 => ?_)
            obtain ⟨l123, u123, x123⟩ := p123
            refine z_if_eq (tgt := 93) X.1 X.2.1 d_By_fitsInside_86 (by decide) ⟨by omega, by omega⟩ (fun h124 => ?_) (fun h124 => ?_)
            · refine lv_iconst (v := iI 0) X.1 X.2.1 d_By_fitsInside_93 (by decide) ?_
              exact c_retz hQQ X Y hr hlk (iI_bool (by omega) (by omega)).1 ⟨rfl, rfl, 0, rfl, ⟨by omega, by omega, fun h9 => absurd h9 (by decide)⟩⟩ d_By_fitsInside_94
            · refine lv_iconst (v := iI 1) X.1 X.2.1 d_By_fitsInside_89 (by decide) ?_
              refine lv_goto (tgt := 94) X.1 X.2.1 d_By_fitsInside_90 (by decide) ?_
              exact c_retz hQQ X Y hr hlk (iI_bool (by omega) (by omega)).1 ⟨rfl, rfl, 1, rfl, ⟨by omega, by omega, fun h9 => ⟨fun h8 => absurd h8 (by omega), fun h8 => absurd h8 (by omega), fun h8 => ((x123 (by omega)).2 (yx121 h8)).elim (fun j hj => ⟨z122, j, (by have q9 := st119; rw [show z119 = a3 by omega] at q9; exact q9), st122, hj⟩)⟩⟩⟩ d_By_fitsInside_94
      · refine lv_aload_n X.1 X.2.1 d_By_fitsInside_37 rfl (lv_at hl 0 rfl) ?_
        refine lv_iload_n X.1 X.2.1 d_By_fitsInside_38 rfl (lv_at hl 1 rfl) ?_
        refine t_ur (x_runS (As := [.int (iI a1)]) (rest := [.ref h]) (n := 1) X hml hl.1 (c_By_shapeOfX l D E T κ L f H.size a1 (by omega) (by omega) S.1) (ok_k X Y hA KS KR) kl_By_By_shapeOf ks_By_shapeOf ki_By_shapeOf ini_By ⟨rfl, rfl⟩ hd_By_shapeOf.2 ⟨by simp only [kRm]; omega, by simp only [kRm]; omega⟩ rfl (Nat.le_of_ble_eq_true rfl) d_By_fitsInside_39 ⟨Nat.le_of_ble_eq_true rfl, Nat.le_of_ble_eq_true rfl⟩) X Y hA (fun b125 H locs Y p125 => ?_)
        obtain ⟨y125, k125, q125, yx125⟩ := p125
        subst q125
        refine lv_iload_n X.1 X.2.1 d_By_fitsInside_42 rfl (lv_at hl 2 rfl) ?_
        refine lv_iload_n X.1 X.2.1 d_By_fitsInside_43 rfl (lv_at hl 3 rfl) ?_
        refine lv_iload X.1 X.2.1 d_By_fitsInside_44 (lv_at hl 4 rfl) ?_
        refine t_ui (t_runV (As := [.ref ((T.2.1 y125)), .int (iI a2), .int (iI a3), .int (iI a4)]) (rest := []) (n := 4) X Y S k0 hml hl.1 (c_By_fitsFieldsX d IH l D E T κ L f H.size h n0 k0 (by omega) y125 k125 a2 (by omega) (by omega) a3 (by omega) (by omega) a4 (by omega) (by omega) S.1 sz0 g0 (by omega) (by omega) hd) (ok_k X Y hA KS KR) rfl kl_By_By_fitsFields ks_By_fitsFields kx_By_fitsFields ki_By_fitsFields ini_By ⟨rfl, rfl⟩ hd_By_fitsFields ⟨by simp only [kRm]; omega, by simp only [kRm]; omega⟩ rfl (Nat.le_of_ble_eq_true rfl) d_By_fitsInside_46 ⟨Nat.le_of_ble_eq_true rfl, Nat.le_of_ble_eq_true rfl⟩) X Y hA (fun z126 H locs Y p126 => ?_)
        obtain ⟨l126, u126, x126⟩ := p126
        exact c_retz hQQ X Y hr hlk (iI_bool (by omega) (by omega)).1 ⟨rfl, rfl, z126, rfl, ⟨by omega, by omega, fun h9 => ⟨fun h8 => (x126 (by omega)).1, fun h8 => absurd h8 (by omega), fun h8 => absurd h8 (by omega)⟩⟩⟩ d_By_fitsInside_49
    · refine lv_aload_n X.1 X.2.1 d_By_fitsInside_12 rfl (lv_at hl 0 rfl) ?_
      refine lv_iload_n X.1 X.2.1 d_By_fitsInside_13 rfl (lv_at hl 1 rfl) ?_
      refine lv_bipush (v := iI 65) X.1 X.2.1 d_By_fitsInside_14 (by decide) ?_
      refine z_isub X.1 X.2.1 d_By_fitsInside_16 ?_
      refine lv_bipush (v := iI 97) X.1 X.2.1 d_By_fitsInside_17 (by decide) ?_
      refine z_iadd X.1 X.2.1 d_By_fitsInside_19 ?_
      refine lv_iload_n X.1 X.2.1 d_By_fitsInside_20 rfl (lv_at hl 2 rfl) ?_
      refine lv_iload_n X.1 X.2.1 d_By_fitsInside_21 rfl (lv_at hl 3 rfl) ?_
      refine lv_iload X.1 X.2.1 d_By_fitsInside_22 (lv_at hl 4 rfl) ?_
      refine t_ui (t_runV (As := [.int (iI ((a1 - 65) + 97)), .int (iI a2), .int (iI a3), .int (iI a4)]) (rest := []) (n := 4) X Y S k0 hml hl.1 (c_By_fitsRowX d IH l D E T κ L f H.size h n0 k0 (by omega) ((a1 - 65) + 97) (by omega) (by omega) a2 (by omega) (by omega) a3 (by omega) (by omega) a4 (by omega) (by omega) S.1 sz0 g0 (by omega) (by omega) hd) (ok_k X Y hA KS KR) rfl kl_By_By_fitsRow ks_By_fitsRow kx_By_fitsRow ki_By_fitsRow ini_By ⟨rfl, rfl⟩ hd_By_fitsRow ⟨by simp only [kRm]; omega, by simp only [kRm]; omega⟩ rfl (Nat.le_of_ble_eq_true rfl) d_By_fitsInside_24 ⟨Nat.le_of_ble_eq_true rfl, Nat.le_of_ble_eq_true rfl⟩) X Y hA (fun z127 H locs Y p127 => ?_)
      obtain ⟨l127, u127, x127⟩ := p127
      exact c_retz hQQ X Y hr hlk (iI_bool (by omega) (by omega)).1 ⟨rfl, rfl, z127, rfl, ⟨by omega, by omega, fun h9 => ⟨fun h8 => absurd h8 (by omega), fun h8 => x127 (by omega) (by omega), fun h8 => absurd h8 (by omega)⟩⟩⟩ d_By_fitsInside_27
set_option maxHeartbeats 4000000 in
set_option maxRecDepth 100000 in
theorem c_By_fits0X (l : Launch) (D : va_G) (E : cE) (T : cT) (κ : tK) (L : List Nat) (f : pF) (sz : Nat) (h n0 : Nat) (k0 : κ h = (13, n0)) (x0 : n0 ≤ 12288) (a1 : Int) (l_a1 : (-2147483648) ≤ a1) (u_a1 : a1 ≤ 2147483647) (a2 : Int) (l_a2 : (-1) ≤ a2) (u_a2 : a2 ≤ 20200) (a3 : Int) (l_a3 : (-1) ≤ a3) (u_a3 : a3 ≤ 20200) (a4 : Int) (l_a4 : 21 ≤ a4) (u_a4 : a4 ≤ 21) (hw : tW E T κ L f) (sz0 : Int) (g0 : gF f h 1 = .int (iI sz0)) (g1 : 0 ≤ sz0) (g2 : sz0 ≤ (n0 : Int)) : Met l y_By_fits (k_By_fits :: lw_tg) (kRm 6 110 0 0) (va_Pc [.ref h, .int (iI a1), .int (iI a2), .int (iI a3), .int (iI a4)] (kPre D E T L f sz)) (va_Qi (uPi L f (fun (z : Int) => 0 ≤ z ∧ z ≤ 1 ∧ (z = 1 → FitP (rb f h) sz0 a1 a2 a3))) (cPost D E (pA L sz)) (pA L sz)) 0 0 (pA L sz) := by
  refine k_enter (own := R_By) (by decide) rfl (Nat.le_of_ble_eq_true rfl) (fun p e s m below meth c ls AV QQ H locs hQQ X Y hA hin hr hlk hml hl KS KR => ?_)
  have hl : lv_has ls 7 [(0, .ref h), (1, .int (iI a1)), (2, .int (iI a2)), (3, .int (iI a3)), (4, .int (iI a4))] := hl
  have S : tS E T (tFr κ L [] []) κ L f κ L f := tS_rf hw
  refine lv_iload X.1 X.2.1 d_By_fits_0 (lv_at hl 4 rfl) ?_
  refine lv_bipush (v := iI 20) X.1 X.2.1 d_By_fits_2 (by decide) ?_
  refine z_icmp_gt (tgt := 21) X.1 X.2.1 d_By_fits_4 (by decide) ⟨by omega, by omega⟩ ⟨by omega, by omega⟩ (fun h101 => ?_) (fun h101 => False.elim (by omega))
  · refine lv_iconst (v := iI 0) X.1 X.2.1 d_By_fits_21 (by decide) ?_
    exact c_retz hQQ X Y hr hlk (iI_bool (by omega) (by omega)).1 ⟨rfl, rfl, 0, rfl, ⟨by omega, by omega, fun h9 => absurd h9 (by decide)⟩⟩ d_By_fits_22
set_option maxHeartbeats 4000000 in
set_option maxRecDepth 100000 in
theorem c_By_fitsX (d : Nat) (IH : C_fitsX d) (l : Launch) (D : va_G) (E : cE) (T : cT) (κ : tK) (L : List Nat) (f : pF) (sz : Nat) (h n0 : Nat) (k0 : κ h = (13, n0)) (x0 : n0 ≤ 12288) (a1 : Int) (l_a1 : (-2147483648) ≤ a1) (u_a1 : a1 ≤ 2147483647) (a2 : Int) (l_a2 : (-1) ≤ a2) (u_a2 : a2 ≤ 20200) (a3 : Int) (l_a3 : (-1) ≤ a3) (u_a3 : a3 ≤ 20200) (a4 : Int) (l_a4 : 0 ≤ a4) (u_a4 : a4 ≤ 21) (hw : tW E T κ L f) (sz0 : Int) (g0 : gF f h 1 = .int (iI sz0)) (g1 : 0 ≤ sz0) (g2 : sz0 ≤ (n0 : Int)) (hd : 21 ≤ a4 + (d + 1)) (q0 : 0 ≤ a3 ∨ a2 < 0) : Met l y_By_fits (k_By_fits :: lw_tg) (kRm (6 + 3 * d + 3) (110 + 100 * d + 100) 0 0) (va_Pc [.ref h, .int (iI a1), .int (iI a2), .int (iI a3), .int (iI a4)] (kPre D E T L f sz)) (va_Qi (uPi L f (fun (z : Int) => 0 ≤ z ∧ z ≤ 1 ∧ (z = 1 → FitP (rb f h) sz0 a1 a2 a3))) (cPost D E (pA L sz)) (pA L sz)) 0 0 (pA L sz) := by
  refine k_enter (own := R_By) (by decide) rfl (Nat.le_of_ble_eq_true rfl) (fun p e s m below meth c ls AV QQ H locs hQQ X Y hA hin hr hlk hml hl KS KR => ?_)
  have hl : lv_has ls 7 [(0, .ref h), (1, .int (iI a1)), (2, .int (iI a2)), (3, .int (iI a3)), (4, .int (iI a4))] := hl
  have S : tS E T (tFr κ L [] []) κ L f κ L f := tS_rf hw
  refine lv_iload X.1 X.2.1 d_By_fits_0 (lv_at hl 4 rfl) ?_
  refine lv_bipush (v := iI 20) X.1 X.2.1 d_By_fits_2 (by decide) ?_
  refine z_icmp_gt (tgt := 21) X.1 X.2.1 d_By_fits_4 (by decide) ⟨by omega, by omega⟩ ⟨by omega, by omega⟩ (fun h101 => ?_) (fun h101 => ?_)
  · refine lv_iconst (v := iI 0) X.1 X.2.1 d_By_fits_21 (by decide) ?_
    exact c_retz hQQ X Y hr hlk (iI_bool (by omega) (by omega)).1 ⟨rfl, rfl, 0, rfl, ⟨by omega, by omega, fun h9 => absurd h9 (by decide)⟩⟩ d_By_fits_22
  · refine lv_iload_n X.1 X.2.1 d_By_fits_7 rfl (lv_at hl 2 rfl) ?_
    refine z_if_lt (tgt := 21) X.1 X.2.1 d_By_fits_8 (by decide) ⟨by omega, by omega⟩ (fun h102 => ?_) (fun h102 => ?_)
    · refine lv_iconst (v := iI 0) X.1 X.2.1 d_By_fits_21 (by decide) ?_
      exact c_retz hQQ X Y hr hlk (iI_bool (by omega) (by omega)).1 ⟨rfl, rfl, 0, rfl, ⟨by omega, by omega, fun h9 => absurd h9 (by decide)⟩⟩ d_By_fits_22
    · refine lv_aload_n X.1 X.2.1 d_By_fits_11 rfl (lv_at hl 0 rfl) ?_
      refine lv_iload_n X.1 X.2.1 d_By_fits_12 rfl (lv_at hl 2 rfl) ?_
      refine lv_iload_n X.1 X.2.1 d_By_fits_13 rfl (lv_at hl 3 rfl) ?_
      refine t_ui (t_runV (As := [.int (iI a2), .int (iI a3)]) (rest := []) (n := 2) X Y S k0 hml hl.1 (c_By_stopX l D E T κ L f H.size h n0 k0 (by omega) a2 (by omega) (by omega) a3 (by omega) (by omega) S.1 sz0 g0 (by omega) (by omega)) (ok_k X Y hA KS KR) rfl kl_By_By_stop ks_By_stop kx_By_stop ki_By_stop ini_By ⟨rfl, rfl⟩ hd_By_stop ⟨by simp only [kRm]; omega, by simp only [kRm]; omega⟩ rfl (Nat.le_of_ble_eq_true rfl) d_By_fits_14 ⟨Nat.le_of_ble_eq_true rfl, Nat.le_of_ble_eq_true rfl⟩) X Y hA (fun z103 H locs Y p103 => ?_)
      obtain ⟨l103, u103, x103, st103⟩ := p103
      refine lv_iload_n X.1 X.2.1 d_By_fits_17 rfl (lv_at hl 3 rfl) ?_
      refine z_icmp_eq (tgt := 23) X.1 X.2.1 d_By_fits_18 (by decide) ⟨by omega, by omega⟩ ⟨by omega, by omega⟩ (fun h104 => ?_) (fun h104 => ?_)
      · refine lv_aload_n X.1 X.2.1 d_By_fits_23 rfl (lv_at hl 0 rfl) ?_
        refine t_getrow (ci := 3) X Y S k0 rfl i_By 0 (by decide) rfl lk_By_15 (fun _ h9 => h9) d_By_fits_24 (fun b105 e105 k105 => ?_)
        refine lv_iload_n X.1 X.2.1 d_By_fits_27 rfl (lv_at hl 2 rfl) ?_
        refine t_baldx X Y S k105 (by omega) (by omega) (by omega) d_By_fits_28 (fun z106 q106 l106 u106 => ?_)
        refine lv_sipush (v := iI 255) X.1 X.2.1 d_By_fits_29 (by decide) ?_
        refine z_iand255 X.1 X.2.1 d_By_fits_32 ?_
        have r107 : z106 % 256 = rb f h a2 := by rw [rb_of e105, q106, show (a2 : Int) = a2 by omega]
        refine lv_istore (lv' := [(5, .int (iI (z106 % 256))), (0, .ref h), (1, .int (iI a1)), (2, .int (iI a2)), (3, .int (iI a3)), (4, .int (iI a4))]) X.1 X.2.1 d_By_fits_33 hl (by decide) rfl (fun ls hl => ?_)
        refine lv_aload_n X.1 X.2.1 d_By_fits_35 rfl (lv_at hl 1 rfl) ?_
        refine lv_iload_n X.1 X.2.1 d_By_fits_36 rfl (lv_at hl 3 rfl) ?_
        refine t_ui (t_runV (As := [.int (iI a2)]) (rest := []) (n := 1) X Y S k0 hml hl.1 (c_By_bodyX l D E T κ L f H.size h n0 k0 (by omega) a2 (by omega) (by omega) S.1 sz0 g0 (by omega) (by omega)) (ok_k X Y hA KS KR) rfl kl_By_By_body ks_By_body kx_By_body ki_By_body ini_By ⟨rfl, rfl⟩ hd_By_body ⟨by simp only [kRm]; omega, by simp only [kRm]; omega⟩ rfl (Nat.le_of_ble_eq_true rfl) d_By_fits_37 ⟨Nat.le_of_ble_eq_true rfl, Nat.le_of_ble_eq_true rfl⟩) X Y hA (fun z108 H locs Y p108 => ?_)
        obtain ⟨l108, u108, x108, st108⟩ := p108
        refine lv_istore (lv' := [(6, .int (iI z108)), (5, .int (iI (z106 % 256))), (0, .ref h), (1, .int (iI a1)), (2, .int (iI a2)), (3, .int (iI a3)), (4, .int (iI a4))]) X.1 X.2.1 d_By_fits_40 hl (by decide) rfl (fun ls hl => ?_)
        refine lv_iload_n X.1 X.2.1 d_By_fits_42 rfl (lv_at hl 3 rfl) ?_
        by_cases h109 : a1 = 98
        · rw [h109]
          refine lv_tableIn (off := 219) (tgt := 262) X.1 X.2.1 d_By_fits_43 (by decide) (by decide) (by decide) (by decide) ?_
          refine lv_iload X.1 X.2.1 d_By_fits_262 (lv_at hl 1 rfl) ?_
          refine lv_iconst (v := iI 3) X.1 X.2.1 d_By_fits_264 (by decide) ?_
          refine z_icmp_ne (tgt := 290) X.1 X.2.1 d_By_fits_265 (by decide) ⟨by omega, by omega⟩ ⟨by omega, by omega⟩ (fun h110 => ?_) (fun h110 => ?_)
          · refine lv_iconst (v := iI 0) X.1 X.2.1 d_By_fits_290 (by decide) ?_
            exact c_retz hQQ X Y hr hlk (iI_bool (by omega) (by omega)).1 ⟨rfl, rfl, 0, rfl, ⟨by omega, by omega, fun h9 => absurd h9 (by decide)⟩⟩ d_By_fits_291
          · refine lv_iload_n X.1 X.2.1 d_By_fits_268 rfl (lv_at hl 5 rfl) ?_
            refine lv_iload X.1 X.2.1 d_By_fits_269 (lv_at hl 0 rfl) ?_
            refine z_isub X.1 X.2.1 d_By_fits_271 ?_
            refine lv_iconst (v := iI 5) X.1 X.2.1 d_By_fits_272 (by decide) ?_
            refine z_icmp_lt (tgt := 290) X.1 X.2.1 d_By_fits_273 (by decide) ⟨by omega, by omega⟩ ⟨by omega, by omega⟩ (fun h111 => ?_) (fun h111 => ?_)
            · refine lv_iconst (v := iI 0) X.1 X.2.1 d_By_fits_290 (by decide) ?_
              exact c_retz hQQ X Y hr hlk (iI_bool (by omega) (by omega)).1 ⟨rfl, rfl, 0, rfl, ⟨by omega, by omega, fun h9 => absurd h9 (by decide)⟩⟩ d_By_fits_291
            · refine lv_aload_n X.1 X.2.1 d_By_fits_276 rfl (lv_at hl 2 rfl) ?_
              refine t_get0 (ci := 3) X Y S k0 rfl i_By 0 (by decide) rfl lk_By_15 (fun _ h9 => h9) d_By_fits_277 e105 ?_
              refine lv_iload X.1 X.2.1 d_By_fits_280 (lv_at hl 0 rfl) ?_
              refine t_baldx X Y S k105 (by omega) (by omega) (by omega) d_By_fits_282 (fun z112 q112 l112 u112 => ?_)
              refine z_if_ne (tgt := 290) X.1 X.2.1 d_By_fits_283 (by decide) ⟨by omega, by omega⟩ (fun h113 => ?_) (fun h113 => ?_)
              · refine lv_iconst (v := iI 0) X.1 X.2.1 d_By_fits_290 (by decide) ?_
                exact c_retz hQQ X Y hr hlk (iI_bool (by omega) (by omega)).1 ⟨rfl, rfl, 0, rfl, ⟨by omega, by omega, fun h9 => absurd h9 (by decide)⟩⟩ d_By_fits_291
              · refine lv_iconst (v := iI 1) X.1 X.2.1 d_By_fits_286 (by decide) ?_
                refine lv_goto (tgt := 291) X.1 X.2.1 d_By_fits_287 (by decide) ?_
                exact c_retz hQQ X Y hr hlk (iI_bool (by omega) (by omega)).1 ⟨rfl, rfl, 1, rfl, ⟨by omega, by omega, fun h9 => FitP_leaf (by have q9 := st103; rw [show z103 = a3 by omega] at q9; exact q9) (by omega) (by omega) (by omega) (by omega)⟩⟩ d_By_fits_291
        by_cases h114 : a1 = 99
        · rw [h114]
          refine lv_tableIn (off := 261) (tgt := 304) X.1 X.2.1 d_By_fits_43 (by decide) (by decide) (by decide) (by decide) ?_
          refine lv_iload X.1 X.2.1 d_By_fits_304 (lv_at hl 1 rfl) ?_
          refine lv_iload_n X.1 X.2.1 d_By_fits_306 rfl (lv_at hl 3 rfl) ?_
          refine t_ui (x_runS (As := [.int (iI a1)]) (rest := [.int (iI (z106 % 256))]) (n := 1) X hml hl.1 (c_By_tagOfX l D E T κ L f H.size a1 (by omega) (by omega) S.1) (ok_k X Y hA KS KR) kl_By_By_tagOf ks_By_tagOf ki_By_tagOf ini_By ⟨rfl, rfl⟩ hd_By_tagOf.2 ⟨by simp only [kRm]; omega, by simp only [kRm]; omega⟩ rfl (Nat.le_of_ble_eq_true rfl) d_By_fits_307 ⟨Nat.le_of_ble_eq_true rfl, Nat.le_of_ble_eq_true rfl⟩) X Y hA (fun z115 H locs Y p115 => ?_)
          obtain ⟨l115, u115, x115⟩ := p115
          refine z_icmp_ne (tgt := 330) X.1 X.2.1 d_By_fits_310 (by decide) ⟨by omega, by omega⟩ ⟨by omega, by omega⟩ (fun h116 => ?_) (fun h116 => ?_)
          · refine lv_iconst (v := iI 0) X.1 X.2.1 d_By_fits_330 (by decide) ?_
            exact c_retz hQQ X Y hr hlk (iI_bool (by omega) (by omega)).1 ⟨rfl, rfl, 0, rfl, ⟨by omega, by omega, fun h9 => absurd h9 (by decide)⟩⟩ d_By_fits_331
          · refine lv_aload_n X.1 X.2.1 d_By_fits_313 rfl (lv_at hl 2 rfl) ?_
            refine lv_iload_n X.1 X.2.1 d_By_fits_314 rfl (lv_at hl 3 rfl) ?_
            refine lv_iload X.1 X.2.1 d_By_fits_315 (lv_at hl 0 rfl) ?_
            refine lv_iload_n X.1 X.2.1 d_By_fits_317 rfl (lv_at hl 5 rfl) ?_
            refine lv_iload X.1 X.2.1 d_By_fits_318 (lv_at hl 6 rfl) ?_
            refine t_ui (t_runV (As := [.int (iI a1), .int (iI z108), .int (iI a3), .int (iI a4)]) (rest := []) (n := 4) X Y S k0 hml hl.1 (c_By_fitsInsideX d IH l D E T κ L f H.size h n0 k0 (by omega) a1 (by omega) (by omega) z108 (by omega) (by omega) a3 (by omega) (by omega) a4 (by omega) (by omega) S.1 sz0 g0 (by omega) (by omega) hd) (ok_k X Y hA KS KR) rfl kl_By_By_fitsInside ks_By_fitsInside kx_By_fitsInside ki_By_fitsInside ini_By ⟨rfl, rfl⟩ hd_By_fitsInside ⟨by simp only [kRm]; omega, by simp only [kRm]; omega⟩ rfl (Nat.le_of_ble_eq_true rfl) d_By_fits_320 ⟨Nat.le_of_ble_eq_true rfl, Nat.le_of_ble_eq_true rfl⟩) X Y hA (fun z117 H locs Y p117 => ?_)
            obtain ⟨l117, u117, x117⟩ := p117
            refine z_if_eq (tgt := 330) X.1 X.2.1 d_By_fits_323 (by decide) ⟨by omega, by omega⟩ (fun h118 => ?_) (fun h118 => ?_)
            · refine lv_iconst (v := iI 0) X.1 X.2.1 d_By_fits_330 (by decide) ?_
              exact c_retz hQQ X Y hr hlk (iI_bool (by omega) (by omega)).1 ⟨rfl, rfl, 0, rfl, ⟨by omega, by omega, fun h9 => absurd h9 (by decide)⟩⟩ d_By_fits_331
            · refine lv_iconst (v := iI 1) X.1 X.2.1 d_By_fits_326 (by decide) ?_
              refine lv_goto (tgt := 331) X.1 X.2.1 d_By_fits_327 (by decide) ?_
              exact c_retz hQQ X Y hr hlk (iI_bool (by omega) (by omega)).1 ⟨rfl, rfl, 1, rfl, ⟨by omega, by omega, fun h9 => FitP_of (by have q9 := st103; rw [show z103 = a3 by omega] at q9; exact q9) st108 (x117 (by omega)) x115 (by omega)⟩⟩ d_By_fits_331
        by_cases h119 : a1 = 100
        · rw [h119]
          refine lv_tableIn (off := 261) (tgt := 304) X.1 X.2.1 d_By_fits_43 (by decide) (by decide) (by decide) (by decide) ?_
          refine lv_iload X.1 X.2.1 d_By_fits_304 (lv_at hl 1 rfl) ?_
          refine lv_iload_n X.1 X.2.1 d_By_fits_306 rfl (lv_at hl 3 rfl) ?_
          refine t_ui (x_runS (As := [.int (iI a1)]) (rest := [.int (iI (z106 % 256))]) (n := 1) X hml hl.1 (c_By_tagOfX l D E T κ L f H.size a1 (by omega) (by omega) S.1) (ok_k X Y hA KS KR) kl_By_By_tagOf ks_By_tagOf ki_By_tagOf ini_By ⟨rfl, rfl⟩ hd_By_tagOf.2 ⟨by simp only [kRm]; omega, by simp only [kRm]; omega⟩ rfl (Nat.le_of_ble_eq_true rfl) d_By_fits_307 ⟨Nat.le_of_ble_eq_true rfl, Nat.le_of_ble_eq_true rfl⟩) X Y hA (fun z120 H locs Y p120 => ?_)
          obtain ⟨l120, u120, x120⟩ := p120
          refine z_icmp_ne (tgt := 330) X.1 X.2.1 d_By_fits_310 (by decide) ⟨by omega, by omega⟩ ⟨by omega, by omega⟩ (fun h121 => ?_) (fun h121 => ?_)
          · refine lv_iconst (v := iI 0) X.1 X.2.1 d_By_fits_330 (by decide) ?_
            exact c_retz hQQ X Y hr hlk (iI_bool (by omega) (by omega)).1 ⟨rfl, rfl, 0, rfl, ⟨by omega, by omega, fun h9 => absurd h9 (by decide)⟩⟩ d_By_fits_331
          · refine lv_aload_n X.1 X.2.1 d_By_fits_313 rfl (lv_at hl 2 rfl) ?_
            refine lv_iload_n X.1 X.2.1 d_By_fits_314 rfl (lv_at hl 3 rfl) ?_
            refine lv_iload X.1 X.2.1 d_By_fits_315 (lv_at hl 0 rfl) ?_
            refine lv_iload_n X.1 X.2.1 d_By_fits_317 rfl (lv_at hl 5 rfl) ?_
            refine lv_iload X.1 X.2.1 d_By_fits_318 (lv_at hl 6 rfl) ?_
            refine t_ui (t_runV (As := [.int (iI a1), .int (iI z108), .int (iI a3), .int (iI a4)]) (rest := []) (n := 4) X Y S k0 hml hl.1 (c_By_fitsInsideX d IH l D E T κ L f H.size h n0 k0 (by omega) a1 (by omega) (by omega) z108 (by omega) (by omega) a3 (by omega) (by omega) a4 (by omega) (by omega) S.1 sz0 g0 (by omega) (by omega) hd) (ok_k X Y hA KS KR) rfl kl_By_By_fitsInside ks_By_fitsInside kx_By_fitsInside ki_By_fitsInside ini_By ⟨rfl, rfl⟩ hd_By_fitsInside ⟨by simp only [kRm]; omega, by simp only [kRm]; omega⟩ rfl (Nat.le_of_ble_eq_true rfl) d_By_fits_320 ⟨Nat.le_of_ble_eq_true rfl, Nat.le_of_ble_eq_true rfl⟩) X Y hA (fun z122 H locs Y p122 => ?_)
            obtain ⟨l122, u122, x122⟩ := p122
            refine z_if_eq (tgt := 330) X.1 X.2.1 d_By_fits_323 (by decide) ⟨by omega, by omega⟩ (fun h123 => ?_) (fun h123 => ?_)
            · refine lv_iconst (v := iI 0) X.1 X.2.1 d_By_fits_330 (by decide) ?_
              exact c_retz hQQ X Y hr hlk (iI_bool (by omega) (by omega)).1 ⟨rfl, rfl, 0, rfl, ⟨by omega, by omega, fun h9 => absurd h9 (by decide)⟩⟩ d_By_fits_331
            · refine lv_iconst (v := iI 1) X.1 X.2.1 d_By_fits_326 (by decide) ?_
              refine lv_goto (tgt := 331) X.1 X.2.1 d_By_fits_327 (by decide) ?_
              exact c_retz hQQ X Y hr hlk (iI_bool (by omega) (by omega)).1 ⟨rfl, rfl, 1, rfl, ⟨by omega, by omega, fun h9 => FitP_of (by have q9 := st103; rw [show z103 = a3 by omega] at q9; exact q9) st108 (x122 (by omega)) x120 (by omega)⟩⟩ d_By_fits_331
        by_cases h124 : a1 = 101
        · rw [h124]
          refine lv_tableIn (off := 261) (tgt := 304) X.1 X.2.1 d_By_fits_43 (by decide) (by decide) (by decide) (by decide) ?_
          refine lv_iload X.1 X.2.1 d_By_fits_304 (lv_at hl 1 rfl) ?_
          refine lv_iload_n X.1 X.2.1 d_By_fits_306 rfl (lv_at hl 3 rfl) ?_
          refine t_ui (x_runS (As := [.int (iI a1)]) (rest := [.int (iI (z106 % 256))]) (n := 1) X hml hl.1 (c_By_tagOfX l D E T κ L f H.size a1 (by omega) (by omega) S.1) (ok_k X Y hA KS KR) kl_By_By_tagOf ks_By_tagOf ki_By_tagOf ini_By ⟨rfl, rfl⟩ hd_By_tagOf.2 ⟨by simp only [kRm]; omega, by simp only [kRm]; omega⟩ rfl (Nat.le_of_ble_eq_true rfl) d_By_fits_307 ⟨Nat.le_of_ble_eq_true rfl, Nat.le_of_ble_eq_true rfl⟩) X Y hA (fun z125 H locs Y p125 => ?_)
          obtain ⟨l125, u125, x125⟩ := p125
          refine z_icmp_ne (tgt := 330) X.1 X.2.1 d_By_fits_310 (by decide) ⟨by omega, by omega⟩ ⟨by omega, by omega⟩ (fun h126 => ?_) (fun h126 => ?_)
          · refine lv_iconst (v := iI 0) X.1 X.2.1 d_By_fits_330 (by decide) ?_
            exact c_retz hQQ X Y hr hlk (iI_bool (by omega) (by omega)).1 ⟨rfl, rfl, 0, rfl, ⟨by omega, by omega, fun h9 => absurd h9 (by decide)⟩⟩ d_By_fits_331
          · refine lv_aload_n X.1 X.2.1 d_By_fits_313 rfl (lv_at hl 2 rfl) ?_
            refine lv_iload_n X.1 X.2.1 d_By_fits_314 rfl (lv_at hl 3 rfl) ?_
            refine lv_iload X.1 X.2.1 d_By_fits_315 (lv_at hl 0 rfl) ?_
            refine lv_iload_n X.1 X.2.1 d_By_fits_317 rfl (lv_at hl 5 rfl) ?_
            refine lv_iload X.1 X.2.1 d_By_fits_318 (lv_at hl 6 rfl) ?_
            refine t_ui (t_runV (As := [.int (iI a1), .int (iI z108), .int (iI a3), .int (iI a4)]) (rest := []) (n := 4) X Y S k0 hml hl.1 (c_By_fitsInsideX d IH l D E T κ L f H.size h n0 k0 (by omega) a1 (by omega) (by omega) z108 (by omega) (by omega) a3 (by omega) (by omega) a4 (by omega) (by omega) S.1 sz0 g0 (by omega) (by omega) hd) (ok_k X Y hA KS KR) rfl kl_By_By_fitsInside ks_By_fitsInside kx_By_fitsInside ki_By_fitsInside ini_By ⟨rfl, rfl⟩ hd_By_fitsInside ⟨by simp only [kRm]; omega, by simp only [kRm]; omega⟩ rfl (Nat.le_of_ble_eq_true rfl) d_By_fits_320 ⟨Nat.le_of_ble_eq_true rfl, Nat.le_of_ble_eq_true rfl⟩) X Y hA (fun z127 H locs Y p127 => ?_)
            obtain ⟨l127, u127, x127⟩ := p127
            refine z_if_eq (tgt := 330) X.1 X.2.1 d_By_fits_323 (by decide) ⟨by omega, by omega⟩ (fun h128 => ?_) (fun h128 => ?_)
            · refine lv_iconst (v := iI 0) X.1 X.2.1 d_By_fits_330 (by decide) ?_
              exact c_retz hQQ X Y hr hlk (iI_bool (by omega) (by omega)).1 ⟨rfl, rfl, 0, rfl, ⟨by omega, by omega, fun h9 => absurd h9 (by decide)⟩⟩ d_By_fits_331
            · refine lv_iconst (v := iI 1) X.1 X.2.1 d_By_fits_326 (by decide) ?_
              refine lv_goto (tgt := 331) X.1 X.2.1 d_By_fits_327 (by decide) ?_
              exact c_retz hQQ X Y hr hlk (iI_bool (by omega) (by omega)).1 ⟨rfl, rfl, 1, rfl, ⟨by omega, by omega, fun h9 => FitP_of (by have q9 := st103; rw [show z103 = a3 by omega] at q9; exact q9) st108 (x127 (by omega)) x125 (by omega)⟩⟩ d_By_fits_331
        by_cases h129 : a1 = 102
        · rw [h129]
          refine lv_tableIn (off := 261) (tgt := 304) X.1 X.2.1 d_By_fits_43 (by decide) (by decide) (by decide) (by decide) ?_
          refine lv_iload X.1 X.2.1 d_By_fits_304 (lv_at hl 1 rfl) ?_
          refine lv_iload_n X.1 X.2.1 d_By_fits_306 rfl (lv_at hl 3 rfl) ?_
          refine t_ui (x_runS (As := [.int (iI a1)]) (rest := [.int (iI (z106 % 256))]) (n := 1) X hml hl.1 (c_By_tagOfX l D E T κ L f H.size a1 (by omega) (by omega) S.1) (ok_k X Y hA KS KR) kl_By_By_tagOf ks_By_tagOf ki_By_tagOf ini_By ⟨rfl, rfl⟩ hd_By_tagOf.2 ⟨by simp only [kRm]; omega, by simp only [kRm]; omega⟩ rfl (Nat.le_of_ble_eq_true rfl) d_By_fits_307 ⟨Nat.le_of_ble_eq_true rfl, Nat.le_of_ble_eq_true rfl⟩) X Y hA (fun z130 H locs Y p130 => ?_)
          obtain ⟨l130, u130, x130⟩ := p130
          refine z_icmp_ne (tgt := 330) X.1 X.2.1 d_By_fits_310 (by decide) ⟨by omega, by omega⟩ ⟨by omega, by omega⟩ (fun h131 => ?_) (fun h131 => ?_)
          · refine lv_iconst (v := iI 0) X.1 X.2.1 d_By_fits_330 (by decide) ?_
            exact c_retz hQQ X Y hr hlk (iI_bool (by omega) (by omega)).1 ⟨rfl, rfl, 0, rfl, ⟨by omega, by omega, fun h9 => absurd h9 (by decide)⟩⟩ d_By_fits_331
          · refine lv_aload_n X.1 X.2.1 d_By_fits_313 rfl (lv_at hl 2 rfl) ?_
            refine lv_iload_n X.1 X.2.1 d_By_fits_314 rfl (lv_at hl 3 rfl) ?_
            refine lv_iload X.1 X.2.1 d_By_fits_315 (lv_at hl 0 rfl) ?_
            refine lv_iload_n X.1 X.2.1 d_By_fits_317 rfl (lv_at hl 5 rfl) ?_
            refine lv_iload X.1 X.2.1 d_By_fits_318 (lv_at hl 6 rfl) ?_
            refine t_ui (t_runV (As := [.int (iI a1), .int (iI z108), .int (iI a3), .int (iI a4)]) (rest := []) (n := 4) X Y S k0 hml hl.1 (c_By_fitsInsideX d IH l D E T κ L f H.size h n0 k0 (by omega) a1 (by omega) (by omega) z108 (by omega) (by omega) a3 (by omega) (by omega) a4 (by omega) (by omega) S.1 sz0 g0 (by omega) (by omega) hd) (ok_k X Y hA KS KR) rfl kl_By_By_fitsInside ks_By_fitsInside kx_By_fitsInside ki_By_fitsInside ini_By ⟨rfl, rfl⟩ hd_By_fitsInside ⟨by simp only [kRm]; omega, by simp only [kRm]; omega⟩ rfl (Nat.le_of_ble_eq_true rfl) d_By_fits_320 ⟨Nat.le_of_ble_eq_true rfl, Nat.le_of_ble_eq_true rfl⟩) X Y hA (fun z132 H locs Y p132 => ?_)
            obtain ⟨l132, u132, x132⟩ := p132
            refine z_if_eq (tgt := 330) X.1 X.2.1 d_By_fits_323 (by decide) ⟨by omega, by omega⟩ (fun h133 => ?_) (fun h133 => ?_)
            · refine lv_iconst (v := iI 0) X.1 X.2.1 d_By_fits_330 (by decide) ?_
              exact c_retz hQQ X Y hr hlk (iI_bool (by omega) (by omega)).1 ⟨rfl, rfl, 0, rfl, ⟨by omega, by omega, fun h9 => absurd h9 (by decide)⟩⟩ d_By_fits_331
            · refine lv_iconst (v := iI 1) X.1 X.2.1 d_By_fits_326 (by decide) ?_
              refine lv_goto (tgt := 331) X.1 X.2.1 d_By_fits_327 (by decide) ?_
              exact c_retz hQQ X Y hr hlk (iI_bool (by omega) (by omega)).1 ⟨rfl, rfl, 1, rfl, ⟨by omega, by omega, fun h9 => FitP_of (by have q9 := st103; rw [show z103 = a3 by omega] at q9; exact q9) st108 (x132 (by omega)) x130 (by omega)⟩⟩ d_By_fits_331
        by_cases h134 : a1 = 103
        · rw [h134]
          refine lv_tableIn (off := 261) (tgt := 304) X.1 X.2.1 d_By_fits_43 (by decide) (by decide) (by decide) (by decide) ?_
          refine lv_iload X.1 X.2.1 d_By_fits_304 (lv_at hl 1 rfl) ?_
          refine lv_iload_n X.1 X.2.1 d_By_fits_306 rfl (lv_at hl 3 rfl) ?_
          refine t_ui (x_runS (As := [.int (iI a1)]) (rest := [.int (iI (z106 % 256))]) (n := 1) X hml hl.1 (c_By_tagOfX l D E T κ L f H.size a1 (by omega) (by omega) S.1) (ok_k X Y hA KS KR) kl_By_By_tagOf ks_By_tagOf ki_By_tagOf ini_By ⟨rfl, rfl⟩ hd_By_tagOf.2 ⟨by simp only [kRm]; omega, by simp only [kRm]; omega⟩ rfl (Nat.le_of_ble_eq_true rfl) d_By_fits_307 ⟨Nat.le_of_ble_eq_true rfl, Nat.le_of_ble_eq_true rfl⟩) X Y hA (fun z135 H locs Y p135 => ?_)
          obtain ⟨l135, u135, x135⟩ := p135
          refine z_icmp_ne (tgt := 330) X.1 X.2.1 d_By_fits_310 (by decide) ⟨by omega, by omega⟩ ⟨by omega, by omega⟩ (fun h136 => ?_) (fun h136 => ?_)
          · refine lv_iconst (v := iI 0) X.1 X.2.1 d_By_fits_330 (by decide) ?_
            exact c_retz hQQ X Y hr hlk (iI_bool (by omega) (by omega)).1 ⟨rfl, rfl, 0, rfl, ⟨by omega, by omega, fun h9 => absurd h9 (by decide)⟩⟩ d_By_fits_331
          · refine lv_aload_n X.1 X.2.1 d_By_fits_313 rfl (lv_at hl 2 rfl) ?_
            refine lv_iload_n X.1 X.2.1 d_By_fits_314 rfl (lv_at hl 3 rfl) ?_
            refine lv_iload X.1 X.2.1 d_By_fits_315 (lv_at hl 0 rfl) ?_
            refine lv_iload_n X.1 X.2.1 d_By_fits_317 rfl (lv_at hl 5 rfl) ?_
            refine lv_iload X.1 X.2.1 d_By_fits_318 (lv_at hl 6 rfl) ?_
            refine t_ui (t_runV (As := [.int (iI a1), .int (iI z108), .int (iI a3), .int (iI a4)]) (rest := []) (n := 4) X Y S k0 hml hl.1 (c_By_fitsInsideX d IH l D E T κ L f H.size h n0 k0 (by omega) a1 (by omega) (by omega) z108 (by omega) (by omega) a3 (by omega) (by omega) a4 (by omega) (by omega) S.1 sz0 g0 (by omega) (by omega) hd) (ok_k X Y hA KS KR) rfl kl_By_By_fitsInside ks_By_fitsInside kx_By_fitsInside ki_By_fitsInside ini_By ⟨rfl, rfl⟩ hd_By_fitsInside ⟨by simp only [kRm]; omega, by simp only [kRm]; omega⟩ rfl (Nat.le_of_ble_eq_true rfl) d_By_fits_320 ⟨Nat.le_of_ble_eq_true rfl, Nat.le_of_ble_eq_true rfl⟩) X Y hA (fun z137 H locs Y p137 => ?_)
            obtain ⟨l137, u137, x137⟩ := p137
            refine z_if_eq (tgt := 330) X.1 X.2.1 d_By_fits_323 (by decide) ⟨by omega, by omega⟩ (fun h138 => ?_) (fun h138 => ?_)
            · refine lv_iconst (v := iI 0) X.1 X.2.1 d_By_fits_330 (by decide) ?_
              exact c_retz hQQ X Y hr hlk (iI_bool (by omega) (by omega)).1 ⟨rfl, rfl, 0, rfl, ⟨by omega, by omega, fun h9 => absurd h9 (by decide)⟩⟩ d_By_fits_331
            · refine lv_iconst (v := iI 1) X.1 X.2.1 d_By_fits_326 (by decide) ?_
              refine lv_goto (tgt := 331) X.1 X.2.1 d_By_fits_327 (by decide) ?_
              exact c_retz hQQ X Y hr hlk (iI_bool (by omega) (by omega)).1 ⟨rfl, rfl, 1, rfl, ⟨by omega, by omega, fun h9 => FitP_of (by have q9 := st103; rw [show z103 = a3 by omega] at q9; exact q9) st108 (x137 (by omega)) x135 (by omega)⟩⟩ d_By_fits_331
        by_cases h139 : a1 = 104
        · rw [h139]
          refine lv_tableIn (off := 261) (tgt := 304) X.1 X.2.1 d_By_fits_43 (by decide) (by decide) (by decide) (by decide) ?_
          refine lv_iload X.1 X.2.1 d_By_fits_304 (lv_at hl 1 rfl) ?_
          refine lv_iload_n X.1 X.2.1 d_By_fits_306 rfl (lv_at hl 3 rfl) ?_
          refine t_ui (x_runS (As := [.int (iI a1)]) (rest := [.int (iI (z106 % 256))]) (n := 1) X hml hl.1 (c_By_tagOfX l D E T κ L f H.size a1 (by omega) (by omega) S.1) (ok_k X Y hA KS KR) kl_By_By_tagOf ks_By_tagOf ki_By_tagOf ini_By ⟨rfl, rfl⟩ hd_By_tagOf.2 ⟨by simp only [kRm]; omega, by simp only [kRm]; omega⟩ rfl (Nat.le_of_ble_eq_true rfl) d_By_fits_307 ⟨Nat.le_of_ble_eq_true rfl, Nat.le_of_ble_eq_true rfl⟩) X Y hA (fun z140 H locs Y p140 => ?_)
          obtain ⟨l140, u140, x140⟩ := p140
          refine z_icmp_ne (tgt := 330) X.1 X.2.1 d_By_fits_310 (by decide) ⟨by omega, by omega⟩ ⟨by omega, by omega⟩ (fun h141 => ?_) (fun h141 => ?_)
          · refine lv_iconst (v := iI 0) X.1 X.2.1 d_By_fits_330 (by decide) ?_
            exact c_retz hQQ X Y hr hlk (iI_bool (by omega) (by omega)).1 ⟨rfl, rfl, 0, rfl, ⟨by omega, by omega, fun h9 => absurd h9 (by decide)⟩⟩ d_By_fits_331
          · refine lv_aload_n X.1 X.2.1 d_By_fits_313 rfl (lv_at hl 2 rfl) ?_
            refine lv_iload_n X.1 X.2.1 d_By_fits_314 rfl (lv_at hl 3 rfl) ?_
            refine lv_iload X.1 X.2.1 d_By_fits_315 (lv_at hl 0 rfl) ?_
            refine lv_iload_n X.1 X.2.1 d_By_fits_317 rfl (lv_at hl 5 rfl) ?_
            refine lv_iload X.1 X.2.1 d_By_fits_318 (lv_at hl 6 rfl) ?_
            refine t_ui (t_runV (As := [.int (iI a1), .int (iI z108), .int (iI a3), .int (iI a4)]) (rest := []) (n := 4) X Y S k0 hml hl.1 (c_By_fitsInsideX d IH l D E T κ L f H.size h n0 k0 (by omega) a1 (by omega) (by omega) z108 (by omega) (by omega) a3 (by omega) (by omega) a4 (by omega) (by omega) S.1 sz0 g0 (by omega) (by omega) hd) (ok_k X Y hA KS KR) rfl kl_By_By_fitsInside ks_By_fitsInside kx_By_fitsInside ki_By_fitsInside ini_By ⟨rfl, rfl⟩ hd_By_fitsInside ⟨by simp only [kRm]; omega, by simp only [kRm]; omega⟩ rfl (Nat.le_of_ble_eq_true rfl) d_By_fits_320 ⟨Nat.le_of_ble_eq_true rfl, Nat.le_of_ble_eq_true rfl⟩) X Y hA (fun z142 H locs Y p142 => ?_)
            obtain ⟨l142, u142, x142⟩ := p142
            refine z_if_eq (tgt := 330) X.1 X.2.1 d_By_fits_323 (by decide) ⟨by omega, by omega⟩ (fun h143 => ?_) (fun h143 => ?_)
            · refine lv_iconst (v := iI 0) X.1 X.2.1 d_By_fits_330 (by decide) ?_
              exact c_retz hQQ X Y hr hlk (iI_bool (by omega) (by omega)).1 ⟨rfl, rfl, 0, rfl, ⟨by omega, by omega, fun h9 => absurd h9 (by decide)⟩⟩ d_By_fits_331
            · refine lv_iconst (v := iI 1) X.1 X.2.1 d_By_fits_326 (by decide) ?_
              refine lv_goto (tgt := 331) X.1 X.2.1 d_By_fits_327 (by decide) ?_
              exact c_retz hQQ X Y hr hlk (iI_bool (by omega) (by omega)).1 ⟨rfl, rfl, 1, rfl, ⟨by omega, by omega, fun h9 => FitP_of (by have q9 := st103; rw [show z103 = a3 by omega] at q9; exact q9) st108 (x142 (by omega)) x140 (by omega)⟩⟩ d_By_fits_331
        by_cases h144 : a1 = 105
        · rw [h144]
          refine lv_tableIn (off := 93) (tgt := 136) X.1 X.2.1 d_By_fits_43 (by decide) (by decide) (by decide) (by decide) ?_
          refine lv_iload X.1 X.2.1 d_By_fits_136 (lv_at hl 1 rfl) ?_
          refine lv_iconst (v := iI 2) X.1 X.2.1 d_By_fits_138 (by decide) ?_
          refine z_icmp_ne (tgt := 162) X.1 X.2.1 d_By_fits_139 (by decide) ⟨by omega, by omega⟩ ⟨by omega, by omega⟩ (fun h145 => ?_) (fun h145 => ?_)
          · refine lv_iconst (v := iI 0) X.1 X.2.1 d_By_fits_162 (by decide) ?_
            exact c_retz hQQ X Y hr hlk (iI_bool (by omega) (by omega)).1 ⟨rfl, rfl, 0, rfl, ⟨by omega, by omega, fun h9 => absurd h9 (by decide)⟩⟩ d_By_fits_163
          · refine lv_aload_n X.1 X.2.1 d_By_fits_142 rfl (lv_at hl 2 rfl) ?_
            refine lv_iload X.1 X.2.1 d_By_fits_143 (lv_at hl 0 rfl) ?_
            refine lv_iload_n X.1 X.2.1 d_By_fits_145 rfl (lv_at hl 5 rfl) ?_
            refine lv_ldc2 (v := (-2147483648)) X.1 X.2.1 X.2.2.2.1 (X.2.2.1 _ cl_By_151) d_By_fits_146 ?_
            refine lv_ldc2 (v := (2147483647)) X.1 X.2.1 X.2.2.2.1 (X.2.2.1 _ cl_By_153) d_By_fits_149 ?_
            refine t_ui (t_runV (As := [.int (iI z108), .int (iI a3), .long ((-2147483648)), .long ((2147483647))]) (rest := []) (n := 4) X Y S k0 hml hl.1 (c_By_isNumber l D E T κ L f H.size h n0 k0 (by omega) z108 (by omega) (by omega) a3 (by omega) (by omega) ((-2147483648)) ((2147483647)) S.1) (ok_k X Y hA KS KR) rfl kl_By_By_isNumber ks_By_isNumber kx_By_isNumber ki_By_isNumber ini_By ⟨rfl, rfl⟩ hd_By_isNumber ⟨by simp only [kRm]; omega, by simp only [kRm]; omega⟩ rfl (Nat.le_of_ble_eq_true rfl) d_By_fits_152 ⟨Nat.le_of_ble_eq_true rfl, Nat.le_of_ble_eq_true rfl⟩) X Y hA (fun z146 H locs Y p146 => ?_)
            obtain ⟨l146, u146⟩ := p146
            refine z_if_eq (tgt := 162) X.1 X.2.1 d_By_fits_155 (by decide) ⟨by omega, by omega⟩ (fun h147 => ?_) (fun h147 => ?_)
            · refine lv_iconst (v := iI 0) X.1 X.2.1 d_By_fits_162 (by decide) ?_
              exact c_retz hQQ X Y hr hlk (iI_bool (by omega) (by omega)).1 ⟨rfl, rfl, 0, rfl, ⟨by omega, by omega, fun h9 => absurd h9 (by decide)⟩⟩ d_By_fits_163
            · refine lv_iconst (v := iI 1) X.1 X.2.1 d_By_fits_158 (by decide) ?_
              refine lv_goto (tgt := 163) X.1 X.2.1 d_By_fits_159 (by decide) ?_
              exact c_retz hQQ X Y hr hlk (iI_bool (by omega) (by omega)).1 ⟨rfl, rfl, 1, rfl, ⟨by omega, by omega, fun h9 => FitP_leaf (by have q9 := st103; rw [show z103 = a3 by omega] at q9; exact q9) (by omega) (by omega) (by omega) (by omega)⟩⟩ d_By_fits_163
        by_cases h148 : a1 = 106
        · rw [h148]
          refine lv_tableIn (off := 261) (tgt := 304) X.1 X.2.1 d_By_fits_43 (by decide) (by decide) (by decide) (by decide) ?_
          refine lv_iload X.1 X.2.1 d_By_fits_304 (lv_at hl 1 rfl) ?_
          refine lv_iload_n X.1 X.2.1 d_By_fits_306 rfl (lv_at hl 3 rfl) ?_
          refine t_ui (x_runS (As := [.int (iI a1)]) (rest := [.int (iI (z106 % 256))]) (n := 1) X hml hl.1 (c_By_tagOfX l D E T κ L f H.size a1 (by omega) (by omega) S.1) (ok_k X Y hA KS KR) kl_By_By_tagOf ks_By_tagOf ki_By_tagOf ini_By ⟨rfl, rfl⟩ hd_By_tagOf.2 ⟨by simp only [kRm]; omega, by simp only [kRm]; omega⟩ rfl (Nat.le_of_ble_eq_true rfl) d_By_fits_307 ⟨Nat.le_of_ble_eq_true rfl, Nat.le_of_ble_eq_true rfl⟩) X Y hA (fun z149 H locs Y p149 => ?_)
          obtain ⟨l149, u149, x149⟩ := p149
          refine z_icmp_ne (tgt := 330) X.1 X.2.1 d_By_fits_310 (by decide) ⟨by omega, by omega⟩ ⟨by omega, by omega⟩ (fun h150 => ?_) (fun h150 => ?_)
          · refine lv_iconst (v := iI 0) X.1 X.2.1 d_By_fits_330 (by decide) ?_
            exact c_retz hQQ X Y hr hlk (iI_bool (by omega) (by omega)).1 ⟨rfl, rfl, 0, rfl, ⟨by omega, by omega, fun h9 => absurd h9 (by decide)⟩⟩ d_By_fits_331
          · refine lv_aload_n X.1 X.2.1 d_By_fits_313 rfl (lv_at hl 2 rfl) ?_
            refine lv_iload_n X.1 X.2.1 d_By_fits_314 rfl (lv_at hl 3 rfl) ?_
            refine lv_iload X.1 X.2.1 d_By_fits_315 (lv_at hl 0 rfl) ?_
            refine lv_iload_n X.1 X.2.1 d_By_fits_317 rfl (lv_at hl 5 rfl) ?_
            refine lv_iload X.1 X.2.1 d_By_fits_318 (lv_at hl 6 rfl) ?_
            refine t_ui (t_runV (As := [.int (iI a1), .int (iI z108), .int (iI a3), .int (iI a4)]) (rest := []) (n := 4) X Y S k0 hml hl.1 (c_By_fitsInsideX d IH l D E T κ L f H.size h n0 k0 (by omega) a1 (by omega) (by omega) z108 (by omega) (by omega) a3 (by omega) (by omega) a4 (by omega) (by omega) S.1 sz0 g0 (by omega) (by omega) hd) (ok_k X Y hA KS KR) rfl kl_By_By_fitsInside ks_By_fitsInside kx_By_fitsInside ki_By_fitsInside ini_By ⟨rfl, rfl⟩ hd_By_fitsInside ⟨by simp only [kRm]; omega, by simp only [kRm]; omega⟩ rfl (Nat.le_of_ble_eq_true rfl) d_By_fits_320 ⟨Nat.le_of_ble_eq_true rfl, Nat.le_of_ble_eq_true rfl⟩) X Y hA (fun z151 H locs Y p151 => ?_)
            obtain ⟨l151, u151, x151⟩ := p151
            refine z_if_eq (tgt := 330) X.1 X.2.1 d_By_fits_323 (by decide) ⟨by omega, by omega⟩ (fun h152 => ?_) (fun h152 => ?_)
            · refine lv_iconst (v := iI 0) X.1 X.2.1 d_By_fits_330 (by decide) ?_
              exact c_retz hQQ X Y hr hlk (iI_bool (by omega) (by omega)).1 ⟨rfl, rfl, 0, rfl, ⟨by omega, by omega, fun h9 => absurd h9 (by decide)⟩⟩ d_By_fits_331
            · refine lv_iconst (v := iI 1) X.1 X.2.1 d_By_fits_326 (by decide) ?_
              refine lv_goto (tgt := 331) X.1 X.2.1 d_By_fits_327 (by decide) ?_
              exact c_retz hQQ X Y hr hlk (iI_bool (by omega) (by omega)).1 ⟨rfl, rfl, 1, rfl, ⟨by omega, by omega, fun h9 => FitP_of (by have q9 := st103; rw [show z103 = a3 by omega] at q9; exact q9) st108 (x151 (by omega)) x149 (by omega)⟩⟩ d_By_fits_331
        by_cases h153 : a1 = 107
        · rw [h153]
          refine lv_tableIn (off := 261) (tgt := 304) X.1 X.2.1 d_By_fits_43 (by decide) (by decide) (by decide) (by decide) ?_
          refine lv_iload X.1 X.2.1 d_By_fits_304 (lv_at hl 1 rfl) ?_
          refine lv_iload_n X.1 X.2.1 d_By_fits_306 rfl (lv_at hl 3 rfl) ?_
          refine t_ui (x_runS (As := [.int (iI a1)]) (rest := [.int (iI (z106 % 256))]) (n := 1) X hml hl.1 (c_By_tagOfX l D E T κ L f H.size a1 (by omega) (by omega) S.1) (ok_k X Y hA KS KR) kl_By_By_tagOf ks_By_tagOf ki_By_tagOf ini_By ⟨rfl, rfl⟩ hd_By_tagOf.2 ⟨by simp only [kRm]; omega, by simp only [kRm]; omega⟩ rfl (Nat.le_of_ble_eq_true rfl) d_By_fits_307 ⟨Nat.le_of_ble_eq_true rfl, Nat.le_of_ble_eq_true rfl⟩) X Y hA (fun z154 H locs Y p154 => ?_)
          obtain ⟨l154, u154, x154⟩ := p154
          refine z_icmp_ne (tgt := 330) X.1 X.2.1 d_By_fits_310 (by decide) ⟨by omega, by omega⟩ ⟨by omega, by omega⟩ (fun h155 => ?_) (fun h155 => ?_)
          · refine lv_iconst (v := iI 0) X.1 X.2.1 d_By_fits_330 (by decide) ?_
            exact c_retz hQQ X Y hr hlk (iI_bool (by omega) (by omega)).1 ⟨rfl, rfl, 0, rfl, ⟨by omega, by omega, fun h9 => absurd h9 (by decide)⟩⟩ d_By_fits_331
          · refine lv_aload_n X.1 X.2.1 d_By_fits_313 rfl (lv_at hl 2 rfl) ?_
            refine lv_iload_n X.1 X.2.1 d_By_fits_314 rfl (lv_at hl 3 rfl) ?_
            refine lv_iload X.1 X.2.1 d_By_fits_315 (lv_at hl 0 rfl) ?_
            refine lv_iload_n X.1 X.2.1 d_By_fits_317 rfl (lv_at hl 5 rfl) ?_
            refine lv_iload X.1 X.2.1 d_By_fits_318 (lv_at hl 6 rfl) ?_
            refine t_ui (t_runV (As := [.int (iI a1), .int (iI z108), .int (iI a3), .int (iI a4)]) (rest := []) (n := 4) X Y S k0 hml hl.1 (c_By_fitsInsideX d IH l D E T κ L f H.size h n0 k0 (by omega) a1 (by omega) (by omega) z108 (by omega) (by omega) a3 (by omega) (by omega) a4 (by omega) (by omega) S.1 sz0 g0 (by omega) (by omega) hd) (ok_k X Y hA KS KR) rfl kl_By_By_fitsInside ks_By_fitsInside kx_By_fitsInside ki_By_fitsInside ini_By ⟨rfl, rfl⟩ hd_By_fitsInside ⟨by simp only [kRm]; omega, by simp only [kRm]; omega⟩ rfl (Nat.le_of_ble_eq_true rfl) d_By_fits_320 ⟨Nat.le_of_ble_eq_true rfl, Nat.le_of_ble_eq_true rfl⟩) X Y hA (fun z156 H locs Y p156 => ?_)
            obtain ⟨l156, u156, x156⟩ := p156
            refine z_if_eq (tgt := 330) X.1 X.2.1 d_By_fits_323 (by decide) ⟨by omega, by omega⟩ (fun h157 => ?_) (fun h157 => ?_)
            · refine lv_iconst (v := iI 0) X.1 X.2.1 d_By_fits_330 (by decide) ?_
              exact c_retz hQQ X Y hr hlk (iI_bool (by omega) (by omega)).1 ⟨rfl, rfl, 0, rfl, ⟨by omega, by omega, fun h9 => absurd h9 (by decide)⟩⟩ d_By_fits_331
            · refine lv_iconst (v := iI 1) X.1 X.2.1 d_By_fits_326 (by decide) ?_
              refine lv_goto (tgt := 331) X.1 X.2.1 d_By_fits_327 (by decide) ?_
              exact c_retz hQQ X Y hr hlk (iI_bool (by omega) (by omega)).1 ⟨rfl, rfl, 1, rfl, ⟨by omega, by omega, fun h9 => FitP_of (by have q9 := st103; rw [show z103 = a3 by omega] at q9; exact q9) st108 (x156 (by omega)) x154 (by omega)⟩⟩ d_By_fits_331
        by_cases h158 : a1 = 108
        · rw [h158]
          refine lv_tableIn (off := 261) (tgt := 304) X.1 X.2.1 d_By_fits_43 (by decide) (by decide) (by decide) (by decide) ?_
          refine lv_iload X.1 X.2.1 d_By_fits_304 (lv_at hl 1 rfl) ?_
          refine lv_iload_n X.1 X.2.1 d_By_fits_306 rfl (lv_at hl 3 rfl) ?_
          refine t_ui (x_runS (As := [.int (iI a1)]) (rest := [.int (iI (z106 % 256))]) (n := 1) X hml hl.1 (c_By_tagOfX l D E T κ L f H.size a1 (by omega) (by omega) S.1) (ok_k X Y hA KS KR) kl_By_By_tagOf ks_By_tagOf ki_By_tagOf ini_By ⟨rfl, rfl⟩ hd_By_tagOf.2 ⟨by simp only [kRm]; omega, by simp only [kRm]; omega⟩ rfl (Nat.le_of_ble_eq_true rfl) d_By_fits_307 ⟨Nat.le_of_ble_eq_true rfl, Nat.le_of_ble_eq_true rfl⟩) X Y hA (fun z159 H locs Y p159 => ?_)
          obtain ⟨l159, u159, x159⟩ := p159
          refine z_icmp_ne (tgt := 330) X.1 X.2.1 d_By_fits_310 (by decide) ⟨by omega, by omega⟩ ⟨by omega, by omega⟩ (fun h160 => ?_) (fun h160 => ?_)
          · refine lv_iconst (v := iI 0) X.1 X.2.1 d_By_fits_330 (by decide) ?_
            exact c_retz hQQ X Y hr hlk (iI_bool (by omega) (by omega)).1 ⟨rfl, rfl, 0, rfl, ⟨by omega, by omega, fun h9 => absurd h9 (by decide)⟩⟩ d_By_fits_331
          · refine lv_aload_n X.1 X.2.1 d_By_fits_313 rfl (lv_at hl 2 rfl) ?_
            refine lv_iload_n X.1 X.2.1 d_By_fits_314 rfl (lv_at hl 3 rfl) ?_
            refine lv_iload X.1 X.2.1 d_By_fits_315 (lv_at hl 0 rfl) ?_
            refine lv_iload_n X.1 X.2.1 d_By_fits_317 rfl (lv_at hl 5 rfl) ?_
            refine lv_iload X.1 X.2.1 d_By_fits_318 (lv_at hl 6 rfl) ?_
            refine t_ui (t_runV (As := [.int (iI a1), .int (iI z108), .int (iI a3), .int (iI a4)]) (rest := []) (n := 4) X Y S k0 hml hl.1 (c_By_fitsInsideX d IH l D E T κ L f H.size h n0 k0 (by omega) a1 (by omega) (by omega) z108 (by omega) (by omega) a3 (by omega) (by omega) a4 (by omega) (by omega) S.1 sz0 g0 (by omega) (by omega) hd) (ok_k X Y hA KS KR) rfl kl_By_By_fitsInside ks_By_fitsInside kx_By_fitsInside ki_By_fitsInside ini_By ⟨rfl, rfl⟩ hd_By_fitsInside ⟨by simp only [kRm]; omega, by simp only [kRm]; omega⟩ rfl (Nat.le_of_ble_eq_true rfl) d_By_fits_320 ⟨Nat.le_of_ble_eq_true rfl, Nat.le_of_ble_eq_true rfl⟩) X Y hA (fun z161 H locs Y p161 => ?_)
            obtain ⟨l161, u161, x161⟩ := p161
            refine z_if_eq (tgt := 330) X.1 X.2.1 d_By_fits_323 (by decide) ⟨by omega, by omega⟩ (fun h162 => ?_) (fun h162 => ?_)
            · refine lv_iconst (v := iI 0) X.1 X.2.1 d_By_fits_330 (by decide) ?_
              exact c_retz hQQ X Y hr hlk (iI_bool (by omega) (by omega)).1 ⟨rfl, rfl, 0, rfl, ⟨by omega, by omega, fun h9 => absurd h9 (by decide)⟩⟩ d_By_fits_331
            · refine lv_iconst (v := iI 1) X.1 X.2.1 d_By_fits_326 (by decide) ?_
              refine lv_goto (tgt := 331) X.1 X.2.1 d_By_fits_327 (by decide) ?_
              exact c_retz hQQ X Y hr hlk (iI_bool (by omega) (by omega)).1 ⟨rfl, rfl, 1, rfl, ⟨by omega, by omega, fun h9 => FitP_of (by have q9 := st103; rw [show z103 = a3 by omega] at q9; exact q9) st108 (x161 (by omega)) x159 (by omega)⟩⟩ d_By_fits_331
        by_cases h163 : a1 = 109
        · rw [h163]
          refine lv_tableIn (off := 147) (tgt := 190) X.1 X.2.1 d_By_fits_43 (by decide) (by decide) (by decide) (by decide) ?_
          refine lv_iload X.1 X.2.1 d_By_fits_190 (lv_at hl 1 rfl) ?_
          refine lv_iconst (v := iI 2) X.1 X.2.1 d_By_fits_192 (by decide) ?_
          refine z_icmp_ne (tgt := 214) X.1 X.2.1 d_By_fits_193 (by decide) ⟨by omega, by omega⟩ ⟨by omega, by omega⟩ (fun h164 => ?_) (fun h164 => ?_)
          · refine lv_iconst (v := iI 0) X.1 X.2.1 d_By_fits_214 (by decide) ?_
            exact c_retz hQQ X Y hr hlk (iI_bool (by omega) (by omega)).1 ⟨rfl, rfl, 0, rfl, ⟨by omega, by omega, fun h9 => absurd h9 (by decide)⟩⟩ d_By_fits_215
          · refine lv_aload_n X.1 X.2.1 d_By_fits_196 rfl (lv_at hl 2 rfl) ?_
            refine lv_iload X.1 X.2.1 d_By_fits_197 (lv_at hl 0 rfl) ?_
            refine lv_iload_n X.1 X.2.1 d_By_fits_199 rfl (lv_at hl 5 rfl) ?_
            refine lv_lconst (v := 0) X.1 X.2.1 d_By_fits_200 rfl ?_
            refine lv_ldc2 (v := (999999)) X.1 X.2.1 X.2.2.2.1 (X.2.2.1 _ cl_By_161) d_By_fits_201 ?_
            refine t_ui (t_runV (As := [.int (iI z108), .int (iI a3), .long 0, .long ((999999))]) (rest := []) (n := 4) X Y S k0 hml hl.1 (c_By_isNumber l D E T κ L f H.size h n0 k0 (by omega) z108 (by omega) (by omega) a3 (by omega) (by omega) 0 ((999999)) S.1) (ok_k X Y hA KS KR) rfl kl_By_By_isNumber ks_By_isNumber kx_By_isNumber ki_By_isNumber ini_By ⟨rfl, rfl⟩ hd_By_isNumber ⟨by simp only [kRm]; omega, by simp only [kRm]; omega⟩ rfl (Nat.le_of_ble_eq_true rfl) d_By_fits_204 ⟨Nat.le_of_ble_eq_true rfl, Nat.le_of_ble_eq_true rfl⟩) X Y hA (fun z165 H locs Y p165 => ?_)
            obtain ⟨l165, u165⟩ := p165
            refine z_if_eq (tgt := 214) X.1 X.2.1 d_By_fits_207 (by decide) ⟨by omega, by omega⟩ (fun h166 => ?_) (fun h166 => ?_)
            · refine lv_iconst (v := iI 0) X.1 X.2.1 d_By_fits_214 (by decide) ?_
              exact c_retz hQQ X Y hr hlk (iI_bool (by omega) (by omega)).1 ⟨rfl, rfl, 0, rfl, ⟨by omega, by omega, fun h9 => absurd h9 (by decide)⟩⟩ d_By_fits_215
            · refine lv_iconst (v := iI 1) X.1 X.2.1 d_By_fits_210 (by decide) ?_
              refine lv_goto (tgt := 215) X.1 X.2.1 d_By_fits_211 (by decide) ?_
              exact c_retz hQQ X Y hr hlk (iI_bool (by omega) (by omega)).1 ⟨rfl, rfl, 1, rfl, ⟨by omega, by omega, fun h9 => FitP_leaf (by have q9 := st103; rw [show z103 = a3 by omega] at q9; exact q9) (by omega) (by omega) (by omega) (by omega)⟩⟩ d_By_fits_215
        by_cases h167 : a1 = 110
        · rw [h167]
          refine lv_tableIn (off := 261) (tgt := 304) X.1 X.2.1 d_By_fits_43 (by decide) (by decide) (by decide) (by decide) ?_
          refine lv_iload X.1 X.2.1 d_By_fits_304 (lv_at hl 1 rfl) ?_
          refine lv_iload_n X.1 X.2.1 d_By_fits_306 rfl (lv_at hl 3 rfl) ?_
          refine t_ui (x_runS (As := [.int (iI a1)]) (rest := [.int (iI (z106 % 256))]) (n := 1) X hml hl.1 (c_By_tagOfX l D E T κ L f H.size a1 (by omega) (by omega) S.1) (ok_k X Y hA KS KR) kl_By_By_tagOf ks_By_tagOf ki_By_tagOf ini_By ⟨rfl, rfl⟩ hd_By_tagOf.2 ⟨by simp only [kRm]; omega, by simp only [kRm]; omega⟩ rfl (Nat.le_of_ble_eq_true rfl) d_By_fits_307 ⟨Nat.le_of_ble_eq_true rfl, Nat.le_of_ble_eq_true rfl⟩) X Y hA (fun z168 H locs Y p168 => ?_)
          obtain ⟨l168, u168, x168⟩ := p168
          refine z_icmp_ne (tgt := 330) X.1 X.2.1 d_By_fits_310 (by decide) ⟨by omega, by omega⟩ ⟨by omega, by omega⟩ (fun h169 => ?_) (fun h169 => ?_)
          · refine lv_iconst (v := iI 0) X.1 X.2.1 d_By_fits_330 (by decide) ?_
            exact c_retz hQQ X Y hr hlk (iI_bool (by omega) (by omega)).1 ⟨rfl, rfl, 0, rfl, ⟨by omega, by omega, fun h9 => absurd h9 (by decide)⟩⟩ d_By_fits_331
          · refine lv_aload_n X.1 X.2.1 d_By_fits_313 rfl (lv_at hl 2 rfl) ?_
            refine lv_iload_n X.1 X.2.1 d_By_fits_314 rfl (lv_at hl 3 rfl) ?_
            refine lv_iload X.1 X.2.1 d_By_fits_315 (lv_at hl 0 rfl) ?_
            refine lv_iload_n X.1 X.2.1 d_By_fits_317 rfl (lv_at hl 5 rfl) ?_
            refine lv_iload X.1 X.2.1 d_By_fits_318 (lv_at hl 6 rfl) ?_
            refine t_ui (t_runV (As := [.int (iI a1), .int (iI z108), .int (iI a3), .int (iI a4)]) (rest := []) (n := 4) X Y S k0 hml hl.1 (c_By_fitsInsideX d IH l D E T κ L f H.size h n0 k0 (by omega) a1 (by omega) (by omega) z108 (by omega) (by omega) a3 (by omega) (by omega) a4 (by omega) (by omega) S.1 sz0 g0 (by omega) (by omega) hd) (ok_k X Y hA KS KR) rfl kl_By_By_fitsInside ks_By_fitsInside kx_By_fitsInside ki_By_fitsInside ini_By ⟨rfl, rfl⟩ hd_By_fitsInside ⟨by simp only [kRm]; omega, by simp only [kRm]; omega⟩ rfl (Nat.le_of_ble_eq_true rfl) d_By_fits_320 ⟨Nat.le_of_ble_eq_true rfl, Nat.le_of_ble_eq_true rfl⟩) X Y hA (fun z170 H locs Y p170 => ?_)
            obtain ⟨l170, u170, x170⟩ := p170
            refine z_if_eq (tgt := 330) X.1 X.2.1 d_By_fits_323 (by decide) ⟨by omega, by omega⟩ (fun h171 => ?_) (fun h171 => ?_)
            · refine lv_iconst (v := iI 0) X.1 X.2.1 d_By_fits_330 (by decide) ?_
              exact c_retz hQQ X Y hr hlk (iI_bool (by omega) (by omega)).1 ⟨rfl, rfl, 0, rfl, ⟨by omega, by omega, fun h9 => absurd h9 (by decide)⟩⟩ d_By_fits_331
            · refine lv_iconst (v := iI 1) X.1 X.2.1 d_By_fits_326 (by decide) ?_
              refine lv_goto (tgt := 331) X.1 X.2.1 d_By_fits_327 (by decide) ?_
              exact c_retz hQQ X Y hr hlk (iI_bool (by omega) (by omega)).1 ⟨rfl, rfl, 1, rfl, ⟨by omega, by omega, fun h9 => FitP_of (by have q9 := st103; rw [show z103 = a3 by omega] at q9; exact q9) st108 (x170 (by omega)) x168 (by omega)⟩⟩ d_By_fits_331
        by_cases h172 : a1 = 111
        · rw [h172]
          refine lv_tableIn (off := 249) (tgt := 292) X.1 X.2.1 d_By_fits_43 (by decide) (by decide) (by decide) (by decide) ?_
          refine lv_iload X.1 X.2.1 d_By_fits_292 (lv_at hl 1 rfl) ?_
          refine lv_iconst (v := iI 4) X.1 X.2.1 d_By_fits_294 (by decide) ?_
          refine z_icmp_ne (tgt := 302) X.1 X.2.1 d_By_fits_295 (by decide) ⟨by omega, by omega⟩ ⟨by omega, by omega⟩ (fun h173 => ?_) (fun h173 => ?_)
          · refine lv_iconst (v := iI 0) X.1 X.2.1 d_By_fits_302 (by decide) ?_
            exact c_retz hQQ X Y hr hlk (iI_bool (by omega) (by omega)).1 ⟨rfl, rfl, 0, rfl, ⟨by omega, by omega, fun h9 => absurd h9 (by decide)⟩⟩ d_By_fits_303
          · refine lv_iconst (v := iI 1) X.1 X.2.1 d_By_fits_298 (by decide) ?_
            refine lv_goto (tgt := 303) X.1 X.2.1 d_By_fits_299 (by decide) ?_
            exact c_retz hQQ X Y hr hlk (iI_bool (by omega) (by omega)).1 ⟨rfl, rfl, 1, rfl, ⟨by omega, by omega, fun h9 => FitP_leaf (by have q9 := st103; rw [show z103 = a3 by omega] at q9; exact q9) (by omega) (by omega) (by omega) (by omega)⟩⟩ d_By_fits_303
        by_cases h174 : a1 = 112
        · rw [h174]
          refine lv_tableIn (off := 261) (tgt := 304) X.1 X.2.1 d_By_fits_43 (by decide) (by decide) (by decide) (by decide) ?_
          refine lv_iload X.1 X.2.1 d_By_fits_304 (lv_at hl 1 rfl) ?_
          refine lv_iload_n X.1 X.2.1 d_By_fits_306 rfl (lv_at hl 3 rfl) ?_
          refine t_ui (x_runS (As := [.int (iI a1)]) (rest := [.int (iI (z106 % 256))]) (n := 1) X hml hl.1 (c_By_tagOfX l D E T κ L f H.size a1 (by omega) (by omega) S.1) (ok_k X Y hA KS KR) kl_By_By_tagOf ks_By_tagOf ki_By_tagOf ini_By ⟨rfl, rfl⟩ hd_By_tagOf.2 ⟨by simp only [kRm]; omega, by simp only [kRm]; omega⟩ rfl (Nat.le_of_ble_eq_true rfl) d_By_fits_307 ⟨Nat.le_of_ble_eq_true rfl, Nat.le_of_ble_eq_true rfl⟩) X Y hA (fun z175 H locs Y p175 => ?_)
          obtain ⟨l175, u175, x175⟩ := p175
          refine z_icmp_ne (tgt := 330) X.1 X.2.1 d_By_fits_310 (by decide) ⟨by omega, by omega⟩ ⟨by omega, by omega⟩ (fun h176 => ?_) (fun h176 => ?_)
          · refine lv_iconst (v := iI 0) X.1 X.2.1 d_By_fits_330 (by decide) ?_
            exact c_retz hQQ X Y hr hlk (iI_bool (by omega) (by omega)).1 ⟨rfl, rfl, 0, rfl, ⟨by omega, by omega, fun h9 => absurd h9 (by decide)⟩⟩ d_By_fits_331
          · refine lv_aload_n X.1 X.2.1 d_By_fits_313 rfl (lv_at hl 2 rfl) ?_
            refine lv_iload_n X.1 X.2.1 d_By_fits_314 rfl (lv_at hl 3 rfl) ?_
            refine lv_iload X.1 X.2.1 d_By_fits_315 (lv_at hl 0 rfl) ?_
            refine lv_iload_n X.1 X.2.1 d_By_fits_317 rfl (lv_at hl 5 rfl) ?_
            refine lv_iload X.1 X.2.1 d_By_fits_318 (lv_at hl 6 rfl) ?_
            refine t_ui (t_runV (As := [.int (iI a1), .int (iI z108), .int (iI a3), .int (iI a4)]) (rest := []) (n := 4) X Y S k0 hml hl.1 (c_By_fitsInsideX d IH l D E T κ L f H.size h n0 k0 (by omega) a1 (by omega) (by omega) z108 (by omega) (by omega) a3 (by omega) (by omega) a4 (by omega) (by omega) S.1 sz0 g0 (by omega) (by omega) hd) (ok_k X Y hA KS KR) rfl kl_By_By_fitsInside ks_By_fitsInside kx_By_fitsInside ki_By_fitsInside ini_By ⟨rfl, rfl⟩ hd_By_fitsInside ⟨by simp only [kRm]; omega, by simp only [kRm]; omega⟩ rfl (Nat.le_of_ble_eq_true rfl) d_By_fits_320 ⟨Nat.le_of_ble_eq_true rfl, Nat.le_of_ble_eq_true rfl⟩) X Y hA (fun z177 H locs Y p177 => ?_)
            obtain ⟨l177, u177, x177⟩ := p177
            refine z_if_eq (tgt := 330) X.1 X.2.1 d_By_fits_323 (by decide) ⟨by omega, by omega⟩ (fun h178 => ?_) (fun h178 => ?_)
            · refine lv_iconst (v := iI 0) X.1 X.2.1 d_By_fits_330 (by decide) ?_
              exact c_retz hQQ X Y hr hlk (iI_bool (by omega) (by omega)).1 ⟨rfl, rfl, 0, rfl, ⟨by omega, by omega, fun h9 => absurd h9 (by decide)⟩⟩ d_By_fits_331
            · refine lv_iconst (v := iI 1) X.1 X.2.1 d_By_fits_326 (by decide) ?_
              refine lv_goto (tgt := 331) X.1 X.2.1 d_By_fits_327 (by decide) ?_
              exact c_retz hQQ X Y hr hlk (iI_bool (by omega) (by omega)).1 ⟨rfl, rfl, 1, rfl, ⟨by omega, by omega, fun h9 => FitP_of (by have q9 := st103; rw [show z103 = a3 by omega] at q9; exact q9) st108 (x177 (by omega)) x175 (by omega)⟩⟩ d_By_fits_331
        by_cases h179 : a1 = 113
        · rw [h179]
          refine lv_tableIn (off := 261) (tgt := 304) X.1 X.2.1 d_By_fits_43 (by decide) (by decide) (by decide) (by decide) ?_
          refine lv_iload X.1 X.2.1 d_By_fits_304 (lv_at hl 1 rfl) ?_
          refine lv_iload_n X.1 X.2.1 d_By_fits_306 rfl (lv_at hl 3 rfl) ?_
          refine t_ui (x_runS (As := [.int (iI a1)]) (rest := [.int (iI (z106 % 256))]) (n := 1) X hml hl.1 (c_By_tagOfX l D E T κ L f H.size a1 (by omega) (by omega) S.1) (ok_k X Y hA KS KR) kl_By_By_tagOf ks_By_tagOf ki_By_tagOf ini_By ⟨rfl, rfl⟩ hd_By_tagOf.2 ⟨by simp only [kRm]; omega, by simp only [kRm]; omega⟩ rfl (Nat.le_of_ble_eq_true rfl) d_By_fits_307 ⟨Nat.le_of_ble_eq_true rfl, Nat.le_of_ble_eq_true rfl⟩) X Y hA (fun z180 H locs Y p180 => ?_)
          obtain ⟨l180, u180, x180⟩ := p180
          refine z_icmp_ne (tgt := 330) X.1 X.2.1 d_By_fits_310 (by decide) ⟨by omega, by omega⟩ ⟨by omega, by omega⟩ (fun h181 => ?_) (fun h181 => ?_)
          · refine lv_iconst (v := iI 0) X.1 X.2.1 d_By_fits_330 (by decide) ?_
            exact c_retz hQQ X Y hr hlk (iI_bool (by omega) (by omega)).1 ⟨rfl, rfl, 0, rfl, ⟨by omega, by omega, fun h9 => absurd h9 (by decide)⟩⟩ d_By_fits_331
          · refine lv_aload_n X.1 X.2.1 d_By_fits_313 rfl (lv_at hl 2 rfl) ?_
            refine lv_iload_n X.1 X.2.1 d_By_fits_314 rfl (lv_at hl 3 rfl) ?_
            refine lv_iload X.1 X.2.1 d_By_fits_315 (lv_at hl 0 rfl) ?_
            refine lv_iload_n X.1 X.2.1 d_By_fits_317 rfl (lv_at hl 5 rfl) ?_
            refine lv_iload X.1 X.2.1 d_By_fits_318 (lv_at hl 6 rfl) ?_
            refine t_ui (t_runV (As := [.int (iI a1), .int (iI z108), .int (iI a3), .int (iI a4)]) (rest := []) (n := 4) X Y S k0 hml hl.1 (c_By_fitsInsideX d IH l D E T κ L f H.size h n0 k0 (by omega) a1 (by omega) (by omega) z108 (by omega) (by omega) a3 (by omega) (by omega) a4 (by omega) (by omega) S.1 sz0 g0 (by omega) (by omega) hd) (ok_k X Y hA KS KR) rfl kl_By_By_fitsInside ks_By_fitsInside kx_By_fitsInside ki_By_fitsInside ini_By ⟨rfl, rfl⟩ hd_By_fitsInside ⟨by simp only [kRm]; omega, by simp only [kRm]; omega⟩ rfl (Nat.le_of_ble_eq_true rfl) d_By_fits_320 ⟨Nat.le_of_ble_eq_true rfl, Nat.le_of_ble_eq_true rfl⟩) X Y hA (fun z182 H locs Y p182 => ?_)
            obtain ⟨l182, u182, x182⟩ := p182
            refine z_if_eq (tgt := 330) X.1 X.2.1 d_By_fits_323 (by decide) ⟨by omega, by omega⟩ (fun h183 => ?_) (fun h183 => ?_)
            · refine lv_iconst (v := iI 0) X.1 X.2.1 d_By_fits_330 (by decide) ?_
              exact c_retz hQQ X Y hr hlk (iI_bool (by omega) (by omega)).1 ⟨rfl, rfl, 0, rfl, ⟨by omega, by omega, fun h9 => absurd h9 (by decide)⟩⟩ d_By_fits_331
            · refine lv_iconst (v := iI 1) X.1 X.2.1 d_By_fits_326 (by decide) ?_
              refine lv_goto (tgt := 331) X.1 X.2.1 d_By_fits_327 (by decide) ?_
              exact c_retz hQQ X Y hr hlk (iI_bool (by omega) (by omega)).1 ⟨rfl, rfl, 1, rfl, ⟨by omega, by omega, fun h9 => FitP_of (by have q9 := st103; rw [show z103 = a3 by omega] at q9; exact q9) st108 (x182 (by omega)) x180 (by omega)⟩⟩ d_By_fits_331
        by_cases h184 : a1 = 114
        · rw [h184]
          refine lv_tableIn (off := 261) (tgt := 304) X.1 X.2.1 d_By_fits_43 (by decide) (by decide) (by decide) (by decide) ?_
          refine lv_iload X.1 X.2.1 d_By_fits_304 (lv_at hl 1 rfl) ?_
          refine lv_iload_n X.1 X.2.1 d_By_fits_306 rfl (lv_at hl 3 rfl) ?_
          refine t_ui (x_runS (As := [.int (iI a1)]) (rest := [.int (iI (z106 % 256))]) (n := 1) X hml hl.1 (c_By_tagOfX l D E T κ L f H.size a1 (by omega) (by omega) S.1) (ok_k X Y hA KS KR) kl_By_By_tagOf ks_By_tagOf ki_By_tagOf ini_By ⟨rfl, rfl⟩ hd_By_tagOf.2 ⟨by simp only [kRm]; omega, by simp only [kRm]; omega⟩ rfl (Nat.le_of_ble_eq_true rfl) d_By_fits_307 ⟨Nat.le_of_ble_eq_true rfl, Nat.le_of_ble_eq_true rfl⟩) X Y hA (fun z185 H locs Y p185 => ?_)
          obtain ⟨l185, u185, x185⟩ := p185
          refine z_icmp_ne (tgt := 330) X.1 X.2.1 d_By_fits_310 (by decide) ⟨by omega, by omega⟩ ⟨by omega, by omega⟩ (fun h186 => ?_) (fun h186 => ?_)
          · refine lv_iconst (v := iI 0) X.1 X.2.1 d_By_fits_330 (by decide) ?_
            exact c_retz hQQ X Y hr hlk (iI_bool (by omega) (by omega)).1 ⟨rfl, rfl, 0, rfl, ⟨by omega, by omega, fun h9 => absurd h9 (by decide)⟩⟩ d_By_fits_331
          · refine lv_aload_n X.1 X.2.1 d_By_fits_313 rfl (lv_at hl 2 rfl) ?_
            refine lv_iload_n X.1 X.2.1 d_By_fits_314 rfl (lv_at hl 3 rfl) ?_
            refine lv_iload X.1 X.2.1 d_By_fits_315 (lv_at hl 0 rfl) ?_
            refine lv_iload_n X.1 X.2.1 d_By_fits_317 rfl (lv_at hl 5 rfl) ?_
            refine lv_iload X.1 X.2.1 d_By_fits_318 (lv_at hl 6 rfl) ?_
            refine t_ui (t_runV (As := [.int (iI a1), .int (iI z108), .int (iI a3), .int (iI a4)]) (rest := []) (n := 4) X Y S k0 hml hl.1 (c_By_fitsInsideX d IH l D E T κ L f H.size h n0 k0 (by omega) a1 (by omega) (by omega) z108 (by omega) (by omega) a3 (by omega) (by omega) a4 (by omega) (by omega) S.1 sz0 g0 (by omega) (by omega) hd) (ok_k X Y hA KS KR) rfl kl_By_By_fitsInside ks_By_fitsInside kx_By_fitsInside ki_By_fitsInside ini_By ⟨rfl, rfl⟩ hd_By_fitsInside ⟨by simp only [kRm]; omega, by simp only [kRm]; omega⟩ rfl (Nat.le_of_ble_eq_true rfl) d_By_fits_320 ⟨Nat.le_of_ble_eq_true rfl, Nat.le_of_ble_eq_true rfl⟩) X Y hA (fun z187 H locs Y p187 => ?_)
            obtain ⟨l187, u187, x187⟩ := p187
            refine z_if_eq (tgt := 330) X.1 X.2.1 d_By_fits_323 (by decide) ⟨by omega, by omega⟩ (fun h188 => ?_) (fun h188 => ?_)
            · refine lv_iconst (v := iI 0) X.1 X.2.1 d_By_fits_330 (by decide) ?_
              exact c_retz hQQ X Y hr hlk (iI_bool (by omega) (by omega)).1 ⟨rfl, rfl, 0, rfl, ⟨by omega, by omega, fun h9 => absurd h9 (by decide)⟩⟩ d_By_fits_331
            · refine lv_iconst (v := iI 1) X.1 X.2.1 d_By_fits_326 (by decide) ?_
              refine lv_goto (tgt := 331) X.1 X.2.1 d_By_fits_327 (by decide) ?_
              exact c_retz hQQ X Y hr hlk (iI_bool (by omega) (by omega)).1 ⟨rfl, rfl, 1, rfl, ⟨by omega, by omega, fun h9 => FitP_of (by have q9 := st103; rw [show z103 = a3 by omega] at q9; exact q9) st108 (x187 (by omega)) x185 (by omega)⟩⟩ d_By_fits_331
        by_cases h189 : a1 = 115
        · rw [h189]
          refine lv_tableIn (off := 173) (tgt := 216) X.1 X.2.1 d_By_fits_43 (by decide) (by decide) (by decide) (by decide) ?_
          refine lv_iload X.1 X.2.1 d_By_fits_216 (lv_at hl 1 rfl) ?_
          refine lv_bipush (v := iI 27) X.1 X.2.1 d_By_fits_218 (by decide) ?_
          refine z_icmp_ne (tgt := 237) X.1 X.2.1 d_By_fits_220 (by decide) ⟨by omega, by omega⟩ ⟨by omega, by omega⟩ (fun h190 => ?_) (fun h190 => ?_)
          · refine lv_iconst (v := iI 0) X.1 X.2.1 d_By_fits_237 (by decide) ?_
            exact c_retz hQQ X Y hr hlk (iI_bool (by omega) (by omega)).1 ⟨rfl, rfl, 0, rfl, ⟨by omega, by omega, fun h9 => absurd h9 (by decide)⟩⟩ d_By_fits_238
          · refine lv_aload_n X.1 X.2.1 d_By_fits_223 rfl (lv_at hl 2 rfl) ?_
            refine lv_iload X.1 X.2.1 d_By_fits_224 (lv_at hl 0 rfl) ?_
            refine lv_iload_n X.1 X.2.1 d_By_fits_226 rfl (lv_at hl 5 rfl) ?_
            refine t_ui (t_runV (As := [.int (iI z108), .int (iI a3)]) (rest := []) (n := 2) X Y S k0 hml hl.1 (c_By_isPrintable l D E T κ L f H.size h n0 k0 (by omega) z108 (by omega) (by omega) a3 (by omega) (by omega) S.1) (ok_k X Y hA KS KR) rfl kl_By_By_isPrintable ks_By_isPrintable kx_By_isPrintable ki_By_isPrintable ini_By ⟨rfl, rfl⟩ hd_By_isPrintable ⟨by simp only [kRm]; omega, by simp only [kRm]; omega⟩ rfl (Nat.le_of_ble_eq_true rfl) d_By_fits_227 ⟨Nat.le_of_ble_eq_true rfl, Nat.le_of_ble_eq_true rfl⟩) X Y hA (fun z191 H locs Y p191 => ?_)
            obtain ⟨l191, u191⟩ := p191
            refine z_if_eq (tgt := 237) X.1 X.2.1 d_By_fits_230 (by decide) ⟨by omega, by omega⟩ (fun h192 => ?_) (fun h192 => ?_)
            · refine lv_iconst (v := iI 0) X.1 X.2.1 d_By_fits_237 (by decide) ?_
              exact c_retz hQQ X Y hr hlk (iI_bool (by omega) (by omega)).1 ⟨rfl, rfl, 0, rfl, ⟨by omega, by omega, fun h9 => absurd h9 (by decide)⟩⟩ d_By_fits_238
            · refine lv_iconst (v := iI 1) X.1 X.2.1 d_By_fits_233 (by decide) ?_
              refine lv_goto (tgt := 238) X.1 X.2.1 d_By_fits_234 (by decide) ?_
              exact c_retz hQQ X Y hr hlk (iI_bool (by omega) (by omega)).1 ⟨rfl, rfl, 1, rfl, ⟨by omega, by omega, fun h9 => FitP_leaf (by have q9 := st103; rw [show z103 = a3 by omega] at q9; exact q9) (by omega) (by omega) (by omega) (by omega)⟩⟩ d_By_fits_238
        by_cases h193 : a1 = 116
        · rw [h193]
          refine lv_tableIn (off := 196) (tgt := 239) X.1 X.2.1 d_By_fits_43 (by decide) (by decide) (by decide) (by decide) ?_
          refine lv_iload X.1 X.2.1 d_By_fits_239 (lv_at hl 1 rfl) ?_
          refine lv_bipush (v := iI 24) X.1 X.2.1 d_By_fits_241 (by decide) ?_
          refine z_icmp_ne (tgt := 260) X.1 X.2.1 d_By_fits_243 (by decide) ⟨by omega, by omega⟩ ⟨by omega, by omega⟩ (fun h194 => ?_) (fun h194 => ?_)
          · refine lv_iconst (v := iI 0) X.1 X.2.1 d_By_fits_260 (by decide) ?_
            exact c_retz hQQ X Y hr hlk (iI_bool (by omega) (by omega)).1 ⟨rfl, rfl, 0, rfl, ⟨by omega, by omega, fun h9 => absurd h9 (by decide)⟩⟩ d_By_fits_261
          · refine lv_aload_n X.1 X.2.1 d_By_fits_246 rfl (lv_at hl 2 rfl) ?_
            refine lv_iload X.1 X.2.1 d_By_fits_247 (lv_at hl 0 rfl) ?_
            refine lv_iload_n X.1 X.2.1 d_By_fits_249 rfl (lv_at hl 5 rfl) ?_
            refine t_ui (t_runV (As := [.int (iI z108), .int (iI a3)]) (rest := []) (n := 2) X Y S k0 hml hl.1 (c_By_isTime l D E T κ L f H.size h n0 k0 (by omega) z108 (by omega) (by omega) a3 (by omega) (by omega) S.1) (ok_k X Y hA KS KR) rfl kl_By_By_isTime ks_By_isTime kx_By_isTime ki_By_isTime ini_By ⟨rfl, rfl⟩ hd_By_isTime ⟨by simp only [kRm]; omega, by simp only [kRm]; omega⟩ rfl (Nat.le_of_ble_eq_true rfl) d_By_fits_250 ⟨Nat.le_of_ble_eq_true rfl, Nat.le_of_ble_eq_true rfl⟩) X Y hA (fun z195 H locs Y p195 => ?_)
            obtain ⟨l195, u195⟩ := p195
            refine z_if_eq (tgt := 260) X.1 X.2.1 d_By_fits_253 (by decide) ⟨by omega, by omega⟩ (fun h196 => ?_) (fun h196 => ?_)
            · refine lv_iconst (v := iI 0) X.1 X.2.1 d_By_fits_260 (by decide) ?_
              exact c_retz hQQ X Y hr hlk (iI_bool (by omega) (by omega)).1 ⟨rfl, rfl, 0, rfl, ⟨by omega, by omega, fun h9 => absurd h9 (by decide)⟩⟩ d_By_fits_261
            · refine lv_iconst (v := iI 1) X.1 X.2.1 d_By_fits_256 (by decide) ?_
              refine lv_goto (tgt := 261) X.1 X.2.1 d_By_fits_257 (by decide) ?_
              exact c_retz hQQ X Y hr hlk (iI_bool (by omega) (by omega)).1 ⟨rfl, rfl, 1, rfl, ⟨by omega, by omega, fun h9 => FitP_leaf (by have q9 := st103; rw [show z103 = a3 by omega] at q9; exact q9) (by omega) (by omega) (by omega) (by omega)⟩⟩ d_By_fits_261
        by_cases h197 : a1 = 117
        · rw [h197]
          refine lv_tableIn (off := 121) (tgt := 164) X.1 X.2.1 d_By_fits_43 (by decide) (by decide) (by decide) (by decide) ?_
          refine lv_iload X.1 X.2.1 d_By_fits_164 (lv_at hl 1 rfl) ?_
          refine lv_iconst (v := iI 2) X.1 X.2.1 d_By_fits_166 (by decide) ?_
          refine z_icmp_ne (tgt := 188) X.1 X.2.1 d_By_fits_167 (by decide) ⟨by omega, by omega⟩ ⟨by omega, by omega⟩ (fun h198 => ?_) (fun h198 => ?_)
          · refine lv_iconst (v := iI 0) X.1 X.2.1 d_By_fits_188 (by decide) ?_
            exact c_retz hQQ X Y hr hlk (iI_bool (by omega) (by omega)).1 ⟨rfl, rfl, 0, rfl, ⟨by omega, by omega, fun h9 => absurd h9 (by decide)⟩⟩ d_By_fits_189
          · refine lv_aload_n X.1 X.2.1 d_By_fits_170 rfl (lv_at hl 2 rfl) ?_
            refine lv_iload X.1 X.2.1 d_By_fits_171 (lv_at hl 0 rfl) ?_
            refine lv_iload_n X.1 X.2.1 d_By_fits_173 rfl (lv_at hl 5 rfl) ?_
            refine lv_lconst (v := 0) X.1 X.2.1 d_By_fits_174 rfl ?_
            refine lv_ldc2 (v := (4294967295)) X.1 X.2.1 X.2.2.2.1 (X.2.2.1 _ cl_By_159) d_By_fits_175 ?_
            refine t_ui (t_runV (As := [.int (iI z108), .int (iI a3), .long 0, .long ((4294967295))]) (rest := []) (n := 4) X Y S k0 hml hl.1 (c_By_isNumber l D E T κ L f H.size h n0 k0 (by omega) z108 (by omega) (by omega) a3 (by omega) (by omega) 0 ((4294967295)) S.1) (ok_k X Y hA KS KR) rfl kl_By_By_isNumber ks_By_isNumber kx_By_isNumber ki_By_isNumber ini_By ⟨rfl, rfl⟩ hd_By_isNumber ⟨by simp only [kRm]; omega, by simp only [kRm]; omega⟩ rfl (Nat.le_of_ble_eq_true rfl) d_By_fits_178 ⟨Nat.le_of_ble_eq_true rfl, Nat.le_of_ble_eq_true rfl⟩) X Y hA (fun z199 H locs Y p199 => ?_)
            obtain ⟨l199, u199⟩ := p199
            refine z_if_eq (tgt := 188) X.1 X.2.1 d_By_fits_181 (by decide) ⟨by omega, by omega⟩ (fun h200 => ?_) (fun h200 => ?_)
            · refine lv_iconst (v := iI 0) X.1 X.2.1 d_By_fits_188 (by decide) ?_
              exact c_retz hQQ X Y hr hlk (iI_bool (by omega) (by omega)).1 ⟨rfl, rfl, 0, rfl, ⟨by omega, by omega, fun h9 => absurd h9 (by decide)⟩⟩ d_By_fits_189
            · refine lv_iconst (v := iI 1) X.1 X.2.1 d_By_fits_184 (by decide) ?_
              refine lv_goto (tgt := 189) X.1 X.2.1 d_By_fits_185 (by decide) ?_
              exact c_retz hQQ X Y hr hlk (iI_bool (by omega) (by omega)).1 ⟨rfl, rfl, 1, rfl, ⟨by omega, by omega, fun h9 => FitP_leaf (by have q9 := st103; rw [show z103 = a3 by omega] at q9; exact q9) (by omega) (by omega) (by omega) (by omega)⟩⟩ d_By_fits_189
        refine lv_tableOut (tgt := 304) X.1 X.2.1 d_By_fits_43 (by rw [iI_toInt ⟨by omega, by omega⟩]; omega) (by decide) ?_
        refine lv_iload X.1 X.2.1 d_By_fits_304 (lv_at hl 1 rfl) ?_
        refine lv_iload_n X.1 X.2.1 d_By_fits_306 rfl (lv_at hl 3 rfl) ?_
        refine t_ui (x_runS (As := [.int (iI a1)]) (rest := [.int (iI (z106 % 256))]) (n := 1) X hml hl.1 (c_By_tagOfX l D E T κ L f H.size a1 (by omega) (by omega) S.1) (ok_k X Y hA KS KR) kl_By_By_tagOf ks_By_tagOf ki_By_tagOf ini_By ⟨rfl, rfl⟩ hd_By_tagOf.2 ⟨by simp only [kRm]; omega, by simp only [kRm]; omega⟩ rfl (Nat.le_of_ble_eq_true rfl) d_By_fits_307 ⟨Nat.le_of_ble_eq_true rfl, Nat.le_of_ble_eq_true rfl⟩) X Y hA (fun z201 H locs Y p201 => ?_)
        obtain ⟨l201, u201, x201⟩ := p201
        refine z_icmp_ne (tgt := 330) X.1 X.2.1 d_By_fits_310 (by decide) ⟨by omega, by omega⟩ ⟨by omega, by omega⟩ (fun h202 => ?_) (fun h202 => ?_)
        · refine lv_iconst (v := iI 0) X.1 X.2.1 d_By_fits_330 (by decide) ?_
          exact c_retz hQQ X Y hr hlk (iI_bool (by omega) (by omega)).1 ⟨rfl, rfl, 0, rfl, ⟨by omega, by omega, fun h9 => absurd h9 (by decide)⟩⟩ d_By_fits_331
        · refine lv_aload_n X.1 X.2.1 d_By_fits_313 rfl (lv_at hl 2 rfl) ?_
          refine lv_iload_n X.1 X.2.1 d_By_fits_314 rfl (lv_at hl 3 rfl) ?_
          refine lv_iload X.1 X.2.1 d_By_fits_315 (lv_at hl 0 rfl) ?_
          refine lv_iload_n X.1 X.2.1 d_By_fits_317 rfl (lv_at hl 5 rfl) ?_
          refine lv_iload X.1 X.2.1 d_By_fits_318 (lv_at hl 6 rfl) ?_
          refine t_ui (t_runV (As := [.int (iI a1), .int (iI z108), .int (iI a3), .int (iI a4)]) (rest := []) (n := 4) X Y S k0 hml hl.1 (c_By_fitsInsideX d IH l D E T κ L f H.size h n0 k0 (by omega) a1 (by omega) (by omega) z108 (by omega) (by omega) a3 (by omega) (by omega) a4 (by omega) (by omega) S.1 sz0 g0 (by omega) (by omega) hd) (ok_k X Y hA KS KR) rfl kl_By_By_fitsInside ks_By_fitsInside kx_By_fitsInside ki_By_fitsInside ini_By ⟨rfl, rfl⟩ hd_By_fitsInside ⟨by simp only [kRm]; omega, by simp only [kRm]; omega⟩ rfl (Nat.le_of_ble_eq_true rfl) d_By_fits_320 ⟨Nat.le_of_ble_eq_true rfl, Nat.le_of_ble_eq_true rfl⟩) X Y hA (fun z203 H locs Y p203 => ?_)
          obtain ⟨l203, u203, x203⟩ := p203
          refine z_if_eq (tgt := 330) X.1 X.2.1 d_By_fits_323 (by decide) ⟨by omega, by omega⟩ (fun h204 => ?_) (fun h204 => ?_)
          · refine lv_iconst (v := iI 0) X.1 X.2.1 d_By_fits_330 (by decide) ?_
            exact c_retz hQQ X Y hr hlk (iI_bool (by omega) (by omega)).1 ⟨rfl, rfl, 0, rfl, ⟨by omega, by omega, fun h9 => absurd h9 (by decide)⟩⟩ d_By_fits_331
          · refine lv_iconst (v := iI 1) X.1 X.2.1 d_By_fits_326 (by decide) ?_
            refine lv_goto (tgt := 331) X.1 X.2.1 d_By_fits_327 (by decide) ?_
            exact c_retz hQQ X Y hr hlk (iI_bool (by omega) (by omega)).1 ⟨rfl, rfl, 1, rfl, ⟨by omega, by omega, fun h9 => FitP_of (by have q9 := st103; rw [show z103 = a3 by omega] at q9; exact q9) st108 (x203 (by omega)) x201 (by omega)⟩⟩ d_By_fits_331
      · refine lv_iconst (v := iI 0) X.1 X.2.1 d_By_fits_21 (by decide) ?_
        exact c_retz hQQ X Y hr hlk (iI_bool (by omega) (by omega)).1 ⟨rfl, rfl, 0, rfl, ⟨by omega, by omega, fun h9 => absurd h9 (by decide)⟩⟩ d_By_fits_22
theorem fitsX_all : ∀ d, C_fitsX d := by
  intro d
  induction d with
  | zero => intro l D E T κ L f sz h n0 k0 x0 a1 l_a1 u_a1 a2 l_a2 u_a2 a3 l_a3 u_a3 a4 l_a4 u_a4 hw sz0 g0 g1 g2 hd q0; exact c_By_fits0X l D E T κ L f sz h n0 k0 x0 a1 l_a1 u_a1 a2 l_a2 u_a2 a3 l_a3 u_a3 a4 (by omega) u_a4 hw sz0 g0 g1 g2
  | succ d ih => intro l D E T κ L f sz h n0 k0 x0 a1 l_a1 u_a1 a2 l_a2 u_a2 a3 l_a3 u_a3 a4 l_a4 u_a4 hw sz0 g0 g1 g2 hd q0; exact c_By_fitsX d ih l D E T κ L f sz h n0 k0 x0 a1 l_a1 u_a1 a2 l_a2 u_a2 a3 l_a3 u_a3 a4 l_a4 u_a4 hw sz0 g0 g1 g2 (by omega) q0
set_option maxHeartbeats 4000000 in
set_option maxRecDepth 100000 in
theorem c_By_isAX (l : Launch) (D : va_G) (E : cE) (T : cT) (κ : tK) (L : List Nat) (f : pF) (sz : Nat) (h n0 : Nat) (k0 : κ h = (13, n0)) (x0 : n0 ≤ 12288) (a1 : Int) (l_a1 : (-2147483648) ≤ a1) (u_a1 : a1 ≤ 2147483647) (a2 : Int) (l_a2 : (-1) ≤ a2) (u_a2 : a2 ≤ 20200) (a3 : Int) (l_a3 : (-1) ≤ a3) (u_a3 : a3 ≤ 20200) (hw : tW E T κ L f) (sz0 : Int) (g0 : gF f h 1 = .int (iI sz0)) (g1 : 0 ≤ sz0) (g2 : sz0 ≤ (n0 : Int)) (q0 : 0 ≤ a3 ∨ a2 < 0) : Met l y_By_isA (k_By_isA :: lw_tg) (kRm 70 2340 0 0) (va_Pc [.ref h, .int (iI a1), .int (iI a2), .int (iI a3)] (kPre D E T L f sz)) (va_Qi (uPi L f (fun (z : Int) => 0 ≤ z ∧ z ≤ 1 ∧ (z = 1 → FitP (rb f h) sz0 a1 a2 a3))) (cPost D E (pA L sz)) (pA L sz)) 0 0 (pA L sz) := by
  refine k_enter (own := R_By) (by decide) rfl (Nat.le_of_ble_eq_true rfl) (fun p e s m below meth c ls AV QQ H locs hQQ X Y hA hin hr hlk hml hl KS KR => ?_)
  have hl : lv_has ls 4 [(0, .ref h), (1, .int (iI a1)), (2, .int (iI a2)), (3, .int (iI a3))] := hl
  have S : tS E T (tFr κ L [] []) κ L f κ L f := tS_rf hw
  refine lv_aload_n X.1 X.2.1 d_By_isA_0 rfl (lv_at hl 0 rfl) ?_
  refine lv_iload_n X.1 X.2.1 d_By_isA_1 rfl (lv_at hl 1 rfl) ?_
  refine lv_iload_n X.1 X.2.1 d_By_isA_2 rfl (lv_at hl 2 rfl) ?_
  refine lv_iload_n X.1 X.2.1 d_By_isA_3 rfl (lv_at hl 3 rfl) ?_
  refine lv_iconst (v := iI 0) X.1 X.2.1 d_By_isA_4 (by decide) ?_
  refine t_ui (t_runV (As := [.int (iI a1), .int (iI a2), .int (iI a3), .int (iI 0)]) (rest := []) (n := 4) X Y S k0 hml hl.1 (fitsX_all 21 l D E T κ L f H.size h n0 k0 (by omega) a1 (by omega) (by omega) a2 (by omega) (by omega) a3 (by omega) (by omega) 0 (by omega) (by omega) S.1 sz0 g0 (by omega) (by omega) (by omega) (by omega)) (ok_k X Y hA KS KR) rfl kl_By_By_fits ks_By_fits kx_By_fits ki_By_fits ini_By ⟨rfl, rfl⟩ hd_By_fits ⟨Nat.le_of_ble_eq_true rfl, Nat.le_of_ble_eq_true rfl⟩ rfl (Nat.le_of_ble_eq_true rfl) d_By_isA_5 ⟨Nat.le_of_ble_eq_true rfl, Nat.le_of_ble_eq_true rfl⟩) X Y hA (fun z101 H locs Y p101 => ?_)
  obtain ⟨l101, u101, x101⟩ := p101
  exact c_retz hQQ X Y hr hlk (iI_bool (by omega) (by omega)).1 ⟨rfl, rfl, z101, rfl, ⟨by omega, by omega, x101⟩⟩ d_By_isA_8
