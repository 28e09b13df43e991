/-! What stays as it was: bytes outside a stretch, places outside some things. -/
def mmF (lo hi : Int) (m m' : Nat → Int32) : Prop := ∀ j : Nat, ((j : Int) < lo ∨ hi ≤ j) → m' j = m j
theorem mmF_rf {lo hi : Int} {m : Nat → Int32} : mmF lo hi m m := fun _ _ => rfl
theorem mmF_cg {lo hi : Int} {m m1 m2 : Nat → Int32} (h : m2 = m1) (k : mmF lo hi m m1) : mmF lo hi m m2 := by rw [h]; exact k
theorem mmF_tr {lo hi lo2 hi2 : Int} {m m1 m2 : Nat → Int32} (h : mmF lo hi m m1) (k : mmF lo2 hi2 m1 m2) (hs : lo ≤ lo2 ∧ hi2 ≤ hi) : mmF lo hi m m2 := fun j hj => (k j (by omega)).trans (h j hj)
theorem mmF_w {lo hi : Int} {m : Nat → Int32} {B B1 : Nat → Nat → Int32} {i : Nat} {x : Int32} (h : mmF lo hi m (B 0)) (w : rV B B1 0 i x) (h0 : lo ≤ (i : Int)) (h1 : (i : Int) < hi) : mmF lo hi m (B1 0) := fun j hj => by
  rw [w.1, pk_un (show j ≠ i by omega)]
  exact h j hj
def thF (ts : List Nat) (F0 T0 F T : Nat → Int32) : Prop := ∀ j : Nat, j < 192 → (∀ t ∈ ts, j < 16 * t ∨ 16 * t + 16 ≤ j) → F j = F0 j ∧ T j = T0 j
theorem thF_rf {ts : List Nat} {F T : Nat → Int32} : thF ts F T F T := fun _ _ _ => ⟨rfl, rfl⟩
theorem thF_cg {ts : List Nat} {F0 T0 F T F' T' : Nat → Int32} (h1 : F' = F) (h2 : T' = T) (h : thF ts F0 T0 F T) : thF ts F0 T0 F' T' := by rw [h1, h2]; exact h
theorem thF_tr {ts ts2 : List Nat} {F0 T0 F1 T1 F2 T2 : Nat → Int32} (h : thF ts F0 T0 F1 T1) (k : thF ts2 F1 T1 F2 T2) (hs : ∀ t ∈ ts2, t ∈ ts) : thF ts F0 T0 F2 T2 := fun j hj ht => by
  have h1 := h j hj ht
  have h2 := k j hj (fun t h3 => ht t (hs t h3))
  exact ⟨h2.1.trans h1.1, h2.2.trans h1.2⟩
set_option maxHeartbeats 4000000 in
set_option maxRecDepth 100000 in
theorem r_M_macEnd (l : Launch) (D : mD) (E : mE) (h : Nat) (q : Nat → Nat) (sz : Nat) (I : Nat → Int32) (J : Nat → Int64) (B : Nat → Nat → Int32) (G : Nat → Nat → Int64) (hT : rT I B) (hn : Int) (ghn : I 8 = iI hn) (lhn : 0 ≤ hn) (uhn : hn ≤ 900000) : Met l y_M_macEnd (k_M_macEnd :: lw_tg) (mR 4 135) (va_Pc [.ref h] (mPre D E h q (I, J, B, G) sz)) (va_Qv (rPv [8] [5, 6, 7, 9, 10] I B (fun (u : mS) => True)) (mPost D E h q (mA E h q sz)) (mA E h q sz)) 0 0 (mA E h q sz) := by
  refine m_enter (by decide) rfl (Nat.le_of_ble_eq_true rfl) (fun p e s m below meth c ls AV QQ H locs hQQ X Y hZ hA hr hlk hml hl => ?_)
  have Y : mH D E (mA E h q sz) s.heap h q I J B G H locs := Y
  have S : rS [8] [5, 6, 7, 9, 10] I B I B := rS_rf hT
  have hl : lv_has ls 2 [(0, .ref h)] := hl
  refine lv_aload_n X.1 X.2.1 d_M_macEnd_0 rfl (lv_at hl 0 rfl) ?_
  refine lv_aload_n X.1 X.2.1 d_M_macEnd_1 rfl (lv_at hl 0 rfl) ?_
  refine m_get X Y 9 (by decide) lk_inner (gf_inner _ _ _) rfl d_M_macEnd_2 ?_
  refine r_nv (m_run (As := [.ref ((q 9))]) (rest := []) (n := 1) X Y hZ hA hml hl.1 (r_M_finish_inner l D E h q H.size I J B G S.1 hn ghn (by omega) (by omega)) kl_M_finish ks_M_finish kx_M_finish ki_M_finish ini_M hd_M_finish ⟨Nat.le_of_ble_eq_true rfl, Nat.le_of_ble_eq_true rfl⟩ rfl (Nat.le_of_ble_eq_true rfl) d_M_macEnd_5 ⟨Nat.le_refl _, Nat.le_refl _⟩) X Y hA S (by decide) (by decide) (fun u H locs Y S s101 p101 => ?_)
  obtain ⟨I101, J101, B101, G101⟩ := u
  dsimp only at Y S s101 p101
  refine lv_aload_n X.1 X.2.1 d_M_macEnd_8 rfl (lv_at hl 0 rfl) ?_
  refine r_nv (m_run (As := []) (rest := []) (n := 0) X Y hZ hA hml hl.1 (r_M_begin l D E h q H.size I101 J101 B101 G101 S.1) kl_M_begin ks_M_begin kx_M_begin ki_M_begin ini_M hd_M_begin ⟨Nat.le_of_ble_eq_true rfl, Nat.le_of_ble_eq_true rfl⟩ rfl (Nat.le_of_ble_eq_true rfl) d_M_macEnd_9 ⟨Nat.le_refl _, Nat.le_refl _⟩) X Y hA S (by decide) (by decide) (fun u H locs Y S s102 p102 => ?_)
  obtain ⟨I102, J102, B102, G102⟩ := u
  dsimp only at Y S s102 p102
  have x102 := p102
  refine lv_iconst (v := iI 0) X.1 X.2.1 d_M_macEnd_12 (by decide) ?_
  have J107 : ∀ (n109 : Nat) (z104 : Int) (z105 : Int) (I103 : Nat → Int32) (J103 : Nat → Int64) (B103 : Nat → Nat → Int32) (G103 : Nat → Nat → Int64) (H : Heap) (locs : List Loc) (ls : Array Slot), (64 - z104).toNat = n109 → (0 ≤ z104) → (z104 ≤ 64) → (I103 8 = iI z105) → (0 ≤ z105) → (z105 ≤ 1000000) → (z105 = 0 + (z104 - 0)) → mH D E (mA E h q sz) s.heap h q I103 J103 B103 G103 H locs → rS [8] [5, 6, 7, 9, 10] I B I103 B103 → lv_has ls 2 [(0, .ref h), (1, .int (iI z104))] → W p l e (mR 4 135) s m AV below meth c H locs 0 0 QQ (F0 m 14 ls []) := by
    intro n109
    induction n109 using Nat.strongRecOn with
    | ind n109 ih108 =>
      intro z104 z105 I103 J103 B103 G103 H locs ls hm110 l104 u104 e105 l105 u105 i106 Y S hl
      refine lv_iload_n X.1 X.2.1 d_M_macEnd_14 rfl (lv_at hl 1 rfl) ?_
      refine lv_bipush (v := iI 64) X.1 X.2.1 d_M_macEnd_15 (by decide) ?_
      refine z_icmp_ge (tgt := 39) X.1 X.2.1 d_M_macEnd_17 (by decide) ⟨by omega, by omega⟩ ⟨by omega, by omega⟩ (fun h111 => ?_) (fun h111 => ?_)
      · refine lv_iconst (v := iI 0) X.1 X.2.1 d_M_macEnd_39 (by decide) ?_
        have J116 : ∀ (n118 : Nat) (z113 : Int) (z114 : Int) (I112 : Nat → Int32) (J112 : Nat → Int64) (B112 : Nat → Nat → Int32) (G112 : Nat → Nat → Int64) (H : Heap) (locs : List Loc) (ls : Array Slot), (20 - z113).toNat = n118 → (0 ≤ z113) → (z113 ≤ 20) → (I112 8 = iI z114) → (0 ≤ z114) → (z114 ≤ 1000000) → (z114 = z105 + (z113 - 0)) → mH D E (mA E h q sz) s.heap h q I112 J112 B112 G112 H locs → rS [8] [5, 6, 7, 9, 10] I B I112 B112 → lv_has ls 2 [(0, .ref h), (1, .int (iI z113))] → W p l e (mR 4 135) s m AV below meth c H locs 0 0 QQ (F0 m 41 ls []) := by
          intro n118
          induction n118 using Nat.strongRecOn with
          | ind n118 ih117 =>
            intro z113 z114 I112 J112 B112 G112 H locs ls hm119 l113 u113 e114 l114 u114 i115 Y S hl
            refine lv_iload_n X.1 X.2.1 d_M_macEnd_41 rfl (lv_at hl 1 rfl) ?_
            refine lv_bipush (v := iI 20) X.1 X.2.1 d_M_macEnd_42 (by decide) ?_
            refine z_icmp_ge (tgt := 63) X.1 X.2.1 d_M_macEnd_44 (by decide) ⟨by omega, by omega⟩ ⟨by omega, by omega⟩ (fun h120 => ?_) (fun h120 => ?_)
            · refine lv_aload_n X.1 X.2.1 d_M_macEnd_63 rfl (lv_at hl 0 rfl) ?_
              refine lv_aload_n X.1 X.2.1 d_M_macEnd_64 rfl (lv_at hl 0 rfl) ?_
              refine m_get X Y 10 (by decide) lk_mac (gf_mac _ _ _) rfl d_M_macEnd_65 ?_
              refine r_nv (m_run (As := [.ref ((q 10))]) (rest := []) (n := 1) X Y hZ hA hml hl.1 (r_M_finish_mac l D E h q H.size I112 J112 B112 G112 S.1 z114 e114 (by omega) (by omega)) kl_M_finish ks_M_finish kx_M_finish ki_M_finish ini_M hd_M_finish ⟨Nat.le_of_ble_eq_true rfl, Nat.le_of_ble_eq_true rfl⟩ rfl (Nat.le_of_ble_eq_true rfl) d_M_macEnd_68 ⟨Nat.le_refl _, Nat.le_refl _⟩) X Y hA S (by decide) (by decide) (fun u H locs Y S s121 p121 => ?_)
              obtain ⟨I121, J121, B121, G121⟩ := u
              dsimp only at Y S s121 p121
              exact m_retv hQQ X Y hr hlk ⟨S, trivial⟩ d_M_macEnd_71
            · refine lv_aload_n X.1 X.2.1 d_M_macEnd_47 rfl (lv_at hl 0 rfl) ?_
              refine lv_aload_n X.1 X.2.1 d_M_macEnd_48 rfl (lv_at hl 0 rfl) ?_
              refine m_get X Y 9 (by decide) lk_inner (gf_inner _ _ _) rfl d_M_macEnd_49 ?_
              refine lv_iload_n X.1 X.2.1 d_M_macEnd_52 rfl (lv_at hl 1 rfl) ?_
              refine r_bald X Y S (aw_inner _ _ _ _ _ _ _) rfl (by omega) (show z113 < ((20 : Nat) : Int) by omega) (by omega) d_M_macEnd_53 (fun z122 q122 l122 u122 => ?_)
              refine r_nv (m_run (As := [.int (iI z122)]) (rest := []) (n := 1) X Y hZ hA hml hl.1 (r_M_hash l D E h q H.size I112 J112 B112 G112 z122 (by omega) (by omega) S.1 z114 e114 (by omega) (by omega)) kl_M_hash ks_M_hash kx_M_hash ki_M_hash ini_M hd_M_hash ⟨Nat.le_of_ble_eq_true rfl, Nat.le_of_ble_eq_true rfl⟩ rfl (Nat.le_of_ble_eq_true rfl) d_M_macEnd_54 ⟨Nat.le_refl _, Nat.le_refl _⟩) X Y hA S (by decide) (by decide) (fun u H locs Y S s123 p123 => ?_)
              obtain ⟨I123, J123, B123, G123⟩ := u
              dsimp only at Y S s123 p123
              have x123 := p123
              refine lv_iinc (v := iI (z113 + 1)) (lv' := [(1, .int (iI (z113 + 1))), (0, .ref h)]) X.1 X.2.1 d_M_macEnd_57 hl (k := 1) rfl ((iI_add _ _).trans (congrArg iI (by omega))) (by decide) rfl (fun ls hl => ?_)
              refine lv_goto (tgt := 41) X.1 X.2.1 d_M_macEnd_60 (by decide) ?_
              exact ih117 ((20 - (z113 + 1)).toNat) (by omega) (z113 + 1) (z114 + 1) I123 J123 B123 G123 _ _ _ rfl (by omega) (by omega) (x123.trans (congrArg iI (show (z114 + 1 : Int) = z114 + 1 by omega))) (by omega) (by omega) (by omega) Y S (lv_sub hl [1, 0] rfl)
        refine lv_istore_n (lv' := [(1, .int (iI 0)), (0, .ref h)]) X.1 X.2.1 d_M_macEnd_40 rfl hl (by decide) rfl (fun ls hl => ?_)
        exact J116 _ 0 z105 I103 J103 B103 G103 _ _ _ rfl (by omega) (by omega) e105 (by omega) (by omega) (by omega) Y S (lv_sub hl [1, 0] rfl)
      · refine lv_aload_n X.1 X.2.1 d_M_macEnd_20 rfl (lv_at hl 0 rfl) ?_
        refine lv_aload_n X.1 X.2.1 d_M_macEnd_21 rfl (lv_at hl 0 rfl) ?_
        refine m_get X Y 11 (by decide) lk_macKey (gf_macKey _ _ _) rfl d_M_macEnd_22 ?_
        refine lv_iload_n X.1 X.2.1 d_M_macEnd_25 rfl (lv_at hl 1 rfl) ?_
        refine r_bald X Y S (aw_macKey _ _ _ _ _ _ _) rfl (by omega) (show z104 < ((64 : Nat) : Int) by omega) (by omega) d_M_macEnd_26 (fun z124 q124 l124 u124 => ?_)
        refine lv_bipush (v := iI 92) X.1 X.2.1 d_M_macEnd_27 (by decide) ?_
        refine lv_ixor X.1 X.2.1 d_M_macEnd_29 ?_
        refine t_u (fun z125 l125 u125 => ?_)
        refine r_nv (m_run (As := [.int (iI z125)]) (rest := []) (n := 1) X Y hZ hA hml hl.1 (r_M_hash l D E h q H.size I103 J103 B103 G103 z125 (by omega) (by omega) S.1 z105 e105 (by omega) (by omega)) kl_M_hash ks_M_hash kx_M_hash ki_M_hash ini_M hd_M_hash ⟨Nat.le_of_ble_eq_true rfl, Nat.le_of_ble_eq_true rfl⟩ rfl (Nat.le_of_ble_eq_true rfl) d_M_macEnd_30 ⟨Nat.le_refl _, Nat.le_refl _⟩) X Y hA S (by decide) (by decide) (fun u H locs Y S s126 p126 => ?_)
        obtain ⟨I126, J126, B126, G126⟩ := u
        dsimp only at Y S s126 p126
        have x126 := p126
        refine lv_iinc (v := iI (z104 + 1)) (lv' := [(1, .int (iI (z104 + 1))), (0, .ref h)]) X.1 X.2.1 d_M_macEnd_33 hl (k := 1) rfl ((iI_add _ _).trans (congrArg iI (by omega))) (by decide) rfl (fun ls hl => ?_)
        refine lv_goto (tgt := 14) X.1 X.2.1 d_M_macEnd_36 (by decide) ?_
        exact ih108 ((64 - (z104 + 1)).toNat) (by omega) (z104 + 1) (z105 + 1) I126 J126 B126 G126 _ _ _ rfl (by omega) (by omega) (x126.trans (congrArg iI (show (z105 + 1 : Int) = z105 + 1 by omega))) (by omega) (by omega) (by omega) Y S (lv_sub hl [1, 0] rfl)
  refine lv_istore_n (lv' := [(1, .int (iI 0)), (0, .ref h)]) X.1 X.2.1 d_M_macEnd_13 rfl hl (by decide) rfl (fun ls hl => ?_)
  exact J107 _ 0 0 I102 J102 B102 G102 _ _ _ rfl (by omega) (by omega) x102 (by omega) (by omega) (by omega) Y S (lv_sub hl [1, 0] rfl)
set_option maxHeartbeats 4000000 in
set_option maxRecDepth 100000 in
theorem r_M_product (l : Launch) (a1 : Int) (l_a1 : 0 ≤ a1) (u_a1 : a1 ≤ 255) (a2 : Int) (l_a2 : 0 ≤ a2) (u_a2 : a2 ≤ 255) : Met l y_M_product (k_M_product :: lw_tg) (mR 2 80) (va_Pc [.int (iI a1), .int (iI a2)] pPre) (va_Qi (fun (r : Int32) (_ : Unit) => ∃ z : Int, r = iI z ∧ 0 ≤ z ∧ z ≤ 255) (fun _ _ => True) (fun _ => False)) 0 0 (fun _ => False) := by
  refine p_enter (by decide) rfl (Nat.le_of_ble_eq_true rfl) (fun p e s m below meth c ls AV QQ H locs hQQ hS X hr hlk hml hl => ?_)
  have hl : lv_has ls 5 [(0, .int (iI a1)), (1, .int (iI a2))] := hl
  refine lv_iconst (v := iI 0) X.1 X.2.1 d_M_product_0 (by decide) ?_
  refine lv_istore_n (lv' := [(2, .int (iI 0)), (0, .int (iI a1)), (1, .int (iI a2))]) X.1 X.2.1 d_M_product_1 rfl hl (by decide) rfl (fun ls hl => ?_)
  refine lv_iload_n X.1 X.2.1 d_M_product_2 rfl (lv_at hl 1 rfl) ?_
  refine lv_istore_n (lv' := [(3, .int (iI a1)), (2, .int (iI 0)), (0, .int (iI a1)), (1, .int (iI a2))]) X.1 X.2.1 d_M_product_3 rfl hl (by decide) rfl (fun ls hl => ?_)
  refine lv_iload_n X.1 X.2.1 d_M_product_4 rfl (lv_at hl 3 rfl) ?_
  have J104 : ∀ (n106 : Nat) (z101 : Int) (z102 : Int) (z103 : Int) (H : Heap) (locs : List Loc) (ls : Array Slot), (z103).toNat = n106 → (0 ≤ z101) → (z101 ≤ 255) → (0 ≤ z102) → (z102 ≤ 255) → (0 ≤ z103) → (z103 ≤ 255) → va_S (fun _ => False) s.heap H locs → lv_has ls 5 [(2, .int (iI z101)), (3, .int (iI z102)), (4, .int (iI z103))] → W p l e (mR 2 80) s m AV below meth c H locs 0 0 QQ (F0 m 7 ls []) := by
    intro n106
    induction n106 using Nat.strongRecOn with
    | ind n106 ih105 =>
      intro z101 z102 z103 H locs ls hm107 l101 u101 l102 u102 l103 u103 hS hl
      refine lv_iload X.1 X.2.1 d_M_product_7 (lv_at hl 2 rfl) ?_
      refine z_if_le (tgt := 38) X.1 X.2.1 d_M_product_9 (by decide) ⟨by omega, by omega⟩ (fun h108 => ?_) (fun h108 => ?_)
      · refine lv_iload_n X.1 X.2.1 d_M_product_38 rfl (lv_at hl 0 rfl) ?_
        exact p_reti hQQ hS X hr hlk ⟨z101, rfl, ⟨by omega, by omega⟩⟩ d_M_product_39
      · refine lv_iload X.1 X.2.1 d_M_product_12 (lv_at hl 2 rfl) ?_
        refine lv_iconst (v := iI 1) X.1 X.2.1 d_M_product_14 (by decide) ?_
        refine z_iand X.1 X.2.1 (by omega) (by omega) d_M_product_15 (fun z109 l109 u109 => ?_)
        refine lv_iconst (v := iI 1) X.1 X.2.1 d_M_product_16 (by decide) ?_
        have J111 : ∀ (z110 : Int) (H : Heap) (locs : List Loc) (ls : Array Slot), (0 ≤ z110) → (z110 ≤ 255) → va_S (fun _ => False) s.heap H locs → lv_has ls 5 [(2, .int (iI z110)), (3, .int (iI z102)), (4, .int (iI z103))] → W p l e (mR 2 80) s m AV below meth c H locs 0 0 QQ (F0 m 24 ls []) := by
          intro z110 H locs ls l110 u110 hS hl
          refine lv_iload_n X.1 X.2.1 d_M_product_24 rfl (lv_at hl 1 rfl) ?_
          refine pp_calli (As := [.int (iI z102)]) (rest := []) (n := 1) hS X hml hl.1 (r_M_twice l z102 (by omega) (by omega)) kl_M_twice ks_M_twice ki_M_twice ini_M hd_M_twice ⟨Nat.le_of_ble_eq_true rfl, Nat.le_of_ble_eq_true rfl⟩ rfl (Nat.le_of_ble_eq_true rfl) d_M_product_25 (fun r115 H locs p115 hS => ?_)
          obtain ⟨z115, e115, p115⟩ := p115
          subst e115
          obtain ⟨l115, u115⟩ := p115
          refine lv_istore_n (lv' := [(3, .int (iI z115)), (2, .int (iI z110)), (4, .int (iI z103))]) X.1 X.2.1 d_M_product_28 rfl hl (by decide) rfl (fun ls hl => ?_)
          refine lv_iload X.1 X.2.1 d_M_product_29 (lv_at hl 2 rfl) ?_
          refine lv_iconst (v := iI 1) X.1 X.2.1 d_M_product_31 (by decide) ?_
          refine z_ishr 1 2 X.1 X.2.1 (by omega) (by omega) (by decide) rfl d_M_product_32 ?_
          refine lv_istore (lv' := [(4, .int (iI (z103 / 2))), (3, .int (iI z115)), (2, .int (iI z110))]) X.1 X.2.1 d_M_product_33 hl (by decide) rfl (fun ls hl => ?_)
          refine lv_goto (tgt := 7) X.1 X.2.1 d_M_product_35 (by decide) ?_
          exact ih105 ((z103 / 2).toNat) (by omega) z110 z115 (z103 / 2) _ _ _ rfl (by omega) (by omega) (by omega) (by omega) (by omega) (by omega) hS (lv_sub hl [2, 1, 0] rfl)
        refine z_icmp_ne (tgt := 24) X.1 X.2.1 d_M_product_17 (by decide) ⟨by omega, by omega⟩ ⟨by omega, by omega⟩ (fun h116 => ?_) (fun h116 => ?_)
        · exact J111 z101 _ _ _ (by omega) (by omega) hS (lv_sub hl [0, 1, 2] rfl)
        · refine lv_iload_n X.1 X.2.1 d_M_product_20 rfl (lv_at hl 0 rfl) ?_
          refine lv_iload_n X.1 X.2.1 d_M_product_21 rfl (lv_at hl 1 rfl) ?_
          refine z_ixor X.1 X.2.1 ⟨by omega, by omega⟩ ⟨by omega, by omega⟩ d_M_product_22 (fun z117 l117 u117 => ?_)
          refine lv_istore_n (lv' := [(2, .int (iI z117)), (3, .int (iI z102)), (4, .int (iI z103))]) X.1 X.2.1 d_M_product_23 rfl hl (by decide) rfl (fun ls hl => ?_)
          exact J111 z117 _ _ _ (by omega) (by omega) hS (lv_sub hl [0, 1, 2] rfl)
  refine lv_istore (lv' := [(4, .int (iI a2)), (3, .int (iI a1)), (2, .int (iI 0)), (0, .int (iI a1)), (1, .int (iI a2))]) X.1 X.2.1 d_M_product_5 hl (by decide) rfl (fun ls hl => ?_)
  exact J104 _ 0 a1 a2 _ _ _ rfl (by omega) (by omega) (by omega) (by omega) (by omega) (by omega) hS (lv_sub hl [2, 1, 0] rfl)
set_option maxHeartbeats 4000000 in
set_option maxRecDepth 100000 in
theorem r_M_makeBox (l : Launch) (D : mD) (E : mE) (h : Nat) (q : Nat → Nat) (sz : Nat) (I : Nat → Int32) (J : Nat → Int64) (B : Nat → Nat → Int32) (G : Nat → Nat → Int64) (hT : rT I B) : Met l y_M_makeBox (k_M_makeBox :: lw_tg) (mR 3 104) (va_Pc [.ref h] (mPre D E h q (I, J, B, G) sz)) (va_Qv (rPv [14] [12, 13] I B (fun (u : mS) => True)) (mPost D E h q (mA E h q sz)) (mA E h q sz)) 0 0 (mA E h q sz) := by
  refine m_enter (by decide) rfl (Nat.le_of_ble_eq_true rfl) (fun p e s m below meth c ls AV QQ H locs hQQ X Y hZ hA hr hlk hml hl => ?_)
  have Y : mH D E (mA E h q sz) s.heap h q I J B G H locs := Y
  have S : rS [14] [12, 13] I B I B := rS_rf hT
  have hl : lv_has ls 6 [(0, .ref h)] := hl
  refine lv_aload_n X.1 X.2.1 d_M_makeBox_0 rfl (lv_at hl 0 rfl) ?_
  refine lv_iconst (v := iI 1) X.1 X.2.1 d_M_makeBox_1 (by decide) ?_
  refine r_puti (k := 14) X Y S (by decide) lk_hasBox rfl rfl (t_M_ok 14 (by decide)) (iI_bool (by omega) (by omega)).1 (iI_bool (by omega) (by omega)).2 (sf_hasBox _ _ _ _) (Nat.le_of_ble_eq_true rfl) rfl (show (0 : Int) ≤ 1 by omega) (show 1 ≤ (1 : Int) by omega) ⟨by omega, by omega⟩ (by decide) d_M_makeBox_2 (fun I101 H locs Y S w101 => ?_)
  refine lv_iconst (v := iI 0) X.1 X.2.1 d_M_makeBox_5 (by decide) ?_
  have J104 : ∀ (n106 : Nat) (z103 : Int) (I102 : Nat → Int32) (J102 : Nat → Int64) (B102 : Nat → Nat → Int32) (G102 : Nat → Nat → Int64) (H : Heap) (locs : List Loc) (ls : Array Slot), (256 - z103).toNat = n106 → (0 ≤ z103) → (z103 ≤ 256) → mH D E (mA E h q sz) s.heap h q I102 J102 B102 G102 H locs → rS [14] [12, 13] I B I102 B102 → lv_has ls 6 [(0, .ref h), (1, .int (iI z103))] → W p l e (mR 3 104) s m AV below meth c H locs 0 0 QQ (F0 m 7 ls []) := by
    intro n106
    induction n106 using Nat.strongRecOn with
    | ind n106 ih105 =>
      intro z103 I102 J102 B102 G102 H locs ls hm107 l103 u103 Y S hl
      refine lv_iload_n X.1 X.2.1 d_M_makeBox_7 rfl (lv_at hl 1 rfl) ?_
      refine lv_sipush (v := iI 256) X.1 X.2.1 d_M_makeBox_8 (by decide) ?_
      refine z_icmp_ge (tgt := 139) X.1 X.2.1 d_M_makeBox_11 (by decide) ⟨by omega, by omega⟩ ⟨by omega, by omega⟩ (fun h108 => ?_) (fun h108 => ?_)
      · exact m_retv hQQ X Y hr hlk ⟨S, trivial⟩ d_M_makeBox_139
      · refine lv_iconst (v := iI 1) X.1 X.2.1 d_M_makeBox_14 (by decide) ?_
        refine lv_istore_n (lv' := [(2, .int (iI 1)), (0, .ref h), (1, .int (iI z103))]) X.1 X.2.1 d_M_makeBox_15 rfl hl (by decide) rfl (fun ls hl => ?_)
        refine lv_iconst (v := iI 0) X.1 X.2.1 d_M_makeBox_16 (by decide) ?_
        have J111 : ∀ (n113 : Nat) (z109 : Int) (z110 : Int) (H : Heap) (locs : List Loc) (ls : Array Slot), (254 - z110).toNat = n113 → (0 ≤ z109) → (z109 ≤ 255) → (0 ≤ z110) → (z110 ≤ 254) → mH D E (mA E h q sz) s.heap h q I102 J102 B102 G102 H locs → rS [14] [12, 13] I B I102 B102 → lv_has ls 6 [(0, .ref h), (1, .int (iI z103)), (2, .int (iI z109)), (3, .int (iI z110))] → W p l e (mR 3 104) s m AV below meth c H locs 0 0 QQ (F0 m 18 ls []) := by
          intro n113
          induction n113 using Nat.strongRecOn with
          | ind n113 ih112 =>
            intro z109 z110 H locs ls hm114 l109 u109 l110 u110 Y S hl
            refine lv_iload_n X.1 X.2.1 d_M_makeBox_18 rfl (lv_at hl 3 rfl) ?_
            refine lv_sipush (v := iI 254) X.1 X.2.1 d_M_makeBox_19 (by decide) ?_
            refine z_icmp_ge (tgt := 37) X.1 X.2.1 d_M_makeBox_22 (by decide) ⟨by omega, by omega⟩ ⟨by omega, by omega⟩ (fun h115 => ?_) (fun h115 => ?_)
            · refine lv_iconst (v := iI 0) X.1 X.2.1 d_M_makeBox_37 (by decide) ?_
              refine lv_istore_n (lv' := [(3, .int (iI 0)), (0, .ref h), (1, .int (iI z103)), (2, .int (iI z109))]) X.1 X.2.1 d_M_makeBox_38 rfl hl (by decide) rfl (fun ls hl => ?_)
              refine lv_iconst (v := iI 0) X.1 X.2.1 d_M_makeBox_39 (by decide) ?_
              have J118 : ∀ (n120 : Nat) (z116 : Int) (z117 : Int) (H : Heap) (locs : List Loc) (ls : Array Slot), (8 - z117).toNat = n120 → (0 ≤ z116) → (z116 ≤ 255) → (0 ≤ z117) → (z117 ≤ 8) → mH D E (mA E h q sz) s.heap h q I102 J102 B102 G102 H locs → rS [14] [12, 13] I B I102 B102 → lv_has ls 6 [(0, .ref h), (1, .int (iI z103)), (2, .int (iI z109)), (3, .int (iI z116)), (4, .int (iI z117))] → W p l e (mR 3 104) s m AV below meth c H locs 0 0 QQ (F0 m 42 ls []) := by
                intro n120
                induction n120 using Nat.strongRecOn with
                | ind n120 ih119 =>
                  intro z116 z117 H locs ls hm121 l116 u116 l117 u117 Y S hl
                  refine lv_iload X.1 X.2.1 d_M_makeBox_42 (lv_at hl 4 rfl) ?_
                  refine lv_bipush (v := iI 8) X.1 X.2.1 d_M_makeBox_44 (by decide) ?_
                  refine z_icmp_ge (tgt := 119) X.1 X.2.1 d_M_makeBox_46 (by decide) ⟨by omega, by omega⟩ ⟨by omega, by omega⟩ (fun h122 => ?_) (fun h122 => ?_)
                  · refine lv_aload_n X.1 X.2.1 d_M_makeBox_119 rfl (lv_at hl 0 rfl) ?_
                    refine m_get X Y 12 (by decide) lk_box (gf_box _ _ _) rfl d_M_makeBox_120 ?_
                    refine lv_iload_n X.1 X.2.1 d_M_makeBox_123 rfl (lv_at hl 1 rfl) ?_
                    refine lv_iload_n X.1 X.2.1 d_M_makeBox_124 rfl (lv_at hl 3 rfl) ?_
                    refine r_iast X Y S (aw_box _ _ _ _ _ _ _) (sw_box _ _ _ _ _ _ _) rfl ⟨(show (0 : Int) ≤ z116 by omega), (show z116 ≤ (255 : Int) by omega)⟩ ⟨by omega, by omega⟩ (by omega) (show z103 < ((256 : Nat) : Int) by omega) (by omega) (by decide) d_M_makeBox_125 (fun B123 H locs Y S w123 => ?_)
                    refine lv_aload_n X.1 X.2.1 d_M_makeBox_126 rfl (lv_at hl 0 rfl) ?_
                    refine m_get X Y 13 (by decide) lk_back (gf_back _ _ _) rfl d_M_makeBox_127 ?_
                    refine lv_iload_n X.1 X.2.1 d_M_makeBox_130 rfl (lv_at hl 3 rfl) ?_
                    refine lv_iload_n X.1 X.2.1 d_M_makeBox_131 rfl (lv_at hl 1 rfl) ?_
                    refine r_iast X Y S (aw_back _ _ _ _ _ _ _) (sw_back _ _ _ _ _ _ _) rfl ⟨(show (0 : Int) ≤ z103 by omega), (show z103 ≤ (255 : Int) by omega)⟩ ⟨by omega, by omega⟩ (by omega) (show z116 < ((256 : Nat) : Int) by omega) (by omega) (by decide) d_M_makeBox_132 (fun B124 H locs Y S w124 => ?_)
                    refine lv_iinc (v := iI (z103 + 1)) (lv' := [(1, .int (iI (z103 + 1))), (0, .ref h), (2, .int (iI z109)), (3, .int (iI z116)), (4, .int (iI z117))]) X.1 X.2.1 d_M_makeBox_133 hl (k := 1) rfl ((iI_add _ _).trans (congrArg iI (by omega))) (by decide) rfl (fun ls hl => ?_)
                    refine lv_goto (tgt := 7) X.1 X.2.1 d_M_makeBox_136 (by decide) ?_
                    exact ih105 ((256 - (z103 + 1)).toNat) (by omega) (z103 + 1) I102 J102 B124 G102 _ _ _ rfl (by omega) (by omega) Y S (lv_sub hl [1, 0] rfl)
                  · refine lv_iload_n X.1 X.2.1 d_M_makeBox_49 rfl (lv_at hl 2 rfl) ?_
                    refine lv_iload X.1 X.2.1 d_M_makeBox_50 (lv_at hl 4 rfl) ?_
                    refine lv_ishr X.1 X.2.1 d_M_makeBox_52 ?_
                    refine t_u (fun z125 l125 u125 => ?_)
                    refine lv_iload_n X.1 X.2.1 d_M_makeBox_53 rfl (lv_at hl 2 rfl) ?_
                    refine lv_iload X.1 X.2.1 d_M_makeBox_54 (lv_at hl 4 rfl) ?_
                    refine lv_iconst (v := iI 4) X.1 X.2.1 d_M_makeBox_56 (by decide) ?_
                    refine z_iadd X.1 X.2.1 d_M_makeBox_57 ?_
                    refine lv_bipush (v := iI 8) X.1 X.2.1 d_M_makeBox_58 (by decide) ?_
                    refine z_irem X.1 X.2.1 (by omega) (by omega) ⟨by decide, by decide⟩ d_M_makeBox_60 ?_
                    refine lv_ishr X.1 X.2.1 d_M_makeBox_61 ?_
                    refine t_u (fun z126 l126 u126 => ?_)
                    refine lv_ixor X.1 X.2.1 d_M_makeBox_62 ?_
                    refine t_u (fun z127 l127 u127 => ?_)
                    refine lv_iload_n X.1 X.2.1 d_M_makeBox_63 rfl (lv_at hl 2 rfl) ?_
                    refine lv_iload X.1 X.2.1 d_M_makeBox_64 (lv_at hl 4 rfl) ?_
                    refine lv_iconst (v := iI 5) X.1 X.2.1 d_M_makeBox_66 (by decide) ?_
                    refine z_iadd X.1 X.2.1 d_M_makeBox_67 ?_
                    refine lv_bipush (v := iI 8) X.1 X.2.1 d_M_makeBox_68 (by decide) ?_
                    refine z_irem X.1 X.2.1 (by omega) (by omega) ⟨by decide, by decide⟩ d_M_makeBox_70 ?_
                    refine lv_ishr X.1 X.2.1 d_M_makeBox_71 ?_
                    refine t_u (fun z128 l128 u128 => ?_)
                    refine lv_ixor X.1 X.2.1 d_M_makeBox_72 ?_
                    refine t_u (fun z129 l129 u129 => ?_)
                    refine lv_iload_n X.1 X.2.1 d_M_makeBox_73 rfl (lv_at hl 2 rfl) ?_
                    refine lv_iload X.1 X.2.1 d_M_makeBox_74 (lv_at hl 4 rfl) ?_
                    refine lv_bipush (v := iI 6) X.1 X.2.1 d_M_makeBox_76 (by decide) ?_
                    refine z_iadd X.1 X.2.1 d_M_makeBox_78 ?_
                    refine lv_bipush (v := iI 8) X.1 X.2.1 d_M_makeBox_79 (by decide) ?_
                    refine z_irem X.1 X.2.1 (by omega) (by omega) ⟨by decide, by decide⟩ d_M_makeBox_81 ?_
                    refine lv_ishr X.1 X.2.1 d_M_makeBox_82 ?_
                    refine t_u (fun z130 l130 u130 => ?_)
                    refine lv_ixor X.1 X.2.1 d_M_makeBox_83 ?_
                    refine t_u (fun z131 l131 u131 => ?_)
                    refine lv_iload_n X.1 X.2.1 d_M_makeBox_84 rfl (lv_at hl 2 rfl) ?_
                    refine lv_iload X.1 X.2.1 d_M_makeBox_85 (lv_at hl 4 rfl) ?_
                    refine lv_bipush (v := iI 7) X.1 X.2.1 d_M_makeBox_87 (by decide) ?_
                    refine z_iadd X.1 X.2.1 d_M_makeBox_89 ?_
                    refine lv_bipush (v := iI 8) X.1 X.2.1 d_M_makeBox_90 (by decide) ?_
                    refine z_irem X.1 X.2.1 (by omega) (by omega) ⟨by decide, by decide⟩ d_M_makeBox_92 ?_
                    refine lv_ishr X.1 X.2.1 d_M_makeBox_93 ?_
                    refine t_u (fun z132 l132 u132 => ?_)
                    refine lv_ixor X.1 X.2.1 d_M_makeBox_94 ?_
                    refine t_u (fun z133 l133 u133 => ?_)
                    refine lv_bipush (v := iI 99) X.1 X.2.1 d_M_makeBox_95 (by decide) ?_
                    refine lv_iload X.1 X.2.1 d_M_makeBox_97 (lv_at hl 4 rfl) ?_
                    refine lv_ishr X.1 X.2.1 d_M_makeBox_99 ?_
                    refine t_u (fun z134 l134 u134 => ?_)
                    refine lv_ixor X.1 X.2.1 d_M_makeBox_100 ?_
                    refine t_u (fun z135 l135 u135 => ?_)
                    refine lv_istore (lv' := [(5, .int (iI z135)), (0, .ref h), (1, .int (iI z103)), (2, .int (iI z109)), (3, .int (iI z116)), (4, .int (iI z117))]) X.1 X.2.1 d_M_makeBox_101 hl (by decide) rfl (fun ls hl => ?_)
                    refine lv_iload_n X.1 X.2.1 d_M_makeBox_103 rfl (lv_at hl 4 rfl) ?_
                    refine lv_iload X.1 X.2.1 d_M_makeBox_104 (lv_at hl 0 rfl) ?_
                    refine lv_iconst (v := iI 1) X.1 X.2.1 d_M_makeBox_106 (by decide) ?_
                    refine z_iand X.1 X.2.1 (by omega) (by omega) d_M_makeBox_107 (fun z136 l136 u136 => ?_)
                    refine lv_iload X.1 X.2.1 d_M_makeBox_108 (lv_at hl 5 rfl) ?_
                    refine z_ishl1 X.1 X.2.1 ⟨by omega, by omega⟩ ⟨by omega, by omega⟩ d_M_makeBox_110 (fun z137 l137 u137 => ?_)
                    refine z_ior X.1 X.2.1 ⟨by omega, by omega⟩ ⟨by omega, by omega⟩ d_M_makeBox_111 (fun z138 l138 u138 => ?_)
                    refine lv_istore_n (lv' := [(3, .int (iI z138)), (5, .int (iI z135)), (0, .ref h), (1, .int (iI z103)), (2, .int (iI z109)), (4, .int (iI z117))]) X.1 X.2.1 d_M_makeBox_112 rfl hl (by decide) rfl (fun ls hl => ?_)
                    refine lv_iinc (v := iI (z117 + 1)) (lv' := [(4, .int (iI (z117 + 1))), (3, .int (iI z138)), (5, .int (iI z135)), (0, .ref h), (1, .int (iI z103)), (2, .int (iI z109))]) X.1 X.2.1 d_M_makeBox_113 hl (k := 5) rfl ((iI_add _ _).trans (congrArg iI (by omega))) (by decide) rfl (fun ls hl => ?_)
                    refine lv_goto (tgt := 42) X.1 X.2.1 d_M_makeBox_116 (by decide) ?_
                    exact ih119 ((8 - (z117 + 1)).toNat) (by omega) z138 (z117 + 1) _ _ _ rfl (by omega) (by omega) (by omega) (by omega) Y S (lv_sub hl [3, 4, 5, 1, 0] rfl)
              refine lv_istore (lv' := [(4, .int (iI 0)), (3, .int (iI 0)), (0, .ref h), (1, .int (iI z103)), (2, .int (iI z109))]) X.1 X.2.1 d_M_makeBox_40 hl (by decide) rfl (fun ls hl => ?_)
              exact J118 _ 0 0 _ _ _ rfl (by omega) (by omega) (by omega) (by omega) Y S (lv_sub hl [2, 3, 4, 1, 0] rfl)
            · refine lv_iload_n X.1 X.2.1 d_M_makeBox_25 rfl (lv_at hl 2 rfl) ?_
              refine lv_iload_n X.1 X.2.1 d_M_makeBox_26 rfl (lv_at hl 1 rfl) ?_
              refine p_calli (As := [.int (iI z109), .int (iI z103)]) (rest := []) (n := 2) X Y hml hl.1 (r_M_product l z109 (by omega) (by omega) z103 (by omega) (by omega)) kl_M_product ks_M_product ki_M_product ini_M hd_M_product ⟨Nat.le_of_ble_eq_true rfl, Nat.le_of_ble_eq_true rfl⟩ rfl (Nat.le_of_ble_eq_true rfl) d_M_makeBox_27 ⟨Nat.le_refl _, Nat.le_refl _⟩ (fun r139 H locs p139 Y => ?_)
              obtain ⟨z139, e139, p139⟩ := p139
              subst e139
              obtain ⟨l139, u139⟩ := p139
              refine lv_istore_n (lv' := [(2, .int (iI z139)), (0, .ref h), (1, .int (iI z103)), (3, .int (iI z110))]) X.1 X.2.1 d_M_makeBox_30 rfl hl (by decide) rfl (fun ls hl => ?_)
              refine lv_iinc (v := iI (z110 + 1)) (lv' := [(3, .int (iI (z110 + 1))), (2, .int (iI z139)), (0, .ref h), (1, .int (iI z103))]) X.1 X.2.1 d_M_makeBox_31 hl (k := 3) rfl ((iI_add _ _).trans (congrArg iI (by omega))) (by decide) rfl (fun ls hl => ?_)
              refine lv_goto (tgt := 18) X.1 X.2.1 d_M_makeBox_34 (by decide) ?_
              exact ih112 ((254 - (z110 + 1)).toNat) (by omega) z139 (z110 + 1) _ _ _ rfl (by omega) (by omega) (by omega) (by omega) Y S (lv_sub hl [2, 3, 1, 0] rfl)
        refine lv_istore_n (lv' := [(3, .int (iI 0)), (2, .int (iI 1)), (0, .ref h), (1, .int (iI z103))]) X.1 X.2.1 d_M_makeBox_17 rfl hl (by decide) rfl (fun ls hl => ?_)
        exact J111 _ 1 0 _ _ _ rfl (by omega) (by omega) (by omega) (by omega) Y S (lv_sub hl [2, 3, 1, 0] rfl)
  refine lv_istore_n (lv' := [(1, .int (iI 0)), (0, .ref h)]) X.1 X.2.1 d_M_makeBox_6 rfl hl (by decide) rfl (fun ls hl => ?_)
  exact J104 _ 0 I101 J B G _ _ _ rfl (by omega) (by omega) Y S (lv_sub hl [1, 0] rfl)
set_option maxHeartbeats 4000000 in
set_option maxRecDepth 100000 in
theorem r_M_boxed (l : Launch) (D : mD) (E : mE) (h : Nat) (q : Nat → Nat) (sz : Nat) (I : Nat → Int32) (J : Nat → Int64) (B : Nat → Nat → Int32) (G : Nat → Nat → Int64) (a1 : Int) (l_a1 : (-2147483648) ≤ a1) (u_a1 : a1 ≤ 2147483647) (hT : rT I B) : Met l y_M_boxed (k_M_boxed :: lw_tg) (mR 1 60) (va_Pc [.ref h, .int (iI a1)] (mPre D E h q (I, J, B, G) sz)) (va_Qi (rPi [] [] I B (fun (z : Int) (u : mS) => (-2147483648) ≤ z ∧ z ≤ 2147483647)) (mPost D E h q (mA E h q sz)) (mA E h q sz)) 0 0 (mA E h q sz) := by
  refine m_enter (by decide) rfl (Nat.le_of_ble_eq_true rfl) (fun p e s m below meth c ls AV QQ H locs hQQ X Y hZ hA hr hlk hml hl => ?_)
  have Y : mH D E (mA E h q sz) s.heap h q I J B G H locs := Y
  have S : rS [] [] I B I B := rS_rf hT
  have hl : lv_has ls 2 [(0, .ref h), (1, .int (iI a1))] := hl
  refine lv_aload_n X.1 X.2.1 d_M_boxed_0 rfl (lv_at hl 0 rfl) ?_
  refine m_get X Y 12 (by decide) lk_box (gf_box _ _ _) rfl d_M_boxed_1 ?_
  refine lv_iload_n X.1 X.2.1 d_M_boxed_4 rfl (lv_at hl 1 rfl) ?_
  refine lv_bipush (v := iI 24) X.1 X.2.1 d_M_boxed_5 (by decide) ?_
  refine z_us24 X.1 X.2.1 d_M_boxed_7 (fun z101 l101 u101 => ?_)
  refine r_iald X Y S (aw_box _ _ _ _ _ _ _) rfl (by omega) (show z101 < ((256 : Nat) : Int) by omega) (by omega) d_M_boxed_8 (fun z102 q102 l102 u102 => ?_)
  refine lv_bipush (v := iI 24) X.1 X.2.1 d_M_boxed_9 (by decide) ?_
  refine lv_ishl X.1 X.2.1 d_M_boxed_11 ?_
  refine t_u (fun z103 l103 u103 => ?_)
  refine lv_aload_n X.1 X.2.1 d_M_boxed_12 rfl (lv_at hl 0 rfl) ?_
  refine m_get X Y 12 (by decide) lk_box (gf_box _ _ _) rfl d_M_boxed_13 ?_
  refine lv_iload_n X.1 X.2.1 d_M_boxed_16 rfl (lv_at hl 1 rfl) ?_
  refine lv_bipush (v := iI 16) X.1 X.2.1 d_M_boxed_17 (by decide) ?_
  refine lv_iushr X.1 X.2.1 d_M_boxed_19 rfl ?_
  refine t_u (fun z104 l104 u104 => ?_)
  refine lv_sipush (v := iI 255) X.1 X.2.1 d_M_boxed_20 (by decide) ?_
  refine z_iand X.1 X.2.1 (by omega) (by omega) d_M_boxed_23 (fun z105 l105 u105 => ?_)
  refine r_iald X Y S (aw_box _ _ _ _ _ _ _) rfl (by omega) (show z105 < ((256 : Nat) : Int) by omega) (by omega) d_M_boxed_24 (fun z106 q106 l106 u106 => ?_)
  refine lv_bipush (v := iI 16) X.1 X.2.1 d_M_boxed_25 (by decide) ?_
  refine lv_ishl X.1 X.2.1 d_M_boxed_27 ?_
  refine t_u (fun z107 l107 u107 => ?_)
  refine lv_ior X.1 X.2.1 d_M_boxed_28 ?_
  refine t_u (fun z108 l108 u108 => ?_)
  refine lv_aload_n X.1 X.2.1 d_M_boxed_29 rfl (lv_at hl 0 rfl) ?_
  refine m_get X Y 12 (by decide) lk_box (gf_box _ _ _) rfl d_M_boxed_30 ?_
  refine lv_iload_n X.1 X.2.1 d_M_boxed_33 rfl (lv_at hl 1 rfl) ?_
  refine lv_bipush (v := iI 8) X.1 X.2.1 d_M_boxed_34 (by decide) ?_
  refine lv_iushr X.1 X.2.1 d_M_boxed_36 rfl ?_
  refine t_u (fun z109 l109 u109 => ?_)
  refine lv_sipush (v := iI 255) X.1 X.2.1 d_M_boxed_37 (by decide) ?_
  refine z_iand X.1 X.2.1 (by omega) (by omega) d_M_boxed_40 (fun z110 l110 u110 => ?_)
  refine r_iald X Y S (aw_box _ _ _ _ _ _ _) rfl (by omega) (show z110 < ((256 : Nat) : Int) by omega) (by omega) d_M_boxed_41 (fun z111 q111 l111 u111 => ?_)
  refine lv_bipush (v := iI 8) X.1 X.2.1 d_M_boxed_42 (by decide) ?_
  refine lv_ishl X.1 X.2.1 d_M_boxed_44 ?_
  refine t_u (fun z112 l112 u112 => ?_)
  refine lv_ior X.1 X.2.1 d_M_boxed_45 ?_
  refine t_u (fun z113 l113 u113 => ?_)
  refine lv_aload_n X.1 X.2.1 d_M_boxed_46 rfl (lv_at hl 0 rfl) ?_
  refine m_get X Y 12 (by decide) lk_box (gf_box _ _ _) rfl d_M_boxed_47 ?_
  refine lv_iload_n X.1 X.2.1 d_M_boxed_50 rfl (lv_at hl 1 rfl) ?_
  refine lv_sipush (v := iI 255) X.1 X.2.1 d_M_boxed_51 (by decide) ?_
  refine z_iand X.1 X.2.1 (by omega) (by omega) d_M_boxed_54 (fun z114 l114 u114 => ?_)
  refine r_iald X Y S (aw_box _ _ _ _ _ _ _) rfl (by omega) (show z114 < ((256 : Nat) : Int) by omega) (by omega) d_M_boxed_55 (fun z115 q115 l115 u115 => ?_)
  refine lv_ior X.1 X.2.1 d_M_boxed_56 ?_
  refine t_u (fun z116 l116 u116 => ?_)
  exact m_reti hQQ X Y hr hlk ⟨S, z116, rfl, ⟨by omega, by omega⟩⟩ d_M_boxed_57
set_option maxHeartbeats 4000000 in
set_option maxRecDepth 100000 in
theorem r_M_aesKey_use (l : Launch) (D : mD) (E : mE) (h : Nat) (q : Nat → Nat) (sz : Nat) (I : Nat → Int32) (J : Nat → Int64) (B : Nat → Nat → Int32) (G : Nat → Nat → Int64) (a2 : Int) (l_a2 : 16 ≤ a2) (u_a2 : a2 ≤ 32) (hT : rT I B) : Met l y_M_aesKey (k_M_aesKey :: lw_tg) (mR 4 129) (va_Pc [.ref h, .ref (q 23), .int (iI a2)] (mPre D E h q (I, J, B, G) sz)) (va_Qv (rPv [14, 18] [12, 13, 15] I B (fun (u : mS) => True)) (mPost D E h q (mA E h q sz)) (mA E h q sz)) 0 0 (mA E h q sz) := by
  refine m_enter (by decide) rfl (Nat.le_of_ble_eq_true rfl) (fun p e s m below meth c ls AV QQ H locs hQQ X Y hZ hA hr hlk hml hl => ?_)
  have Y : mH D E (mA E h q sz) s.heap h q I J B G H locs := Y
  have S : rS [14, 18] [12, 13, 15] I B I B := rS_rf hT
  have hl : lv_has ls 7 [(0, .ref h), (1, .ref ((q 23))), (2, .int (iI a2))] := hl
  refine lv_aload_n X.1 X.2.1 d_M_aesKey_0 rfl (lv_at hl 0 rfl) ?_
  refine r_geti (k := 14) X Y S (by decide) lk_hasBox (gf_hasBox _ _ _) rfl rfl d_M_aesKey_1 (fun z101 e101 l101 u101 => ?_)
  have J103 : ∀ (I102 : Nat → Int32) (J102 : Nat → Int64) (B102 : Nat → Nat → Int32) (G102 : Nat → Nat → Int64) (H : Heap) (locs : List Loc) (ls : Array Slot), mH D E (mA E h q sz) s.heap h q I102 J102 B102 G102 H locs → rS [14, 18] [12, 13, 15] I B I102 B102 → lv_has ls 7 [(0, .ref h), (1, .ref ((q 23))), (2, .int (iI a2))] → W p l e (mR 4 129) s m AV below meth c H locs 0 0 QQ (F0 m 11 ls []) := by
    intro I102 J102 B102 G102 H locs ls  Y S hl
    refine lv_iload_n X.1 X.2.1 d_M_aesKey_11 rfl (lv_at hl 2 rfl) ?_
    refine lv_iconst (v := iI 4) X.1 X.2.1 d_M_aesKey_12 (by decide) ?_
    refine z_idiv X.1 X.2.1 (by omega) (by omega) ⟨by decide, by decide⟩ d_M_aesKey_13 ?_
    refine lv_istore_n (lv' := [(3, .int (iI (a2 / 4))), (0, .ref h), (1, .ref ((q 23))), (2, .int (iI a2))]) X.1 X.2.1 d_M_aesKey_14 rfl hl (by decide) rfl (fun ls hl => ?_)
    refine lv_aload_n X.1 X.2.1 d_M_aesKey_15 rfl (lv_at hl 1 rfl) ?_
    refine lv_iload_n X.1 X.2.1 d_M_aesKey_16 rfl (lv_at hl 0 rfl) ?_
    refine lv_bipush (v := iI 6) X.1 X.2.1 d_M_aesKey_17 (by decide) ?_
    refine z_iadd X.1 X.2.1 d_M_aesKey_19 ?_
    refine r_puti (k := 18) X Y S (by decide) lk_rounds rfl rfl (t_M_ok 18 (by decide)) rfl rfl (sf_rounds _ _ _ _) (Nat.le_of_ble_eq_true rfl) rfl (show (0 : Int) ≤ (a2 / 4) + 6 by omega) (show (a2 / 4) + 6 ≤ (14 : Int) by omega) ⟨by omega, by omega⟩ (by decide) d_M_aesKey_20 (fun I107 H locs Y S w107 => ?_)
    refine lv_iconst (v := iI 0) X.1 X.2.1 d_M_aesKey_23 (by decide) ?_
    have J110 : ∀ (n112 : Nat) (z109 : Int) (I108 : Nat → Int32) (J108 : Nat → Int64) (B108 : Nat → Nat → Int32) (G108 : Nat → Nat → Int64) (H : Heap) (locs : List Loc) (ls : Array Slot), (8 - z109).toNat = n112 → (0 ≤ z109) → (z109 ≤ 8) → mH D E (mA E h q sz) s.heap h q I108 J108 B108 G108 H locs → rS [14, 18] [12, 13, 15] I B I108 B108 → lv_has ls 7 [(0, .ref h), (1, .ref ((q 23))), (3, .int (iI (a2 / 4))), (4, .int (iI z109))] → W p l e (mR 4 129) s m AV below meth c H locs 0 0 QQ (F0 m 26 ls []) := by
      intro n112
      induction n112 using Nat.strongRecOn with
      | ind n112 ih111 =>
        intro z109 I108 J108 B108 G108 H locs ls hm113 l109 u109 Y S hl
        refine lv_iload X.1 X.2.1 d_M_aesKey_26 (lv_at hl 3 rfl) ?_
        refine lv_iload_n X.1 X.2.1 d_M_aesKey_28 rfl (lv_at hl 2 rfl) ?_
        refine z_icmp_ge (tgt := 99) X.1 X.2.1 d_M_aesKey_29 (by decide) ⟨by omega, by omega⟩ ⟨by omega, by omega⟩ (fun h114 => ?_) (fun h114 => ?_)
        · refine lv_iconst (v := iI 1) X.1 X.2.1 d_M_aesKey_99 (by decide) ?_
          refine lv_istore (lv' := [(4, .int (iI 1)), (0, .ref h), (1, .ref ((q 23))), (3, .int (iI (a2 / 4)))]) X.1 X.2.1 d_M_aesKey_100 hl (by decide) rfl (fun ls hl => ?_)
          refine lv_iload_n X.1 X.2.1 d_M_aesKey_102 rfl (lv_at hl 3 rfl) ?_
          have J119 : ∀ (n121 : Nat) (z116 : Int) (z117 : Int) (I115 : Nat → Int32) (J115 : Nat → Int64) (B115 : Nat → Nat → Int32) (G115 : Nat → Nat → Int64) (H : Heap) (locs : List Loc) (ls : Array Slot), (60 - z117).toNat = n121 → (0 ≤ z116) → (z116 ≤ 255) → (4 ≤ z117) → (z117 ≤ 60) → (a2 / 4 ≤ z117) → mH D E (mA E h q sz) s.heap h q I115 J115 B115 G115 H locs → rS [14, 18] [12, 13, 15] I B I115 B115 → lv_has ls 7 [(0, .ref h), (3, .int (iI (a2 / 4))), (4, .int (iI z116)), (5, .int (iI z117))] → W p l e (mR 4 129) s m AV below meth c H locs 0 0 QQ (F0 m 105 ls []) := by
            intro n121
            induction n121 using Nat.strongRecOn with
            | ind n121 ih120 =>
              intro z116 z117 I115 J115 B115 G115 H locs ls hm122 l116 u116 l117 u117 i118 Y S hl
              refine lv_iload X.1 X.2.1 d_M_aesKey_105 (lv_at hl 3 rfl) ?_
              refine lv_iconst (v := iI 4) X.1 X.2.1 d_M_aesKey_107 (by decide) ?_
              refine lv_aload_n X.1 X.2.1 d_M_aesKey_108 rfl (lv_at hl 0 rfl) ?_
              refine r_geti (k := 18) X Y S (by decide) lk_rounds (gf_rounds _ _ _) rfl rfl d_M_aesKey_109 (fun z123 e123 l123 u123 => ?_)
              refine lv_iconst (v := iI 1) X.1 X.2.1 d_M_aesKey_112 (by decide) ?_
              refine z_iadd X.1 X.2.1 d_M_aesKey_113 ?_
              refine z_imul X.1 X.2.1 d_M_aesKey_114 ?_
              refine z_icmp_ge (tgt := 212) X.1 X.2.1 d_M_aesKey_115 (by decide) ⟨by omega, by omega⟩ ⟨by omega, by omega⟩ (fun h124 => ?_) (fun h124 => ?_)
              · exact m_retv hQQ X Y hr hlk ⟨S, trivial⟩ d_M_aesKey_212
              · refine lv_aload_n X.1 X.2.1 d_M_aesKey_118 rfl (lv_at hl 0 rfl) ?_
                refine m_get X Y 15 (by decide) lk_schedule (gf_schedule _ _ _) rfl d_M_aesKey_119 ?_
                refine lv_iload X.1 X.2.1 d_M_aesKey_122 (lv_at hl 3 rfl) ?_
                refine lv_iconst (v := iI 1) X.1 X.2.1 d_M_aesKey_124 (by decide) ?_
                refine z_isub X.1 X.2.1 d_M_aesKey_125 ?_
                refine r_iald X Y S (aw_schedule _ _ _ _ _ _ _) rfl (by omega) (show z117 - 1 < ((60 : Nat) : Int) by omega) (by omega) d_M_aesKey_126 (fun z125 q125 l125 u125 => ?_)
                refine lv_istore (lv' := [(6, .int (iI z125)), (0, .ref h), (3, .int (iI (a2 / 4))), (4, .int (iI z116)), (5, .int (iI z117))]) X.1 X.2.1 d_M_aesKey_127 hl (by decide) rfl (fun ls hl => ?_)
                refine lv_iload X.1 X.2.1 d_M_aesKey_129 (lv_at hl 4 rfl) ?_
                refine lv_iload_n X.1 X.2.1 d_M_aesKey_131 rfl (lv_at hl 2 rfl) ?_
                refine lv_irem X.1 X.2.1 d_M_aesKey_132 (iI_ne0 ⟨by omega, by omega⟩ (by omega)) ?_
                refine t_u (fun z126 l126 u126 => ?_)
                have J130 : ∀ (z128 : Int) (z129 : Int) (I127 : Nat → Int32) (J127 : Nat → Int64) (B127 : Nat → Nat → Int32) (G127 : Nat → Nat → Int64) (H : Heap) (locs : List Loc) (ls : Array Slot), (0 ≤ z128) → (z128 ≤ 255) → ((-2147483648) ≤ z129) → (z129 ≤ 2147483647) → mH D E (mA E h q sz) s.heap h q I127 J127 B127 G127 H locs → rS [14, 18] [12, 13, 15] I B I127 B127 → lv_has ls 7 [(0, .ref h), (3, .int (iI (a2 / 4))), (4, .int (iI z128)), (5, .int (iI z117)), (6, .int (iI z129))] → W p l e (mR 4 129) s m AV below meth c H locs 0 0 QQ (F0 m 187 ls []) := by
                  intro z128 z129 I127 J127 B127 G127 H locs ls l128 u128 l129 u129 Y S hl
                  refine lv_aload_n X.1 X.2.1 d_M_aesKey_187 rfl (lv_at hl 0 rfl) ?_
                  refine m_get X Y 15 (by decide) lk_schedule (gf_schedule _ _ _) rfl d_M_aesKey_188 ?_
                  refine lv_iload X.1 X.2.1 d_M_aesKey_191 (lv_at hl 3 rfl) ?_
                  refine lv_aload_n X.1 X.2.1 d_M_aesKey_193 rfl (lv_at hl 0 rfl) ?_
                  refine m_get X Y 15 (by decide) lk_schedule (gf_schedule _ _ _) rfl d_M_aesKey_194 ?_
                  refine lv_iload X.1 X.2.1 d_M_aesKey_197 (lv_at hl 3 rfl) ?_
                  refine lv_iload_n X.1 X.2.1 d_M_aesKey_199 rfl (lv_at hl 1 rfl) ?_
                  refine z_isub X.1 X.2.1 d_M_aesKey_200 ?_
                  refine r_iald X Y S (aw_schedule _ _ _ _ _ _ _) rfl (by omega) (show z117 - (a2 / 4) < ((60 : Nat) : Int) by omega) (by omega) d_M_aesKey_201 (fun z134 q134 l134 u134 => ?_)
                  refine lv_iload X.1 X.2.1 d_M_aesKey_202 (lv_at hl 4 rfl) ?_
                  refine lv_ixor X.1 X.2.1 d_M_aesKey_204 ?_
                  refine t_u (fun z135 l135 u135 => ?_)
                  refine r_iast X Y S (aw_schedule _ _ _ _ _ _ _) (sw_schedule _ _ _ _ _ _ _) rfl ⟨(show ((-2147483648) : Int) ≤ z135 by omega), (show z135 ≤ (2147483647 : Int) by omega)⟩ ⟨by omega, by omega⟩ (by omega) (show z117 < ((60 : Nat) : Int) by omega) (by omega) (by decide) d_M_aesKey_205 (fun B136 H locs Y S w136 => ?_)
                  refine lv_iinc (v := iI (z117 + 1)) (lv' := [(5, .int (iI (z117 + 1))), (0, .ref h), (3, .int (iI (a2 / 4))), (4, .int (iI z128)), (6, .int (iI z129))]) X.1 X.2.1 d_M_aesKey_206 hl (k := 3) rfl ((iI_add _ _).trans (congrArg iI (by omega))) (by decide) rfl (fun ls hl => ?_)
                  refine lv_goto (tgt := 105) X.1 X.2.1 d_M_aesKey_209 (by decide) ?_
                  exact ih120 ((60 - (z117 + 1)).toNat) (by omega) z128 (z117 + 1) I127 J127 B136 G127 _ _ _ rfl (by omega) (by omega) (by omega) (by omega) (by omega) Y S (lv_sub hl [1, 2, 3, 0] rfl)
                refine z_if_ne (tgt := 165) X.1 X.2.1 d_M_aesKey_133 (by decide) ⟨by omega, by omega⟩ (fun h137 => ?_) (fun h137 => ?_)
                · refine lv_iload_n X.1 X.2.1 d_M_aesKey_165 rfl (lv_at hl 2 rfl) ?_
                  refine lv_bipush (v := iI 6) X.1 X.2.1 d_M_aesKey_166 (by decide) ?_
                  refine z_icmp_le (tgt := 187) X.1 X.2.1 d_M_aesKey_168 (by decide) ⟨by omega, by omega⟩ ⟨by omega, by omega⟩ (fun h138 => ?_) (fun h138 => ?_)
                  · exact J130 z116 z125 I115 J115 B115 G115 _ _ _ (by omega) (by omega) (by omega) (by omega) Y S (lv_sub hl [1, 2, 3, 4, 0] rfl)
                  · refine lv_iload X.1 X.2.1 d_M_aesKey_171 (lv_at hl 4 rfl) ?_
                    refine lv_iload_n X.1 X.2.1 d_M_aesKey_173 rfl (lv_at hl 2 rfl) ?_
                    refine lv_irem X.1 X.2.1 d_M_aesKey_174 (iI_ne0 ⟨by omega, by omega⟩ (by omega)) ?_
                    refine t_u (fun z139 l139 u139 => ?_)
                    refine lv_iconst (v := iI 4) X.1 X.2.1 d_M_aesKey_175 (by decide) ?_
                    refine z_icmp_ne (tgt := 187) X.1 X.2.1 d_M_aesKey_176 (by decide) ⟨by omega, by omega⟩ ⟨by omega, by omega⟩ (fun h140 => ?_) (fun h140 => ?_)
                    · exact J130 z116 z125 I115 J115 B115 G115 _ _ _ (by omega) (by omega) (by omega) (by omega) Y S (lv_sub hl [1, 2, 3, 4, 0] rfl)
                    · refine lv_aload_n X.1 X.2.1 d_M_aesKey_179 rfl (lv_at hl 1 rfl) ?_
                      refine lv_iload X.1 X.2.1 d_M_aesKey_180 (lv_at hl 0 rfl) ?_
                      refine r_ni (m_run (As := [.int (iI z125)]) (rest := []) (n := 1) X Y hZ hA hml hl.1 (r_M_boxed l D E h q H.size I115 J115 B115 G115 z125 (by omega) (by omega) S.1) kl_M_boxed ks_M_boxed kx_M_boxed ki_M_boxed ini_M hd_M_boxed ⟨Nat.le_of_ble_eq_true rfl, Nat.le_of_ble_eq_true rfl⟩ rfl (Nat.le_of_ble_eq_true rfl) d_M_aesKey_182 ⟨Nat.le_refl _, Nat.le_refl _⟩) X Y hA S (by decide) (by decide) (fun z141 u H locs Y S s141 p141 => ?_)
                      obtain ⟨I141, J141, B141, G141⟩ := u
                      dsimp only at Y S s141 p141
                      obtain ⟨l141, u141⟩ := p141
                      refine lv_istore (lv' := [(6, .int (iI z141)), (0, .ref h), (3, .int (iI (a2 / 4))), (4, .int (iI z116)), (5, .int (iI z117))]) X.1 X.2.1 d_M_aesKey_185 hl (by decide) rfl (fun ls hl => ?_)
                      exact J130 z116 z141 I141 J141 B141 G141 _ _ _ (by omega) (by omega) (by omega) (by omega) Y S (lv_sub hl [1, 2, 3, 4, 0] rfl)
                · refine lv_aload_n X.1 X.2.1 d_M_aesKey_136 rfl (lv_at hl 1 rfl) ?_
                  refine lv_iload X.1 X.2.1 d_M_aesKey_137 (lv_at hl 0 rfl) ?_
                  refine lv_bipush (v := iI 8) X.1 X.2.1 d_M_aesKey_139 (by decide) ?_
                  refine p_calli (As := [.int (iI z125), .int (iI 8)]) (rest := [.ref h]) (n := 2) X Y hml hl.1 (r_M_left l z125 (by omega) (by omega) 8 (by omega) (by omega)) kl_M_left ks_M_left ki_M_left ini_M hd_M_left ⟨Nat.le_of_ble_eq_true rfl, Nat.le_of_ble_eq_true rfl⟩ rfl (Nat.le_of_ble_eq_true rfl) d_M_aesKey_141 ⟨Nat.le_refl _, Nat.le_refl _⟩ (fun r142 H locs p142 Y => ?_)
                  obtain ⟨z142, e142, p142⟩ := p142
                  subst e142
                  obtain ⟨l142, u142⟩ := p142
                  refine r_ni (m_run (As := [.int (iI z142)]) (rest := []) (n := 1) X Y hZ hA hml hl.1 (r_M_boxed l D E h q H.size I115 J115 B115 G115 z142 (by omega) (by omega) S.1) kl_M_boxed ks_M_boxed kx_M_boxed ki_M_boxed ini_M hd_M_boxed ⟨Nat.le_of_ble_eq_true rfl, Nat.le_of_ble_eq_true rfl⟩ rfl (Nat.le_of_ble_eq_true rfl) d_M_aesKey_144 ⟨Nat.le_refl _, Nat.le_refl _⟩) X Y hA S (by decide) (by decide) (fun z143 u H locs Y S s143 p143 => ?_)
                  obtain ⟨I143, J143, B143, G143⟩ := u
                  dsimp only at Y S s143 p143
                  obtain ⟨l143, u143⟩ := p143
                  refine lv_iload X.1 X.2.1 d_M_aesKey_147 (lv_at hl 3 rfl) ?_
                  refine lv_bipush (v := iI 24) X.1 X.2.1 d_M_aesKey_149 (by decide) ?_
                  refine lv_ishl X.1 X.2.1 d_M_aesKey_151 ?_
                  refine t_u (fun z144 l144 u144 => ?_)
                  refine lv_ixor X.1 X.2.1 d_M_aesKey_152 ?_
                  refine t_u (fun z145 l145 u145 => ?_)
                  refine lv_istore (lv' := [(6, .int (iI z145)), (0, .ref h), (3, .int (iI (a2 / 4))), (4, .int (iI z116)), (5, .int (iI z117))]) X.1 X.2.1 d_M_aesKey_153 hl (by decide) rfl (fun ls hl => ?_)
                  refine lv_iload X.1 X.2.1 d_M_aesKey_155 (lv_at hl 3 rfl) ?_
                  refine p_calli (As := [.int (iI z116)]) (rest := []) (n := 1) X Y hml hl.1 (r_M_twice l z116 (by omega) (by omega)) kl_M_twice ks_M_twice ki_M_twice ini_M hd_M_twice ⟨Nat.le_of_ble_eq_true rfl, Nat.le_of_ble_eq_true rfl⟩ rfl (Nat.le_of_ble_eq_true rfl) d_M_aesKey_157 ⟨Nat.le_refl _, Nat.le_refl _⟩ (fun r146 H locs p146 Y => ?_)
                  obtain ⟨z146, e146, p146⟩ := p146
                  subst e146
                  obtain ⟨l146, u146⟩ := p146
                  refine lv_istore (lv' := [(4, .int (iI z146)), (6, .int (iI z145)), (0, .ref h), (3, .int (iI (a2 / 4))), (5, .int (iI z117))]) X.1 X.2.1 d_M_aesKey_160 hl (by decide) rfl (fun ls hl => ?_)
                  refine lv_goto (tgt := 187) X.1 X.2.1 d_M_aesKey_162 (by decide) ?_
                  exact J130 z146 z145 I143 J143 B143 G143 _ _ _ (by omega) (by omega) (by omega) (by omega) Y S (lv_sub hl [2, 3, 0, 4, 1] rfl)
          refine lv_istore (lv' := [(5, .int (iI (a2 / 4))), (4, .int (iI 1)), (0, .ref h), (1, .ref ((q 23))), (3, .int (iI (a2 / 4)))]) X.1 X.2.1 d_M_aesKey_103 hl (by decide) rfl (fun ls hl => ?_)
          exact J119 _ 1 (a2 / 4) I108 J108 B108 G108 _ _ _ rfl (by omega) (by omega) (by omega) (by omega) (by omega) Y S (lv_sub hl [2, 4, 1, 0] rfl)
        · refine lv_aload_n X.1 X.2.1 d_M_aesKey_32 rfl (lv_at hl 0 rfl) ?_
          refine m_get X Y 15 (by decide) lk_schedule (gf_schedule _ _ _) rfl d_M_aesKey_33 ?_
          refine lv_iload X.1 X.2.1 d_M_aesKey_36 (lv_at hl 3 rfl) ?_
          refine lv_aload_n X.1 X.2.1 d_M_aesKey_38 rfl (lv_at hl 1 rfl) ?_
          refine lv_iconst (v := iI 4) X.1 X.2.1 d_M_aesKey_39 (by decide) ?_
          refine lv_iload X.1 X.2.1 d_M_aesKey_40 (lv_at hl 3 rfl) ?_
          refine z_imul X.1 X.2.1 d_M_aesKey_42 ?_
          refine r_bald X Y S (aw_use _ _ _ _ _ _ _) rfl (by omega) (show 4 * z109 < ((32 : Nat) : Int) by omega) (by omega) d_M_aesKey_43 (fun z147 q147 l147 u147 => ?_)
          refine lv_bipush (v := iI 24) X.1 X.2.1 d_M_aesKey_44 (by decide) ?_
          refine lv_ishl X.1 X.2.1 d_M_aesKey_46 ?_
          refine t_u (fun z148 l148 u148 => ?_)
          refine lv_aload_n X.1 X.2.1 d_M_aesKey_47 rfl (lv_at hl 1 rfl) ?_
          refine lv_iconst (v := iI 4) X.1 X.2.1 d_M_aesKey_48 (by decide) ?_
          refine lv_iload X.1 X.2.1 d_M_aesKey_49 (lv_at hl 3 rfl) ?_
          refine z_imul X.1 X.2.1 d_M_aesKey_51 ?_
          refine lv_iconst (v := iI 1) X.1 X.2.1 d_M_aesKey_52 (by decide) ?_
          refine z_iadd X.1 X.2.1 d_M_aesKey_53 ?_
          refine r_bald X Y S (aw_use _ _ _ _ _ _ _) rfl (by omega) (show (4 * z109) + 1 < ((32 : Nat) : Int) by omega) (by omega) d_M_aesKey_54 (fun z149 q149 l149 u149 => ?_)
          refine lv_sipush (v := iI 255) X.1 X.2.1 d_M_aesKey_55 (by decide) ?_
          refine z_iand X.1 X.2.1 (by omega) (by omega) d_M_aesKey_58 (fun z150 l150 u150 => ?_)
          refine lv_bipush (v := iI 16) X.1 X.2.1 d_M_aesKey_59 (by decide) ?_
          refine lv_ishl X.1 X.2.1 d_M_aesKey_61 ?_
          refine t_u (fun z151 l151 u151 => ?_)
          refine lv_ior X.1 X.2.1 d_M_aesKey_62 ?_
          refine t_u (fun z152 l152 u152 => ?_)
          refine lv_aload_n X.1 X.2.1 d_M_aesKey_63 rfl (lv_at hl 1 rfl) ?_
          refine lv_iconst (v := iI 4) X.1 X.2.1 d_M_aesKey_64 (by decide) ?_
          refine lv_iload X.1 X.2.1 d_M_aesKey_65 (lv_at hl 3 rfl) ?_
          refine z_imul X.1 X.2.1 d_M_aesKey_67 ?_
          refine lv_iconst (v := iI 2) X.1 X.2.1 d_M_aesKey_68 (by decide) ?_
          refine z_iadd X.1 X.2.1 d_M_aesKey_69 ?_
          refine r_bald X Y S (aw_use _ _ _ _ _ _ _) rfl (by omega) (show (4 * z109) + 2 < ((32 : Nat) : Int) by omega) (by omega) d_M_aesKey_70 (fun z153 q153 l153 u153 => ?_)
          refine lv_sipush (v := iI 255) X.1 X.2.1 d_M_aesKey_71 (by decide) ?_
          refine z_iand X.1 X.2.1 (by omega) (by omega) d_M_aesKey_74 (fun z154 l154 u154 => ?_)
          refine lv_bipush (v := iI 8) X.1 X.2.1 d_M_aesKey_75 (by decide) ?_
          refine lv_ishl X.1 X.2.1 d_M_aesKey_77 ?_
          refine t_u (fun z155 l155 u155 => ?_)
          refine lv_ior X.1 X.2.1 d_M_aesKey_78 ?_
          refine t_u (fun z156 l156 u156 => ?_)
          refine lv_aload_n X.1 X.2.1 d_M_aesKey_79 rfl (lv_at hl 1 rfl) ?_
          refine lv_iconst (v := iI 4) X.1 X.2.1 d_M_aesKey_80 (by decide) ?_
          refine lv_iload X.1 X.2.1 d_M_aesKey_81 (lv_at hl 3 rfl) ?_
          refine z_imul X.1 X.2.1 d_M_aesKey_83 ?_
          refine lv_iconst (v := iI 3) X.1 X.2.1 d_M_aesKey_84 (by decide) ?_
          refine z_iadd X.1 X.2.1 d_M_aesKey_85 ?_
          refine r_bald X Y S (aw_use _ _ _ _ _ _ _) rfl (by omega) (show (4 * z109) + 3 < ((32 : Nat) : Int) by omega) (by omega) d_M_aesKey_86 (fun z157 q157 l157 u157 => ?_)
          refine lv_sipush (v := iI 255) X.1 X.2.1 d_M_aesKey_87 (by decide) ?_
          refine z_iand X.1 X.2.1 (by omega) (by omega) d_M_aesKey_90 (fun z158 l158 u158 => ?_)
          refine lv_ior X.1 X.2.1 d_M_aesKey_91 ?_
          refine t_u (fun z159 l159 u159 => ?_)
          refine r_iast X Y S (aw_schedule _ _ _ _ _ _ _) (sw_schedule _ _ _ _ _ _ _) rfl ⟨(show ((-2147483648) : Int) ≤ z159 by omega), (show z159 ≤ (2147483647 : Int) by omega)⟩ ⟨by omega, by omega⟩ (by omega) (show z109 < ((60 : Nat) : Int) by omega) (by omega) (by decide) d_M_aesKey_92 (fun B160 H locs Y S w160 => ?_)
          refine lv_iinc (v := iI (z109 + 1)) (lv' := [(4, .int (iI (z109 + 1))), (0, .ref h), (1, .ref ((q 23))), (3, .int (iI (a2 / 4)))]) X.1 X.2.1 d_M_aesKey_93 hl (k := 3) rfl ((iI_add _ _).trans (congrArg iI (by omega))) (by decide) rfl (fun ls hl => ?_)
          refine lv_goto (tgt := 26) X.1 X.2.1 d_M_aesKey_96 (by decide) ?_
          exact ih111 ((8 - (z109 + 1)).toNat) (by omega) (z109 + 1) I108 J108 B160 G108 _ _ _ rfl (by omega) (by omega) Y S (lv_sub hl [1, 2, 3, 0] rfl)
    refine lv_istore (lv' := [(4, .int (iI 0)), (3, .int (iI (a2 / 4))), (0, .ref h), (1, .ref ((q 23))), (2, .int (iI a2))]) X.1 X.2.1 d_M_aesKey_24 hl (by decide) rfl (fun ls hl => ?_)
    exact J110 _ 0 I107 J102 B102 G102 _ _ _ rfl (by omega) (by omega) Y S (lv_sub hl [2, 3, 1, 0] rfl)
  refine z_if_ne (tgt := 11) X.1 X.2.1 d_M_aesKey_4 (by decide) ⟨by omega, by omega⟩ (fun h161 => ?_) (fun h161 => ?_)
  · exact J103 I J B G _ _ _  Y S (lv_sub hl [0, 1, 2] rfl)
  · refine lv_aload_n X.1 X.2.1 d_M_aesKey_7 rfl (lv_at hl 0 rfl) ?_
    refine r_nv (m_run (As := []) (rest := []) (n := 0) X Y hZ hA hml hl.1 (r_M_makeBox l D E h q H.size I J B G S.1) kl_M_makeBox ks_M_makeBox kx_M_makeBox ki_M_makeBox ini_M hd_M_makeBox ⟨Nat.le_of_ble_eq_true rfl, Nat.le_of_ble_eq_true rfl⟩ rfl (Nat.le_of_ble_eq_true rfl) d_M_aesKey_8 ⟨Nat.le_refl _, Nat.le_refl _⟩) X Y hA S (by decide) (by decide) (fun u H locs Y S s162 p162 => ?_)
    obtain ⟨I162, J162, B162, G162⟩ := u
    dsimp only at Y S s162 p162
    exact J103 I162 J162 B162 G162 _ _ _  Y S (lv_sub hl [0, 1, 2] rfl)
set_option maxHeartbeats 4000000 in
set_option maxRecDepth 100000 in
theorem r_M_addKey (l : Launch) (D : mD) (E : mE) (h : Nat) (q : Nat → Nat) (sz : Nat) (I : Nat → Int32) (J : Nat → Int64) (B : Nat → Nat → Int32) (G : Nat → Nat → Int64) (a1 : Int) (l_a1 : 0 ≤ a1) (u_a1 : a1 ≤ 14) (hT : rT I B) : Met l y_M_addKey (k_M_addKey :: lw_tg) (mR 1 60) (va_Pc [.ref h, .int (iI a1)] (mPre D E h q (I, J, B, G) sz)) (va_Qv (rPv [] [16] I B (fun (u : mS) => True)) (mPost D E h q (mA E h q sz)) (mA E h q sz)) 0 0 (mA E h q sz) := by
  refine m_enter (by decide) rfl (Nat.le_of_ble_eq_true rfl) (fun p e s m below meth c ls AV QQ H locs hQQ X Y hZ hA hr hlk hml hl => ?_)
  have Y : mH D E (mA E h q sz) s.heap h q I J B G H locs := Y
  have S : rS [] [16] I B I B := rS_rf hT
  have hl : lv_has ls 3 [(0, .ref h), (1, .int (iI a1))] := hl
  refine lv_iconst (v := iI 0) X.1 X.2.1 d_M_addKey_0 (by decide) ?_
  have J103 : ∀ (n105 : Nat) (z102 : Int) (I101 : Nat → Int32) (J101 : Nat → Int64) (B101 : Nat → Nat → Int32) (G101 : Nat → Nat → Int64) (H : Heap) (locs : List Loc) (ls : Array Slot), (16 - z102).toNat = n105 → (0 ≤ z102) → (z102 ≤ 16) → mH D E (mA E h q sz) s.heap h q I101 J101 B101 G101 H locs → rS [] [16] I B I101 B101 → lv_has ls 3 [(0, .ref h), (1, .int (iI a1)), (2, .int (iI z102))] → W p l e (mR 1 60) s m AV below meth c H locs 0 0 QQ (F0 m 2 ls []) := by
    intro n105
    induction n105 using Nat.strongRecOn with
    | ind n105 ih104 =>
      intro z102 I101 J101 B101 G101 H locs ls hm106 l102 u102 Y S hl
      refine lv_iload_n X.1 X.2.1 d_M_addKey_2 rfl (lv_at hl 2 rfl) ?_
      refine lv_bipush (v := iI 16) X.1 X.2.1 d_M_addKey_3 (by decide) ?_
      refine z_icmp_ge (tgt := 49) X.1 X.2.1 d_M_addKey_5 (by decide) ⟨by omega, by omega⟩ ⟨by omega, by omega⟩ (fun h107 => ?_) (fun h107 => ?_)
      · exact m_retv hQQ X Y hr hlk ⟨S, trivial⟩ d_M_addKey_49
      · refine lv_aload_n X.1 X.2.1 d_M_addKey_8 rfl (lv_at hl 0 rfl) ?_
        refine m_get X Y 16 (by decide) lk_state (gf_state _ _ _) rfl d_M_addKey_9 ?_
        refine lv_iload_n X.1 X.2.1 d_M_addKey_12 rfl (lv_at hl 2 rfl) ?_
        refine lv_dup2_11 X.1 X.2.1 d_M_addKey_13 rfl rfl ?_
        refine r_iald X Y S (aw_state _ _ _ _ _ _ _) rfl (by omega) (show z102 < ((16 : Nat) : Int) by omega) (by omega) d_M_addKey_14 (fun z108 q108 l108 u108 => ?_)
        refine lv_aload_n X.1 X.2.1 d_M_addKey_15 rfl (lv_at hl 0 rfl) ?_
        refine m_get X Y 15 (by decide) lk_schedule (gf_schedule _ _ _) rfl d_M_addKey_16 ?_
        refine lv_iconst (v := iI 4) X.1 X.2.1 d_M_addKey_19 (by decide) ?_
        refine lv_iload_n X.1 X.2.1 d_M_addKey_20 rfl (lv_at hl 1 rfl) ?_
        refine z_imul X.1 X.2.1 d_M_addKey_21 ?_
        refine lv_iload_n X.1 X.2.1 d_M_addKey_22 rfl (lv_at hl 2 rfl) ?_
        refine lv_iconst (v := iI 4) X.1 X.2.1 d_M_addKey_23 (by decide) ?_
        refine z_idiv X.1 X.2.1 (by omega) (by omega) ⟨by decide, by decide⟩ d_M_addKey_24 ?_
        refine z_iadd X.1 X.2.1 d_M_addKey_25 ?_
        refine r_iald X Y S (aw_schedule _ _ _ _ _ _ _) rfl (by omega) (show (4 * a1) + (z102 / 4) < ((60 : Nat) : Int) by omega) (by omega) d_M_addKey_26 (fun z109 q109 l109 u109 => ?_)
        refine lv_bipush (v := iI 24) X.1 X.2.1 d_M_addKey_27 (by decide) ?_
        refine lv_bipush (v := iI 8) X.1 X.2.1 d_M_addKey_29 (by decide) ?_
        refine lv_iload_n X.1 X.2.1 d_M_addKey_31 rfl (lv_at hl 2 rfl) ?_
        refine lv_iconst (v := iI 4) X.1 X.2.1 d_M_addKey_32 (by decide) ?_
        refine z_irem X.1 X.2.1 (by omega) (by omega) ⟨by decide, by decide⟩ d_M_addKey_33 ?_
        refine z_imul X.1 X.2.1 d_M_addKey_34 ?_
        refine z_isub X.1 X.2.1 d_M_addKey_35 ?_
        refine lv_iushr X.1 X.2.1 d_M_addKey_36 rfl ?_
        refine t_u (fun z110 l110 u110 => ?_)
        refine lv_sipush (v := iI 255) X.1 X.2.1 d_M_addKey_37 (by decide) ?_
        refine z_iand X.1 X.2.1 (by omega) (by omega) d_M_addKey_40 (fun z111 l111 u111 => ?_)
        refine z_ixor X.1 X.2.1 ⟨by omega, by omega⟩ ⟨by omega, by omega⟩ d_M_addKey_41 (fun z112 l112 u112 => ?_)
        refine r_iast X Y S (aw_state _ _ _ _ _ _ _) (sw_state _ _ _ _ _ _ _) rfl ⟨(show (0 : Int) ≤ z112 by omega), (show z112 ≤ (255 : Int) by omega)⟩ ⟨by omega, by omega⟩ (by omega) (show z102 < ((16 : Nat) : Int) by omega) (by omega) (by decide) d_M_addKey_42 (fun B113 H locs Y S w113 => ?_)
        refine lv_iinc (v := iI (z102 + 1)) (lv' := [(2, .int (iI (z102 + 1))), (0, .ref h), (1, .int (iI a1))]) X.1 X.2.1 d_M_addKey_43 hl (k := 2) rfl ((iI_add _ _).trans (congrArg iI (by omega))) (by decide) rfl (fun ls hl => ?_)
        refine lv_goto (tgt := 2) X.1 X.2.1 d_M_addKey_46 (by decide) ?_
        exact ih104 ((16 - (z102 + 1)).toNat) (by omega) (z102 + 1) I101 J101 B113 G101 _ _ _ rfl (by omega) (by omega) Y S (lv_sub hl [1, 2, 0] rfl)
  refine lv_istore_n (lv' := [(2, .int (iI 0)), (0, .ref h), (1, .int (iI a1))]) X.1 X.2.1 d_M_addKey_1 rfl hl (by decide) rfl (fun ls hl => ?_)
  exact J103 _ 0 I J B G _ _ _ rfl (by omega) (by omega) Y S (lv_sub hl [1, 2, 0] rfl)
set_option maxHeartbeats 4000000 in
set_option maxRecDepth 100000 in
theorem r_M_cover (l : Launch) (D : mD) (E : mE) (h : Nat) (q : Nat → Nat) (sz : Nat) (I : Nat → Int32) (J : Nat → Int64) (B : Nat → Nat → Int32) (G : Nat → Nat → Int64) (hT : rT I B) : Met l y_M_cover (k_M_cover :: lw_tg) (mR 2 82) (va_Pc [.ref h] (mPre D E h q (I, J, B, G) sz)) (va_Qv (rPv [] [16, 17] I B (fun (u : mS) => True)) (mPost D E h q (mA E h q sz)) (mA E h q sz)) 0 0 (mA E h q sz) := by
  refine m_enter (by decide) rfl (Nat.le_of_ble_eq_true rfl) (fun p e s m below meth c ls AV QQ H locs hQQ X Y hZ hA hr hlk hml hl => ?_)
  have Y : mH D E (mA E h q sz) s.heap h q I J B G H locs := Y
  have S : rS [] [16, 17] I B I B := rS_rf hT
  have hl : lv_has ls 6 [(0, .ref h)] := hl
  refine lv_aload_n X.1 X.2.1 d_M_cover_0 rfl (lv_at hl 0 rfl) ?_
  refine lv_iconst (v := iI 0) X.1 X.2.1 d_M_cover_1 (by decide) ?_
  refine r_nv (m_run (As := [.int (iI 0)]) (rest := []) (n := 1) X Y hZ hA hml hl.1 (r_M_addKey l D E h q H.size I J B G 0 (by omega) (by omega) S.1) kl_M_addKey ks_M_addKey kx_M_addKey ki_M_addKey ini_M hd_M_addKey ⟨Nat.le_of_ble_eq_true rfl, Nat.le_of_ble_eq_true rfl⟩ rfl (Nat.le_of_ble_eq_true rfl) d_M_cover_2 ⟨Nat.le_refl _, Nat.le_refl _⟩) X Y hA S (by decide) (by decide) (fun u H locs Y S s101 p101 => ?_)
  obtain ⟨I101, J101, B101, G101⟩ := u
  dsimp only at Y S s101 p101
  refine lv_iconst (v := iI 1) X.1 X.2.1 d_M_cover_5 (by decide) ?_
  have J104 : ∀ (n106 : Nat) (z103 : Int) (I102 : Nat → Int32) (J102 : Nat → Int64) (B102 : Nat → Nat → Int32) (G102 : Nat → Nat → Int64) (H : Heap) (locs : List Loc) (ls : Array Slot), (15 - z103).toNat = n106 → (1 ≤ z103) → (z103 ≤ 15) → mH D E (mA E h q sz) s.heap h q I102 J102 B102 G102 H locs → rS [] [16, 17] I B I102 B102 → lv_has ls 6 [(0, .ref h), (1, .int (iI z103))] → W p l e (mR 2 82) s m AV below meth c H locs 0 0 QQ (F0 m 7 ls []) := by
    intro n106
    induction n106 using Nat.strongRecOn with
    | ind n106 ih105 =>
      intro z103 I102 J102 B102 G102 H locs ls hm107 l103 u103 Y S hl
      refine lv_iload_n X.1 X.2.1 d_M_cover_7 rfl (lv_at hl 1 rfl) ?_
      refine lv_aload_n X.1 X.2.1 d_M_cover_8 rfl (lv_at hl 0 rfl) ?_
      refine r_geti (k := 18) X Y S (by decide) lk_rounds (gf_rounds _ _ _) rfl rfl d_M_cover_9 (fun z108 e108 l108 u108 => ?_)
      refine z_icmp_gt (tgt := 178) X.1 X.2.1 d_M_cover_12 (by decide) ⟨by omega, by omega⟩ ⟨by omega, by omega⟩ (fun h109 => ?_) (fun h109 => ?_)
      · exact m_retv hQQ X Y hr hlk ⟨S, trivial⟩ d_M_cover_178
      · refine lv_iconst (v := iI 0) X.1 X.2.1 d_M_cover_15 (by decide) ?_
        have J112 : ∀ (n114 : Nat) (z111 : Int) (I110 : Nat → Int32) (J110 : Nat → Int64) (B110 : Nat → Nat → Int32) (G110 : Nat → Nat → Int64) (H : Heap) (locs : List Loc) (ls : Array Slot), (16 - z111).toNat = n114 → (0 ≤ z111) → (z111 ≤ 16) → mH D E (mA E h q sz) s.heap h q I110 J110 B110 G110 H locs → rS [] [16, 17] I B I110 B110 → lv_has ls 6 [(0, .ref h), (1, .int (iI z103)), (2, .int (iI z111))] → W p l e (mR 2 82) s m AV below meth c H locs 0 0 QQ (F0 m 17 ls []) := by
          intro n114
          induction n114 using Nat.strongRecOn with
          | ind n114 ih113 =>
            intro z111 I110 J110 B110 G110 H locs ls hm115 l111 u111 Y S hl
            refine lv_iload_n X.1 X.2.1 d_M_cover_17 rfl (lv_at hl 2 rfl) ?_
            refine lv_bipush (v := iI 16) X.1 X.2.1 d_M_cover_18 (by decide) ?_
            refine z_icmp_ge (tgt := 55) X.1 X.2.1 d_M_cover_20 (by decide) ⟨by omega, by omega⟩ ⟨by omega, by omega⟩ (fun h116 => ?_) (fun h116 => ?_)
            · refine lv_iconst (v := iI 0) X.1 X.2.1 d_M_cover_55 (by decide) ?_
              have J120 : ∀ (n122 : Nat) (z118 : Int) (I117 : Nat → Int32) (J117 : Nat → Int64) (B117 : Nat → Nat → Int32) (G117 : Nat → Nat → Int64) (H : Heap) (locs : List Loc) (ls : Array Slot), (19 - z118).toNat = n122 → (0 ≤ z118) → (z118 ≤ 19) → (z118 % 4 = 0) → mH D E (mA E h q sz) s.heap h q I117 J117 B117 G117 H locs → rS [] [16, 17] I B I117 B117 → lv_has ls 6 [(0, .ref h), (1, .int (iI z103)), (2, .int (iI z118))] → W p l e (mR 2 82) s m AV below meth c H locs 0 0 QQ (F0 m 57 ls []) := by
                intro n122
                induction n122 using Nat.strongRecOn with
                | ind n122 ih121 =>
                  intro z118 I117 J117 B117 G117 H locs ls hm123 l118 u118 i119 Y S hl
                  refine lv_iload_n X.1 X.2.1 d_M_cover_57 rfl (lv_at hl 2 rfl) ?_
                  refine lv_bipush (v := iI 16) X.1 X.2.1 d_M_cover_58 (by decide) ?_
                  refine z_icmp_ge (tgt := 167) X.1 X.2.1 d_M_cover_60 (by decide) ⟨by omega, by omega⟩ ⟨by omega, by omega⟩ (fun h124 => ?_) (fun h124 => ?_)
                  · refine lv_aload_n X.1 X.2.1 d_M_cover_167 rfl (lv_at hl 0 rfl) ?_
                    refine lv_iload_n X.1 X.2.1 d_M_cover_168 rfl (lv_at hl 1 rfl) ?_
                    refine r_nv (m_run (As := [.int (iI z103)]) (rest := []) (n := 1) X Y hZ hA hml hl.1 (r_M_addKey l D E h q H.size I117 J117 B117 G117 z103 (by omega) (by omega) S.1) kl_M_addKey ks_M_addKey kx_M_addKey ki_M_addKey ini_M hd_M_addKey ⟨Nat.le_of_ble_eq_true rfl, Nat.le_of_ble_eq_true rfl⟩ rfl (Nat.le_of_ble_eq_true rfl) d_M_cover_169 ⟨Nat.le_refl _, Nat.le_refl _⟩) X Y hA S (by decide) (by decide) (fun u H locs Y S s125 p125 => ?_)
                    obtain ⟨I125, J125, B125, G125⟩ := u
                    dsimp only at Y S s125 p125
                    refine lv_iinc (v := iI (z103 + 1)) (lv' := [(1, .int (iI (z103 + 1))), (0, .ref h), (2, .int (iI z118))]) X.1 X.2.1 d_M_cover_172 hl (k := 1) rfl ((iI_add _ _).trans (congrArg iI (by omega))) (by decide) rfl (fun ls hl => ?_)
                    refine lv_goto (tgt := 7) X.1 X.2.1 d_M_cover_175 (by decide) ?_
                    exact ih105 ((15 - (z103 + 1)).toNat) (by omega) (z103 + 1) I125 J125 B125 G125 _ _ _ rfl (by omega) (by omega) Y S (lv_sub hl [1, 0] rfl)
                  · refine lv_iconst (v := iI 0) X.1 X.2.1 d_M_cover_63 (by decide) ?_
                    have J128 : ∀ (n130 : Nat) (z127 : Int) (I126 : Nat → Int32) (J126 : Nat → Int64) (B126 : Nat → Nat → Int32) (G126 : Nat → Nat → Int64) (H : Heap) (locs : List Loc) (ls : Array Slot), (4 - z127).toNat = n130 → (0 ≤ z127) → (z127 ≤ 4) → mH D E (mA E h q sz) s.heap h q I126 J126 B126 G126 H locs → rS [] [16, 17] I B I126 B126 → lv_has ls 6 [(0, .ref h), (1, .int (iI z103)), (2, .int (iI z118)), (3, .int (iI z127))] → W p l e (mR 2 82) s m AV below meth c H locs 0 0 QQ (F0 m 65 ls []) := by
                      intro n130
                      induction n130 using Nat.strongRecOn with
                      | ind n130 ih129 =>
                        intro z127 I126 J126 B126 G126 H locs ls hm131 l127 u127 Y S hl
                        refine lv_iload_n X.1 X.2.1 d_M_cover_65 rfl (lv_at hl 3 rfl) ?_
                        refine lv_iconst (v := iI 4) X.1 X.2.1 d_M_cover_66 (by decide) ?_
                        refine z_icmp_ge (tgt := 161) X.1 X.2.1 d_M_cover_67 (by decide) ⟨by omega, by omega⟩ ⟨by omega, by omega⟩ (fun h132 => ?_) (fun h132 => ?_)
                        · refine lv_iinc (v := iI (z118 + 4)) (lv' := [(2, .int (iI (z118 + 4))), (0, .ref h), (1, .int (iI z103)), (3, .int (iI z127))]) X.1 X.2.1 d_M_cover_161 hl (k := 2) rfl ((iI_add _ _).trans (congrArg iI (by omega))) (by decide) rfl (fun ls hl => ?_)
                          refine lv_goto (tgt := 57) X.1 X.2.1 d_M_cover_164 (by decide) ?_
                          exact ih121 ((19 - (z118 + 4)).toNat) (by omega) (z118 + 4) I126 J126 B126 G126 _ _ _ rfl (by omega) (by omega) (by omega) Y S (lv_sub hl [1, 2, 0] rfl)
                        · refine lv_aload_n X.1 X.2.1 d_M_cover_70 rfl (lv_at hl 0 rfl) ?_
                          refine m_get X Y 17 (by decide) lk_other (gf_other _ _ _) rfl d_M_cover_71 ?_
                          refine lv_iload_n X.1 X.2.1 d_M_cover_74 rfl (lv_at hl 2 rfl) ?_
                          refine lv_iload_n X.1 X.2.1 d_M_cover_75 rfl (lv_at hl 3 rfl) ?_
                          refine z_iadd X.1 X.2.1 d_M_cover_76 ?_
                          refine r_iald X Y S (aw_other _ _ _ _ _ _ _) rfl (by omega) (show z118 + z127 < ((16 : Nat) : Int) by omega) (by omega) d_M_cover_77 (fun z133 q133 l133 u133 => ?_)
                          refine lv_istore (lv' := [(4, .int (iI z133)), (0, .ref h), (1, .int (iI z103)), (2, .int (iI z118)), (3, .int (iI z127))]) X.1 X.2.1 d_M_cover_78 hl (by decide) rfl (fun ls hl => ?_)
                          refine lv_aload_n X.1 X.2.1 d_M_cover_80 rfl (lv_at hl 1 rfl) ?_
                          refine m_get X Y 17 (by decide) lk_other (gf_other _ _ _) rfl d_M_cover_81 ?_
                          refine lv_iload_n X.1 X.2.1 d_M_cover_84 rfl (lv_at hl 3 rfl) ?_
                          refine lv_iload_n X.1 X.2.1 d_M_cover_85 rfl (lv_at hl 4 rfl) ?_
                          refine lv_iconst (v := iI 1) X.1 X.2.1 d_M_cover_86 (by decide) ?_
                          refine z_iadd X.1 X.2.1 d_M_cover_87 ?_
                          refine lv_iconst (v := iI 4) X.1 X.2.1 d_M_cover_88 (by decide) ?_
                          refine z_irem X.1 X.2.1 (by omega) (by omega) ⟨by decide, by decide⟩ d_M_cover_89 ?_
                          refine z_iadd X.1 X.2.1 d_M_cover_90 ?_
                          refine r_iald X Y S (aw_other _ _ _ _ _ _ _) rfl (by omega) (show z118 + ((z127 + 1) % 4) < ((16 : Nat) : Int) by omega) (by omega) d_M_cover_91 (fun z134 q134 l134 u134 => ?_)
                          refine lv_istore (lv' := [(5, .int (iI z134)), (4, .int (iI z133)), (0, .ref h), (1, .int (iI z103)), (2, .int (iI z118)), (3, .int (iI z127))]) X.1 X.2.1 d_M_cover_92 hl (by decide) rfl (fun ls hl => ?_)
                          refine lv_aload_n X.1 X.2.1 d_M_cover_94 rfl (lv_at hl 2 rfl) ?_
                          refine m_get X Y 16 (by decide) lk_state (gf_state _ _ _) rfl d_M_cover_95 ?_
                          refine lv_iload_n X.1 X.2.1 d_M_cover_98 rfl (lv_at hl 4 rfl) ?_
                          refine lv_iload_n X.1 X.2.1 d_M_cover_99 rfl (lv_at hl 5 rfl) ?_
                          refine z_iadd X.1 X.2.1 d_M_cover_100 ?_
                          refine lv_iload_n X.1 X.2.1 d_M_cover_101 rfl (lv_at hl 3 rfl) ?_
                          refine lv_aload_n X.1 X.2.1 d_M_cover_102 rfl (lv_at hl 2 rfl) ?_
                          refine r_geti (k := 18) X Y S (by decide) lk_rounds (gf_rounds _ _ _) rfl rfl d_M_cover_103 (fun z135 e135 l135 u135 => ?_)
                          have J137 : ∀ (z136 : Int) (H : Heap) (locs : List Loc) (ls : Array Slot), (0 ≤ z136) → (z136 ≤ 255) → mH D E (mA E h q sz) s.heap h q I126 J126 B126 G126 H locs → rS [] [16, 17] I B I126 B126 → lv_has ls 6 [(0, .ref h), (1, .int (iI z103)), (2, .int (iI z118)), (3, .int (iI z127))] → W p l e (mR 2 82) s m AV below meth c H locs 0 0 QQ (F0 m 154 ls [.int (iI z136), .int (iI (z118 + z127)), .ref ((q 16))]) := by
                            intro z136 H locs ls l136 u136 Y S hl
                            refine r_iast X Y S (aw_state _ _ _ _ _ _ _) (sw_state _ _ _ _ _ _ _) rfl ⟨(show (0 : Int) ≤ z136 by omega), (show z136 ≤ (255 : Int) by omega)⟩ ⟨by omega, by omega⟩ (by omega) (show z118 + z127 < ((16 : Nat) : Int) by omega) (by omega) (by decide) d_M_cover_154 (fun B141 H locs Y S w141 => ?_)
                            refine lv_iinc (v := iI (z127 + 1)) (lv' := [(3, .int (iI (z127 + 1))), (0, .ref h), (1, .int (iI z103)), (2, .int (iI z118))]) X.1 X.2.1 d_M_cover_155 hl (k := 3) rfl ((iI_add _ _).trans (congrArg iI (by omega))) (by decide) rfl (fun ls hl => ?_)
                            refine lv_goto (tgt := 65) X.1 X.2.1 d_M_cover_158 (by decide) ?_
                            exact ih129 ((4 - (z127 + 1)).toNat) (by omega) (z127 + 1) I126 J126 B141 G126 _ _ _ rfl (by omega) (by omega) Y S (lv_sub hl [1, 2, 3, 0] rfl)
                          refine z_icmp_ne (tgt := 114) X.1 X.2.1 d_M_cover_106 (by decide) ⟨by omega, by omega⟩ ⟨by omega, by omega⟩ (fun h142 => ?_) (fun h142 => ?_)
                          · refine lv_iload X.1 X.2.1 d_M_cover_114 (lv_at hl 1 rfl) ?_
                            refine p_calli (As := [.int (iI z133)]) (rest := [.int (iI (z118 + z127)), .ref ((q 16))]) (n := 1) X Y hml hl.1 (r_M_twice l z133 (by omega) (by omega)) kl_M_twice ks_M_twice ki_M_twice ini_M hd_M_twice ⟨Nat.le_of_ble_eq_true rfl, Nat.le_of_ble_eq_true rfl⟩ rfl (Nat.le_of_ble_eq_true rfl) d_M_cover_116 ⟨Nat.le_refl _, Nat.le_refl _⟩ (fun r143 H locs p143 Y => ?_)
                            obtain ⟨z143, e143, p143⟩ := p143
                            subst e143
                            obtain ⟨l143, u143⟩ := p143
                            refine lv_iload X.1 X.2.1 d_M_cover_119 (lv_at hl 0 rfl) ?_
                            refine p_calli (As := [.int (iI z134)]) (rest := [.int (iI z143), .int (iI (z118 + z127)), .ref ((q 16))]) (n := 1) X Y hml hl.1 (r_M_twice l z134 (by omega) (by omega)) kl_M_twice ks_M_twice ki_M_twice ini_M hd_M_twice ⟨Nat.le_of_ble_eq_true rfl, Nat.le_of_ble_eq_true rfl⟩ rfl (Nat.le_of_ble_eq_true rfl) d_M_cover_121 ⟨Nat.le_refl _, Nat.le_refl _⟩ (fun r144 H locs p144 Y => ?_)
                            obtain ⟨z144, e144, p144⟩ := p144
                            subst e144
                            obtain ⟨l144, u144⟩ := p144
                            refine z_ixor X.1 X.2.1 ⟨by omega, by omega⟩ ⟨by omega, by omega⟩ d_M_cover_124 (fun z145 l145 u145 => ?_)
                            refine lv_iload X.1 X.2.1 d_M_cover_125 (lv_at hl 0 rfl) ?_
                            refine z_ixor X.1 X.2.1 ⟨by omega, by omega⟩ ⟨by omega, by omega⟩ d_M_cover_127 (fun z146 l146 u146 => ?_)
                            refine lv_aload_n X.1 X.2.1 d_M_cover_128 rfl (lv_at hl 2 rfl) ?_
                            refine m_get X Y 17 (by decide) lk_other (gf_other _ _ _) rfl d_M_cover_129 ?_
                            refine lv_iload_n X.1 X.2.1 d_M_cover_132 rfl (lv_at hl 4 rfl) ?_
                            refine lv_iload_n X.1 X.2.1 d_M_cover_133 rfl (lv_at hl 5 rfl) ?_
                            refine lv_iconst (v := iI 2) X.1 X.2.1 d_M_cover_134 (by decide) ?_
                            refine z_iadd X.1 X.2.1 d_M_cover_135 ?_
                            refine lv_iconst (v := iI 4) X.1 X.2.1 d_M_cover_136 (by decide) ?_
                            refine z_irem X.1 X.2.1 (by omega) (by omega) ⟨by decide, by decide⟩ d_M_cover_137 ?_
                            refine z_iadd X.1 X.2.1 d_M_cover_138 ?_
                            refine r_iald X Y S (aw_other _ _ _ _ _ _ _) rfl (by omega) (show z118 + ((z127 + 2) % 4) < ((16 : Nat) : Int) by omega) (by omega) d_M_cover_139 (fun z147 q147 l147 u147 => ?_)
                            refine z_ixor X.1 X.2.1 ⟨by omega, by omega⟩ ⟨by omega, by omega⟩ d_M_cover_140 (fun z148 l148 u148 => ?_)
                            refine lv_aload_n X.1 X.2.1 d_M_cover_141 rfl (lv_at hl 2 rfl) ?_
                            refine m_get X Y 17 (by decide) lk_other (gf_other _ _ _) rfl d_M_cover_142 ?_
                            refine lv_iload_n X.1 X.2.1 d_M_cover_145 rfl (lv_at hl 4 rfl) ?_
                            refine lv_iload_n X.1 X.2.1 d_M_cover_146 rfl (lv_at hl 5 rfl) ?_
                            refine lv_iconst (v := iI 3) X.1 X.2.1 d_M_cover_147 (by decide) ?_
                            refine z_iadd X.1 X.2.1 d_M_cover_148 ?_
                            refine lv_iconst (v := iI 4) X.1 X.2.1 d_M_cover_149 (by decide) ?_
                            refine z_irem X.1 X.2.1 (by omega) (by omega) ⟨by decide, by decide⟩ d_M_cover_150 ?_
                            refine z_iadd X.1 X.2.1 d_M_cover_151 ?_
                            refine r_iald X Y S (aw_other _ _ _ _ _ _ _) rfl (by omega) (show z118 + ((z127 + 3) % 4) < ((16 : Nat) : Int) by omega) (by omega) d_M_cover_152 (fun z149 q149 l149 u149 => ?_)
                            refine z_ixor X.1 X.2.1 ⟨by omega, by omega⟩ ⟨by omega, by omega⟩ d_M_cover_153 (fun z150 l150 u150 => ?_)
                            exact J137 z150 _ _ _ (by omega) (by omega) Y S (lv_sub hl [2, 3, 4, 5] rfl)
                          · refine lv_iload X.1 X.2.1 d_M_cover_109 (lv_at hl 1 rfl) ?_
                            refine lv_goto (tgt := 154) X.1 X.2.1 d_M_cover_111 (by decide) ?_
                            exact J137 z133 _ _ _ (by omega) (by omega) Y S (lv_sub hl [2, 3, 4, 5] rfl)
                    refine lv_istore_n (lv' := [(3, .int (iI 0)), (0, .ref h), (1, .int (iI z103)), (2, .int (iI z118))]) X.1 X.2.1 d_M_cover_64 rfl hl (by decide) rfl (fun ls hl => ?_)
                    exact J128 _ 0 I117 J117 B117 G117 _ _ _ rfl (by omega) (by omega) Y S (lv_sub hl [1, 2, 3, 0] rfl)
              refine lv_istore_n (lv' := [(2, .int (iI 0)), (0, .ref h), (1, .int (iI z103))]) X.1 X.2.1 d_M_cover_56 rfl hl (by decide) rfl (fun ls hl => ?_)
              exact J120 _ 0 I110 J110 B110 G110 _ _ _ rfl (by omega) (by omega) (by omega) Y S (lv_sub hl [1, 2, 0] rfl)
            · refine lv_aload_n X.1 X.2.1 d_M_cover_23 rfl (lv_at hl 0 rfl) ?_
              refine m_get X Y 17 (by decide) lk_other (gf_other _ _ _) rfl d_M_cover_24 ?_
              refine lv_iload_n X.1 X.2.1 d_M_cover_27 rfl (lv_at hl 2 rfl) ?_
              refine lv_aload_n X.1 X.2.1 d_M_cover_28 rfl (lv_at hl 0 rfl) ?_
              refine m_get X Y 12 (by decide) lk_box (gf_box _ _ _) rfl d_M_cover_29 ?_
              refine lv_aload_n X.1 X.2.1 d_M_cover_32 rfl (lv_at hl 0 rfl) ?_
              refine m_get X Y 16 (by decide) lk_state (gf_state _ _ _) rfl d_M_cover_33 ?_
              refine lv_iload_n X.1 X.2.1 d_M_cover_36 rfl (lv_at hl 2 rfl) ?_
              refine lv_iconst (v := iI 4) X.1 X.2.1 d_M_cover_37 (by decide) ?_
              refine lv_iload_n X.1 X.2.1 d_M_cover_38 rfl (lv_at hl 2 rfl) ?_
              refine lv_iconst (v := iI 4) X.1 X.2.1 d_M_cover_39 (by decide) ?_
              refine z_irem X.1 X.2.1 (by omega) (by omega) ⟨by decide, by decide⟩ d_M_cover_40 ?_
              refine z_imul X.1 X.2.1 d_M_cover_41 ?_
              refine z_iadd X.1 X.2.1 d_M_cover_42 ?_
              refine lv_bipush (v := iI 16) X.1 X.2.1 d_M_cover_43 (by decide) ?_
              refine z_irem X.1 X.2.1 (by omega) (by omega) ⟨by decide, by decide⟩ d_M_cover_45 ?_
              refine r_iald X Y S (aw_state _ _ _ _ _ _ _) rfl (by omega) (show (z111 + (4 * (z111 % 4))) % 16 < ((16 : Nat) : Int) by omega) (by omega) d_M_cover_46 (fun z151 q151 l151 u151 => ?_)
              refine r_iald X Y S (aw_box _ _ _ _ _ _ _) rfl (by omega) (show z151 < ((256 : Nat) : Int) by omega) (by omega) d_M_cover_47 (fun z152 q152 l152 u152 => ?_)
              refine r_iast X Y S (aw_other _ _ _ _ _ _ _) (sw_other _ _ _ _ _ _ _) rfl ⟨(show (0 : Int) ≤ z152 by omega), (show z152 ≤ (255 : Int) by omega)⟩ ⟨by omega, by omega⟩ (by omega) (show z111 < ((16 : Nat) : Int) by omega) (by omega) (by decide) d_M_cover_48 (fun B153 H locs Y S w153 => ?_)
              refine lv_iinc (v := iI (z111 + 1)) (lv' := [(2, .int (iI (z111 + 1))), (0, .ref h), (1, .int (iI z103))]) X.1 X.2.1 d_M_cover_49 hl (k := 2) rfl ((iI_add _ _).trans (congrArg iI (by omega))) (by decide) rfl (fun ls hl => ?_)
              refine lv_goto (tgt := 17) X.1 X.2.1 d_M_cover_52 (by decide) ?_
              exact ih113 ((16 - (z111 + 1)).toNat) (by omega) (z111 + 1) I110 J110 B153 G110 _ _ _ rfl (by omega) (by omega) Y S (lv_sub hl [1, 2, 0] rfl)
        refine lv_istore_n (lv' := [(2, .int (iI 0)), (0, .ref h), (1, .int (iI z103))]) X.1 X.2.1 d_M_cover_16 rfl hl (by decide) rfl (fun ls hl => ?_)
        exact J112 _ 0 I102 J102 B102 G102 _ _ _ rfl (by omega) (by omega) Y S (lv_sub hl [1, 2, 0] rfl)
  refine lv_istore_n (lv' := [(1, .int (iI 1)), (0, .ref h)]) X.1 X.2.1 d_M_cover_6 rfl hl (by decide) rfl (fun ls hl => ?_)
  exact J104 _ 1 I101 J101 B101 G101 _ _ _ rfl (by omega) (by omega) Y S (lv_sub hl [1, 0] rfl)
set_option maxHeartbeats 4000000 in
set_option maxRecDepth 100000 in
theorem r_M_uncover (l : Launch) (D : mD) (E : mE) (h : Nat) (q : Nat → Nat) (sz : Nat) (I : Nat → Int32) (J : Nat → Int64) (B : Nat → Nat → Int32) (G : Nat → Nat → Int64) (hT : rT I B) : Met l y_M_uncover (k_M_uncover :: lw_tg) (mR 3 104) (va_Pc [.ref h] (mPre D E h q (I, J, B, G) sz)) (va_Qv (rPv [] [16, 17] I B (fun (u : mS) => True)) (mPost D E h q (mA E h q sz)) (mA E h q sz)) 0 0 (mA E h q sz) := by
  refine m_enter (by decide) rfl (Nat.le_of_ble_eq_true rfl) (fun p e s m below meth c ls AV QQ H locs hQQ X Y hZ hA hr hlk hml hl => ?_)
  have Y : mH D E (mA E h q sz) s.heap h q I J B G H locs := Y
  have S : rS [] [16, 17] I B I B := rS_rf hT
  have hl : lv_has ls 8 [(0, .ref h)] := hl
  refine lv_aload_n X.1 X.2.1 d_M_uncover_0 rfl (lv_at hl 0 rfl) ?_
  refine r_geti (k := 18) X Y S (by decide) lk_rounds (gf_rounds _ _ _) rfl rfl d_M_uncover_1 (fun z101 e101 l101 u101 => ?_)
  have J104 : ∀ (n106 : Nat) (z103 : Int) (I102 : Nat → Int32) (J102 : Nat → Int64) (B102 : Nat → Nat → Int32) (G102 : Nat → Nat → Int64) (H : Heap) (locs : List Loc) (ls : Array Slot), (z103 - 0).toNat = n106 → (0 ≤ z103) → (z103 ≤ 14) → mH D E (mA E h q sz) s.heap h q I102 J102 B102 G102 H locs → rS [] [16, 17] I B I102 B102 → lv_has ls 8 [(0, .ref h), (1, .int (iI z103))] → W p l e (mR 3 104) s m AV below meth c H locs 0 0 QQ (F0 m 5 ls []) := by
    intro n106
    induction n106 using Nat.strongRecOn with
    | ind n106 ih105 =>
      intro z103 I102 J102 B102 G102 H locs ls hm107 l103 u103 Y S hl
      refine lv_iload_n X.1 X.2.1 d_M_uncover_5 rfl (lv_at hl 1 rfl) ?_
      refine z_if_le (tgt := 191) X.1 X.2.1 d_M_uncover_6 (by decide) ⟨by omega, by omega⟩ (fun h108 => ?_) (fun h108 => ?_)
      · refine lv_aload_n X.1 X.2.1 d_M_uncover_191 rfl (lv_at hl 0 rfl) ?_
        refine lv_iconst (v := iI 0) X.1 X.2.1 d_M_uncover_192 (by decide) ?_
        refine r_nv (m_run (As := [.int (iI 0)]) (rest := []) (n := 1) X Y hZ hA hml hl.1 (r_M_addKey l D E h q H.size I102 J102 B102 G102 0 (by omega) (by omega) S.1) kl_M_addKey ks_M_addKey kx_M_addKey ki_M_addKey ini_M hd_M_addKey ⟨Nat.le_of_ble_eq_true rfl, Nat.le_of_ble_eq_true rfl⟩ rfl (Nat.le_of_ble_eq_true rfl) d_M_uncover_193 ⟨Nat.le_refl _, Nat.le_refl _⟩) X Y hA S (by decide) (by decide) (fun u H locs Y S s109 p109 => ?_)
        obtain ⟨I109, J109, B109, G109⟩ := u
        dsimp only at Y S s109 p109
        exact m_retv hQQ X Y hr hlk ⟨S, trivial⟩ d_M_uncover_196
      · refine lv_aload_n X.1 X.2.1 d_M_uncover_9 rfl (lv_at hl 0 rfl) ?_
        refine lv_iload_n X.1 X.2.1 d_M_uncover_10 rfl (lv_at hl 1 rfl) ?_
        refine r_nv (m_run (As := [.int (iI z103)]) (rest := []) (n := 1) X Y hZ hA hml hl.1 (r_M_addKey l D E h q H.size I102 J102 B102 G102 z103 (by omega) (by omega) S.1) kl_M_addKey ks_M_addKey kx_M_addKey ki_M_addKey ini_M hd_M_addKey ⟨Nat.le_of_ble_eq_true rfl, Nat.le_of_ble_eq_true rfl⟩ rfl (Nat.le_of_ble_eq_true rfl) d_M_uncover_11 ⟨Nat.le_refl _, Nat.le_refl _⟩) X Y hA S (by decide) (by decide) (fun u H locs Y S s110 p110 => ?_)
        obtain ⟨I110, J110, B110, G110⟩ := u
        dsimp only at Y S s110 p110
        refine lv_iconst (v := iI 0) X.1 X.2.1 d_M_uncover_14 (by decide) ?_
        have J114 : ∀ (n116 : Nat) (z112 : Int) (I111 : Nat → Int32) (J111 : Nat → Int64) (B111 : Nat → Nat → Int32) (G111 : Nat → Nat → Int64) (H : Heap) (locs : List Loc) (ls : Array Slot), (19 - z112).toNat = n116 → (0 ≤ z112) → (z112 ≤ 19) → (z112 % 4 = 0) → mH D E (mA E h q sz) s.heap h q I111 J111 B111 G111 H locs → rS [] [16, 17] I B I111 B111 → lv_has ls 8 [(0, .ref h), (1, .int (iI z103)), (2, .int (iI z112))] → W p l e (mR 3 104) s m AV below meth c H locs 0 0 QQ (F0 m 16 ls []) := by
          intro n116
          induction n116 using Nat.strongRecOn with
          | ind n116 ih115 =>
            intro z112 I111 J111 B111 G111 H locs ls hm117 l112 u112 i113 Y S hl
            refine lv_iload_n X.1 X.2.1 d_M_uncover_16 rfl (lv_at hl 2 rfl) ?_
            refine lv_bipush (v := iI 16) X.1 X.2.1 d_M_uncover_17 (by decide) ?_
            refine z_icmp_ge (tgt := 145) X.1 X.2.1 d_M_uncover_19 (by decide) ⟨by omega, by omega⟩ ⟨by omega, by omega⟩ (fun h118 => ?_) (fun h118 => ?_)
            · refine lv_iconst (v := iI 0) X.1 X.2.1 d_M_uncover_145 (by decide) ?_
              have J121 : ∀ (n123 : Nat) (z120 : Int) (I119 : Nat → Int32) (J119 : Nat → Int64) (B119 : Nat → Nat → Int32) (G119 : Nat → Nat → Int64) (H : Heap) (locs : List Loc) (ls : Array Slot), (16 - z120).toNat = n123 → (0 ≤ z120) → (z120 ≤ 16) → mH D E (mA E h q sz) s.heap h q I119 J119 B119 G119 H locs → rS [] [16, 17] I B I119 B119 → lv_has ls 8 [(0, .ref h), (1, .int (iI z103)), (2, .int (iI z120))] → W p l e (mR 3 104) s m AV below meth c H locs 0 0 QQ (F0 m 147 ls []) := by
                intro n123
                induction n123 using Nat.strongRecOn with
                | ind n123 ih122 =>
                  intro z120 I119 J119 B119 G119 H locs ls hm124 l120 u120 Y S hl
                  refine lv_iload_n X.1 X.2.1 d_M_uncover_147 rfl (lv_at hl 2 rfl) ?_
                  refine lv_bipush (v := iI 16) X.1 X.2.1 d_M_uncover_148 (by decide) ?_
                  refine z_icmp_ge (tgt := 185) X.1 X.2.1 d_M_uncover_150 (by decide) ⟨by omega, by omega⟩ ⟨by omega, by omega⟩ (fun h125 => ?_) (fun h125 => ?_)
                  · refine lv_iinc (v := iI (z103 - 1)) (lv' := [(1, .int (iI (z103 - 1))), (0, .ref h), (2, .int (iI z120))]) X.1 X.2.1 d_M_uncover_185 hl (k := 1) rfl ((iI_add _ _).trans (congrArg iI (by omega))) (by decide) rfl (fun ls hl => ?_)
                    refine lv_goto (tgt := 5) X.1 X.2.1 d_M_uncover_188 (by decide) ?_
                    exact ih105 (((z103 - 1) - 0).toNat) (by omega) (z103 - 1) I119 J119 B119 G119 _ _ _ rfl (by omega) (by omega) Y S (lv_sub hl [1, 0] rfl)
                  · refine lv_aload_n X.1 X.2.1 d_M_uncover_153 rfl (lv_at hl 0 rfl) ?_
                    refine m_get X Y 16 (by decide) lk_state (gf_state _ _ _) rfl d_M_uncover_154 ?_
                    refine lv_iload_n X.1 X.2.1 d_M_uncover_157 rfl (lv_at hl 2 rfl) ?_
                    refine lv_iconst (v := iI 4) X.1 X.2.1 d_M_uncover_158 (by decide) ?_
                    refine lv_iload_n X.1 X.2.1 d_M_uncover_159 rfl (lv_at hl 2 rfl) ?_
                    refine lv_iconst (v := iI 4) X.1 X.2.1 d_M_uncover_160 (by decide) ?_
                    refine z_irem X.1 X.2.1 (by omega) (by omega) ⟨by decide, by decide⟩ d_M_uncover_161 ?_
                    refine z_imul X.1 X.2.1 d_M_uncover_162 ?_
                    refine z_iadd X.1 X.2.1 d_M_uncover_163 ?_
                    refine lv_bipush (v := iI 16) X.1 X.2.1 d_M_uncover_164 (by decide) ?_
                    refine z_irem X.1 X.2.1 (by omega) (by omega) ⟨by decide, by decide⟩ d_M_uncover_166 ?_
                    refine lv_aload_n X.1 X.2.1 d_M_uncover_167 rfl (lv_at hl 0 rfl) ?_
                    refine m_get X Y 13 (by decide) lk_back (gf_back _ _ _) rfl d_M_uncover_168 ?_
                    refine lv_aload_n X.1 X.2.1 d_M_uncover_171 rfl (lv_at hl 0 rfl) ?_
                    refine m_get X Y 17 (by decide) lk_other (gf_other _ _ _) rfl d_M_uncover_172 ?_
                    refine lv_iload_n X.1 X.2.1 d_M_uncover_175 rfl (lv_at hl 2 rfl) ?_
                    refine r_iald X Y S (aw_other _ _ _ _ _ _ _) rfl (by omega) (show z120 < ((16 : Nat) : Int) by omega) (by omega) d_M_uncover_176 (fun z126 q126 l126 u126 => ?_)
                    refine r_iald X Y S (aw_back _ _ _ _ _ _ _) rfl (by omega) (show z126 < ((256 : Nat) : Int) by omega) (by omega) d_M_uncover_177 (fun z127 q127 l127 u127 => ?_)
                    refine r_iast X Y S (aw_state _ _ _ _ _ _ _) (sw_state _ _ _ _ _ _ _) rfl ⟨(show (0 : Int) ≤ z127 by omega), (show z127 ≤ (255 : Int) by omega)⟩ ⟨by omega, by omega⟩ (by omega) (show (z120 + (4 * (z120 % 4))) % 16 < ((16 : Nat) : Int) by omega) (by omega) (by decide) d_M_uncover_178 (fun B128 H locs Y S w128 => ?_)
                    refine lv_iinc (v := iI (z120 + 1)) (lv' := [(2, .int (iI (z120 + 1))), (0, .ref h), (1, .int (iI z103))]) X.1 X.2.1 d_M_uncover_179 hl (k := 2) rfl ((iI_add _ _).trans (congrArg iI (by omega))) (by decide) rfl (fun ls hl => ?_)
                    refine lv_goto (tgt := 147) X.1 X.2.1 d_M_uncover_182 (by decide) ?_
                    exact ih122 ((16 - (z120 + 1)).toNat) (by omega) (z120 + 1) I119 J119 B128 G119 _ _ _ rfl (by omega) (by omega) Y S (lv_sub hl [1, 2, 0] rfl)
              refine lv_istore_n (lv' := [(2, .int (iI 0)), (0, .ref h), (1, .int (iI z103))]) X.1 X.2.1 d_M_uncover_146 rfl hl (by decide) rfl (fun ls hl => ?_)
              exact J121 _ 0 I111 J111 B111 G111 _ _ _ rfl (by omega) (by omega) Y S (lv_sub hl [1, 2, 0] rfl)
            · refine lv_iconst (v := iI 0) X.1 X.2.1 d_M_uncover_22 (by decide) ?_
              have J131 : ∀ (n133 : Nat) (z130 : Int) (I129 : Nat → Int32) (J129 : Nat → Int64) (B129 : Nat → Nat → Int32) (G129 : Nat → Nat → Int64) (H : Heap) (locs : List Loc) (ls : Array Slot), (4 - z130).toNat = n133 → (0 ≤ z130) → (z130 ≤ 4) → mH D E (mA E h q sz) s.heap h q I129 J129 B129 G129 H locs → rS [] [16, 17] I B I129 B129 → lv_has ls 8 [(0, .ref h), (1, .int (iI z103)), (2, .int (iI z112)), (3, .int (iI z130))] → W p l e (mR 3 104) s m AV below meth c H locs 0 0 QQ (F0 m 24 ls []) := by
                intro n133
                induction n133 using Nat.strongRecOn with
                | ind n133 ih132 =>
                  intro z130 I129 J129 B129 G129 H locs ls hm134 l130 u130 Y S hl
                  refine lv_iload_n X.1 X.2.1 d_M_uncover_24 rfl (lv_at hl 3 rfl) ?_
                  refine lv_iconst (v := iI 4) X.1 X.2.1 d_M_uncover_25 (by decide) ?_
                  refine z_icmp_ge (tgt := 139) X.1 X.2.1 d_M_uncover_26 (by decide) ⟨by omega, by omega⟩ ⟨by omega, by omega⟩ (fun h135 => ?_) (fun h135 => ?_)
                  · refine lv_iinc (v := iI (z112 + 4)) (lv' := [(2, .int (iI (z112 + 4))), (0, .ref h), (1, .int (iI z103)), (3, .int (iI z130))]) X.1 X.2.1 d_M_uncover_139 hl (k := 2) rfl ((iI_add _ _).trans (congrArg iI (by omega))) (by decide) rfl (fun ls hl => ?_)
                    refine lv_goto (tgt := 16) X.1 X.2.1 d_M_uncover_142 (by decide) ?_
                    exact ih115 ((19 - (z112 + 4)).toNat) (by omega) (z112 + 4) I129 J129 B129 G129 _ _ _ rfl (by omega) (by omega) (by omega) Y S (lv_sub hl [1, 2, 0] rfl)
                  · refine lv_aload_n X.1 X.2.1 d_M_uncover_29 rfl (lv_at hl 0 rfl) ?_
                    refine m_get X Y 16 (by decide) lk_state (gf_state _ _ _) rfl d_M_uncover_30 ?_
                    refine lv_iload_n X.1 X.2.1 d_M_uncover_33 rfl (lv_at hl 2 rfl) ?_
                    refine lv_iload_n X.1 X.2.1 d_M_uncover_34 rfl (lv_at hl 3 rfl) ?_
                    refine z_iadd X.1 X.2.1 d_M_uncover_35 ?_
                    refine r_iald X Y S (aw_state _ _ _ _ _ _ _) rfl (by omega) (show z112 + z130 < ((16 : Nat) : Int) by omega) (by omega) d_M_uncover_36 (fun z136 q136 l136 u136 => ?_)
                    refine lv_istore (lv' := [(4, .int (iI z136)), (0, .ref h), (1, .int (iI z103)), (2, .int (iI z112)), (3, .int (iI z130))]) X.1 X.2.1 d_M_uncover_37 hl (by decide) rfl (fun ls hl => ?_)
                    refine lv_aload_n X.1 X.2.1 d_M_uncover_39 rfl (lv_at hl 1 rfl) ?_
                    refine m_get X Y 16 (by decide) lk_state (gf_state _ _ _) rfl d_M_uncover_40 ?_
                    refine lv_iload_n X.1 X.2.1 d_M_uncover_43 rfl (lv_at hl 3 rfl) ?_
                    refine lv_iload_n X.1 X.2.1 d_M_uncover_44 rfl (lv_at hl 4 rfl) ?_
                    refine lv_iconst (v := iI 1) X.1 X.2.1 d_M_uncover_45 (by decide) ?_
                    refine z_iadd X.1 X.2.1 d_M_uncover_46 ?_
                    refine lv_iconst (v := iI 4) X.1 X.2.1 d_M_uncover_47 (by decide) ?_
                    refine z_irem X.1 X.2.1 (by omega) (by omega) ⟨by decide, by decide⟩ d_M_uncover_48 ?_
                    refine z_iadd X.1 X.2.1 d_M_uncover_49 ?_
                    refine r_iald X Y S (aw_state _ _ _ _ _ _ _) rfl (by omega) (show z112 + ((z130 + 1) % 4) < ((16 : Nat) : Int) by omega) (by omega) d_M_uncover_50 (fun z137 q137 l137 u137 => ?_)
                    refine lv_istore (lv' := [(5, .int (iI z137)), (4, .int (iI z136)), (0, .ref h), (1, .int (iI z103)), (2, .int (iI z112)), (3, .int (iI z130))]) X.1 X.2.1 d_M_uncover_51 hl (by decide) rfl (fun ls hl => ?_)
                    refine lv_aload_n X.1 X.2.1 d_M_uncover_53 rfl (lv_at hl 2 rfl) ?_
                    refine m_get X Y 16 (by decide) lk_state (gf_state _ _ _) rfl d_M_uncover_54 ?_
                    refine lv_iload_n X.1 X.2.1 d_M_uncover_57 rfl (lv_at hl 4 rfl) ?_
                    refine lv_iload_n X.1 X.2.1 d_M_uncover_58 rfl (lv_at hl 5 rfl) ?_
                    refine lv_iconst (v := iI 2) X.1 X.2.1 d_M_uncover_59 (by decide) ?_
                    refine z_iadd X.1 X.2.1 d_M_uncover_60 ?_
                    refine lv_iconst (v := iI 4) X.1 X.2.1 d_M_uncover_61 (by decide) ?_
                    refine z_irem X.1 X.2.1 (by omega) (by omega) ⟨by decide, by decide⟩ d_M_uncover_62 ?_
                    refine z_iadd X.1 X.2.1 d_M_uncover_63 ?_
                    refine r_iald X Y S (aw_state _ _ _ _ _ _ _) rfl (by omega) (show z112 + ((z130 + 2) % 4) < ((16 : Nat) : Int) by omega) (by omega) d_M_uncover_64 (fun z138 q138 l138 u138 => ?_)
                    refine lv_istore (lv' := [(6, .int (iI z138)), (5, .int (iI z137)), (4, .int (iI z136)), (0, .ref h), (1, .int (iI z103)), (2, .int (iI z112)), (3, .int (iI z130))]) X.1 X.2.1 d_M_uncover_65 hl (by decide) rfl (fun ls hl => ?_)
                    refine lv_aload_n X.1 X.2.1 d_M_uncover_67 rfl (lv_at hl 3 rfl) ?_
                    refine m_get X Y 16 (by decide) lk_state (gf_state _ _ _) rfl d_M_uncover_68 ?_
                    refine lv_iload_n X.1 X.2.1 d_M_uncover_71 rfl (lv_at hl 5 rfl) ?_
                    refine lv_iload_n X.1 X.2.1 d_M_uncover_72 rfl (lv_at hl 6 rfl) ?_
                    refine lv_iconst (v := iI 3) X.1 X.2.1 d_M_uncover_73 (by decide) ?_
                    refine z_iadd X.1 X.2.1 d_M_uncover_74 ?_
                    refine lv_iconst (v := iI 4) X.1 X.2.1 d_M_uncover_75 (by decide) ?_
                    refine z_irem X.1 X.2.1 (by omega) (by omega) ⟨by decide, by decide⟩ d_M_uncover_76 ?_
                    refine z_iadd X.1 X.2.1 d_M_uncover_77 ?_
                    refine r_iald X Y S (aw_state _ _ _ _ _ _ _) rfl (by omega) (show z112 + ((z130 + 3) % 4) < ((16 : Nat) : Int) by omega) (by omega) d_M_uncover_78 (fun z139 q139 l139 u139 => ?_)
                    refine lv_istore (lv' := [(7, .int (iI z139)), (6, .int (iI z138)), (5, .int (iI z137)), (4, .int (iI z136)), (0, .ref h), (1, .int (iI z103)), (2, .int (iI z112)), (3, .int (iI z130))]) X.1 X.2.1 d_M_uncover_79 hl (by decide) rfl (fun ls hl => ?_)
                    refine lv_aload_n X.1 X.2.1 d_M_uncover_81 rfl (lv_at hl 4 rfl) ?_
                    refine m_get X Y 17 (by decide) lk_other (gf_other _ _ _) rfl d_M_uncover_82 ?_
                    refine lv_iload_n X.1 X.2.1 d_M_uncover_85 rfl (lv_at hl 6 rfl) ?_
                    refine lv_iload_n X.1 X.2.1 d_M_uncover_86 rfl (lv_at hl 7 rfl) ?_
                    refine z_iadd X.1 X.2.1 d_M_uncover_87 ?_
                    refine lv_iload_n X.1 X.2.1 d_M_uncover_88 rfl (lv_at hl 5 rfl) ?_
                    refine lv_aload_n X.1 X.2.1 d_M_uncover_89 rfl (lv_at hl 4 rfl) ?_
                    refine r_geti (k := 18) X Y S (by decide) lk_rounds (gf_rounds _ _ _) rfl rfl d_M_uncover_90 (fun z140 e140 l140 u140 => ?_)
                    have J142 : ∀ (z141 : Int) (H : Heap) (locs : List Loc) (ls : Array Slot), (0 ≤ z141) → (z141 ≤ 255) → mH D E (mA E h q sz) s.heap h q I129 J129 B129 G129 H locs → rS [] [16, 17] I B I129 B129 → lv_has ls 8 [(0, .ref h), (1, .int (iI z103)), (2, .int (iI z112)), (3, .int (iI z130))] → W p l e (mR 3 104) s m AV below meth c H locs 0 0 QQ (F0 m 132 ls [.int (iI z141), .int (iI (z112 + z130)), .ref ((q 17))]) := by
                      intro z141 H locs ls l141 u141 Y S hl
                      refine r_iast X Y S (aw_other _ _ _ _ _ _ _) (sw_other _ _ _ _ _ _ _) rfl ⟨(show (0 : Int) ≤ z141 by omega), (show z141 ≤ (255 : Int) by omega)⟩ ⟨by omega, by omega⟩ (by omega) (show z112 + z130 < ((16 : Nat) : Int) by omega) (by omega) (by decide) d_M_uncover_132 (fun B146 H locs Y S w146 => ?_)
                      refine lv_iinc (v := iI (z130 + 1)) (lv' := [(3, .int (iI (z130 + 1))), (0, .ref h), (1, .int (iI z103)), (2, .int (iI z112))]) X.1 X.2.1 d_M_uncover_133 hl (k := 3) rfl ((iI_add _ _).trans (congrArg iI (by omega))) (by decide) rfl (fun ls hl => ?_)
                      refine lv_goto (tgt := 24) X.1 X.2.1 d_M_uncover_136 (by decide) ?_
                      exact ih132 ((4 - (z130 + 1)).toNat) (by omega) (z130 + 1) I129 J129 B146 G129 _ _ _ rfl (by omega) (by omega) Y S (lv_sub hl [1, 2, 3, 0] rfl)
                    refine z_icmp_ne (tgt := 101) X.1 X.2.1 d_M_uncover_93 (by decide) ⟨by omega, by omega⟩ ⟨by omega, by omega⟩ (fun h147 => ?_) (fun h147 => ?_)
                    · refine lv_iload X.1 X.2.1 d_M_uncover_101 (lv_at hl 3 rfl) ?_
                      refine lv_bipush (v := iI 14) X.1 X.2.1 d_M_uncover_103 (by decide) ?_
                      refine p_calli (As := [.int (iI z136), .int (iI 14)]) (rest := [.int (iI (z112 + z130)), .ref ((q 17))]) (n := 2) X Y hml hl.1 (r_M_product l z136 (by omega) (by omega) 14 (by omega) (by omega)) kl_M_product ks_M_product ki_M_product ini_M hd_M_product ⟨Nat.le_of_ble_eq_true rfl, Nat.le_of_ble_eq_true rfl⟩ rfl (Nat.le_of_ble_eq_true rfl) d_M_uncover_105 ⟨Nat.le_refl _, Nat.le_refl _⟩ (fun r148 H locs p148 Y => ?_)
                      obtain ⟨z148, e148, p148⟩ := p148
                      subst e148
                      obtain ⟨l148, u148⟩ := p148
                      refine lv_iload X.1 X.2.1 d_M_uncover_108 (lv_at hl 2 rfl) ?_
                      refine lv_bipush (v := iI 11) X.1 X.2.1 d_M_uncover_110 (by decide) ?_
                      refine p_calli (As := [.int (iI z137), .int (iI 11)]) (rest := [.int (iI z148), .int (iI (z112 + z130)), .ref ((q 17))]) (n := 2) X Y hml hl.1 (r_M_product l z137 (by omega) (by omega) 11 (by omega) (by omega)) kl_M_product ks_M_product ki_M_product ini_M hd_M_product ⟨Nat.le_of_ble_eq_true rfl, Nat.le_of_ble_eq_true rfl⟩ rfl (Nat.le_of_ble_eq_true rfl) d_M_uncover_112 ⟨Nat.le_refl _, Nat.le_refl _⟩ (fun r149 H locs p149 Y => ?_)
                      obtain ⟨z149, e149, p149⟩ := p149
                      subst e149
                      obtain ⟨l149, u149⟩ := p149
                      refine z_ixor X.1 X.2.1 ⟨by omega, by omega⟩ ⟨by omega, by omega⟩ d_M_uncover_115 (fun z150 l150 u150 => ?_)
                      refine lv_iload X.1 X.2.1 d_M_uncover_116 (lv_at hl 1 rfl) ?_
                      refine lv_bipush (v := iI 13) X.1 X.2.1 d_M_uncover_118 (by decide) ?_
                      refine p_calli (As := [.int (iI z138), .int (iI 13)]) (rest := [.int (iI z150), .int (iI (z112 + z130)), .ref ((q 17))]) (n := 2) X Y hml hl.1 (r_M_product l z138 (by omega) (by omega) 13 (by omega) (by omega)) kl_M_product ks_M_product ki_M_product ini_M hd_M_product ⟨Nat.le_of_ble_eq_true rfl, Nat.le_of_ble_eq_true rfl⟩ rfl (Nat.le_of_ble_eq_true rfl) d_M_uncover_120 ⟨Nat.le_refl _, Nat.le_refl _⟩ (fun r151 H locs p151 Y => ?_)
                      obtain ⟨z151, e151, p151⟩ := p151
                      subst e151
                      obtain ⟨l151, u151⟩ := p151
                      refine z_ixor X.1 X.2.1 ⟨by omega, by omega⟩ ⟨by omega, by omega⟩ d_M_uncover_123 (fun z152 l152 u152 => ?_)
                      refine lv_iload X.1 X.2.1 d_M_uncover_124 (lv_at hl 0 rfl) ?_
                      refine lv_bipush (v := iI 9) X.1 X.2.1 d_M_uncover_126 (by decide) ?_
                      refine p_calli (As := [.int (iI z139), .int (iI 9)]) (rest := [.int (iI z152), .int (iI (z112 + z130)), .ref ((q 17))]) (n := 2) X Y hml hl.1 (r_M_product l z139 (by omega) (by omega) 9 (by omega) (by omega)) kl_M_product ks_M_product ki_M_product ini_M hd_M_product ⟨Nat.le_of_ble_eq_true rfl, Nat.le_of_ble_eq_true rfl⟩ rfl (Nat.le_of_ble_eq_true rfl) d_M_uncover_128 ⟨Nat.le_refl _, Nat.le_refl _⟩ (fun r153 H locs p153 Y => ?_)
                      obtain ⟨z153, e153, p153⟩ := p153
                      subst e153
                      obtain ⟨l153, u153⟩ := p153
                      refine z_ixor X.1 X.2.1 ⟨by omega, by omega⟩ ⟨by omega, by omega⟩ d_M_uncover_131 (fun z154 l154 u154 => ?_)
                      exact J142 z154 _ _ _ (by omega) (by omega) Y S (lv_sub hl [4, 5, 6, 7] rfl)
                    · refine lv_iload X.1 X.2.1 d_M_uncover_96 (lv_at hl 3 rfl) ?_
                      refine lv_goto (tgt := 132) X.1 X.2.1 d_M_uncover_98 (by decide) ?_
                      exact J142 z136 _ _ _ (by omega) (by omega) Y S (lv_sub hl [4, 5, 6, 7] rfl)
              refine lv_istore_n (lv' := [(3, .int (iI 0)), (0, .ref h), (1, .int (iI z103)), (2, .int (iI z112))]) X.1 X.2.1 d_M_uncover_23 rfl hl (by decide) rfl (fun ls hl => ?_)
              exact J131 _ 0 I111 J111 B111 G111 _ _ _ rfl (by omega) (by omega) Y S (lv_sub hl [1, 2, 3, 0] rfl)
        refine lv_istore_n (lv' := [(2, .int (iI 0)), (0, .ref h), (1, .int (iI z103))]) X.1 X.2.1 d_M_uncover_15 rfl hl (by decide) rfl (fun ls hl => ?_)
        exact J114 _ 0 I110 J110 B110 G110 _ _ _ rfl (by omega) (by omega) (by omega) Y S (lv_sub hl [1, 2, 0] rfl)
  refine lv_istore_n (lv' := [(1, .int (iI z101)), (0, .ref h)]) X.1 X.2.1 d_M_uncover_4 rfl hl (by decide) rfl (fun ls hl => ?_)
  exact J104 _ z101 I J B G _ _ _ rfl (by omega) (by omega) Y S (lv_sub hl [1, 0] rfl)
set_option maxHeartbeats 4000000 in
set_option maxRecDepth 100000 in
theorem r_M_foldOf_constant (l : Launch) (D : mD) (E : mE) (h : Nat) (q : Nat → Nat) (sz : Nat) (I : Nat → Int32) (J : Nat → Int64) (B : Nat → Nat → Int32) (G : Nat → Nat → Int64) (hT : rT I B) : Met l y_M_foldOf (k_M_foldOf :: lw_tg) (mR 1 60) (va_Pc [.ref h, .ref (q 22), .int (iI 5)] (mPre D E h q (I, J, B, G) sz)) (va_Qv (rPv [] [19, 21] I B (fun (u : mS) => True)) (mPost D E h q (mA E h q sz)) (mA E h q sz)) 0 0 (mA E h q sz) := by
  refine m_enter (by decide) rfl (Nat.le_of_ble_eq_true rfl) (fun p e s m below meth c ls AV QQ H locs hQQ X Y hZ hA hr hlk hml hl => ?_)
  have Y : mH D E (mA E h q sz) s.heap h q I J B G H locs := Y
  have S : rS [] [19, 21] I B I B := rS_rf hT
  have hl : lv_has ls 11 [(0, .ref h), (1, .ref ((q 22))), (2, .int (iI 5))] := hl
  refine lv_iload_n X.1 X.2.1 d_M_foldOf_0 rfl (lv_at hl 2 rfl) ?_
  have J103 : ∀ (n105 : Nat) (z101 : Int) (H : Heap) (locs : List Loc) (ls : Array Slot), (80 - z101).toNat = n105 → (5 ≤ z101) → (z101 ≤ 80) → (z101 % 5 = 0) → mH D E (mA E h q sz) s.heap h q I J B G H locs → rS [] [19, 21] I B I B → lv_has ls 11 [(0, .ref h), (1, .ref ((q 22))), (2, .int (iI 5)), (3, .int (iI z101))] → W p l e (mR 1 60) s m AV below meth c H locs 0 0 QQ (F0 m 2 ls []) := by
    intro n105
    induction n105 using Nat.strongRecOn with
    | ind n105 ih104 =>
      intro z101 H locs ls hm106 l101 u101 i102 Y S hl
      refine lv_iload_n X.1 X.2.1 d_M_foldOf_2 rfl (lv_at hl 3 rfl) ?_
      refine lv_bipush (v := iI 16) X.1 X.2.1 d_M_foldOf_3 (by decide) ?_
      refine z_irem X.1 X.2.1 (by omega) (by omega) ⟨by decide, by decide⟩ d_M_foldOf_5 ?_
      refine z_if_eq (tgt := 16) X.1 X.2.1 d_M_foldOf_6 (by decide) ⟨by omega, by omega⟩ (fun h107 => ?_) (fun h107 => ?_)
      · refine lv_aload_n X.1 X.2.1 d_M_foldOf_16 rfl (lv_at hl 0 rfl) ?_
        refine m_get X Y 21 (by decide) lk_folding (gf_folding _ _ _) rfl d_M_foldOf_17 ?_
        refine lv_astore (lv' := [(4, .ref ((q 21))), (0, .ref h), (1, .ref ((q 22))), (2, .int (iI 5)), (3, .int (iI z101))]) X.1 X.2.1 d_M_foldOf_20 hl (by decide) rfl (fun ls hl => ?_)
        refine lv_iconst (v := iI 0) X.1 X.2.1 d_M_foldOf_22 (by decide) ?_
        have J110 : ∀ (n112 : Nat) (z109 : Int) (I108 : Nat → Int32) (J108 : Nat → Int64) (B108 : Nat → Nat → Int32) (G108 : Nat → Nat → Int64) (H : Heap) (locs : List Loc) (ls : Array Slot), (16 - z109).toNat = n112 → (0 ≤ z109) → (z109 ≤ 16) → mH D E (mA E h q sz) s.heap h q I108 J108 B108 G108 H locs → rS [] [19, 21] I B I108 B108 → lv_has ls 11 [(0, .ref h), (1, .ref ((q 22))), (2, .int (iI 5)), (3, .int (iI z101)), (4, .ref ((q 21))), (5, .int (iI z109))] → W p l e (mR 1 60) s m AV below meth c H locs 0 0 QQ (F0 m 25 ls []) := by
          intro n112
          induction n112 using Nat.strongRecOn with
          | ind n112 ih111 =>
            intro z109 I108 J108 B108 G108 H locs ls hm113 l109 u109 Y S hl
            refine lv_iload X.1 X.2.1 d_M_foldOf_25 (lv_at hl 5 rfl) ?_
            refine lv_bipush (v := iI 16) X.1 X.2.1 d_M_foldOf_27 (by decide) ?_
            refine z_icmp_ge (tgt := 44) X.1 X.2.1 d_M_foldOf_29 (by decide) ⟨by omega, by omega⟩ ⟨by omega, by omega⟩ (fun h114 => ?_) (fun h114 => ?_)
            · refine lv_iconst (v := iI 0) X.1 X.2.1 d_M_foldOf_44 (by decide) ?_
              have J117 : ∀ (n119 : Nat) (z116 : Int) (I115 : Nat → Int32) (J115 : Nat → Int64) (B115 : Nat → Nat → Int32) (G115 : Nat → Nat → Int64) (H : Heap) (locs : List Loc) (ls : Array Slot), (80 - z116).toNat = n119 → (0 ≤ z116) → (z116 ≤ 80) → mH D E (mA E h q sz) s.heap h q I115 J115 B115 G115 H locs → rS [] [19, 21] I B I115 B115 → lv_has ls 11 [(0, .ref h), (1, .ref ((q 22))), (2, .int (iI 5)), (3, .int (iI z101)), (4, .ref ((q 21))), (5, .int (iI z116))] → W p l e (mR 1 60) s m AV below meth c H locs 0 0 QQ (F0 m 47 ls []) := by
                intro n119
                induction n119 using Nat.strongRecOn with
                | ind n119 ih118 =>
                  intro z116 I115 J115 B115 G115 H locs ls hm120 l116 u116 Y S hl
                  refine lv_iload X.1 X.2.1 d_M_foldOf_47 (lv_at hl 5 rfl) ?_
                  refine lv_iload_n X.1 X.2.1 d_M_foldOf_49 rfl (lv_at hl 3 rfl) ?_
                  refine z_icmp_ge (tgt := 159) X.1 X.2.1 d_M_foldOf_50 (by decide) ⟨by omega, by omega⟩ ⟨by omega, by omega⟩ (fun h121 => ?_) (fun h121 => ?_)
                  · refine lv_iconst (v := iI 0) X.1 X.2.1 d_M_foldOf_159 (by decide) ?_
                    have J124 : ∀ (n126 : Nat) (z123 : Int) (I122 : Nat → Int32) (J122 : Nat → Int64) (B122 : Nat → Nat → Int32) (G122 : Nat → Nat → Int64) (H : Heap) (locs : List Loc) (ls : Array Slot), (40 - z123).toNat = n126 → (0 ≤ z123) → (z123 ≤ 40) → mH D E (mA E h q sz) s.heap h q I122 J122 B122 G122 H locs → rS [] [19, 21] I B I122 B122 → lv_has ls 11 [(0, .ref h), (4, .ref ((q 21))), (5, .int (iI z123))] → W p l e (mR 1 60) s m AV below meth c H locs 0 0 QQ (F0 m 162 ls []) := by
                      intro n126
                      induction n126 using Nat.strongRecOn with
                      | ind n126 ih125 =>
                        intro z123 I122 J122 B122 G122 H locs ls hm127 l123 u123 Y S hl
                        refine lv_iload X.1 X.2.1 d_M_foldOf_162 (lv_at hl 2 rfl) ?_
                        refine lv_bipush (v := iI 40) X.1 X.2.1 d_M_foldOf_164 (by decide) ?_
                        refine z_icmp_ge (tgt := 231) X.1 X.2.1 d_M_foldOf_166 (by decide) ⟨by omega, by omega⟩ ⟨by omega, by omega⟩ (fun h128 => ?_) (fun h128 => ?_)
                        · refine lv_iconst (v := iI 0) X.1 X.2.1 d_M_foldOf_231 (by decide) ?_
                          have J131 : ∀ (n133 : Nat) (z130 : Int) (I129 : Nat → Int32) (J129 : Nat → Int64) (B129 : Nat → Nat → Int32) (G129 : Nat → Nat → Int64) (H : Heap) (locs : List Loc) (ls : Array Slot), (16 - z130).toNat = n133 → (0 ≤ z130) → (z130 ≤ 16) → mH D E (mA E h q sz) s.heap h q I129 J129 B129 G129 H locs → rS [] [19, 21] I B I129 B129 → lv_has ls 11 [(0, .ref h), (4, .ref ((q 21))), (5, .int (iI z130))] → W p l e (mR 1 60) s m AV below meth c H locs 0 0 QQ (F0 m 234 ls []) := by
                            intro n133
                            induction n133 using Nat.strongRecOn with
                            | ind n133 ih132 =>
                              intro z130 I129 J129 B129 G129 H locs ls hm134 l130 u130 Y S hl
                              refine lv_iload X.1 X.2.1 d_M_foldOf_234 (lv_at hl 2 rfl) ?_
                              refine lv_bipush (v := iI 16) X.1 X.2.1 d_M_foldOf_236 (by decide) ?_
                              refine z_icmp_ge (tgt := 260) X.1 X.2.1 d_M_foldOf_238 (by decide) ⟨by omega, by omega⟩ ⟨by omega, by omega⟩ (fun h135 => ?_) (fun h135 => ?_)
                              · exact m_retv hQQ X Y hr hlk ⟨S, trivial⟩ d_M_foldOf_260
                              · refine lv_aload_n X.1 X.2.1 d_M_foldOf_241 rfl (lv_at hl 0 rfl) ?_
                                refine m_get X Y 19 (by decide) lk_fold (gf_fold _ _ _) rfl d_M_foldOf_242 ?_
                                refine lv_iload X.1 X.2.1 d_M_foldOf_245 (lv_at hl 2 rfl) ?_
                                refine lv_aload X.1 X.2.1 d_M_foldOf_247 (lv_at hl 1 rfl) ?_
                                refine lv_iload X.1 X.2.1 d_M_foldOf_249 (lv_at hl 2 rfl) ?_
                                refine r_iald X Y S (aw_folding _ _ _ _ _ _ _) rfl (by omega) (show z130 < ((16 : Nat) : Int) by omega) (by omega) d_M_foldOf_251 (fun z136 q136 l136 u136 => ?_)
                                refine lv_i2b X.1 X.2.1 d_M_foldOf_252 rfl ?_
                                refine t_u (fun z137 l137 u137 => ?_)
                                refine r_bast X Y S (aw_fold _ _ _ _ _ _ _) (sw_fold _ _ _ _ _ _ _) rfl (by omega) (show z130 < ((16 : Nat) : Int) by omega) (by omega) (by decide) d_M_foldOf_253 (fun B138 H locs Y S w138 => ?_)
                                refine lv_iinc (v := iI (z130 + 1)) (lv' := [(5, .int (iI (z130 + 1))), (0, .ref h), (4, .ref ((q 21)))]) X.1 X.2.1 d_M_foldOf_254 hl (k := 2) rfl ((iI_add _ _).trans (congrArg iI (by omega))) (by decide) rfl (fun ls hl => ?_)
                                refine lv_goto (tgt := 234) X.1 X.2.1 d_M_foldOf_257 (by decide) ?_
                                exact ih132 ((16 - (z130 + 1)).toNat) (by omega) (z130 + 1) I129 J129 B138 G129 _ _ _ rfl (by omega) (by omega) Y S (lv_sub hl [1, 2, 0] rfl)
                          refine lv_istore (lv' := [(5, .int (iI 0)), (0, .ref h), (4, .ref ((q 21)))]) X.1 X.2.1 d_M_foldOf_232 hl (by decide) rfl (fun ls hl => ?_)
                          exact J131 _ 0 I122 J122 B122 G122 _ _ _ rfl (by omega) (by omega) Y S (lv_sub hl [1, 2, 0] rfl)
                        · refine lv_iconst (v := iI 0) X.1 X.2.1 d_M_foldOf_169 (by decide) ?_
                          refine lv_istore (lv' := [(6, .int (iI 0)), (0, .ref h), (4, .ref ((q 21))), (5, .int (iI z123))]) X.1 X.2.1 d_M_foldOf_170 hl (by decide) rfl (fun ls hl => ?_)
                          refine lv_bipush (v := iI 15) X.1 X.2.1 d_M_foldOf_172 (by decide) ?_
                          have J142 : ∀ (n144 : Nat) (z140 : Int) (z141 : Int) (I139 : Nat → Int32) (J139 : Nat → Int64) (B139 : Nat → Nat → Int32) (G139 : Nat → Nat → Int64) (H : Heap) (locs : List Loc) (ls : Array Slot), (z141 - (-1)).toNat = n144 → ((-2147483648) ≤ z140) → (z140 ≤ 2147483647) → ((-1) ≤ z141) → (z141 ≤ 15) → mH D E (mA E h q sz) s.heap h q I139 J139 B139 G139 H locs → rS [] [19, 21] I B I139 B139 → lv_has ls 11 [(0, .ref h), (4, .ref ((q 21))), (5, .int (iI z123)), (6, .int (iI z140)), (7, .int (iI z141))] → W p l e (mR 1 60) s m AV below meth c H locs 0 0 QQ (F0 m 176 ls []) := by
                            intro n144
                            induction n144 using Nat.strongRecOn with
                            | ind n144 ih143 =>
                              intro z140 z141 I139 J139 B139 G139 H locs ls hm145 l140 u140 l141 u141 Y S hl
                              refine lv_iload X.1 X.2.1 d_M_foldOf_176 (lv_at hl 4 rfl) ?_
                              refine z_if_lt (tgt := 215) X.1 X.2.1 d_M_foldOf_178 (by decide) ⟨by omega, by omega⟩ (fun h146 => ?_) (fun h146 => ?_)
                              · refine lv_aload X.1 X.2.1 d_M_foldOf_215 (lv_at hl 1 rfl) ?_
                                refine lv_bipush (v := iI 15) X.1 X.2.1 d_M_foldOf_217 (by decide) ?_
                                refine lv_dup2_11 X.1 X.2.1 d_M_foldOf_219 rfl rfl ?_
                                refine r_iald X Y S (aw_folding _ _ _ _ _ _ _) rfl (by omega) (show 15 < ((16 : Nat) : Int) by omega) (by omega) d_M_foldOf_220 (fun z147 q147 l147 u147 => ?_)
                                refine lv_iload X.1 X.2.1 d_M_foldOf_221 (lv_at hl 3 rfl) ?_
                                refine lv_iadd X.1 X.2.1 d_M_foldOf_223 ?_
                                refine t_u (fun z148 l148 u148 => ?_)
                                refine r_iast X Y S (aw_folding _ _ _ _ _ _ _) (sw_folding _ _ _ _ _ _ _) rfl ⟨(show ((-2147483648) : Int) ≤ z148 by omega), (show z148 ≤ (2147483647 : Int) by omega)⟩ ⟨by omega, by omega⟩ (by omega) (show 15 < ((16 : Nat) : Int) by omega) (by omega) (by decide) d_M_foldOf_224 (fun B149 H locs Y S w149 => ?_)
                                refine lv_iinc (v := iI (z123 + 1)) (lv' := [(5, .int (iI (z123 + 1))), (0, .ref h), (4, .ref ((q 21))), (6, .int (iI z140)), (7, .int (iI z141))]) X.1 X.2.1 d_M_foldOf_225 hl (k := 2) rfl ((iI_add _ _).trans (congrArg iI (by omega))) (by decide) rfl (fun ls hl => ?_)
                                refine lv_goto (tgt := 162) X.1 X.2.1 d_M_foldOf_228 (by decide) ?_
                                exact ih125 ((40 - (z123 + 1)).toNat) (by omega) (z123 + 1) I139 J139 B149 G139 _ _ _ rfl (by omega) (by omega) Y S (lv_sub hl [1, 2, 0] rfl)
                              · refine lv_aload X.1 X.2.1 d_M_foldOf_181 (lv_at hl 1 rfl) ?_
                                refine lv_iload X.1 X.2.1 d_M_foldOf_183 (lv_at hl 4 rfl) ?_
                                refine r_iald X Y S (aw_folding _ _ _ _ _ _ _) rfl (by omega) (show z141 < ((16 : Nat) : Int) by omega) (by omega) d_M_foldOf_185 (fun z150 q150 l150 u150 => ?_)
                                refine lv_iload X.1 X.2.1 d_M_foldOf_186 (lv_at hl 3 rfl) ?_
                                refine lv_iadd X.1 X.2.1 d_M_foldOf_188 ?_
                                refine t_u (fun z151 l151 u151 => ?_)
                                refine lv_istore (lv' := [(8, .int (iI z151)), (0, .ref h), (4, .ref ((q 21))), (5, .int (iI z123)), (6, .int (iI z140)), (7, .int (iI z141))]) X.1 X.2.1 d_M_foldOf_189 hl (by decide) rfl (fun ls hl => ?_)
                                refine lv_aload X.1 X.2.1 d_M_foldOf_191 (lv_at hl 2 rfl) ?_
                                refine lv_iload X.1 X.2.1 d_M_foldOf_193 (lv_at hl 5 rfl) ?_
                                refine lv_iload X.1 X.2.1 d_M_foldOf_195 (lv_at hl 0 rfl) ?_
                                refine lv_sipush (v := iI 255) X.1 X.2.1 d_M_foldOf_197 (by decide) ?_
                                refine z_iand X.1 X.2.1 (by omega) (by omega) d_M_foldOf_200 (fun z152 l152 u152 => ?_)
                                refine r_iast X Y S (aw_folding _ _ _ _ _ _ _) (sw_folding _ _ _ _ _ _ _) rfl ⟨(show ((-2147483648) : Int) ≤ z152 by omega), (show z152 ≤ (2147483647 : Int) by omega)⟩ ⟨by omega, by omega⟩ (by omega) (show z141 < ((16 : Nat) : Int) by omega) (by omega) (by decide) d_M_foldOf_201 (fun B153 H locs Y S w153 => ?_)
                                refine lv_iload X.1 X.2.1 d_M_foldOf_202 (lv_at hl 0 rfl) ?_
                                refine lv_bipush (v := iI 8) X.1 X.2.1 d_M_foldOf_204 (by decide) ?_
                                refine lv_ishr X.1 X.2.1 d_M_foldOf_206 ?_
                                refine t_u (fun z154 l154 u154 => ?_)
                                refine lv_istore (lv' := [(6, .int (iI z154)), (8, .int (iI z151)), (0, .ref h), (4, .ref ((q 21))), (5, .int (iI z123)), (7, .int (iI z141))]) X.1 X.2.1 d_M_foldOf_207 hl (by decide) rfl (fun ls hl => ?_)
                                refine lv_iinc (v := iI (z141 - 1)) (lv' := [(7, .int (iI (z141 - 1))), (6, .int (iI z154)), (8, .int (iI z151)), (0, .ref h), (4, .ref ((q 21))), (5, .int (iI z123))]) X.1 X.2.1 d_M_foldOf_209 hl (k := 5) rfl ((iI_add _ _).trans (congrArg iI (by omega))) (by decide) rfl (fun ls hl => ?_)
                                refine lv_goto (tgt := 176) X.1 X.2.1 d_M_foldOf_212 (by decide) ?_
                                exact ih143 (((z141 - 1) - (-1)).toNat) (by omega) z154 (z141 - 1) I139 J139 B153 G139 _ _ _ rfl (by omega) (by omega) (by omega) (by omega) Y S (lv_sub hl [3, 4, 5, 1, 0] rfl)
                          refine lv_istore (lv' := [(7, .int (iI 15)), (6, .int (iI 0)), (0, .ref h), (4, .ref ((q 21))), (5, .int (iI z123))]) X.1 X.2.1 d_M_foldOf_174 hl (by decide) rfl (fun ls hl => ?_)
                          exact J142 _ 0 15 I122 J122 B122 G122 _ _ _ rfl (by omega) (by omega) (by omega) (by omega) Y S (lv_sub hl [2, 3, 4, 1, 0] rfl)
                    refine lv_istore (lv' := [(5, .int (iI 0)), (0, .ref h), (1, .ref ((q 22))), (2, .int (iI 5)), (3, .int (iI z101)), (4, .ref ((q 21)))]) X.1 X.2.1 d_M_foldOf_160 hl (by decide) rfl (fun ls hl => ?_)
                    exact J124 _ 0 I115 J115 B115 G115 _ _ _ rfl (by omega) (by omega) Y S (lv_sub hl [1, 5, 0] rfl)
                  · refine lv_iload X.1 X.2.1 d_M_foldOf_53 (lv_at hl 5 rfl) ?_
                    refine lv_iload_n X.1 X.2.1 d_M_foldOf_55 rfl (lv_at hl 2 rfl) ?_
                    refine z_idiv X.1 X.2.1 (by omega) (by omega) ⟨by decide, by decide⟩ d_M_foldOf_56 ?_
                    refine lv_istore (lv' := [(6, .int (iI (z116 / 5))), (0, .ref h), (1, .ref ((q 22))), (2, .int (iI 5)), (3, .int (iI z101)), (4, .ref ((q 21))), (5, .int (iI z116))]) X.1 X.2.1 d_M_foldOf_57 hl (by decide) rfl (fun ls hl => ?_)
                    refine lv_bipush (v := iI 13) X.1 X.2.1 d_M_foldOf_59 (by decide) ?_
                    refine lv_iload X.1 X.2.1 d_M_foldOf_61 (lv_at hl 0 rfl) ?_
                    refine z_imul X.1 X.2.1 d_M_foldOf_63 ?_
                    refine lv_bipush (v := iI 8) X.1 X.2.1 d_M_foldOf_64 (by decide) ?_
                    refine lv_iload_n X.1 X.2.1 d_M_foldOf_66 rfl (lv_at hl 3 rfl) ?_
                    refine z_imul X.1 X.2.1 d_M_foldOf_67 ?_
                    refine t_eq (y := iI 40) (by decide) ?_
                    refine z_irem X.1 X.2.1 (by omega) (by omega) ⟨by decide, by decide⟩ d_M_foldOf_68 ?_
                    refine lv_istore (lv' := [(7, .int (iI ((13 * (z116 / 5)) % 40))), (6, .int (iI (z116 / 5))), (0, .ref h), (1, .ref ((q 22))), (2, .int (iI 5)), (3, .int (iI z101)), (4, .ref ((q 21))), (5, .int (iI z116))]) X.1 X.2.1 d_M_foldOf_69 hl (by decide) rfl (fun ls hl => ?_)
                    refine lv_iconst (v := iI 0) X.1 X.2.1 d_M_foldOf_71 (by decide) ?_
                    refine lv_istore (lv' := [(8, .int (iI 0)), (7, .int (iI ((13 * (z116 / 5)) % 40))), (6, .int (iI (z116 / 5))), (0, .ref h), (1, .ref ((q 22))), (2, .int (iI 5)), (3, .int (iI z101)), (4, .ref ((q 21))), (5, .int (iI z116))]) X.1 X.2.1 d_M_foldOf_72 hl (by decide) rfl (fun ls hl => ?_)
                    refine lv_iconst (v := iI 0) X.1 X.2.1 d_M_foldOf_74 (by decide) ?_
                    have J157 : ∀ (n159 : Nat) (z155 : Int) (z156 : Int) (H : Heap) (locs : List Loc) (ls : Array Slot), (8 - z156).toNat = n159 → ((-2147483648) ≤ z155) → (z155 ≤ 2147483647) → (0 ≤ z156) → (z156 ≤ 8) → mH D E (mA E h q sz) s.heap h q I115 J115 B115 G115 H locs → rS [] [19, 21] I B I115 B115 → lv_has ls 11 [(0, .ref h), (1, .ref ((q 22))), (2, .int (iI 5)), (3, .int (iI z101)), (4, .ref ((q 21))), (5, .int (iI z116)), (7, .int (iI ((13 * (z116 / 5)) % 40))), (8, .int (iI z155)), (9, .int (iI z156))] → W p l e (mR 1 60) s m AV below meth c H locs 0 0 QQ (F0 m 77 ls []) := by
                      intro n159
                      induction n159 using Nat.strongRecOn with
                      | ind n159 ih158 =>
                        intro z155 z156 H locs ls hm160 l155 u155 l156 u156 Y S hl
                        refine lv_iload X.1 X.2.1 d_M_foldOf_77 (lv_at hl 8 rfl) ?_
                        refine lv_bipush (v := iI 8) X.1 X.2.1 d_M_foldOf_79 (by decide) ?_
                        refine z_icmp_ge (tgt := 140) X.1 X.2.1 d_M_foldOf_81 (by decide) ⟨by omega, by omega⟩ ⟨by omega, by omega⟩ (fun h161 => ?_) (fun h161 => ?_)
                        · refine lv_aload X.1 X.2.1 d_M_foldOf_140 (lv_at hl 4 rfl) ?_
                          refine lv_iload X.1 X.2.1 d_M_foldOf_142 (lv_at hl 5 rfl) ?_
                          refine lv_bipush (v := iI 16) X.1 X.2.1 d_M_foldOf_144 (by decide) ?_
                          refine z_irem X.1 X.2.1 (by omega) (by omega) ⟨by decide, by decide⟩ d_M_foldOf_146 ?_
                          refine lv_dup2_11 X.1 X.2.1 d_M_foldOf_147 rfl rfl ?_
                          refine r_iald X Y S (aw_folding _ _ _ _ _ _ _) rfl (by omega) (show z116 % 16 < ((16 : Nat) : Int) by omega) (by omega) d_M_foldOf_148 (fun z162 q162 l162 u162 => ?_)
                          refine lv_iload X.1 X.2.1 d_M_foldOf_149 (lv_at hl 7 rfl) ?_
                          refine lv_iadd X.1 X.2.1 d_M_foldOf_151 ?_
                          refine t_u (fun z163 l163 u163 => ?_)
                          refine r_iast X Y S (aw_folding _ _ _ _ _ _ _) (sw_folding _ _ _ _ _ _ _) rfl ⟨(show ((-2147483648) : Int) ≤ z163 by omega), (show z163 ≤ (2147483647 : Int) by omega)⟩ ⟨by omega, by omega⟩ (by omega) (show z116 % 16 < ((16 : Nat) : Int) by omega) (by omega) (by decide) d_M_foldOf_152 (fun B164 H locs Y S w164 => ?_)
                          refine lv_iinc (v := iI (z116 + 1)) (lv' := [(5, .int (iI (z116 + 1))), (0, .ref h), (1, .ref ((q 22))), (2, .int (iI 5)), (3, .int (iI z101)), (4, .ref ((q 21))), (7, .int (iI ((13 * (z116 / 5)) % 40))), (8, .int (iI z155)), (9, .int (iI z156))]) X.1 X.2.1 d_M_foldOf_153 hl (k := 5) rfl ((iI_add _ _).trans (congrArg iI (by omega))) (by decide) rfl (fun ls hl => ?_)
                          refine lv_goto (tgt := 47) X.1 X.2.1 d_M_foldOf_156 (by decide) ?_
                          exact ih118 ((80 - (z116 + 1)).toNat) (by omega) (z116 + 1) I115 J115 B164 G115 _ _ _ rfl (by omega) (by omega) Y S (lv_sub hl [1, 2, 3, 4, 5, 0] rfl)
                        · refine lv_bipush (v := iI 8) X.1 X.2.1 d_M_foldOf_84 (by decide) ?_
                          refine lv_iload X.1 X.2.1 d_M_foldOf_86 (lv_at hl 5 rfl) ?_
                          refine lv_iload_n X.1 X.2.1 d_M_foldOf_88 rfl (lv_at hl 2 rfl) ?_
                          refine z_irem X.1 X.2.1 (by omega) (by omega) ⟨by decide, by decide⟩ d_M_foldOf_89 ?_
                          refine z_imul X.1 X.2.1 d_M_foldOf_90 ?_
                          refine lv_iload X.1 X.2.1 d_M_foldOf_91 (lv_at hl 8 rfl) ?_
                          refine z_iadd X.1 X.2.1 d_M_foldOf_93 ?_
                          refine lv_iload X.1 X.2.1 d_M_foldOf_94 (lv_at hl 6 rfl) ?_
                          refine z_isub X.1 X.2.1 d_M_foldOf_96 ?_
                          refine lv_bipush (v := iI 8) X.1 X.2.1 d_M_foldOf_97 (by decide) ?_
                          refine lv_iload_n X.1 X.2.1 d_M_foldOf_99 rfl (lv_at hl 2 rfl) ?_
                          refine z_imul X.1 X.2.1 d_M_foldOf_100 ?_
                          refine t_eq (y := iI 40) (by decide) ?_
                          refine z_iadd X.1 X.2.1 d_M_foldOf_101 ?_
                          refine lv_bipush (v := iI 8) X.1 X.2.1 d_M_foldOf_102 (by decide) ?_
                          refine lv_iload_n X.1 X.2.1 d_M_foldOf_104 rfl (lv_at hl 2 rfl) ?_
                          refine z_imul X.1 X.2.1 d_M_foldOf_105 ?_
                          refine t_eq (y := iI 40) (by decide) ?_
                          refine z_irem X.1 X.2.1 (by omega) (by omega) ⟨by decide, by decide⟩ d_M_foldOf_106 ?_
                          refine lv_istore (lv' := [(10, .int (iI (((((8 * (z116 % 5)) + z156) - ((13 * (z116 / 5)) % 40)) + 40) % 40))), (0, .ref h), (1, .ref ((q 22))), (2, .int (iI 5)), (3, .int (iI z101)), (4, .ref ((q 21))), (5, .int (iI z116)), (7, .int (iI ((13 * (z116 / 5)) % 40))), (8, .int (iI z155)), (9, .int (iI z156))]) X.1 X.2.1 d_M_foldOf_107 hl (by decide) rfl (fun ls hl => ?_)
                          refine lv_iload X.1 X.2.1 d_M_foldOf_109 (lv_at hl 8 rfl) ?_
                          refine lv_iconst (v := iI 1) X.1 X.2.1 d_M_foldOf_111 (by decide) ?_
                          refine lv_ishl X.1 X.2.1 d_M_foldOf_112 ?_
                          refine t_u (fun z165 l165 u165 => ?_)
                          refine lv_aload_n X.1 X.2.1 d_M_foldOf_113 rfl (lv_at hl 2 rfl) ?_
                          refine lv_iload X.1 X.2.1 d_M_foldOf_114 (lv_at hl 0 rfl) ?_
                          refine lv_bipush (v := iI 8) X.1 X.2.1 d_M_foldOf_116 (by decide) ?_
                          refine z_idiv X.1 X.2.1 (by omega) (by omega) ⟨by decide, by decide⟩ d_M_foldOf_118 ?_
                          refine r_bald X Y S (aw_constant _ _ _ _ _ _ _) rfl (by omega) (show (((((8 * (z116 % 5)) + z156) - ((13 * (z116 / 5)) % 40)) + 40) % 40) / 8 < ((5 : Nat) : Int) by omega) (by omega) d_M_foldOf_119 (fun z166 q166 l166 u166 => ?_)
                          refine lv_bipush (v := iI 7) X.1 X.2.1 d_M_foldOf_120 (by decide) ?_
                          refine lv_iload X.1 X.2.1 d_M_foldOf_122 (lv_at hl 0 rfl) ?_
                          refine lv_bipush (v := iI 8) X.1 X.2.1 d_M_foldOf_124 (by decide) ?_
                          refine z_irem X.1 X.2.1 (by omega) (by omega) ⟨by decide, by decide⟩ d_M_foldOf_126 ?_
                          refine z_isub X.1 X.2.1 d_M_foldOf_127 ?_
                          refine lv_ishr X.1 X.2.1 d_M_foldOf_128 ?_
                          refine t_u (fun z167 l167 u167 => ?_)
                          refine lv_iconst (v := iI 1) X.1 X.2.1 d_M_foldOf_129 (by decide) ?_
                          refine z_iand X.1 X.2.1 (by omega) (by omega) d_M_foldOf_130 (fun z168 l168 u168 => ?_)
                          refine lv_ior X.1 X.2.1 d_M_foldOf_131 ?_
                          refine t_u (fun z169 l169 u169 => ?_)
                          refine lv_istore (lv' := [(8, .int (iI z169)), (10, .int (iI (((((8 * (z116 % 5)) + z156) - ((13 * (z116 / 5)) % 40)) + 40) % 40))), (0, .ref h), (1, .ref ((q 22))), (2, .int (iI 5)), (3, .int (iI z101)), (4, .ref ((q 21))), (5, .int (iI z116)), (7, .int (iI ((13 * (z116 / 5)) % 40))), (9, .int (iI z156))]) X.1 X.2.1 d_M_foldOf_132 hl (by decide) rfl (fun ls hl => ?_)
                          refine lv_iinc (v := iI (z156 + 1)) (lv' := [(9, .int (iI (z156 + 1))), (8, .int (iI z169)), (10, .int (iI (((((8 * (z116 % 5)) + z156) - ((13 * (z116 / 5)) % 40)) + 40) % 40))), (0, .ref h), (1, .ref ((q 22))), (2, .int (iI 5)), (3, .int (iI z101)), (4, .ref ((q 21))), (5, .int (iI z116)), (7, .int (iI ((13 * (z116 / 5)) % 40)))]) X.1 X.2.1 d_M_foldOf_134 hl (k := 9) rfl ((iI_add _ _).trans (congrArg iI (by omega))) (by decide) rfl (fun ls hl => ?_)
                          refine lv_goto (tgt := 77) X.1 X.2.1 d_M_foldOf_137 (by decide) ?_
                          exact ih158 ((8 - (z156 + 1)).toNat) (by omega) z169 (z156 + 1) _ _ _ rfl (by omega) (by omega) (by omega) (by omega) Y S (lv_sub hl [3, 4, 5, 6, 7, 8, 9, 1, 0] rfl)
                    refine lv_istore (lv' := [(9, .int (iI 0)), (8, .int (iI 0)), (7, .int (iI ((13 * (z116 / 5)) % 40))), (6, .int (iI (z116 / 5))), (0, .ref h), (1, .ref ((q 22))), (2, .int (iI 5)), (3, .int (iI z101)), (4, .ref ((q 21))), (5, .int (iI z116))]) X.1 X.2.1 d_M_foldOf_75 hl (by decide) rfl (fun ls hl => ?_)
                    exact J157 _ 0 0 _ _ _ rfl (by omega) (by omega) (by omega) (by omega) Y S (lv_sub hl [4, 5, 6, 7, 8, 9, 2, 1, 0] rfl)
              refine lv_istore (lv' := [(5, .int (iI 0)), (0, .ref h), (1, .ref ((q 22))), (2, .int (iI 5)), (3, .int (iI z101)), (4, .ref ((q 21)))]) X.1 X.2.1 d_M_foldOf_45 hl (by decide) rfl (fun ls hl => ?_)
              exact J117 _ 0 I108 J108 B108 G108 _ _ _ rfl (by omega) (by omega) Y S (lv_sub hl [1, 2, 3, 4, 5, 0] rfl)
            · refine lv_aload X.1 X.2.1 d_M_foldOf_32 (lv_at hl 4 rfl) ?_
              refine lv_iload X.1 X.2.1 d_M_foldOf_34 (lv_at hl 5 rfl) ?_
              refine lv_iconst (v := iI 0) X.1 X.2.1 d_M_foldOf_36 (by decide) ?_
              refine r_iast X Y S (aw_folding _ _ _ _ _ _ _) (sw_folding _ _ _ _ _ _ _) rfl ⟨(show ((-2147483648) : Int) ≤ 0 by omega), (show 0 ≤ (2147483647 : Int) by omega)⟩ ⟨by omega, by omega⟩ (by omega) (show z109 < ((16 : Nat) : Int) by omega) (by omega) (by decide) d_M_foldOf_37 (fun B170 H locs Y S w170 => ?_)
              refine lv_iinc (v := iI (z109 + 1)) (lv' := [(5, .int (iI (z109 + 1))), (0, .ref h), (1, .ref ((q 22))), (2, .int (iI 5)), (3, .int (iI z101)), (4, .ref ((q 21)))]) X.1 X.2.1 d_M_foldOf_38 hl (k := 5) rfl ((iI_add _ _).trans (congrArg iI (by omega))) (by decide) rfl (fun ls hl => ?_)
              refine lv_goto (tgt := 25) X.1 X.2.1 d_M_foldOf_41 (by decide) ?_
              exact ih111 ((16 - (z109 + 1)).toNat) (by omega) (z109 + 1) I108 J108 B170 G108 _ _ _ rfl (by omega) (by omega) Y S (lv_sub hl [1, 2, 3, 4, 5, 0] rfl)
        refine lv_istore (lv' := [(5, .int (iI 0)), (4, .ref ((q 21))), (0, .ref h), (1, .ref ((q 22))), (2, .int (iI 5)), (3, .int (iI z101))]) X.1 X.2.1 d_M_foldOf_23 hl (by decide) rfl (fun ls hl => ?_)
        exact J110 _ 0 I J B G _ _ _ rfl (by omega) (by omega) Y S (lv_sub hl [2, 3, 4, 5, 1, 0] rfl)
      · refine lv_iload_n X.1 X.2.1 d_M_foldOf_9 rfl (lv_at hl 3 rfl) ?_
        refine lv_iload_n X.1 X.2.1 d_M_foldOf_10 rfl (lv_at hl 2 rfl) ?_
        refine z_iadd X.1 X.2.1 d_M_foldOf_11 ?_
        refine lv_istore_n (lv' := [(3, .int (iI (z101 + 5))), (0, .ref h), (1, .ref ((q 22))), (2, .int (iI 5))]) X.1 X.2.1 d_M_foldOf_12 rfl hl (by decide) rfl (fun ls hl => ?_)
        refine lv_goto (tgt := 2) X.1 X.2.1 d_M_foldOf_13 (by decide) ?_
        exact ih104 ((80 - (z101 + 5)).toNat) (by omega) (z101 + 5) _ _ _ rfl (by omega) (by omega) (by omega) Y S (lv_sub hl [1, 2, 3, 0] rfl)
  refine lv_istore_n (lv' := [(3, .int (iI 5)), (0, .ref h), (1, .ref ((q 22))), (2, .int (iI 5))]) X.1 X.2.1 d_M_foldOf_1 rfl hl (by decide) rfl (fun ls hl => ?_)
  exact J103 _ 5 _ _ _ rfl (by omega) (by omega) (by omega) Y S (lv_sub hl [1, 2, 3, 0] rfl)
set_option maxHeartbeats 4000000 in
set_option maxRecDepth 100000 in
theorem r_M_foldOf_kerberos (l : Launch) (D : mD) (E : mE) (h : Nat) (q : Nat → Nat) (sz : Nat) (I : Nat → Int32) (J : Nat → Int64) (B : Nat → Nat → Int32) (G : Nat → Nat → Int64) (hT : rT I B) : Met l y_M_foldOf (k_M_foldOf :: lw_tg) (mR 1 60) (va_Pc [.ref h, .ref (q 28), .int (iI 8)] (mPre D E h q (I, J, B, G) sz)) (va_Qv (rPv [] [19, 21] I B (fun (u : mS) => True)) (mPost D E h q (mA E h q sz)) (mA E h q sz)) 0 0 (mA E h q sz) := by
  refine m_enter (by decide) rfl (Nat.le_of_ble_eq_true rfl) (fun p e s m below meth c ls AV QQ H locs hQQ X Y hZ hA hr hlk hml hl => ?_)
  have Y : mH D E (mA E h q sz) s.heap h q I J B G H locs := Y
  have S : rS [] [19, 21] I B I B := rS_rf hT
  have hl : lv_has ls 11 [(0, .ref h), (1, .ref ((q 28))), (2, .int (iI 8))] := hl
  refine lv_iload_n X.1 X.2.1 d_M_foldOf_0 rfl (lv_at hl 2 rfl) ?_
  have J103 : ∀ (n105 : Nat) (z101 : Int) (H : Heap) (locs : List Loc) (ls : Array Slot), (16 - z101).toNat = n105 → (8 ≤ z101) → (z101 ≤ 16) → (z101 % 8 = 0) → mH D E (mA E h q sz) s.heap h q I J B G H locs → rS [] [19, 21] I B I B → lv_has ls 11 [(0, .ref h), (1, .ref ((q 28))), (2, .int (iI 8)), (3, .int (iI z101))] → W p l e (mR 1 60) s m AV below meth c H locs 0 0 QQ (F0 m 2 ls []) := by
    intro n105
    induction n105 using Nat.strongRecOn with
    | ind n105 ih104 =>
      intro z101 H locs ls hm106 l101 u101 i102 Y S hl
      refine lv_iload_n X.1 X.2.1 d_M_foldOf_2 rfl (lv_at hl 3 rfl) ?_
      refine lv_bipush (v := iI 16) X.1 X.2.1 d_M_foldOf_3 (by decide) ?_
      refine z_irem X.1 X.2.1 (by omega) (by omega) ⟨by decide, by decide⟩ d_M_foldOf_5 ?_
      refine z_if_eq (tgt := 16) X.1 X.2.1 d_M_foldOf_6 (by decide) ⟨by omega, by omega⟩ (fun h107 => ?_) (fun h107 => ?_)
      · refine lv_aload_n X.1 X.2.1 d_M_foldOf_16 rfl (lv_at hl 0 rfl) ?_
        refine m_get X Y 21 (by decide) lk_folding (gf_folding _ _ _) rfl d_M_foldOf_17 ?_
        refine lv_astore (lv' := [(4, .ref ((q 21))), (0, .ref h), (1, .ref ((q 28))), (2, .int (iI 8)), (3, .int (iI z101))]) X.1 X.2.1 d_M_foldOf_20 hl (by decide) rfl (fun ls hl => ?_)
        refine lv_iconst (v := iI 0) X.1 X.2.1 d_M_foldOf_22 (by decide) ?_
        have J110 : ∀ (n112 : Nat) (z109 : Int) (I108 : Nat → Int32) (J108 : Nat → Int64) (B108 : Nat → Nat → Int32) (G108 : Nat → Nat → Int64) (H : Heap) (locs : List Loc) (ls : Array Slot), (16 - z109).toNat = n112 → (0 ≤ z109) → (z109 ≤ 16) → mH D E (mA E h q sz) s.heap h q I108 J108 B108 G108 H locs → rS [] [19, 21] I B I108 B108 → lv_has ls 11 [(0, .ref h), (1, .ref ((q 28))), (2, .int (iI 8)), (3, .int (iI z101)), (4, .ref ((q 21))), (5, .int (iI z109))] → W p l e (mR 1 60) s m AV below meth c H locs 0 0 QQ (F0 m 25 ls []) := by
          intro n112
          induction n112 using Nat.strongRecOn with
          | ind n112 ih111 =>
            intro z109 I108 J108 B108 G108 H locs ls hm113 l109 u109 Y S hl
            refine lv_iload X.1 X.2.1 d_M_foldOf_25 (lv_at hl 5 rfl) ?_
            refine lv_bipush (v := iI 16) X.1 X.2.1 d_M_foldOf_27 (by decide) ?_
            refine z_icmp_ge (tgt := 44) X.1 X.2.1 d_M_foldOf_29 (by decide) ⟨by omega, by omega⟩ ⟨by omega, by omega⟩ (fun h114 => ?_) (fun h114 => ?_)
            · refine lv_iconst (v := iI 0) X.1 X.2.1 d_M_foldOf_44 (by decide) ?_
              have J117 : ∀ (n119 : Nat) (z116 : Int) (I115 : Nat → Int32) (J115 : Nat → Int64) (B115 : Nat → Nat → Int32) (G115 : Nat → Nat → Int64) (H : Heap) (locs : List Loc) (ls : Array Slot), (16 - z116).toNat = n119 → (0 ≤ z116) → (z116 ≤ 16) → mH D E (mA E h q sz) s.heap h q I115 J115 B115 G115 H locs → rS [] [19, 21] I B I115 B115 → lv_has ls 11 [(0, .ref h), (1, .ref ((q 28))), (2, .int (iI 8)), (3, .int (iI z101)), (4, .ref ((q 21))), (5, .int (iI z116))] → W p l e (mR 1 60) s m AV below meth c H locs 0 0 QQ (F0 m 47 ls []) := by
                intro n119
                induction n119 using Nat.strongRecOn with
                | ind n119 ih118 =>
                  intro z116 I115 J115 B115 G115 H locs ls hm120 l116 u116 Y S hl
                  refine lv_iload X.1 X.2.1 d_M_foldOf_47 (lv_at hl 5 rfl) ?_
                  refine lv_iload_n X.1 X.2.1 d_M_foldOf_49 rfl (lv_at hl 3 rfl) ?_
                  refine z_icmp_ge (tgt := 159) X.1 X.2.1 d_M_foldOf_50 (by decide) ⟨by omega, by omega⟩ ⟨by omega, by omega⟩ (fun h121 => ?_) (fun h121 => ?_)
                  · refine lv_iconst (v := iI 0) X.1 X.2.1 d_M_foldOf_159 (by decide) ?_
                    have J124 : ∀ (n126 : Nat) (z123 : Int) (I122 : Nat → Int32) (J122 : Nat → Int64) (B122 : Nat → Nat → Int32) (G122 : Nat → Nat → Int64) (H : Heap) (locs : List Loc) (ls : Array Slot), (40 - z123).toNat = n126 → (0 ≤ z123) → (z123 ≤ 40) → mH D E (mA E h q sz) s.heap h q I122 J122 B122 G122 H locs → rS [] [19, 21] I B I122 B122 → lv_has ls 11 [(0, .ref h), (4, .ref ((q 21))), (5, .int (iI z123))] → W p l e (mR 1 60) s m AV below meth c H locs 0 0 QQ (F0 m 162 ls []) := by
                      intro n126
                      induction n126 using Nat.strongRecOn with
                      | ind n126 ih125 =>
                        intro z123 I122 J122 B122 G122 H locs ls hm127 l123 u123 Y S hl
                        refine lv_iload X.1 X.2.1 d_M_foldOf_162 (lv_at hl 2 rfl) ?_
                        refine lv_bipush (v := iI 40) X.1 X.2.1 d_M_foldOf_164 (by decide) ?_
                        refine z_icmp_ge (tgt := 231) X.1 X.2.1 d_M_foldOf_166 (by decide) ⟨by omega, by omega⟩ ⟨by omega, by omega⟩ (fun h128 => ?_) (fun h128 => ?_)
                        · refine lv_iconst (v := iI 0) X.1 X.2.1 d_M_foldOf_231 (by decide) ?_
                          have J131 : ∀ (n133 : Nat) (z130 : Int) (I129 : Nat → Int32) (J129 : Nat → Int64) (B129 : Nat → Nat → Int32) (G129 : Nat → Nat → Int64) (H : Heap) (locs : List Loc) (ls : Array Slot), (16 - z130).toNat = n133 → (0 ≤ z130) → (z130 ≤ 16) → mH D E (mA E h q sz) s.heap h q I129 J129 B129 G129 H locs → rS [] [19, 21] I B I129 B129 → lv_has ls 11 [(0, .ref h), (4, .ref ((q 21))), (5, .int (iI z130))] → W p l e (mR 1 60) s m AV below meth c H locs 0 0 QQ (F0 m 234 ls []) := by
                            intro n133
                            induction n133 using Nat.strongRecOn with
                            | ind n133 ih132 =>
                              intro z130 I129 J129 B129 G129 H locs ls hm134 l130 u130 Y S hl
                              refine lv_iload X.1 X.2.1 d_M_foldOf_234 (lv_at hl 2 rfl) ?_
                              refine lv_bipush (v := iI 16) X.1 X.2.1 d_M_foldOf_236 (by decide) ?_
                              refine z_icmp_ge (tgt := 260) X.1 X.2.1 d_M_foldOf_238 (by decide) ⟨by omega, by omega⟩ ⟨by omega, by omega⟩ (fun h135 => ?_) (fun h135 => ?_)
                              · exact m_retv hQQ X Y hr hlk ⟨S, trivial⟩ d_M_foldOf_260
                              · refine lv_aload_n X.1 X.2.1 d_M_foldOf_241 rfl (lv_at hl 0 rfl) ?_
                                refine m_get X Y 19 (by decide) lk_fold (gf_fold _ _ _) rfl d_M_foldOf_242 ?_
                                refine lv_iload X.1 X.2.1 d_M_foldOf_245 (lv_at hl 2 rfl) ?_
                                refine lv_aload X.1 X.2.1 d_M_foldOf_247 (lv_at hl 1 rfl) ?_
                                refine lv_iload X.1 X.2.1 d_M_foldOf_249 (lv_at hl 2 rfl) ?_
                                refine r_iald X Y S (aw_folding _ _ _ _ _ _ _) rfl (by omega) (show z130 < ((16 : Nat) : Int) by omega) (by omega) d_M_foldOf_251 (fun z136 q136 l136 u136 => ?_)
                                refine lv_i2b X.1 X.2.1 d_M_foldOf_252 rfl ?_
                                refine t_u (fun z137 l137 u137 => ?_)
                                refine r_bast X Y S (aw_fold _ _ _ _ _ _ _) (sw_fold _ _ _ _ _ _ _) rfl (by omega) (show z130 < ((16 : Nat) : Int) by omega) (by omega) (by decide) d_M_foldOf_253 (fun B138 H locs Y S w138 => ?_)
                                refine lv_iinc (v := iI (z130 + 1)) (lv' := [(5, .int (iI (z130 + 1))), (0, .ref h), (4, .ref ((q 21)))]) X.1 X.2.1 d_M_foldOf_254 hl (k := 2) rfl ((iI_add _ _).trans (congrArg iI (by omega))) (by decide) rfl (fun ls hl => ?_)
                                refine lv_goto (tgt := 234) X.1 X.2.1 d_M_foldOf_257 (by decide) ?_
                                exact ih132 ((16 - (z130 + 1)).toNat) (by omega) (z130 + 1) I129 J129 B138 G129 _ _ _ rfl (by omega) (by omega) Y S (lv_sub hl [1, 2, 0] rfl)
                          refine lv_istore (lv' := [(5, .int (iI 0)), (0, .ref h), (4, .ref ((q 21)))]) X.1 X.2.1 d_M_foldOf_232 hl (by decide) rfl (fun ls hl => ?_)
                          exact J131 _ 0 I122 J122 B122 G122 _ _ _ rfl (by omega) (by omega) Y S (lv_sub hl [1, 2, 0] rfl)
                        · refine lv_iconst (v := iI 0) X.1 X.2.1 d_M_foldOf_169 (by decide) ?_
                          refine lv_istore (lv' := [(6, .int (iI 0)), (0, .ref h), (4, .ref ((q 21))), (5, .int (iI z123))]) X.1 X.2.1 d_M_foldOf_170 hl (by decide) rfl (fun ls hl => ?_)
                          refine lv_bipush (v := iI 15) X.1 X.2.1 d_M_foldOf_172 (by decide) ?_
                          have J142 : ∀ (n144 : Nat) (z140 : Int) (z141 : Int) (I139 : Nat → Int32) (J139 : Nat → Int64) (B139 : Nat → Nat → Int32) (G139 : Nat → Nat → Int64) (H : Heap) (locs : List Loc) (ls : Array Slot), (z141 - (-1)).toNat = n144 → ((-2147483648) ≤ z140) → (z140 ≤ 2147483647) → ((-1) ≤ z141) → (z141 ≤ 15) → mH D E (mA E h q sz) s.heap h q I139 J139 B139 G139 H locs → rS [] [19, 21] I B I139 B139 → lv_has ls 11 [(0, .ref h), (4, .ref ((q 21))), (5, .int (iI z123)), (6, .int (iI z140)), (7, .int (iI z141))] → W p l e (mR 1 60) s m AV below meth c H locs 0 0 QQ (F0 m 176 ls []) := by
                            intro n144
                            induction n144 using Nat.strongRecOn with
                            | ind n144 ih143 =>
                              intro z140 z141 I139 J139 B139 G139 H locs ls hm145 l140 u140 l141 u141 Y S hl
                              refine lv_iload X.1 X.2.1 d_M_foldOf_176 (lv_at hl 4 rfl) ?_
                              refine z_if_lt (tgt := 215) X.1 X.2.1 d_M_foldOf_178 (by decide) ⟨by omega, by omega⟩ (fun h146 => ?_) (fun h146 => ?_)
                              · refine lv_aload X.1 X.2.1 d_M_foldOf_215 (lv_at hl 1 rfl) ?_
                                refine lv_bipush (v := iI 15) X.1 X.2.1 d_M_foldOf_217 (by decide) ?_
                                refine lv_dup2_11 X.1 X.2.1 d_M_foldOf_219 rfl rfl ?_
                                refine r_iald X Y S (aw_folding _ _ _ _ _ _ _) rfl (by omega) (show 15 < ((16 : Nat) : Int) by omega) (by omega) d_M_foldOf_220 (fun z147 q147 l147 u147 => ?_)
                                refine lv_iload X.1 X.2.1 d_M_foldOf_221 (lv_at hl 3 rfl) ?_
                                refine lv_iadd X.1 X.2.1 d_M_foldOf_223 ?_
                                refine t_u (fun z148 l148 u148 => ?_)
                                refine r_iast X Y S (aw_folding _ _ _ _ _ _ _) (sw_folding _ _ _ _ _ _ _) rfl ⟨(show ((-2147483648) : Int) ≤ z148 by omega), (show z148 ≤ (2147483647 : Int) by omega)⟩ ⟨by omega, by omega⟩ (by omega) (show 15 < ((16 : Nat) : Int) by omega) (by omega) (by decide) d_M_foldOf_224 (fun B149 H locs Y S w149 => ?_)
                                refine lv_iinc (v := iI (z123 + 1)) (lv' := [(5, .int (iI (z123 + 1))), (0, .ref h), (4, .ref ((q 21))), (6, .int (iI z140)), (7, .int (iI z141))]) X.1 X.2.1 d_M_foldOf_225 hl (k := 2) rfl ((iI_add _ _).trans (congrArg iI (by omega))) (by decide) rfl (fun ls hl => ?_)
                                refine lv_goto (tgt := 162) X.1 X.2.1 d_M_foldOf_228 (by decide) ?_
                                exact ih125 ((40 - (z123 + 1)).toNat) (by omega) (z123 + 1) I139 J139 B149 G139 _ _ _ rfl (by omega) (by omega) Y S (lv_sub hl [1, 2, 0] rfl)
                              · refine lv_aload X.1 X.2.1 d_M_foldOf_181 (lv_at hl 1 rfl) ?_
                                refine lv_iload X.1 X.2.1 d_M_foldOf_183 (lv_at hl 4 rfl) ?_
                                refine r_iald X Y S (aw_folding _ _ _ _ _ _ _) rfl (by omega) (show z141 < ((16 : Nat) : Int) by omega) (by omega) d_M_foldOf_185 (fun z150 q150 l150 u150 => ?_)
                                refine lv_iload X.1 X.2.1 d_M_foldOf_186 (lv_at hl 3 rfl) ?_
                                refine lv_iadd X.1 X.2.1 d_M_foldOf_188 ?_
                                refine t_u (fun z151 l151 u151 => ?_)
                                refine lv_istore (lv' := [(8, .int (iI z151)), (0, .ref h), (4, .ref ((q 21))), (5, .int (iI z123)), (6, .int (iI z140)), (7, .int (iI z141))]) X.1 X.2.1 d_M_foldOf_189 hl (by decide) rfl (fun ls hl => ?_)
                                refine lv_aload X.1 X.2.1 d_M_foldOf_191 (lv_at hl 2 rfl) ?_
                                refine lv_iload X.1 X.2.1 d_M_foldOf_193 (lv_at hl 5 rfl) ?_
                                refine lv_iload X.1 X.2.1 d_M_foldOf_195 (lv_at hl 0 rfl) ?_
                                refine lv_sipush (v := iI 255) X.1 X.2.1 d_M_foldOf_197 (by decide) ?_
                                refine z_iand X.1 X.2.1 (by omega) (by omega) d_M_foldOf_200 (fun z152 l152 u152 => ?_)
                                refine r_iast X Y S (aw_folding _ _ _ _ _ _ _) (sw_folding _ _ _ _ _ _ _) rfl ⟨(show ((-2147483648) : Int) ≤ z152 by omega), (show z152 ≤ (2147483647 : Int) by omega)⟩ ⟨by omega, by omega⟩ (by omega) (show z141 < ((16 : Nat) : Int) by omega) (by omega) (by decide) d_M_foldOf_201 (fun B153 H locs Y S w153 => ?_)
                                refine lv_iload X.1 X.2.1 d_M_foldOf_202 (lv_at hl 0 rfl) ?_
                                refine lv_bipush (v := iI 8) X.1 X.2.1 d_M_foldOf_204 (by decide) ?_
                                refine lv_ishr X.1 X.2.1 d_M_foldOf_206 ?_
                                refine t_u (fun z154 l154 u154 => ?_)
                                refine lv_istore (lv' := [(6, .int (iI z154)), (8, .int (iI z151)), (0, .ref h), (4, .ref ((q 21))), (5, .int (iI z123)), (7, .int (iI z141))]) X.1 X.2.1 d_M_foldOf_207 hl (by decide) rfl (fun ls hl => ?_)
                                refine lv_iinc (v := iI (z141 - 1)) (lv' := [(7, .int (iI (z141 - 1))), (6, .int (iI z154)), (8, .int (iI z151)), (0, .ref h), (4, .ref ((q 21))), (5, .int (iI z123))]) X.1 X.2.1 d_M_foldOf_209 hl (k := 5) rfl ((iI_add _ _).trans (congrArg iI (by omega))) (by decide) rfl (fun ls hl => ?_)
                                refine lv_goto (tgt := 176) X.1 X.2.1 d_M_foldOf_212 (by decide) ?_
                                exact ih143 (((z141 - 1) - (-1)).toNat) (by omega) z154 (z141 - 1) I139 J139 B153 G139 _ _ _ rfl (by omega) (by omega) (by omega) (by omega) Y S (lv_sub hl [3, 4, 5, 1, 0] rfl)
                          refine lv_istore (lv' := [(7, .int (iI 15)), (6, .int (iI 0)), (0, .ref h), (4, .ref ((q 21))), (5, .int (iI z123))]) X.1 X.2.1 d_M_foldOf_174 hl (by decide) rfl (fun ls hl => ?_)
                          exact J142 _ 0 15 I122 J122 B122 G122 _ _ _ rfl (by omega) (by omega) (by omega) (by omega) Y S (lv_sub hl [2, 3, 4, 1, 0] rfl)
                    refine lv_istore (lv' := [(5, .int (iI 0)), (0, .ref h), (1, .ref ((q 28))), (2, .int (iI 8)), (3, .int (iI z101)), (4, .ref ((q 21)))]) X.1 X.2.1 d_M_foldOf_160 hl (by decide) rfl (fun ls hl => ?_)
                    exact J124 _ 0 I115 J115 B115 G115 _ _ _ rfl (by omega) (by omega) Y S (lv_sub hl [1, 5, 0] rfl)
                  · refine lv_iload X.1 X.2.1 d_M_foldOf_53 (lv_at hl 5 rfl) ?_
                    refine lv_iload_n X.1 X.2.1 d_M_foldOf_55 rfl (lv_at hl 2 rfl) ?_
                    refine z_idiv X.1 X.2.1 (by omega) (by omega) ⟨by decide, by decide⟩ d_M_foldOf_56 ?_
                    refine lv_istore (lv' := [(6, .int (iI (z116 / 8))), (0, .ref h), (1, .ref ((q 28))), (2, .int (iI 8)), (3, .int (iI z101)), (4, .ref ((q 21))), (5, .int (iI z116))]) X.1 X.2.1 d_M_foldOf_57 hl (by decide) rfl (fun ls hl => ?_)
                    refine lv_bipush (v := iI 13) X.1 X.2.1 d_M_foldOf_59 (by decide) ?_
                    refine lv_iload X.1 X.2.1 d_M_foldOf_61 (lv_at hl 0 rfl) ?_
                    refine z_imul X.1 X.2.1 d_M_foldOf_63 ?_
                    refine lv_bipush (v := iI 8) X.1 X.2.1 d_M_foldOf_64 (by decide) ?_
                    refine lv_iload_n X.1 X.2.1 d_M_foldOf_66 rfl (lv_at hl 3 rfl) ?_
                    refine z_imul X.1 X.2.1 d_M_foldOf_67 ?_
                    refine t_eq (y := iI 64) (by decide) ?_
                    refine z_irem X.1 X.2.1 (by omega) (by omega) ⟨by decide, by decide⟩ d_M_foldOf_68 ?_
                    refine lv_istore (lv' := [(7, .int (iI ((13 * (z116 / 8)) % 64))), (6, .int (iI (z116 / 8))), (0, .ref h), (1, .ref ((q 28))), (2, .int (iI 8)), (3, .int (iI z101)), (4, .ref ((q 21))), (5, .int (iI z116))]) X.1 X.2.1 d_M_foldOf_69 hl (by decide) rfl (fun ls hl => ?_)
                    refine lv_iconst (v := iI 0) X.1 X.2.1 d_M_foldOf_71 (by decide) ?_
                    refine lv_istore (lv' := [(8, .int (iI 0)), (7, .int (iI ((13 * (z116 / 8)) % 64))), (6, .int (iI (z116 / 8))), (0, .ref h), (1, .ref ((q 28))), (2, .int (iI 8)), (3, .int (iI z101)), (4, .ref ((q 21))), (5, .int (iI z116))]) X.1 X.2.1 d_M_foldOf_72 hl (by decide) rfl (fun ls hl => ?_)
                    refine lv_iconst (v := iI 0) X.1 X.2.1 d_M_foldOf_74 (by decide) ?_
                    have J157 : ∀ (n159 : Nat) (z155 : Int) (z156 : Int) (H : Heap) (locs : List Loc) (ls : Array Slot), (8 - z156).toNat = n159 → ((-2147483648) ≤ z155) → (z155 ≤ 2147483647) → (0 ≤ z156) → (z156 ≤ 8) → mH D E (mA E h q sz) s.heap h q I115 J115 B115 G115 H locs → rS [] [19, 21] I B I115 B115 → lv_has ls 11 [(0, .ref h), (1, .ref ((q 28))), (2, .int (iI 8)), (3, .int (iI z101)), (4, .ref ((q 21))), (5, .int (iI z116)), (7, .int (iI ((13 * (z116 / 8)) % 64))), (8, .int (iI z155)), (9, .int (iI z156))] → W p l e (mR 1 60) s m AV below meth c H locs 0 0 QQ (F0 m 77 ls []) := by
                      intro n159
                      induction n159 using Nat.strongRecOn with
                      | ind n159 ih158 =>
                        intro z155 z156 H locs ls hm160 l155 u155 l156 u156 Y S hl
                        refine lv_iload X.1 X.2.1 d_M_foldOf_77 (lv_at hl 8 rfl) ?_
                        refine lv_bipush (v := iI 8) X.1 X.2.1 d_M_foldOf_79 (by decide) ?_
                        refine z_icmp_ge (tgt := 140) X.1 X.2.1 d_M_foldOf_81 (by decide) ⟨by omega, by omega⟩ ⟨by omega, by omega⟩ (fun h161 => ?_) (fun h161 => ?_)
                        · refine lv_aload X.1 X.2.1 d_M_foldOf_140 (lv_at hl 4 rfl) ?_
                          refine lv_iload X.1 X.2.1 d_M_foldOf_142 (lv_at hl 5 rfl) ?_
                          refine lv_bipush (v := iI 16) X.1 X.2.1 d_M_foldOf_144 (by decide) ?_
                          refine z_irem X.1 X.2.1 (by omega) (by omega) ⟨by decide, by decide⟩ d_M_foldOf_146 ?_
                          refine lv_dup2_11 X.1 X.2.1 d_M_foldOf_147 rfl rfl ?_
                          refine r_iald X Y S (aw_folding _ _ _ _ _ _ _) rfl (by omega) (show z116 % 16 < ((16 : Nat) : Int) by omega) (by omega) d_M_foldOf_148 (fun z162 q162 l162 u162 => ?_)
                          refine lv_iload X.1 X.2.1 d_M_foldOf_149 (lv_at hl 7 rfl) ?_
                          refine lv_iadd X.1 X.2.1 d_M_foldOf_151 ?_
                          refine t_u (fun z163 l163 u163 => ?_)
                          refine r_iast X Y S (aw_folding _ _ _ _ _ _ _) (sw_folding _ _ _ _ _ _ _) rfl ⟨(show ((-2147483648) : Int) ≤ z163 by omega), (show z163 ≤ (2147483647 : Int) by omega)⟩ ⟨by omega, by omega⟩ (by omega) (show z116 % 16 < ((16 : Nat) : Int) by omega) (by omega) (by decide) d_M_foldOf_152 (fun B164 H locs Y S w164 => ?_)
                          refine lv_iinc (v := iI (z116 + 1)) (lv' := [(5, .int (iI (z116 + 1))), (0, .ref h), (1, .ref ((q 28))), (2, .int (iI 8)), (3, .int (iI z101)), (4, .ref ((q 21))), (7, .int (iI ((13 * (z116 / 8)) % 64))), (8, .int (iI z155)), (9, .int (iI z156))]) X.1 X.2.1 d_M_foldOf_153 hl (k := 5) rfl ((iI_add _ _).trans (congrArg iI (by omega))) (by decide) rfl (fun ls hl => ?_)
                          refine lv_goto (tgt := 47) X.1 X.2.1 d_M_foldOf_156 (by decide) ?_
                          exact ih118 ((16 - (z116 + 1)).toNat) (by omega) (z116 + 1) I115 J115 B164 G115 _ _ _ rfl (by omega) (by omega) Y S (lv_sub hl [1, 2, 3, 4, 5, 0] rfl)
                        · refine lv_bipush (v := iI 8) X.1 X.2.1 d_M_foldOf_84 (by decide) ?_
                          refine lv_iload X.1 X.2.1 d_M_foldOf_86 (lv_at hl 5 rfl) ?_
                          refine lv_iload_n X.1 X.2.1 d_M_foldOf_88 rfl (lv_at hl 2 rfl) ?_
                          refine z_irem X.1 X.2.1 (by omega) (by omega) ⟨by decide, by decide⟩ d_M_foldOf_89 ?_
                          refine z_imul X.1 X.2.1 d_M_foldOf_90 ?_
                          refine lv_iload X.1 X.2.1 d_M_foldOf_91 (lv_at hl 8 rfl) ?_
                          refine z_iadd X.1 X.2.1 d_M_foldOf_93 ?_
                          refine lv_iload X.1 X.2.1 d_M_foldOf_94 (lv_at hl 6 rfl) ?_
                          refine z_isub X.1 X.2.1 d_M_foldOf_96 ?_
                          refine lv_bipush (v := iI 8) X.1 X.2.1 d_M_foldOf_97 (by decide) ?_
                          refine lv_iload_n X.1 X.2.1 d_M_foldOf_99 rfl (lv_at hl 2 rfl) ?_
                          refine z_imul X.1 X.2.1 d_M_foldOf_100 ?_
                          refine t_eq (y := iI 64) (by decide) ?_
                          refine z_iadd X.1 X.2.1 d_M_foldOf_101 ?_
                          refine lv_bipush (v := iI 8) X.1 X.2.1 d_M_foldOf_102 (by decide) ?_
                          refine lv_iload_n X.1 X.2.1 d_M_foldOf_104 rfl (lv_at hl 2 rfl) ?_
                          refine z_imul X.1 X.2.1 d_M_foldOf_105 ?_
                          refine t_eq (y := iI 64) (by decide) ?_
                          refine z_irem X.1 X.2.1 (by omega) (by omega) ⟨by decide, by decide⟩ d_M_foldOf_106 ?_
                          refine lv_istore (lv' := [(10, .int (iI (((((8 * (z116 % 8)) + z156) - ((13 * (z116 / 8)) % 64)) + 64) % 64))), (0, .ref h), (1, .ref ((q 28))), (2, .int (iI 8)), (3, .int (iI z101)), (4, .ref ((q 21))), (5, .int (iI z116)), (7, .int (iI ((13 * (z116 / 8)) % 64))), (8, .int (iI z155)), (9, .int (iI z156))]) X.1 X.2.1 d_M_foldOf_107 hl (by decide) rfl (fun ls hl => ?_)
                          refine lv_iload X.1 X.2.1 d_M_foldOf_109 (lv_at hl 8 rfl) ?_
                          refine lv_iconst (v := iI 1) X.1 X.2.1 d_M_foldOf_111 (by decide) ?_
                          refine lv_ishl X.1 X.2.1 d_M_foldOf_112 ?_
                          refine t_u (fun z165 l165 u165 => ?_)
                          refine lv_aload_n X.1 X.2.1 d_M_foldOf_113 rfl (lv_at hl 2 rfl) ?_
                          refine lv_iload X.1 X.2.1 d_M_foldOf_114 (lv_at hl 0 rfl) ?_
                          refine lv_bipush (v := iI 8) X.1 X.2.1 d_M_foldOf_116 (by decide) ?_
                          refine z_idiv X.1 X.2.1 (by omega) (by omega) ⟨by decide, by decide⟩ d_M_foldOf_118 ?_
                          refine r_bald X Y S (aw_kerberos _ _ _ _ _ _ _) rfl (by omega) (show (((((8 * (z116 % 8)) + z156) - ((13 * (z116 / 8)) % 64)) + 64) % 64) / 8 < ((8 : Nat) : Int) by omega) (by omega) d_M_foldOf_119 (fun z166 q166 l166 u166 => ?_)
                          refine lv_bipush (v := iI 7) X.1 X.2.1 d_M_foldOf_120 (by decide) ?_
                          refine lv_iload X.1 X.2.1 d_M_foldOf_122 (lv_at hl 0 rfl) ?_
                          refine lv_bipush (v := iI 8) X.1 X.2.1 d_M_foldOf_124 (by decide) ?_
                          refine z_irem X.1 X.2.1 (by omega) (by omega) ⟨by decide, by decide⟩ d_M_foldOf_126 ?_
                          refine z_isub X.1 X.2.1 d_M_foldOf_127 ?_
                          refine lv_ishr X.1 X.2.1 d_M_foldOf_128 ?_
                          refine t_u (fun z167 l167 u167 => ?_)
                          refine lv_iconst (v := iI 1) X.1 X.2.1 d_M_foldOf_129 (by decide) ?_
                          refine z_iand X.1 X.2.1 (by omega) (by omega) d_M_foldOf_130 (fun z168 l168 u168 => ?_)
                          refine lv_ior X.1 X.2.1 d_M_foldOf_131 ?_
                          refine t_u (fun z169 l169 u169 => ?_)
                          refine lv_istore (lv' := [(8, .int (iI z169)), (10, .int (iI (((((8 * (z116 % 8)) + z156) - ((13 * (z116 / 8)) % 64)) + 64) % 64))), (0, .ref h), (1, .ref ((q 28))), (2, .int (iI 8)), (3, .int (iI z101)), (4, .ref ((q 21))), (5, .int (iI z116)), (7, .int (iI ((13 * (z116 / 8)) % 64))), (9, .int (iI z156))]) X.1 X.2.1 d_M_foldOf_132 hl (by decide) rfl (fun ls hl => ?_)
                          refine lv_iinc (v := iI (z156 + 1)) (lv' := [(9, .int (iI (z156 + 1))), (8, .int (iI z169)), (10, .int (iI (((((8 * (z116 % 8)) + z156) - ((13 * (z116 / 8)) % 64)) + 64) % 64))), (0, .ref h), (1, .ref ((q 28))), (2, .int (iI 8)), (3, .int (iI z101)), (4, .ref ((q 21))), (5, .int (iI z116)), (7, .int (iI ((13 * (z116 / 8)) % 64)))]) X.1 X.2.1 d_M_foldOf_134 hl (k := 9) rfl ((iI_add _ _).trans (congrArg iI (by omega))) (by decide) rfl (fun ls hl => ?_)
                          refine lv_goto (tgt := 77) X.1 X.2.1 d_M_foldOf_137 (by decide) ?_
                          exact ih158 ((8 - (z156 + 1)).toNat) (by omega) z169 (z156 + 1) _ _ _ rfl (by omega) (by omega) (by omega) (by omega) Y S (lv_sub hl [3, 4, 5, 6, 7, 8, 9, 1, 0] rfl)
                    refine lv_istore (lv' := [(9, .int (iI 0)), (8, .int (iI 0)), (7, .int (iI ((13 * (z116 / 8)) % 64))), (6, .int (iI (z116 / 8))), (0, .ref h), (1, .ref ((q 28))), (2, .int (iI 8)), (3, .int (iI z101)), (4, .ref ((q 21))), (5, .int (iI z116))]) X.1 X.2.1 d_M_foldOf_75 hl (by decide) rfl (fun ls hl => ?_)
                    exact J157 _ 0 0 _ _ _ rfl (by omega) (by omega) (by omega) (by omega) Y S (lv_sub hl [4, 5, 6, 7, 8, 9, 2, 1, 0] rfl)
              refine lv_istore (lv' := [(5, .int (iI 0)), (0, .ref h), (1, .ref ((q 28))), (2, .int (iI 8)), (3, .int (iI z101)), (4, .ref ((q 21)))]) X.1 X.2.1 d_M_foldOf_45 hl (by decide) rfl (fun ls hl => ?_)
              exact J117 _ 0 I108 J108 B108 G108 _ _ _ rfl (by omega) (by omega) Y S (lv_sub hl [1, 2, 3, 4, 5, 0] rfl)
            · refine lv_aload X.1 X.2.1 d_M_foldOf_32 (lv_at hl 4 rfl) ?_
              refine lv_iload X.1 X.2.1 d_M_foldOf_34 (lv_at hl 5 rfl) ?_
              refine lv_iconst (v := iI 0) X.1 X.2.1 d_M_foldOf_36 (by decide) ?_
              refine r_iast X Y S (aw_folding _ _ _ _ _ _ _) (sw_folding _ _ _ _ _ _ _) rfl ⟨(show ((-2147483648) : Int) ≤ 0 by omega), (show 0 ≤ (2147483647 : Int) by omega)⟩ ⟨by omega, by omega⟩ (by omega) (show z109 < ((16 : Nat) : Int) by omega) (by omega) (by decide) d_M_foldOf_37 (fun B170 H locs Y S w170 => ?_)
              refine lv_iinc (v := iI (z109 + 1)) (lv' := [(5, .int (iI (z109 + 1))), (0, .ref h), (1, .ref ((q 28))), (2, .int (iI 8)), (3, .int (iI z101)), (4, .ref ((q 21)))]) X.1 X.2.1 d_M_foldOf_38 hl (k := 5) rfl ((iI_add _ _).trans (congrArg iI (by omega))) (by decide) rfl (fun ls hl => ?_)
              refine lv_goto (tgt := 25) X.1 X.2.1 d_M_foldOf_41 (by decide) ?_
              exact ih111 ((16 - (z109 + 1)).toNat) (by omega) (z109 + 1) I108 J108 B170 G108 _ _ _ rfl (by omega) (by omega) Y S (lv_sub hl [1, 2, 3, 4, 5, 0] rfl)
        refine lv_istore (lv' := [(5, .int (iI 0)), (4, .ref ((q 21))), (0, .ref h), (1, .ref ((q 28))), (2, .int (iI 8)), (3, .int (iI z101))]) X.1 X.2.1 d_M_foldOf_23 hl (by decide) rfl (fun ls hl => ?_)
        exact J110 _ 0 I J B G _ _ _ rfl (by omega) (by omega) Y S (lv_sub hl [2, 3, 4, 5, 1, 0] rfl)
      · refine lv_iload_n X.1 X.2.1 d_M_foldOf_9 rfl (lv_at hl 3 rfl) ?_
        refine lv_iload_n X.1 X.2.1 d_M_foldOf_10 rfl (lv_at hl 2 rfl) ?_
        refine z_iadd X.1 X.2.1 d_M_foldOf_11 ?_
        refine lv_istore_n (lv' := [(3, .int (iI (z101 + 8))), (0, .ref h), (1, .ref ((q 28))), (2, .int (iI 8))]) X.1 X.2.1 d_M_foldOf_12 rfl hl (by decide) rfl (fun ls hl => ?_)
        refine lv_goto (tgt := 2) X.1 X.2.1 d_M_foldOf_13 (by decide) ?_
        exact ih104 ((16 - (z101 + 8)).toNat) (by omega) (z101 + 8) _ _ _ rfl (by omega) (by omega) (by omega) Y S (lv_sub hl [1, 2, 3, 0] rfl)
  refine lv_istore_n (lv' := [(3, .int (iI 8)), (0, .ref h), (1, .ref ((q 28))), (2, .int (iI 8))]) X.1 X.2.1 d_M_foldOf_1 rfl hl (by decide) rfl (fun ls hl => ?_)
  exact J103 _ 8 _ _ _ rfl (by omega) (by omega) (by omega) Y S (lv_sub hl [1, 2, 3, 0] rfl)
set_option maxHeartbeats 4000000 in
set_option maxRecDepth 100000 in
theorem r_M_coin (l : Launch) (D : mD) (E : mE) (h : Nat) (q : Nat → Nat) (sz : Nat) (I : Nat → Int32) (J : Nat → Int64) (B : Nat → Nat → Int32) (G : Nat → Nat → Int64) (hT : rT I B) (cn : Int) (gcn : I 33 = iI cn) (lcn : 0 ≤ cn) (ucn : cn ≤ 2100000) : Met l y_M_coin (k_M_coin :: lw_tg) (mR 5 156) (va_Pc [.ref h] (mPre D E h q (I, J, B, G) sz)) (va_Qi (rPi [8, 33] [5, 6, 7, 9, 10, 11] I B (fun (z : Int) (u : mS) => 0 ≤ z ∧ z ≤ 255 ∧ u.1 33 = iI (cn + 1))) (mPost D E h q (mA E h q sz)) (mA E h q sz)) 0 0 (mA E h q sz) := by
  refine m_enter (by decide) rfl (Nat.le_of_ble_eq_true rfl) (fun p e s m below meth c ls AV QQ H locs hQQ X Y hZ hA hr hlk hml hl => ?_)
  have Y : mH D E (mA E h q sz) s.heap h q I J B G H locs := Y
  have S : rS [8, 33] [5, 6, 7, 9, 10, 11] I B I B := rS_rf hT
  have hl : lv_has ls 3 [(0, .ref h)] := hl
  refine lv_aload_n X.1 X.2.1 d_M_coin_0 rfl (lv_at hl 0 rfl) ?_
  refine lv_aload_n X.1 X.2.1 d_M_coin_1 rfl (lv_at hl 0 rfl) ?_
  refine m_get X Y 31 (by decide) lk_seed (gf_seed _ _ _) rfl d_M_coin_2 ?_
  refine lv_aload_n X.1 X.2.1 d_M_coin_5 rfl (lv_at hl 0 rfl) ?_
  refine r_geti (k := 32) X Y S (by decide) lk_seedMany (gf_seedMany _ _ _) rfl rfl d_M_coin_6 (fun z101 e101 l101 u101 => ?_)
  refine r_nv (m_run (As := [.ref ((q 31)), .int (iI z101)]) (rest := []) (n := 2) X Y hZ hA hml hl.1 (r_M_macKey_seed l D E h q H.size I J B G z101 (by omega) (by omega) S.1) kl_M_macKey ks_M_macKey kx_M_macKey ki_M_macKey ini_M hd_M_macKey ⟨Nat.le_of_ble_eq_true rfl, Nat.le_of_ble_eq_true rfl⟩ rfl (Nat.le_of_ble_eq_true rfl) d_M_coin_9 ⟨Nat.le_refl _, Nat.le_refl _⟩) X Y hA S (by decide) (by decide) (fun u H locs Y S s102 p102 => ?_)
  obtain ⟨I102, J102, B102, G102⟩ := u
  dsimp only at Y S s102 p102
  refine lv_aload_n X.1 X.2.1 d_M_coin_12 rfl (lv_at hl 0 rfl) ?_
  refine r_nv (m_run (As := []) (rest := []) (n := 0) X Y hZ hA hml hl.1 (r_M_macBegin l D E h q H.size I102 J102 B102 G102 S.1) kl_M_macBegin ks_M_macBegin kx_M_macBegin ki_M_macBegin ini_M hd_M_macBegin ⟨Nat.le_of_ble_eq_true rfl, Nat.le_of_ble_eq_true rfl⟩ rfl (Nat.le_of_ble_eq_true rfl) d_M_coin_13 ⟨Nat.le_refl _, Nat.le_refl _⟩) X Y hA S (by decide) (by decide) (fun u H locs Y S s103 p103 => ?_)
  obtain ⟨I103, J103, B103, G103⟩ := u
  dsimp only at Y S s103 p103
  have x103 := p103
  refine lv_aload_n X.1 X.2.1 d_M_coin_16 rfl (lv_at hl 0 rfl) ?_
  refine r_get0 X Y (by decide) lk_coin (gf_coin _ _ _) rfl ((s103.2.1 33 (by decide)).trans ((s102.2.1 33 (by decide)).trans gcn)) d_M_coin_17 ?_
  refine lv_bipush (v := iI 20) X.1 X.2.1 d_M_coin_20 (by decide) ?_
  refine z_idiv X.1 X.2.1 (by omega) (by omega) ⟨by decide, by decide⟩ d_M_coin_22 ?_
  refine lv_istore_n (lv' := [(1, .int (iI (cn / 20))), (0, .ref h)]) X.1 X.2.1 d_M_coin_23 rfl hl (by decide) rfl (fun ls hl => ?_)
  refine lv_iconst (v := iI 0) X.1 X.2.1 d_M_coin_24 (by decide) ?_
  have J109 : ∀ (n111 : Nat) (z105 : Int) (z107 : Int) (I104 : Nat → Int32) (J104 : Nat → Int64) (B104 : Nat → Nat → Int32) (G104 : Nat → Nat → Int64) (H : Heap) (locs : List Loc) (ls : Array Slot), (4 - z105).toNat = n111 → (0 ≤ z105) → (z105 ≤ 4) → (I104 33 = iI cn) → (I104 8 = iI z107) → (0 ≤ z107) → (z107 ≤ 1000000) → (z107 = 64 + (z105 - 0)) → mH D E (mA E h q sz) s.heap h q I104 J104 B104 G104 H locs → rS [8, 33] [5, 6, 7, 9, 10, 11] I B I104 B104 → lv_has ls 3 [(0, .ref h), (1, .int (iI (cn / 20))), (2, .int (iI z105))] → W p l e (mR 5 156) s m AV below meth c H locs 0 0 QQ (F0 m 26 ls []) := by
    intro n111
    induction n111 using Nat.strongRecOn with
    | ind n111 ih110 =>
      intro z105 z107 I104 J104 B104 G104 H locs ls hm112 l105 u105 e106 e107 l107 u107 i108 Y S hl
      refine lv_iload_n X.1 X.2.1 d_M_coin_26 rfl (lv_at hl 2 rfl) ?_
      refine lv_iconst (v := iI 4) X.1 X.2.1 d_M_coin_27 (by decide) ?_
      refine z_icmp_ge (tgt := 50) X.1 X.2.1 d_M_coin_28 (by decide) ⟨by omega, by omega⟩ ⟨by omega, by omega⟩ (fun h113 => ?_) (fun h113 => ?_)
      · refine lv_aload_n X.1 X.2.1 d_M_coin_50 rfl (lv_at hl 0 rfl) ?_
        refine r_nv (m_run (As := []) (rest := []) (n := 0) X Y hZ hA hml hl.1 (r_M_macEnd l D E h q H.size I104 J104 B104 G104 S.1 z107 e107 (by omega) (by omega)) kl_M_macEnd ks_M_macEnd kx_M_macEnd ki_M_macEnd ini_M hd_M_macEnd ⟨Nat.le_of_ble_eq_true rfl, Nat.le_of_ble_eq_true rfl⟩ rfl (Nat.le_of_ble_eq_true rfl) d_M_coin_51 ⟨Nat.le_refl _, Nat.le_refl _⟩) X Y hA S (by decide) (by decide) (fun u H locs Y S s114 p114 => ?_)
        obtain ⟨I114, J114, B114, G114⟩ := u
        dsimp only at Y S s114 p114
        refine lv_aload_n X.1 X.2.1 d_M_coin_54 rfl (lv_at hl 0 rfl) ?_
        refine lv_dup X.1 X.2.1 d_M_coin_55 rfl ?_
        refine r_get0 X Y (by decide) lk_coin (gf_coin _ _ _) rfl ((s114.2.1 33 (by decide)).trans e106) d_M_coin_56 ?_
        refine lv_iconst (v := iI 1) X.1 X.2.1 d_M_coin_59 (by decide) ?_
        refine z_iadd X.1 X.2.1 d_M_coin_60 ?_
        refine r_puti (k := 33) X Y S (by decide) lk_coin rfl rfl (t_M_ok 33 (by decide)) rfl rfl (sf_coin _ _ _ _) (Nat.le_of_ble_eq_true rfl) rfl (show ((-2147483648) : Int) ≤ cn + 1 by omega) (show cn + 1 ≤ (2147483647 : Int) by omega) ⟨by omega, by omega⟩ (by decide) d_M_coin_61 (fun I115 H locs Y S w115 => ?_)
        refine lv_aload_n X.1 X.2.1 d_M_coin_64 rfl (lv_at hl 0 rfl) ?_
        refine m_get X Y 10 (by decide) lk_mac (gf_mac _ _ _) rfl d_M_coin_65 ?_
        refine lv_aload_n X.1 X.2.1 d_M_coin_68 rfl (lv_at hl 0 rfl) ?_
        refine r_get0 X Y (by decide) lk_coin (gf_coin _ _ _) rfl w115.1 d_M_coin_69 ?_
        refine lv_iconst (v := iI 1) X.1 X.2.1 d_M_coin_72 (by decide) ?_
        refine z_isub X.1 X.2.1 d_M_coin_73 ?_
        refine lv_bipush (v := iI 20) X.1 X.2.1 d_M_coin_74 (by decide) ?_
        refine z_irem X.1 X.2.1 (by omega) (by omega) ⟨by decide, by decide⟩ d_M_coin_76 ?_
        refine r_bald X Y S (aw_mac _ _ _ _ _ _ _) rfl (by omega) (show ((cn + 1) - 1) % 20 < ((20 : Nat) : Int) by omega) (by omega) d_M_coin_77 (fun z116 q116 l116 u116 => ?_)
        refine lv_sipush (v := iI 255) X.1 X.2.1 d_M_coin_78 (by decide) ?_
        refine z_iand X.1 X.2.1 (by omega) (by omega) d_M_coin_81 (fun z117 l117 u117 => ?_)
        exact m_reti hQQ X Y hr hlk ⟨S, z117, rfl, ⟨by omega, by omega, ((w115.1).trans (congrArg iI (show (cn + 1 : Int) = cn + 1 by omega)))⟩⟩ d_M_coin_82
      · refine lv_aload_n X.1 X.2.1 d_M_coin_31 rfl (lv_at hl 0 rfl) ?_
        refine lv_iload_n X.1 X.2.1 d_M_coin_32 rfl (lv_at hl 1 rfl) ?_
        refine lv_bipush (v := iI 24) X.1 X.2.1 d_M_coin_33 (by decide) ?_
        refine lv_bipush (v := iI 8) X.1 X.2.1 d_M_coin_35 (by decide) ?_
        refine lv_iload_n X.1 X.2.1 d_M_coin_37 rfl (lv_at hl 2 rfl) ?_
        refine z_imul X.1 X.2.1 d_M_coin_38 ?_
        refine z_isub X.1 X.2.1 d_M_coin_39 ?_
        refine lv_iushr X.1 X.2.1 d_M_coin_40 rfl ?_
        refine t_u (fun z118 l118 u118 => ?_)
        refine r_nv (m_run (As := [.int (iI z118)]) (rest := []) (n := 1) X Y hZ hA hml hl.1 (r_M_hash l D E h q H.size I104 J104 B104 G104 z118 (by omega) (by omega) S.1 z107 e107 (by omega) (by omega)) kl_M_hash ks_M_hash kx_M_hash ki_M_hash ini_M hd_M_hash ⟨Nat.le_of_ble_eq_true rfl, Nat.le_of_ble_eq_true rfl⟩ rfl (Nat.le_of_ble_eq_true rfl) d_M_coin_41 ⟨Nat.le_refl _, Nat.le_refl _⟩) X Y hA S (by decide) (by decide) (fun u H locs Y S s119 p119 => ?_)
        obtain ⟨I119, J119, B119, G119⟩ := u
        dsimp only at Y S s119 p119
        have x119 := p119
        refine lv_iinc (v := iI (z105 + 1)) (lv' := [(2, .int (iI (z105 + 1))), (0, .ref h), (1, .int (iI (cn / 20)))]) X.1 X.2.1 d_M_coin_44 hl (k := 2) rfl ((iI_add _ _).trans (congrArg iI (by omega))) (by decide) rfl (fun ls hl => ?_)
        refine lv_goto (tgt := 26) X.1 X.2.1 d_M_coin_47 (by decide) ?_
        exact ih110 ((4 - (z105 + 1)).toNat) (by omega) (z105 + 1) (z107 + 1) I119 J119 B119 G119 _ _ _ rfl (by omega) (by omega) ((s119.2.1 33 (by decide)).trans e106) (x119.trans (congrArg iI (show (z107 + 1 : Int) = z107 + 1 by omega))) (by omega) (by omega) (by omega) Y S (lv_sub hl [1, 2, 0] rfl)
  refine lv_istore_n (lv' := [(2, .int (iI 0)), (1, .int (iI (cn / 20))), (0, .ref h)]) X.1 X.2.1 d_M_coin_25 rfl hl (by decide) rfl (fun ls hl => ?_)
  exact J109 _ 0 64 I103 J103 B103 G103 _ _ _ rfl (by omega) (by omega) ((s103.2.1 33 (by decide)).trans ((s102.2.1 33 (by decide)).trans gcn)) (x103.trans (congrArg iI (show (64 : Int) = 64 by omega))) (by omega) (by omega) (by omega) Y S (lv_sub hl [2, 1, 0] rfl)
set_option maxHeartbeats 4000000 in
set_option maxRecDepth 100000 in
theorem r_M_fourCoins (l : Launch) (D : mD) (E : mE) (h : Nat) (q : Nat → Nat) (sz : Nat) (I : Nat → Int32) (J : Nat → Int64) (B : Nat → Nat → Int32) (G : Nat → Nat → Int64) (hT : rT I B) (cn : Int) (gcn : I 33 = iI cn) (lcn : 0 ≤ cn) (ucn : cn ≤ 2000000) : Met l y_M_fourCoins (k_M_fourCoins :: lw_tg) (mR 6 178) (va_Pc [.ref h] (mPre D E h q (I, J, B, G) sz)) (va_Qi (rPi [8, 33] [5, 6, 7, 9, 10, 11] I B (fun (z : Int) (u : mS) => (-2147483648) ≤ z ∧ z ≤ 2147483647 ∧ u.1 33 = iI (cn + 4))) (mPost D E h q (mA E h q sz)) (mA E h q sz)) 0 0 (mA E h q sz) := by
  refine m_enter (by decide) rfl (Nat.le_of_ble_eq_true rfl) (fun p e s m below meth c ls AV QQ H locs hQQ X Y hZ hA hr hlk hml hl => ?_)
  have Y : mH D E (mA E h q sz) s.heap h q I J B G H locs := Y
  have S : rS [8, 33] [5, 6, 7, 9, 10, 11] I B I B := rS_rf hT
  have hl : lv_has ls 3 [(0, .ref h)] := hl
  refine lv_iconst (v := iI 0) X.1 X.2.1 d_M_fourCoins_0 (by decide) ?_
  refine lv_istore_n (lv' := [(1, .int (iI 0)), (0, .ref h)]) X.1 X.2.1 d_M_fourCoins_1 rfl hl (by decide) rfl (fun ls hl => ?_)
  refine lv_iconst (v := iI 0) X.1 X.2.1 d_M_fourCoins_2 (by decide) ?_
  have J106 : ∀ (n108 : Nat) (z102 : Int) (z103 : Int) (z104 : Int) (I101 : Nat → Int32) (J101 : Nat → Int64) (B101 : Nat → Nat → Int32) (G101 : Nat → Nat → Int64) (H : Heap) (locs : List Loc) (ls : Array Slot), (4 - z103).toNat = n108 → ((-2147483648) ≤ z102) → (z102 ≤ 2147483647) → (0 ≤ z103) → (z103 ≤ 4) → (I101 33 = iI z104) → (0 ≤ z104) → (z104 ≤ 2000100) → (z104 = cn + (z103 - 0)) → mH D E (mA E h q sz) s.heap h q I101 J101 B101 G101 H locs → rS [8, 33] [5, 6, 7, 9, 10, 11] I B I101 B101 → lv_has ls 3 [(0, .ref h), (1, .int (iI z102)), (2, .int (iI z103))] → W p l e (mR 6 178) s m AV below meth c H locs 0 0 QQ (F0 m 4 ls []) := by
    intro n108
    induction n108 using Nat.strongRecOn with
    | ind n108 ih107 =>
      intro z102 z103 z104 I101 J101 B101 G101 H locs ls hm109 l102 u102 l103 u103 e104 l104 u104 i105 Y S hl
      refine lv_iload_n X.1 X.2.1 d_M_fourCoins_4 rfl (lv_at hl 2 rfl) ?_
      refine lv_iconst (v := iI 4) X.1 X.2.1 d_M_fourCoins_5 (by decide) ?_
      refine z_icmp_ge (tgt := 25) X.1 X.2.1 d_M_fourCoins_6 (by decide) ⟨by omega, by omega⟩ ⟨by omega, by omega⟩ (fun h110 => ?_) (fun h110 => ?_)
      · refine lv_iload_n X.1 X.2.1 d_M_fourCoins_25 rfl (lv_at hl 1 rfl) ?_
        exact m_reti hQQ X Y hr hlk ⟨S, z102, rfl, ⟨by omega, by omega, ((e104).trans (congrArg iI (show (z104 : Int) = cn + 4 by omega)))⟩⟩ d_M_fourCoins_26
      · refine lv_iload_n X.1 X.2.1 d_M_fourCoins_9 rfl (lv_at hl 1 rfl) ?_
        refine lv_bipush (v := iI 8) X.1 X.2.1 d_M_fourCoins_10 (by decide) ?_
        refine lv_ishl X.1 X.2.1 d_M_fourCoins_12 ?_
        refine t_u (fun z111 l111 u111 => ?_)
        refine lv_aload_n X.1 X.2.1 d_M_fourCoins_13 rfl (lv_at hl 0 rfl) ?_
        refine r_ni (m_run (As := []) (rest := [.int (iI z111)]) (n := 0) X Y hZ hA hml hl.1 (r_M_coin l D E h q H.size I101 J101 B101 G101 S.1 z104 e104 (by omega) (by omega)) kl_M_coin ks_M_coin kx_M_coin ki_M_coin ini_M hd_M_coin ⟨Nat.le_of_ble_eq_true rfl, Nat.le_of_ble_eq_true rfl⟩ rfl (Nat.le_of_ble_eq_true rfl) d_M_fourCoins_14 ⟨Nat.le_refl _, Nat.le_refl _⟩) X Y hA S (by decide) (by decide) (fun z112 u H locs Y S s112 p112 => ?_)
        obtain ⟨I112, J112, B112, G112⟩ := u
        dsimp only at Y S s112 p112
        obtain ⟨l112, u112, x112⟩ := p112
        refine lv_ior X.1 X.2.1 d_M_fourCoins_17 ?_
        refine t_u (fun z113 l113 u113 => ?_)
        refine lv_istore_n (lv' := [(1, .int (iI z113)), (0, .ref h), (2, .int (iI z103))]) X.1 X.2.1 d_M_fourCoins_18 rfl hl (by decide) rfl (fun ls hl => ?_)
        refine lv_iinc (v := iI (z103 + 1)) (lv' := [(2, .int (iI (z103 + 1))), (1, .int (iI z113)), (0, .ref h)]) X.1 X.2.1 d_M_fourCoins_19 hl (k := 2) rfl ((iI_add _ _).trans (congrArg iI (by omega))) (by decide) rfl (fun ls hl => ?_)
        refine lv_goto (tgt := 4) X.1 X.2.1 d_M_fourCoins_22 (by decide) ?_
        exact ih107 ((4 - (z103 + 1)).toNat) (by omega) z113 (z103 + 1) (z104 + 1) I112 J112 B112 G112 _ _ _ rfl (by omega) (by omega) (by omega) (by omega) (x112.trans (congrArg iI (show (z104 + 1 : Int) = z104 + 1 by omega))) (by omega) (by omega) (by omega) Y S (lv_sub hl [2, 1, 0] rfl)
  refine lv_istore_n (lv' := [(2, .int (iI 0)), (1, .int (iI 0)), (0, .ref h)]) X.1 X.2.1 d_M_fourCoins_3 rfl hl (by decide) rfl (fun ls hl => ?_)
  exact J106 _ 0 0 cn I J B G _ _ _ rfl (by omega) (by omega) (by omega) (by omega) gcn (by omega) (by omega) (by omega) Y S (lv_sub hl [2, 1, 0] rfl)
set_option maxHeartbeats 4000000 in
set_option maxRecDepth 100000 in
theorem r_M_newKey_key (l : Launch) (D : mD) (E : mE) (h : Nat) (q : Nat → Nat) (sz : Nat) (I : Nat → Int32) (J : Nat → Int64) (B : Nat → Nat → Int32) (G : Nat → Nat → Int64) (a1 : Int) (l_a1 : (-2147483648) ≤ a1) (u_a1 : a1 ≤ 2147483647) (hT : rT I B) (cn : Int) (gcn : I 33 = iI cn) (lcn : 0 ≤ cn) (ucn : cn ≤ 2000000) : Met l y_M_newKey (k_M_newKey :: lw_tg) (mR 6 178) (va_Pc [.ref h, .int (iI a1), .ref (q 58)] (mPre D E h q (I, J, B, G) sz)) (va_Qv (rPv [8, 33] [5, 6, 7, 9, 10, 11, 58] I B (fun (u : mS) => (∃ V2 : Int, u.1 33 = iI V2 ∧ cn ≤ V2 ∧ V2 ≤ cn + 32))) (mPost D E h q (mA E h q sz)) (mA E h q sz)) 0 0 (mA E h q sz) := by
  refine m_enter (by decide) rfl (Nat.le_of_ble_eq_true rfl) (fun p e s m below meth c ls AV QQ H locs hQQ X Y hZ hA hr hlk hml hl => ?_)
  have Y : mH D E (mA E h q sz) s.heap h q I J B G H locs := Y
  have S : rS [8, 33] [5, 6, 7, 9, 10, 11, 58] I B I B := rS_rf hT
  have hl : lv_has ls 4 [(0, .ref h), (1, .int (iI a1)), (2, .ref ((q 58)))] := hl
  refine lv_iconst (v := iI 0) X.1 X.2.1 d_M_newKey_0 (by decide) ?_
  have J105 : ∀ (n107 : Nat) (z102 : Int) (z103 : Int) (I101 : Nat → Int32) (J101 : Nat → Int64) (B101 : Nat → Nat → Int32) (G101 : Nat → Nat → Int64) (H : Heap) (locs : List Loc) (ls : Array Slot), (32 - z102).toNat = n107 → (0 ≤ z102) → (z102 ≤ 32) → (I101 33 = iI z103) → (0 ≤ z103) → (z103 ≤ 2000100) → (z103 = cn + (z102 - 0)) → mH D E (mA E h q sz) s.heap h q I101 J101 B101 G101 H locs → rS [8, 33] [5, 6, 7, 9, 10, 11, 58] I B I101 B101 → lv_has ls 4 [(0, .ref h), (1, .int (iI a1)), (2, .ref ((q 58))), (3, .int (iI z102))] → W p l e (mR 6 178) s m AV below meth c H locs 0 0 QQ (F0 m 2 ls []) := by
    intro n107
    induction n107 using Nat.strongRecOn with
    | ind n107 ih106 =>
      intro z102 z103 I101 J101 B101 G101 H locs ls hm108 l102 u102 e103 l103 u103 i104 Y S hl
      refine lv_iload_n X.1 X.2.1 d_M_newKey_2 rfl (lv_at hl 3 rfl) ?_
      refine lv_iload_n X.1 X.2.1 d_M_newKey_3 rfl (lv_at hl 1 rfl) ?_
      refine p_calli (As := [.int (iI a1)]) (rest := [.int (iI z102)]) (n := 1) X Y hml hl.1 (r_M_size l a1 (by omega) (by omega)) kl_M_size ks_M_size ki_M_size ini_M hd_M_size ⟨Nat.le_of_ble_eq_true rfl, Nat.le_of_ble_eq_true rfl⟩ rfl (Nat.le_of_ble_eq_true rfl) d_M_newKey_4 ⟨Nat.le_refl _, Nat.le_refl _⟩ (fun r109 H locs p109 Y => ?_)
      obtain ⟨z109, e109, p109⟩ := p109
      subst e109
      obtain ⟨l109, u109, x109⟩ := p109
      refine z_icmp_ge (tgt := 24) X.1 X.2.1 d_M_newKey_7 (by decide) ⟨by omega, by omega⟩ ⟨by omega, by omega⟩ (fun h110 => ?_) (fun h110 => ?_)
      · exact m_retv hQQ X Y hr hlk ⟨S, ⟨z103, e103, by omega, by omega⟩⟩ d_M_newKey_24
      · refine lv_aload_n X.1 X.2.1 d_M_newKey_10 rfl (lv_at hl 2 rfl) ?_
        refine lv_iload_n X.1 X.2.1 d_M_newKey_11 rfl (lv_at hl 3 rfl) ?_
        refine lv_aload_n X.1 X.2.1 d_M_newKey_12 rfl (lv_at hl 0 rfl) ?_
        refine r_ni (m_run (As := []) (rest := [.int (iI z102), .ref ((q 58))]) (n := 0) X Y hZ hA hml hl.1 (r_M_coin l D E h q H.size I101 J101 B101 G101 S.1 z103 e103 (by omega) (by omega)) kl_M_coin ks_M_coin kx_M_coin ki_M_coin ini_M hd_M_coin ⟨Nat.le_of_ble_eq_true rfl, Nat.le_of_ble_eq_true rfl⟩ rfl (Nat.le_of_ble_eq_true rfl) d_M_newKey_13 ⟨Nat.le_refl _, Nat.le_refl _⟩) X Y hA S (by decide) (by decide) (fun z111 u H locs Y S s111 p111 => ?_)
        obtain ⟨I111, J111, B111, G111⟩ := u
        dsimp only at Y S s111 p111
        obtain ⟨l111, u111, x111⟩ := p111
        refine lv_i2b X.1 X.2.1 d_M_newKey_16 rfl ?_
        refine t_u (fun z112 l112 u112 => ?_)
        refine r_bast X Y S (aw_key _ _ _ _ _ _ _) (sw_key _ _ _ _ _ _ _) rfl (by omega) (show z102 < ((32 : Nat) : Int) by omega) (by omega) (by decide) d_M_newKey_17 (fun B113 H locs Y S w113 => ?_)
        refine lv_iinc (v := iI (z102 + 1)) (lv' := [(3, .int (iI (z102 + 1))), (0, .ref h), (1, .int (iI a1)), (2, .ref ((q 58)))]) X.1 X.2.1 d_M_newKey_18 hl (k := 3) rfl ((iI_add _ _).trans (congrArg iI (by omega))) (by decide) rfl (fun ls hl => ?_)
        refine lv_goto (tgt := 2) X.1 X.2.1 d_M_newKey_21 (by decide) ?_
        exact ih106 ((32 - (z102 + 1)).toNat) (by omega) (z102 + 1) (z103 + 1) I111 J111 B113 G111 _ _ _ rfl (by omega) (by omega) (x111.trans (congrArg iI (show (z103 + 1 : Int) = z103 + 1 by omega))) (by omega) (by omega) (by omega) Y S (lv_sub hl [1, 2, 3, 0] rfl)
  refine lv_istore_n (lv' := [(3, .int (iI 0)), (0, .ref h), (1, .int (iI a1)), (2, .ref ((q 58)))]) X.1 X.2.1 d_M_newKey_1 rfl hl (by decide) rfl (fun ls hl => ?_)
  exact J105 _ 0 cn I J B G _ _ _ rfl (by omega) (by omega) gcn (by omega) (by omega) (by omega) Y S (lv_sub hl [1, 2, 3, 0] rfl)
set_option maxHeartbeats 4000000 in
set_option maxRecDepth 100000 in
theorem r_M_aesKey_key (l : Launch) (D : mD) (E : mE) (h : Nat) (q : Nat → Nat) (sz : Nat) (I : Nat → Int32) (J : Nat → Int64) (B : Nat → Nat → Int32) (G : Nat → Nat → Int64) (a2 : Int) (l_a2 : 16 ≤ a2) (u_a2 : a2 ≤ 32) (hT : rT I B) : Met l y_M_aesKey (k_M_aesKey :: lw_tg) (mR 4 129) (va_Pc [.ref h, .ref (q 58), .int (iI a2)] (mPre D E h q (I, J, B, G) sz)) (va_Qv (rPv [14, 18] [12, 13, 15] I B (fun (u : mS) => True)) (mPost D E h q (mA E h q sz)) (mA E h q sz)) 0 0 (mA E h q sz) := by
  refine m_enter (by decide) rfl (Nat.le_of_ble_eq_true rfl) (fun p e s m below meth c ls AV QQ H locs hQQ X Y hZ hA hr hlk hml hl => ?_)
  have Y : mH D E (mA E h q sz) s.heap h q I J B G H locs := Y
  have S : rS [14, 18] [12, 13, 15] I B I B := rS_rf hT
  have hl : lv_has ls 7 [(0, .ref h), (1, .ref ((q 58))), (2, .int (iI a2))] := hl
  refine lv_aload_n X.1 X.2.1 d_M_aesKey_0 rfl (lv_at hl 0 rfl) ?_
  refine r_geti (k := 14) X Y S (by decide) lk_hasBox (gf_hasBox _ _ _) rfl rfl d_M_aesKey_1 (fun z101 e101 l101 u101 => ?_)
  have J103 : ∀ (I102 : Nat → Int32) (J102 : Nat → Int64) (B102 : Nat → Nat → Int32) (G102 : Nat → Nat → Int64) (H : Heap) (locs : List Loc) (ls : Array Slot), mH D E (mA E h q sz) s.heap h q I102 J102 B102 G102 H locs → rS [14, 18] [12, 13, 15] I B I102 B102 → lv_has ls 7 [(0, .ref h), (1, .ref ((q 58))), (2, .int (iI a2))] → W p l e (mR 4 129) s m AV below meth c H locs 0 0 QQ (F0 m 11 ls []) := by
    intro I102 J102 B102 G102 H locs ls  Y S hl
    refine lv_iload_n X.1 X.2.1 d_M_aesKey_11 rfl (lv_at hl 2 rfl) ?_
    refine lv_iconst (v := iI 4) X.1 X.2.1 d_M_aesKey_12 (by decide) ?_
    refine z_idiv X.1 X.2.1 (by omega) (by omega) ⟨by decide, by decide⟩ d_M_aesKey_13 ?_
    refine lv_istore_n (lv' := [(3, .int (iI (a2 / 4))), (0, .ref h), (1, .ref ((q 58))), (2, .int (iI a2))]) X.1 X.2.1 d_M_aesKey_14 rfl hl (by decide) rfl (fun ls hl => ?_)
    refine lv_aload_n X.1 X.2.1 d_M_aesKey_15 rfl (lv_at hl 1 rfl) ?_
    refine lv_iload_n X.1 X.2.1 d_M_aesKey_16 rfl (lv_at hl 0 rfl) ?_
    refine lv_bipush (v := iI 6) X.1 X.2.1 d_M_aesKey_17 (by decide) ?_
    refine z_iadd X.1 X.2.1 d_M_aesKey_19 ?_
    refine r_puti (k := 18) X Y S (by decide) lk_rounds rfl rfl (t_M_ok 18 (by decide)) rfl rfl (sf_rounds _ _ _ _) (Nat.le_of_ble_eq_true rfl) rfl (show (0 : Int) ≤ (a2 / 4) + 6 by omega) (show (a2 / 4) + 6 ≤ (14 : Int) by omega) ⟨by omega, by omega⟩ (by decide) d_M_aesKey_20 (fun I107 H locs Y S w107 => ?_)
    refine lv_iconst (v := iI 0) X.1 X.2.1 d_M_aesKey_23 (by decide) ?_
    have J110 : ∀ (n112 : Nat) (z109 : Int) (I108 : Nat → Int32) (J108 : Nat → Int64) (B108 : Nat → Nat → Int32) (G108 : Nat → Nat → Int64) (H : Heap) (locs : List Loc) (ls : Array Slot), (8 - z109).toNat = n112 → (0 ≤ z109) → (z109 ≤ 8) → mH D E (mA E h q sz) s.heap h q I108 J108 B108 G108 H locs → rS [14, 18] [12, 13, 15] I B I108 B108 → lv_has ls 7 [(0, .ref h), (1, .ref ((q 58))), (3, .int (iI (a2 / 4))), (4, .int (iI z109))] → W p l e (mR 4 129) s m AV below meth c H locs 0 0 QQ (F0 m 26 ls []) := by
      intro n112
      induction n112 using Nat.strongRecOn with
      | ind n112 ih111 =>
        intro z109 I108 J108 B108 G108 H locs ls hm113 l109 u109 Y S hl
        refine lv_iload X.1 X.2.1 d_M_aesKey_26 (lv_at hl 3 rfl) ?_
        refine lv_iload_n X.1 X.2.1 d_M_aesKey_28 rfl (lv_at hl 2 rfl) ?_
        refine z_icmp_ge (tgt := 99) X.1 X.2.1 d_M_aesKey_29 (by decide) ⟨by omega, by omega⟩ ⟨by omega, by omega⟩ (fun h114 => ?_) (fun h114 => ?_)
        · refine lv_iconst (v := iI 1) X.1 X.2.1 d_M_aesKey_99 (by decide) ?_
          refine lv_istore (lv' := [(4, .int (iI 1)), (0, .ref h), (1, .ref ((q 58))), (3, .int (iI (a2 / 4)))]) X.1 X.2.1 d_M_aesKey_100 hl (by decide) rfl (fun ls hl => ?_)
          refine lv_iload_n X.1 X.2.1 d_M_aesKey_102 rfl (lv_at hl 3 rfl) ?_
          have J119 : ∀ (n121 : Nat) (z116 : Int) (z117 : Int) (I115 : Nat → Int32) (J115 : Nat → Int64) (B115 : Nat → Nat → Int32) (G115 : Nat → Nat → Int64) (H : Heap) (locs : List Loc) (ls : Array Slot), (60 - z117).toNat = n121 → (0 ≤ z116) → (z116 ≤ 255) → (4 ≤ z117) → (z117 ≤ 60) → (a2 / 4 ≤ z117) → mH D E (mA E h q sz) s.heap h q I115 J115 B115 G115 H locs → rS [14, 18] [12, 13, 15] I B I115 B115 → lv_has ls 7 [(0, .ref h), (3, .int (iI (a2 / 4))), (4, .int (iI z116)), (5, .int (iI z117))] → W p l e (mR 4 129) s m AV below meth c H locs 0 0 QQ (F0 m 105 ls []) := by
            intro n121
            induction n121 using Nat.strongRecOn with
            | ind n121 ih120 =>
              intro z116 z117 I115 J115 B115 G115 H locs ls hm122 l116 u116 l117 u117 i118 Y S hl
              refine lv_iload X.1 X.2.1 d_M_aesKey_105 (lv_at hl 3 rfl) ?_
              refine lv_iconst (v := iI 4) X.1 X.2.1 d_M_aesKey_107 (by decide) ?_
              refine lv_aload_n X.1 X.2.1 d_M_aesKey_108 rfl (lv_at hl 0 rfl) ?_
              refine r_geti (k := 18) X Y S (by decide) lk_rounds (gf_rounds _ _ _) rfl rfl d_M_aesKey_109 (fun z123 e123 l123 u123 => ?_)
              refine lv_iconst (v := iI 1) X.1 X.2.1 d_M_aesKey_112 (by decide) ?_
              refine z_iadd X.1 X.2.1 d_M_aesKey_113 ?_
              refine z_imul X.1 X.2.1 d_M_aesKey_114 ?_
              refine z_icmp_ge (tgt := 212) X.1 X.2.1 d_M_aesKey_115 (by decide) ⟨by omega, by omega⟩ ⟨by omega, by omega⟩ (fun h124 => ?_) (fun h124 => ?_)
              · exact m_retv hQQ X Y hr hlk ⟨S, trivial⟩ d_M_aesKey_212
              · refine lv_aload_n X.1 X.2.1 d_M_aesKey_118 rfl (lv_at hl 0 rfl) ?_
                refine m_get X Y 15 (by decide) lk_schedule (gf_schedule _ _ _) rfl d_M_aesKey_119 ?_
                refine lv_iload X.1 X.2.1 d_M_aesKey_122 (lv_at hl 3 rfl) ?_
                refine lv_iconst (v := iI 1) X.1 X.2.1 d_M_aesKey_124 (by decide) ?_
                refine z_isub X.1 X.2.1 d_M_aesKey_125 ?_
                refine r_iald X Y S (aw_schedule _ _ _ _ _ _ _) rfl (by omega) (show z117 - 1 < ((60 : Nat) : Int) by omega) (by omega) d_M_aesKey_126 (fun z125 q125 l125 u125 => ?_)
                refine lv_istore (lv' := [(6, .int (iI z125)), (0, .ref h), (3, .int (iI (a2 / 4))), (4, .int (iI z116)), (5, .int (iI z117))]) X.1 X.2.1 d_M_aesKey_127 hl (by decide) rfl (fun ls hl => ?_)
                refine lv_iload X.1 X.2.1 d_M_aesKey_129 (lv_at hl 4 rfl) ?_
                refine lv_iload_n X.1 X.2.1 d_M_aesKey_131 rfl (lv_at hl 2 rfl) ?_
                refine lv_irem X.1 X.2.1 d_M_aesKey_132 (iI_ne0 ⟨by omega, by omega⟩ (by omega)) ?_
                refine t_u (fun z126 l126 u126 => ?_)
                have J130 : ∀ (z128 : Int) (z129 : Int) (I127 : Nat → Int32) (J127 : Nat → Int64) (B127 : Nat → Nat → Int32) (G127 : Nat → Nat → Int64) (H : Heap) (locs : List Loc) (ls : Array Slot), (0 ≤ z128) → (z128 ≤ 255) → ((-2147483648) ≤ z129) → (z129 ≤ 2147483647) → mH D E (mA E h q sz) s.heap h q I127 J127 B127 G127 H locs → rS [14, 18] [12, 13, 15] I B I127 B127 → lv_has ls 7 [(0, .ref h), (3, .int (iI (a2 / 4))), (4, .int (iI z128)), (5, .int (iI z117)), (6, .int (iI z129))] → W p l e (mR 4 129) s m AV below meth c H locs 0 0 QQ (F0 m 187 ls []) := by
                  intro z128 z129 I127 J127 B127 G127 H locs ls l128 u128 l129 u129 Y S hl
                  refine lv_aload_n X.1 X.2.1 d_M_aesKey_187 rfl (lv_at hl 0 rfl) ?_
                  refine m_get X Y 15 (by decide) lk_schedule (gf_schedule _ _ _) rfl d_M_aesKey_188 ?_
                  refine lv_iload X.1 X.2.1 d_M_aesKey_191 (lv_at hl 3 rfl) ?_
                  refine lv_aload_n X.1 X.2.1 d_M_aesKey_193 rfl (lv_at hl 0 rfl) ?_
                  refine m_get X Y 15 (by decide) lk_schedule (gf_schedule _ _ _) rfl d_M_aesKey_194 ?_
                  refine lv_iload X.1 X.2.1 d_M_aesKey_197 (lv_at hl 3 rfl) ?_
                  refine lv_iload_n X.1 X.2.1 d_M_aesKey_199 rfl (lv_at hl 1 rfl) ?_
                  refine z_isub X.1 X.2.1 d_M_aesKey_200 ?_
                  refine r_iald X Y S (aw_schedule _ _ _ _ _ _ _) rfl (by omega) (show z117 - (a2 / 4) < ((60 : Nat) : Int) by omega) (by omega) d_M_aesKey_201 (fun z134 q134 l134 u134 => ?_)
                  refine lv_iload X.1 X.2.1 d_M_aesKey_202 (lv_at hl 4 rfl) ?_
                  refine lv_ixor X.1 X.2.1 d_M_aesKey_204 ?_
                  refine t_u (fun z135 l135 u135 => ?_)
                  refine r_iast X Y S (aw_schedule _ _ _ _ _ _ _) (sw_schedule _ _ _ _ _ _ _) rfl ⟨(show ((-2147483648) : Int) ≤ z135 by omega), (show z135 ≤ (2147483647 : Int) by omega)⟩ ⟨by omega, by omega⟩ (by omega) (show z117 < ((60 : Nat) : Int) by omega) (by omega) (by decide) d_M_aesKey_205 (fun B136 H locs Y S w136 => ?_)
                  refine lv_iinc (v := iI (z117 + 1)) (lv' := [(5, .int (iI (z117 + 1))), (0, .ref h), (3, .int (iI (a2 / 4))), (4, .int (iI z128)), (6, .int (iI z129))]) X.1 X.2.1 d_M_aesKey_206 hl (k := 3) rfl ((iI_add _ _).trans (congrArg iI (by omega))) (by decide) rfl (fun ls hl => ?_)
                  refine lv_goto (tgt := 105) X.1 X.2.1 d_M_aesKey_209 (by decide) ?_
                  exact ih120 ((60 - (z117 + 1)).toNat) (by omega) z128 (z117 + 1) I127 J127 B136 G127 _ _ _ rfl (by omega) (by omega) (by omega) (by omega) (by omega) Y S (lv_sub hl [1, 2, 3, 0] rfl)
                refine z_if_ne (tgt := 165) X.1 X.2.1 d_M_aesKey_133 (by decide) ⟨by omega, by omega⟩ (fun h137 => ?_) (fun h137 => ?_)
                · refine lv_iload_n X.1 X.2.1 d_M_aesKey_165 rfl (lv_at hl 2 rfl) ?_
                  refine lv_bipush (v := iI 6) X.1 X.2.1 d_M_aesKey_166 (by decide) ?_
                  refine z_icmp_le (tgt := 187) X.1 X.2.1 d_M_aesKey_168 (by decide) ⟨by omega, by omega⟩ ⟨by omega, by omega⟩ (fun h138 => ?_) (fun h138 => ?_)
                  · exact J130 z116 z125 I115 J115 B115 G115 _ _ _ (by omega) (by omega) (by omega) (by omega) Y S (lv_sub hl [1, 2, 3, 4, 0] rfl)
                  · refine lv_iload X.1 X.2.1 d_M_aesKey_171 (lv_at hl 4 rfl) ?_
                    refine lv_iload_n X.1 X.2.1 d_M_aesKey_173 rfl (lv_at hl 2 rfl) ?_
                    refine lv_irem X.1 X.2.1 d_M_aesKey_174 (iI_ne0 ⟨by omega, by omega⟩ (by omega)) ?_
                    refine t_u (fun z139 l139 u139 => ?_)
                    refine lv_iconst (v := iI 4) X.1 X.2.1 d_M_aesKey_175 (by decide) ?_
                    refine z_icmp_ne (tgt := 187) X.1 X.2.1 d_M_aesKey_176 (by decide) ⟨by omega, by omega⟩ ⟨by omega, by omega⟩ (fun h140 => ?_) (fun h140 => ?_)
                    · exact J130 z116 z125 I115 J115 B115 G115 _ _ _ (by omega) (by omega) (by omega) (by omega) Y S (lv_sub hl [1, 2, 3, 4, 0] rfl)
                    · refine lv_aload_n X.1 X.2.1 d_M_aesKey_179 rfl (lv_at hl 1 rfl) ?_
                      refine lv_iload X.1 X.2.1 d_M_aesKey_180 (lv_at hl 0 rfl) ?_
                      refine r_ni (m_run (As := [.int (iI z125)]) (rest := []) (n := 1) X Y hZ hA hml hl.1 (r_M_boxed l D E h q H.size I115 J115 B115 G115 z125 (by omega) (by omega) S.1) kl_M_boxed ks_M_boxed kx_M_boxed ki_M_boxed ini_M hd_M_boxed ⟨Nat.le_of_ble_eq_true rfl, Nat.le_of_ble_eq_true rfl⟩ rfl (Nat.le_of_ble_eq_true rfl) d_M_aesKey_182 ⟨Nat.le_refl _, Nat.le_refl _⟩) X Y hA S (by decide) (by decide) (fun z141 u H locs Y S s141 p141 => ?_)
                      obtain ⟨I141, J141, B141, G141⟩ := u
                      dsimp only at Y S s141 p141
                      obtain ⟨l141, u141⟩ := p141
                      refine lv_istore (lv' := [(6, .int (iI z141)), (0, .ref h), (3, .int (iI (a2 / 4))), (4, .int (iI z116)), (5, .int (iI z117))]) X.1 X.2.1 d_M_aesKey_185 hl (by decide) rfl (fun ls hl => ?_)
                      exact J130 z116 z141 I141 J141 B141 G141 _ _ _ (by omega) (by omega) (by omega) (by omega) Y S (lv_sub hl [1, 2, 3, 4, 0] rfl)
                · refine lv_aload_n X.1 X.2.1 d_M_aesKey_136 rfl (lv_at hl 1 rfl) ?_
                  refine lv_iload X.1 X.2.1 d_M_aesKey_137 (lv_at hl 0 rfl) ?_
                  refine lv_bipush (v := iI 8) X.1 X.2.1 d_M_aesKey_139 (by decide) ?_
                  refine p_calli (As := [.int (iI z125), .int (iI 8)]) (rest := [.ref h]) (n := 2) X Y hml hl.1 (r_M_left l z125 (by omega) (by omega) 8 (by omega) (by omega)) kl_M_left ks_M_left ki_M_left ini_M hd_M_left ⟨Nat.le_of_ble_eq_true rfl, Nat.le_of_ble_eq_true rfl⟩ rfl (Nat.le_of_ble_eq_true rfl) d_M_aesKey_141 ⟨Nat.le_refl _, Nat.le_refl _⟩ (fun r142 H locs p142 Y => ?_)
                  obtain ⟨z142, e142, p142⟩ := p142
                  subst e142
                  obtain ⟨l142, u142⟩ := p142
                  refine r_ni (m_run (As := [.int (iI z142)]) (rest := []) (n := 1) X Y hZ hA hml hl.1 (r_M_boxed l D E h q H.size I115 J115 B115 G115 z142 (by omega) (by omega) S.1) kl_M_boxed ks_M_boxed kx_M_boxed ki_M_boxed ini_M hd_M_boxed ⟨Nat.le_of_ble_eq_true rfl, Nat.le_of_ble_eq_true rfl⟩ rfl (Nat.le_of_ble_eq_true rfl) d_M_aesKey_144 ⟨Nat.le_refl _, Nat.le_refl _⟩) X Y hA S (by decide) (by decide) (fun z143 u H locs Y S s143 p143 => ?_)
                  obtain ⟨I143, J143, B143, G143⟩ := u
                  dsimp only at Y S s143 p143
                  obtain ⟨l143, u143⟩ := p143
                  refine lv_iload X.1 X.2.1 d_M_aesKey_147 (lv_at hl 3 rfl) ?_
                  refine lv_bipush (v := iI 24) X.1 X.2.1 d_M_aesKey_149 (by decide) ?_
                  refine lv_ishl X.1 X.2.1 d_M_aesKey_151 ?_
                  refine t_u (fun z144 l144 u144 => ?_)
                  refine lv_ixor X.1 X.2.1 d_M_aesKey_152 ?_
                  refine t_u (fun z145 l145 u145 => ?_)
                  refine lv_istore (lv' := [(6, .int (iI z145)), (0, .ref h), (3, .int (iI (a2 / 4))), (4, .int (iI z116)), (5, .int (iI z117))]) X.1 X.2.1 d_M_aesKey_153 hl (by decide) rfl (fun ls hl => ?_)
                  refine lv_iload X.1 X.2.1 d_M_aesKey_155 (lv_at hl 3 rfl) ?_
                  refine p_calli (As := [.int (iI z116)]) (rest := []) (n := 1) X Y hml hl.1 (r_M_twice l z116 (by omega) (by omega)) kl_M_twice ks_M_twice ki_M_twice ini_M hd_M_twice ⟨Nat.le_of_ble_eq_true rfl, Nat.le_of_ble_eq_true rfl⟩ rfl (Nat.le_of_ble_eq_true rfl) d_M_aesKey_157 ⟨Nat.le_refl _, Nat.le_refl _⟩ (fun r146 H locs p146 Y => ?_)
                  obtain ⟨z146, e146, p146⟩ := p146
                  subst e146
                  obtain ⟨l146, u146⟩ := p146
                  refine lv_istore (lv' := [(4, .int (iI z146)), (6, .int (iI z145)), (0, .ref h), (3, .int (iI (a2 / 4))), (5, .int (iI z117))]) X.1 X.2.1 d_M_aesKey_160 hl (by decide) rfl (fun ls hl => ?_)
                  refine lv_goto (tgt := 187) X.1 X.2.1 d_M_aesKey_162 (by decide) ?_
                  exact J130 z146 z145 I143 J143 B143 G143 _ _ _ (by omega) (by omega) (by omega) (by omega) Y S (lv_sub hl [2, 3, 0, 4, 1] rfl)
          refine lv_istore (lv' := [(5, .int (iI (a2 / 4))), (4, .int (iI 1)), (0, .ref h), (1, .ref ((q 58))), (3, .int (iI (a2 / 4)))]) X.1 X.2.1 d_M_aesKey_103 hl (by decide) rfl (fun ls hl => ?_)
          exact J119 _ 1 (a2 / 4) I108 J108 B108 G108 _ _ _ rfl (by omega) (by omega) (by omega) (by omega) (by omega) Y S (lv_sub hl [2, 4, 1, 0] rfl)
        · refine lv_aload_n X.1 X.2.1 d_M_aesKey_32 rfl (lv_at hl 0 rfl) ?_
          refine m_get X Y 15 (by decide) lk_schedule (gf_schedule _ _ _) rfl d_M_aesKey_33 ?_
          refine lv_iload X.1 X.2.1 d_M_aesKey_36 (lv_at hl 3 rfl) ?_
          refine lv_aload_n X.1 X.2.1 d_M_aesKey_38 rfl (lv_at hl 1 rfl) ?_
          refine lv_iconst (v := iI 4) X.1 X.2.1 d_M_aesKey_39 (by decide) ?_
          refine lv_iload X.1 X.2.1 d_M_aesKey_40 (lv_at hl 3 rfl) ?_
          refine z_imul X.1 X.2.1 d_M_aesKey_42 ?_
          refine r_bald X Y S (aw_key _ _ _ _ _ _ _) rfl (by omega) (show 4 * z109 < ((32 : Nat) : Int) by omega) (by omega) d_M_aesKey_43 (fun z147 q147 l147 u147 => ?_)
          refine lv_bipush (v := iI 24) X.1 X.2.1 d_M_aesKey_44 (by decide) ?_
          refine lv_ishl X.1 X.2.1 d_M_aesKey_46 ?_
          refine t_u (fun z148 l148 u148 => ?_)
          refine lv_aload_n X.1 X.2.1 d_M_aesKey_47 rfl (lv_at hl 1 rfl) ?_
          refine lv_iconst (v := iI 4) X.1 X.2.1 d_M_aesKey_48 (by decide) ?_
          refine lv_iload X.1 X.2.1 d_M_aesKey_49 (lv_at hl 3 rfl) ?_
          refine z_imul X.1 X.2.1 d_M_aesKey_51 ?_
          refine lv_iconst (v := iI 1) X.1 X.2.1 d_M_aesKey_52 (by decide) ?_
          refine z_iadd X.1 X.2.1 d_M_aesKey_53 ?_
          refine r_bald X Y S (aw_key _ _ _ _ _ _ _) rfl (by omega) (show (4 * z109) + 1 < ((32 : Nat) : Int) by omega) (by omega) d_M_aesKey_54 (fun z149 q149 l149 u149 => ?_)
          refine lv_sipush (v := iI 255) X.1 X.2.1 d_M_aesKey_55 (by decide) ?_
          refine z_iand X.1 X.2.1 (by omega) (by omega) d_M_aesKey_58 (fun z150 l150 u150 => ?_)
          refine lv_bipush (v := iI 16) X.1 X.2.1 d_M_aesKey_59 (by decide) ?_
          refine lv_ishl X.1 X.2.1 d_M_aesKey_61 ?_
          refine t_u (fun z151 l151 u151 => ?_)
          refine lv_ior X.1 X.2.1 d_M_aesKey_62 ?_
          refine t_u (fun z152 l152 u152 => ?_)
          refine lv_aload_n X.1 X.2.1 d_M_aesKey_63 rfl (lv_at hl 1 rfl) ?_
          refine lv_iconst (v := iI 4) X.1 X.2.1 d_M_aesKey_64 (by decide) ?_
          refine lv_iload X.1 X.2.1 d_M_aesKey_65 (lv_at hl 3 rfl) ?_
          refine z_imul X.1 X.2.1 d_M_aesKey_67 ?_
          refine lv_iconst (v := iI 2) X.1 X.2.1 d_M_aesKey_68 (by decide) ?_
          refine z_iadd X.1 X.2.1 d_M_aesKey_69 ?_
          refine r_bald X Y S (aw_key _ _ _ _ _ _ _) rfl (by omega) (show (4 * z109) + 2 < ((32 : Nat) : Int) by omega) (by omega) d_M_aesKey_70 (fun z153 q153 l153 u153 => ?_)
          refine lv_sipush (v := iI 255) X.1 X.2.1 d_M_aesKey_71 (by decide) ?_
          refine z_iand X.1 X.2.1 (by omega) (by omega) d_M_aesKey_74 (fun z154 l154 u154 => ?_)
          refine lv_bipush (v := iI 8) X.1 X.2.1 d_M_aesKey_75 (by decide) ?_
          refine lv_ishl X.1 X.2.1 d_M_aesKey_77 ?_
          refine t_u (fun z155 l155 u155 => ?_)
          refine lv_ior X.1 X.2.1 d_M_aesKey_78 ?_
          refine t_u (fun z156 l156 u156 => ?_)
          refine lv_aload_n X.1 X.2.1 d_M_aesKey_79 rfl (lv_at hl 1 rfl) ?_
          refine lv_iconst (v := iI 4) X.1 X.2.1 d_M_aesKey_80 (by decide) ?_
          refine lv_iload X.1 X.2.1 d_M_aesKey_81 (lv_at hl 3 rfl) ?_
          refine z_imul X.1 X.2.1 d_M_aesKey_83 ?_
          refine lv_iconst (v := iI 3) X.1 X.2.1 d_M_aesKey_84 (by decide) ?_
          refine z_iadd X.1 X.2.1 d_M_aesKey_85 ?_
          refine r_bald X Y S (aw_key _ _ _ _ _ _ _) rfl (by omega) (show (4 * z109) + 3 < ((32 : Nat) : Int) by omega) (by omega) d_M_aesKey_86 (fun z157 q157 l157 u157 => ?_)
          refine lv_sipush (v := iI 255) X.1 X.2.1 d_M_aesKey_87 (by decide) ?_
          refine z_iand X.1 X.2.1 (by omega) (by omega) d_M_aesKey_90 (fun z158 l158 u158 => ?_)
          refine lv_ior X.1 X.2.1 d_M_aesKey_91 ?_
          refine t_u (fun z159 l159 u159 => ?_)
          refine r_iast X Y S (aw_schedule _ _ _ _ _ _ _) (sw_schedule _ _ _ _ _ _ _) rfl ⟨(show ((-2147483648) : Int) ≤ z159 by omega), (show z159 ≤ (2147483647 : Int) by omega)⟩ ⟨by omega, by omega⟩ (by omega) (show z109 < ((60 : Nat) : Int) by omega) (by omega) (by decide) d_M_aesKey_92 (fun B160 H locs Y S w160 => ?_)
          refine lv_iinc (v := iI (z109 + 1)) (lv' := [(4, .int (iI (z109 + 1))), (0, .ref h), (1, .ref ((q 58))), (3, .int (iI (a2 / 4)))]) X.1 X.2.1 d_M_aesKey_93 hl (k := 3) rfl ((iI_add _ _).trans (congrArg iI (by omega))) (by decide) rfl (fun ls hl => ?_)
          refine lv_goto (tgt := 26) X.1 X.2.1 d_M_aesKey_96 (by decide) ?_
          exact ih111 ((8 - (z109 + 1)).toNat) (by omega) (z109 + 1) I108 J108 B160 G108 _ _ _ rfl (by omega) (by omega) Y S (lv_sub hl [1, 2, 3, 0] rfl)
    refine lv_istore (lv' := [(4, .int (iI 0)), (3, .int (iI (a2 / 4))), (0, .ref h), (1, .ref ((q 58))), (2, .int (iI a2))]) X.1 X.2.1 d_M_aesKey_24 hl (by decide) rfl (fun ls hl => ?_)
    exact J110 _ 0 I107 J102 B102 G102 _ _ _ rfl (by omega) (by omega) Y S (lv_sub hl [2, 3, 1, 0] rfl)
  refine z_if_ne (tgt := 11) X.1 X.2.1 d_M_aesKey_4 (by decide) ⟨by omega, by omega⟩ (fun h161 => ?_) (fun h161 => ?_)
  · exact J103 I J B G _ _ _  Y S (lv_sub hl [0, 1, 2] rfl)
  · refine lv_aload_n X.1 X.2.1 d_M_aesKey_7 rfl (lv_at hl 0 rfl) ?_
    refine r_nv (m_run (As := []) (rest := []) (n := 0) X Y hZ hA hml hl.1 (r_M_makeBox l D E h q H.size I J B G S.1) kl_M_makeBox ks_M_makeBox kx_M_makeBox ki_M_makeBox ini_M hd_M_makeBox ⟨Nat.le_of_ble_eq_true rfl, Nat.le_of_ble_eq_true rfl⟩ rfl (Nat.le_of_ble_eq_true rfl) d_M_aesKey_8 ⟨Nat.le_refl _, Nat.le_refl _⟩) X Y hA S (by decide) (by decide) (fun u H locs Y S s162 p162 => ?_)
    obtain ⟨I162, J162, B162, G162⟩ := u
    dsimp only at Y S s162 p162
    exact J103 I162 J162 B162 G162 _ _ _  Y S (lv_sub hl [0, 1, 2] rfl)
set_option maxHeartbeats 4000000 in
set_option maxRecDepth 100000 in
theorem r_M_derive_key_constant_use (l : Launch) (D : mD) (E : mE) (h : Nat) (q : Nat → Nat) (sz : Nat) (I : Nat → Int32) (J : Nat → Int64) (B : Nat → Nat → Int32) (G : Nat → Nat → Int64) (a2 : Int) (l_a2 : 16 ≤ a2) (u_a2 : a2 ≤ 32) (hT : rT I B) : Met l y_M_derive (k_M_derive :: lw_tg) (mR 5 155) (va_Pc [.ref h, .ref (q 58), .int (iI a2), .ref (q 22), .int (iI 5), .ref (q 23)] (mPre D E h q (I, J, B, G) sz)) (va_Qv (rPv [14, 18] [12, 13, 15, 16, 17, 19, 20, 21, 23] I B (fun (u : mS) => True)) (mPost D E h q (mA E h q sz)) (mA E h q sz)) 0 0 (mA E h q sz) := by
  refine m_enter (by decide) rfl (Nat.le_of_ble_eq_true rfl) (fun p e s m below meth c ls AV QQ H locs hQQ X Y hZ hA hr hlk hml hl => ?_)
  have Y : mH D E (mA E h q sz) s.heap h q I J B G H locs := Y
  have S : rS [14, 18] [12, 13, 15, 16, 17, 19, 20, 21, 23] I B I B := rS_rf hT
  have hl : lv_has ls 8 [(0, .ref h), (1, .ref ((q 58))), (2, .int (iI a2)), (3, .ref ((q 22))), (4, .int (iI 5)), (5, .ref ((q 23)))] := hl
  refine lv_aload_n X.1 X.2.1 d_M_derive_0 rfl (lv_at hl 0 rfl) ?_
  refine lv_aload_n X.1 X.2.1 d_M_derive_1 rfl (lv_at hl 3 rfl) ?_
  refine lv_iload X.1 X.2.1 d_M_derive_2 (lv_at hl 4 rfl) ?_
  refine r_nv (m_run (As := [.ref ((q 22)), .int (iI 5)]) (rest := []) (n := 2) X Y hZ hA hml hl.1 (r_M_foldOf_constant l D E h q H.size I J B G S.1) kl_M_foldOf ks_M_foldOf kx_M_foldOf ki_M_foldOf ini_M hd_M_foldOf ⟨Nat.le_of_ble_eq_true rfl, Nat.le_of_ble_eq_true rfl⟩ rfl (Nat.le_of_ble_eq_true rfl) d_M_derive_4 ⟨Nat.le_refl _, Nat.le_refl _⟩) X Y hA S (by decide) (by decide) (fun u H locs Y S s101 p101 => ?_)
  obtain ⟨I101, J101, B101, G101⟩ := u
  dsimp only at Y S s101 p101
  refine lv_aload_n X.1 X.2.1 d_M_derive_7 rfl (lv_at hl 0 rfl) ?_
  refine lv_aload_n X.1 X.2.1 d_M_derive_8 rfl (lv_at hl 1 rfl) ?_
  refine lv_iload_n X.1 X.2.1 d_M_derive_9 rfl (lv_at hl 2 rfl) ?_
  refine r_nv (m_run (As := [.ref ((q 58)), .int (iI a2)]) (rest := []) (n := 2) X Y hZ hA hml hl.1 (r_M_aesKey_key l D E h q H.size I101 J101 B101 G101 a2 (by omega) (by omega) S.1) kl_M_aesKey ks_M_aesKey kx_M_aesKey ki_M_aesKey ini_M hd_M_aesKey ⟨Nat.le_of_ble_eq_true rfl, Nat.le_of_ble_eq_true rfl⟩ rfl (Nat.le_of_ble_eq_true rfl) d_M_derive_10 ⟨Nat.le_refl _, Nat.le_refl _⟩) X Y hA S (by decide) (by decide) (fun u H locs Y S s102 p102 => ?_)
  obtain ⟨I102, J102, B102, G102⟩ := u
  dsimp only at Y S s102 p102
  refine lv_iconst (v := iI 0) X.1 X.2.1 d_M_derive_13 (by decide) ?_
  have J105 : ∀ (n107 : Nat) (z104 : Int) (I103 : Nat → Int32) (J103 : Nat → Int64) (B103 : Nat → Nat → Int32) (G103 : Nat → Nat → Int64) (H : Heap) (locs : List Loc) (ls : Array Slot), (16 - z104).toNat = n107 → (0 ≤ z104) → (z104 ≤ 16) → mH D E (mA E h q sz) s.heap h q I103 J103 B103 G103 H locs → rS [14, 18] [12, 13, 15, 16, 17, 19, 20, 21, 23] I B I103 B103 → lv_has ls 8 [(0, .ref h), (2, .int (iI a2)), (5, .ref ((q 23))), (6, .int (iI z104))] → W p l e (mR 5 155) s m AV below meth c H locs 0 0 QQ (F0 m 16 ls []) := by
    intro n107
    induction n107 using Nat.strongRecOn with
    | ind n107 ih106 =>
      intro z104 I103 J103 B103 G103 H locs ls hm108 l104 u104 Y S hl
      refine lv_iload X.1 X.2.1 d_M_derive_16 (lv_at hl 3 rfl) ?_
      refine lv_bipush (v := iI 16) X.1 X.2.1 d_M_derive_18 (by decide) ?_
      refine z_icmp_ge (tgt := 47) X.1 X.2.1 d_M_derive_20 (by decide) ⟨by omega, by omega⟩ ⟨by omega, by omega⟩ (fun h109 => ?_) (fun h109 => ?_)
      · refine lv_iconst (v := iI 0) X.1 X.2.1 d_M_derive_47 (by decide) ?_
        have J113 : ∀ (n115 : Nat) (z111 : Int) (I110 : Nat → Int32) (J110 : Nat → Int64) (B110 : Nat → Nat → Int32) (G110 : Nat → Nat → Int64) (H : Heap) (locs : List Loc) (ls : Array Slot), (47 - z111).toNat = n115 → (0 ≤ z111) → (z111 ≤ 47) → (z111 % 16 = 0) → mH D E (mA E h q sz) s.heap h q I110 J110 B110 G110 H locs → rS [14, 18] [12, 13, 15, 16, 17, 19, 20, 21, 23] I B I110 B110 → lv_has ls 8 [(0, .ref h), (2, .int (iI a2)), (5, .ref ((q 23))), (6, .int (iI z111))] → W p l e (mR 5 155) s m AV below meth c H locs 0 0 QQ (F0 m 50 ls []) := by
          intro n115
          induction n115 using Nat.strongRecOn with
          | ind n115 ih114 =>
            intro z111 I110 J110 B110 G110 H locs ls hm116 l111 u111 i112 Y S hl
            refine lv_iload X.1 X.2.1 d_M_derive_50 (lv_at hl 3 rfl) ?_
            refine lv_iload_n X.1 X.2.1 d_M_derive_52 rfl (lv_at hl 1 rfl) ?_
            refine z_icmp_ge (tgt := 100) X.1 X.2.1 d_M_derive_53 (by decide) ⟨by omega, by omega⟩ ⟨by omega, by omega⟩ (fun h117 => ?_) (fun h117 => ?_)
            · refine lv_iconst (v := iI 0) X.1 X.2.1 d_M_derive_100 (by decide) ?_
              have J120 : ∀ (n122 : Nat) (z119 : Int) (I118 : Nat → Int32) (J118 : Nat → Int64) (B118 : Nat → Nat → Int32) (G118 : Nat → Nat → Int64) (H : Heap) (locs : List Loc) (ls : Array Slot), (32 - z119).toNat = n122 → (0 ≤ z119) → (z119 ≤ 32) → mH D E (mA E h q sz) s.heap h q I118 J118 B118 G118 H locs → rS [14, 18] [12, 13, 15, 16, 17, 19, 20, 21, 23] I B I118 B118 → lv_has ls 8 [(0, .ref h), (2, .int (iI a2)), (5, .ref ((q 23))), (6, .int (iI z119))] → W p l e (mR 5 155) s m AV below meth c H locs 0 0 QQ (F0 m 103 ls []) := by
                intro n122
                induction n122 using Nat.strongRecOn with
                | ind n122 ih121 =>
                  intro z119 I118 J118 B118 G118 H locs ls hm123 l119 u119 Y S hl
                  refine lv_iload X.1 X.2.1 d_M_derive_103 (lv_at hl 3 rfl) ?_
                  refine lv_iload_n X.1 X.2.1 d_M_derive_105 rfl (lv_at hl 1 rfl) ?_
                  refine z_icmp_ge (tgt := 127) X.1 X.2.1 d_M_derive_106 (by decide) ⟨by omega, by omega⟩ ⟨by omega, by omega⟩ (fun h124 => ?_) (fun h124 => ?_)
                  · exact m_retv hQQ X Y hr hlk ⟨S, trivial⟩ d_M_derive_127
                  · refine lv_aload X.1 X.2.1 d_M_derive_109 (lv_at hl 2 rfl) ?_
                    refine lv_iload X.1 X.2.1 d_M_derive_111 (lv_at hl 3 rfl) ?_
                    refine lv_aload_n X.1 X.2.1 d_M_derive_113 rfl (lv_at hl 0 rfl) ?_
                    refine m_get X Y 20 (by decide) lk_derived (gf_derived _ _ _) rfl d_M_derive_114 ?_
                    refine lv_iload X.1 X.2.1 d_M_derive_117 (lv_at hl 3 rfl) ?_
                    refine r_bald X Y S (aw_derived _ _ _ _ _ _ _) rfl (by omega) (show z119 < ((32 : Nat) : Int) by omega) (by omega) d_M_derive_119 (fun z125 q125 l125 u125 => ?_)
                    refine r_bast X Y S (aw_use _ _ _ _ _ _ _) (sw_use _ _ _ _ _ _ _) rfl (by omega) (show z119 < ((32 : Nat) : Int) by omega) (by omega) (by decide) d_M_derive_120 (fun B126 H locs Y S w126 => ?_)
                    refine lv_iinc (v := iI (z119 + 1)) (lv' := [(6, .int (iI (z119 + 1))), (0, .ref h), (2, .int (iI a2)), (5, .ref ((q 23)))]) X.1 X.2.1 d_M_derive_121 hl (k := 3) rfl ((iI_add _ _).trans (congrArg iI (by omega))) (by decide) rfl (fun ls hl => ?_)
                    refine lv_goto (tgt := 103) X.1 X.2.1 d_M_derive_124 (by decide) ?_
                    exact ih121 ((32 - (z119 + 1)).toNat) (by omega) (z119 + 1) I118 J118 B126 G118 _ _ _ rfl (by omega) (by omega) Y S (lv_sub hl [1, 2, 3, 0] rfl)
              refine lv_istore (lv' := [(6, .int (iI 0)), (0, .ref h), (2, .int (iI a2)), (5, .ref ((q 23)))]) X.1 X.2.1 d_M_derive_101 hl (by decide) rfl (fun ls hl => ?_)
              exact J120 _ 0 I110 J110 B110 G110 _ _ _ rfl (by omega) (by omega) Y S (lv_sub hl [1, 2, 3, 0] rfl)
            · refine lv_aload_n X.1 X.2.1 d_M_derive_56 rfl (lv_at hl 0 rfl) ?_
              refine r_nv (m_run (As := []) (rest := []) (n := 0) X Y hZ hA hml hl.1 (r_M_cover l D E h q H.size I110 J110 B110 G110 S.1) kl_M_cover ks_M_cover kx_M_cover ki_M_cover ini_M hd_M_cover ⟨Nat.le_of_ble_eq_true rfl, Nat.le_of_ble_eq_true rfl⟩ rfl (Nat.le_of_ble_eq_true rfl) d_M_derive_57 ⟨Nat.le_refl _, Nat.le_refl _⟩) X Y hA S (by decide) (by decide) (fun u H locs Y S s127 p127 => ?_)
              obtain ⟨I127, J127, B127, G127⟩ := u
              dsimp only at Y S s127 p127
              refine lv_iconst (v := iI 0) X.1 X.2.1 d_M_derive_60 (by decide) ?_
              have J130 : ∀ (n132 : Nat) (z129 : Int) (I128 : Nat → Int32) (J128 : Nat → Int64) (B128 : Nat → Nat → Int32) (G128 : Nat → Nat → Int64) (H : Heap) (locs : List Loc) (ls : Array Slot), (16 - z129).toNat = n132 → (0 ≤ z129) → (z129 ≤ 16) → mH D E (mA E h q sz) s.heap h q I128 J128 B128 G128 H locs → rS [14, 18] [12, 13, 15, 16, 17, 19, 20, 21, 23] I B I128 B128 → lv_has ls 8 [(0, .ref h), (2, .int (iI a2)), (5, .ref ((q 23))), (6, .int (iI z111)), (7, .int (iI z129))] → W p l e (mR 5 155) s m AV below meth c H locs 0 0 QQ (F0 m 63 ls []) := by
                intro n132
                induction n132 using Nat.strongRecOn with
                | ind n132 ih131 =>
                  intro z129 I128 J128 B128 G128 H locs ls hm133 l129 u129 Y S hl
                  refine lv_iload X.1 X.2.1 d_M_derive_63 (lv_at hl 4 rfl) ?_
                  refine lv_bipush (v := iI 16) X.1 X.2.1 d_M_derive_65 (by decide) ?_
                  refine z_icmp_ge (tgt := 94) X.1 X.2.1 d_M_derive_67 (by decide) ⟨by omega, by omega⟩ ⟨by omega, by omega⟩ (fun h134 => ?_) (fun h134 => ?_)
                  · refine lv_iinc (v := iI (z111 + 16)) (lv' := [(6, .int (iI (z111 + 16))), (0, .ref h), (2, .int (iI a2)), (5, .ref ((q 23))), (7, .int (iI z129))]) X.1 X.2.1 d_M_derive_94 hl (k := 3) rfl ((iI_add _ _).trans (congrArg iI (by omega))) (by decide) rfl (fun ls hl => ?_)
                    refine lv_goto (tgt := 50) X.1 X.2.1 d_M_derive_97 (by decide) ?_
                    exact ih114 ((47 - (z111 + 16)).toNat) (by omega) (z111 + 16) I128 J128 B128 G128 _ _ _ rfl (by omega) (by omega) (by omega) Y S (lv_sub hl [1, 2, 3, 0] rfl)
                  · refine lv_aload_n X.1 X.2.1 d_M_derive_70 rfl (lv_at hl 0 rfl) ?_
                    refine m_get X Y 20 (by decide) lk_derived (gf_derived _ _ _) rfl d_M_derive_71 ?_
                    refine lv_iload X.1 X.2.1 d_M_derive_74 (lv_at hl 3 rfl) ?_
                    refine lv_iload X.1 X.2.1 d_M_derive_76 (lv_at hl 4 rfl) ?_
                    refine z_iadd X.1 X.2.1 d_M_derive_78 ?_
                    refine lv_aload_n X.1 X.2.1 d_M_derive_79 rfl (lv_at hl 0 rfl) ?_
                    refine m_get X Y 16 (by decide) lk_state (gf_state _ _ _) rfl d_M_derive_80 ?_
                    refine lv_iload X.1 X.2.1 d_M_derive_83 (lv_at hl 4 rfl) ?_
                    refine r_iald X Y S (aw_state _ _ _ _ _ _ _) rfl (by omega) (show z129 < ((16 : Nat) : Int) by omega) (by omega) d_M_derive_85 (fun z135 q135 l135 u135 => ?_)
                    refine lv_i2b X.1 X.2.1 d_M_derive_86 rfl ?_
                    refine t_u (fun z136 l136 u136 => ?_)
                    refine r_bast X Y S (aw_derived _ _ _ _ _ _ _) (sw_derived _ _ _ _ _ _ _) rfl (by omega) (show z111 + z129 < ((32 : Nat) : Int) by omega) (by omega) (by decide) d_M_derive_87 (fun B137 H locs Y S w137 => ?_)
                    refine lv_iinc (v := iI (z129 + 1)) (lv' := [(7, .int (iI (z129 + 1))), (0, .ref h), (2, .int (iI a2)), (5, .ref ((q 23))), (6, .int (iI z111))]) X.1 X.2.1 d_M_derive_88 hl (k := 4) rfl ((iI_add _ _).trans (congrArg iI (by omega))) (by decide) rfl (fun ls hl => ?_)
                    refine lv_goto (tgt := 63) X.1 X.2.1 d_M_derive_91 (by decide) ?_
                    exact ih131 ((16 - (z129 + 1)).toNat) (by omega) (z129 + 1) I128 J128 B137 G128 _ _ _ rfl (by omega) (by omega) Y S (lv_sub hl [1, 2, 3, 4, 0] rfl)
              refine lv_istore (lv' := [(7, .int (iI 0)), (0, .ref h), (2, .int (iI a2)), (5, .ref ((q 23))), (6, .int (iI z111))]) X.1 X.2.1 d_M_derive_61 hl (by decide) rfl (fun ls hl => ?_)
              exact J130 _ 0 I127 J127 B127 G127 _ _ _ rfl (by omega) (by omega) Y S (lv_sub hl [1, 2, 3, 4, 0] rfl)
        refine lv_istore (lv' := [(6, .int (iI 0)), (0, .ref h), (2, .int (iI a2)), (5, .ref ((q 23)))]) X.1 X.2.1 d_M_derive_48 hl (by decide) rfl (fun ls hl => ?_)
        exact J113 _ 0 I103 J103 B103 G103 _ _ _ rfl (by omega) (by omega) (by omega) Y S (lv_sub hl [1, 2, 3, 0] rfl)
      · refine lv_aload_n X.1 X.2.1 d_M_derive_23 rfl (lv_at hl 0 rfl) ?_
        refine m_get X Y 16 (by decide) lk_state (gf_state _ _ _) rfl d_M_derive_24 ?_
        refine lv_iload X.1 X.2.1 d_M_derive_27 (lv_at hl 3 rfl) ?_
        refine lv_aload_n X.1 X.2.1 d_M_derive_29 rfl (lv_at hl 0 rfl) ?_
        refine m_get X Y 19 (by decide) lk_fold (gf_fold _ _ _) rfl d_M_derive_30 ?_
        refine lv_iload X.1 X.2.1 d_M_derive_33 (lv_at hl 3 rfl) ?_
        refine r_bald X Y S (aw_fold _ _ _ _ _ _ _) rfl (by omega) (show z104 < ((16 : Nat) : Int) by omega) (by omega) d_M_derive_35 (fun z138 q138 l138 u138 => ?_)
        refine lv_sipush (v := iI 255) X.1 X.2.1 d_M_derive_36 (by decide) ?_
        refine z_iand X.1 X.2.1 (by omega) (by omega) d_M_derive_39 (fun z139 l139 u139 => ?_)
        refine r_iast X Y S (aw_state _ _ _ _ _ _ _) (sw_state _ _ _ _ _ _ _) rfl ⟨(show (0 : Int) ≤ z139 by omega), (show z139 ≤ (255 : Int) by omega)⟩ ⟨by omega, by omega⟩ (by omega) (show z104 < ((16 : Nat) : Int) by omega) (by omega) (by decide) d_M_derive_40 (fun B140 H locs Y S w140 => ?_)
        refine lv_iinc (v := iI (z104 + 1)) (lv' := [(6, .int (iI (z104 + 1))), (0, .ref h), (2, .int (iI a2)), (5, .ref ((q 23)))]) X.1 X.2.1 d_M_derive_41 hl (k := 3) rfl ((iI_add _ _).trans (congrArg iI (by omega))) (by decide) rfl (fun ls hl => ?_)
        refine lv_goto (tgt := 16) X.1 X.2.1 d_M_derive_44 (by decide) ?_
        exact ih106 ((16 - (z104 + 1)).toNat) (by omega) (z104 + 1) I103 J103 B140 G103 _ _ _ rfl (by omega) (by omega) Y S (lv_sub hl [1, 2, 3, 0] rfl)
  refine lv_istore (lv' := [(6, .int (iI 0)), (0, .ref h), (1, .ref ((q 58))), (2, .int (iI a2)), (3, .ref ((q 22))), (4, .int (iI 5)), (5, .ref ((q 23)))]) X.1 X.2.1 d_M_derive_14 hl (by decide) rfl (fun ls hl => ?_)
  exact J105 _ 0 I102 J102 B102 G102 _ _ _ rfl (by omega) (by omega) Y S (lv_sub hl [1, 3, 6, 0] rfl)
set_option maxHeartbeats 4000000 in
set_option maxRecDepth 100000 in
theorem r_M_useKey_key (l : Launch) (D : mD) (E : mE) (h : Nat) (q : Nat → Nat) (sz : Nat) (I : Nat → Int32) (J : Nat → Int64) (B : Nat → Nat → Int32) (G : Nat → Nat → Int64) (a2 : Int) (l_a2 : 16 ≤ a2) (u_a2 : a2 ≤ 32) (a3 : Int) (l_a3 : (-2147483648) ≤ a3) (u_a3 : a3 ≤ 2147483647) (a4 : Int) (l_a4 : (-2147483648) ≤ a4) (u_a4 : a4 ≤ 2147483647) (hT : rT I B) : Met l y_M_useKey (k_M_useKey :: lw_tg) (mR 6 182) (va_Pc [.ref h, .ref (q 58), .int (iI a2), .int (iI a3), .int (iI a4)] (mPre D E h q (I, J, B, G) sz)) (va_Qv (rPv [14, 18] [12, 13, 15, 16, 17, 19, 20, 21, 22, 23] I B (fun (u : mS) => True)) (mPost D E h q (mA E h q sz)) (mA E h q sz)) 0 0 (mA E h q sz) := by
  refine m_enter (by decide) rfl (Nat.le_of_ble_eq_true rfl) (fun p e s m below meth c ls AV QQ H locs hQQ X Y hZ hA hr hlk hml hl => ?_)
  have Y : mH D E (mA E h q sz) s.heap h q I J B G H locs := Y
  have S : rS [14, 18] [12, 13, 15, 16, 17, 19, 20, 21, 22, 23] I B I B := rS_rf hT
  have hl : lv_has ls 5 [(0, .ref h), (1, .ref ((q 58))), (2, .int (iI a2)), (3, .int (iI a3)), (4, .int (iI a4))] := hl
  refine lv_aload_n X.1 X.2.1 d_M_useKey_0 rfl (lv_at hl 0 rfl) ?_
  refine m_get X Y 22 (by decide) lk_constant (gf_constant _ _ _) rfl d_M_useKey_1 ?_
  refine lv_iconst (v := iI 0) X.1 X.2.1 d_M_useKey_4 (by decide) ?_
  refine lv_iconst (v := iI 0) X.1 X.2.1 d_M_useKey_5 (by decide) ?_
  refine r_bast X Y S (aw_constant _ _ _ _ _ _ _) (sw_constant _ _ _ _ _ _ _) rfl (by omega) (show 0 < ((5 : Nat) : Int) by omega) (by omega) (by decide) d_M_useKey_6 (fun B101 H locs Y S w101 => ?_)
  refine lv_aload_n X.1 X.2.1 d_M_useKey_7 rfl (lv_at hl 0 rfl) ?_
  refine m_get X Y 22 (by decide) lk_constant (gf_constant _ _ _) rfl d_M_useKey_8 ?_
  refine lv_iconst (v := iI 1) X.1 X.2.1 d_M_useKey_11 (by decide) ?_
  refine lv_iconst (v := iI 0) X.1 X.2.1 d_M_useKey_12 (by decide) ?_
  refine r_bast X Y S (aw_constant _ _ _ _ _ _ _) (sw_constant _ _ _ _ _ _ _) rfl (by omega) (show 1 < ((5 : Nat) : Int) by omega) (by omega) (by decide) d_M_useKey_13 (fun B102 H locs Y S w102 => ?_)
  refine lv_aload_n X.1 X.2.1 d_M_useKey_14 rfl (lv_at hl 0 rfl) ?_
  refine m_get X Y 22 (by decide) lk_constant (gf_constant _ _ _) rfl d_M_useKey_15 ?_
  refine lv_iconst (v := iI 2) X.1 X.2.1 d_M_useKey_18 (by decide) ?_
  refine lv_iconst (v := iI 0) X.1 X.2.1 d_M_useKey_19 (by decide) ?_
  refine r_bast X Y S (aw_constant _ _ _ _ _ _ _) (sw_constant _ _ _ _ _ _ _) rfl (by omega) (show 2 < ((5 : Nat) : Int) by omega) (by omega) (by decide) d_M_useKey_20 (fun B103 H locs Y S w103 => ?_)
  refine lv_aload_n X.1 X.2.1 d_M_useKey_21 rfl (lv_at hl 0 rfl) ?_
  refine m_get X Y 22 (by decide) lk_constant (gf_constant _ _ _) rfl d_M_useKey_22 ?_
  refine lv_iconst (v := iI 3) X.1 X.2.1 d_M_useKey_25 (by decide) ?_
  refine lv_iload_n X.1 X.2.1 d_M_useKey_26 rfl (lv_at hl 3 rfl) ?_
  refine lv_i2b X.1 X.2.1 d_M_useKey_27 rfl ?_
  refine t_u (fun z104 l104 u104 => ?_)
  refine r_bast X Y S (aw_constant _ _ _ _ _ _ _) (sw_constant _ _ _ _ _ _ _) rfl (by omega) (show 3 < ((5 : Nat) : Int) by omega) (by omega) (by decide) d_M_useKey_28 (fun B105 H locs Y S w105 => ?_)
  refine lv_aload_n X.1 X.2.1 d_M_useKey_29 rfl (lv_at hl 0 rfl) ?_
  refine m_get X Y 22 (by decide) lk_constant (gf_constant _ _ _) rfl d_M_useKey_30 ?_
  refine lv_iconst (v := iI 4) X.1 X.2.1 d_M_useKey_33 (by decide) ?_
  refine lv_iload X.1 X.2.1 d_M_useKey_34 (lv_at hl 4 rfl) ?_
  refine lv_i2b X.1 X.2.1 d_M_useKey_36 rfl ?_
  refine t_u (fun z106 l106 u106 => ?_)
  refine r_bast X Y S (aw_constant _ _ _ _ _ _ _) (sw_constant _ _ _ _ _ _ _) rfl (by omega) (show 4 < ((5 : Nat) : Int) by omega) (by omega) (by decide) d_M_useKey_37 (fun B107 H locs Y S w107 => ?_)
  refine lv_aload_n X.1 X.2.1 d_M_useKey_38 rfl (lv_at hl 0 rfl) ?_
  refine lv_aload_n X.1 X.2.1 d_M_useKey_39 rfl (lv_at hl 1 rfl) ?_
  refine lv_iload_n X.1 X.2.1 d_M_useKey_40 rfl (lv_at hl 2 rfl) ?_
  refine lv_aload_n X.1 X.2.1 d_M_useKey_41 rfl (lv_at hl 0 rfl) ?_
  refine m_get X Y 22 (by decide) lk_constant (gf_constant _ _ _) rfl d_M_useKey_42 ?_
  refine lv_iconst (v := iI 5) X.1 X.2.1 d_M_useKey_45 (by decide) ?_
  refine lv_aload_n X.1 X.2.1 d_M_useKey_46 rfl (lv_at hl 0 rfl) ?_
  refine m_get X Y 23 (by decide) lk_use (gf_use _ _ _) rfl d_M_useKey_47 ?_
  refine r_nv (m_run (As := [.ref ((q 58)), .int (iI a2), .ref ((q 22)), .int (iI 5), .ref ((q 23))]) (rest := []) (n := 5) X Y hZ hA hml hl.1 (r_M_derive_key_constant_use l D E h q H.size I J B107 G a2 (by omega) (by omega) S.1) kl_M_derive ks_M_derive kx_M_derive ki_M_derive ini_M hd_M_derive ⟨Nat.le_of_ble_eq_true rfl, Nat.le_of_ble_eq_true rfl⟩ rfl (Nat.le_of_ble_eq_true rfl) d_M_useKey_50 ⟨Nat.le_refl _, Nat.le_refl _⟩) X Y hA S (by decide) (by decide) (fun u H locs Y S s108 p108 => ?_)
  obtain ⟨I108, J108, B108, G108⟩ := u
  dsimp only at Y S s108 p108
  exact m_retv hQQ X Y hr hlk ⟨S, trivial⟩ d_M_useKey_53
set_option maxHeartbeats 4000000 in
set_option maxRecDepth 100000 in
theorem r_M_seal_key (l : Launch) (D : mD) (E : mE) (h : Nat) (q : Nat → Nat) (sz : Nat) (I : Nat → Int32) (J : Nat → Int64) (B : Nat → Nat → Int32) (G : Nat → Nat → Int64) (a2 : Int) (l_a2 : (-2147483648) ≤ a2) (u_a2 : a2 ≤ 2147483647) (a3 : Int) (l_a3 : (-2147483648) ≤ a3) (u_a3 : a3 ≤ 2147483647) (a4 : Int) (l_a4 : 0 ≤ a4) (u_a4 : a4 ≤ 60000) (a5 : Int) (l_a5 : 0 ≤ a5) (u_a5 : a5 ≤ 60000) (hT : rT I B) (cn : Int) (gcn : I 33 = iI cn) (lcn : 0 ≤ cn) (ucn : cn ≤ 2000000) (q0 : a4 ≤ a5) (q1 : a5 - a4 ≤ 19000) : Met l y_M_seal (k_M_seal :: lw_tg) (mR 7 206) (va_Pc [.ref h, .ref (q 58), .int (iI a2), .int (iI a3), .int (iI a4), .int (iI a5)] (mPre D E h q (I, J, B, G) sz)) (va_Qv (rPv [8, 14, 18, 33, 36] [5, 6, 7, 9, 10, 11, 12, 13, 15, 16, 17, 19, 20, 21, 22, 23, 34, 35] I B (fun (u : mS) => (u.1 36 = iI (a5 - a4 + 28)) ∧ (u.1 33 = iI (cn + 16)))) (mPost D E h q (mA E h q sz)) (mA E h q sz)) 0 0 (mA E h q sz) := by
  refine m_enter (by decide) rfl (Nat.le_of_ble_eq_true rfl) (fun p e s m below meth c ls AV QQ H locs hQQ X Y hZ hA hr hlk hml hl => ?_)
  have Y : mH D E (mA E h q sz) s.heap h q I J B G H locs := Y
  have S : rS [8, 14, 18, 33, 36] [5, 6, 7, 9, 10, 11, 12, 13, 15, 16, 17, 19, 20, 21, 22, 23, 34, 35] I B I B := rS_rf hT
  have hl : lv_has ls 11 [(0, .ref h), (1, .ref ((q 58))), (2, .int (iI a2)), (3, .int (iI a3)), (4, .int (iI a4)), (5, .int (iI a5))] := hl
  refine lv_bipush (v := iI 16) X.1 X.2.1 d_M_seal_0 (by decide) ?_
  refine lv_iload X.1 X.2.1 d_M_seal_2 (lv_at hl 5 rfl) ?_
  refine z_iadd X.1 X.2.1 d_M_seal_4 ?_
  refine lv_iload X.1 X.2.1 d_M_seal_5 (lv_at hl 4 rfl) ?_
  refine z_isub X.1 X.2.1 d_M_seal_7 ?_
  refine lv_istore (lv' := [(6, .int (iI ((16 + a5) - a4))), (0, .ref h), (1, .ref ((q 58))), (2, .int (iI a2)), (3, .int (iI a3)), (4, .int (iI a4)), (5, .int (iI a5))]) X.1 X.2.1 d_M_seal_8 hl (by decide) rfl (fun ls hl => ?_)
  refine lv_iconst (v := iI 0) X.1 X.2.1 d_M_seal_10 (by decide) ?_
  have J105 : ∀ (n107 : Nat) (z102 : Int) (z103 : Int) (I101 : Nat → Int32) (J101 : Nat → Int64) (B101 : Nat → Nat → Int32) (G101 : Nat → Nat → Int64) (H : Heap) (locs : List Loc) (ls : Array Slot), (16 - z102).toNat = n107 → (0 ≤ z102) → (z102 ≤ 16) → (I101 33 = iI z103) → (0 ≤ z103) → (z103 ≤ 2000100) → (z103 = cn + (z102 - 0)) → mH D E (mA E h q sz) s.heap h q I101 J101 B101 G101 H locs → rS [8, 14, 18, 33, 36] [5, 6, 7, 9, 10, 11, 12, 13, 15, 16, 17, 19, 20, 21, 22, 23, 34, 35] I B I101 B101 → lv_has ls 11 [(0, .ref h), (1, .ref ((q 58))), (2, .int (iI a2)), (3, .int (iI a3)), (4, .int (iI a4)), (5, .int (iI a5)), (6, .int (iI ((16 + a5) - a4))), (7, .int (iI z102))] → W p l e (mR 7 206) s m AV below meth c H locs 0 0 QQ (F0 m 13 ls []) := by
    intro n107
    induction n107 using Nat.strongRecOn with
    | ind n107 ih106 =>
      intro z102 z103 I101 J101 B101 G101 H locs ls hm108 l102 u102 e103 l103 u103 i104 Y S hl
      refine lv_iload X.1 X.2.1 d_M_seal_13 (lv_at hl 7 rfl) ?_
      refine lv_bipush (v := iI 16) X.1 X.2.1 d_M_seal_15 (by decide) ?_
      refine z_icmp_ge (tgt := 38) X.1 X.2.1 d_M_seal_17 (by decide) ⟨by omega, by omega⟩ ⟨by omega, by omega⟩ (fun h109 => ?_) (fun h109 => ?_)
      · refine lv_iload X.1 X.2.1 d_M_seal_38 (lv_at hl 4 rfl) ?_
        have J114 : ∀ (n116 : Nat) (z111 : Int) (I110 : Nat → Int32) (J110 : Nat → Int64) (B110 : Nat → Nat → Int32) (G110 : Nat → Nat → Int64) (H : Heap) (locs : List Loc) (ls : Array Slot), (60000 - z111).toNat = n116 → (0 ≤ z111) → (z111 ≤ 60000) → (I110 33 = iI z103) → (a4 ≤ z111) → mH D E (mA E h q sz) s.heap h q I110 J110 B110 G110 H locs → rS [8, 14, 18, 33, 36] [5, 6, 7, 9, 10, 11, 12, 13, 15, 16, 17, 19, 20, 21, 22, 23, 34, 35] I B I110 B110 → lv_has ls 11 [(0, .ref h), (1, .ref ((q 58))), (2, .int (iI a2)), (3, .int (iI a3)), (4, .int (iI a4)), (5, .int (iI a5)), (6, .int (iI ((16 + a5) - a4))), (7, .int (iI z111))] → W p l e (mR 7 206) s m AV below meth c H locs 0 0 QQ (F0 m 42 ls []) := by
          intro n116
          induction n116 using Nat.strongRecOn with
          | ind n116 ih115 =>
            intro z111 I110 J110 B110 G110 H locs ls hm117 l111 u111 e112 i113 Y S hl
            refine lv_iload X.1 X.2.1 d_M_seal_42 (lv_at hl 7 rfl) ?_
            refine lv_iload X.1 X.2.1 d_M_seal_44 (lv_at hl 5 rfl) ?_
            refine z_icmp_ge (tgt := 75) X.1 X.2.1 d_M_seal_46 (by decide) ⟨by omega, by omega⟩ ⟨by omega, by omega⟩ (fun h118 => ?_) (fun h118 => ?_)
            · refine lv_aload_n X.1 X.2.1 d_M_seal_75 rfl (lv_at hl 0 rfl) ?_
              refine lv_aload_n X.1 X.2.1 d_M_seal_76 rfl (lv_at hl 1 rfl) ?_
              refine lv_iload_n X.1 X.2.1 d_M_seal_77 rfl (lv_at hl 2 rfl) ?_
              refine p_calli (As := [.int (iI a2)]) (rest := [.ref ((q 58)), .ref h]) (n := 1) X Y hml hl.1 (r_M_size l a2 (by omega) (by omega)) kl_M_size ks_M_size ki_M_size ini_M hd_M_size ⟨Nat.le_of_ble_eq_true rfl, Nat.le_of_ble_eq_true rfl⟩ rfl (Nat.le_of_ble_eq_true rfl) d_M_seal_78 ⟨Nat.le_refl _, Nat.le_refl _⟩ (fun r119 H locs p119 Y => ?_)
              obtain ⟨z119, e119, p119⟩ := p119
              subst e119
              obtain ⟨l119, u119, x119⟩ := p119
              refine lv_iload_n X.1 X.2.1 d_M_seal_81 rfl (lv_at hl 3 rfl) ?_
              refine lv_bipush (v := iI 85) X.1 X.2.1 d_M_seal_82 (by decide) ?_
              refine r_nv (m_run (As := [.ref ((q 58)), .int (iI z119), .int (iI a3), .int (iI 85)]) (rest := []) (n := 4) X Y hZ hA hml hl.1 (r_M_useKey_key l D E h q H.size I110 J110 B110 G110 z119 (by omega) (by omega) a3 (by omega) (by omega) 85 (by omega) (by omega) S.1) kl_M_useKey ks_M_useKey kx_M_useKey ki_M_useKey ini_M hd_M_useKey ⟨Nat.le_of_ble_eq_true rfl, Nat.le_of_ble_eq_true rfl⟩ rfl (Nat.le_of_ble_eq_true rfl) d_M_seal_84 ⟨Nat.le_refl _, Nat.le_refl _⟩) X Y hA S (by decide) (by decide) (fun u H locs Y S s120 p120 => ?_)
              obtain ⟨I120, J120, B120, G120⟩ := u
              dsimp only at Y S s120 p120
              refine lv_aload_n X.1 X.2.1 d_M_seal_87 rfl (lv_at hl 0 rfl) ?_
              refine lv_aload_n X.1 X.2.1 d_M_seal_88 rfl (lv_at hl 0 rfl) ?_
              refine m_get X Y 23 (by decide) lk_use (gf_use _ _ _) rfl d_M_seal_89 ?_
              refine lv_iload_n X.1 X.2.1 d_M_seal_92 rfl (lv_at hl 2 rfl) ?_
              refine p_calli (As := [.int (iI a2)]) (rest := [.ref ((q 23)), .ref h]) (n := 1) X Y hml hl.1 (r_M_size l a2 (by omega) (by omega)) kl_M_size ks_M_size ki_M_size ini_M hd_M_size ⟨Nat.le_of_ble_eq_true rfl, Nat.le_of_ble_eq_true rfl⟩ rfl (Nat.le_of_ble_eq_true rfl) d_M_seal_93 ⟨Nat.le_refl _, Nat.le_refl _⟩ (fun r121 H locs p121 Y => ?_)
              obtain ⟨z121, e121, p121⟩ := p121
              subst e121
              obtain ⟨l121, u121, x121⟩ := p121
              refine r_nv (m_run (As := [.ref ((q 23)), .int (iI z121)]) (rest := []) (n := 2) X Y hZ hA hml hl.1 (r_M_macKey_use l D E h q H.size I120 J120 B120 G120 z121 (by omega) (by omega) S.1) kl_M_macKey ks_M_macKey kx_M_macKey ki_M_macKey ini_M hd_M_macKey ⟨Nat.le_of_ble_eq_true rfl, Nat.le_of_ble_eq_true rfl⟩ rfl (Nat.le_of_ble_eq_true rfl) d_M_seal_96 ⟨Nat.le_refl _, Nat.le_refl _⟩) X Y hA S (by decide) (by decide) (fun u H locs Y S s122 p122 => ?_)
              obtain ⟨I122, J122, B122, G122⟩ := u
              dsimp only at Y S s122 p122
              refine lv_aload_n X.1 X.2.1 d_M_seal_99 rfl (lv_at hl 0 rfl) ?_
              refine r_nv (m_run (As := []) (rest := []) (n := 0) X Y hZ hA hml hl.1 (r_M_macBegin l D E h q H.size I122 J122 B122 G122 S.1) kl_M_macBegin ks_M_macBegin kx_M_macBegin ki_M_macBegin ini_M hd_M_macBegin ⟨Nat.le_of_ble_eq_true rfl, Nat.le_of_ble_eq_true rfl⟩ rfl (Nat.le_of_ble_eq_true rfl) d_M_seal_100 ⟨Nat.le_refl _, Nat.le_refl _⟩) X Y hA S (by decide) (by decide) (fun u H locs Y S s123 p123 => ?_)
              obtain ⟨I123, J123, B123, G123⟩ := u
              dsimp only at Y S s123 p123
              have x123 := p123
              refine lv_iconst (v := iI 0) X.1 X.2.1 d_M_seal_103 (by decide) ?_
              have J129 : ∀ (n131 : Nat) (z125 : Int) (z127 : Int) (I124 : Nat → Int32) (J124 : Nat → Int64) (B124 : Nat → Nat → Int32) (G124 : Nat → Nat → Int64) (H : Heap) (locs : List Loc) (ls : Array Slot), (60016 - z125).toNat = n131 → (0 ≤ z125) → (z125 ≤ 60016) → (I124 33 = iI z103) → (I124 8 = iI z127) → (0 ≤ z127) → (z127 ≤ 1000000) → (z127 = 64 + (z125 - 0)) → mH D E (mA E h q sz) s.heap h q I124 J124 B124 G124 H locs → rS [8, 14, 18, 33, 36] [5, 6, 7, 9, 10, 11, 12, 13, 15, 16, 17, 19, 20, 21, 22, 23, 34, 35] I B I124 B124 → lv_has ls 11 [(0, .ref h), (1, .ref ((q 58))), (2, .int (iI a2)), (3, .int (iI a3)), (6, .int (iI ((16 + a5) - a4))), (7, .int (iI z125))] → W p l e (mR 7 206) s m AV below meth c H locs 0 0 QQ (F0 m 106 ls []) := by
                intro n131
                induction n131 using Nat.strongRecOn with
                | ind n131 ih130 =>
                  intro z125 z127 I124 J124 B124 G124 H locs ls hm132 l125 u125 e126 e127 l127 u127 i128 Y S hl
                  refine lv_iload X.1 X.2.1 d_M_seal_106 (lv_at hl 5 rfl) ?_
                  refine lv_iload X.1 X.2.1 d_M_seal_108 (lv_at hl 4 rfl) ?_
                  refine z_icmp_ge (tgt := 130) X.1 X.2.1 d_M_seal_110 (by decide) ⟨by omega, by omega⟩ ⟨by omega, by omega⟩ (fun h133 => ?_) (fun h133 => ?_)
                  · refine lv_aload_n X.1 X.2.1 d_M_seal_130 rfl (lv_at hl 0 rfl) ?_
                    refine r_nv (m_run (As := []) (rest := []) (n := 0) X Y hZ hA hml hl.1 (r_M_macEnd l D E h q H.size I124 J124 B124 G124 S.1 z127 e127 (by omega) (by omega)) kl_M_macEnd ks_M_macEnd kx_M_macEnd ki_M_macEnd ini_M hd_M_macEnd ⟨Nat.le_of_ble_eq_true rfl, Nat.le_of_ble_eq_true rfl⟩ rfl (Nat.le_of_ble_eq_true rfl) d_M_seal_131 ⟨Nat.le_refl _, Nat.le_refl _⟩) X Y hA S (by decide) (by decide) (fun u H locs Y S s134 p134 => ?_)
                    obtain ⟨I134, J134, B134, G134⟩ := u
                    dsimp only at Y S s134 p134
                    refine lv_iconst (v := iI 0) X.1 X.2.1 d_M_seal_134 (by decide) ?_
                    have J138 : ∀ (n140 : Nat) (z136 : Int) (I135 : Nat → Int32) (J135 : Nat → Int64) (B135 : Nat → Nat → Int32) (G135 : Nat → Nat → Int64) (H : Heap) (locs : List Loc) (ls : Array Slot), (12 - z136).toNat = n140 → (0 ≤ z136) → (z136 ≤ 12) → (I135 33 = iI z103) → mH D E (mA E h q sz) s.heap h q I135 J135 B135 G135 H locs → rS [8, 14, 18, 33, 36] [5, 6, 7, 9, 10, 11, 12, 13, 15, 16, 17, 19, 20, 21, 22, 23, 34, 35] I B I135 B135 → lv_has ls 11 [(0, .ref h), (1, .ref ((q 58))), (2, .int (iI a2)), (3, .int (iI a3)), (6, .int (iI ((16 + a5) - a4))), (7, .int (iI z136))] → W p l e (mR 7 206) s m AV below meth c H locs 0 0 QQ (F0 m 137 ls []) := by
                      intro n140
                      induction n140 using Nat.strongRecOn with
                      | ind n140 ih139 =>
                        intro z136 I135 J135 B135 G135 H locs ls hm141 l136 u136 e137 Y S hl
                        refine lv_iload X.1 X.2.1 d_M_seal_137 (lv_at hl 5 rfl) ?_
                        refine lv_bipush (v := iI 12) X.1 X.2.1 d_M_seal_139 (by decide) ?_
                        refine z_icmp_ge (tgt := 167) X.1 X.2.1 d_M_seal_141 (by decide) ⟨by omega, by omega⟩ ⟨by omega, by omega⟩ (fun h142 => ?_) (fun h142 => ?_)
                        · refine lv_aload_n X.1 X.2.1 d_M_seal_167 rfl (lv_at hl 0 rfl) ?_
                          refine lv_aload_n X.1 X.2.1 d_M_seal_168 rfl (lv_at hl 1 rfl) ?_
                          refine lv_iload_n X.1 X.2.1 d_M_seal_169 rfl (lv_at hl 2 rfl) ?_
                          refine p_calli (As := [.int (iI a2)]) (rest := [.ref ((q 58)), .ref h]) (n := 1) X Y hml hl.1 (r_M_size l a2 (by omega) (by omega)) kl_M_size ks_M_size ki_M_size ini_M hd_M_size ⟨Nat.le_of_ble_eq_true rfl, Nat.le_of_ble_eq_true rfl⟩ rfl (Nat.le_of_ble_eq_true rfl) d_M_seal_170 ⟨Nat.le_refl _, Nat.le_refl _⟩ (fun r143 H locs p143 Y => ?_)
                          obtain ⟨z143, e143, p143⟩ := p143
                          subst e143
                          obtain ⟨l143, u143, x143⟩ := p143
                          refine lv_iload_n X.1 X.2.1 d_M_seal_173 rfl (lv_at hl 3 rfl) ?_
                          refine lv_sipush (v := iI 170) X.1 X.2.1 d_M_seal_174 (by decide) ?_
                          refine r_nv (m_run (As := [.ref ((q 58)), .int (iI z143), .int (iI a3), .int (iI 170)]) (rest := []) (n := 4) X Y hZ hA hml hl.1 (r_M_useKey_key l D E h q H.size I135 J135 B135 G135 z143 (by omega) (by omega) a3 (by omega) (by omega) 170 (by omega) (by omega) S.1) kl_M_useKey ks_M_useKey kx_M_useKey ki_M_useKey ini_M hd_M_useKey ⟨Nat.le_of_ble_eq_true rfl, Nat.le_of_ble_eq_true rfl⟩ rfl (Nat.le_of_ble_eq_true rfl) d_M_seal_177 ⟨Nat.le_refl _, Nat.le_refl _⟩) X Y hA S (by decide) (by decide) (fun u H locs Y S s144 p144 => ?_)
                          obtain ⟨I144, J144, B144, G144⟩ := u
                          dsimp only at Y S s144 p144
                          refine lv_aload_n X.1 X.2.1 d_M_seal_180 rfl (lv_at hl 0 rfl) ?_
                          refine lv_aload_n X.1 X.2.1 d_M_seal_181 rfl (lv_at hl 0 rfl) ?_
                          refine m_get X Y 23 (by decide) lk_use (gf_use _ _ _) rfl d_M_seal_182 ?_
                          refine lv_iload_n X.1 X.2.1 d_M_seal_185 rfl (lv_at hl 2 rfl) ?_
                          refine p_calli (As := [.int (iI a2)]) (rest := [.ref ((q 23)), .ref h]) (n := 1) X Y hml hl.1 (r_M_size l a2 (by omega) (by omega)) kl_M_size ks_M_size ki_M_size ini_M hd_M_size ⟨Nat.le_of_ble_eq_true rfl, Nat.le_of_ble_eq_true rfl⟩ rfl (Nat.le_of_ble_eq_true rfl) d_M_seal_186 ⟨Nat.le_refl _, Nat.le_refl _⟩ (fun r145 H locs p145 Y => ?_)
                          obtain ⟨z145, e145, p145⟩ := p145
                          subst e145
                          obtain ⟨l145, u145, x145⟩ := p145
                          refine r_nv (m_run (As := [.ref ((q 23)), .int (iI z145)]) (rest := []) (n := 2) X Y hZ hA hml hl.1 (r_M_aesKey_use l D E h q H.size I144 J144 B144 G144 z145 (by omega) (by omega) S.1) kl_M_aesKey ks_M_aesKey kx_M_aesKey ki_M_aesKey ini_M hd_M_aesKey ⟨Nat.le_of_ble_eq_true rfl, Nat.le_of_ble_eq_true rfl⟩ rfl (Nat.le_of_ble_eq_true rfl) d_M_seal_189 ⟨Nat.le_refl _, Nat.le_refl _⟩) X Y hA S (by decide) (by decide) (fun u H locs Y S s146 p146 => ?_)
                          obtain ⟨I146, J146, B146, G146⟩ := u
                          dsimp only at Y S s146 p146
                          refine lv_iload X.1 X.2.1 d_M_seal_192 (lv_at hl 4 rfl) ?_
                          refine lv_bipush (v := iI 15) X.1 X.2.1 d_M_seal_194 (by decide) ?_
                          refine z_iadd X.1 X.2.1 d_M_seal_196 ?_
                          refine lv_bipush (v := iI 16) X.1 X.2.1 d_M_seal_197 (by decide) ?_
                          refine z_idivg X.1 X.2.1 ⟨by omega, by omega⟩ ⟨by decide, by decide⟩ d_M_seal_199 (fun z147 l147 u147 x147 y147 => ?_)
                          refine lv_istore (lv' := [(7, .int (iI z147)), (0, .ref h), (1, .ref ((q 58))), (2, .int (iI a2)), (3, .int (iI a3)), (6, .int (iI ((16 + a5) - a4)))]) X.1 X.2.1 d_M_seal_200 hl (by decide) rfl (fun ls hl => ?_)
                          refine lv_iconst (v := iI 0) X.1 X.2.1 d_M_seal_202 (by decide) ?_
                          have J151 : ∀ (n153 : Nat) (z149 : Int) (I148 : Nat → Int32) (J148 : Nat → Int64) (B148 : Nat → Nat → Int32) (G148 : Nat → Nat → Int64) (H : Heap) (locs : List Loc) (ls : Array Slot), (16 - z149).toNat = n153 → (0 ≤ z149) → (z149 ≤ 16) → (I148 33 = iI z103) → mH D E (mA E h q sz) s.heap h q I148 J148 B148 G148 H locs → rS [8, 14, 18, 33, 36] [5, 6, 7, 9, 10, 11, 12, 13, 15, 16, 17, 19, 20, 21, 22, 23, 34, 35] I B I148 B148 → lv_has ls 11 [(0, .ref h), (6, .int (iI ((16 + a5) - a4))), (7, .int (iI z147)), (8, .int (iI z149))] → W p l e (mR 7 206) s m AV below meth c H locs 0 0 QQ (F0 m 205 ls []) := by
                            intro n153
                            induction n153 using Nat.strongRecOn with
                            | ind n153 ih152 =>
                              intro z149 I148 J148 B148 G148 H locs ls hm154 l149 u149 e150 Y S hl
                              refine lv_iload X.1 X.2.1 d_M_seal_205 (lv_at hl 3 rfl) ?_
                              refine lv_bipush (v := iI 16) X.1 X.2.1 d_M_seal_207 (by decide) ?_
                              refine z_icmp_ge (tgt := 226) X.1 X.2.1 d_M_seal_209 (by decide) ⟨by omega, by omega⟩ ⟨by omega, by omega⟩ (fun h155 => ?_) (fun h155 => ?_)
                              · refine lv_iconst (v := iI 0) X.1 X.2.1 d_M_seal_226 (by decide) ?_
                                have J159 : ∀ (n161 : Nat) (z157 : Int) (I156 : Nat → Int32) (J156 : Nat → Int64) (B156 : Nat → Nat → Int32) (G156 : Nat → Nat → Int64) (H : Heap) (locs : List Loc) (ls : Array Slot), (3751 - z157).toNat = n161 → (0 ≤ z157) → (z157 ≤ 3751) → (I156 33 = iI z103) → mH D E (mA E h q sz) s.heap h q I156 J156 B156 G156 H locs → rS [8, 14, 18, 33, 36] [5, 6, 7, 9, 10, 11, 12, 13, 15, 16, 17, 19, 20, 21, 22, 23, 34, 35] I B I156 B156 → lv_has ls 11 [(0, .ref h), (6, .int (iI ((16 + a5) - a4))), (7, .int (iI z147)), (8, .int (iI z157))] → W p l e (mR 7 206) s m AV below meth c H locs 0 0 QQ (F0 m 229 ls []) := by
                                  intro n161
                                  induction n161 using Nat.strongRecOn with
                                  | ind n161 ih160 =>
                                    intro z157 I156 J156 B156 G156 H locs ls hm162 l157 u157 e158 Y S hl
                                    refine lv_iload X.1 X.2.1 d_M_seal_229 (lv_at hl 3 rfl) ?_
                                    refine lv_iload X.1 X.2.1 d_M_seal_231 (lv_at hl 2 rfl) ?_
                                    refine z_icmp_ge (tgt := 403) X.1 X.2.1 d_M_seal_233 (by decide) ⟨by omega, by omega⟩ ⟨by omega, by omega⟩ (fun h163 => ?_) (fun h163 => ?_)
                                    · refine lv_aload_n X.1 X.2.1 d_M_seal_403 rfl (lv_at hl 0 rfl) ?_
                                      refine lv_iload X.1 X.2.1 d_M_seal_404 (lv_at hl 1 rfl) ?_
                                      refine lv_bipush (v := iI 12) X.1 X.2.1 d_M_seal_406 (by decide) ?_
                                      refine z_iadd X.1 X.2.1 d_M_seal_408 ?_
                                      refine r_puti (k := 36) X Y S (by decide) lk_secretMany rfl rfl (t_M_ok 36 (by decide)) rfl rfl (sf_secretMany _ _ _ _) (Nat.le_of_ble_eq_true rfl) rfl (show (0 : Int) ≤ ((16 + a5) - a4) + 12 by omega) (show ((16 + a5) - a4) + 12 ≤ (20000 : Int) by omega) ⟨by omega, by omega⟩ (by decide) d_M_seal_409 (fun I164 H locs Y S w164 => ?_)
                                      exact m_retv hQQ X Y hr hlk ⟨S, ⟨((w164.1).trans (congrArg iI (show (((16 + a5) - a4) + 12 : Int) = a5 - a4 + 28 by omega))), ((((w164.2 33 (by decide)).trans e158)).trans (congrArg iI (show (z103 : Int) = cn + 16 by omega)))⟩⟩ d_M_seal_412
                                    · refine lv_iconst (v := iI 0) X.1 X.2.1 d_M_seal_236 (by decide) ?_
                                      have J168 : ∀ (n170 : Nat) (z166 : Int) (I165 : Nat → Int32) (J165 : Nat → Int64) (B165 : Nat → Nat → Int32) (G165 : Nat → Nat → Int64) (H : Heap) (locs : List Loc) (ls : Array Slot), (16 - z166).toNat = n170 → (0 ≤ z166) → (z166 ≤ 16) → (I165 33 = iI z103) → mH D E (mA E h q sz) s.heap h q I165 J165 B165 G165 H locs → rS [8, 14, 18, 33, 36] [5, 6, 7, 9, 10, 11, 12, 13, 15, 16, 17, 19, 20, 21, 22, 23, 34, 35] I B I165 B165 → lv_has ls 11 [(0, .ref h), (6, .int (iI ((16 + a5) - a4))), (7, .int (iI z147)), (8, .int (iI z157)), (9, .int (iI z166))] → W p l e (mR 7 206) s m AV below meth c H locs 0 0 QQ (F0 m 239 ls []) := by
                                        intro n170
                                        induction n170 using Nat.strongRecOn with
                                        | ind n170 ih169 =>
                                          intro z166 I165 J165 B165 G165 H locs ls hm171 l166 u166 e167 Y S hl
                                          refine lv_iload X.1 X.2.1 d_M_seal_239 (lv_at hl 4 rfl) ?_
                                          refine lv_bipush (v := iI 16) X.1 X.2.1 d_M_seal_241 (by decide) ?_
                                          refine z_icmp_ge (tgt := 292) X.1 X.2.1 d_M_seal_243 (by decide) ⟨by omega, by omega⟩ ⟨by omega, by omega⟩ (fun h172 => ?_) (fun h172 => ?_)
                                          · refine lv_aload_n X.1 X.2.1 d_M_seal_292 rfl (lv_at hl 0 rfl) ?_
                                            refine r_nv (m_run (As := []) (rest := []) (n := 0) X Y hZ hA hml hl.1 (r_M_cover l D E h q H.size I165 J165 B165 G165 S.1) kl_M_cover ks_M_cover kx_M_cover ki_M_cover ini_M hd_M_cover ⟨Nat.le_of_ble_eq_true rfl, Nat.le_of_ble_eq_true rfl⟩ rfl (Nat.le_of_ble_eq_true rfl) d_M_seal_293 ⟨Nat.le_refl _, Nat.le_refl _⟩) X Y hA S (by decide) (by decide) (fun u H locs Y S s173 p173 => ?_)
                                            obtain ⟨I173, J173, B173, G173⟩ := u
                                            dsimp only at Y S s173 p173
                                            refine lv_iload X.1 X.2.1 d_M_seal_296 (lv_at hl 2 rfl) ?_
                                            refine lv_iconst (v := iI 1) X.1 X.2.1 d_M_seal_298 (by decide) ?_
                                            have J175 : ∀ (z174 : Int) (H : Heap) (locs : List Loc) (ls : Array Slot), (0 ≤ z174) → (z174 ≤ 60000) → mH D E (mA E h q sz) s.heap h q I173 J173 B173 G173 H locs → rS [8, 14, 18, 33, 36] [5, 6, 7, 9, 10, 11, 12, 13, 15, 16, 17, 19, 20, 21, 22, 23, 34, 35] I B I173 B173 → lv_has ls 11 [(0, .ref h), (6, .int (iI ((16 + a5) - a4))), (7, .int (iI z147)), (8, .int (iI z157))] → W p l e (mR 7 206) s m AV below meth c H locs 0 0 QQ (F0 m 351 ls [.int (iI z174)]) := by
                                              intro z174 H locs ls l174 u174 Y S hl
                                              refine lv_istore (lv' := [(9, .int (iI z174)), (0, .ref h), (6, .int (iI ((16 + a5) - a4))), (7, .int (iI z147)), (8, .int (iI z157))]) X.1 X.2.1 d_M_seal_351 hl (by decide) rfl (fun ls hl => ?_)
                                              refine lv_iconst (v := iI 0) X.1 X.2.1 d_M_seal_353 (by decide) ?_
                                              have J182 : ∀ (n184 : Nat) (z180 : Int) (I179 : Nat → Int32) (J179 : Nat → Int64) (B179 : Nat → Nat → Int32) (G179 : Nat → Nat → Int64) (H : Heap) (locs : List Loc) (ls : Array Slot), (16 - z180).toNat = n184 → (0 ≤ z180) → (z180 ≤ 16) → (I179 33 = iI z103) → mH D E (mA E h q sz) s.heap h q I179 J179 B179 G179 H locs → rS [8, 14, 18, 33, 36] [5, 6, 7, 9, 10, 11, 12, 13, 15, 16, 17, 19, 20, 21, 22, 23, 34, 35] I B I179 B179 → lv_has ls 11 [(0, .ref h), (6, .int (iI ((16 + a5) - a4))), (7, .int (iI z147)), (8, .int (iI z157)), (9, .int (iI z174)), (10, .int (iI z180))] → W p l e (mR 7 206) s m AV below meth c H locs 0 0 QQ (F0 m 356 ls []) := by
                                                intro n184
                                                induction n184 using Nat.strongRecOn with
                                                | ind n184 ih183 =>
                                                  intro z180 I179 J179 B179 G179 H locs ls hm185 l180 u180 e181 Y S hl
                                                  refine lv_iload X.1 X.2.1 d_M_seal_356 (lv_at hl 5 rfl) ?_
                                                  refine lv_bipush (v := iI 16) X.1 X.2.1 d_M_seal_358 (by decide) ?_
                                                  refine z_icmp_ge (tgt := 397) X.1 X.2.1 d_M_seal_360 (by decide) ⟨by omega, by omega⟩ ⟨by omega, by omega⟩ (fun h186 => ?_) (fun h186 => ?_)
                                                  · refine lv_iinc (v := iI (z157 + 1)) (lv' := [(8, .int (iI (z157 + 1))), (0, .ref h), (6, .int (iI ((16 + a5) - a4))), (7, .int (iI z147)), (9, .int (iI z174)), (10, .int (iI z180))]) X.1 X.2.1 d_M_seal_397 hl (k := 3) rfl ((iI_add _ _).trans (congrArg iI (by omega))) (by decide) rfl (fun ls hl => ?_)
                                                    refine lv_goto (tgt := 229) X.1 X.2.1 d_M_seal_400 (by decide) ?_
                                                    exact ih160 ((3751 - (z157 + 1)).toNat) (by omega) (z157 + 1) I179 J179 B179 G179 _ _ _ rfl (by omega) (by omega) e181 Y S (lv_sub hl [1, 2, 3, 0] rfl)
                                                  · refine lv_iload X.1 X.2.1 d_M_seal_363 (lv_at hl 4 rfl) ?_
                                                    refine lv_iload X.1 X.2.1 d_M_seal_365 (lv_at hl 5 rfl) ?_
                                                    refine z_iadd X.1 X.2.1 d_M_seal_367 ?_
                                                    refine lv_iload X.1 X.2.1 d_M_seal_368 (lv_at hl 1 rfl) ?_
                                                    have J189 : ∀ (I187 : Nat → Int32) (J187 : Nat → Int64) (B187 : Nat → Nat → Int32) (G187 : Nat → Nat → Int64) (H : Heap) (locs : List Loc) (ls : Array Slot), (I187 33 = iI z103) → mH D E (mA E h q sz) s.heap h q I187 J187 B187 G187 H locs → rS [8, 14, 18, 33, 36] [5, 6, 7, 9, 10, 11, 12, 13, 15, 16, 17, 19, 20, 21, 22, 23, 34, 35] I B I187 B187 → lv_has ls 11 [(0, .ref h), (6, .int (iI ((16 + a5) - a4))), (7, .int (iI z147)), (8, .int (iI z157)), (9, .int (iI z174)), (10, .int (iI z180))] → W p l e (mR 7 206) s m AV below meth c H locs 0 0 QQ (F0 m 391 ls []) := by
                                                      intro I187 J187 B187 G187 H locs ls e188 Y S hl
                                                      refine lv_iinc (v := iI (z180 + 1)) (lv' := [(10, .int (iI (z180 + 1))), (0, .ref h), (6, .int (iI ((16 + a5) - a4))), (7, .int (iI z147)), (8, .int (iI z157)), (9, .int (iI z174))]) X.1 X.2.1 d_M_seal_391 hl (k := 5) rfl ((iI_add _ _).trans (congrArg iI (by omega))) (by decide) rfl (fun ls hl => ?_)
                                                      refine lv_goto (tgt := 356) X.1 X.2.1 d_M_seal_394 (by decide) ?_
                                                      exact ih183 ((16 - (z180 + 1)).toNat) (by omega) (z180 + 1) I187 J187 B187 G187 _ _ _ rfl (by omega) (by omega) e188 Y S (lv_sub hl [1, 2, 3, 4, 5, 0] rfl)
                                                    refine z_icmp_ge (tgt := 391) X.1 X.2.1 d_M_seal_370 (by decide) ⟨by omega, by omega⟩ ⟨by omega, by omega⟩ (fun h193 => ?_) (fun h193 => ?_)
                                                    · exact J189 I179 J179 B179 G179 _ _ _ e181 Y S (lv_sub hl [0, 1, 2, 3, 4, 5] rfl)
                                                    · refine lv_aload_n X.1 X.2.1 d_M_seal_373 rfl (lv_at hl 0 rfl) ?_
                                                      refine m_get X Y 35 (by decide) lk_secret (gf_secret _ _ _) rfl d_M_seal_374 ?_
                                                      refine lv_iload X.1 X.2.1 d_M_seal_377 (lv_at hl 4 rfl) ?_
                                                      refine lv_iload X.1 X.2.1 d_M_seal_379 (lv_at hl 5 rfl) ?_
                                                      refine z_iadd X.1 X.2.1 d_M_seal_381 ?_
                                                      refine lv_aload_n X.1 X.2.1 d_M_seal_382 rfl (lv_at hl 0 rfl) ?_
                                                      refine m_get X Y 16 (by decide) lk_state (gf_state _ _ _) rfl d_M_seal_383 ?_
                                                      refine lv_iload X.1 X.2.1 d_M_seal_386 (lv_at hl 5 rfl) ?_
                                                      refine r_iald X Y S (aw_state _ _ _ _ _ _ _) rfl (by omega) (show z180 < ((16 : Nat) : Int) by omega) (by omega) d_M_seal_388 (fun z194 q194 l194 u194 => ?_)
                                                      refine lv_i2b X.1 X.2.1 d_M_seal_389 rfl ?_
                                                      refine t_u (fun z195 l195 u195 => ?_)
                                                      refine r_bast X Y S (aw_secret _ _ _ _ _ _ _) (sw_secret _ _ _ _ _ _ _) rfl (by omega) (show z174 + z180 < ((20000 : Nat) : Int) by omega) (by omega) (by decide) d_M_seal_390 (fun B196 H locs Y S w196 => ?_)
                                                      exact J189 I179 J179 B196 G179 _ _ _ e181 Y S (lv_sub hl [0, 1, 2, 3, 4, 5] rfl)
                                              refine lv_istore (lv' := [(10, .int (iI 0)), (9, .int (iI z174)), (0, .ref h), (6, .int (iI ((16 + a5) - a4))), (7, .int (iI z147)), (8, .int (iI z157))]) X.1 X.2.1 d_M_seal_354 hl (by decide) rfl (fun ls hl => ?_)
                                              exact J182 _ 0 I173 J173 B173 G173 _ _ _ rfl (by omega) (by omega) ((s173.2.1 33 (by decide)).trans e167) Y S (lv_sub hl [2, 3, 4, 5, 1, 0] rfl)
                                            have J197 : ∀  (H : Heap) (locs : List Loc) (ls : Array Slot), mH D E (mA E h q sz) s.heap h q I173 J173 B173 G173 H locs → rS [8, 14, 18, 33, 36] [5, 6, 7, 9, 10, 11, 12, 13, 15, 16, 17, 19, 20, 21, 22, 23, 34, 35] I B I173 B173 → lv_has ls 11 [(0, .ref h), (6, .int (iI ((16 + a5) - a4))), (7, .int (iI z147)), (8, .int (iI z157))] → W p l e (mR 7 206) s m AV below meth c H locs 0 0 QQ (F0 m 321 ls []) := by
                                              intro  H locs ls  Y S hl
                                              refine lv_iload X.1 X.2.1 d_M_seal_321 (lv_at hl 2 rfl) ?_
                                              refine lv_iconst (v := iI 1) X.1 X.2.1 d_M_seal_323 (by decide) ?_
                                              have J201 : ∀  (H : Heap) (locs : List Loc) (ls : Array Slot), mH D E (mA E h q sz) s.heap h q I173 J173 B173 G173 H locs → rS [8, 14, 18, 33, 36] [5, 6, 7, 9, 10, 11, 12, 13, 15, 16, 17, 19, 20, 21, 22, 23, 34, 35] I B I173 B173 → lv_has ls 11 [(0, .ref h), (6, .int (iI ((16 + a5) - a4))), (7, .int (iI z147)), (8, .int (iI z157))] → W p l e (mR 7 206) s m AV below meth c H locs 0 0 QQ (F0 m 346 ls []) := by
                                                intro  H locs ls  Y S hl
                                                refine lv_bipush (v := iI 16) X.1 X.2.1 d_M_seal_346 (by decide) ?_
                                                refine lv_iload X.1 X.2.1 d_M_seal_348 (lv_at hl 3 rfl) ?_
                                                refine z_imul X.1 X.2.1 d_M_seal_350 ?_
                                                exact J175 (16 * z157) _ _ _ (by omega) (by omega) Y S (lv_sub hl [0, 1, 2, 3] rfl)
                                              refine z_icmp_le (tgt := 346) X.1 X.2.1 d_M_seal_324 (by decide) ⟨by omega, by omega⟩ ⟨by omega, by omega⟩ (fun h205 => ?_) (fun h205 => ?_)
                                              · exact J201  _ _ _  Y S (lv_sub hl [0, 1, 2, 3] rfl)
                                              · refine lv_iload X.1 X.2.1 d_M_seal_327 (lv_at hl 3 rfl) ?_
                                                refine lv_iload X.1 X.2.1 d_M_seal_329 (lv_at hl 2 rfl) ?_
                                                refine lv_iconst (v := iI 2) X.1 X.2.1 d_M_seal_331 (by decide) ?_
                                                refine z_isub X.1 X.2.1 d_M_seal_332 ?_
                                                refine z_icmp_ne (tgt := 346) X.1 X.2.1 d_M_seal_333 (by decide) ⟨by omega, by omega⟩ ⟨by omega, by omega⟩ (fun h206 => ?_) (fun h206 => ?_)
                                                · exact J201  _ _ _  Y S (lv_sub hl [0, 1, 2, 3] rfl)
                                                · refine lv_bipush (v := iI 16) X.1 X.2.1 d_M_seal_336 (by decide) ?_
                                                  refine lv_iload X.1 X.2.1 d_M_seal_338 (lv_at hl 3 rfl) ?_
                                                  refine lv_iconst (v := iI 1) X.1 X.2.1 d_M_seal_340 (by decide) ?_
                                                  refine z_iadd X.1 X.2.1 d_M_seal_341 ?_
                                                  refine z_imul X.1 X.2.1 d_M_seal_342 ?_
                                                  refine lv_goto (tgt := 351) X.1 X.2.1 d_M_seal_343 (by decide) ?_
                                                  exact J175 (16 * (z157 + 1)) _ _ _ (by omega) (by omega) Y S (lv_sub hl [0, 1, 2, 3] rfl)
                                            refine z_icmp_le (tgt := 321) X.1 X.2.1 d_M_seal_299 (by decide) ⟨by omega, by omega⟩ ⟨by omega, by omega⟩ (fun h207 => ?_) (fun h207 => ?_)
                                            · exact J197  _ _ _  Y S (lv_sub hl [0, 1, 2, 3] rfl)
                                            · refine lv_iload X.1 X.2.1 d_M_seal_302 (lv_at hl 3 rfl) ?_
                                              refine lv_iload X.1 X.2.1 d_M_seal_304 (lv_at hl 2 rfl) ?_
                                              refine lv_iconst (v := iI 1) X.1 X.2.1 d_M_seal_306 (by decide) ?_
                                              refine z_isub X.1 X.2.1 d_M_seal_307 ?_
                                              refine z_icmp_ne (tgt := 321) X.1 X.2.1 d_M_seal_308 (by decide) ⟨by omega, by omega⟩ ⟨by omega, by omega⟩ (fun h208 => ?_) (fun h208 => ?_)
                                              · exact J197  _ _ _  Y S (lv_sub hl [0, 1, 2, 3] rfl)
                                              · refine lv_bipush (v := iI 16) X.1 X.2.1 d_M_seal_311 (by decide) ?_
                                                refine lv_iload X.1 X.2.1 d_M_seal_313 (lv_at hl 3 rfl) ?_
                                                refine lv_iconst (v := iI 1) X.1 X.2.1 d_M_seal_315 (by decide) ?_
                                                refine z_isub X.1 X.2.1 d_M_seal_316 ?_
                                                refine z_imul X.1 X.2.1 d_M_seal_317 ?_
                                                refine lv_goto (tgt := 351) X.1 X.2.1 d_M_seal_318 (by decide) ?_
                                                exact J175 (16 * (z157 - 1)) _ _ _ (by omega) (by omega) Y S (lv_sub hl [0, 1, 2, 3] rfl)
                                          · refine lv_bipush (v := iI 16) X.1 X.2.1 d_M_seal_246 (by decide) ?_
                                            refine lv_iload X.1 X.2.1 d_M_seal_248 (lv_at hl 3 rfl) ?_
                                            refine z_imul X.1 X.2.1 d_M_seal_250 ?_
                                            refine lv_iload X.1 X.2.1 d_M_seal_251 (lv_at hl 4 rfl) ?_
                                            refine z_iadd X.1 X.2.1 d_M_seal_253 ?_
                                            refine lv_iload X.1 X.2.1 d_M_seal_254 (lv_at hl 1 rfl) ?_
                                            have J211 : ∀ (I209 : Nat → Int32) (J209 : Nat → Int64) (B209 : Nat → Nat → Int32) (G209 : Nat → Nat → Int64) (H : Heap) (locs : List Loc) (ls : Array Slot), (I209 33 = iI z103) → mH D E (mA E h q sz) s.heap h q I209 J209 B209 G209 H locs → rS [8, 14, 18, 33, 36] [5, 6, 7, 9, 10, 11, 12, 13, 15, 16, 17, 19, 20, 21, 22, 23, 34, 35] I B I209 B209 → lv_has ls 11 [(0, .ref h), (6, .int (iI ((16 + a5) - a4))), (7, .int (iI z147)), (8, .int (iI z157)), (9, .int (iI z166))] → W p l e (mR 7 206) s m AV below meth c H locs 0 0 QQ (F0 m 286 ls []) := by
                                              intro I209 J209 B209 G209 H locs ls e210 Y S hl
                                              refine lv_iinc (v := iI (z166 + 1)) (lv' := [(9, .int (iI (z166 + 1))), (0, .ref h), (6, .int (iI ((16 + a5) - a4))), (7, .int (iI z147)), (8, .int (iI z157))]) X.1 X.2.1 d_M_seal_286 hl (k := 4) rfl ((iI_add _ _).trans (congrArg iI (by omega))) (by decide) rfl (fun ls hl => ?_)
                                              refine lv_goto (tgt := 239) X.1 X.2.1 d_M_seal_289 (by decide) ?_
                                              exact ih169 ((16 - (z166 + 1)).toNat) (by omega) (z166 + 1) I209 J209 B209 G209 _ _ _ rfl (by omega) (by omega) e210 Y S (lv_sub hl [1, 2, 3, 4, 0] rfl)
                                            refine z_icmp_ge (tgt := 286) X.1 X.2.1 d_M_seal_256 (by decide) ⟨by omega, by omega⟩ ⟨by omega, by omega⟩ (fun h215 => ?_) (fun h215 => ?_)
                                            · exact J211 I165 J165 B165 G165 _ _ _ e167 Y S (lv_sub hl [0, 1, 2, 3, 4] rfl)
                                            · refine lv_aload_n X.1 X.2.1 d_M_seal_259 rfl (lv_at hl 0 rfl) ?_
                                              refine m_get X Y 16 (by decide) lk_state (gf_state _ _ _) rfl d_M_seal_260 ?_
                                              refine lv_iload X.1 X.2.1 d_M_seal_263 (lv_at hl 4 rfl) ?_
                                              refine lv_dup2_11 X.1 X.2.1 d_M_seal_265 rfl rfl ?_
                                              refine r_iald X Y S (aw_state _ _ _ _ _ _ _) rfl (by omega) (show z166 < ((16 : Nat) : Int) by omega) (by omega) d_M_seal_266 (fun z216 q216 l216 u216 => ?_)
                                              refine lv_aload_n X.1 X.2.1 d_M_seal_267 rfl (lv_at hl 0 rfl) ?_
                                              refine m_get X Y 34 (by decide) lk_text (gf_text _ _ _) rfl d_M_seal_268 ?_
                                              refine lv_bipush (v := iI 16) X.1 X.2.1 d_M_seal_271 (by decide) ?_
                                              refine lv_iload X.1 X.2.1 d_M_seal_273 (lv_at hl 3 rfl) ?_
                                              refine z_imul X.1 X.2.1 d_M_seal_275 ?_
                                              refine lv_iload X.1 X.2.1 d_M_seal_276 (lv_at hl 4 rfl) ?_
                                              refine z_iadd X.1 X.2.1 d_M_seal_278 ?_
                                              refine r_bald X Y S (aw_text _ _ _ _ _ _ _) rfl (by omega) (show (16 * z157) + z166 < ((20000 : Nat) : Int) by omega) (by omega) d_M_seal_279 (fun z217 q217 l217 u217 => ?_)
                                              refine lv_sipush (v := iI 255) X.1 X.2.1 d_M_seal_280 (by decide) ?_
                                              refine z_iand X.1 X.2.1 (by omega) (by omega) d_M_seal_283 (fun z218 l218 u218 => ?_)
                                              refine z_ixor X.1 X.2.1 ⟨by omega, by omega⟩ ⟨by omega, by omega⟩ d_M_seal_284 (fun z219 l219 u219 => ?_)
                                              refine r_iast X Y S (aw_state _ _ _ _ _ _ _) (sw_state _ _ _ _ _ _ _) rfl ⟨(show (0 : Int) ≤ z219 by omega), (show z219 ≤ (255 : Int) by omega)⟩ ⟨by omega, by omega⟩ (by omega) (show z166 < ((16 : Nat) : Int) by omega) (by omega) (by decide) d_M_seal_285 (fun B220 H locs Y S w220 => ?_)
                                              exact J211 I165 J165 B220 G165 _ _ _ e167 Y S (lv_sub hl [0, 1, 2, 3, 4] rfl)
                                      refine lv_istore (lv' := [(9, .int (iI 0)), (0, .ref h), (6, .int (iI ((16 + a5) - a4))), (7, .int (iI z147)), (8, .int (iI z157))]) X.1 X.2.1 d_M_seal_237 hl (by decide) rfl (fun ls hl => ?_)
                                      exact J168 _ 0 I156 J156 B156 G156 _ _ _ rfl (by omega) (by omega) e158 Y S (lv_sub hl [1, 2, 3, 4, 0] rfl)
                                refine lv_istore (lv' := [(8, .int (iI 0)), (0, .ref h), (6, .int (iI ((16 + a5) - a4))), (7, .int (iI z147))]) X.1 X.2.1 d_M_seal_227 hl (by decide) rfl (fun ls hl => ?_)
                                exact J159 _ 0 I148 J148 B148 G148 _ _ _ rfl (by omega) (by omega) e150 Y S (lv_sub hl [1, 2, 3, 0] rfl)
                              · refine lv_aload_n X.1 X.2.1 d_M_seal_212 rfl (lv_at hl 0 rfl) ?_
                                refine m_get X Y 16 (by decide) lk_state (gf_state _ _ _) rfl d_M_seal_213 ?_
                                refine lv_iload X.1 X.2.1 d_M_seal_216 (lv_at hl 3 rfl) ?_
                                refine lv_iconst (v := iI 0) X.1 X.2.1 d_M_seal_218 (by decide) ?_
                                refine r_iast X Y S (aw_state _ _ _ _ _ _ _) (sw_state _ _ _ _ _ _ _) rfl ⟨(show (0 : Int) ≤ 0 by omega), (show 0 ≤ (255 : Int) by omega)⟩ ⟨by omega, by omega⟩ (by omega) (show z149 < ((16 : Nat) : Int) by omega) (by omega) (by decide) d_M_seal_219 (fun B221 H locs Y S w221 => ?_)
                                refine lv_iinc (v := iI (z149 + 1)) (lv' := [(8, .int (iI (z149 + 1))), (0, .ref h), (6, .int (iI ((16 + a5) - a4))), (7, .int (iI z147))]) X.1 X.2.1 d_M_seal_220 hl (k := 3) rfl ((iI_add _ _).trans (congrArg iI (by omega))) (by decide) rfl (fun ls hl => ?_)
                                refine lv_goto (tgt := 205) X.1 X.2.1 d_M_seal_223 (by decide) ?_
                                exact ih152 ((16 - (z149 + 1)).toNat) (by omega) (z149 + 1) I148 J148 B221 G148 _ _ _ rfl (by omega) (by omega) e150 Y S (lv_sub hl [1, 2, 3, 0] rfl)
                          refine lv_istore (lv' := [(8, .int (iI 0)), (7, .int (iI z147)), (0, .ref h), (1, .ref ((q 58))), (2, .int (iI a2)), (3, .int (iI a3)), (6, .int (iI ((16 + a5) - a4)))]) X.1 X.2.1 d_M_seal_203 hl (by decide) rfl (fun ls hl => ?_)
                          exact J151 _ 0 I146 J146 B146 G146 _ _ _ rfl (by omega) (by omega) ((s146.2.1 33 (by decide)).trans ((s144.2.1 33 (by decide)).trans e137)) Y S (lv_sub hl [2, 6, 1, 0] rfl)
                        · refine lv_aload_n X.1 X.2.1 d_M_seal_144 rfl (lv_at hl 0 rfl) ?_
                          refine m_get X Y 35 (by decide) lk_secret (gf_secret _ _ _) rfl d_M_seal_145 ?_
                          refine lv_iload X.1 X.2.1 d_M_seal_148 (lv_at hl 4 rfl) ?_
                          refine lv_iload X.1 X.2.1 d_M_seal_150 (lv_at hl 5 rfl) ?_
                          refine z_iadd X.1 X.2.1 d_M_seal_152 ?_
                          refine lv_aload_n X.1 X.2.1 d_M_seal_153 rfl (lv_at hl 0 rfl) ?_
                          refine m_get X Y 10 (by decide) lk_mac (gf_mac _ _ _) rfl d_M_seal_154 ?_
                          refine lv_iload X.1 X.2.1 d_M_seal_157 (lv_at hl 5 rfl) ?_
                          refine r_bald X Y S (aw_mac _ _ _ _ _ _ _) rfl (by omega) (show z136 < ((20 : Nat) : Int) by omega) (by omega) d_M_seal_159 (fun z222 q222 l222 u222 => ?_)
                          refine r_bast X Y S (aw_secret _ _ _ _ _ _ _) (sw_secret _ _ _ _ _ _ _) rfl (by omega) (show ((16 + a5) - a4) + z136 < ((20000 : Nat) : Int) by omega) (by omega) (by decide) d_M_seal_160 (fun B223 H locs Y S w223 => ?_)
                          refine lv_iinc (v := iI (z136 + 1)) (lv' := [(7, .int (iI (z136 + 1))), (0, .ref h), (1, .ref ((q 58))), (2, .int (iI a2)), (3, .int (iI a3)), (6, .int (iI ((16 + a5) - a4)))]) X.1 X.2.1 d_M_seal_161 hl (k := 5) rfl ((iI_add _ _).trans (congrArg iI (by omega))) (by decide) rfl (fun ls hl => ?_)
                          refine lv_goto (tgt := 137) X.1 X.2.1 d_M_seal_164 (by decide) ?_
                          exact ih139 ((12 - (z136 + 1)).toNat) (by omega) (z136 + 1) I135 J135 B223 G135 _ _ _ rfl (by omega) (by omega) e137 Y S (lv_sub hl [1, 2, 3, 4, 5, 0] rfl)
                    refine lv_istore (lv' := [(7, .int (iI 0)), (0, .ref h), (1, .ref ((q 58))), (2, .int (iI a2)), (3, .int (iI a3)), (6, .int (iI ((16 + a5) - a4)))]) X.1 X.2.1 d_M_seal_135 hl (by decide) rfl (fun ls hl => ?_)
                    exact J138 _ 0 I134 J134 B134 G134 _ _ _ rfl (by omega) (by omega) ((s134.2.1 33 (by decide)).trans e126) Y S (lv_sub hl [1, 2, 3, 4, 5, 0] rfl)
                  · refine lv_aload_n X.1 X.2.1 d_M_seal_113 rfl (lv_at hl 0 rfl) ?_
                    refine lv_aload_n X.1 X.2.1 d_M_seal_114 rfl (lv_at hl 0 rfl) ?_
                    refine m_get X Y 34 (by decide) lk_text (gf_text _ _ _) rfl d_M_seal_115 ?_
                    refine lv_iload X.1 X.2.1 d_M_seal_118 (lv_at hl 5 rfl) ?_
                    refine r_bald X Y S (aw_text _ _ _ _ _ _ _) rfl (by omega) (show z125 < ((20000 : Nat) : Int) by omega) (by omega) d_M_seal_120 (fun z224 q224 l224 u224 => ?_)
                    refine r_nv (m_run (As := [.int (iI z224)]) (rest := []) (n := 1) X Y hZ hA hml hl.1 (r_M_hash l D E h q H.size I124 J124 B124 G124 z224 (by omega) (by omega) S.1 z127 e127 (by omega) (by omega)) kl_M_hash ks_M_hash kx_M_hash ki_M_hash ini_M hd_M_hash ⟨Nat.le_of_ble_eq_true rfl, Nat.le_of_ble_eq_true rfl⟩ rfl (Nat.le_of_ble_eq_true rfl) d_M_seal_121 ⟨Nat.le_refl _, Nat.le_refl _⟩) X Y hA S (by decide) (by decide) (fun u H locs Y S s225 p225 => ?_)
                    obtain ⟨I225, J225, B225, G225⟩ := u
                    dsimp only at Y S s225 p225
                    have x225 := p225
                    refine lv_iinc (v := iI (z125 + 1)) (lv' := [(7, .int (iI (z125 + 1))), (0, .ref h), (1, .ref ((q 58))), (2, .int (iI a2)), (3, .int (iI a3)), (6, .int (iI ((16 + a5) - a4)))]) X.1 X.2.1 d_M_seal_124 hl (k := 5) rfl ((iI_add _ _).trans (congrArg iI (by omega))) (by decide) rfl (fun ls hl => ?_)
                    refine lv_goto (tgt := 106) X.1 X.2.1 d_M_seal_127 (by decide) ?_
                    exact ih130 ((60016 - (z125 + 1)).toNat) (by omega) (z125 + 1) (z127 + 1) I225 J225 B225 G225 _ _ _ rfl (by omega) (by omega) ((s225.2.1 33 (by decide)).trans e126) (x225.trans (congrArg iI (show (z127 + 1 : Int) = z127 + 1 by omega))) (by omega) (by omega) (by omega) Y S (lv_sub hl [1, 2, 3, 4, 5, 0] rfl)
              refine lv_istore (lv' := [(7, .int (iI 0)), (0, .ref h), (1, .ref ((q 58))), (2, .int (iI a2)), (3, .int (iI a3)), (4, .int (iI a4)), (5, .int (iI a5)), (6, .int (iI ((16 + a5) - a4)))]) X.1 X.2.1 d_M_seal_104 hl (by decide) rfl (fun ls hl => ?_)
              exact J129 _ 0 64 I123 J123 B123 G123 _ _ _ rfl (by omega) (by omega) ((s123.2.1 33 (by decide)).trans ((s122.2.1 33 (by decide)).trans ((s120.2.1 33 (by decide)).trans e112))) (x123.trans (congrArg iI (show (64 : Int) = 64 by omega))) (by omega) (by omega) (by omega) Y S (lv_sub hl [1, 2, 3, 4, 7, 0] rfl)
            · refine lv_aload_n X.1 X.2.1 d_M_seal_49 rfl (lv_at hl 0 rfl) ?_
              refine m_get X Y 34 (by decide) lk_text (gf_text _ _ _) rfl d_M_seal_50 ?_
              refine lv_bipush (v := iI 16) X.1 X.2.1 d_M_seal_53 (by decide) ?_
              refine lv_iload X.1 X.2.1 d_M_seal_55 (lv_at hl 7 rfl) ?_
              refine z_iadd X.1 X.2.1 d_M_seal_57 ?_
              refine lv_iload X.1 X.2.1 d_M_seal_58 (lv_at hl 4 rfl) ?_
              refine z_isub X.1 X.2.1 d_M_seal_60 ?_
              refine lv_aload_n X.1 X.2.1 d_M_seal_61 rfl (lv_at hl 0 rfl) ?_
              refine m_get X Y 0 (by decide) lk_mem (gf_mem _ _ _) rfl d_M_seal_62 ?_
              refine lv_iload X.1 X.2.1 d_M_seal_65 (lv_at hl 7 rfl) ?_
              refine r_bald X Y S (aw_mem _ _ _ _ _ _ _) rfl (by omega) (show z111 < ((60000 : Nat) : Int) by omega) (by omega) d_M_seal_67 (fun z226 q226 l226 u226 => ?_)
              refine r_bast X Y S (aw_text _ _ _ _ _ _ _) (sw_text _ _ _ _ _ _ _) rfl (by omega) (show (16 + z111) - a4 < ((20000 : Nat) : Int) by omega) (by omega) (by decide) d_M_seal_68 (fun B227 H locs Y S w227 => ?_)
              refine lv_iinc (v := iI (z111 + 1)) (lv' := [(7, .int (iI (z111 + 1))), (0, .ref h), (1, .ref ((q 58))), (2, .int (iI a2)), (3, .int (iI a3)), (4, .int (iI a4)), (5, .int (iI a5)), (6, .int (iI ((16 + a5) - a4)))]) X.1 X.2.1 d_M_seal_69 hl (k := 7) rfl ((iI_add _ _).trans (congrArg iI (by omega))) (by decide) rfl (fun ls hl => ?_)
              refine lv_goto (tgt := 42) X.1 X.2.1 d_M_seal_72 (by decide) ?_
              exact ih115 ((60000 - (z111 + 1)).toNat) (by omega) (z111 + 1) I110 J110 B227 G110 _ _ _ rfl (by omega) (by omega) e112 (by omega) Y S (lv_sub hl [1, 2, 3, 4, 5, 6, 7, 0] rfl)
        refine lv_istore (lv' := [(7, .int (iI a4)), (0, .ref h), (1, .ref ((q 58))), (2, .int (iI a2)), (3, .int (iI a3)), (4, .int (iI a4)), (5, .int (iI a5)), (6, .int (iI ((16 + a5) - a4)))]) X.1 X.2.1 d_M_seal_40 hl (by decide) rfl (fun ls hl => ?_)
        exact J114 _ a4 I101 J101 B101 G101 _ _ _ rfl (by omega) (by omega) e103 (by omega) Y S (lv_sub hl [1, 2, 3, 4, 5, 6, 7, 0] rfl)
      · refine lv_aload_n X.1 X.2.1 d_M_seal_20 rfl (lv_at hl 0 rfl) ?_
        refine m_get X Y 34 (by decide) lk_text (gf_text _ _ _) rfl d_M_seal_21 ?_
        refine lv_iload X.1 X.2.1 d_M_seal_24 (lv_at hl 7 rfl) ?_
        refine lv_aload_n X.1 X.2.1 d_M_seal_26 rfl (lv_at hl 0 rfl) ?_
        refine r_ni (m_run (As := []) (rest := [.int (iI z102), .ref ((q 34))]) (n := 0) X Y hZ hA hml hl.1 (r_M_coin l D E h q H.size I101 J101 B101 G101 S.1 z103 e103 (by omega) (by omega)) kl_M_coin ks_M_coin kx_M_coin ki_M_coin ini_M hd_M_coin ⟨Nat.le_of_ble_eq_true rfl, Nat.le_of_ble_eq_true rfl⟩ rfl (Nat.le_of_ble_eq_true rfl) d_M_seal_27 ⟨Nat.le_refl _, Nat.le_refl _⟩) X Y hA S (by decide) (by decide) (fun z228 u H locs Y S s228 p228 => ?_)
        obtain ⟨I228, J228, B228, G228⟩ := u
        dsimp only at Y S s228 p228
        obtain ⟨l228, u228, x228⟩ := p228
        refine lv_i2b X.1 X.2.1 d_M_seal_30 rfl ?_
        refine t_u (fun z229 l229 u229 => ?_)
        refine r_bast X Y S (aw_text _ _ _ _ _ _ _) (sw_text _ _ _ _ _ _ _) rfl (by omega) (show z102 < ((20000 : Nat) : Int) by omega) (by omega) (by decide) d_M_seal_31 (fun B230 H locs Y S w230 => ?_)
        refine lv_iinc (v := iI (z102 + 1)) (lv' := [(7, .int (iI (z102 + 1))), (0, .ref h), (1, .ref ((q 58))), (2, .int (iI a2)), (3, .int (iI a3)), (4, .int (iI a4)), (5, .int (iI a5)), (6, .int (iI ((16 + a5) - a4)))]) X.1 X.2.1 d_M_seal_32 hl (k := 7) rfl ((iI_add _ _).trans (congrArg iI (by omega))) (by decide) rfl (fun ls hl => ?_)
        refine lv_goto (tgt := 13) X.1 X.2.1 d_M_seal_35 (by decide) ?_
        exact ih106 ((16 - (z102 + 1)).toNat) (by omega) (z102 + 1) (z103 + 1) I228 J228 B230 G228 _ _ _ rfl (by omega) (by omega) (x228.trans (congrArg iI (show (z103 + 1 : Int) = z103 + 1 by omega))) (by omega) (by omega) (by omega) Y S (lv_sub hl [1, 2, 3, 4, 5, 6, 7, 0] rfl)
  refine lv_istore (lv' := [(7, .int (iI 0)), (6, .int (iI ((16 + a5) - a4))), (0, .ref h), (1, .ref ((q 58))), (2, .int (iI a2)), (3, .int (iI a3)), (4, .int (iI a4)), (5, .int (iI a5))]) X.1 X.2.1 d_M_seal_11 hl (by decide) rfl (fun ls hl => ?_)
  exact J105 _ 0 cn I J B G _ _ _ rfl (by omega) (by omega) gcn (by omega) (by omega) (by omega) Y S (lv_sub hl [2, 3, 4, 5, 6, 7, 1, 0] rfl)
set_option maxHeartbeats 4000000 in
set_option maxRecDepth 100000 in
theorem r_M_checksum_key (l : Launch) (D : mD) (E : mE) (h : Nat) (q : Nat → Nat) (sz : Nat) (I : Nat → Int32) (J : Nat → Int64) (B : Nat → Nat → Int32) (G : Nat → Nat → Int64) (a2 : Int) (l_a2 : (-2147483648) ≤ a2) (u_a2 : a2 ≤ 2147483647) (a3 : Int) (l_a3 : (-2147483648) ≤ a3) (u_a3 : a3 ≤ 2147483647) (a4 : Int) (l_a4 : (-1) ≤ a4) (u_a4 : a4 ≤ 60000) (a5 : Int) (l_a5 : (-1) ≤ a5) (u_a5 : a5 ≤ 60000) (hT : rT I B) (q0 : 0 ≤ a4 ∨ a5 ≤ a4) : Met l y_M_checksum (k_M_checksum :: lw_tg) (mR 7 206) (va_Pc [.ref h, .ref (q 58), .int (iI a2), .int (iI a3), .int (iI a4), .int (iI a5)] (mPre D E h q (I, J, B, G) sz)) (va_Qv (rPv [8, 14, 18] [5, 6, 7, 9, 10, 11, 12, 13, 15, 16, 17, 19, 20, 21, 22, 23] I B (fun (u : mS) => True)) (mPost D E h q (mA E h q sz)) (mA E h q sz)) 0 0 (mA E h q sz) := by
  refine m_enter (by decide) rfl (Nat.le_of_ble_eq_true rfl) (fun p e s m below meth c ls AV QQ H locs hQQ X Y hZ hA hr hlk hml hl => ?_)
  have Y : mH D E (mA E h q sz) s.heap h q I J B G H locs := Y
  have S : rS [8, 14, 18] [5, 6, 7, 9, 10, 11, 12, 13, 15, 16, 17, 19, 20, 21, 22, 23] I B I B := rS_rf hT
  have hl : lv_has ls 7 [(0, .ref h), (1, .ref ((q 58))), (2, .int (iI a2)), (3, .int (iI a3)), (4, .int (iI a4)), (5, .int (iI a5))] := hl
  refine lv_aload_n X.1 X.2.1 d_M_checksum_0 rfl (lv_at hl 0 rfl) ?_
  refine lv_aload_n X.1 X.2.1 d_M_checksum_1 rfl (lv_at hl 1 rfl) ?_
  refine lv_iload_n X.1 X.2.1 d_M_checksum_2 rfl (lv_at hl 2 rfl) ?_
  refine p_calli (As := [.int (iI a2)]) (rest := [.ref ((q 58)), .ref h]) (n := 1) X Y hml hl.1 (r_M_size l a2 (by omega) (by omega)) kl_M_size ks_M_size ki_M_size ini_M hd_M_size ⟨Nat.le_of_ble_eq_true rfl, Nat.le_of_ble_eq_true rfl⟩ rfl (Nat.le_of_ble_eq_true rfl) d_M_checksum_3 ⟨Nat.le_refl _, Nat.le_refl _⟩ (fun r101 H locs p101 Y => ?_)
  obtain ⟨z101, e101, p101⟩ := p101
  subst e101
  obtain ⟨l101, u101, x101⟩ := p101
  refine lv_iload_n X.1 X.2.1 d_M_checksum_6 rfl (lv_at hl 3 rfl) ?_
  refine lv_sipush (v := iI 153) X.1 X.2.1 d_M_checksum_7 (by decide) ?_
  refine r_nv (m_run (As := [.ref ((q 58)), .int (iI z101), .int (iI a3), .int (iI 153)]) (rest := []) (n := 4) X Y hZ hA hml hl.1 (r_M_useKey_key l D E h q H.size I J B G z101 (by omega) (by omega) a3 (by omega) (by omega) 153 (by omega) (by omega) S.1) kl_M_useKey ks_M_useKey kx_M_useKey ki_M_useKey ini_M hd_M_useKey ⟨Nat.le_of_ble_eq_true rfl, Nat.le_of_ble_eq_true rfl⟩ rfl (Nat.le_of_ble_eq_true rfl) d_M_checksum_10 ⟨Nat.le_refl _, Nat.le_refl _⟩) X Y hA S (by decide) (by decide) (fun u H locs Y S s102 p102 => ?_)
  obtain ⟨I102, J102, B102, G102⟩ := u
  dsimp only at Y S s102 p102
  refine lv_aload_n X.1 X.2.1 d_M_checksum_13 rfl (lv_at hl 0 rfl) ?_
  refine lv_aload_n X.1 X.2.1 d_M_checksum_14 rfl (lv_at hl 0 rfl) ?_
  refine m_get X Y 23 (by decide) lk_use (gf_use _ _ _) rfl d_M_checksum_15 ?_
  refine lv_iload_n X.1 X.2.1 d_M_checksum_18 rfl (lv_at hl 2 rfl) ?_
  refine p_calli (As := [.int (iI a2)]) (rest := [.ref ((q 23)), .ref h]) (n := 1) X Y hml hl.1 (r_M_size l a2 (by omega) (by omega)) kl_M_size ks_M_size ki_M_size ini_M hd_M_size ⟨Nat.le_of_ble_eq_true rfl, Nat.le_of_ble_eq_true rfl⟩ rfl (Nat.le_of_ble_eq_true rfl) d_M_checksum_19 ⟨Nat.le_refl _, Nat.le_refl _⟩ (fun r103 H locs p103 Y => ?_)
  obtain ⟨z103, e103, p103⟩ := p103
  subst e103
  obtain ⟨l103, u103, x103⟩ := p103
  refine r_nv (m_run (As := [.ref ((q 23)), .int (iI z103)]) (rest := []) (n := 2) X Y hZ hA hml hl.1 (r_M_macKey_use l D E h q H.size I102 J102 B102 G102 z103 (by omega) (by omega) S.1) kl_M_macKey ks_M_macKey kx_M_macKey ki_M_macKey ini_M hd_M_macKey ⟨Nat.le_of_ble_eq_true rfl, Nat.le_of_ble_eq_true rfl⟩ rfl (Nat.le_of_ble_eq_true rfl) d_M_checksum_22 ⟨Nat.le_refl _, Nat.le_refl _⟩) X Y hA S (by decide) (by decide) (fun u H locs Y S s104 p104 => ?_)
  obtain ⟨I104, J104, B104, G104⟩ := u
  dsimp only at Y S s104 p104
  refine lv_aload_n X.1 X.2.1 d_M_checksum_25 rfl (lv_at hl 0 rfl) ?_
  refine r_nv (m_run (As := []) (rest := []) (n := 0) X Y hZ hA hml hl.1 (r_M_macBegin l D E h q H.size I104 J104 B104 G104 S.1) kl_M_macBegin ks_M_macBegin kx_M_macBegin ki_M_macBegin ini_M hd_M_macBegin ⟨Nat.le_of_ble_eq_true rfl, Nat.le_of_ble_eq_true rfl⟩ rfl (Nat.le_of_ble_eq_true rfl) d_M_checksum_26 ⟨Nat.le_refl _, Nat.le_refl _⟩) X Y hA S (by decide) (by decide) (fun u H locs Y S s105 p105 => ?_)
  obtain ⟨I105, J105, B105, G105⟩ := u
  dsimp only at Y S s105 p105
  have x105 := p105
  refine lv_iload X.1 X.2.1 d_M_checksum_29 (lv_at hl 4 rfl) ?_
  have J111 : ∀ (n113 : Nat) (z107 : Int) (z108 : Int) (I106 : Nat → Int32) (J106 : Nat → Int64) (B106 : Nat → Nat → Int32) (G106 : Nat → Nat → Int64) (H : Heap) (locs : List Loc) (ls : Array Slot), (60000 - z107).toNat = n113 → ((-1) ≤ z107) → (z107 ≤ 60000) → (I106 8 = iI z108) → (0 ≤ z108) → (z108 ≤ 1000000) → (z108 = 64 + (z107 - a4)) → (a4 ≤ z107) → mH D E (mA E h q sz) s.heap h q I106 J106 B106 G106 H locs → rS [8, 14, 18] [5, 6, 7, 9, 10, 11, 12, 13, 15, 16, 17, 19, 20, 21, 22, 23] I B I106 B106 → lv_has ls 7 [(0, .ref h), (5, .int (iI a5)), (6, .int (iI z107))] → W p l e (mR 7 206) s m AV below meth c H locs 0 0 QQ (F0 m 33 ls []) := by
    intro n113
    induction n113 using Nat.strongRecOn with
    | ind n113 ih112 =>
      intro z107 z108 I106 J106 B106 G106 H locs ls hm114 l107 u107 e108 l108 u108 i109 i110 Y S hl
      refine lv_iload X.1 X.2.1 d_M_checksum_33 (lv_at hl 2 rfl) ?_
      refine lv_iload X.1 X.2.1 d_M_checksum_35 (lv_at hl 1 rfl) ?_
      refine z_icmp_ge (tgt := 57) X.1 X.2.1 d_M_checksum_37 (by decide) ⟨by omega, by omega⟩ ⟨by omega, by omega⟩ (fun h115 => ?_) (fun h115 => ?_)
      · refine lv_aload_n X.1 X.2.1 d_M_checksum_57 rfl (lv_at hl 0 rfl) ?_
        refine r_nv (m_run (As := []) (rest := []) (n := 0) X Y hZ hA hml hl.1 (r_M_macEnd l D E h q H.size I106 J106 B106 G106 S.1 z108 e108 (by omega) (by omega)) kl_M_macEnd ks_M_macEnd kx_M_macEnd ki_M_macEnd ini_M hd_M_macEnd ⟨Nat.le_of_ble_eq_true rfl, Nat.le_of_ble_eq_true rfl⟩ rfl (Nat.le_of_ble_eq_true rfl) d_M_checksum_58 ⟨Nat.le_refl _, Nat.le_refl _⟩) X Y hA S (by decide) (by decide) (fun u H locs Y S s116 p116 => ?_)
        obtain ⟨I116, J116, B116, G116⟩ := u
        dsimp only at Y S s116 p116
        exact m_retv hQQ X Y hr hlk ⟨S, trivial⟩ d_M_checksum_61
      · refine lv_aload_n X.1 X.2.1 d_M_checksum_40 rfl (lv_at hl 0 rfl) ?_
        refine lv_aload_n X.1 X.2.1 d_M_checksum_41 rfl (lv_at hl 0 rfl) ?_
        refine m_get X Y 0 (by decide) lk_mem (gf_mem _ _ _) rfl d_M_checksum_42 ?_
        refine lv_iload X.1 X.2.1 d_M_checksum_45 (lv_at hl 2 rfl) ?_
        refine r_bald X Y S (aw_mem _ _ _ _ _ _ _) rfl (by omega) (show z107 < ((60000 : Nat) : Int) by omega) (by omega) d_M_checksum_47 (fun z117 q117 l117 u117 => ?_)
        refine r_nv (m_run (As := [.int (iI z117)]) (rest := []) (n := 1) X Y hZ hA hml hl.1 (r_M_hash l D E h q H.size I106 J106 B106 G106 z117 (by omega) (by omega) S.1 z108 e108 (by omega) (by omega)) kl_M_hash ks_M_hash kx_M_hash ki_M_hash ini_M hd_M_hash ⟨Nat.le_of_ble_eq_true rfl, Nat.le_of_ble_eq_true rfl⟩ rfl (Nat.le_of_ble_eq_true rfl) d_M_checksum_48 ⟨Nat.le_refl _, Nat.le_refl _⟩) X Y hA S (by decide) (by decide) (fun u H locs Y S s118 p118 => ?_)
        obtain ⟨I118, J118, B118, G118⟩ := u
        dsimp only at Y S s118 p118
        have x118 := p118
        refine lv_iinc (v := iI (z107 + 1)) (lv' := [(6, .int (iI (z107 + 1))), (0, .ref h), (5, .int (iI a5))]) X.1 X.2.1 d_M_checksum_51 hl (k := 2) rfl ((iI_add _ _).trans (congrArg iI (by omega))) (by decide) rfl (fun ls hl => ?_)
        refine lv_goto (tgt := 33) X.1 X.2.1 d_M_checksum_54 (by decide) ?_
        exact ih112 ((60000 - (z107 + 1)).toNat) (by omega) (z107 + 1) (z108 + 1) I118 J118 B118 G118 _ _ _ rfl (by omega) (by omega) (x118.trans (congrArg iI (show (z108 + 1 : Int) = z108 + 1 by omega))) (by omega) (by omega) (by omega) (by omega) Y S (lv_sub hl [1, 2, 0] rfl)
  refine lv_istore (lv' := [(6, .int (iI a4)), (0, .ref h), (1, .ref ((q 58))), (2, .int (iI a2)), (3, .int (iI a3)), (4, .int (iI a4)), (5, .int (iI a5))]) X.1 X.2.1 d_M_checksum_31 hl (by decide) rfl (fun ls hl => ?_)
  exact J111 _ a4 64 I105 J105 B105 G105 _ _ _ rfl (by omega) (by omega) (x105.trans (congrArg iI (show (64 : Int) = 64 by omega))) (by omega) (by omega) (by omega) (by omega) Y S (lv_sub hl [1, 6, 0] rfl)
set_option maxHeartbeats 4000000 in
set_option maxRecDepth 100000 in
theorem r_M_open_key (l : Launch) (D : mD) (E : mE) (h : Nat) (q : Nat → Nat) (sz : Nat) (I : Nat → Int32) (J : Nat → Int64) (B : Nat → Nat → Int32) (G : Nat → Nat → Int64) (a2 : Int) (l_a2 : (-2147483648) ≤ a2) (u_a2 : a2 ≤ 2147483647) (a3 : Int) (l_a3 : (-2147483648) ≤ a3) (u_a3 : a3 ≤ 2147483647) (a4 : Int) (l_a4 : (-1) ≤ a4) (u_a4 : a4 ≤ 30000) (a5 : Int) (l_a5 : (-1) ≤ a5) (u_a5 : a5 ≤ 30000) (a6 : Int) (l_a6 : 0 ≤ a6) (u_a6 : a6 ≤ 30000) (hT : rT I B) (q0 : 0 ≤ a4 ∨ a5 < 27) (q1 : a5 - a4 ≤ 4200) : Met l y_M_open (k_M_open :: lw_tg) (mR 7 206) (va_Pc [.ref h, .ref (q 58), .int (iI a2), .int (iI a3), .int (iI a4), .int (iI a5), .int (iI a6)] (mPre D E h q (I, J, B, G) sz)) (va_Qi (rPi [8, 14, 18] [0, 5, 6, 7, 9, 10, 11, 12, 13, 15, 16, 17, 19, 20, 21, 22, 23, 34] I B (fun (z : Int) (u : mS) => (-1) ≤ z ∧ z ≤ 4200 ∧ (z = -1 ∨ z = a5 - a4 - 28 ∧ 0 ≤ z) ∧ mmF a6 (a6 + 4200) (B 0) (u.2.2.1 0))) (mPost D E h q (mA E h q sz)) (mA E h q sz)) 0 0 (mA E h q sz) := by
  refine m_enter (by decide) rfl (Nat.le_of_ble_eq_true rfl) (fun p e s m below meth c ls AV QQ H locs hQQ X Y hZ hA hr hlk hml hl => ?_)
  have Y : mH D E (mA E h q sz) s.heap h q I J B G H locs := Y
  have S : rS [8, 14, 18] [0, 5, 6, 7, 9, 10, 11, 12, 13, 15, 16, 17, 19, 20, 21, 22, 23, 34] I B I B := rS_rf hT
  have hl : lv_has ls 13 [(0, .ref h), (1, .ref ((q 58))), (2, .int (iI a2)), (3, .int (iI a3)), (4, .int (iI a4)), (5, .int (iI a5)), (6, .int (iI a6))] := hl
  refine lv_iload X.1 X.2.1 d_M_open_0 (lv_at hl 5 rfl) ?_
  refine lv_iload X.1 X.2.1 d_M_open_2 (lv_at hl 4 rfl) ?_
  refine z_isub X.1 X.2.1 d_M_open_4 ?_
  refine lv_istore (lv' := [(7, .int (iI (a5 - a4))), (0, .ref h), (1, .ref ((q 58))), (2, .int (iI a2)), (3, .int (iI a3)), (4, .int (iI a4)), (5, .int (iI a5)), (6, .int (iI a6))]) X.1 X.2.1 d_M_open_5 hl (by decide) rfl (fun ls hl => ?_)
  refine lv_iload X.1 X.2.1 d_M_open_7 (lv_at hl 0 rfl) ?_
  refine lv_bipush (v := iI 28) X.1 X.2.1 d_M_open_9 (by decide) ?_
  refine z_icmp_ge (tgt := 16) X.1 X.2.1 d_M_open_11 (by decide) ⟨by omega, by omega⟩ ⟨by omega, by omega⟩ (fun h101 => ?_) (fun h101 => ?_)
  · refine lv_iload X.1 X.2.1 d_M_open_16 (lv_at hl 0 rfl) ?_
    refine lv_bipush (v := iI 12) X.1 X.2.1 d_M_open_18 (by decide) ?_
    refine z_isub X.1 X.2.1 d_M_open_20 ?_
    refine lv_istore (lv' := [(8, .int (iI ((a5 - a4) - 12))), (7, .int (iI (a5 - a4))), (0, .ref h), (1, .ref ((q 58))), (2, .int (iI a2)), (3, .int (iI a3)), (4, .int (iI a4)), (5, .int (iI a5)), (6, .int (iI a6))]) X.1 X.2.1 d_M_open_21 hl (by decide) rfl (fun ls hl => ?_)
    refine lv_aload_n X.1 X.2.1 d_M_open_23 rfl (lv_at hl 2 rfl) ?_
    refine lv_aload_n X.1 X.2.1 d_M_open_24 rfl (lv_at hl 3 rfl) ?_
    refine lv_iload_n X.1 X.2.1 d_M_open_25 rfl (lv_at hl 4 rfl) ?_
    refine p_calli (As := [.int (iI a2)]) (rest := [.ref ((q 58)), .ref h]) (n := 1) X Y hml hl.1 (r_M_size l a2 (by omega) (by omega)) kl_M_size ks_M_size ki_M_size ini_M hd_M_size ⟨Nat.le_of_ble_eq_true rfl, Nat.le_of_ble_eq_true rfl⟩ rfl (Nat.le_of_ble_eq_true rfl) d_M_open_26 ⟨Nat.le_refl _, Nat.le_refl _⟩ (fun r102 H locs p102 Y => ?_)
    obtain ⟨z102, e102, p102⟩ := p102
    subst e102
    obtain ⟨l102, u102, x102⟩ := p102
    refine lv_iload_n X.1 X.2.1 d_M_open_29 rfl (lv_at hl 5 rfl) ?_
    refine lv_sipush (v := iI 170) X.1 X.2.1 d_M_open_30 (by decide) ?_
    refine r_nv (m_run (As := [.ref ((q 58)), .int (iI z102), .int (iI a3), .int (iI 170)]) (rest := []) (n := 4) X Y hZ hA hml hl.1 (r_M_useKey_key l D E h q H.size I J B G z102 (by omega) (by omega) a3 (by omega) (by omega) 170 (by omega) (by omega) S.1) kl_M_useKey ks_M_useKey kx_M_useKey ki_M_useKey ini_M hd_M_useKey ⟨Nat.le_of_ble_eq_true rfl, Nat.le_of_ble_eq_true rfl⟩ rfl (Nat.le_of_ble_eq_true rfl) d_M_open_33 ⟨Nat.le_refl _, Nat.le_refl _⟩) X Y hA S (by decide) (by decide) (fun u H locs Y S s103 p103 => ?_)
    obtain ⟨I103, J103, B103, G103⟩ := u
    dsimp only at Y S s103 p103
    refine lv_aload_n X.1 X.2.1 d_M_open_36 rfl (lv_at hl 2 rfl) ?_
    refine lv_aload_n X.1 X.2.1 d_M_open_37 rfl (lv_at hl 2 rfl) ?_
    refine m_get X Y 23 (by decide) lk_use (gf_use _ _ _) rfl d_M_open_38 ?_
    refine lv_iload_n X.1 X.2.1 d_M_open_41 rfl (lv_at hl 4 rfl) ?_
    refine p_calli (As := [.int (iI a2)]) (rest := [.ref ((q 23)), .ref h]) (n := 1) X Y hml hl.1 (r_M_size l a2 (by omega) (by omega)) kl_M_size ks_M_size ki_M_size ini_M hd_M_size ⟨Nat.le_of_ble_eq_true rfl, Nat.le_of_ble_eq_true rfl⟩ rfl (Nat.le_of_ble_eq_true rfl) d_M_open_42 ⟨Nat.le_refl _, Nat.le_refl _⟩ (fun r104 H locs p104 Y => ?_)
    obtain ⟨z104, e104, p104⟩ := p104
    subst e104
    obtain ⟨l104, u104, x104⟩ := p104
    refine r_nv (m_run (As := [.ref ((q 23)), .int (iI z104)]) (rest := []) (n := 2) X Y hZ hA hml hl.1 (r_M_aesKey_use l D E h q H.size I103 J103 B103 G103 z104 (by omega) (by omega) S.1) kl_M_aesKey ks_M_aesKey kx_M_aesKey ki_M_aesKey ini_M hd_M_aesKey ⟨Nat.le_of_ble_eq_true rfl, Nat.le_of_ble_eq_true rfl⟩ rfl (Nat.le_of_ble_eq_true rfl) d_M_open_45 ⟨Nat.le_refl _, Nat.le_refl _⟩) X Y hA S (by decide) (by decide) (fun u H locs Y S s105 p105 => ?_)
    obtain ⟨I105, J105, B105, G105⟩ := u
    dsimp only at Y S s105 p105
    refine lv_iload X.1 X.2.1 d_M_open_48 (lv_at hl 0 rfl) ?_
    refine lv_bipush (v := iI 15) X.1 X.2.1 d_M_open_50 (by decide) ?_
    refine z_iadd X.1 X.2.1 d_M_open_52 ?_
    refine lv_bipush (v := iI 16) X.1 X.2.1 d_M_open_53 (by decide) ?_
    refine z_idiv X.1 X.2.1 (by omega) (by omega) ⟨by decide, by decide⟩ d_M_open_55 ?_
    refine lv_istore (lv' := [(9, .int (iI ((((a5 - a4) - 12) + 15) / 16))), (8, .int (iI ((a5 - a4) - 12))), (7, .int (iI (a5 - a4))), (0, .ref h), (1, .ref ((q 58))), (2, .int (iI a2)), (3, .int (iI a3)), (4, .int (iI a4)), (5, .int (iI a5)), (6, .int (iI a6))]) X.1 X.2.1 d_M_open_56 hl (by decide) rfl (fun ls hl => ?_)
    refine lv_iconst (v := iI 0) X.1 X.2.1 d_M_open_58 (by decide) ?_
    have J109 : ∀ (n111 : Nat) (z107 : Int) (I106 : Nat → Int32) (J106 : Nat → Int64) (B106 : Nat → Nat → Int32) (G106 : Nat → Nat → Int64) (H : Heap) (locs : List Loc) (ls : Array Slot), (1875 - z107).toNat = n111 → (0 ≤ z107) → (z107 ≤ 1875) → (mmF a6 (a6 + 4200) (B 0) (B106 0)) → mH D E (mA E h q sz) s.heap h q I106 J106 B106 G106 H locs → rS [8, 14, 18] [0, 5, 6, 7, 9, 10, 11, 12, 13, 15, 16, 17, 19, 20, 21, 22, 23, 34] I B I106 B106 → lv_has ls 13 [(0, .ref h), (1, .ref ((q 58))), (2, .int (iI a2)), (3, .int (iI a3)), (4, .int (iI a4)), (6, .int (iI a6)), (8, .int (iI ((a5 - a4) - 12))), (9, .int (iI ((((a5 - a4) - 12) + 15) / 16))), (10, .int (iI z107))] → W p l e (mR 7 206) s m AV below meth c H locs 0 0 QQ (F0 m 61 ls []) := by
      intro n111
      induction n111 using Nat.strongRecOn with
      | ind n111 ih110 =>
        intro z107 I106 J106 B106 G106 H locs ls hm112 l107 u107 f108 Y S hl
        refine lv_iload X.1 X.2.1 d_M_open_61 (lv_at hl 8 rfl) ?_
        refine lv_iload X.1 X.2.1 d_M_open_63 (lv_at hl 7 rfl) ?_
        have J113 : ∀  (H : Heap) (locs : List Loc) (ls : Array Slot), mH D E (mA E h q sz) s.heap h q I106 J106 B106 G106 H locs → rS [8, 14, 18] [0, 5, 6, 7, 9, 10, 11, 12, 13, 15, 16, 17, 19, 20, 21, 22, 23, 34] I B I106 B106 → lv_has ls 13 [(0, .ref h), (1, .ref ((q 58))), (2, .int (iI a2)), (3, .int (iI a3)), (4, .int (iI a4)), (6, .int (iI a6)), (8, .int (iI ((a5 - a4) - 12))), (9, .int (iI ((((a5 - a4) - 12) + 15) / 16)))] → W p l e (mR 7 206) s m AV below meth c H locs 0 0 QQ (F0 m 208 ls []) := by
          intro  H locs ls  Y S hl
          refine lv_iload X.1 X.2.1 d_M_open_208 (lv_at hl 7 rfl) ?_
          refine lv_iconst (v := iI 1) X.1 X.2.1 d_M_open_210 (by decide) ?_
          have J119 : ∀ (I117 : Nat → Int32) (J117 : Nat → Int64) (B117 : Nat → Nat → Int32) (G117 : Nat → Nat → Int64) (H : Heap) (locs : List Loc) (ls : Array Slot), (mmF a6 (a6 + 4200) (B 0) (B117 0)) → mH D E (mA E h q sz) s.heap h q I117 J117 B117 G117 H locs → rS [8, 14, 18] [0, 5, 6, 7, 9, 10, 11, 12, 13, 15, 16, 17, 19, 20, 21, 22, 23, 34] I B I117 B117 → lv_has ls 13 [(0, .ref h), (1, .ref ((q 58))), (2, .int (iI a2)), (3, .int (iI a3)), (4, .int (iI a4)), (6, .int (iI a6)), (8, .int (iI ((a5 - a4) - 12)))] → W p l e (mR 7 206) s m AV below meth c H locs 0 0 QQ (F0 m 448 ls []) := by
            intro I117 J117 B117 G117 H locs ls f118 Y S hl
            refine lv_aload_n X.1 X.2.1 d_M_open_448 rfl (lv_at hl 0 rfl) ?_
            refine lv_aload_n X.1 X.2.1 d_M_open_449 rfl (lv_at hl 1 rfl) ?_
            refine lv_iload_n X.1 X.2.1 d_M_open_450 rfl (lv_at hl 2 rfl) ?_
            refine p_calli (As := [.int (iI a2)]) (rest := [.ref ((q 58)), .ref h]) (n := 1) X Y hml hl.1 (r_M_size l a2 (by omega) (by omega)) kl_M_size ks_M_size ki_M_size ini_M hd_M_size ⟨Nat.le_of_ble_eq_true rfl, Nat.le_of_ble_eq_true rfl⟩ rfl (Nat.le_of_ble_eq_true rfl) d_M_open_451 ⟨Nat.le_refl _, Nat.le_refl _⟩ (fun r123 H locs p123 Y => ?_)
            obtain ⟨z123, e123, p123⟩ := p123
            subst e123
            obtain ⟨l123, u123, x123⟩ := p123
            refine lv_iload_n X.1 X.2.1 d_M_open_454 rfl (lv_at hl 3 rfl) ?_
            refine lv_bipush (v := iI 85) X.1 X.2.1 d_M_open_455 (by decide) ?_
            refine r_nv (m_run (As := [.ref ((q 58)), .int (iI z123), .int (iI a3), .int (iI 85)]) (rest := []) (n := 4) X Y hZ hA hml hl.1 (r_M_useKey_key l D E h q H.size I117 J117 B117 G117 z123 (by omega) (by omega) a3 (by omega) (by omega) 85 (by omega) (by omega) S.1) kl_M_useKey ks_M_useKey kx_M_useKey ki_M_useKey ini_M hd_M_useKey ⟨Nat.le_of_ble_eq_true rfl, Nat.le_of_ble_eq_true rfl⟩ rfl (Nat.le_of_ble_eq_true rfl) d_M_open_457 ⟨Nat.le_refl _, Nat.le_refl _⟩) X Y hA S (by decide) (by decide) (fun u H locs Y S s124 p124 => ?_)
            obtain ⟨I124, J124, B124, G124⟩ := u
            dsimp only at Y S s124 p124
            refine lv_aload_n X.1 X.2.1 d_M_open_460 rfl (lv_at hl 0 rfl) ?_
            refine lv_aload_n X.1 X.2.1 d_M_open_461 rfl (lv_at hl 0 rfl) ?_
            refine m_get X Y 23 (by decide) lk_use (gf_use _ _ _) rfl d_M_open_462 ?_
            refine lv_iload_n X.1 X.2.1 d_M_open_465 rfl (lv_at hl 2 rfl) ?_
            refine p_calli (As := [.int (iI a2)]) (rest := [.ref ((q 23)), .ref h]) (n := 1) X Y hml hl.1 (r_M_size l a2 (by omega) (by omega)) kl_M_size ks_M_size ki_M_size ini_M hd_M_size ⟨Nat.le_of_ble_eq_true rfl, Nat.le_of_ble_eq_true rfl⟩ rfl (Nat.le_of_ble_eq_true rfl) d_M_open_466 ⟨Nat.le_refl _, Nat.le_refl _⟩ (fun r125 H locs p125 Y => ?_)
            obtain ⟨z125, e125, p125⟩ := p125
            subst e125
            obtain ⟨l125, u125, x125⟩ := p125
            refine r_nv (m_run (As := [.ref ((q 23)), .int (iI z125)]) (rest := []) (n := 2) X Y hZ hA hml hl.1 (r_M_macKey_use l D E h q H.size I124 J124 B124 G124 z125 (by omega) (by omega) S.1) kl_M_macKey ks_M_macKey kx_M_macKey ki_M_macKey ini_M hd_M_macKey ⟨Nat.le_of_ble_eq_true rfl, Nat.le_of_ble_eq_true rfl⟩ rfl (Nat.le_of_ble_eq_true rfl) d_M_open_469 ⟨Nat.le_refl _, Nat.le_refl _⟩) X Y hA S (by decide) (by decide) (fun u H locs Y S s126 p126 => ?_)
            obtain ⟨I126, J126, B126, G126⟩ := u
            dsimp only at Y S s126 p126
            refine lv_aload_n X.1 X.2.1 d_M_open_472 rfl (lv_at hl 0 rfl) ?_
            refine r_nv (m_run (As := []) (rest := []) (n := 0) X Y hZ hA hml hl.1 (r_M_macBegin l D E h q H.size I126 J126 B126 G126 S.1) kl_M_macBegin ks_M_macBegin kx_M_macBegin ki_M_macBegin ini_M hd_M_macBegin ⟨Nat.le_of_ble_eq_true rfl, Nat.le_of_ble_eq_true rfl⟩ rfl (Nat.le_of_ble_eq_true rfl) d_M_open_473 ⟨Nat.le_refl _, Nat.le_refl _⟩) X Y hA S (by decide) (by decide) (fun u H locs Y S s127 p127 => ?_)
            obtain ⟨I127, J127, B127, G127⟩ := u
            dsimp only at Y S s127 p127
            have x127 := p127
            refine lv_iconst (v := iI 0) X.1 X.2.1 d_M_open_476 (by decide) ?_
            have J133 : ∀ (n135 : Nat) (z129 : Int) (z131 : Int) (I128 : Nat → Int32) (J128 : Nat → Int64) (B128 : Nat → Nat → Int32) (G128 : Nat → Nat → Int64) (H : Heap) (locs : List Loc) (ls : Array Slot), (29989 - z129).toNat = n135 → (0 ≤ z129) → (z129 ≤ 29989) → (mmF a6 (a6 + 4200) (B 0) (B128 0)) → (I128 8 = iI z131) → (0 ≤ z131) → (z131 ≤ 1000000) → (z131 = 64 + (z129 - 0)) → mH D E (mA E h q sz) s.heap h q I128 J128 B128 G128 H locs → rS [8, 14, 18] [0, 5, 6, 7, 9, 10, 11, 12, 13, 15, 16, 17, 19, 20, 21, 22, 23, 34] I B I128 B128 → lv_has ls 13 [(0, .ref h), (4, .int (iI a4)), (6, .int (iI a6)), (8, .int (iI ((a5 - a4) - 12))), (10, .int (iI z129))] → W p l e (mR 7 206) s m AV below meth c H locs 0 0 QQ (F0 m 479 ls []) := by
              intro n135
              induction n135 using Nat.strongRecOn with
              | ind n135 ih134 =>
                intro z129 z131 I128 J128 B128 G128 H locs ls hm136 l129 u129 f130 e131 l131 u131 i132 Y S hl
                refine lv_iload X.1 X.2.1 d_M_open_479 (lv_at hl 4 rfl) ?_
                refine lv_iload X.1 X.2.1 d_M_open_481 (lv_at hl 3 rfl) ?_
                refine z_icmp_ge (tgt := 503) X.1 X.2.1 d_M_open_483 (by decide) ⟨by omega, by omega⟩ ⟨by omega, by omega⟩ (fun h137 => ?_) (fun h137 => ?_)
                · refine lv_aload_n X.1 X.2.1 d_M_open_503 rfl (lv_at hl 0 rfl) ?_
                  refine r_nv (m_run (As := []) (rest := []) (n := 0) X Y hZ hA hml hl.1 (r_M_macEnd l D E h q H.size I128 J128 B128 G128 S.1 z131 e131 (by omega) (by omega)) kl_M_macEnd ks_M_macEnd kx_M_macEnd ki_M_macEnd ini_M hd_M_macEnd ⟨Nat.le_of_ble_eq_true rfl, Nat.le_of_ble_eq_true rfl⟩ rfl (Nat.le_of_ble_eq_true rfl) d_M_open_504 ⟨Nat.le_refl _, Nat.le_refl _⟩) X Y hA S (by decide) (by decide) (fun u H locs Y S s138 p138 => ?_)
                  obtain ⟨I138, J138, B138, G138⟩ := u
                  dsimp only at Y S s138 p138
                  refine lv_iconst (v := iI 0) X.1 X.2.1 d_M_open_507 (by decide) ?_
                  have J140 : ∀ (n142 : Nat) (z139 : Int) (H : Heap) (locs : List Loc) (ls : Array Slot), (12 - z139).toNat = n142 → (0 ≤ z139) → (z139 ≤ 12) → mH D E (mA E h q sz) s.heap h q I138 J138 B138 G138 H locs → rS [8, 14, 18] [0, 5, 6, 7, 9, 10, 11, 12, 13, 15, 16, 17, 19, 20, 21, 22, 23, 34] I B I138 B138 → lv_has ls 13 [(0, .ref h), (4, .int (iI a4)), (6, .int (iI a6)), (8, .int (iI ((a5 - a4) - 12))), (10, .int (iI z139))] → W p l e (mR 7 206) s m AV below meth c H locs 0 0 QQ (F0 m 510 ls []) := by
                    intro n142
                    induction n142 using Nat.strongRecOn with
                    | ind n142 ih141 =>
                      intro z139 H locs ls hm143 l139 u139 Y S hl
                      refine lv_iload X.1 X.2.1 d_M_open_510 (lv_at hl 4 rfl) ?_
                      refine lv_bipush (v := iI 12) X.1 X.2.1 d_M_open_512 (by decide) ?_
                      refine z_icmp_ge (tgt := 548) X.1 X.2.1 d_M_open_514 (by decide) ⟨by omega, by omega⟩ ⟨by omega, by omega⟩ (fun h144 => ?_) (fun h144 => ?_)
                      · refine lv_bipush (v := iI 16) X.1 X.2.1 d_M_open_548 (by decide) ?_
                        have J148 : ∀ (n150 : Nat) (z146 : Int) (I145 : Nat → Int32) (J145 : Nat → Int64) (B145 : Nat → Nat → Int32) (G145 : Nat → Nat → Int64) (H : Heap) (locs : List Loc) (ls : Array Slot), (29989 - z146).toNat = n150 → (16 ≤ z146) → (z146 ≤ 29989) → (mmF a6 (a6 + 4200) (B 0) (B145 0)) → mH D E (mA E h q sz) s.heap h q I145 J145 B145 G145 H locs → rS [8, 14, 18] [0, 5, 6, 7, 9, 10, 11, 12, 13, 15, 16, 17, 19, 20, 21, 22, 23, 34] I B I145 B145 → lv_has ls 13 [(0, .ref h), (6, .int (iI a6)), (8, .int (iI ((a5 - a4) - 12))), (10, .int (iI z146))] → W p l e (mR 7 206) s m AV below meth c H locs 0 0 QQ (F0 m 552 ls []) := by
                          intro n150
                          induction n150 using Nat.strongRecOn with
                          | ind n150 ih149 =>
                            intro z146 I145 J145 B145 G145 H locs ls hm151 l146 u146 f147 Y S hl
                            refine lv_iload X.1 X.2.1 d_M_open_552 (lv_at hl 3 rfl) ?_
                            refine lv_iload X.1 X.2.1 d_M_open_554 (lv_at hl 2 rfl) ?_
                            refine z_icmp_ge (tgt := 585) X.1 X.2.1 d_M_open_556 (by decide) ⟨by omega, by omega⟩ ⟨by omega, by omega⟩ (fun h152 => ?_) (fun h152 => ?_)
                            · refine lv_iload X.1 X.2.1 d_M_open_585 (lv_at hl 2 rfl) ?_
                              refine lv_bipush (v := iI 16) X.1 X.2.1 d_M_open_587 (by decide) ?_
                              refine z_isub X.1 X.2.1 d_M_open_589 ?_
                              exact m_reti hQQ X Y hr hlk ⟨S, ((a5 - a4) - 12) - 16, rfl, ⟨by omega, by omega, by omega, f147⟩⟩ d_M_open_590
                            · refine lv_aload_n X.1 X.2.1 d_M_open_559 rfl (lv_at hl 0 rfl) ?_
                              refine m_get X Y 0 (by decide) lk_mem (gf_mem _ _ _) rfl d_M_open_560 ?_
                              refine lv_iload X.1 X.2.1 d_M_open_563 (lv_at hl 1 rfl) ?_
                              refine lv_iload X.1 X.2.1 d_M_open_565 (lv_at hl 3 rfl) ?_
                              refine z_iadd X.1 X.2.1 d_M_open_567 ?_
                              refine lv_bipush (v := iI 16) X.1 X.2.1 d_M_open_568 (by decide) ?_
                              refine z_isub X.1 X.2.1 d_M_open_570 ?_
                              refine lv_aload_n X.1 X.2.1 d_M_open_571 rfl (lv_at hl 0 rfl) ?_
                              refine m_get X Y 34 (by decide) lk_text (gf_text _ _ _) rfl d_M_open_572 ?_
                              refine lv_iload X.1 X.2.1 d_M_open_575 (lv_at hl 3 rfl) ?_
                              refine r_bald X Y S (aw_text _ _ _ _ _ _ _) rfl (by omega) (show z146 < ((20000 : Nat) : Int) by omega) (by omega) d_M_open_577 (fun z153 q153 l153 u153 => ?_)
                              refine r_bast X Y S (aw_mem _ _ _ _ _ _ _) (sw_mem _ _ _ _ _ _ _) rfl (by omega) (show (a6 + z146) - 16 < ((60000 : Nat) : Int) by omega) (by omega) (by decide) d_M_open_578 (fun B154 H locs Y S w154 => ?_)
                              have f155 : mmF a6 (a6 + 4200) (B 0) (B154 0) := mmF_w f147 w154 (by omega) (by omega)
                              refine lv_iinc (v := iI (z146 + 1)) (lv' := [(10, .int (iI (z146 + 1))), (0, .ref h), (6, .int (iI a6)), (8, .int (iI ((a5 - a4) - 12)))]) X.1 X.2.1 d_M_open_579 hl (k := 3) rfl ((iI_add _ _).trans (congrArg iI (by omega))) (by decide) rfl (fun ls hl => ?_)
                              refine lv_goto (tgt := 552) X.1 X.2.1 d_M_open_582 (by decide) ?_
                              exact ih149 ((29989 - (z146 + 1)).toNat) (by omega) (z146 + 1) I145 J145 B154 G145 _ _ _ rfl (by omega) (by omega) f155 Y S (lv_sub hl [1, 2, 3, 0] rfl)
                        refine lv_istore (lv' := [(10, .int (iI 16)), (0, .ref h), (4, .int (iI a4)), (6, .int (iI a6)), (8, .int (iI ((a5 - a4) - 12)))]) X.1 X.2.1 d_M_open_550 hl (by decide) rfl (fun ls hl => ?_)
                        exact J148 _ 16 I138 J138 B138 G138 _ _ _ rfl (by omega) (by omega) (mmF_cg (s138.2.2 0 (by decide)) f130) Y S (lv_sub hl [1, 3, 4, 0] rfl)
                      · refine lv_aload_n X.1 X.2.1 d_M_open_517 rfl (lv_at hl 0 rfl) ?_
                        refine m_get X Y 10 (by decide) lk_mac (gf_mac _ _ _) rfl d_M_open_518 ?_
                        refine lv_iload X.1 X.2.1 d_M_open_521 (lv_at hl 4 rfl) ?_
                        refine r_bald X Y S (aw_mac _ _ _ _ _ _ _) rfl (by omega) (show z139 < ((20 : Nat) : Int) by omega) (by omega) d_M_open_523 (fun z156 q156 l156 u156 => ?_)
                        refine lv_aload_n X.1 X.2.1 d_M_open_524 rfl (lv_at hl 0 rfl) ?_
                        refine m_get X Y 0 (by decide) lk_mem (gf_mem _ _ _) rfl d_M_open_525 ?_
                        refine lv_iload X.1 X.2.1 d_M_open_528 (lv_at hl 1 rfl) ?_
                        refine lv_iload X.1 X.2.1 d_M_open_530 (lv_at hl 3 rfl) ?_
                        refine z_iadd X.1 X.2.1 d_M_open_532 ?_
                        refine lv_iload X.1 X.2.1 d_M_open_533 (lv_at hl 4 rfl) ?_
                        refine z_iadd X.1 X.2.1 d_M_open_535 ?_
                        refine r_bald X Y S (aw_mem _ _ _ _ _ _ _) rfl (by omega) (show (a4 + ((a5 - a4) - 12)) + z139 < ((60000 : Nat) : Int) by omega) (by omega) d_M_open_536 (fun z157 q157 l157 u157 => ?_)
                        refine z_icmp_eq (tgt := 542) X.1 X.2.1 d_M_open_537 (by decide) ⟨by omega, by omega⟩ ⟨by omega, by omega⟩ (fun h158 => ?_) (fun h158 => ?_)
                        · refine lv_iinc (v := iI (z139 + 1)) (lv' := [(10, .int (iI (z139 + 1))), (0, .ref h), (4, .int (iI a4)), (6, .int (iI a6)), (8, .int (iI ((a5 - a4) - 12)))]) X.1 X.2.1 d_M_open_542 hl (k := 4) rfl ((iI_add _ _).trans (congrArg iI (by omega))) (by decide) rfl (fun ls hl => ?_)
                          refine lv_goto (tgt := 510) X.1 X.2.1 d_M_open_545 (by decide) ?_
                          exact ih141 ((12 - (z139 + 1)).toNat) (by omega) (z139 + 1) _ _ _ rfl (by omega) (by omega) Y S (lv_sub hl [1, 2, 3, 4, 0] rfl)
                        · refine lv_iconst (v := iI (-1)) X.1 X.2.1 d_M_open_540 (by decide) ?_
                          exact m_reti hQQ X Y hr hlk ⟨S, (-1), rfl, ⟨by omega, by omega, by omega, (mmF_cg (s138.2.2 0 (by decide)) f130)⟩⟩ d_M_open_541
                  refine lv_istore (lv' := [(10, .int (iI 0)), (0, .ref h), (4, .int (iI a4)), (6, .int (iI a6)), (8, .int (iI ((a5 - a4) - 12)))]) X.1 X.2.1 d_M_open_508 hl (by decide) rfl (fun ls hl => ?_)
                  exact J140 _ 0 _ _ _ rfl (by omega) (by omega) Y S (lv_sub hl [1, 2, 3, 4, 0] rfl)
                · refine lv_aload_n X.1 X.2.1 d_M_open_486 rfl (lv_at hl 0 rfl) ?_
                  refine lv_aload_n X.1 X.2.1 d_M_open_487 rfl (lv_at hl 0 rfl) ?_
                  refine m_get X Y 34 (by decide) lk_text (gf_text _ _ _) rfl d_M_open_488 ?_
                  refine lv_iload X.1 X.2.1 d_M_open_491 (lv_at hl 4 rfl) ?_
                  refine r_bald X Y S (aw_text _ _ _ _ _ _ _) rfl (by omega) (show z129 < ((20000 : Nat) : Int) by omega) (by omega) d_M_open_493 (fun z159 q159 l159 u159 => ?_)
                  refine r_nv (m_run (As := [.int (iI z159)]) (rest := []) (n := 1) X Y hZ hA hml hl.1 (r_M_hash l D E h q H.size I128 J128 B128 G128 z159 (by omega) (by omega) S.1 z131 e131 (by omega) (by omega)) kl_M_hash ks_M_hash kx_M_hash ki_M_hash ini_M hd_M_hash ⟨Nat.le_of_ble_eq_true rfl, Nat.le_of_ble_eq_true rfl⟩ rfl (Nat.le_of_ble_eq_true rfl) d_M_open_494 ⟨Nat.le_refl _, Nat.le_refl _⟩) X Y hA S (by decide) (by decide) (fun u H locs Y S s160 p160 => ?_)
                  obtain ⟨I160, J160, B160, G160⟩ := u
                  dsimp only at Y S s160 p160
                  have x160 := p160
                  refine lv_iinc (v := iI (z129 + 1)) (lv' := [(10, .int (iI (z129 + 1))), (0, .ref h), (4, .int (iI a4)), (6, .int (iI a6)), (8, .int (iI ((a5 - a4) - 12)))]) X.1 X.2.1 d_M_open_497 hl (k := 4) rfl ((iI_add _ _).trans (congrArg iI (by omega))) (by decide) rfl (fun ls hl => ?_)
                  refine lv_goto (tgt := 479) X.1 X.2.1 d_M_open_500 (by decide) ?_
                  exact ih134 ((29989 - (z129 + 1)).toNat) (by omega) (z129 + 1) (z131 + 1) I160 J160 B160 G160 _ _ _ rfl (by omega) (by omega) (mmF_cg (s160.2.2 0 (by decide)) f130) (x160.trans (congrArg iI (show (z131 + 1 : Int) = z131 + 1 by omega))) (by omega) (by omega) (by omega) Y S (lv_sub hl [1, 2, 3, 4, 0] rfl)
            refine lv_istore (lv' := [(10, .int (iI 0)), (0, .ref h), (1, .ref ((q 58))), (2, .int (iI a2)), (3, .int (iI a3)), (4, .int (iI a4)), (6, .int (iI a6)), (8, .int (iI ((a5 - a4) - 12)))]) X.1 X.2.1 d_M_open_477 hl (by decide) rfl (fun ls hl => ?_)
            exact J133 _ 0 64 I127 J127 B127 G127 _ _ _ rfl (by omega) (by omega) (mmF_cg (s127.2.2 0 (by decide)) (mmF_cg (s126.2.2 0 (by decide)) (mmF_cg (s124.2.2 0 (by decide)) f118))) (x127.trans (congrArg iI (show (64 : Int) = 64 by omega))) (by omega) (by omega) (by omega) Y S (lv_sub hl [1, 5, 6, 7, 0] rfl)
          refine z_icmp_le (tgt := 448) X.1 X.2.1 d_M_open_211 (by decide) ⟨by omega, by omega⟩ ⟨by omega, by omega⟩ (fun h161 => ?_) (fun h161 => ?_)
          · exact J119 I106 J106 B106 G106 _ _ _ f108 Y S (lv_sub hl [0, 1, 2, 3, 4, 5, 6] rfl)
          · refine lv_bipush (v := iI 16) X.1 X.2.1 d_M_open_214 (by decide) ?_
            refine lv_iload X.1 X.2.1 d_M_open_216 (lv_at hl 7 rfl) ?_
            refine lv_iconst (v := iI 2) X.1 X.2.1 d_M_open_218 (by decide) ?_
            refine z_isub X.1 X.2.1 d_M_open_219 ?_
            refine z_imul X.1 X.2.1 d_M_open_220 ?_
            refine lv_istore (lv' := [(10, .int (iI (16 * (((((a5 - a4) - 12) + 15) / 16) - 2)))), (0, .ref h), (1, .ref ((q 58))), (2, .int (iI a2)), (3, .int (iI a3)), (4, .int (iI a4)), (6, .int (iI a6)), (8, .int (iI ((a5 - a4) - 12))), (9, .int (iI ((((a5 - a4) - 12) + 15) / 16)))]) X.1 X.2.1 d_M_open_221 hl (by decide) rfl (fun ls hl => ?_)
            refine lv_iload X.1 X.2.1 d_M_open_223 (lv_at hl 7 rfl) ?_
            refine lv_bipush (v := iI 16) X.1 X.2.1 d_M_open_225 (by decide) ?_
            refine lv_iload X.1 X.2.1 d_M_open_227 (lv_at hl 8 rfl) ?_
            refine lv_iconst (v := iI 1) X.1 X.2.1 d_M_open_229 (by decide) ?_
            refine z_isub X.1 X.2.1 d_M_open_230 ?_
            refine z_imul X.1 X.2.1 d_M_open_231 ?_
            refine z_isub X.1 X.2.1 d_M_open_232 ?_
            refine lv_istore (lv' := [(11, .int (iI (((a5 - a4) - 12) - (16 * (((((a5 - a4) - 12) + 15) / 16) - 1))))), (10, .int (iI (16 * (((((a5 - a4) - 12) + 15) / 16) - 2)))), (0, .ref h), (1, .ref ((q 58))), (2, .int (iI a2)), (3, .int (iI a3)), (4, .int (iI a4)), (6, .int (iI a6)), (8, .int (iI ((a5 - a4) - 12))), (9, .int (iI ((((a5 - a4) - 12) + 15) / 16)))]) X.1 X.2.1 d_M_open_233 hl (by decide) rfl (fun ls hl => ?_)
            refine lv_iconst (v := iI 0) X.1 X.2.1 d_M_open_235 (by decide) ?_
            have J165 : ∀ (n167 : Nat) (z163 : Int) (I162 : Nat → Int32) (J162 : Nat → Int64) (B162 : Nat → Nat → Int32) (G162 : Nat → Nat → Int64) (H : Heap) (locs : List Loc) (ls : Array Slot), (16 - z163).toNat = n167 → (0 ≤ z163) → (z163 ≤ 16) → (mmF a6 (a6 + 4200) (B 0) (B162 0)) → mH D E (mA E h q sz) s.heap h q I162 J162 B162 G162 H locs → rS [8, 14, 18] [0, 5, 6, 7, 9, 10, 11, 12, 13, 15, 16, 17, 19, 20, 21, 22, 23, 34] I B I162 B162 → lv_has ls 13 [(0, .ref h), (1, .ref ((q 58))), (2, .int (iI a2)), (3, .int (iI a3)), (4, .int (iI a4)), (6, .int (iI a6)), (8, .int (iI ((a5 - a4) - 12))), (10, .int (iI (16 * (((((a5 - a4) - 12) + 15) / 16) - 2)))), (11, .int (iI (((a5 - a4) - 12) - (16 * (((((a5 - a4) - 12) + 15) / 16) - 1))))), (12, .int (iI z163))] → W p l e (mR 7 206) s m AV below meth c H locs 0 0 QQ (F0 m 238 ls []) := by
              intro n167
              induction n167 using Nat.strongRecOn with
              | ind n167 ih166 =>
                intro z163 I162 J162 B162 G162 H locs ls hm168 l163 u163 f164 Y S hl
                refine lv_iload X.1 X.2.1 d_M_open_238 (lv_at hl 9 rfl) ?_
                refine lv_bipush (v := iI 16) X.1 X.2.1 d_M_open_240 (by decide) ?_
                refine z_icmp_ge (tgt := 275) X.1 X.2.1 d_M_open_242 (by decide) ⟨by omega, by omega⟩ ⟨by omega, by omega⟩ (fun h169 => ?_) (fun h169 => ?_)
                · refine lv_aload_n X.1 X.2.1 d_M_open_275 rfl (lv_at hl 0 rfl) ?_
                  refine r_nv (m_run (As := []) (rest := []) (n := 0) X Y hZ hA hml hl.1 (r_M_uncover l D E h q H.size I162 J162 B162 G162 S.1) kl_M_uncover ks_M_uncover kx_M_uncover ki_M_uncover ini_M hd_M_uncover ⟨Nat.le_of_ble_eq_true rfl, Nat.le_of_ble_eq_true rfl⟩ rfl (Nat.le_of_ble_eq_true rfl) d_M_open_276 ⟨Nat.le_refl _, Nat.le_refl _⟩) X Y hA S (by decide) (by decide) (fun u H locs Y S s170 p170 => ?_)
                  obtain ⟨I170, J170, B170, G170⟩ := u
                  dsimp only at Y S s170 p170
                  refine lv_iconst (v := iI 0) X.1 X.2.1 d_M_open_279 (by decide) ?_
                  have J174 : ∀ (n176 : Nat) (z172 : Int) (I171 : Nat → Int32) (J171 : Nat → Int64) (B171 : Nat → Nat → Int32) (G171 : Nat → Nat → Int64) (H : Heap) (locs : List Loc) (ls : Array Slot), (29973 - z172).toNat = n176 → (0 ≤ z172) → (z172 ≤ 29973) → (mmF a6 (a6 + 4200) (B 0) (B171 0)) → mH D E (mA E h q sz) s.heap h q I171 J171 B171 G171 H locs → rS [8, 14, 18] [0, 5, 6, 7, 9, 10, 11, 12, 13, 15, 16, 17, 19, 20, 21, 22, 23, 34] I B I171 B171 → lv_has ls 13 [(0, .ref h), (1, .ref ((q 58))), (2, .int (iI a2)), (3, .int (iI a3)), (4, .int (iI a4)), (6, .int (iI a6)), (8, .int (iI ((a5 - a4) - 12))), (10, .int (iI (16 * (((((a5 - a4) - 12) + 15) / 16) - 2)))), (11, .int (iI (((a5 - a4) - 12) - (16 * (((((a5 - a4) - 12) + 15) / 16) - 1))))), (12, .int (iI z172))] → W p l e (mR 7 206) s m AV below meth c H locs 0 0 QQ (F0 m 282 ls []) := by
                    intro n176
                    induction n176 using Nat.strongRecOn with
                    | ind n176 ih175 =>
                      intro z172 I171 J171 B171 G171 H locs ls hm177 l172 u172 f173 Y S hl
                      refine lv_iload X.1 X.2.1 d_M_open_282 (lv_at hl 9 rfl) ?_
                      refine lv_iload X.1 X.2.1 d_M_open_284 (lv_at hl 8 rfl) ?_
                      refine z_icmp_ge (tgt := 337) X.1 X.2.1 d_M_open_286 (by decide) ⟨by omega, by omega⟩ ⟨by omega, by omega⟩ (fun h178 => ?_) (fun h178 => ?_)
                      · refine lv_iconst (v := iI 0) X.1 X.2.1 d_M_open_337 (by decide) ?_
                        have J182 : ∀ (n184 : Nat) (z180 : Int) (I179 : Nat → Int32) (J179 : Nat → Int64) (B179 : Nat → Nat → Int32) (G179 : Nat → Nat → Int64) (H : Heap) (locs : List Loc) (ls : Array Slot), (29973 - z180).toNat = n184 → (0 ≤ z180) → (z180 ≤ 29973) → (mmF a6 (a6 + 4200) (B 0) (B179 0)) → mH D E (mA E h q sz) s.heap h q I179 J179 B179 G179 H locs → rS [8, 14, 18] [0, 5, 6, 7, 9, 10, 11, 12, 13, 15, 16, 17, 19, 20, 21, 22, 23, 34] I B I179 B179 → lv_has ls 13 [(0, .ref h), (1, .ref ((q 58))), (2, .int (iI a2)), (3, .int (iI a3)), (4, .int (iI a4)), (6, .int (iI a6)), (8, .int (iI ((a5 - a4) - 12))), (10, .int (iI (16 * (((((a5 - a4) - 12) + 15) / 16) - 2)))), (11, .int (iI (((a5 - a4) - 12) - (16 * (((((a5 - a4) - 12) + 15) / 16) - 1))))), (12, .int (iI z180))] → W p l e (mR 7 206) s m AV below meth c H locs 0 0 QQ (F0 m 340 ls []) := by
                          intro n184
                          induction n184 using Nat.strongRecOn with
                          | ind n184 ih183 =>
                            intro z180 I179 J179 B179 G179 H locs ls hm185 l180 u180 f181 Y S hl
                            refine lv_iload X.1 X.2.1 d_M_open_340 (lv_at hl 9 rfl) ?_
                            refine lv_iload X.1 X.2.1 d_M_open_342 (lv_at hl 8 rfl) ?_
                            refine z_icmp_ge (tgt := 380) X.1 X.2.1 d_M_open_344 (by decide) ⟨by omega, by omega⟩ ⟨by omega, by omega⟩ (fun h186 => ?_) (fun h186 => ?_)
                            · refine lv_aload_n X.1 X.2.1 d_M_open_380 rfl (lv_at hl 0 rfl) ?_
                              refine r_nv (m_run (As := []) (rest := []) (n := 0) X Y hZ hA hml hl.1 (r_M_uncover l D E h q H.size I179 J179 B179 G179 S.1) kl_M_uncover ks_M_uncover kx_M_uncover ki_M_uncover ini_M hd_M_uncover ⟨Nat.le_of_ble_eq_true rfl, Nat.le_of_ble_eq_true rfl⟩ rfl (Nat.le_of_ble_eq_true rfl) d_M_open_381 ⟨Nat.le_refl _, Nat.le_refl _⟩) X Y hA S (by decide) (by decide) (fun u H locs Y S s187 p187 => ?_)
                              obtain ⟨I187, J187, B187, G187⟩ := u
                              dsimp only at Y S s187 p187
                              refine lv_iconst (v := iI 0) X.1 X.2.1 d_M_open_384 (by decide) ?_
                              have J191 : ∀ (n193 : Nat) (z189 : Int) (I188 : Nat → Int32) (J188 : Nat → Int64) (B188 : Nat → Nat → Int32) (G188 : Nat → Nat → Int64) (H : Heap) (locs : List Loc) (ls : Array Slot), (16 - z189).toNat = n193 → (0 ≤ z189) → (z189 ≤ 16) → (mmF a6 (a6 + 4200) (B 0) (B188 0)) → mH D E (mA E h q sz) s.heap h q I188 J188 B188 G188 H locs → rS [8, 14, 18] [0, 5, 6, 7, 9, 10, 11, 12, 13, 15, 16, 17, 19, 20, 21, 22, 23, 34] I B I188 B188 → lv_has ls 13 [(0, .ref h), (1, .ref ((q 58))), (2, .int (iI a2)), (3, .int (iI a3)), (4, .int (iI a4)), (6, .int (iI a6)), (8, .int (iI ((a5 - a4) - 12))), (10, .int (iI (16 * (((((a5 - a4) - 12) + 15) / 16) - 2)))), (12, .int (iI z189))] → W p l e (mR 7 206) s m AV below meth c H locs 0 0 QQ (F0 m 387 ls []) := by
                                intro n193
                                induction n193 using Nat.strongRecOn with
                                | ind n193 ih192 =>
                                  intro z189 I188 J188 B188 G188 H locs ls hm194 l189 u189 f190 Y S hl
                                  refine lv_iload X.1 X.2.1 d_M_open_387 (lv_at hl 8 rfl) ?_
                                  refine lv_bipush (v := iI 16) X.1 X.2.1 d_M_open_389 (by decide) ?_
                                  refine z_icmp_ge (tgt := 448) X.1 X.2.1 d_M_open_391 (by decide) ⟨by omega, by omega⟩ ⟨by omega, by omega⟩ (fun h195 => ?_) (fun h195 => ?_)
                                  · exact J119 I188 J188 B188 G188 _ _ _ f190 Y S (lv_sub hl [0, 1, 2, 3, 4, 5, 6] rfl)
                                  · refine lv_aload_n X.1 X.2.1 d_M_open_394 rfl (lv_at hl 0 rfl) ?_
                                    refine m_get X Y 34 (by decide) lk_text (gf_text _ _ _) rfl d_M_open_395 ?_
                                    refine lv_iload X.1 X.2.1 d_M_open_398 (lv_at hl 7 rfl) ?_
                                    refine lv_iload X.1 X.2.1 d_M_open_400 (lv_at hl 8 rfl) ?_
                                    refine z_iadd X.1 X.2.1 d_M_open_402 ?_
                                    refine lv_aload_n X.1 X.2.1 d_M_open_403 rfl (lv_at hl 0 rfl) ?_
                                    refine m_get X Y 16 (by decide) lk_state (gf_state _ _ _) rfl d_M_open_404 ?_
                                    refine lv_iload X.1 X.2.1 d_M_open_407 (lv_at hl 8 rfl) ?_
                                    refine r_iald X Y S (aw_state _ _ _ _ _ _ _) rfl (by omega) (show z189 < ((16 : Nat) : Int) by omega) (by omega) d_M_open_409 (fun z196 q196 l196 u196 => ?_)
                                    refine lv_iload X.1 X.2.1 d_M_open_410 (lv_at hl 7 rfl) ?_
                                    have J198 : ∀ (z197 : Int) (H : Heap) (locs : List Loc) (ls : Array Slot), (0 ≤ z197) → (z197 ≤ 255) → mH D E (mA E h q sz) s.heap h q I188 J188 B188 G188 H locs → rS [8, 14, 18] [0, 5, 6, 7, 9, 10, 11, 12, 13, 15, 16, 17, 19, 20, 21, 22, 23, 34] I B I188 B188 → lv_has ls 13 [(0, .ref h), (1, .ref ((q 58))), (2, .int (iI a2)), (3, .int (iI a3)), (4, .int (iI a4)), (6, .int (iI a6)), (8, .int (iI ((a5 - a4) - 12))), (10, .int (iI (16 * (((((a5 - a4) - 12) + 15) / 16) - 2)))), (12, .int (iI z189))] → W p l e (mR 7 206) s m AV below meth c H locs 0 0 QQ (F0 m 439 ls [.int (iI z197), .int (iI z196), .int (iI ((16 * (((((a5 - a4) - 12) + 15) / 16) - 2)) + z189)), .ref ((q 34))]) := by
                                      intro z197 H locs ls l197 u197 Y S hl
                                      refine z_ixor X.1 X.2.1 ⟨by omega, by omega⟩ ⟨by omega, by omega⟩ d_M_open_439 (fun z202 l202 u202 => ?_)
                                      refine lv_i2b X.1 X.2.1 d_M_open_440 rfl ?_
                                      refine t_u (fun z203 l203 u203 => ?_)
                                      refine r_bast X Y S (aw_text _ _ _ _ _ _ _) (sw_text _ _ _ _ _ _ _) rfl (by omega) (show (16 * (((((a5 - a4) - 12) + 15) / 16) - 2)) + z189 < ((20000 : Nat) : Int) by omega) (by omega) (by decide) d_M_open_441 (fun B204 H locs Y S w204 => ?_)
                                      refine lv_iinc (v := iI (z189 + 1)) (lv' := [(12, .int (iI (z189 + 1))), (0, .ref h), (1, .ref ((q 58))), (2, .int (iI a2)), (3, .int (iI a3)), (4, .int (iI a4)), (6, .int (iI a6)), (8, .int (iI ((a5 - a4) - 12))), (10, .int (iI (16 * (((((a5 - a4) - 12) + 15) / 16) - 2))))]) X.1 X.2.1 d_M_open_442 hl (k := 8) rfl ((iI_add _ _).trans (congrArg iI (by omega))) (by decide) rfl (fun ls hl => ?_)
                                      refine lv_goto (tgt := 387) X.1 X.2.1 d_M_open_445 (by decide) ?_
                                      exact ih192 ((16 - (z189 + 1)).toNat) (by omega) (z189 + 1) I188 J188 B204 G188 _ _ _ rfl (by omega) (by omega) (mmF_cg (w204.2 0 (by decide)) f190) Y S (lv_sub hl [1, 2, 3, 4, 5, 6, 7, 8, 0] rfl)
                                    refine z_if_ne (tgt := 419) X.1 X.2.1 d_M_open_412 (by decide) ⟨by omega, by omega⟩ (fun h205 => ?_) (fun h205 => ?_)
                                    · refine lv_aload_n X.1 X.2.1 d_M_open_419 rfl (lv_at hl 0 rfl) ?_
                                      refine m_get X Y 0 (by decide) lk_mem (gf_mem _ _ _) rfl d_M_open_420 ?_
                                      refine lv_iload X.1 X.2.1 d_M_open_423 (lv_at hl 4 rfl) ?_
                                      refine lv_iload X.1 X.2.1 d_M_open_425 (lv_at hl 7 rfl) ?_
                                      refine z_iadd X.1 X.2.1 d_M_open_427 ?_
                                      refine lv_bipush (v := iI 16) X.1 X.2.1 d_M_open_428 (by decide) ?_
                                      refine z_isub X.1 X.2.1 d_M_open_430 ?_
                                      refine lv_iload X.1 X.2.1 d_M_open_431 (lv_at hl 8 rfl) ?_
                                      refine z_iadd X.1 X.2.1 d_M_open_433 ?_
                                      refine r_bald X Y S (aw_mem _ _ _ _ _ _ _) rfl (by omega) (show ((a4 + (16 * (((((a5 - a4) - 12) + 15) / 16) - 2))) - 16) + z189 < ((60000 : Nat) : Int) by omega) (by omega) d_M_open_434 (fun z206 q206 l206 u206 => ?_)
                                      refine lv_sipush (v := iI 255) X.1 X.2.1 d_M_open_435 (by decide) ?_
                                      refine z_iand X.1 X.2.1 (by omega) (by omega) d_M_open_438 (fun z207 l207 u207 => ?_)
                                      exact J198 z207 _ _ _ (by omega) (by omega) Y S (lv_sub hl [0, 1, 2, 3, 4, 5, 6, 7, 8] rfl)
                                    · refine lv_iconst (v := iI 0) X.1 X.2.1 d_M_open_415 (by decide) ?_
                                      refine lv_goto (tgt := 439) X.1 X.2.1 d_M_open_416 (by decide) ?_
                                      exact J198 0 _ _ _ (by omega) (by omega) Y S (lv_sub hl [0, 1, 2, 3, 4, 5, 6, 7, 8] rfl)
                              refine lv_istore (lv' := [(12, .int (iI 0)), (0, .ref h), (1, .ref ((q 58))), (2, .int (iI a2)), (3, .int (iI a3)), (4, .int (iI a4)), (6, .int (iI a6)), (8, .int (iI ((a5 - a4) - 12))), (10, .int (iI (16 * (((((a5 - a4) - 12) + 15) / 16) - 2)))), (11, .int (iI (((a5 - a4) - 12) - (16 * (((((a5 - a4) - 12) + 15) / 16) - 1)))))]) X.1 X.2.1 d_M_open_385 hl (by decide) rfl (fun ls hl => ?_)
                              exact J191 _ 0 I187 J187 B187 G187 _ _ _ rfl (by omega) (by omega) (mmF_cg (s187.2.2 0 (by decide)) f181) Y S (lv_sub hl [1, 2, 3, 4, 5, 6, 7, 8, 0] rfl)
                            · refine lv_aload_n X.1 X.2.1 d_M_open_347 rfl (lv_at hl 0 rfl) ?_
                              refine m_get X Y 16 (by decide) lk_state (gf_state _ _ _) rfl d_M_open_348 ?_
                              refine lv_iload X.1 X.2.1 d_M_open_351 (lv_at hl 9 rfl) ?_
                              refine lv_aload_n X.1 X.2.1 d_M_open_353 rfl (lv_at hl 0 rfl) ?_
                              refine m_get X Y 0 (by decide) lk_mem (gf_mem _ _ _) rfl d_M_open_354 ?_
                              refine lv_iload X.1 X.2.1 d_M_open_357 (lv_at hl 4 rfl) ?_
                              refine lv_iload X.1 X.2.1 d_M_open_359 (lv_at hl 7 rfl) ?_
                              refine z_iadd X.1 X.2.1 d_M_open_361 ?_
                              refine lv_bipush (v := iI 16) X.1 X.2.1 d_M_open_362 (by decide) ?_
                              refine z_iadd X.1 X.2.1 d_M_open_364 ?_
                              refine lv_iload X.1 X.2.1 d_M_open_365 (lv_at hl 9 rfl) ?_
                              refine z_iadd X.1 X.2.1 d_M_open_367 ?_
                              refine r_bald X Y S (aw_mem _ _ _ _ _ _ _) rfl (by omega) (show ((a4 + (16 * (((((a5 - a4) - 12) + 15) / 16) - 2))) + 16) + z180 < ((60000 : Nat) : Int) by omega) (by omega) d_M_open_368 (fun z208 q208 l208 u208 => ?_)
                              refine lv_sipush (v := iI 255) X.1 X.2.1 d_M_open_369 (by decide) ?_
                              refine z_iand X.1 X.2.1 (by omega) (by omega) d_M_open_372 (fun z209 l209 u209 => ?_)
                              refine r_iast X Y S (aw_state _ _ _ _ _ _ _) (sw_state _ _ _ _ _ _ _) rfl ⟨(show (0 : Int) ≤ z209 by omega), (show z209 ≤ (255 : Int) by omega)⟩ ⟨by omega, by omega⟩ (by omega) (show z180 < ((16 : Nat) : Int) by omega) (by omega) (by decide) d_M_open_373 (fun B210 H locs Y S w210 => ?_)
                              refine lv_iinc (v := iI (z180 + 1)) (lv' := [(12, .int (iI (z180 + 1))), (0, .ref h), (1, .ref ((q 58))), (2, .int (iI a2)), (3, .int (iI a3)), (4, .int (iI a4)), (6, .int (iI a6)), (8, .int (iI ((a5 - a4) - 12))), (10, .int (iI (16 * (((((a5 - a4) - 12) + 15) / 16) - 2)))), (11, .int (iI (((a5 - a4) - 12) - (16 * (((((a5 - a4) - 12) + 15) / 16) - 1)))))]) X.1 X.2.1 d_M_open_374 hl (k := 9) rfl ((iI_add _ _).trans (congrArg iI (by omega))) (by decide) rfl (fun ls hl => ?_)
                              refine lv_goto (tgt := 340) X.1 X.2.1 d_M_open_377 (by decide) ?_
                              exact ih183 ((29973 - (z180 + 1)).toNat) (by omega) (z180 + 1) I179 J179 B210 G179 _ _ _ rfl (by omega) (by omega) (mmF_cg (w210.2 0 (by decide)) f181) Y S (lv_sub hl [1, 2, 3, 4, 5, 6, 7, 8, 9, 0] rfl)
                        refine lv_istore (lv' := [(12, .int (iI 0)), (0, .ref h), (1, .ref ((q 58))), (2, .int (iI a2)), (3, .int (iI a3)), (4, .int (iI a4)), (6, .int (iI a6)), (8, .int (iI ((a5 - a4) - 12))), (10, .int (iI (16 * (((((a5 - a4) - 12) + 15) / 16) - 2)))), (11, .int (iI (((a5 - a4) - 12) - (16 * (((((a5 - a4) - 12) + 15) / 16) - 1)))))]) X.1 X.2.1 d_M_open_338 hl (by decide) rfl (fun ls hl => ?_)
                        exact J182 _ 0 I171 J171 B171 G171 _ _ _ rfl (by omega) (by omega) f173 Y S (lv_sub hl [1, 2, 3, 4, 5, 6, 7, 8, 9, 0] rfl)
                      · refine lv_aload_n X.1 X.2.1 d_M_open_289 rfl (lv_at hl 0 rfl) ?_
                        refine m_get X Y 34 (by decide) lk_text (gf_text _ _ _) rfl d_M_open_290 ?_
                        refine lv_iload X.1 X.2.1 d_M_open_293 (lv_at hl 7 rfl) ?_
                        refine lv_bipush (v := iI 16) X.1 X.2.1 d_M_open_295 (by decide) ?_
                        refine z_iadd X.1 X.2.1 d_M_open_297 ?_
                        refine lv_iload X.1 X.2.1 d_M_open_298 (lv_at hl 9 rfl) ?_
                        refine z_iadd X.1 X.2.1 d_M_open_300 ?_
                        refine lv_aload_n X.1 X.2.1 d_M_open_301 rfl (lv_at hl 0 rfl) ?_
                        refine m_get X Y 16 (by decide) lk_state (gf_state _ _ _) rfl d_M_open_302 ?_
                        refine lv_iload X.1 X.2.1 d_M_open_305 (lv_at hl 9 rfl) ?_
                        refine r_iald X Y S (aw_state _ _ _ _ _ _ _) rfl (by omega) (show z172 < ((16 : Nat) : Int) by omega) (by omega) d_M_open_307 (fun z211 q211 l211 u211 => ?_)
                        refine lv_aload_n X.1 X.2.1 d_M_open_308 rfl (lv_at hl 0 rfl) ?_
                        refine m_get X Y 0 (by decide) lk_mem (gf_mem _ _ _) rfl d_M_open_309 ?_
                        refine lv_iload X.1 X.2.1 d_M_open_312 (lv_at hl 4 rfl) ?_
                        refine lv_iload X.1 X.2.1 d_M_open_314 (lv_at hl 7 rfl) ?_
                        refine z_iadd X.1 X.2.1 d_M_open_316 ?_
                        refine lv_bipush (v := iI 16) X.1 X.2.1 d_M_open_317 (by decide) ?_
                        refine z_iadd X.1 X.2.1 d_M_open_319 ?_
                        refine lv_iload X.1 X.2.1 d_M_open_320 (lv_at hl 9 rfl) ?_
                        refine z_iadd X.1 X.2.1 d_M_open_322 ?_
                        refine r_bald X Y S (aw_mem _ _ _ _ _ _ _) rfl (by omega) (show ((a4 + (16 * (((((a5 - a4) - 12) + 15) / 16) - 2))) + 16) + z172 < ((60000 : Nat) : Int) by omega) (by omega) d_M_open_323 (fun z212 q212 l212 u212 => ?_)
                        refine lv_sipush (v := iI 255) X.1 X.2.1 d_M_open_324 (by decide) ?_
                        refine z_iand X.1 X.2.1 (by omega) (by omega) d_M_open_327 (fun z213 l213 u213 => ?_)
                        refine z_ixor X.1 X.2.1 ⟨by omega, by omega⟩ ⟨by omega, by omega⟩ d_M_open_328 (fun z214 l214 u214 => ?_)
                        refine lv_i2b X.1 X.2.1 d_M_open_329 rfl ?_
                        refine t_u (fun z215 l215 u215 => ?_)
                        refine r_bast X Y S (aw_text _ _ _ _ _ _ _) (sw_text _ _ _ _ _ _ _) rfl (by omega) (show ((16 * (((((a5 - a4) - 12) + 15) / 16) - 2)) + 16) + z172 < ((20000 : Nat) : Int) by omega) (by omega) (by decide) d_M_open_330 (fun B216 H locs Y S w216 => ?_)
                        refine lv_iinc (v := iI (z172 + 1)) (lv' := [(12, .int (iI (z172 + 1))), (0, .ref h), (1, .ref ((q 58))), (2, .int (iI a2)), (3, .int (iI a3)), (4, .int (iI a4)), (6, .int (iI a6)), (8, .int (iI ((a5 - a4) - 12))), (10, .int (iI (16 * (((((a5 - a4) - 12) + 15) / 16) - 2)))), (11, .int (iI (((a5 - a4) - 12) - (16 * (((((a5 - a4) - 12) + 15) / 16) - 1)))))]) X.1 X.2.1 d_M_open_331 hl (k := 9) rfl ((iI_add _ _).trans (congrArg iI (by omega))) (by decide) rfl (fun ls hl => ?_)
                        refine lv_goto (tgt := 282) X.1 X.2.1 d_M_open_334 (by decide) ?_
                        exact ih175 ((29973 - (z172 + 1)).toNat) (by omega) (z172 + 1) I171 J171 B216 G171 _ _ _ rfl (by omega) (by omega) (mmF_cg (w216.2 0 (by decide)) f173) Y S (lv_sub hl [1, 2, 3, 4, 5, 6, 7, 8, 9, 0] rfl)
                  refine lv_istore (lv' := [(12, .int (iI 0)), (0, .ref h), (1, .ref ((q 58))), (2, .int (iI a2)), (3, .int (iI a3)), (4, .int (iI a4)), (6, .int (iI a6)), (8, .int (iI ((a5 - a4) - 12))), (10, .int (iI (16 * (((((a5 - a4) - 12) + 15) / 16) - 2)))), (11, .int (iI (((a5 - a4) - 12) - (16 * (((((a5 - a4) - 12) + 15) / 16) - 1)))))]) X.1 X.2.1 d_M_open_280 hl (by decide) rfl (fun ls hl => ?_)
                  exact J174 _ 0 I170 J170 B170 G170 _ _ _ rfl (by omega) (by omega) (mmF_cg (s170.2.2 0 (by decide)) f164) Y S (lv_sub hl [1, 2, 3, 4, 5, 6, 7, 8, 9, 0] rfl)
                · refine lv_aload_n X.1 X.2.1 d_M_open_245 rfl (lv_at hl 0 rfl) ?_
                  refine m_get X Y 16 (by decide) lk_state (gf_state _ _ _) rfl d_M_open_246 ?_
                  refine lv_iload X.1 X.2.1 d_M_open_249 (lv_at hl 9 rfl) ?_
                  refine lv_aload_n X.1 X.2.1 d_M_open_251 rfl (lv_at hl 0 rfl) ?_
                  refine m_get X Y 0 (by decide) lk_mem (gf_mem _ _ _) rfl d_M_open_252 ?_
                  refine lv_iload X.1 X.2.1 d_M_open_255 (lv_at hl 4 rfl) ?_
                  refine lv_iload X.1 X.2.1 d_M_open_257 (lv_at hl 7 rfl) ?_
                  refine z_iadd X.1 X.2.1 d_M_open_259 ?_
                  refine lv_iload X.1 X.2.1 d_M_open_260 (lv_at hl 9 rfl) ?_
                  refine z_iadd X.1 X.2.1 d_M_open_262 ?_
                  refine r_bald X Y S (aw_mem _ _ _ _ _ _ _) rfl (by omega) (show (a4 + (16 * (((((a5 - a4) - 12) + 15) / 16) - 2))) + z163 < ((60000 : Nat) : Int) by omega) (by omega) d_M_open_263 (fun z217 q217 l217 u217 => ?_)
                  refine lv_sipush (v := iI 255) X.1 X.2.1 d_M_open_264 (by decide) ?_
                  refine z_iand X.1 X.2.1 (by omega) (by omega) d_M_open_267 (fun z218 l218 u218 => ?_)
                  refine r_iast X Y S (aw_state _ _ _ _ _ _ _) (sw_state _ _ _ _ _ _ _) rfl ⟨(show (0 : Int) ≤ z218 by omega), (show z218 ≤ (255 : Int) by omega)⟩ ⟨by omega, by omega⟩ (by omega) (show z163 < ((16 : Nat) : Int) by omega) (by omega) (by decide) d_M_open_268 (fun B219 H locs Y S w219 => ?_)
                  refine lv_iinc (v := iI (z163 + 1)) (lv' := [(12, .int (iI (z163 + 1))), (0, .ref h), (1, .ref ((q 58))), (2, .int (iI a2)), (3, .int (iI a3)), (4, .int (iI a4)), (6, .int (iI a6)), (8, .int (iI ((a5 - a4) - 12))), (10, .int (iI (16 * (((((a5 - a4) - 12) + 15) / 16) - 2)))), (11, .int (iI (((a5 - a4) - 12) - (16 * (((((a5 - a4) - 12) + 15) / 16) - 1)))))]) X.1 X.2.1 d_M_open_269 hl (k := 9) rfl ((iI_add _ _).trans (congrArg iI (by omega))) (by decide) rfl (fun ls hl => ?_)
                  refine lv_goto (tgt := 238) X.1 X.2.1 d_M_open_272 (by decide) ?_
                  exact ih166 ((16 - (z163 + 1)).toNat) (by omega) (z163 + 1) I162 J162 B219 G162 _ _ _ rfl (by omega) (by omega) (mmF_cg (w219.2 0 (by decide)) f164) Y S (lv_sub hl [1, 2, 3, 4, 5, 6, 7, 8, 9, 0] rfl)
            refine lv_istore (lv' := [(12, .int (iI 0)), (11, .int (iI (((a5 - a4) - 12) - (16 * (((((a5 - a4) - 12) + 15) / 16) - 1))))), (10, .int (iI (16 * (((((a5 - a4) - 12) + 15) / 16) - 2)))), (0, .ref h), (1, .ref ((q 58))), (2, .int (iI a2)), (3, .int (iI a3)), (4, .int (iI a4)), (6, .int (iI a6)), (8, .int (iI ((a5 - a4) - 12))), (9, .int (iI ((((a5 - a4) - 12) + 15) / 16)))]) X.1 X.2.1 d_M_open_236 hl (by decide) rfl (fun ls hl => ?_)
            exact J165 _ 0 I106 J106 B106 G106 _ _ _ rfl (by omega) (by omega) f108 Y S (lv_sub hl [3, 4, 5, 6, 7, 8, 9, 2, 1, 0] rfl)
        refine z_icmp_ge (tgt := 208) X.1 X.2.1 d_M_open_65 (by decide) ⟨by omega, by omega⟩ ⟨by omega, by omega⟩ (fun h220 => ?_) (fun h220 => ?_)
        · exact J113  _ _ _  Y S (lv_sub hl [0, 1, 2, 3, 4, 5, 6, 7] rfl)
        · refine lv_iload X.1 X.2.1 d_M_open_68 (lv_at hl 7 rfl) ?_
          refine lv_iconst (v := iI 1) X.1 X.2.1 d_M_open_70 (by decide) ?_
          have J221 : ∀  (H : Heap) (locs : List Loc) (ls : Array Slot), mH D E (mA E h q sz) s.heap h q I106 J106 B106 G106 H locs → rS [8, 14, 18] [0, 5, 6, 7, 9, 10, 11, 12, 13, 15, 16, 17, 19, 20, 21, 22, 23, 34] I B I106 B106 → lv_has ls 13 [(0, .ref h), (1, .ref ((q 58))), (2, .int (iI a2)), (3, .int (iI a3)), (4, .int (iI a4)), (6, .int (iI a6)), (8, .int (iI ((a5 - a4) - 12))), (9, .int (iI ((((a5 - a4) - 12) + 15) / 16))), (10, .int (iI z107))] → W p l e (mR 7 206) s m AV below meth c H locs 0 0 QQ (F0 m 86 ls []) := by
            intro  H locs ls  Y S hl
            refine lv_iconst (v := iI 0) X.1 X.2.1 d_M_open_86 (by decide) ?_
            have J228 : ∀ (n230 : Nat) (z226 : Int) (I225 : Nat → Int32) (J225 : Nat → Int64) (B225 : Nat → Nat → Int32) (G225 : Nat → Nat → Int64) (H : Heap) (locs : List Loc) (ls : Array Slot), (16 - z226).toNat = n230 → (0 ≤ z226) → (z226 ≤ 16) → (mmF a6 (a6 + 4200) (B 0) (B225 0)) → mH D E (mA E h q sz) s.heap h q I225 J225 B225 G225 H locs → rS [8, 14, 18] [0, 5, 6, 7, 9, 10, 11, 12, 13, 15, 16, 17, 19, 20, 21, 22, 23, 34] I B I225 B225 → lv_has ls 13 [(0, .ref h), (1, .ref ((q 58))), (2, .int (iI a2)), (3, .int (iI a3)), (4, .int (iI a4)), (6, .int (iI a6)), (8, .int (iI ((a5 - a4) - 12))), (9, .int (iI ((((a5 - a4) - 12) + 15) / 16))), (10, .int (iI z107)), (11, .int (iI z226))] → W p l e (mR 7 206) s m AV below meth c H locs 0 0 QQ (F0 m 89 ls []) := by
              intro n230
              induction n230 using Nat.strongRecOn with
              | ind n230 ih229 =>
                intro z226 I225 J225 B225 G225 H locs ls hm231 l226 u226 f227 Y S hl
                refine lv_iload X.1 X.2.1 d_M_open_89 (lv_at hl 9 rfl) ?_
                refine lv_bipush (v := iI 16) X.1 X.2.1 d_M_open_91 (by decide) ?_
                refine z_icmp_ge (tgt := 129) X.1 X.2.1 d_M_open_93 (by decide) ⟨by omega, by omega⟩ ⟨by omega, by omega⟩ (fun h232 => ?_) (fun h232 => ?_)
                · refine lv_aload_n X.1 X.2.1 d_M_open_129 rfl (lv_at hl 0 rfl) ?_
                  refine r_nv (m_run (As := []) (rest := []) (n := 0) X Y hZ hA hml hl.1 (r_M_uncover l D E h q H.size I225 J225 B225 G225 S.1) kl_M_uncover ks_M_uncover kx_M_uncover ki_M_uncover ini_M hd_M_uncover ⟨Nat.le_of_ble_eq_true rfl, Nat.le_of_ble_eq_true rfl⟩ rfl (Nat.le_of_ble_eq_true rfl) d_M_open_130 ⟨Nat.le_refl _, Nat.le_refl _⟩) X Y hA S (by decide) (by decide) (fun u H locs Y S s233 p233 => ?_)
                  obtain ⟨I233, J233, B233, G233⟩ := u
                  dsimp only at Y S s233 p233
                  refine lv_iconst (v := iI 0) X.1 X.2.1 d_M_open_133 (by decide) ?_
                  have J237 : ∀ (n239 : Nat) (z235 : Int) (I234 : Nat → Int32) (J234 : Nat → Int64) (B234 : Nat → Nat → Int32) (G234 : Nat → Nat → Int64) (H : Heap) (locs : List Loc) (ls : Array Slot), (16 - z235).toNat = n239 → (0 ≤ z235) → (z235 ≤ 16) → (mmF a6 (a6 + 4200) (B 0) (B234 0)) → mH D E (mA E h q sz) s.heap h q I234 J234 B234 G234 H locs → rS [8, 14, 18] [0, 5, 6, 7, 9, 10, 11, 12, 13, 15, 16, 17, 19, 20, 21, 22, 23, 34] I B I234 B234 → lv_has ls 13 [(0, .ref h), (1, .ref ((q 58))), (2, .int (iI a2)), (3, .int (iI a3)), (4, .int (iI a4)), (6, .int (iI a6)), (8, .int (iI ((a5 - a4) - 12))), (9, .int (iI ((((a5 - a4) - 12) + 15) / 16))), (10, .int (iI z107)), (11, .int (iI z235))] → W p l e (mR 7 206) s m AV below meth c H locs 0 0 QQ (F0 m 136 ls []) := by
                    intro n239
                    induction n239 using Nat.strongRecOn with
                    | ind n239 ih238 =>
                      intro z235 I234 J234 B234 G234 H locs ls hm240 l235 u235 f236 Y S hl
                      refine lv_iload X.1 X.2.1 d_M_open_136 (lv_at hl 9 rfl) ?_
                      refine lv_bipush (v := iI 16) X.1 X.2.1 d_M_open_138 (by decide) ?_
                      refine z_icmp_ge (tgt := 202) X.1 X.2.1 d_M_open_140 (by decide) ⟨by omega, by omega⟩ ⟨by omega, by omega⟩ (fun h241 => ?_) (fun h241 => ?_)
                      · refine lv_iinc (v := iI (z107 + 1)) (lv' := [(10, .int (iI (z107 + 1))), (0, .ref h), (1, .ref ((q 58))), (2, .int (iI a2)), (3, .int (iI a3)), (4, .int (iI a4)), (6, .int (iI a6)), (8, .int (iI ((a5 - a4) - 12))), (9, .int (iI ((((a5 - a4) - 12) + 15) / 16))), (11, .int (iI z235))]) X.1 X.2.1 d_M_open_202 hl (k := 8) rfl ((iI_add _ _).trans (congrArg iI (by omega))) (by decide) rfl (fun ls hl => ?_)
                        refine lv_goto (tgt := 61) X.1 X.2.1 d_M_open_205 (by decide) ?_
                        exact ih110 ((1875 - (z107 + 1)).toNat) (by omega) (z107 + 1) I234 J234 B234 G234 _ _ _ rfl (by omega) (by omega) f236 Y S (lv_sub hl [1, 2, 3, 4, 5, 6, 7, 8, 0] rfl)
                      · refine lv_aload_n X.1 X.2.1 d_M_open_143 rfl (lv_at hl 0 rfl) ?_
                        refine m_get X Y 34 (by decide) lk_text (gf_text _ _ _) rfl d_M_open_144 ?_
                        refine lv_bipush (v := iI 16) X.1 X.2.1 d_M_open_147 (by decide) ?_
                        refine lv_iload X.1 X.2.1 d_M_open_149 (lv_at hl 8 rfl) ?_
                        refine z_imul X.1 X.2.1 d_M_open_151 ?_
                        refine lv_iload X.1 X.2.1 d_M_open_152 (lv_at hl 9 rfl) ?_
                        refine z_iadd X.1 X.2.1 d_M_open_154 ?_
                        refine lv_aload_n X.1 X.2.1 d_M_open_155 rfl (lv_at hl 0 rfl) ?_
                        refine m_get X Y 16 (by decide) lk_state (gf_state _ _ _) rfl d_M_open_156 ?_
                        refine lv_iload X.1 X.2.1 d_M_open_159 (lv_at hl 9 rfl) ?_
                        refine r_iald X Y S (aw_state _ _ _ _ _ _ _) rfl (by omega) (show z235 < ((16 : Nat) : Int) by omega) (by omega) d_M_open_161 (fun z242 q242 l242 u242 => ?_)
                        refine lv_iload X.1 X.2.1 d_M_open_162 (lv_at hl 8 rfl) ?_
                        have J244 : ∀ (z243 : Int) (H : Heap) (locs : List Loc) (ls : Array Slot), (0 ≤ z243) → (z243 ≤ 255) → mH D E (mA E h q sz) s.heap h q I234 J234 B234 G234 H locs → rS [8, 14, 18] [0, 5, 6, 7, 9, 10, 11, 12, 13, 15, 16, 17, 19, 20, 21, 22, 23, 34] I B I234 B234 → lv_has ls 13 [(0, .ref h), (1, .ref ((q 58))), (2, .int (iI a2)), (3, .int (iI a3)), (4, .int (iI a4)), (6, .int (iI a6)), (8, .int (iI ((a5 - a4) - 12))), (9, .int (iI ((((a5 - a4) - 12) + 15) / 16))), (10, .int (iI z107)), (11, .int (iI z235))] → W p l e (mR 7 206) s m AV below meth c H locs 0 0 QQ (F0 m 193 ls [.int (iI z243), .int (iI z242), .int (iI ((16 * z107) + z235)), .ref ((q 34))]) := by
                          intro z243 H locs ls l243 u243 Y S hl
                          refine z_ixor X.1 X.2.1 ⟨by omega, by omega⟩ ⟨by omega, by omega⟩ d_M_open_193 (fun z248 l248 u248 => ?_)
                          refine lv_i2b X.1 X.2.1 d_M_open_194 rfl ?_
                          refine t_u (fun z249 l249 u249 => ?_)
                          refine r_bast X Y S (aw_text _ _ _ _ _ _ _) (sw_text _ _ _ _ _ _ _) rfl (by omega) (show (16 * z107) + z235 < ((20000 : Nat) : Int) by omega) (by omega) (by decide) d_M_open_195 (fun B250 H locs Y S w250 => ?_)
                          refine lv_iinc (v := iI (z235 + 1)) (lv' := [(11, .int (iI (z235 + 1))), (0, .ref h), (1, .ref ((q 58))), (2, .int (iI a2)), (3, .int (iI a3)), (4, .int (iI a4)), (6, .int (iI a6)), (8, .int (iI ((a5 - a4) - 12))), (9, .int (iI ((((a5 - a4) - 12) + 15) / 16))), (10, .int (iI z107))]) X.1 X.2.1 d_M_open_196 hl (k := 9) rfl ((iI_add _ _).trans (congrArg iI (by omega))) (by decide) rfl (fun ls hl => ?_)
                          refine lv_goto (tgt := 136) X.1 X.2.1 d_M_open_199 (by decide) ?_
                          exact ih238 ((16 - (z235 + 1)).toNat) (by omega) (z235 + 1) I234 J234 B250 G234 _ _ _ rfl (by omega) (by omega) (mmF_cg (w250.2 0 (by decide)) f236) Y S (lv_sub hl [1, 2, 3, 4, 5, 6, 7, 8, 9, 0] rfl)
                        refine z_if_ne (tgt := 171) X.1 X.2.1 d_M_open_164 (by decide) ⟨by omega, by omega⟩ (fun h251 => ?_) (fun h251 => ?_)
                        · refine lv_aload_n X.1 X.2.1 d_M_open_171 rfl (lv_at hl 0 rfl) ?_
                          refine m_get X Y 0 (by decide) lk_mem (gf_mem _ _ _) rfl d_M_open_172 ?_
                          refine lv_iload X.1 X.2.1 d_M_open_175 (lv_at hl 4 rfl) ?_
                          refine lv_bipush (v := iI 16) X.1 X.2.1 d_M_open_177 (by decide) ?_
                          refine lv_iload X.1 X.2.1 d_M_open_179 (lv_at hl 8 rfl) ?_
                          refine lv_iconst (v := iI 1) X.1 X.2.1 d_M_open_181 (by decide) ?_
                          refine z_isub X.1 X.2.1 d_M_open_182 ?_
                          refine z_imul X.1 X.2.1 d_M_open_183 ?_
                          refine z_iadd X.1 X.2.1 d_M_open_184 ?_
                          refine lv_iload X.1 X.2.1 d_M_open_185 (lv_at hl 9 rfl) ?_
                          refine z_iadd X.1 X.2.1 d_M_open_187 ?_
                          refine r_bald X Y S (aw_mem _ _ _ _ _ _ _) rfl (by omega) (show (a4 + (16 * (z107 - 1))) + z235 < ((60000 : Nat) : Int) by omega) (by omega) d_M_open_188 (fun z252 q252 l252 u252 => ?_)
                          refine lv_sipush (v := iI 255) X.1 X.2.1 d_M_open_189 (by decide) ?_
                          refine z_iand X.1 X.2.1 (by omega) (by omega) d_M_open_192 (fun z253 l253 u253 => ?_)
                          exact J244 z253 _ _ _ (by omega) (by omega) Y S (lv_sub hl [0, 1, 2, 3, 4, 5, 6, 7, 8, 9] rfl)
                        · refine lv_iconst (v := iI 0) X.1 X.2.1 d_M_open_167 (by decide) ?_
                          refine lv_goto (tgt := 193) X.1 X.2.1 d_M_open_168 (by decide) ?_
                          exact J244 0 _ _ _ (by omega) (by omega) Y S (lv_sub hl [0, 1, 2, 3, 4, 5, 6, 7, 8, 9] rfl)
                  refine lv_istore (lv' := [(11, .int (iI 0)), (0, .ref h), (1, .ref ((q 58))), (2, .int (iI a2)), (3, .int (iI a3)), (4, .int (iI a4)), (6, .int (iI a6)), (8, .int (iI ((a5 - a4) - 12))), (9, .int (iI ((((a5 - a4) - 12) + 15) / 16))), (10, .int (iI z107))]) X.1 X.2.1 d_M_open_134 hl (by decide) rfl (fun ls hl => ?_)
                  exact J237 _ 0 I233 J233 B233 G233 _ _ _ rfl (by omega) (by omega) (mmF_cg (s233.2.2 0 (by decide)) f227) Y S (lv_sub hl [1, 2, 3, 4, 5, 6, 7, 8, 9, 0] rfl)
                · refine lv_aload_n X.1 X.2.1 d_M_open_96 rfl (lv_at hl 0 rfl) ?_
                  refine m_get X Y 16 (by decide) lk_state (gf_state _ _ _) rfl d_M_open_97 ?_
                  refine lv_iload X.1 X.2.1 d_M_open_100 (lv_at hl 9 rfl) ?_
                  refine lv_aload_n X.1 X.2.1 d_M_open_102 rfl (lv_at hl 0 rfl) ?_
                  refine m_get X Y 0 (by decide) lk_mem (gf_mem _ _ _) rfl d_M_open_103 ?_
                  refine lv_iload X.1 X.2.1 d_M_open_106 (lv_at hl 4 rfl) ?_
                  refine lv_bipush (v := iI 16) X.1 X.2.1 d_M_open_108 (by decide) ?_
                  refine lv_iload X.1 X.2.1 d_M_open_110 (lv_at hl 8 rfl) ?_
                  refine z_imul X.1 X.2.1 d_M_open_112 ?_
                  refine z_iadd X.1 X.2.1 d_M_open_113 ?_
                  refine lv_iload X.1 X.2.1 d_M_open_114 (lv_at hl 9 rfl) ?_
                  refine z_iadd X.1 X.2.1 d_M_open_116 ?_
                  refine r_bald X Y S (aw_mem _ _ _ _ _ _ _) rfl (by omega) (show (a4 + (16 * z107)) + z226 < ((60000 : Nat) : Int) by omega) (by omega) d_M_open_117 (fun z254 q254 l254 u254 => ?_)
                  refine lv_sipush (v := iI 255) X.1 X.2.1 d_M_open_118 (by decide) ?_
                  refine z_iand X.1 X.2.1 (by omega) (by omega) d_M_open_121 (fun z255 l255 u255 => ?_)
                  refine r_iast X Y S (aw_state _ _ _ _ _ _ _) (sw_state _ _ _ _ _ _ _) rfl ⟨(show (0 : Int) ≤ z255 by omega), (show z255 ≤ (255 : Int) by omega)⟩ ⟨by omega, by omega⟩ (by omega) (show z226 < ((16 : Nat) : Int) by omega) (by omega) (by decide) d_M_open_122 (fun B256 H locs Y S w256 => ?_)
                  refine lv_iinc (v := iI (z226 + 1)) (lv' := [(11, .int (iI (z226 + 1))), (0, .ref h), (1, .ref ((q 58))), (2, .int (iI a2)), (3, .int (iI a3)), (4, .int (iI a4)), (6, .int (iI a6)), (8, .int (iI ((a5 - a4) - 12))), (9, .int (iI ((((a5 - a4) - 12) + 15) / 16))), (10, .int (iI z107))]) X.1 X.2.1 d_M_open_123 hl (k := 9) rfl ((iI_add _ _).trans (congrArg iI (by omega))) (by decide) rfl (fun ls hl => ?_)
                  refine lv_goto (tgt := 89) X.1 X.2.1 d_M_open_126 (by decide) ?_
                  exact ih229 ((16 - (z226 + 1)).toNat) (by omega) (z226 + 1) I225 J225 B256 G225 _ _ _ rfl (by omega) (by omega) (mmF_cg (w256.2 0 (by decide)) f227) Y S (lv_sub hl [1, 2, 3, 4, 5, 6, 7, 8, 9, 0] rfl)
            refine lv_istore (lv' := [(11, .int (iI 0)), (0, .ref h), (1, .ref ((q 58))), (2, .int (iI a2)), (3, .int (iI a3)), (4, .int (iI a4)), (6, .int (iI a6)), (8, .int (iI ((a5 - a4) - 12))), (9, .int (iI ((((a5 - a4) - 12) + 15) / 16))), (10, .int (iI z107))]) X.1 X.2.1 d_M_open_87 hl (by decide) rfl (fun ls hl => ?_)
            exact J228 _ 0 I106 J106 B106 G106 _ _ _ rfl (by omega) (by omega) f108 Y S (lv_sub hl [1, 2, 3, 4, 5, 6, 7, 8, 9, 0] rfl)
          refine z_icmp_le (tgt := 86) X.1 X.2.1 d_M_open_71 (by decide) ⟨by omega, by omega⟩ ⟨by omega, by omega⟩ (fun h257 => ?_) (fun h257 => ?_)
          · exact J221  _ _ _  Y S (lv_sub hl [0, 1, 2, 3, 4, 5, 6, 7, 8] rfl)
          · refine lv_iload X.1 X.2.1 d_M_open_74 (lv_at hl 8 rfl) ?_
            refine lv_iload X.1 X.2.1 d_M_open_76 (lv_at hl 7 rfl) ?_
            refine lv_iconst (v := iI 2) X.1 X.2.1 d_M_open_78 (by decide) ?_
            refine z_isub X.1 X.2.1 d_M_open_79 ?_
            refine z_icmp_lt (tgt := 86) X.1 X.2.1 d_M_open_80 (by decide) ⟨by omega, by omega⟩ ⟨by omega, by omega⟩ (fun h258 => ?_) (fun h258 => ?_)
            · exact J221  _ _ _  Y S (lv_sub hl [0, 1, 2, 3, 4, 5, 6, 7, 8] rfl)
            · refine lv_goto (tgt := 208) X.1 X.2.1 d_M_open_83 (by decide) ?_
              exact J113  _ _ _  Y S (lv_sub hl [0, 1, 2, 3, 4, 5, 6, 7] rfl)
    refine lv_istore (lv' := [(10, .int (iI 0)), (9, .int (iI ((((a5 - a4) - 12) + 15) / 16))), (8, .int (iI ((a5 - a4) - 12))), (7, .int (iI (a5 - a4))), (0, .ref h), (1, .ref ((q 58))), (2, .int (iI a2)), (3, .int (iI a3)), (4, .int (iI a4)), (5, .int (iI a5)), (6, .int (iI a6))]) X.1 X.2.1 d_M_open_59 hl (by decide) rfl (fun ls hl => ?_)
    exact J109 _ 0 I105 J105 B105 G105 _ _ _ rfl (by omega) (by omega) (mmF_cg (s105.2.2 0 (by decide)) (mmF_cg (s103.2.2 0 (by decide)) mmF_rf)) Y S (lv_sub hl [4, 5, 6, 7, 8, 10, 2, 1, 0] rfl)
  · refine lv_iconst (v := iI (-1)) X.1 X.2.1 d_M_open_14 (by decide) ?_
    exact m_reti hQQ X Y hr hlk ⟨S, (-1), rfl, ⟨by omega, by omega, by omega, mmF_rf⟩⟩ d_M_open_15
set_option maxHeartbeats 4000000 in
set_option maxRecDepth 100000 in
theorem r_M_aesKey_long0 (l : Launch) (D : mD) (E : mE) (h : Nat) (q : Nat → Nat) (sz : Nat) (I : Nat → Int32) (J : Nat → Int64) (B : Nat → Nat → Int32) (G : Nat → Nat → Int64) (a2 : Int) (l_a2 : 16 ≤ a2) (u_a2 : a2 ≤ 32) (hT : rT I B) : Met l y_M_aesKey (k_M_aesKey :: lw_tg) (mR 4 129) (va_Pc [.ref h, .ref (q 27), .int (iI a2)] (mPre D E h q (I, J, B, G) sz)) (va_Qv (rPv [14, 18] [12, 13, 15] I B (fun (u : mS) => True)) (mPost D E h q (mA E h q sz)) (mA E h q sz)) 0 0 (mA E h q sz) := by
  refine m_enter (by decide) rfl (Nat.le_of_ble_eq_true rfl) (fun p e s m below meth c ls AV QQ H locs hQQ X Y hZ hA hr hlk hml hl => ?_)
  have Y : mH D E (mA E h q sz) s.heap h q I J B G H locs := Y
  have S : rS [14, 18] [12, 13, 15] I B I B := rS_rf hT
  have hl : lv_has ls 7 [(0, .ref h), (1, .ref ((q 27))), (2, .int (iI a2))] := hl
  refine lv_aload_n X.1 X.2.1 d_M_aesKey_0 rfl (lv_at hl 0 rfl) ?_
  refine r_geti (k := 14) X Y S (by decide) lk_hasBox (gf_hasBox _ _ _) rfl rfl d_M_aesKey_1 (fun z101 e101 l101 u101 => ?_)
  have J103 : ∀ (I102 : Nat → Int32) (J102 : Nat → Int64) (B102 : Nat → Nat → Int32) (G102 : Nat → Nat → Int64) (H : Heap) (locs : List Loc) (ls : Array Slot), mH D E (mA E h q sz) s.heap h q I102 J102 B102 G102 H locs → rS [14, 18] [12, 13, 15] I B I102 B102 → lv_has ls 7 [(0, .ref h), (1, .ref ((q 27))), (2, .int (iI a2))] → W p l e (mR 4 129) s m AV below meth c H locs 0 0 QQ (F0 m 11 ls []) := by
    intro I102 J102 B102 G102 H locs ls  Y S hl
    refine lv_iload_n X.1 X.2.1 d_M_aesKey_11 rfl (lv_at hl 2 rfl) ?_
    refine lv_iconst (v := iI 4) X.1 X.2.1 d_M_aesKey_12 (by decide) ?_
    refine z_idiv X.1 X.2.1 (by omega) (by omega) ⟨by decide, by decide⟩ d_M_aesKey_13 ?_
    refine lv_istore_n (lv' := [(3, .int (iI (a2 / 4))), (0, .ref h), (1, .ref ((q 27))), (2, .int (iI a2))]) X.1 X.2.1 d_M_aesKey_14 rfl hl (by decide) rfl (fun ls hl => ?_)
    refine lv_aload_n X.1 X.2.1 d_M_aesKey_15 rfl (lv_at hl 1 rfl) ?_
    refine lv_iload_n X.1 X.2.1 d_M_aesKey_16 rfl (lv_at hl 0 rfl) ?_
    refine lv_bipush (v := iI 6) X.1 X.2.1 d_M_aesKey_17 (by decide) ?_
    refine z_iadd X.1 X.2.1 d_M_aesKey_19 ?_
    refine r_puti (k := 18) X Y S (by decide) lk_rounds rfl rfl (t_M_ok 18 (by decide)) rfl rfl (sf_rounds _ _ _ _) (Nat.le_of_ble_eq_true rfl) rfl (show (0 : Int) ≤ (a2 / 4) + 6 by omega) (show (a2 / 4) + 6 ≤ (14 : Int) by omega) ⟨by omega, by omega⟩ (by decide) d_M_aesKey_20 (fun I107 H locs Y S w107 => ?_)
    refine lv_iconst (v := iI 0) X.1 X.2.1 d_M_aesKey_23 (by decide) ?_
    have J110 : ∀ (n112 : Nat) (z109 : Int) (I108 : Nat → Int32) (J108 : Nat → Int64) (B108 : Nat → Nat → Int32) (G108 : Nat → Nat → Int64) (H : Heap) (locs : List Loc) (ls : Array Slot), (8 - z109).toNat = n112 → (0 ≤ z109) → (z109 ≤ 8) → mH D E (mA E h q sz) s.heap h q I108 J108 B108 G108 H locs → rS [14, 18] [12, 13, 15] I B I108 B108 → lv_has ls 7 [(0, .ref h), (1, .ref ((q 27))), (3, .int (iI (a2 / 4))), (4, .int (iI z109))] → W p l e (mR 4 129) s m AV below meth c H locs 0 0 QQ (F0 m 26 ls []) := by
      intro n112
      induction n112 using Nat.strongRecOn with
      | ind n112 ih111 =>
        intro z109 I108 J108 B108 G108 H locs ls hm113 l109 u109 Y S hl
        refine lv_iload X.1 X.2.1 d_M_aesKey_26 (lv_at hl 3 rfl) ?_
        refine lv_iload_n X.1 X.2.1 d_M_aesKey_28 rfl (lv_at hl 2 rfl) ?_
        refine z_icmp_ge (tgt := 99) X.1 X.2.1 d_M_aesKey_29 (by decide) ⟨by omega, by omega⟩ ⟨by omega, by omega⟩ (fun h114 => ?_) (fun h114 => ?_)
        · refine lv_iconst (v := iI 1) X.1 X.2.1 d_M_aesKey_99 (by decide) ?_
          refine lv_istore (lv' := [(4, .int (iI 1)), (0, .ref h), (1, .ref ((q 27))), (3, .int (iI (a2 / 4)))]) X.1 X.2.1 d_M_aesKey_100 hl (by decide) rfl (fun ls hl => ?_)
          refine lv_iload_n X.1 X.2.1 d_M_aesKey_102 rfl (lv_at hl 3 rfl) ?_
          have J119 : ∀ (n121 : Nat) (z116 : Int) (z117 : Int) (I115 : Nat → Int32) (J115 : Nat → Int64) (B115 : Nat → Nat → Int32) (G115 : Nat → Nat → Int64) (H : Heap) (locs : List Loc) (ls : Array Slot), (60 - z117).toNat = n121 → (0 ≤ z116) → (z116 ≤ 255) → (4 ≤ z117) → (z117 ≤ 60) → (a2 / 4 ≤ z117) → mH D E (mA E h q sz) s.heap h q I115 J115 B115 G115 H locs → rS [14, 18] [12, 13, 15] I B I115 B115 → lv_has ls 7 [(0, .ref h), (3, .int (iI (a2 / 4))), (4, .int (iI z116)), (5, .int (iI z117))] → W p l e (mR 4 129) s m AV below meth c H locs 0 0 QQ (F0 m 105 ls []) := by
            intro n121
            induction n121 using Nat.strongRecOn with
            | ind n121 ih120 =>
              intro z116 z117 I115 J115 B115 G115 H locs ls hm122 l116 u116 l117 u117 i118 Y S hl
              refine lv_iload X.1 X.2.1 d_M_aesKey_105 (lv_at hl 3 rfl) ?_
              refine lv_iconst (v := iI 4) X.1 X.2.1 d_M_aesKey_107 (by decide) ?_
              refine lv_aload_n X.1 X.2.1 d_M_aesKey_108 rfl (lv_at hl 0 rfl) ?_
              refine r_geti (k := 18) X Y S (by decide) lk_rounds (gf_rounds _ _ _) rfl rfl d_M_aesKey_109 (fun z123 e123 l123 u123 => ?_)
              refine lv_iconst (v := iI 1) X.1 X.2.1 d_M_aesKey_112 (by decide) ?_
              refine z_iadd X.1 X.2.1 d_M_aesKey_113 ?_
              refine z_imul X.1 X.2.1 d_M_aesKey_114 ?_
              refine z_icmp_ge (tgt := 212) X.1 X.2.1 d_M_aesKey_115 (by decide) ⟨by omega, by omega⟩ ⟨by omega, by omega⟩ (fun h124 => ?_) (fun h124 => ?_)
              · exact m_retv hQQ X Y hr hlk ⟨S, trivial⟩ d_M_aesKey_212
              · refine lv_aload_n X.1 X.2.1 d_M_aesKey_118 rfl (lv_at hl 0 rfl) ?_
                refine m_get X Y 15 (by decide) lk_schedule (gf_schedule _ _ _) rfl d_M_aesKey_119 ?_
                refine lv_iload X.1 X.2.1 d_M_aesKey_122 (lv_at hl 3 rfl) ?_
                refine lv_iconst (v := iI 1) X.1 X.2.1 d_M_aesKey_124 (by decide) ?_
                refine z_isub X.1 X.2.1 d_M_aesKey_125 ?_
                refine r_iald X Y S (aw_schedule _ _ _ _ _ _ _) rfl (by omega) (show z117 - 1 < ((60 : Nat) : Int) by omega) (by omega) d_M_aesKey_126 (fun z125 q125 l125 u125 => ?_)
                refine lv_istore (lv' := [(6, .int (iI z125)), (0, .ref h), (3, .int (iI (a2 / 4))), (4, .int (iI z116)), (5, .int (iI z117))]) X.1 X.2.1 d_M_aesKey_127 hl (by decide) rfl (fun ls hl => ?_)
                refine lv_iload X.1 X.2.1 d_M_aesKey_129 (lv_at hl 4 rfl) ?_
                refine lv_iload_n X.1 X.2.1 d_M_aesKey_131 rfl (lv_at hl 2 rfl) ?_
                refine lv_irem X.1 X.2.1 d_M_aesKey_132 (iI_ne0 ⟨by omega, by omega⟩ (by omega)) ?_
                refine t_u (fun z126 l126 u126 => ?_)
                have J130 : ∀ (z128 : Int) (z129 : Int) (I127 : Nat → Int32) (J127 : Nat → Int64) (B127 : Nat → Nat → Int32) (G127 : Nat → Nat → Int64) (H : Heap) (locs : List Loc) (ls : Array Slot), (0 ≤ z128) → (z128 ≤ 255) → ((-2147483648) ≤ z129) → (z129 ≤ 2147483647) → mH D E (mA E h q sz) s.heap h q I127 J127 B127 G127 H locs → rS [14, 18] [12, 13, 15] I B I127 B127 → lv_has ls 7 [(0, .ref h), (3, .int (iI (a2 / 4))), (4, .int (iI z128)), (5, .int (iI z117)), (6, .int (iI z129))] → W p l e (mR 4 129) s m AV below meth c H locs 0 0 QQ (F0 m 187 ls []) := by
                  intro z128 z129 I127 J127 B127 G127 H locs ls l128 u128 l129 u129 Y S hl
                  refine lv_aload_n X.1 X.2.1 d_M_aesKey_187 rfl (lv_at hl 0 rfl) ?_
                  refine m_get X Y 15 (by decide) lk_schedule (gf_schedule _ _ _) rfl d_M_aesKey_188 ?_
                  refine lv_iload X.1 X.2.1 d_M_aesKey_191 (lv_at hl 3 rfl) ?_
                  refine lv_aload_n X.1 X.2.1 d_M_aesKey_193 rfl (lv_at hl 0 rfl) ?_
                  refine m_get X Y 15 (by decide) lk_schedule (gf_schedule _ _ _) rfl d_M_aesKey_194 ?_
                  refine lv_iload X.1 X.2.1 d_M_aesKey_197 (lv_at hl 3 rfl) ?_
                  refine lv_iload_n X.1 X.2.1 d_M_aesKey_199 rfl (lv_at hl 1 rfl) ?_
                  refine z_isub X.1 X.2.1 d_M_aesKey_200 ?_
                  refine r_iald X Y S (aw_schedule _ _ _ _ _ _ _) rfl (by omega) (show z117 - (a2 / 4) < ((60 : Nat) : Int) by omega) (by omega) d_M_aesKey_201 (fun z134 q134 l134 u134 => ?_)
                  refine lv_iload X.1 X.2.1 d_M_aesKey_202 (lv_at hl 4 rfl) ?_
                  refine lv_ixor X.1 X.2.1 d_M_aesKey_204 ?_
                  refine t_u (fun z135 l135 u135 => ?_)
                  refine r_iast X Y S (aw_schedule _ _ _ _ _ _ _) (sw_schedule _ _ _ _ _ _ _) rfl ⟨(show ((-2147483648) : Int) ≤ z135 by omega), (show z135 ≤ (2147483647 : Int) by omega)⟩ ⟨by omega, by omega⟩ (by omega) (show z117 < ((60 : Nat) : Int) by omega) (by omega) (by decide) d_M_aesKey_205 (fun B136 H locs Y S w136 => ?_)
                  refine lv_iinc (v := iI (z117 + 1)) (lv' := [(5, .int (iI (z117 + 1))), (0, .ref h), (3, .int (iI (a2 / 4))), (4, .int (iI z128)), (6, .int (iI z129))]) X.1 X.2.1 d_M_aesKey_206 hl (k := 3) rfl ((iI_add _ _).trans (congrArg iI (by omega))) (by decide) rfl (fun ls hl => ?_)
                  refine lv_goto (tgt := 105) X.1 X.2.1 d_M_aesKey_209 (by decide) ?_
                  exact ih120 ((60 - (z117 + 1)).toNat) (by omega) z128 (z117 + 1) I127 J127 B136 G127 _ _ _ rfl (by omega) (by omega) (by omega) (by omega) (by omega) Y S (lv_sub hl [1, 2, 3, 0] rfl)
                refine z_if_ne (tgt := 165) X.1 X.2.1 d_M_aesKey_133 (by decide) ⟨by omega, by omega⟩ (fun h137 => ?_) (fun h137 => ?_)
                · refine lv_iload_n X.1 X.2.1 d_M_aesKey_165 rfl (lv_at hl 2 rfl) ?_
                  refine lv_bipush (v := iI 6) X.1 X.2.1 d_M_aesKey_166 (by decide) ?_
                  refine z_icmp_le (tgt := 187) X.1 X.2.1 d_M_aesKey_168 (by decide) ⟨by omega, by omega⟩ ⟨by omega, by omega⟩ (fun h138 => ?_) (fun h138 => ?_)
                  · exact J130 z116 z125 I115 J115 B115 G115 _ _ _ (by omega) (by omega) (by omega) (by omega) Y S (lv_sub hl [1, 2, 3, 4, 0] rfl)
                  · refine lv_iload X.1 X.2.1 d_M_aesKey_171 (lv_at hl 4 rfl) ?_
                    refine lv_iload_n X.1 X.2.1 d_M_aesKey_173 rfl (lv_at hl 2 rfl) ?_
                    refine lv_irem X.1 X.2.1 d_M_aesKey_174 (iI_ne0 ⟨by omega, by omega⟩ (by omega)) ?_
                    refine t_u (fun z139 l139 u139 => ?_)
                    refine lv_iconst (v := iI 4) X.1 X.2.1 d_M_aesKey_175 (by decide) ?_
                    refine z_icmp_ne (tgt := 187) X.1 X.2.1 d_M_aesKey_176 (by decide) ⟨by omega, by omega⟩ ⟨by omega, by omega⟩ (fun h140 => ?_) (fun h140 => ?_)
                    · exact J130 z116 z125 I115 J115 B115 G115 _ _ _ (by omega) (by omega) (by omega) (by omega) Y S (lv_sub hl [1, 2, 3, 4, 0] rfl)
                    · refine lv_aload_n X.1 X.2.1 d_M_aesKey_179 rfl (lv_at hl 1 rfl) ?_
                      refine lv_iload X.1 X.2.1 d_M_aesKey_180 (lv_at hl 0 rfl) ?_
                      refine r_ni (m_run (As := [.int (iI z125)]) (rest := []) (n := 1) X Y hZ hA hml hl.1 (r_M_boxed l D E h q H.size I115 J115 B115 G115 z125 (by omega) (by omega) S.1) kl_M_boxed ks_M_boxed kx_M_boxed ki_M_boxed ini_M hd_M_boxed ⟨Nat.le_of_ble_eq_true rfl, Nat.le_of_ble_eq_true rfl⟩ rfl (Nat.le_of_ble_eq_true rfl) d_M_aesKey_182 ⟨Nat.le_refl _, Nat.le_refl _⟩) X Y hA S (by decide) (by decide) (fun z141 u H locs Y S s141 p141 => ?_)
                      obtain ⟨I141, J141, B141, G141⟩ := u
                      dsimp only at Y S s141 p141
                      obtain ⟨l141, u141⟩ := p141
                      refine lv_istore (lv' := [(6, .int (iI z141)), (0, .ref h), (3, .int (iI (a2 / 4))), (4, .int (iI z116)), (5, .int (iI z117))]) X.1 X.2.1 d_M_aesKey_185 hl (by decide) rfl (fun ls hl => ?_)
                      exact J130 z116 z141 I141 J141 B141 G141 _ _ _ (by omega) (by omega) (by omega) (by omega) Y S (lv_sub hl [1, 2, 3, 4, 0] rfl)
                · refine lv_aload_n X.1 X.2.1 d_M_aesKey_136 rfl (lv_at hl 1 rfl) ?_
                  refine lv_iload X.1 X.2.1 d_M_aesKey_137 (lv_at hl 0 rfl) ?_
                  refine lv_bipush (v := iI 8) X.1 X.2.1 d_M_aesKey_139 (by decide) ?_
                  refine p_calli (As := [.int (iI z125), .int (iI 8)]) (rest := [.ref h]) (n := 2) X Y hml hl.1 (r_M_left l z125 (by omega) (by omega) 8 (by omega) (by omega)) kl_M_left ks_M_left ki_M_left ini_M hd_M_left ⟨Nat.le_of_ble_eq_true rfl, Nat.le_of_ble_eq_true rfl⟩ rfl (Nat.le_of_ble_eq_true rfl) d_M_aesKey_141 ⟨Nat.le_refl _, Nat.le_refl _⟩ (fun r142 H locs p142 Y => ?_)
                  obtain ⟨z142, e142, p142⟩ := p142
                  subst e142
                  obtain ⟨l142, u142⟩ := p142
                  refine r_ni (m_run (As := [.int (iI z142)]) (rest := []) (n := 1) X Y hZ hA hml hl.1 (r_M_boxed l D E h q H.size I115 J115 B115 G115 z142 (by omega) (by omega) S.1) kl_M_boxed ks_M_boxed kx_M_boxed ki_M_boxed ini_M hd_M_boxed ⟨Nat.le_of_ble_eq_true rfl, Nat.le_of_ble_eq_true rfl⟩ rfl (Nat.le_of_ble_eq_true rfl) d_M_aesKey_144 ⟨Nat.le_refl _, Nat.le_refl _⟩) X Y hA S (by decide) (by decide) (fun z143 u H locs Y S s143 p143 => ?_)
                  obtain ⟨I143, J143, B143, G143⟩ := u
                  dsimp only at Y S s143 p143
                  obtain ⟨l143, u143⟩ := p143
                  refine lv_iload X.1 X.2.1 d_M_aesKey_147 (lv_at hl 3 rfl) ?_
                  refine lv_bipush (v := iI 24) X.1 X.2.1 d_M_aesKey_149 (by decide) ?_
                  refine lv_ishl X.1 X.2.1 d_M_aesKey_151 ?_
                  refine t_u (fun z144 l144 u144 => ?_)
                  refine lv_ixor X.1 X.2.1 d_M_aesKey_152 ?_
                  refine t_u (fun z145 l145 u145 => ?_)
                  refine lv_istore (lv' := [(6, .int (iI z145)), (0, .ref h), (3, .int (iI (a2 / 4))), (4, .int (iI z116)), (5, .int (iI z117))]) X.1 X.2.1 d_M_aesKey_153 hl (by decide) rfl (fun ls hl => ?_)
                  refine lv_iload X.1 X.2.1 d_M_aesKey_155 (lv_at hl 3 rfl) ?_
                  refine p_calli (As := [.int (iI z116)]) (rest := []) (n := 1) X Y hml hl.1 (r_M_twice l z116 (by omega) (by omega)) kl_M_twice ks_M_twice ki_M_twice ini_M hd_M_twice ⟨Nat.le_of_ble_eq_true rfl, Nat.le_of_ble_eq_true rfl⟩ rfl (Nat.le_of_ble_eq_true rfl) d_M_aesKey_157 ⟨Nat.le_refl _, Nat.le_refl _⟩ (fun r146 H locs p146 Y => ?_)
                  obtain ⟨z146, e146, p146⟩ := p146
                  subst e146
                  obtain ⟨l146, u146⟩ := p146
                  refine lv_istore (lv' := [(4, .int (iI z146)), (6, .int (iI z145)), (0, .ref h), (3, .int (iI (a2 / 4))), (5, .int (iI z117))]) X.1 X.2.1 d_M_aesKey_160 hl (by decide) rfl (fun ls hl => ?_)
                  refine lv_goto (tgt := 187) X.1 X.2.1 d_M_aesKey_162 (by decide) ?_
                  exact J130 z146 z145 I143 J143 B143 G143 _ _ _ (by omega) (by omega) (by omega) (by omega) Y S (lv_sub hl [2, 3, 0, 4, 1] rfl)
          refine lv_istore (lv' := [(5, .int (iI (a2 / 4))), (4, .int (iI 1)), (0, .ref h), (1, .ref ((q 27))), (3, .int (iI (a2 / 4)))]) X.1 X.2.1 d_M_aesKey_103 hl (by decide) rfl (fun ls hl => ?_)
          exact J119 _ 1 (a2 / 4) I108 J108 B108 G108 _ _ _ rfl (by omega) (by omega) (by omega) (by omega) (by omega) Y S (lv_sub hl [2, 4, 1, 0] rfl)
        · refine lv_aload_n X.1 X.2.1 d_M_aesKey_32 rfl (lv_at hl 0 rfl) ?_
          refine m_get X Y 15 (by decide) lk_schedule (gf_schedule _ _ _) rfl d_M_aesKey_33 ?_
          refine lv_iload X.1 X.2.1 d_M_aesKey_36 (lv_at hl 3 rfl) ?_
          refine lv_aload_n X.1 X.2.1 d_M_aesKey_38 rfl (lv_at hl 1 rfl) ?_
          refine lv_iconst (v := iI 4) X.1 X.2.1 d_M_aesKey_39 (by decide) ?_
          refine lv_iload X.1 X.2.1 d_M_aesKey_40 (lv_at hl 3 rfl) ?_
          refine z_imul X.1 X.2.1 d_M_aesKey_42 ?_
          refine r_bald X Y S (aw_long0 _ _ _ _ _ _ _) rfl (by omega) (show 4 * z109 < ((40 : Nat) : Int) by omega) (by omega) d_M_aesKey_43 (fun z147 q147 l147 u147 => ?_)
          refine lv_bipush (v := iI 24) X.1 X.2.1 d_M_aesKey_44 (by decide) ?_
          refine lv_ishl X.1 X.2.1 d_M_aesKey_46 ?_
          refine t_u (fun z148 l148 u148 => ?_)
          refine lv_aload_n X.1 X.2.1 d_M_aesKey_47 rfl (lv_at hl 1 rfl) ?_
          refine lv_iconst (v := iI 4) X.1 X.2.1 d_M_aesKey_48 (by decide) ?_
          refine lv_iload X.1 X.2.1 d_M_aesKey_49 (lv_at hl 3 rfl) ?_
          refine z_imul X.1 X.2.1 d_M_aesKey_51 ?_
          refine lv_iconst (v := iI 1) X.1 X.2.1 d_M_aesKey_52 (by decide) ?_
          refine z_iadd X.1 X.2.1 d_M_aesKey_53 ?_
          refine r_bald X Y S (aw_long0 _ _ _ _ _ _ _) rfl (by omega) (show (4 * z109) + 1 < ((40 : Nat) : Int) by omega) (by omega) d_M_aesKey_54 (fun z149 q149 l149 u149 => ?_)
          refine lv_sipush (v := iI 255) X.1 X.2.1 d_M_aesKey_55 (by decide) ?_
          refine z_iand X.1 X.2.1 (by omega) (by omega) d_M_aesKey_58 (fun z150 l150 u150 => ?_)
          refine lv_bipush (v := iI 16) X.1 X.2.1 d_M_aesKey_59 (by decide) ?_
          refine lv_ishl X.1 X.2.1 d_M_aesKey_61 ?_
          refine t_u (fun z151 l151 u151 => ?_)
          refine lv_ior X.1 X.2.1 d_M_aesKey_62 ?_
          refine t_u (fun z152 l152 u152 => ?_)
          refine lv_aload_n X.1 X.2.1 d_M_aesKey_63 rfl (lv_at hl 1 rfl) ?_
          refine lv_iconst (v := iI 4) X.1 X.2.1 d_M_aesKey_64 (by decide) ?_
          refine lv_iload X.1 X.2.1 d_M_aesKey_65 (lv_at hl 3 rfl) ?_
          refine z_imul X.1 X.2.1 d_M_aesKey_67 ?_
          refine lv_iconst (v := iI 2) X.1 X.2.1 d_M_aesKey_68 (by decide) ?_
          refine z_iadd X.1 X.2.1 d_M_aesKey_69 ?_
          refine r_bald X Y S (aw_long0 _ _ _ _ _ _ _) rfl (by omega) (show (4 * z109) + 2 < ((40 : Nat) : Int) by omega) (by omega) d_M_aesKey_70 (fun z153 q153 l153 u153 => ?_)
          refine lv_sipush (v := iI 255) X.1 X.2.1 d_M_aesKey_71 (by decide) ?_
          refine z_iand X.1 X.2.1 (by omega) (by omega) d_M_aesKey_74 (fun z154 l154 u154 => ?_)
          refine lv_bipush (v := iI 8) X.1 X.2.1 d_M_aesKey_75 (by decide) ?_
          refine lv_ishl X.1 X.2.1 d_M_aesKey_77 ?_
          refine t_u (fun z155 l155 u155 => ?_)
          refine lv_ior X.1 X.2.1 d_M_aesKey_78 ?_
          refine t_u (fun z156 l156 u156 => ?_)
          refine lv_aload_n X.1 X.2.1 d_M_aesKey_79 rfl (lv_at hl 1 rfl) ?_
          refine lv_iconst (v := iI 4) X.1 X.2.1 d_M_aesKey_80 (by decide) ?_
          refine lv_iload X.1 X.2.1 d_M_aesKey_81 (lv_at hl 3 rfl) ?_
          refine z_imul X.1 X.2.1 d_M_aesKey_83 ?_
          refine lv_iconst (v := iI 3) X.1 X.2.1 d_M_aesKey_84 (by decide) ?_
          refine z_iadd X.1 X.2.1 d_M_aesKey_85 ?_
          refine r_bald X Y S (aw_long0 _ _ _ _ _ _ _) rfl (by omega) (show (4 * z109) + 3 < ((40 : Nat) : Int) by omega) (by omega) d_M_aesKey_86 (fun z157 q157 l157 u157 => ?_)
          refine lv_sipush (v := iI 255) X.1 X.2.1 d_M_aesKey_87 (by decide) ?_
          refine z_iand X.1 X.2.1 (by omega) (by omega) d_M_aesKey_90 (fun z158 l158 u158 => ?_)
          refine lv_ior X.1 X.2.1 d_M_aesKey_91 ?_
          refine t_u (fun z159 l159 u159 => ?_)
          refine r_iast X Y S (aw_schedule _ _ _ _ _ _ _) (sw_schedule _ _ _ _ _ _ _) rfl ⟨(show ((-2147483648) : Int) ≤ z159 by omega), (show z159 ≤ (2147483647 : Int) by omega)⟩ ⟨by omega, by omega⟩ (by omega) (show z109 < ((60 : Nat) : Int) by omega) (by omega) (by decide) d_M_aesKey_92 (fun B160 H locs Y S w160 => ?_)
          refine lv_iinc (v := iI (z109 + 1)) (lv' := [(4, .int (iI (z109 + 1))), (0, .ref h), (1, .ref ((q 27))), (3, .int (iI (a2 / 4)))]) X.1 X.2.1 d_M_aesKey_93 hl (k := 3) rfl ((iI_add _ _).trans (congrArg iI (by omega))) (by decide) rfl (fun ls hl => ?_)
          refine lv_goto (tgt := 26) X.1 X.2.1 d_M_aesKey_96 (by decide) ?_
          exact ih111 ((8 - (z109 + 1)).toNat) (by omega) (z109 + 1) I108 J108 B160 G108 _ _ _ rfl (by omega) (by omega) Y S (lv_sub hl [1, 2, 3, 0] rfl)
    refine lv_istore (lv' := [(4, .int (iI 0)), (3, .int (iI (a2 / 4))), (0, .ref h), (1, .ref ((q 27))), (2, .int (iI a2))]) X.1 X.2.1 d_M_aesKey_24 hl (by decide) rfl (fun ls hl => ?_)
    exact J110 _ 0 I107 J102 B102 G102 _ _ _ rfl (by omega) (by omega) Y S (lv_sub hl [2, 3, 1, 0] rfl)
  refine z_if_ne (tgt := 11) X.1 X.2.1 d_M_aesKey_4 (by decide) ⟨by omega, by omega⟩ (fun h161 => ?_) (fun h161 => ?_)
  · exact J103 I J B G _ _ _  Y S (lv_sub hl [0, 1, 2] rfl)
  · refine lv_aload_n X.1 X.2.1 d_M_aesKey_7 rfl (lv_at hl 0 rfl) ?_
    refine r_nv (m_run (As := []) (rest := []) (n := 0) X Y hZ hA hml hl.1 (r_M_makeBox l D E h q H.size I J B G S.1) kl_M_makeBox ks_M_makeBox kx_M_makeBox ki_M_makeBox ini_M hd_M_makeBox ⟨Nat.le_of_ble_eq_true rfl, Nat.le_of_ble_eq_true rfl⟩ rfl (Nat.le_of_ble_eq_true rfl) d_M_aesKey_8 ⟨Nat.le_refl _, Nat.le_refl _⟩) X Y hA S (by decide) (by decide) (fun u H locs Y S s162 p162 => ?_)
    obtain ⟨I162, J162, B162, G162⟩ := u
    dsimp only at Y S s162 p162
    exact J103 I162 J162 B162 G162 _ _ _  Y S (lv_sub hl [0, 1, 2] rfl)
set_option maxHeartbeats 4000000 in
set_option maxRecDepth 100000 in
theorem r_M_derive_long0_kerberos_made (l : Launch) (D : mD) (E : mE) (h : Nat) (q : Nat → Nat) (sz : Nat) (I : Nat → Int32) (J : Nat → Int64) (B : Nat → Nat → Int32) (G : Nat → Nat → Int64) (a2 : Int) (l_a2 : 16 ≤ a2) (u_a2 : a2 ≤ 32) (hT : rT I B) : Met l y_M_derive (k_M_derive :: lw_tg) (mR 5 155) (va_Pc [.ref h, .ref (q 27), .int (iI a2), .ref (q 28), .int (iI 8), .ref (q 56)] (mPre D E h q (I, J, B, G) sz)) (va_Qv (rPv [14, 18] [12, 13, 15, 16, 17, 19, 20, 21, 56] I B (fun (u : mS) => True)) (mPost D E h q (mA E h q sz)) (mA E h q sz)) 0 0 (mA E h q sz) := by
  refine m_enter (by decide) rfl (Nat.le_of_ble_eq_true rfl) (fun p e s m below meth c ls AV QQ H locs hQQ X Y hZ hA hr hlk hml hl => ?_)
  have Y : mH D E (mA E h q sz) s.heap h q I J B G H locs := Y
  have S : rS [14, 18] [12, 13, 15, 16, 17, 19, 20, 21, 56] I B I B := rS_rf hT
  have hl : lv_has ls 8 [(0, .ref h), (1, .ref ((q 27))), (2, .int (iI a2)), (3, .ref ((q 28))), (4, .int (iI 8)), (5, .ref ((q 56)))] := hl
  refine lv_aload_n X.1 X.2.1 d_M_derive_0 rfl (lv_at hl 0 rfl) ?_
  refine lv_aload_n X.1 X.2.1 d_M_derive_1 rfl (lv_at hl 3 rfl) ?_
  refine lv_iload X.1 X.2.1 d_M_derive_2 (lv_at hl 4 rfl) ?_
  refine r_nv (m_run (As := [.ref ((q 28)), .int (iI 8)]) (rest := []) (n := 2) X Y hZ hA hml hl.1 (r_M_foldOf_kerberos l D E h q H.size I J B G S.1) kl_M_foldOf ks_M_foldOf kx_M_foldOf ki_M_foldOf ini_M hd_M_foldOf ⟨Nat.le_of_ble_eq_true rfl, Nat.le_of_ble_eq_true rfl⟩ rfl (Nat.le_of_ble_eq_true rfl) d_M_derive_4 ⟨Nat.le_refl _, Nat.le_refl _⟩) X Y hA S (by decide) (by decide) (fun u H locs Y S s101 p101 => ?_)
  obtain ⟨I101, J101, B101, G101⟩ := u
  dsimp only at Y S s101 p101
  refine lv_aload_n X.1 X.2.1 d_M_derive_7 rfl (lv_at hl 0 rfl) ?_
  refine lv_aload_n X.1 X.2.1 d_M_derive_8 rfl (lv_at hl 1 rfl) ?_
  refine lv_iload_n X.1 X.2.1 d_M_derive_9 rfl (lv_at hl 2 rfl) ?_
  refine r_nv (m_run (As := [.ref ((q 27)), .int (iI a2)]) (rest := []) (n := 2) X Y hZ hA hml hl.1 (r_M_aesKey_long0 l D E h q H.size I101 J101 B101 G101 a2 (by omega) (by omega) S.1) kl_M_aesKey ks_M_aesKey kx_M_aesKey ki_M_aesKey ini_M hd_M_aesKey ⟨Nat.le_of_ble_eq_true rfl, Nat.le_of_ble_eq_true rfl⟩ rfl (Nat.le_of_ble_eq_true rfl) d_M_derive_10 ⟨Nat.le_refl _, Nat.le_refl _⟩) X Y hA S (by decide) (by decide) (fun u H locs Y S s102 p102 => ?_)
  obtain ⟨I102, J102, B102, G102⟩ := u
  dsimp only at Y S s102 p102
  refine lv_iconst (v := iI 0) X.1 X.2.1 d_M_derive_13 (by decide) ?_
  have J105 : ∀ (n107 : Nat) (z104 : Int) (I103 : Nat → Int32) (J103 : Nat → Int64) (B103 : Nat → Nat → Int32) (G103 : Nat → Nat → Int64) (H : Heap) (locs : List Loc) (ls : Array Slot), (16 - z104).toNat = n107 → (0 ≤ z104) → (z104 ≤ 16) → mH D E (mA E h q sz) s.heap h q I103 J103 B103 G103 H locs → rS [14, 18] [12, 13, 15, 16, 17, 19, 20, 21, 56] I B I103 B103 → lv_has ls 8 [(0, .ref h), (2, .int (iI a2)), (5, .ref ((q 56))), (6, .int (iI z104))] → W p l e (mR 5 155) s m AV below meth c H locs 0 0 QQ (F0 m 16 ls []) := by
    intro n107
    induction n107 using Nat.strongRecOn with
    | ind n107 ih106 =>
      intro z104 I103 J103 B103 G103 H locs ls hm108 l104 u104 Y S hl
      refine lv_iload X.1 X.2.1 d_M_derive_16 (lv_at hl 3 rfl) ?_
      refine lv_bipush (v := iI 16) X.1 X.2.1 d_M_derive_18 (by decide) ?_
      refine z_icmp_ge (tgt := 47) X.1 X.2.1 d_M_derive_20 (by decide) ⟨by omega, by omega⟩ ⟨by omega, by omega⟩ (fun h109 => ?_) (fun h109 => ?_)
      · refine lv_iconst (v := iI 0) X.1 X.2.1 d_M_derive_47 (by decide) ?_
        have J113 : ∀ (n115 : Nat) (z111 : Int) (I110 : Nat → Int32) (J110 : Nat → Int64) (B110 : Nat → Nat → Int32) (G110 : Nat → Nat → Int64) (H : Heap) (locs : List Loc) (ls : Array Slot), (47 - z111).toNat = n115 → (0 ≤ z111) → (z111 ≤ 47) → (z111 % 16 = 0) → mH D E (mA E h q sz) s.heap h q I110 J110 B110 G110 H locs → rS [14, 18] [12, 13, 15, 16, 17, 19, 20, 21, 56] I B I110 B110 → lv_has ls 8 [(0, .ref h), (2, .int (iI a2)), (5, .ref ((q 56))), (6, .int (iI z111))] → W p l e (mR 5 155) s m AV below meth c H locs 0 0 QQ (F0 m 50 ls []) := by
          intro n115
          induction n115 using Nat.strongRecOn with
          | ind n115 ih114 =>
            intro z111 I110 J110 B110 G110 H locs ls hm116 l111 u111 i112 Y S hl
            refine lv_iload X.1 X.2.1 d_M_derive_50 (lv_at hl 3 rfl) ?_
            refine lv_iload_n X.1 X.2.1 d_M_derive_52 rfl (lv_at hl 1 rfl) ?_
            refine z_icmp_ge (tgt := 100) X.1 X.2.1 d_M_derive_53 (by decide) ⟨by omega, by omega⟩ ⟨by omega, by omega⟩ (fun h117 => ?_) (fun h117 => ?_)
            · refine lv_iconst (v := iI 0) X.1 X.2.1 d_M_derive_100 (by decide) ?_
              have J120 : ∀ (n122 : Nat) (z119 : Int) (I118 : Nat → Int32) (J118 : Nat → Int64) (B118 : Nat → Nat → Int32) (G118 : Nat → Nat → Int64) (H : Heap) (locs : List Loc) (ls : Array Slot), (32 - z119).toNat = n122 → (0 ≤ z119) → (z119 ≤ 32) → mH D E (mA E h q sz) s.heap h q I118 J118 B118 G118 H locs → rS [14, 18] [12, 13, 15, 16, 17, 19, 20, 21, 56] I B I118 B118 → lv_has ls 8 [(0, .ref h), (2, .int (iI a2)), (5, .ref ((q 56))), (6, .int (iI z119))] → W p l e (mR 5 155) s m AV below meth c H locs 0 0 QQ (F0 m 103 ls []) := by
                intro n122
                induction n122 using Nat.strongRecOn with
                | ind n122 ih121 =>
                  intro z119 I118 J118 B118 G118 H locs ls hm123 l119 u119 Y S hl
                  refine lv_iload X.1 X.2.1 d_M_derive_103 (lv_at hl 3 rfl) ?_
                  refine lv_iload_n X.1 X.2.1 d_M_derive_105 rfl (lv_at hl 1 rfl) ?_
                  refine z_icmp_ge (tgt := 127) X.1 X.2.1 d_M_derive_106 (by decide) ⟨by omega, by omega⟩ ⟨by omega, by omega⟩ (fun h124 => ?_) (fun h124 => ?_)
                  · exact m_retv hQQ X Y hr hlk ⟨S, trivial⟩ d_M_derive_127
                  · refine lv_aload X.1 X.2.1 d_M_derive_109 (lv_at hl 2 rfl) ?_
                    refine lv_iload X.1 X.2.1 d_M_derive_111 (lv_at hl 3 rfl) ?_
                    refine lv_aload_n X.1 X.2.1 d_M_derive_113 rfl (lv_at hl 0 rfl) ?_
                    refine m_get X Y 20 (by decide) lk_derived (gf_derived _ _ _) rfl d_M_derive_114 ?_
                    refine lv_iload X.1 X.2.1 d_M_derive_117 (lv_at hl 3 rfl) ?_
                    refine r_bald X Y S (aw_derived _ _ _ _ _ _ _) rfl (by omega) (show z119 < ((32 : Nat) : Int) by omega) (by omega) d_M_derive_119 (fun z125 q125 l125 u125 => ?_)
                    refine r_bast X Y S (aw_made _ _ _ _ _ _ _) (sw_made _ _ _ _ _ _ _) rfl (by omega) (show z119 < ((32 : Nat) : Int) by omega) (by omega) (by decide) d_M_derive_120 (fun B126 H locs Y S w126 => ?_)
                    refine lv_iinc (v := iI (z119 + 1)) (lv' := [(6, .int (iI (z119 + 1))), (0, .ref h), (2, .int (iI a2)), (5, .ref ((q 56)))]) X.1 X.2.1 d_M_derive_121 hl (k := 3) rfl ((iI_add _ _).trans (congrArg iI (by omega))) (by decide) rfl (fun ls hl => ?_)
                    refine lv_goto (tgt := 103) X.1 X.2.1 d_M_derive_124 (by decide) ?_
                    exact ih121 ((32 - (z119 + 1)).toNat) (by omega) (z119 + 1) I118 J118 B126 G118 _ _ _ rfl (by omega) (by omega) Y S (lv_sub hl [1, 2, 3, 0] rfl)
              refine lv_istore (lv' := [(6, .int (iI 0)), (0, .ref h), (2, .int (iI a2)), (5, .ref ((q 56)))]) X.1 X.2.1 d_M_derive_101 hl (by decide) rfl (fun ls hl => ?_)
              exact J120 _ 0 I110 J110 B110 G110 _ _ _ rfl (by omega) (by omega) Y S (lv_sub hl [1, 2, 3, 0] rfl)
            · refine lv_aload_n X.1 X.2.1 d_M_derive_56 rfl (lv_at hl 0 rfl) ?_
              refine r_nv (m_run (As := []) (rest := []) (n := 0) X Y hZ hA hml hl.1 (r_M_cover l D E h q H.size I110 J110 B110 G110 S.1) kl_M_cover ks_M_cover kx_M_cover ki_M_cover ini_M hd_M_cover ⟨Nat.le_of_ble_eq_true rfl, Nat.le_of_ble_eq_true rfl⟩ rfl (Nat.le_of_ble_eq_true rfl) d_M_derive_57 ⟨Nat.le_refl _, Nat.le_refl _⟩) X Y hA S (by decide) (by decide) (fun u H locs Y S s127 p127 => ?_)
              obtain ⟨I127, J127, B127, G127⟩ := u
              dsimp only at Y S s127 p127
              refine lv_iconst (v := iI 0) X.1 X.2.1 d_M_derive_60 (by decide) ?_
              have J130 : ∀ (n132 : Nat) (z129 : Int) (I128 : Nat → Int32) (J128 : Nat → Int64) (B128 : Nat → Nat → Int32) (G128 : Nat → Nat → Int64) (H : Heap) (locs : List Loc) (ls : Array Slot), (16 - z129).toNat = n132 → (0 ≤ z129) → (z129 ≤ 16) → mH D E (mA E h q sz) s.heap h q I128 J128 B128 G128 H locs → rS [14, 18] [12, 13, 15, 16, 17, 19, 20, 21, 56] I B I128 B128 → lv_has ls 8 [(0, .ref h), (2, .int (iI a2)), (5, .ref ((q 56))), (6, .int (iI z111)), (7, .int (iI z129))] → W p l e (mR 5 155) s m AV below meth c H locs 0 0 QQ (F0 m 63 ls []) := by
                intro n132
                induction n132 using Nat.strongRecOn with
                | ind n132 ih131 =>
                  intro z129 I128 J128 B128 G128 H locs ls hm133 l129 u129 Y S hl
                  refine lv_iload X.1 X.2.1 d_M_derive_63 (lv_at hl 4 rfl) ?_
                  refine lv_bipush (v := iI 16) X.1 X.2.1 d_M_derive_65 (by decide) ?_
                  refine z_icmp_ge (tgt := 94) X.1 X.2.1 d_M_derive_67 (by decide) ⟨by omega, by omega⟩ ⟨by omega, by omega⟩ (fun h134 => ?_) (fun h134 => ?_)
                  · refine lv_iinc (v := iI (z111 + 16)) (lv' := [(6, .int (iI (z111 + 16))), (0, .ref h), (2, .int (iI a2)), (5, .ref ((q 56))), (7, .int (iI z129))]) X.1 X.2.1 d_M_derive_94 hl (k := 3) rfl ((iI_add _ _).trans (congrArg iI (by omega))) (by decide) rfl (fun ls hl => ?_)
                    refine lv_goto (tgt := 50) X.1 X.2.1 d_M_derive_97 (by decide) ?_
                    exact ih114 ((47 - (z111 + 16)).toNat) (by omega) (z111 + 16) I128 J128 B128 G128 _ _ _ rfl (by omega) (by omega) (by omega) Y S (lv_sub hl [1, 2, 3, 0] rfl)
                  · refine lv_aload_n X.1 X.2.1 d_M_derive_70 rfl (lv_at hl 0 rfl) ?_
                    refine m_get X Y 20 (by decide) lk_derived (gf_derived _ _ _) rfl d_M_derive_71 ?_
                    refine lv_iload X.1 X.2.1 d_M_derive_74 (lv_at hl 3 rfl) ?_
                    refine lv_iload X.1 X.2.1 d_M_derive_76 (lv_at hl 4 rfl) ?_
                    refine z_iadd X.1 X.2.1 d_M_derive_78 ?_
                    refine lv_aload_n X.1 X.2.1 d_M_derive_79 rfl (lv_at hl 0 rfl) ?_
                    refine m_get X Y 16 (by decide) lk_state (gf_state _ _ _) rfl d_M_derive_80 ?_
                    refine lv_iload X.1 X.2.1 d_M_derive_83 (lv_at hl 4 rfl) ?_
                    refine r_iald X Y S (aw_state _ _ _ _ _ _ _) rfl (by omega) (show z129 < ((16 : Nat) : Int) by omega) (by omega) d_M_derive_85 (fun z135 q135 l135 u135 => ?_)
                    refine lv_i2b X.1 X.2.1 d_M_derive_86 rfl ?_
                    refine t_u (fun z136 l136 u136 => ?_)
                    refine r_bast X Y S (aw_derived _ _ _ _ _ _ _) (sw_derived _ _ _ _ _ _ _) rfl (by omega) (show z111 + z129 < ((32 : Nat) : Int) by omega) (by omega) (by decide) d_M_derive_87 (fun B137 H locs Y S w137 => ?_)
                    refine lv_iinc (v := iI (z129 + 1)) (lv' := [(7, .int (iI (z129 + 1))), (0, .ref h), (2, .int (iI a2)), (5, .ref ((q 56))), (6, .int (iI z111))]) X.1 X.2.1 d_M_derive_88 hl (k := 4) rfl ((iI_add _ _).trans (congrArg iI (by omega))) (by decide) rfl (fun ls hl => ?_)
                    refine lv_goto (tgt := 63) X.1 X.2.1 d_M_derive_91 (by decide) ?_
                    exact ih131 ((16 - (z129 + 1)).toNat) (by omega) (z129 + 1) I128 J128 B137 G128 _ _ _ rfl (by omega) (by omega) Y S (lv_sub hl [1, 2, 3, 4, 0] rfl)
              refine lv_istore (lv' := [(7, .int (iI 0)), (0, .ref h), (2, .int (iI a2)), (5, .ref ((q 56))), (6, .int (iI z111))]) X.1 X.2.1 d_M_derive_61 hl (by decide) rfl (fun ls hl => ?_)
              exact J130 _ 0 I127 J127 B127 G127 _ _ _ rfl (by omega) (by omega) Y S (lv_sub hl [1, 2, 3, 4, 0] rfl)
        refine lv_istore (lv' := [(6, .int (iI 0)), (0, .ref h), (2, .int (iI a2)), (5, .ref ((q 56)))]) X.1 X.2.1 d_M_derive_48 hl (by decide) rfl (fun ls hl => ?_)
        exact J113 _ 0 I103 J103 B103 G103 _ _ _ rfl (by omega) (by omega) (by omega) Y S (lv_sub hl [1, 2, 3, 0] rfl)
      · refine lv_aload_n X.1 X.2.1 d_M_derive_23 rfl (lv_at hl 0 rfl) ?_
        refine m_get X Y 16 (by decide) lk_state (gf_state _ _ _) rfl d_M_derive_24 ?_
        refine lv_iload X.1 X.2.1 d_M_derive_27 (lv_at hl 3 rfl) ?_
        refine lv_aload_n X.1 X.2.1 d_M_derive_29 rfl (lv_at hl 0 rfl) ?_
        refine m_get X Y 19 (by decide) lk_fold (gf_fold _ _ _) rfl d_M_derive_30 ?_
        refine lv_iload X.1 X.2.1 d_M_derive_33 (lv_at hl 3 rfl) ?_
        refine r_bald X Y S (aw_fold _ _ _ _ _ _ _) rfl (by omega) (show z104 < ((16 : Nat) : Int) by omega) (by omega) d_M_derive_35 (fun z138 q138 l138 u138 => ?_)
        refine lv_sipush (v := iI 255) X.1 X.2.1 d_M_derive_36 (by decide) ?_
        refine z_iand X.1 X.2.1 (by omega) (by omega) d_M_derive_39 (fun z139 l139 u139 => ?_)
        refine r_iast X Y S (aw_state _ _ _ _ _ _ _) (sw_state _ _ _ _ _ _ _) rfl ⟨(show (0 : Int) ≤ z139 by omega), (show z139 ≤ (255 : Int) by omega)⟩ ⟨by omega, by omega⟩ (by omega) (show z104 < ((16 : Nat) : Int) by omega) (by omega) (by decide) d_M_derive_40 (fun B140 H locs Y S w140 => ?_)
        refine lv_iinc (v := iI (z104 + 1)) (lv' := [(6, .int (iI (z104 + 1))), (0, .ref h), (2, .int (iI a2)), (5, .ref ((q 56)))]) X.1 X.2.1 d_M_derive_41 hl (k := 3) rfl ((iI_add _ _).trans (congrArg iI (by omega))) (by decide) rfl (fun ls hl => ?_)
        refine lv_goto (tgt := 16) X.1 X.2.1 d_M_derive_44 (by decide) ?_
        exact ih106 ((16 - (z104 + 1)).toNat) (by omega) (z104 + 1) I103 J103 B140 G103 _ _ _ rfl (by omega) (by omega) Y S (lv_sub hl [1, 2, 3, 0] rfl)
  refine lv_istore (lv' := [(6, .int (iI 0)), (0, .ref h), (1, .ref ((q 27))), (2, .int (iI a2)), (3, .ref ((q 28))), (4, .int (iI 8)), (5, .ref ((q 56)))]) X.1 X.2.1 d_M_derive_14 hl (by decide) rfl (fun ls hl => ?_)
  exact J105 _ 0 I102 J102 B102 G102 _ _ _ rfl (by omega) (by omega) Y S (lv_sub hl [1, 3, 6, 0] rfl)
set_option maxHeartbeats 4000000 in
set_option maxRecDepth 100000 in
theorem r_M_passwordKey_made (l : Launch) (D : mD) (E : mE) (h : Nat) (q : Nat → Nat) (sz : Nat) (I : Nat → Int32) (J : Nat → Int64) (B : Nat → Nat → Int32) (G : Nat → Nat → Int64) (a1 : Int) (l_a1 : 16 ≤ a1) (u_a1 : a1 ≤ 32) (a2 : Int) (l_a2 : (-2147483648) ≤ a2) (u_a2 : a2 ≤ 2147483647) (hT : rT I B) (pn : Int) (gpn : I 30 = iI pn) (lpn : 0 ≤ pn) (upn : pn ≤ 30) : Met l y_M_passwordKey (k_M_passwordKey :: lw_tg) (mR 6 182) (va_Pc [.ref h, .int (iI a1), .int (iI a2), .ref (q 56)] (mPre D E h q (I, J, B, G) sz)) (va_Qv (rPv [8, 14, 18] [5, 6, 7, 9, 10, 11, 12, 13, 15, 16, 17, 19, 20, 21, 26, 27, 56] I B (fun (u : mS) => True)) (mPost D E h q (mA E h q sz)) (mA E h q sz)) 0 0 (mA E h q sz) := by
  refine m_enter (by decide) rfl (Nat.le_of_ble_eq_true rfl) (fun p e s m below meth c ls AV QQ H locs hQQ X Y hZ hA hr hlk hml hl => ?_)
  have Y : mH D E (mA E h q sz) s.heap h q I J B G H locs := Y
  have S : rS [8, 14, 18] [5, 6, 7, 9, 10, 11, 12, 13, 15, 16, 17, 19, 20, 21, 26, 27, 56] I B I B := rS_rf hT
  have hl : lv_has ls 7 [(0, .ref h), (1, .int (iI a1)), (2, .int (iI a2)), (3, .ref ((q 56)))] := hl
  refine lv_iconst (v := iI 0) X.1 X.2.1 d_M_passwordKey_0 (by decide) ?_
  have J104 : ∀ (n106 : Nat) (z102 : Int) (I101 : Nat → Int32) (J101 : Nat → Int64) (B101 : Nat → Nat → Int32) (G101 : Nat → Nat → Int64) (H : Heap) (locs : List Loc) (ls : Array Slot), (2 - z102).toNat = n106 → (0 ≤ z102) → (z102 ≤ 2) → (I101 30 = iI pn) → mH D E (mA E h q sz) s.heap h q I101 J101 B101 G101 H locs → rS [8, 14, 18] [5, 6, 7, 9, 10, 11, 12, 13, 15, 16, 17, 19, 20, 21, 26, 27, 56] I B I101 B101 → lv_has ls 7 [(0, .ref h), (1, .int (iI a1)), (2, .int (iI a2)), (3, .ref ((q 56))), (4, .int (iI z102))] → W p l e (mR 6 182) s m AV below meth c H locs 0 0 QQ (F0 m 3 ls []) := by
    intro n106
    induction n106 using Nat.strongRecOn with
    | ind n106 ih105 =>
      intro z102 I101 J101 B101 G101 H locs ls hm107 l102 u102 e103 Y S hl
      refine lv_bipush (v := iI 20) X.1 X.2.1 d_M_passwordKey_3 (by decide) ?_
      refine lv_iload X.1 X.2.1 d_M_passwordKey_5 (lv_at hl 4 rfl) ?_
      refine z_imul X.1 X.2.1 d_M_passwordKey_7 ?_
      refine lv_iload_n X.1 X.2.1 d_M_passwordKey_8 rfl (lv_at hl 1 rfl) ?_
      refine z_icmp_ge (tgt := 250) X.1 X.2.1 d_M_passwordKey_9 (by decide) ⟨by omega, by omega⟩ ⟨by omega, by omega⟩ (fun h108 => ?_) (fun h108 => ?_)
      · refine lv_aload_n X.1 X.2.1 d_M_passwordKey_250 rfl (lv_at hl 0 rfl) ?_
        refine lv_aload_n X.1 X.2.1 d_M_passwordKey_251 rfl (lv_at hl 0 rfl) ?_
        refine m_get X Y 27 (by decide) lk_long0 (gf_long0 _ _ _) rfl d_M_passwordKey_252 ?_
        refine lv_iload_n X.1 X.2.1 d_M_passwordKey_255 rfl (lv_at hl 1 rfl) ?_
        refine lv_aload_n X.1 X.2.1 d_M_passwordKey_256 rfl (lv_at hl 0 rfl) ?_
        refine m_get X Y 28 (by decide) lk_kerberos (gf_kerberos _ _ _) rfl d_M_passwordKey_257 ?_
        refine lv_bipush (v := iI 8) X.1 X.2.1 d_M_passwordKey_260 (by decide) ?_
        refine lv_aload_n X.1 X.2.1 d_M_passwordKey_262 rfl (lv_at hl 3 rfl) ?_
        refine r_nv (m_run (As := [.ref ((q 27)), .int (iI a1), .ref ((q 28)), .int (iI 8), .ref ((q 56))]) (rest := []) (n := 5) X Y hZ hA hml hl.1 (r_M_derive_long0_kerberos_made l D E h q H.size I101 J101 B101 G101 a1 (by omega) (by omega) S.1) kl_M_derive ks_M_derive kx_M_derive ki_M_derive ini_M hd_M_derive ⟨Nat.le_of_ble_eq_true rfl, Nat.le_of_ble_eq_true rfl⟩ rfl (Nat.le_of_ble_eq_true rfl) d_M_passwordKey_263 ⟨Nat.le_refl _, Nat.le_refl _⟩) X Y hA S (by decide) (by decide) (fun u H locs Y S s109 p109 => ?_)
        obtain ⟨I109, J109, B109, G109⟩ := u
        dsimp only at Y S s109 p109
        exact m_retv hQQ X Y hr hlk ⟨S, trivial⟩ d_M_passwordKey_266
      · refine lv_aload_n X.1 X.2.1 d_M_passwordKey_12 rfl (lv_at hl 0 rfl) ?_
        refine lv_aload_n X.1 X.2.1 d_M_passwordKey_13 rfl (lv_at hl 0 rfl) ?_
        refine m_get X Y 25 (by decide) lk_password (gf_password _ _ _) rfl d_M_passwordKey_14 ?_
        refine lv_aload_n X.1 X.2.1 d_M_passwordKey_17 rfl (lv_at hl 0 rfl) ?_
        refine r_get0 X Y (by decide) lk_passwordMany (gf_passwordMany _ _ _) rfl e103 d_M_passwordKey_18 ?_
        refine r_nv (m_run (As := [.ref ((q 25)), .int (iI pn)]) (rest := []) (n := 2) X Y hZ hA hml hl.1 (r_M_macKey_password l D E h q H.size I101 J101 B101 G101 pn (by omega) (by omega) S.1) kl_M_macKey ks_M_macKey kx_M_macKey ki_M_macKey ini_M hd_M_macKey ⟨Nat.le_of_ble_eq_true rfl, Nat.le_of_ble_eq_true rfl⟩ rfl (Nat.le_of_ble_eq_true rfl) d_M_passwordKey_21 ⟨Nat.le_refl _, Nat.le_refl _⟩) X Y hA S (by decide) (by decide) (fun u H locs Y S s110 p110 => ?_)
        obtain ⟨I110, J110, B110, G110⟩ := u
        dsimp only at Y S s110 p110
        refine lv_aload_n X.1 X.2.1 d_M_passwordKey_24 rfl (lv_at hl 0 rfl) ?_
        refine r_nv (m_run (As := []) (rest := []) (n := 0) X Y hZ hA hml hl.1 (r_M_macBegin l D E h q H.size I110 J110 B110 G110 S.1) kl_M_macBegin ks_M_macBegin kx_M_macBegin ki_M_macBegin ini_M hd_M_macBegin ⟨Nat.le_of_ble_eq_true rfl, Nat.le_of_ble_eq_true rfl⟩ rfl (Nat.le_of_ble_eq_true rfl) d_M_passwordKey_25 ⟨Nat.le_refl _, Nat.le_refl _⟩) X Y hA S (by decide) (by decide) (fun u H locs Y S s111 p111 => ?_)
        obtain ⟨I111, J111, B111, G111⟩ := u
        dsimp only at Y S s111 p111
        have x111 := p111
        refine lv_iconst (v := iI 0) X.1 X.2.1 d_M_passwordKey_28 (by decide) ?_
        have J117 : ∀ (n119 : Nat) (z113 : Int) (z115 : Int) (I112 : Nat → Int32) (J112 : Nat → Int64) (B112 : Nat → Nat → Int32) (G112 : Nat → Nat → Int64) (H : Heap) (locs : List Loc) (ls : Array Slot), (60 - z113).toNat = n119 → (0 ≤ z113) → (z113 ≤ 60) → (I112 30 = iI pn) → (I112 8 = iI z115) → (0 ≤ z115) → (z115 ≤ 1000000) → (z115 = 64 + (z113 - 0)) → mH D E (mA E h q sz) s.heap h q I112 J112 B112 G112 H locs → rS [8, 14, 18] [5, 6, 7, 9, 10, 11, 12, 13, 15, 16, 17, 19, 20, 21, 26, 27, 56] I B I112 B112 → lv_has ls 7 [(0, .ref h), (1, .int (iI a1)), (2, .int (iI a2)), (3, .ref ((q 56))), (4, .int (iI z102)), (5, .int (iI z113))] → W p l e (mR 6 182) s m AV below meth c H locs 0 0 QQ (F0 m 31 ls []) := by
          intro n119
          induction n119 using Nat.strongRecOn with
          | ind n119 ih118 =>
            intro z113 z115 I112 J112 B112 G112 H locs ls hm120 l113 u113 e114 e115 l115 u115 i116 Y S hl
            refine lv_iload X.1 X.2.1 d_M_passwordKey_31 (lv_at hl 5 rfl) ?_
            refine lv_aload_n X.1 X.2.1 d_M_passwordKey_33 rfl (lv_at hl 0 rfl) ?_
            refine r_geti (k := 29) X Y S (by decide) lk_saltMany (gf_saltMany _ _ _) rfl rfl d_M_passwordKey_34 (fun z121 e121 l121 u121 => ?_)
            refine z_icmp_ge (tgt := 57) X.1 X.2.1 d_M_passwordKey_37 (by decide) ⟨by omega, by omega⟩ ⟨by omega, by omega⟩ (fun h122 => ?_) (fun h122 => ?_)
            · refine lv_iconst (v := iI 0) X.1 X.2.1 d_M_passwordKey_57 (by decide) ?_
              have J128 : ∀ (n130 : Nat) (z124 : Int) (z126 : Int) (I123 : Nat → Int32) (J123 : Nat → Int64) (B123 : Nat → Nat → Int32) (G123 : Nat → Nat → Int64) (H : Heap) (locs : List Loc) (ls : Array Slot), (4 - z124).toNat = n130 → (0 ≤ z124) → (z124 ≤ 4) → (I123 30 = iI pn) → (I123 8 = iI z126) → (0 ≤ z126) → (z126 ≤ 1000000) → (z126 = z115 + (z124 - 0)) → mH D E (mA E h q sz) s.heap h q I123 J123 B123 G123 H locs → rS [8, 14, 18] [5, 6, 7, 9, 10, 11, 12, 13, 15, 16, 17, 19, 20, 21, 26, 27, 56] I B I123 B123 → lv_has ls 7 [(0, .ref h), (1, .int (iI a1)), (2, .int (iI a2)), (3, .ref ((q 56))), (4, .int (iI z102)), (5, .int (iI z124))] → W p l e (mR 6 182) s m AV below meth c H locs 0 0 QQ (F0 m 60 ls []) := by
                intro n130
                induction n130 using Nat.strongRecOn with
                | ind n130 ih129 =>
                  intro z124 z126 I123 J123 B123 G123 H locs ls hm131 l124 u124 e125 e126 l126 u126 i127 Y S hl
                  refine lv_iload X.1 X.2.1 d_M_passwordKey_60 (lv_at hl 5 rfl) ?_
                  refine lv_iconst (v := iI 4) X.1 X.2.1 d_M_passwordKey_62 (by decide) ?_
                  refine z_icmp_ge (tgt := 90) X.1 X.2.1 d_M_passwordKey_63 (by decide) ⟨by omega, by omega⟩ ⟨by omega, by omega⟩ (fun h132 => ?_) (fun h132 => ?_)
                  · refine lv_aload_n X.1 X.2.1 d_M_passwordKey_90 rfl (lv_at hl 0 rfl) ?_
                    refine r_nv (m_run (As := []) (rest := []) (n := 0) X Y hZ hA hml hl.1 (r_M_macEnd l D E h q H.size I123 J123 B123 G123 S.1 z126 e126 (by omega) (by omega)) kl_M_macEnd ks_M_macEnd kx_M_macEnd ki_M_macEnd ini_M hd_M_macEnd ⟨Nat.le_of_ble_eq_true rfl, Nat.le_of_ble_eq_true rfl⟩ rfl (Nat.le_of_ble_eq_true rfl) d_M_passwordKey_91 ⟨Nat.le_refl _, Nat.le_refl _⟩) X Y hA S (by decide) (by decide) (fun u H locs Y S s133 p133 => ?_)
                    obtain ⟨I133, J133, B133, G133⟩ := u
                    dsimp only at Y S s133 p133
                    refine lv_iconst (v := iI 0) X.1 X.2.1 d_M_passwordKey_94 (by decide) ?_
                    have J137 : ∀ (n139 : Nat) (z135 : Int) (I134 : Nat → Int32) (J134 : Nat → Int64) (B134 : Nat → Nat → Int32) (G134 : Nat → Nat → Int64) (H : Heap) (locs : List Loc) (ls : Array Slot), (20 - z135).toNat = n139 → (0 ≤ z135) → (z135 ≤ 20) → (I134 30 = iI pn) → mH D E (mA E h q sz) s.heap h q I134 J134 B134 G134 H locs → rS [8, 14, 18] [5, 6, 7, 9, 10, 11, 12, 13, 15, 16, 17, 19, 20, 21, 26, 27, 56] I B I134 B134 → lv_has ls 7 [(0, .ref h), (1, .int (iI a1)), (2, .int (iI a2)), (3, .ref ((q 56))), (4, .int (iI z102)), (5, .int (iI z135))] → W p l e (mR 6 182) s m AV below meth c H locs 0 0 QQ (F0 m 97 ls []) := by
                      intro n139
                      induction n139 using Nat.strongRecOn with
                      | ind n139 ih138 =>
                        intro z135 I134 J134 B134 G134 H locs ls hm140 l135 u135 e136 Y S hl
                        refine lv_iload X.1 X.2.1 d_M_passwordKey_97 (lv_at hl 5 rfl) ?_
                        refine lv_bipush (v := iI 20) X.1 X.2.1 d_M_passwordKey_99 (by decide) ?_
                        refine z_icmp_ge (tgt := 124) X.1 X.2.1 d_M_passwordKey_101 (by decide) ⟨by omega, by omega⟩ ⟨by omega, by omega⟩ (fun h141 => ?_) (fun h141 => ?_)
                        · refine lv_iconst (v := iI 1) X.1 X.2.1 d_M_passwordKey_124 (by decide) ?_
                          have J145 : ∀ (n147 : Nat) (z143 : Int) (I142 : Nat → Int32) (J142 : Nat → Int64) (B142 : Nat → Nat → Int32) (G142 : Nat → Nat → Int64) (H : Heap) (locs : List Loc) (ls : Array Slot), (2147483647 - z143).toNat = n147 → (1 ≤ z143) → (z143 ≤ 2147483647) → (I142 30 = iI pn) → mH D E (mA E h q sz) s.heap h q I142 J142 B142 G142 H locs → rS [8, 14, 18] [5, 6, 7, 9, 10, 11, 12, 13, 15, 16, 17, 19, 20, 21, 26, 27, 56] I B I142 B142 → lv_has ls 7 [(0, .ref h), (1, .int (iI a1)), (2, .int (iI a2)), (3, .ref ((q 56))), (4, .int (iI z102)), (5, .int (iI z143))] → W p l e (mR 6 182) s m AV below meth c H locs 0 0 QQ (F0 m 127 ls []) := by
                            intro n147
                            induction n147 using Nat.strongRecOn with
                            | ind n147 ih146 =>
                              intro z143 I142 J142 B142 G142 H locs ls hm148 l143 u143 e144 Y S hl
                              refine lv_iload X.1 X.2.1 d_M_passwordKey_127 (lv_at hl 5 rfl) ?_
                              refine lv_iload_n X.1 X.2.1 d_M_passwordKey_129 rfl (lv_at hl 2 rfl) ?_
                              refine z_icmp_ge (tgt := 208) X.1 X.2.1 d_M_passwordKey_130 (by decide) ⟨by omega, by omega⟩ ⟨by omega, by omega⟩ (fun h149 => ?_) (fun h149 => ?_)
                              · refine lv_iconst (v := iI 0) X.1 X.2.1 d_M_passwordKey_208 (by decide) ?_
                                have J153 : ∀ (n155 : Nat) (z151 : Int) (I150 : Nat → Int32) (J150 : Nat → Int64) (B150 : Nat → Nat → Int32) (G150 : Nat → Nat → Int64) (H : Heap) (locs : List Loc) (ls : Array Slot), (20 - z151).toNat = n155 → (0 ≤ z151) → (z151 ≤ 20) → (I150 30 = iI pn) → mH D E (mA E h q sz) s.heap h q I150 J150 B150 G150 H locs → rS [8, 14, 18] [5, 6, 7, 9, 10, 11, 12, 13, 15, 16, 17, 19, 20, 21, 26, 27, 56] I B I150 B150 → lv_has ls 7 [(0, .ref h), (1, .int (iI a1)), (2, .int (iI a2)), (3, .ref ((q 56))), (4, .int (iI z102)), (5, .int (iI z151))] → W p l e (mR 6 182) s m AV below meth c H locs 0 0 QQ (F0 m 211 ls []) := by
                                  intro n155
                                  induction n155 using Nat.strongRecOn with
                                  | ind n155 ih154 =>
                                    intro z151 I150 J150 B150 G150 H locs ls hm156 l151 u151 e152 Y S hl
                                    refine lv_iload X.1 X.2.1 d_M_passwordKey_211 (lv_at hl 5 rfl) ?_
                                    refine lv_bipush (v := iI 20) X.1 X.2.1 d_M_passwordKey_213 (by decide) ?_
                                    refine z_icmp_ge (tgt := 244) X.1 X.2.1 d_M_passwordKey_215 (by decide) ⟨by omega, by omega⟩ ⟨by omega, by omega⟩ (fun h157 => ?_) (fun h157 => ?_)
                                    · refine lv_iinc (v := iI (z102 + 1)) (lv' := [(4, .int (iI (z102 + 1))), (0, .ref h), (1, .int (iI a1)), (2, .int (iI a2)), (3, .ref ((q 56))), (5, .int (iI z151))]) X.1 X.2.1 d_M_passwordKey_244 hl (k := 4) rfl ((iI_add _ _).trans (congrArg iI (by omega))) (by decide) rfl (fun ls hl => ?_)
                                      refine lv_goto (tgt := 3) X.1 X.2.1 d_M_passwordKey_247 (by decide) ?_
                                      exact ih105 ((2 - (z102 + 1)).toNat) (by omega) (z102 + 1) I150 J150 B150 G150 _ _ _ rfl (by omega) (by omega) e152 Y S (lv_sub hl [1, 2, 3, 4, 0] rfl)
                                    · refine lv_aload_n X.1 X.2.1 d_M_passwordKey_218 rfl (lv_at hl 0 rfl) ?_
                                      refine m_get X Y 27 (by decide) lk_long0 (gf_long0 _ _ _) rfl d_M_passwordKey_219 ?_
                                      refine lv_bipush (v := iI 20) X.1 X.2.1 d_M_passwordKey_222 (by decide) ?_
                                      refine lv_iload X.1 X.2.1 d_M_passwordKey_224 (lv_at hl 4 rfl) ?_
                                      refine z_imul X.1 X.2.1 d_M_passwordKey_226 ?_
                                      refine lv_iload X.1 X.2.1 d_M_passwordKey_227 (lv_at hl 5 rfl) ?_
                                      refine z_iadd X.1 X.2.1 d_M_passwordKey_229 ?_
                                      refine lv_aload_n X.1 X.2.1 d_M_passwordKey_230 rfl (lv_at hl 0 rfl) ?_
                                      refine m_get X Y 26 (by decide) lk_mixed (gf_mixed _ _ _) rfl d_M_passwordKey_231 ?_
                                      refine lv_iload X.1 X.2.1 d_M_passwordKey_234 (lv_at hl 5 rfl) ?_
                                      refine r_bald X Y S (aw_mixed _ _ _ _ _ _ _) rfl (by omega) (show z151 < ((20 : Nat) : Int) by omega) (by omega) d_M_passwordKey_236 (fun z158 q158 l158 u158 => ?_)
                                      refine r_bast X Y S (aw_long0 _ _ _ _ _ _ _) (sw_long0 _ _ _ _ _ _ _) rfl (by omega) (show (20 * z102) + z151 < ((40 : Nat) : Int) by omega) (by omega) (by decide) d_M_passwordKey_237 (fun B159 H locs Y S w159 => ?_)
                                      refine lv_iinc (v := iI (z151 + 1)) (lv' := [(5, .int (iI (z151 + 1))), (0, .ref h), (1, .int (iI a1)), (2, .int (iI a2)), (3, .ref ((q 56))), (4, .int (iI z102))]) X.1 X.2.1 d_M_passwordKey_238 hl (k := 5) rfl ((iI_add _ _).trans (congrArg iI (by omega))) (by decide) rfl (fun ls hl => ?_)
                                      refine lv_goto (tgt := 211) X.1 X.2.1 d_M_passwordKey_241 (by decide) ?_
                                      exact ih154 ((20 - (z151 + 1)).toNat) (by omega) (z151 + 1) I150 J150 B159 G150 _ _ _ rfl (by omega) (by omega) e152 Y S (lv_sub hl [1, 2, 3, 4, 5, 0] rfl)
                                refine lv_istore (lv' := [(5, .int (iI 0)), (0, .ref h), (1, .int (iI a1)), (2, .int (iI a2)), (3, .ref ((q 56))), (4, .int (iI z102))]) X.1 X.2.1 d_M_passwordKey_209 hl (by decide) rfl (fun ls hl => ?_)
                                exact J153 _ 0 I142 J142 B142 G142 _ _ _ rfl (by omega) (by omega) e144 Y S (lv_sub hl [1, 2, 3, 4, 5, 0] rfl)
                              · refine lv_aload_n X.1 X.2.1 d_M_passwordKey_133 rfl (lv_at hl 0 rfl) ?_
                                refine r_nv (m_run (As := []) (rest := []) (n := 0) X Y hZ hA hml hl.1 (r_M_macBegin l D E h q H.size I142 J142 B142 G142 S.1) kl_M_macBegin ks_M_macBegin kx_M_macBegin ki_M_macBegin ini_M hd_M_macBegin ⟨Nat.le_of_ble_eq_true rfl, Nat.le_of_ble_eq_true rfl⟩ rfl (Nat.le_of_ble_eq_true rfl) d_M_passwordKey_134 ⟨Nat.le_refl _, Nat.le_refl _⟩) X Y hA S (by decide) (by decide) (fun u H locs Y S s160 p160 => ?_)
                                obtain ⟨I160, J160, B160, G160⟩ := u
                                dsimp only at Y S s160 p160
                                have x160 := p160
                                refine lv_iconst (v := iI 0) X.1 X.2.1 d_M_passwordKey_137 (by decide) ?_
                                have J166 : ∀ (n168 : Nat) (z162 : Int) (z164 : Int) (I161 : Nat → Int32) (J161 : Nat → Int64) (B161 : Nat → Nat → Int32) (G161 : Nat → Nat → Int64) (H : Heap) (locs : List Loc) (ls : Array Slot), (20 - z162).toNat = n168 → (0 ≤ z162) → (z162 ≤ 20) → (I161 30 = iI pn) → (I161 8 = iI z164) → (0 ≤ z164) → (z164 ≤ 1000000) → (z164 = 64 + (z162 - 0)) → mH D E (mA E h q sz) s.heap h q I161 J161 B161 G161 H locs → rS [8, 14, 18] [5, 6, 7, 9, 10, 11, 12, 13, 15, 16, 17, 19, 20, 21, 26, 27, 56] I B I161 B161 → lv_has ls 7 [(0, .ref h), (1, .int (iI a1)), (2, .int (iI a2)), (3, .ref ((q 56))), (4, .int (iI z102)), (5, .int (iI z143)), (6, .int (iI z162))] → W p l e (mR 6 182) s m AV below meth c H locs 0 0 QQ (F0 m 140 ls []) := by
                                  intro n168
                                  induction n168 using Nat.strongRecOn with
                                  | ind n168 ih167 =>
                                    intro z162 z164 I161 J161 B161 G161 H locs ls hm169 l162 u162 e163 e164 l164 u164 i165 Y S hl
                                    refine lv_iload X.1 X.2.1 d_M_passwordKey_140 (lv_at hl 6 rfl) ?_
                                    refine lv_bipush (v := iI 20) X.1 X.2.1 d_M_passwordKey_142 (by decide) ?_
                                    refine z_icmp_ge (tgt := 164) X.1 X.2.1 d_M_passwordKey_144 (by decide) ⟨by omega, by omega⟩ ⟨by omega, by omega⟩ (fun h170 => ?_) (fun h170 => ?_)
                                    · refine lv_aload_n X.1 X.2.1 d_M_passwordKey_164 rfl (lv_at hl 0 rfl) ?_
                                      refine r_nv (m_run (As := []) (rest := []) (n := 0) X Y hZ hA hml hl.1 (r_M_macEnd l D E h q H.size I161 J161 B161 G161 S.1 z164 e164 (by omega) (by omega)) kl_M_macEnd ks_M_macEnd kx_M_macEnd ki_M_macEnd ini_M hd_M_macEnd ⟨Nat.le_of_ble_eq_true rfl, Nat.le_of_ble_eq_true rfl⟩ rfl (Nat.le_of_ble_eq_true rfl) d_M_passwordKey_165 ⟨Nat.le_refl _, Nat.le_refl _⟩) X Y hA S (by decide) (by decide) (fun u H locs Y S s171 p171 => ?_)
                                      obtain ⟨I171, J171, B171, G171⟩ := u
                                      dsimp only at Y S s171 p171
                                      refine lv_iconst (v := iI 0) X.1 X.2.1 d_M_passwordKey_168 (by decide) ?_
                                      have J175 : ∀ (n177 : Nat) (z173 : Int) (I172 : Nat → Int32) (J172 : Nat → Int64) (B172 : Nat → Nat → Int32) (G172 : Nat → Nat → Int64) (H : Heap) (locs : List Loc) (ls : Array Slot), (20 - z173).toNat = n177 → (0 ≤ z173) → (z173 ≤ 20) → (I172 30 = iI pn) → mH D E (mA E h q sz) s.heap h q I172 J172 B172 G172 H locs → rS [8, 14, 18] [5, 6, 7, 9, 10, 11, 12, 13, 15, 16, 17, 19, 20, 21, 26, 27, 56] I B I172 B172 → lv_has ls 7 [(0, .ref h), (1, .int (iI a1)), (2, .int (iI a2)), (3, .ref ((q 56))), (4, .int (iI z102)), (5, .int (iI z143)), (6, .int (iI z173))] → W p l e (mR 6 182) s m AV below meth c H locs 0 0 QQ (F0 m 171 ls []) := by
                                        intro n177
                                        induction n177 using Nat.strongRecOn with
                                        | ind n177 ih176 =>
                                          intro z173 I172 J172 B172 G172 H locs ls hm178 l173 u173 e174 Y S hl
                                          refine lv_iload X.1 X.2.1 d_M_passwordKey_171 (lv_at hl 6 rfl) ?_
                                          refine lv_bipush (v := iI 20) X.1 X.2.1 d_M_passwordKey_173 (by decide) ?_
                                          refine z_icmp_ge (tgt := 202) X.1 X.2.1 d_M_passwordKey_175 (by decide) ⟨by omega, by omega⟩ ⟨by omega, by omega⟩ (fun h179 => ?_) (fun h179 => ?_)
                                          · refine lv_iinc (v := iI (z143 + 1)) (lv' := [(5, .int (iI (z143 + 1))), (0, .ref h), (1, .int (iI a1)), (2, .int (iI a2)), (3, .ref ((q 56))), (4, .int (iI z102)), (6, .int (iI z173))]) X.1 X.2.1 d_M_passwordKey_202 hl (k := 5) rfl ((iI_add _ _).trans (congrArg iI (by omega))) (by decide) rfl (fun ls hl => ?_)
                                            refine lv_goto (tgt := 127) X.1 X.2.1 d_M_passwordKey_205 (by decide) ?_
                                            exact ih146 ((2147483647 - (z143 + 1)).toNat) (by omega) (z143 + 1) I172 J172 B172 G172 _ _ _ rfl (by omega) (by omega) e174 Y S (lv_sub hl [1, 2, 3, 4, 5, 0] rfl)
                                          · refine lv_aload_n X.1 X.2.1 d_M_passwordKey_178 rfl (lv_at hl 0 rfl) ?_
                                            refine m_get X Y 26 (by decide) lk_mixed (gf_mixed _ _ _) rfl d_M_passwordKey_179 ?_
                                            refine lv_iload X.1 X.2.1 d_M_passwordKey_182 (lv_at hl 6 rfl) ?_
                                            refine lv_dup2_11 X.1 X.2.1 d_M_passwordKey_184 rfl rfl ?_
                                            refine r_bald X Y S (aw_mixed _ _ _ _ _ _ _) rfl (by omega) (show z173 < ((20 : Nat) : Int) by omega) (by omega) d_M_passwordKey_185 (fun z180 q180 l180 u180 => ?_)
                                            refine lv_aload_n X.1 X.2.1 d_M_passwordKey_186 rfl (lv_at hl 0 rfl) ?_
                                            refine m_get X Y 10 (by decide) lk_mac (gf_mac _ _ _) rfl d_M_passwordKey_187 ?_
                                            refine lv_iload X.1 X.2.1 d_M_passwordKey_190 (lv_at hl 6 rfl) ?_
                                            refine r_bald X Y S (aw_mac _ _ _ _ _ _ _) rfl (by omega) (show z173 < ((20 : Nat) : Int) by omega) (by omega) d_M_passwordKey_192 (fun z181 q181 l181 u181 => ?_)
                                            refine lv_ixor X.1 X.2.1 d_M_passwordKey_193 ?_
                                            refine t_u (fun z182 l182 u182 => ?_)
                                            refine lv_i2b X.1 X.2.1 d_M_passwordKey_194 rfl ?_
                                            refine t_u (fun z183 l183 u183 => ?_)
                                            refine r_bast X Y S (aw_mixed _ _ _ _ _ _ _) (sw_mixed _ _ _ _ _ _ _) rfl (by omega) (show z173 < ((20 : Nat) : Int) by omega) (by omega) (by decide) d_M_passwordKey_195 (fun B184 H locs Y S w184 => ?_)
                                            refine lv_iinc (v := iI (z173 + 1)) (lv' := [(6, .int (iI (z173 + 1))), (0, .ref h), (1, .int (iI a1)), (2, .int (iI a2)), (3, .ref ((q 56))), (4, .int (iI z102)), (5, .int (iI z143))]) X.1 X.2.1 d_M_passwordKey_196 hl (k := 6) rfl ((iI_add _ _).trans (congrArg iI (by omega))) (by decide) rfl (fun ls hl => ?_)
                                            refine lv_goto (tgt := 171) X.1 X.2.1 d_M_passwordKey_199 (by decide) ?_
                                            exact ih176 ((20 - (z173 + 1)).toNat) (by omega) (z173 + 1) I172 J172 B184 G172 _ _ _ rfl (by omega) (by omega) e174 Y S (lv_sub hl [1, 2, 3, 4, 5, 6, 0] rfl)
                                      refine lv_istore (lv' := [(6, .int (iI 0)), (0, .ref h), (1, .int (iI a1)), (2, .int (iI a2)), (3, .ref ((q 56))), (4, .int (iI z102)), (5, .int (iI z143))]) X.1 X.2.1 d_M_passwordKey_169 hl (by decide) rfl (fun ls hl => ?_)
                                      exact J175 _ 0 I171 J171 B171 G171 _ _ _ rfl (by omega) (by omega) ((s171.2.1 30 (by decide)).trans e163) Y S (lv_sub hl [1, 2, 3, 4, 5, 6, 0] rfl)
                                    · refine lv_aload_n X.1 X.2.1 d_M_passwordKey_147 rfl (lv_at hl 0 rfl) ?_
                                      refine lv_aload_n X.1 X.2.1 d_M_passwordKey_148 rfl (lv_at hl 0 rfl) ?_
                                      refine m_get X Y 10 (by decide) lk_mac (gf_mac _ _ _) rfl d_M_passwordKey_149 ?_
                                      refine lv_iload X.1 X.2.1 d_M_passwordKey_152 (lv_at hl 6 rfl) ?_
                                      refine r_bald X Y S (aw_mac _ _ _ _ _ _ _) rfl (by omega) (show z162 < ((20 : Nat) : Int) by omega) (by omega) d_M_passwordKey_154 (fun z185 q185 l185 u185 => ?_)
                                      refine r_nv (m_run (As := [.int (iI z185)]) (rest := []) (n := 1) X Y hZ hA hml hl.1 (r_M_hash l D E h q H.size I161 J161 B161 G161 z185 (by omega) (by omega) S.1 z164 e164 (by omega) (by omega)) kl_M_hash ks_M_hash kx_M_hash ki_M_hash ini_M hd_M_hash ⟨Nat.le_of_ble_eq_true rfl, Nat.le_of_ble_eq_true rfl⟩ rfl (Nat.le_of_ble_eq_true rfl) d_M_passwordKey_155 ⟨Nat.le_refl _, Nat.le_refl _⟩) X Y hA S (by decide) (by decide) (fun u H locs Y S s186 p186 => ?_)
                                      obtain ⟨I186, J186, B186, G186⟩ := u
                                      dsimp only at Y S s186 p186
                                      have x186 := p186
                                      refine lv_iinc (v := iI (z162 + 1)) (lv' := [(6, .int (iI (z162 + 1))), (0, .ref h), (1, .int (iI a1)), (2, .int (iI a2)), (3, .ref ((q 56))), (4, .int (iI z102)), (5, .int (iI z143))]) X.1 X.2.1 d_M_passwordKey_158 hl (k := 6) rfl ((iI_add _ _).trans (congrArg iI (by omega))) (by decide) rfl (fun ls hl => ?_)
                                      refine lv_goto (tgt := 140) X.1 X.2.1 d_M_passwordKey_161 (by decide) ?_
                                      exact ih167 ((20 - (z162 + 1)).toNat) (by omega) (z162 + 1) (z164 + 1) I186 J186 B186 G186 _ _ _ rfl (by omega) (by omega) ((s186.2.1 30 (by decide)).trans e163) (x186.trans (congrArg iI (show (z164 + 1 : Int) = z164 + 1 by omega))) (by omega) (by omega) (by omega) Y S (lv_sub hl [1, 2, 3, 4, 5, 6, 0] rfl)
                                refine lv_istore (lv' := [(6, .int (iI 0)), (0, .ref h), (1, .int (iI a1)), (2, .int (iI a2)), (3, .ref ((q 56))), (4, .int (iI z102)), (5, .int (iI z143))]) X.1 X.2.1 d_M_passwordKey_138 hl (by decide) rfl (fun ls hl => ?_)
                                exact J166 _ 0 64 I160 J160 B160 G160 _ _ _ rfl (by omega) (by omega) ((s160.2.1 30 (by decide)).trans e144) (x160.trans (congrArg iI (show (64 : Int) = 64 by omega))) (by omega) (by omega) (by omega) Y S (lv_sub hl [1, 2, 3, 4, 5, 6, 0] rfl)
                          refine lv_istore (lv' := [(5, .int (iI 1)), (0, .ref h), (1, .int (iI a1)), (2, .int (iI a2)), (3, .ref ((q 56))), (4, .int (iI z102))]) X.1 X.2.1 d_M_passwordKey_125 hl (by decide) rfl (fun ls hl => ?_)
                          exact J145 _ 1 I134 J134 B134 G134 _ _ _ rfl (by omega) (by omega) e136 Y S (lv_sub hl [1, 2, 3, 4, 5, 0] rfl)
                        · refine lv_aload_n X.1 X.2.1 d_M_passwordKey_104 rfl (lv_at hl 0 rfl) ?_
                          refine m_get X Y 26 (by decide) lk_mixed (gf_mixed _ _ _) rfl d_M_passwordKey_105 ?_
                          refine lv_iload X.1 X.2.1 d_M_passwordKey_108 (lv_at hl 5 rfl) ?_
                          refine lv_aload_n X.1 X.2.1 d_M_passwordKey_110 rfl (lv_at hl 0 rfl) ?_
                          refine m_get X Y 10 (by decide) lk_mac (gf_mac _ _ _) rfl d_M_passwordKey_111 ?_
                          refine lv_iload X.1 X.2.1 d_M_passwordKey_114 (lv_at hl 5 rfl) ?_
                          refine r_bald X Y S (aw_mac _ _ _ _ _ _ _) rfl (by omega) (show z135 < ((20 : Nat) : Int) by omega) (by omega) d_M_passwordKey_116 (fun z187 q187 l187 u187 => ?_)
                          refine r_bast X Y S (aw_mixed _ _ _ _ _ _ _) (sw_mixed _ _ _ _ _ _ _) rfl (by omega) (show z135 < ((20 : Nat) : Int) by omega) (by omega) (by decide) d_M_passwordKey_117 (fun B188 H locs Y S w188 => ?_)
                          refine lv_iinc (v := iI (z135 + 1)) (lv' := [(5, .int (iI (z135 + 1))), (0, .ref h), (1, .int (iI a1)), (2, .int (iI a2)), (3, .ref ((q 56))), (4, .int (iI z102))]) X.1 X.2.1 d_M_passwordKey_118 hl (k := 5) rfl ((iI_add _ _).trans (congrArg iI (by omega))) (by decide) rfl (fun ls hl => ?_)
                          refine lv_goto (tgt := 97) X.1 X.2.1 d_M_passwordKey_121 (by decide) ?_
                          exact ih138 ((20 - (z135 + 1)).toNat) (by omega) (z135 + 1) I134 J134 B188 G134 _ _ _ rfl (by omega) (by omega) e136 Y S (lv_sub hl [1, 2, 3, 4, 5, 0] rfl)
                    refine lv_istore (lv' := [(5, .int (iI 0)), (0, .ref h), (1, .int (iI a1)), (2, .int (iI a2)), (3, .ref ((q 56))), (4, .int (iI z102))]) X.1 X.2.1 d_M_passwordKey_95 hl (by decide) rfl (fun ls hl => ?_)
                    exact J137 _ 0 I133 J133 B133 G133 _ _ _ rfl (by omega) (by omega) ((s133.2.1 30 (by decide)).trans e125) Y S (lv_sub hl [1, 2, 3, 4, 5, 0] rfl)
                  · refine lv_aload_n X.1 X.2.1 d_M_passwordKey_66 rfl (lv_at hl 0 rfl) ?_
                    refine lv_iload X.1 X.2.1 d_M_passwordKey_67 (lv_at hl 5 rfl) ?_
                    refine lv_iconst (v := iI 3) X.1 X.2.1 d_M_passwordKey_69 (by decide) ?_
                    have J190 : ∀ (z189 : Int) (H : Heap) (locs : List Loc) (ls : Array Slot), (0 ≤ z189) → (z189 ≤ 3) → mH D E (mA E h q sz) s.heap h q I123 J123 B123 G123 H locs → rS [8, 14, 18] [5, 6, 7, 9, 10, 11, 12, 13, 15, 16, 17, 19, 20, 21, 26, 27, 56] I B I123 B123 → lv_has ls 7 [(0, .ref h), (1, .int (iI a1)), (2, .int (iI a2)), (3, .ref ((q 56))), (4, .int (iI z102)), (5, .int (iI z124))] → W p l e (mR 6 182) s m AV below meth c H locs 0 0 QQ (F0 m 81 ls [.int (iI z189), .ref h]) := by
                      intro z189 H locs ls l189 u189 Y S hl
                      refine r_nv (m_run (As := [.int (iI z189)]) (rest := []) (n := 1) X Y hZ hA hml hl.1 (r_M_hash l D E h q H.size I123 J123 B123 G123 z189 (by omega) (by omega) S.1 z126 e126 (by omega) (by omega)) kl_M_hash ks_M_hash kx_M_hash ki_M_hash ini_M hd_M_hash ⟨Nat.le_of_ble_eq_true rfl, Nat.le_of_ble_eq_true rfl⟩ rfl (Nat.le_of_ble_eq_true rfl) d_M_passwordKey_81 ⟨Nat.le_refl _, Nat.le_refl _⟩) X Y hA S (by decide) (by decide) (fun u H locs Y S s194 p194 => ?_)
                      obtain ⟨I194, J194, B194, G194⟩ := u
                      dsimp only at Y S s194 p194
                      have x194 := p194
                      refine lv_iinc (v := iI (z124 + 1)) (lv' := [(5, .int (iI (z124 + 1))), (0, .ref h), (1, .int (iI a1)), (2, .int (iI a2)), (3, .ref ((q 56))), (4, .int (iI z102))]) X.1 X.2.1 d_M_passwordKey_84 hl (k := 5) rfl ((iI_add _ _).trans (congrArg iI (by omega))) (by decide) rfl (fun ls hl => ?_)
                      refine lv_goto (tgt := 60) X.1 X.2.1 d_M_passwordKey_87 (by decide) ?_
                      exact ih129 ((4 - (z124 + 1)).toNat) (by omega) (z124 + 1) (z126 + 1) I194 J194 B194 G194 _ _ _ rfl (by omega) (by omega) ((s194.2.1 30 (by decide)).trans e125) (x194.trans (congrArg iI (show (z126 + 1 : Int) = z126 + 1 by omega))) (by omega) (by omega) (by omega) Y S (lv_sub hl [1, 2, 3, 4, 5, 0] rfl)
                    refine z_icmp_ne (tgt := 80) X.1 X.2.1 d_M_passwordKey_70 (by decide) ⟨by omega, by omega⟩ ⟨by omega, by omega⟩ (fun h195 => ?_) (fun h195 => ?_)
                    · refine lv_iconst (v := iI 0) X.1 X.2.1 d_M_passwordKey_80 (by decide) ?_
                      exact J190 0 _ _ _ (by omega) (by omega) Y S (lv_sub hl [0, 1, 2, 3, 4, 5] rfl)
                    · refine lv_iload X.1 X.2.1 d_M_passwordKey_73 (lv_at hl 4 rfl) ?_
                      refine lv_iconst (v := iI 1) X.1 X.2.1 d_M_passwordKey_75 (by decide) ?_
                      refine z_iadd X.1 X.2.1 d_M_passwordKey_76 ?_
                      refine lv_goto (tgt := 81) X.1 X.2.1 d_M_passwordKey_77 (by decide) ?_
                      exact J190 (z102 + 1) _ _ _ (by omega) (by omega) Y S (lv_sub hl [0, 1, 2, 3, 4, 5] rfl)
              refine lv_istore (lv' := [(5, .int (iI 0)), (0, .ref h), (1, .int (iI a1)), (2, .int (iI a2)), (3, .ref ((q 56))), (4, .int (iI z102))]) X.1 X.2.1 d_M_passwordKey_58 hl (by decide) rfl (fun ls hl => ?_)
              exact J128 _ 0 z115 I112 J112 B112 G112 _ _ _ rfl (by omega) (by omega) e114 e115 (by omega) (by omega) (by omega) Y S (lv_sub hl [1, 2, 3, 4, 5, 0] rfl)
            · refine lv_aload_n X.1 X.2.1 d_M_passwordKey_40 rfl (lv_at hl 0 rfl) ?_
              refine lv_aload_n X.1 X.2.1 d_M_passwordKey_41 rfl (lv_at hl 0 rfl) ?_
              refine m_get X Y 24 (by decide) lk_salt (gf_salt _ _ _) rfl d_M_passwordKey_42 ?_
              refine lv_iload X.1 X.2.1 d_M_passwordKey_45 (lv_at hl 5 rfl) ?_
              refine r_bald X Y S (aw_salt _ _ _ _ _ _ _) rfl (by omega) (show z113 < ((60 : Nat) : Int) by omega) (by omega) d_M_passwordKey_47 (fun z196 q196 l196 u196 => ?_)
              refine r_nv (m_run (As := [.int (iI z196)]) (rest := []) (n := 1) X Y hZ hA hml hl.1 (r_M_hash l D E h q H.size I112 J112 B112 G112 z196 (by omega) (by omega) S.1 z115 e115 (by omega) (by omega)) kl_M_hash ks_M_hash kx_M_hash ki_M_hash ini_M hd_M_hash ⟨Nat.le_of_ble_eq_true rfl, Nat.le_of_ble_eq_true rfl⟩ rfl (Nat.le_of_ble_eq_true rfl) d_M_passwordKey_48 ⟨Nat.le_refl _, Nat.le_refl _⟩) X Y hA S (by decide) (by decide) (fun u H locs Y S s197 p197 => ?_)
              obtain ⟨I197, J197, B197, G197⟩ := u
              dsimp only at Y S s197 p197
              have x197 := p197
              refine lv_iinc (v := iI (z113 + 1)) (lv' := [(5, .int (iI (z113 + 1))), (0, .ref h), (1, .int (iI a1)), (2, .int (iI a2)), (3, .ref ((q 56))), (4, .int (iI z102))]) X.1 X.2.1 d_M_passwordKey_51 hl (k := 5) rfl ((iI_add _ _).trans (congrArg iI (by omega))) (by decide) rfl (fun ls hl => ?_)
              refine lv_goto (tgt := 31) X.1 X.2.1 d_M_passwordKey_54 (by decide) ?_
              exact ih118 ((60 - (z113 + 1)).toNat) (by omega) (z113 + 1) (z115 + 1) I197 J197 B197 G197 _ _ _ rfl (by omega) (by omega) ((s197.2.1 30 (by decide)).trans e114) (x197.trans (congrArg iI (show (z115 + 1 : Int) = z115 + 1 by omega))) (by omega) (by omega) (by omega) Y S (lv_sub hl [1, 2, 3, 4, 5, 0] rfl)
        refine lv_istore (lv' := [(5, .int (iI 0)), (0, .ref h), (1, .int (iI a1)), (2, .int (iI a2)), (3, .ref ((q 56))), (4, .int (iI z102))]) X.1 X.2.1 d_M_passwordKey_29 hl (by decide) rfl (fun ls hl => ?_)
        exact J117 _ 0 64 I111 J111 B111 G111 _ _ _ rfl (by omega) (by omega) ((s111.2.1 30 (by decide)).trans ((s110.2.1 30 (by decide)).trans e103)) (x111.trans (congrArg iI (show (64 : Int) = 64 by omega))) (by omega) (by omega) (by omega) Y S (lv_sub hl [1, 2, 3, 4, 5, 0] rfl)
  refine lv_istore (lv' := [(4, .int (iI 0)), (0, .ref h), (1, .int (iI a1)), (2, .int (iI a2)), (3, .ref ((q 56)))]) X.1 X.2.1 d_M_passwordKey_1 hl (by decide) rfl (fun ls hl => ?_)
  exact J104 _ 0 I J B G _ _ _ rfl (by omega) (by omega) gpn Y S (lv_sub hl [1, 2, 3, 4, 0] rfl)
