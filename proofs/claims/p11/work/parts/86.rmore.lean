/-! Versions stay small; a side that is there. -/
section RLDC
variable {p : Program} {l : Launch} {e : Env} {R : Room} {s : State} {m : MethodId} {args : Array Value} {below : List Frame} {meth : Method} {c : Code} {H : Heap} {locs : List Loc} {cells slots : Nat} {Q : State → Prop} {cc : ByteArray} {pc : Nat} {ls : Array Slot} {rest : List Value} {D : mD} {E : mE}
theorem m_ldcSW {i : Nat} (X : mX p c cc args s m D E) (hi : i < nZ) {ix : Nat} (hix : zX.getD i 0 = ix) (hdg : decode cc pc = .ok (.ldc_w ix, 3)) (k : W p l e R s m args below meth c H locs cells slots Q (F0 m (pc + 3) ls (.ref (D.2.1 i) :: rest))) : W p l e R s m args below meth c H locs cells slots Q (F0 m pc ls rest) := by
  intro T hT XX
  obtain ⟨t, a1, b1⟩ := k T hT XX
  have hz := X.2.2.2.2.2 i hi
  rw [hix] at hz
  exact ⟨t, XX.ldcStringW X.1 X.2.2.2.1 (text := zT.getD i "") (a := D.2.1 i) hz.1 hz.2 (g := F0 m pc ls rest) rfl (by rw [X.2.1]; exact hdg) t a1, b1⟩
end RLDC
def vB (v : Int) (b : Nat → Int32) : Prop := ∀ p : Nat, p < 12 → (b p).toInt ≤ v
theorem vB_cg {v : Int} {b b' : Nat → Int32} (h : b' = b) (k : vB v b) : vB v b' := by rw [h]; exact k
theorem vB_le {v w : Int} {b : Nat → Int32} (h : v ≤ w) (k : vB v b) : vB w b := fun p hp => Int.le_trans (k p hp) h
theorem vB_up {v x : Int} {b : Nat → Int32} {i : Nat} (k : vB v b) (hx : iR x) (h : x ≤ v) : vB v (upd b i (iI x)) := by
  intro p hp
  by_cases e : p = i
  · rw [e, pk_us, iI_toInt hx]; exact h
  · rw [pk_un e]; exact k p hp
def sA (n s : Int) (b : Nat → Int32) : Prop := s = 1 ∨ 0 ≤ (b n.toNat).toInt
theorem sA_cg {n s : Int} {b b' : Nat → Int32} (h : b' = b) (k : sA n s b) : sA n s b' := by rw [h]; exact k
set_option maxHeartbeats 4000000 in
set_option maxRecDepth 100000 in
theorem r_M_putBytes_fresh (l : Launch) (D : mD) (E : mE) (h : Nat) (q : Nat → Nat) (sz : Nat) (I : Nat → Int32) (J : Nat → Int64) (B : Nat → Nat → Int32) (G : Nat → Nat → Int64) (a2 : Int) (l_a2 : 0 ≤ a2) (u_a2 : a2 ≤ 32) (a3 : Int) (l_a3 : 0 ≤ a3) (u_a3 : a3 ≤ 32) (hT : rT I B) (wn : Int) (gwn : I 42 = iI wn) (lwn : 30000 ≤ wn) (uwn : wn ≤ 60000) (q0 : a2 + a3 ≤ 32) (q1 : 30000 + a3 ≤ wn) : Met l y_M_putBytes (k_M_putBytes :: lw_tg) (mR 2 81) (va_Pc [.ref h, .ref (q 60), .int (iI a2), .int (iI a3)] (mPre D E h q (I, J, B, G) sz)) (va_Qv (rPv [42] [0] I B (fun (u : mS) => (∃ V2 : Int, u.1 42 = iI V2 ∧ wn - (a3) ≤ V2 ∧ V2 ≤ wn) ∧ mmF 30000 60000 (B 0) (u.2.2.1 0))) (mPost D E h q (mA E h q sz)) (mA E h q sz)) 0 0 (mA E h q sz) := by
  refine m_enter (by decide) rfl (Nat.le_of_ble_eq_true rfl) (fun p e s m below meth c ls AV QQ H locs hQQ X Y hZ hA hr hlk hml hl => ?_)
  have Y : mH D E (mA E h q sz) s.heap h q I J B G H locs := Y
  have S : rS [42] [0] I B I B := rS_rf hT
  have hl : lv_has ls 5 [(0, .ref h), (1, .ref ((q 60))), (2, .int (iI a2)), (3, .int (iI a3))] := hl
  refine lv_iload_n X.1 X.2.1 d_M_putBytes_0 rfl (lv_at hl 3 rfl) ?_
  refine lv_iconst (v := iI 1) X.1 X.2.1 d_M_putBytes_1 (by decide) ?_
  refine z_isub X.1 X.2.1 d_M_putBytes_2 ?_
  have J107 : ∀ (n109 : Nat) (z102 : Int) (z104 : Int) (I101 : Nat → Int32) (J101 : Nat → Int64) (B101 : Nat → Nat → Int32) (G101 : Nat → Nat → Int64) (H : Heap) (locs : List Loc) (ls : Array Slot), (z102 - (-1)).toNat = n109 → ((-1) ≤ z102) → (z102 ≤ 31) → (mmF 30000 60000 (B 0) (B101 0)) → (I101 42 = iI z104) → (0 ≤ z104) → (z104 ≤ 60000) → (z104 = wn - (a3 - 1 - z102)) → (z102 ≤ a3 - 1) → mH D E (mA E h q sz) s.heap h q I101 J101 B101 G101 H locs → rS [42] [0] I B I101 B101 → lv_has ls 5 [(0, .ref h), (1, .ref ((q 60))), (2, .int (iI a2)), (4, .int (iI z102))] → W p l e (mR 2 81) s m AV below meth c H locs 0 0 QQ (F0 m 5 ls []) := by
    intro n109
    induction n109 using Nat.strongRecOn with
    | ind n109 ih108 =>
      intro z102 z104 I101 J101 B101 G101 H locs ls hm110 l102 u102 f103 e104 l104 u104 i105 i106 Y S hl
      refine lv_iload X.1 X.2.1 d_M_putBytes_5 (lv_at hl 3 rfl) ?_
      refine z_if_lt (tgt := 26) X.1 X.2.1 d_M_putBytes_7 (by decide) ⟨by omega, by omega⟩ (fun h111 => ?_) (fun h111 => ?_)
      · exact m_retv hQQ X Y hr hlk ⟨S, ⟨⟨z104, e104, by omega, by omega⟩, f103⟩⟩ d_M_putBytes_26
      · refine lv_aload_n X.1 X.2.1 d_M_putBytes_10 rfl (lv_at hl 0 rfl) ?_
        refine lv_aload_n X.1 X.2.1 d_M_putBytes_11 rfl (lv_at hl 1 rfl) ?_
        refine lv_iload_n X.1 X.2.1 d_M_putBytes_12 rfl (lv_at hl 2 rfl) ?_
        refine lv_iload X.1 X.2.1 d_M_putBytes_13 (lv_at hl 3 rfl) ?_
        refine z_iadd X.1 X.2.1 d_M_putBytes_15 ?_
        refine r_bald X Y S (aw_fresh _ _ _ _ _ _ _) rfl (by omega) (show a2 + z102 < ((32 : Nat) : Int) by omega) (by omega) d_M_putBytes_16 (fun z112 q112 l112 u112 => ?_)
        refine r_nv (m_run (As := [.int (iI z112)]) (rest := []) (n := 1) X Y hZ hA hml hl.1 (r_M_one l D E h q H.size I101 J101 B101 G101 z112 (by omega) (by omega) S.1 z104 e104 (by omega) (by omega)) kl_M_one ks_M_one kx_M_one ki_M_one ini_M hd_M_one ⟨Nat.le_of_ble_eq_true rfl, Nat.le_of_ble_eq_true rfl⟩ rfl (Nat.le_of_ble_eq_true rfl) d_M_putBytes_17 ⟨Nat.le_refl _, Nat.le_refl _⟩) X Y hA S (by decide) (by decide) (fun u H locs Y S s113 p113 => ?_)
        obtain ⟨I113, J113, B113, G113⟩ := u
        dsimp only at Y S s113 p113
        obtain ⟨x113, g113_MF⟩ := p113
        refine lv_iinc (v := iI (z102 - 1)) (lv' := [(4, .int (iI (z102 - 1))), (0, .ref h), (1, .ref ((q 60))), (2, .int (iI a2))]) X.1 X.2.1 d_M_putBytes_20 hl (k := 3) rfl ((iI_add _ _).trans (congrArg iI (by omega))) (by decide) rfl (fun ls hl => ?_)
        refine lv_goto (tgt := 5) X.1 X.2.1 d_M_putBytes_23 (by decide) ?_
        exact ih108 (((z102 - 1) - (-1)).toNat) (by omega) (z102 - 1) (z104 - 1) I113 J113 B113 G113 _ _ _ rfl (by omega) (by omega) (mmF_tr f103 g113_MF (by decide)) (x113.trans (congrArg iI (show (z104 - 1 : Int) = z104 - 1 by omega))) (by omega) (by omega) (by omega) (by omega) Y S (lv_sub hl [1, 2, 3, 0] rfl)
  refine lv_istore (lv' := [(4, .int (iI (a3 - 1))), (0, .ref h), (1, .ref ((q 60))), (2, .int (iI a2)), (3, .int (iI a3))]) X.1 X.2.1 d_M_putBytes_3 hl (by decide) rfl (fun ls hl => ?_)
  exact J107 _ (a3 - 1) wn I J B G _ _ _ rfl (by omega) (by omega) mmF_rf gwn (by omega) (by omega) (by omega) (by omega) Y S (lv_sub hl [1, 2, 3, 0] rfl)
set_option maxHeartbeats 4000000 in
set_option maxRecDepth 100000 in
theorem r_M_octetField_fresh (l : Launch) (D : mD) (E : mE) (h : Nat) (q : Nat → Nat) (sz : Nat) (I : Nat → Int32) (J : Nat → Int64) (B : Nat → Nat → Int32) (G : Nat → Nat → Int64) (a1 : Int) (l_a1 : (-2147483648) ≤ a1) (u_a1 : a1 ≤ 2147483647) (a3 : Int) (l_a3 : 0 ≤ a3) (u_a3 : a3 ≤ 32) (a4 : Int) (l_a4 : 0 ≤ a4) (u_a4 : a4 ≤ 32) (hT : rT I B) (wn : Int) (gwn : I 42 = iI wn) (lwn : 30100 ≤ wn) (uwn : wn ≤ 60000) (q0 : a3 + a4 ≤ 32) (q1 : 30100 + a4 ≤ wn) : Met l y_M_octetField (k_M_octetField :: lw_tg) (mR 4 128) (va_Pc [.ref h, .int (iI a1), .ref (q 60), .int (iI a3), .int (iI a4)] (mPre D E h q (I, J, B, G) sz)) (va_Qv (rPv [42] [0] I B (fun (u : mS) => (∃ V2 : Int, u.1 42 = iI V2 ∧ wn - (a4 + 8) ≤ V2 ∧ V2 ≤ wn) ∧ mmF 30000 60000 (B 0) (u.2.2.1 0))) (mPost D E h q (mA E h q sz)) (mA E h q sz)) 0 0 (mA E h q sz) := by
  refine m_enter (by decide) rfl (Nat.le_of_ble_eq_true rfl) (fun p e s m below meth c ls AV QQ H locs hQQ X Y hZ hA hr hlk hml hl => ?_)
  have Y : mH D E (mA E h q sz) s.heap h q I J B G H locs := Y
  have S : rS [42] [0] I B I B := rS_rf hT
  have hl : lv_has ls 6 [(0, .ref h), (1, .int (iI a1)), (2, .ref ((q 60))), (3, .int (iI a3)), (4, .int (iI a4))] := hl
  refine lv_aload_n X.1 X.2.1 d_M_octetField_0 rfl (lv_at hl 0 rfl) ?_
  refine r_get0 X Y (by decide) lk_w0 (gf_w0 _ _ _) rfl gwn d_M_octetField_1 ?_
  refine lv_istore (lv' := [(5, .int (iI wn)), (0, .ref h), (1, .int (iI a1)), (2, .ref ((q 60))), (3, .int (iI a3)), (4, .int (iI a4))]) X.1 X.2.1 d_M_octetField_4 hl (by decide) rfl (fun ls hl => ?_)
  refine lv_aload_n X.1 X.2.1 d_M_octetField_6 rfl (lv_at hl 1 rfl) ?_
  refine lv_aload_n X.1 X.2.1 d_M_octetField_7 rfl (lv_at hl 3 rfl) ?_
  refine lv_iload_n X.1 X.2.1 d_M_octetField_8 rfl (lv_at hl 4 rfl) ?_
  refine lv_iload X.1 X.2.1 d_M_octetField_9 (lv_at hl 5 rfl) ?_
  refine r_nv (m_run (As := [.ref ((q 60)), .int (iI a3), .int (iI a4)]) (rest := []) (n := 3) X Y hZ hA hml hl.1 (r_M_putBytes_fresh l D E h q H.size I J B G a3 (by omega) (by omega) a4 (by omega) (by omega) S.1 wn gwn (by omega) (by omega) (by omega) (by omega)) kl_M_putBytes ks_M_putBytes kx_M_putBytes ki_M_putBytes ini_M hd_M_putBytes ⟨Nat.le_of_ble_eq_true rfl, Nat.le_of_ble_eq_true rfl⟩ rfl (Nat.le_of_ble_eq_true rfl) d_M_octetField_11 ⟨Nat.le_refl _, Nat.le_refl _⟩) X Y hA S (by decide) (by decide) (fun u H locs Y S s101 p101 => ?_)
  obtain ⟨I101, J101, B101, G101⟩ := u
  dsimp only at Y S s101 p101
  obtain ⟨x101, g101_MF⟩ := p101
  obtain ⟨z102, e102, l102, u102⟩ := x101
  refine lv_aload_n X.1 X.2.1 d_M_octetField_14 rfl (lv_at hl 1 rfl) ?_
  refine lv_iconst (v := iI 4) X.1 X.2.1 d_M_octetField_15 (by decide) ?_
  refine lv_iload X.1 X.2.1 d_M_octetField_16 (lv_at hl 0 rfl) ?_
  refine r_nv (m_run (As := [.int (iI 4), .int (iI wn)]) (rest := []) (n := 2) X Y hZ hA hml hl.1 (r_M_head l D E h q H.size I101 J101 B101 G101 4 (by omega) (by omega) wn (by omega) (by omega) S.1 z102 e102 (by omega) (by omega)) kl_M_head ks_M_head kx_M_head ki_M_head ini_M hd_M_head ⟨Nat.le_of_ble_eq_true rfl, Nat.le_of_ble_eq_true rfl⟩ rfl (Nat.le_of_ble_eq_true rfl) d_M_octetField_18 ⟨Nat.le_refl _, Nat.le_refl _⟩) X Y hA S (by decide) (by decide) (fun u H locs Y S s103 p103 => ?_)
  obtain ⟨I103, J103, B103, G103⟩ := u
  dsimp only at Y S s103 p103
  obtain ⟨x103, g103_MF⟩ := p103
  obtain ⟨z104, e104, l104, u104⟩ := x103
  refine lv_aload_n X.1 X.2.1 d_M_octetField_21 rfl (lv_at hl 1 rfl) ?_
  refine lv_iload_n X.1 X.2.1 d_M_octetField_22 rfl (lv_at hl 2 rfl) ?_
  refine lv_iload X.1 X.2.1 d_M_octetField_23 (lv_at hl 0 rfl) ?_
  refine r_nv (m_run (As := [.int (iI a1), .int (iI wn)]) (rest := []) (n := 2) X Y hZ hA hml hl.1 (r_M_field l D E h q H.size I103 J103 B103 G103 a1 (by omega) (by omega) wn (by omega) (by omega) S.1 z104 e104 (by omega) (by omega)) kl_M_field ks_M_field kx_M_field ki_M_field ini_M hd_M_field ⟨Nat.le_of_ble_eq_true rfl, Nat.le_of_ble_eq_true rfl⟩ rfl (Nat.le_of_ble_eq_true rfl) d_M_octetField_25 ⟨Nat.le_refl _, Nat.le_refl _⟩) X Y hA S (by decide) (by decide) (fun u H locs Y S s105 p105 => ?_)
  obtain ⟨I105, J105, B105, G105⟩ := u
  dsimp only at Y S s105 p105
  obtain ⟨x105, g105_MF⟩ := p105
  obtain ⟨z106, e106, l106, u106⟩ := x105
  exact m_retv hQQ X Y hr hlk ⟨S, ⟨⟨z106, e106, by omega, by omega⟩, (mmF_tr (mmF_tr (mmF_tr mmF_rf g101_MF (by decide)) g103_MF (by decide)) g105_MF (by decide))⟩⟩ d_M_octetField_28
set_option maxHeartbeats 4000000 in
set_option maxRecDepth 100000 in
theorem r_M_keyField_fresh (l : Launch) (D : mD) (E : mE) (h : Nat) (q : Nat → Nat) (sz : Nat) (I : Nat → Int32) (J : Nat → Int64) (B : Nat → Nat → Int32) (G : Nat → Nat → Int64) (a1 : Int) (l_a1 : (-2147483648) ≤ a1) (u_a1 : a1 ≤ 2147483647) (a2 : Int) (l_a2 : (-2147483648) ≤ a2) (u_a2 : a2 ≤ 2147483647) (hT : rT I B) (wn : Int) (gwn : I 42 = iI wn) (lwn : 30400 ≤ wn) (uwn : wn ≤ 60000) : Met l y_M_keyField (k_M_keyField :: lw_tg) (mR 5 157) (va_Pc [.ref h, .int (iI a1), .int (iI a2), .ref (q 60)] (mPre D E h q (I, J, B, G) sz)) (va_Qv (rPv [42] [0] I B (fun (u : mS) => (∃ V2 : Int, u.1 42 = iI V2 ∧ wn - (70) ≤ V2 ∧ V2 ≤ wn) ∧ mmF 30000 60000 (B 0) (u.2.2.1 0))) (mPost D E h q (mA E h q sz)) (mA E h q sz)) 0 0 (mA E h q sz) := by
  refine m_enter (by decide) rfl (Nat.le_of_ble_eq_true rfl) (fun p e s m below meth c ls AV QQ H locs hQQ X Y hZ hA hr hlk hml hl => ?_)
  have Y : mH D E (mA E h q sz) s.heap h q I J B G H locs := Y
  have S : rS [42] [0] I B I B := rS_rf hT
  have hl : lv_has ls 5 [(0, .ref h), (1, .int (iI a1)), (2, .int (iI a2)), (3, .ref ((q 60)))] := hl
  refine lv_aload_n X.1 X.2.1 d_M_keyField_0 rfl (lv_at hl 0 rfl) ?_
  refine r_get0 X Y (by decide) lk_w0 (gf_w0 _ _ _) rfl gwn d_M_keyField_1 ?_
  refine lv_istore (lv' := [(4, .int (iI wn)), (0, .ref h), (1, .int (iI a1)), (2, .int (iI a2)), (3, .ref ((q 60)))]) X.1 X.2.1 d_M_keyField_4 hl (by decide) rfl (fun ls hl => ?_)
  refine lv_aload_n X.1 X.2.1 d_M_keyField_6 rfl (lv_at hl 1 rfl) ?_
  refine lv_iconst (v := iI 1) X.1 X.2.1 d_M_keyField_7 (by decide) ?_
  refine lv_aload_n X.1 X.2.1 d_M_keyField_8 rfl (lv_at hl 4 rfl) ?_
  refine lv_iconst (v := iI 0) X.1 X.2.1 d_M_keyField_9 (by decide) ?_
  refine lv_iload_n X.1 X.2.1 d_M_keyField_10 rfl (lv_at hl 3 rfl) ?_
  refine p_calli (As := [.int (iI a2)]) (rest := [.int (iI 0), .ref ((q 60)), .int (iI 1), .ref h]) (n := 1) X Y hml hl.1 (r_M_size l a2 (by omega) (by omega)) kl_M_size ks_M_size ki_M_size ini_M hd_M_size ⟨Nat.le_of_ble_eq_true rfl, Nat.le_of_ble_eq_true rfl⟩ rfl (Nat.le_of_ble_eq_true rfl) d_M_keyField_11 ⟨Nat.le_refl _, Nat.le_refl _⟩ (fun r101 H locs p101 Y => ?_)
  obtain ⟨z101, e101, p101⟩ := p101
  subst e101
  obtain ⟨l101, u101, x101⟩ := p101
  refine r_nv (m_run (As := [.int (iI 1), .ref ((q 60)), .int (iI 0), .int (iI z101)]) (rest := []) (n := 4) X Y hZ hA hml hl.1 (r_M_octetField_fresh l D E h q H.size I J B G 1 (by omega) (by omega) 0 (by omega) (by omega) z101 (by omega) (by omega) S.1 wn gwn (by omega) (by omega) (by omega) (by omega)) kl_M_octetField ks_M_octetField kx_M_octetField ki_M_octetField ini_M hd_M_octetField ⟨Nat.le_of_ble_eq_true rfl, Nat.le_of_ble_eq_true rfl⟩ rfl (Nat.le_of_ble_eq_true rfl) d_M_keyField_14 ⟨Nat.le_refl _, Nat.le_refl _⟩) X Y hA S (by decide) (by decide) (fun u H locs Y S s102 p102 => ?_)
  obtain ⟨I102, J102, B102, G102⟩ := u
  dsimp only at Y S s102 p102
  obtain ⟨x102, g102_MF⟩ := p102
  obtain ⟨z103, e103, l103, u103⟩ := x102
  refine lv_aload_n X.1 X.2.1 d_M_keyField_17 rfl (lv_at hl 1 rfl) ?_
  refine lv_iconst (v := iI 0) X.1 X.2.1 d_M_keyField_18 (by decide) ?_
  refine lv_iload_n X.1 X.2.1 d_M_keyField_19 rfl (lv_at hl 3 rfl) ?_
  refine lv_i2l X.1 X.2.1 d_M_keyField_20 rfl ?_
  refine t_anyl (fun v104 => ?_)
  refine r_nv (m_run (As := [.int (iI 0), .long v104]) (rest := []) (n := 2) X Y hZ hA hml hl.1 (r_M_numberField l D E h q H.size I102 J102 B102 G102 0 (by omega) (by omega) v104 S.1 z103 e103 (by omega) (by omega)) kl_M_numberField ks_M_numberField kx_M_numberField ki_M_numberField ini_M hd_M_numberField ⟨Nat.le_of_ble_eq_true rfl, Nat.le_of_ble_eq_true rfl⟩ rfl (Nat.le_of_ble_eq_true rfl) d_M_keyField_21 ⟨Nat.le_refl _, Nat.le_refl _⟩) X Y hA S (by decide) (by decide) (fun u H locs Y S s105 p105 => ?_)
  obtain ⟨I105, J105, B105, G105⟩ := u
  dsimp only at Y S s105 p105
  obtain ⟨x105, g105_MF⟩ := p105
  obtain ⟨z106, e106, l106, u106⟩ := x105
  refine lv_aload_n X.1 X.2.1 d_M_keyField_24 rfl (lv_at hl 1 rfl) ?_
  refine lv_bipush (v := iI 48) X.1 X.2.1 d_M_keyField_25 (by decide) ?_
  refine lv_iload X.1 X.2.1 d_M_keyField_27 (lv_at hl 0 rfl) ?_
  refine r_nv (m_run (As := [.int (iI 48), .int (iI wn)]) (rest := []) (n := 2) X Y hZ hA hml hl.1 (r_M_head l D E h q H.size I105 J105 B105 G105 48 (by omega) (by omega) wn (by omega) (by omega) S.1 z106 e106 (by omega) (by omega)) kl_M_head ks_M_head kx_M_head ki_M_head ini_M hd_M_head ⟨Nat.le_of_ble_eq_true rfl, Nat.le_of_ble_eq_true rfl⟩ rfl (Nat.le_of_ble_eq_true rfl) d_M_keyField_29 ⟨Nat.le_refl _, Nat.le_refl _⟩) X Y hA S (by decide) (by decide) (fun u H locs Y S s107 p107 => ?_)
  obtain ⟨I107, J107, B107, G107⟩ := u
  dsimp only at Y S s107 p107
  obtain ⟨x107, g107_MF⟩ := p107
  obtain ⟨z108, e108, l108, u108⟩ := x107
  refine lv_aload_n X.1 X.2.1 d_M_keyField_32 rfl (lv_at hl 1 rfl) ?_
  refine lv_iload_n X.1 X.2.1 d_M_keyField_33 rfl (lv_at hl 2 rfl) ?_
  refine lv_iload X.1 X.2.1 d_M_keyField_34 (lv_at hl 0 rfl) ?_
  refine r_nv (m_run (As := [.int (iI a1), .int (iI wn)]) (rest := []) (n := 2) X Y hZ hA hml hl.1 (r_M_field l D E h q H.size I107 J107 B107 G107 a1 (by omega) (by omega) wn (by omega) (by omega) S.1 z108 e108 (by omega) (by omega)) kl_M_field ks_M_field kx_M_field ki_M_field ini_M hd_M_field ⟨Nat.le_of_ble_eq_true rfl, Nat.le_of_ble_eq_true rfl⟩ rfl (Nat.le_of_ble_eq_true rfl) d_M_keyField_36 ⟨Nat.le_refl _, Nat.le_refl _⟩) X Y hA S (by decide) (by decide) (fun u H locs Y S s109 p109 => ?_)
  obtain ⟨I109, J109, B109, G109⟩ := u
  dsimp only at Y S s109 p109
  obtain ⟨x109, g109_MF⟩ := p109
  obtain ⟨z110, e110, l110, u110⟩ := x109
  exact m_retv hQQ X Y hr hlk ⟨S, ⟨⟨z110, e110, by omega, by omega⟩, (mmF_tr (mmF_tr (mmF_tr (mmF_tr mmF_rf g102_MF (by decide)) g105_MF (by decide)) g107_MF (by decide)) g109_MF (by decide))⟩⟩ d_M_keyField_39
set_option maxHeartbeats 4000000 in
set_option maxRecDepth 100000 in
theorem r_M_putBytes_sub (l : Launch) (D : mD) (E : mE) (h : Nat) (q : Nat → Nat) (sz : Nat) (I : Nat → Int32) (J : Nat → Int64) (B : Nat → Nat → Int32) (G : Nat → Nat → Int64) (a2 : Int) (l_a2 : 0 ≤ a2) (u_a2 : a2 ≤ 32) (a3 : Int) (l_a3 : 0 ≤ a3) (u_a3 : a3 ≤ 32) (hT : rT I B) (wn : Int) (gwn : I 42 = iI wn) (lwn : 30000 ≤ wn) (uwn : wn ≤ 60000) (q0 : a2 + a3 ≤ 32) (q1 : 30000 + a3 ≤ wn) : Met l y_M_putBytes (k_M_putBytes :: lw_tg) (mR 2 81) (va_Pc [.ref h, .ref (q 59), .int (iI a2), .int (iI a3)] (mPre D E h q (I, J, B, G) sz)) (va_Qv (rPv [42] [0] I B (fun (u : mS) => (∃ V2 : Int, u.1 42 = iI V2 ∧ wn - (a3) ≤ V2 ∧ V2 ≤ wn) ∧ mmF 30000 60000 (B 0) (u.2.2.1 0))) (mPost D E h q (mA E h q sz)) (mA E h q sz)) 0 0 (mA E h q sz) := by
  refine m_enter (by decide) rfl (Nat.le_of_ble_eq_true rfl) (fun p e s m below meth c ls AV QQ H locs hQQ X Y hZ hA hr hlk hml hl => ?_)
  have Y : mH D E (mA E h q sz) s.heap h q I J B G H locs := Y
  have S : rS [42] [0] I B I B := rS_rf hT
  have hl : lv_has ls 5 [(0, .ref h), (1, .ref ((q 59))), (2, .int (iI a2)), (3, .int (iI a3))] := hl
  refine lv_iload_n X.1 X.2.1 d_M_putBytes_0 rfl (lv_at hl 3 rfl) ?_
  refine lv_iconst (v := iI 1) X.1 X.2.1 d_M_putBytes_1 (by decide) ?_
  refine z_isub X.1 X.2.1 d_M_putBytes_2 ?_
  have J107 : ∀ (n109 : Nat) (z102 : Int) (z104 : Int) (I101 : Nat → Int32) (J101 : Nat → Int64) (B101 : Nat → Nat → Int32) (G101 : Nat → Nat → Int64) (H : Heap) (locs : List Loc) (ls : Array Slot), (z102 - (-1)).toNat = n109 → ((-1) ≤ z102) → (z102 ≤ 31) → (mmF 30000 60000 (B 0) (B101 0)) → (I101 42 = iI z104) → (0 ≤ z104) → (z104 ≤ 60000) → (z104 = wn - (a3 - 1 - z102)) → (z102 ≤ a3 - 1) → mH D E (mA E h q sz) s.heap h q I101 J101 B101 G101 H locs → rS [42] [0] I B I101 B101 → lv_has ls 5 [(0, .ref h), (1, .ref ((q 59))), (2, .int (iI a2)), (4, .int (iI z102))] → W p l e (mR 2 81) s m AV below meth c H locs 0 0 QQ (F0 m 5 ls []) := by
    intro n109
    induction n109 using Nat.strongRecOn with
    | ind n109 ih108 =>
      intro z102 z104 I101 J101 B101 G101 H locs ls hm110 l102 u102 f103 e104 l104 u104 i105 i106 Y S hl
      refine lv_iload X.1 X.2.1 d_M_putBytes_5 (lv_at hl 3 rfl) ?_
      refine z_if_lt (tgt := 26) X.1 X.2.1 d_M_putBytes_7 (by decide) ⟨by omega, by omega⟩ (fun h111 => ?_) (fun h111 => ?_)
      · exact m_retv hQQ X Y hr hlk ⟨S, ⟨⟨z104, e104, by omega, by omega⟩, f103⟩⟩ d_M_putBytes_26
      · refine lv_aload_n X.1 X.2.1 d_M_putBytes_10 rfl (lv_at hl 0 rfl) ?_
        refine lv_aload_n X.1 X.2.1 d_M_putBytes_11 rfl (lv_at hl 1 rfl) ?_
        refine lv_iload_n X.1 X.2.1 d_M_putBytes_12 rfl (lv_at hl 2 rfl) ?_
        refine lv_iload X.1 X.2.1 d_M_putBytes_13 (lv_at hl 3 rfl) ?_
        refine z_iadd X.1 X.2.1 d_M_putBytes_15 ?_
        refine r_bald X Y S (aw_sub _ _ _ _ _ _ _) rfl (by omega) (show a2 + z102 < ((32 : Nat) : Int) by omega) (by omega) d_M_putBytes_16 (fun z112 q112 l112 u112 => ?_)
        refine r_nv (m_run (As := [.int (iI z112)]) (rest := []) (n := 1) X Y hZ hA hml hl.1 (r_M_one l D E h q H.size I101 J101 B101 G101 z112 (by omega) (by omega) S.1 z104 e104 (by omega) (by omega)) kl_M_one ks_M_one kx_M_one ki_M_one ini_M hd_M_one ⟨Nat.le_of_ble_eq_true rfl, Nat.le_of_ble_eq_true rfl⟩ rfl (Nat.le_of_ble_eq_true rfl) d_M_putBytes_17 ⟨Nat.le_refl _, Nat.le_refl _⟩) X Y hA S (by decide) (by decide) (fun u H locs Y S s113 p113 => ?_)
        obtain ⟨I113, J113, B113, G113⟩ := u
        dsimp only at Y S s113 p113
        obtain ⟨x113, g113_MF⟩ := p113
        refine lv_iinc (v := iI (z102 - 1)) (lv' := [(4, .int (iI (z102 - 1))), (0, .ref h), (1, .ref ((q 59))), (2, .int (iI a2))]) X.1 X.2.1 d_M_putBytes_20 hl (k := 3) rfl ((iI_add _ _).trans (congrArg iI (by omega))) (by decide) rfl (fun ls hl => ?_)
        refine lv_goto (tgt := 5) X.1 X.2.1 d_M_putBytes_23 (by decide) ?_
        exact ih108 (((z102 - 1) - (-1)).toNat) (by omega) (z102 - 1) (z104 - 1) I113 J113 B113 G113 _ _ _ rfl (by omega) (by omega) (mmF_tr f103 g113_MF (by decide)) (x113.trans (congrArg iI (show (z104 - 1 : Int) = z104 - 1 by omega))) (by omega) (by omega) (by omega) (by omega) Y S (lv_sub hl [1, 2, 3, 0] rfl)
  refine lv_istore (lv' := [(4, .int (iI (a3 - 1))), (0, .ref h), (1, .ref ((q 59))), (2, .int (iI a2)), (3, .int (iI a3))]) X.1 X.2.1 d_M_putBytes_3 hl (by decide) rfl (fun ls hl => ?_)
  exact J107 _ (a3 - 1) wn I J B G _ _ _ rfl (by omega) (by omega) mmF_rf gwn (by omega) (by omega) (by omega) (by omega) Y S (lv_sub hl [1, 2, 3, 0] rfl)
set_option maxHeartbeats 4000000 in
set_option maxRecDepth 100000 in
theorem r_M_octetField_sub (l : Launch) (D : mD) (E : mE) (h : Nat) (q : Nat → Nat) (sz : Nat) (I : Nat → Int32) (J : Nat → Int64) (B : Nat → Nat → Int32) (G : Nat → Nat → Int64) (a1 : Int) (l_a1 : (-2147483648) ≤ a1) (u_a1 : a1 ≤ 2147483647) (a3 : Int) (l_a3 : 0 ≤ a3) (u_a3 : a3 ≤ 32) (a4 : Int) (l_a4 : 0 ≤ a4) (u_a4 : a4 ≤ 32) (hT : rT I B) (wn : Int) (gwn : I 42 = iI wn) (lwn : 30100 ≤ wn) (uwn : wn ≤ 60000) (q0 : a3 + a4 ≤ 32) (q1 : 30100 + a4 ≤ wn) : Met l y_M_octetField (k_M_octetField :: lw_tg) (mR 4 128) (va_Pc [.ref h, .int (iI a1), .ref (q 59), .int (iI a3), .int (iI a4)] (mPre D E h q (I, J, B, G) sz)) (va_Qv (rPv [42] [0] I B (fun (u : mS) => (∃ V2 : Int, u.1 42 = iI V2 ∧ wn - (a4 + 8) ≤ V2 ∧ V2 ≤ wn) ∧ mmF 30000 60000 (B 0) (u.2.2.1 0))) (mPost D E h q (mA E h q sz)) (mA E h q sz)) 0 0 (mA E h q sz) := by
  refine m_enter (by decide) rfl (Nat.le_of_ble_eq_true rfl) (fun p e s m below meth c ls AV QQ H locs hQQ X Y hZ hA hr hlk hml hl => ?_)
  have Y : mH D E (mA E h q sz) s.heap h q I J B G H locs := Y
  have S : rS [42] [0] I B I B := rS_rf hT
  have hl : lv_has ls 6 [(0, .ref h), (1, .int (iI a1)), (2, .ref ((q 59))), (3, .int (iI a3)), (4, .int (iI a4))] := hl
  refine lv_aload_n X.1 X.2.1 d_M_octetField_0 rfl (lv_at hl 0 rfl) ?_
  refine r_get0 X Y (by decide) lk_w0 (gf_w0 _ _ _) rfl gwn d_M_octetField_1 ?_
  refine lv_istore (lv' := [(5, .int (iI wn)), (0, .ref h), (1, .int (iI a1)), (2, .ref ((q 59))), (3, .int (iI a3)), (4, .int (iI a4))]) X.1 X.2.1 d_M_octetField_4 hl (by decide) rfl (fun ls hl => ?_)
  refine lv_aload_n X.1 X.2.1 d_M_octetField_6 rfl (lv_at hl 1 rfl) ?_
  refine lv_aload_n X.1 X.2.1 d_M_octetField_7 rfl (lv_at hl 3 rfl) ?_
  refine lv_iload_n X.1 X.2.1 d_M_octetField_8 rfl (lv_at hl 4 rfl) ?_
  refine lv_iload X.1 X.2.1 d_M_octetField_9 (lv_at hl 5 rfl) ?_
  refine r_nv (m_run (As := [.ref ((q 59)), .int (iI a3), .int (iI a4)]) (rest := []) (n := 3) X Y hZ hA hml hl.1 (r_M_putBytes_sub l D E h q H.size I J B G a3 (by omega) (by omega) a4 (by omega) (by omega) S.1 wn gwn (by omega) (by omega) (by omega) (by omega)) kl_M_putBytes ks_M_putBytes kx_M_putBytes ki_M_putBytes ini_M hd_M_putBytes ⟨Nat.le_of_ble_eq_true rfl, Nat.le_of_ble_eq_true rfl⟩ rfl (Nat.le_of_ble_eq_true rfl) d_M_octetField_11 ⟨Nat.le_refl _, Nat.le_refl _⟩) X Y hA S (by decide) (by decide) (fun u H locs Y S s101 p101 => ?_)
  obtain ⟨I101, J101, B101, G101⟩ := u
  dsimp only at Y S s101 p101
  obtain ⟨x101, g101_MF⟩ := p101
  obtain ⟨z102, e102, l102, u102⟩ := x101
  refine lv_aload_n X.1 X.2.1 d_M_octetField_14 rfl (lv_at hl 1 rfl) ?_
  refine lv_iconst (v := iI 4) X.1 X.2.1 d_M_octetField_15 (by decide) ?_
  refine lv_iload X.1 X.2.1 d_M_octetField_16 (lv_at hl 0 rfl) ?_
  refine r_nv (m_run (As := [.int (iI 4), .int (iI wn)]) (rest := []) (n := 2) X Y hZ hA hml hl.1 (r_M_head l D E h q H.size I101 J101 B101 G101 4 (by omega) (by omega) wn (by omega) (by omega) S.1 z102 e102 (by omega) (by omega)) kl_M_head ks_M_head kx_M_head ki_M_head ini_M hd_M_head ⟨Nat.le_of_ble_eq_true rfl, Nat.le_of_ble_eq_true rfl⟩ rfl (Nat.le_of_ble_eq_true rfl) d_M_octetField_18 ⟨Nat.le_refl _, Nat.le_refl _⟩) X Y hA S (by decide) (by decide) (fun u H locs Y S s103 p103 => ?_)
  obtain ⟨I103, J103, B103, G103⟩ := u
  dsimp only at Y S s103 p103
  obtain ⟨x103, g103_MF⟩ := p103
  obtain ⟨z104, e104, l104, u104⟩ := x103
  refine lv_aload_n X.1 X.2.1 d_M_octetField_21 rfl (lv_at hl 1 rfl) ?_
  refine lv_iload_n X.1 X.2.1 d_M_octetField_22 rfl (lv_at hl 2 rfl) ?_
  refine lv_iload X.1 X.2.1 d_M_octetField_23 (lv_at hl 0 rfl) ?_
  refine r_nv (m_run (As := [.int (iI a1), .int (iI wn)]) (rest := []) (n := 2) X Y hZ hA hml hl.1 (r_M_field l D E h q H.size I103 J103 B103 G103 a1 (by omega) (by omega) wn (by omega) (by omega) S.1 z104 e104 (by omega) (by omega)) kl_M_field ks_M_field kx_M_field ki_M_field ini_M hd_M_field ⟨Nat.le_of_ble_eq_true rfl, Nat.le_of_ble_eq_true rfl⟩ rfl (Nat.le_of_ble_eq_true rfl) d_M_octetField_25 ⟨Nat.le_refl _, Nat.le_refl _⟩) X Y hA S (by decide) (by decide) (fun u H locs Y S s105 p105 => ?_)
  obtain ⟨I105, J105, B105, G105⟩ := u
  dsimp only at Y S s105 p105
  obtain ⟨x105, g105_MF⟩ := p105
  obtain ⟨z106, e106, l106, u106⟩ := x105
  exact m_retv hQQ X Y hr hlk ⟨S, ⟨⟨z106, e106, by omega, by omega⟩, (mmF_tr (mmF_tr (mmF_tr mmF_rf g101_MF (by decide)) g103_MF (by decide)) g105_MF (by decide))⟩⟩ d_M_octetField_28
set_option maxHeartbeats 4000000 in
set_option maxRecDepth 100000 in
theorem r_M_keyField_sub (l : Launch) (D : mD) (E : mE) (h : Nat) (q : Nat → Nat) (sz : Nat) (I : Nat → Int32) (J : Nat → Int64) (B : Nat → Nat → Int32) (G : Nat → Nat → Int64) (a1 : Int) (l_a1 : (-2147483648) ≤ a1) (u_a1 : a1 ≤ 2147483647) (a2 : Int) (l_a2 : (-2147483648) ≤ a2) (u_a2 : a2 ≤ 2147483647) (hT : rT I B) (wn : Int) (gwn : I 42 = iI wn) (lwn : 30400 ≤ wn) (uwn : wn ≤ 60000) : Met l y_M_keyField (k_M_keyField :: lw_tg) (mR 5 157) (va_Pc [.ref h, .int (iI a1), .int (iI a2), .ref (q 59)] (mPre D E h q (I, J, B, G) sz)) (va_Qv (rPv [42] [0] I B (fun (u : mS) => (∃ V2 : Int, u.1 42 = iI V2 ∧ wn - (70) ≤ V2 ∧ V2 ≤ wn) ∧ mmF 30000 60000 (B 0) (u.2.2.1 0))) (mPost D E h q (mA E h q sz)) (mA E h q sz)) 0 0 (mA E h q sz) := by
  refine m_enter (by decide) rfl (Nat.le_of_ble_eq_true rfl) (fun p e s m below meth c ls AV QQ H locs hQQ X Y hZ hA hr hlk hml hl => ?_)
  have Y : mH D E (mA E h q sz) s.heap h q I J B G H locs := Y
  have S : rS [42] [0] I B I B := rS_rf hT
  have hl : lv_has ls 5 [(0, .ref h), (1, .int (iI a1)), (2, .int (iI a2)), (3, .ref ((q 59)))] := hl
  refine lv_aload_n X.1 X.2.1 d_M_keyField_0 rfl (lv_at hl 0 rfl) ?_
  refine r_get0 X Y (by decide) lk_w0 (gf_w0 _ _ _) rfl gwn d_M_keyField_1 ?_
  refine lv_istore (lv' := [(4, .int (iI wn)), (0, .ref h), (1, .int (iI a1)), (2, .int (iI a2)), (3, .ref ((q 59)))]) X.1 X.2.1 d_M_keyField_4 hl (by decide) rfl (fun ls hl => ?_)
  refine lv_aload_n X.1 X.2.1 d_M_keyField_6 rfl (lv_at hl 1 rfl) ?_
  refine lv_iconst (v := iI 1) X.1 X.2.1 d_M_keyField_7 (by decide) ?_
  refine lv_aload_n X.1 X.2.1 d_M_keyField_8 rfl (lv_at hl 4 rfl) ?_
  refine lv_iconst (v := iI 0) X.1 X.2.1 d_M_keyField_9 (by decide) ?_
  refine lv_iload_n X.1 X.2.1 d_M_keyField_10 rfl (lv_at hl 3 rfl) ?_
  refine p_calli (As := [.int (iI a2)]) (rest := [.int (iI 0), .ref ((q 59)), .int (iI 1), .ref h]) (n := 1) X Y hml hl.1 (r_M_size l a2 (by omega) (by omega)) kl_M_size ks_M_size ki_M_size ini_M hd_M_size ⟨Nat.le_of_ble_eq_true rfl, Nat.le_of_ble_eq_true rfl⟩ rfl (Nat.le_of_ble_eq_true rfl) d_M_keyField_11 ⟨Nat.le_refl _, Nat.le_refl _⟩ (fun r101 H locs p101 Y => ?_)
  obtain ⟨z101, e101, p101⟩ := p101
  subst e101
  obtain ⟨l101, u101, x101⟩ := p101
  refine r_nv (m_run (As := [.int (iI 1), .ref ((q 59)), .int (iI 0), .int (iI z101)]) (rest := []) (n := 4) X Y hZ hA hml hl.1 (r_M_octetField_sub l D E h q H.size I J B G 1 (by omega) (by omega) 0 (by omega) (by omega) z101 (by omega) (by omega) S.1 wn gwn (by omega) (by omega) (by omega) (by omega)) kl_M_octetField ks_M_octetField kx_M_octetField ki_M_octetField ini_M hd_M_octetField ⟨Nat.le_of_ble_eq_true rfl, Nat.le_of_ble_eq_true rfl⟩ rfl (Nat.le_of_ble_eq_true rfl) d_M_keyField_14 ⟨Nat.le_refl _, Nat.le_refl _⟩) X Y hA S (by decide) (by decide) (fun u H locs Y S s102 p102 => ?_)
  obtain ⟨I102, J102, B102, G102⟩ := u
  dsimp only at Y S s102 p102
  obtain ⟨x102, g102_MF⟩ := p102
  obtain ⟨z103, e103, l103, u103⟩ := x102
  refine lv_aload_n X.1 X.2.1 d_M_keyField_17 rfl (lv_at hl 1 rfl) ?_
  refine lv_iconst (v := iI 0) X.1 X.2.1 d_M_keyField_18 (by decide) ?_
  refine lv_iload_n X.1 X.2.1 d_M_keyField_19 rfl (lv_at hl 3 rfl) ?_
  refine lv_i2l X.1 X.2.1 d_M_keyField_20 rfl ?_
  refine t_anyl (fun v104 => ?_)
  refine r_nv (m_run (As := [.int (iI 0), .long v104]) (rest := []) (n := 2) X Y hZ hA hml hl.1 (r_M_numberField l D E h q H.size I102 J102 B102 G102 0 (by omega) (by omega) v104 S.1 z103 e103 (by omega) (by omega)) kl_M_numberField ks_M_numberField kx_M_numberField ki_M_numberField ini_M hd_M_numberField ⟨Nat.le_of_ble_eq_true rfl, Nat.le_of_ble_eq_true rfl⟩ rfl (Nat.le_of_ble_eq_true rfl) d_M_keyField_21 ⟨Nat.le_refl _, Nat.le_refl _⟩) X Y hA S (by decide) (by decide) (fun u H locs Y S s105 p105 => ?_)
  obtain ⟨I105, J105, B105, G105⟩ := u
  dsimp only at Y S s105 p105
  obtain ⟨x105, g105_MF⟩ := p105
  obtain ⟨z106, e106, l106, u106⟩ := x105
  refine lv_aload_n X.1 X.2.1 d_M_keyField_24 rfl (lv_at hl 1 rfl) ?_
  refine lv_bipush (v := iI 48) X.1 X.2.1 d_M_keyField_25 (by decide) ?_
  refine lv_iload X.1 X.2.1 d_M_keyField_27 (lv_at hl 0 rfl) ?_
  refine r_nv (m_run (As := [.int (iI 48), .int (iI wn)]) (rest := []) (n := 2) X Y hZ hA hml hl.1 (r_M_head l D E h q H.size I105 J105 B105 G105 48 (by omega) (by omega) wn (by omega) (by omega) S.1 z106 e106 (by omega) (by omega)) kl_M_head ks_M_head kx_M_head ki_M_head ini_M hd_M_head ⟨Nat.le_of_ble_eq_true rfl, Nat.le_of_ble_eq_true rfl⟩ rfl (Nat.le_of_ble_eq_true rfl) d_M_keyField_29 ⟨Nat.le_refl _, Nat.le_refl _⟩) X Y hA S (by decide) (by decide) (fun u H locs Y S s107 p107 => ?_)
  obtain ⟨I107, J107, B107, G107⟩ := u
  dsimp only at Y S s107 p107
  obtain ⟨x107, g107_MF⟩ := p107
  obtain ⟨z108, e108, l108, u108⟩ := x107
  refine lv_aload_n X.1 X.2.1 d_M_keyField_32 rfl (lv_at hl 1 rfl) ?_
  refine lv_iload_n X.1 X.2.1 d_M_keyField_33 rfl (lv_at hl 2 rfl) ?_
  refine lv_iload X.1 X.2.1 d_M_keyField_34 (lv_at hl 0 rfl) ?_
  refine r_nv (m_run (As := [.int (iI a1), .int (iI wn)]) (rest := []) (n := 2) X Y hZ hA hml hl.1 (r_M_field l D E h q H.size I107 J107 B107 G107 a1 (by omega) (by omega) wn (by omega) (by omega) S.1 z108 e108 (by omega) (by omega)) kl_M_field ks_M_field kx_M_field ki_M_field ini_M hd_M_field ⟨Nat.le_of_ble_eq_true rfl, Nat.le_of_ble_eq_true rfl⟩ rfl (Nat.le_of_ble_eq_true rfl) d_M_keyField_36 ⟨Nat.le_refl _, Nat.le_refl _⟩) X Y hA S (by decide) (by decide) (fun u H locs Y S s109 p109 => ?_)
  obtain ⟨I109, J109, B109, G109⟩ := u
  dsimp only at Y S s109 p109
  obtain ⟨x109, g109_MF⟩ := p109
  obtain ⟨z110, e110, l110, u110⟩ := x109
  exact m_retv hQQ X Y hr hlk ⟨S, ⟨⟨z110, e110, by omega, by omega⟩, (mmF_tr (mmF_tr (mmF_tr (mmF_tr mmF_rf g102_MF (by decide)) g105_MF (by decide)) g107_MF (by decide)) g109_MF (by decide))⟩⟩ d_M_keyField_39
set_option maxHeartbeats 4000000 in
set_option maxRecDepth 100000 in
theorem r_M_putSealed (l : Launch) (D : mD) (E : mE) (h : Nat) (q : Nat → Nat) (sz : Nat) (I : Nat → Int32) (J : Nat → Int64) (B : Nat → Nat → Int32) (G : Nat → Nat → Int64) (a1 : Int) (l_a1 : (-2147483648) ≤ a1) (u_a1 : a1 ≤ 2147483647) (a2 : Int64) (hT : rT I B) (wn : Int) (gwn : I 42 = iI wn) (lwn : 30500 ≤ wn) (uwn : wn ≤ 60000) (sm : Int) (gsm : I 36 = iI sm) (lsm : 0 ≤ sm) (usm : sm ≤ 19100) (q0 : 30500 + sm ≤ wn) : Met l y_M_putSealed (k_M_putSealed :: lw_tg) (mR 5 157) (va_Pc [.ref h, .int (iI a1), .long a2] (mPre D E h q (I, J, B, G) sz)) (va_Qv (rPv [42] [0] I B (fun (u : mS) => (∃ V2 : Int, u.1 42 = iI V2 ∧ wn - (sm + 60) ≤ V2 ∧ V2 ≤ wn) ∧ mmF 30000 60000 (B 0) (u.2.2.1 0))) (mPost D E h q (mA E h q sz)) (mA E h q sz)) 0 0 (mA E h q sz) := by
  refine m_enter (by decide) rfl (Nat.le_of_ble_eq_true rfl) (fun p e s m below meth c ls AV QQ H locs hQQ X Y hZ hA hr hlk hml hl => ?_)
  have Y : mH D E (mA E h q sz) s.heap h q I J B G H locs := Y
  have S : rS [42] [0] I B I B := rS_rf hT
  have hl : lv_has ls 5 [(0, .ref h), (1, .int (iI a1)), (2, .long a2)] := hl
  refine lv_aload_n X.1 X.2.1 d_M_putSealed_0 rfl (lv_at hl 0 rfl) ?_
  refine r_get0 X Y (by decide) lk_w0 (gf_w0 _ _ _) rfl gwn d_M_putSealed_1 ?_
  refine lv_istore (lv' := [(4, .int (iI wn)), (0, .ref h), (1, .int (iI a1)), (2, .long a2)]) X.1 X.2.1 d_M_putSealed_4 hl (by decide) rfl (fun ls hl => ?_)
  refine lv_aload_n X.1 X.2.1 d_M_putSealed_6 rfl (lv_at hl 1 rfl) ?_
  refine lv_iconst (v := iI 2) X.1 X.2.1 d_M_putSealed_7 (by decide) ?_
  refine lv_aload_n X.1 X.2.1 d_M_putSealed_8 rfl (lv_at hl 1 rfl) ?_
  refine m_get X Y 35 (by decide) lk_secret (gf_secret _ _ _) rfl d_M_putSealed_9 ?_
  refine lv_iconst (v := iI 0) X.1 X.2.1 d_M_putSealed_12 (by decide) ?_
  refine lv_aload_n X.1 X.2.1 d_M_putSealed_13 rfl (lv_at hl 1 rfl) ?_
  refine r_get0 X Y (by decide) lk_secretMany (gf_secretMany _ _ _) rfl gsm d_M_putSealed_14 ?_
  refine r_nv (m_run (As := [.int (iI 2), .ref ((q 35)), .int (iI 0), .int (iI sm)]) (rest := []) (n := 4) X Y hZ hA hml hl.1 (r_M_octetField_secret l D E h q H.size I J B G 2 (by omega) (by omega) 0 (by omega) (by omega) sm (by omega) (by omega) S.1 wn gwn (by omega) (by omega) (by omega) (by omega)) kl_M_octetField ks_M_octetField kx_M_octetField ki_M_octetField ini_M hd_M_octetField ⟨Nat.le_of_ble_eq_true rfl, Nat.le_of_ble_eq_true rfl⟩ rfl (Nat.le_of_ble_eq_true rfl) d_M_putSealed_17 ⟨Nat.le_refl _, Nat.le_refl _⟩) X Y hA S (by decide) (by decide) (fun u H locs Y S s101 p101 => ?_)
  obtain ⟨I101, J101, B101, G101⟩ := u
  dsimp only at Y S s101 p101
  obtain ⟨x101, g101_MF⟩ := p101
  obtain ⟨z102, e102, l102, u102⟩ := x101
  refine lv_lload_n X.1 X.2.1 d_M_putSealed_20 rfl (lv_at hl 3 rfl) ?_
  refine lv_lconst (v := 0) X.1 X.2.1 d_M_putSealed_21 rfl ?_
  refine W.lcmp X.1 X.2.1 d_M_putSealed_22 ?_
  refine t_u (fun z103 l103 u103 => ?_)
  refine z_if_le (tgt := 32) X.1 X.2.1 d_M_putSealed_23 (by decide) ⟨by omega, by omega⟩ (fun h104 => ?_) (fun h104 => ?_)
  · refine lv_aload_n X.1 X.2.1 d_M_putSealed_32 rfl (lv_at hl 1 rfl) ?_
    refine lv_iconst (v := iI 0) X.1 X.2.1 d_M_putSealed_33 (by decide) ?_
    refine lv_iload_n X.1 X.2.1 d_M_putSealed_34 rfl (lv_at hl 2 rfl) ?_
    refine lv_i2l X.1 X.2.1 d_M_putSealed_35 rfl ?_
    refine t_anyl (fun v105 => ?_)
    refine r_nv (m_run (As := [.int (iI 0), .long v105]) (rest := []) (n := 2) X Y hZ hA hml hl.1 (r_M_numberField l D E h q H.size I101 J101 B101 G101 0 (by omega) (by omega) v105 S.1 z102 e102 (by omega) (by omega)) kl_M_numberField ks_M_numberField kx_M_numberField ki_M_numberField ini_M hd_M_numberField ⟨Nat.le_of_ble_eq_true rfl, Nat.le_of_ble_eq_true rfl⟩ rfl (Nat.le_of_ble_eq_true rfl) d_M_putSealed_36 ⟨Nat.le_refl _, Nat.le_refl _⟩) X Y hA S (by decide) (by decide) (fun u H locs Y S s106 p106 => ?_)
    obtain ⟨I106, J106, B106, G106⟩ := u
    dsimp only at Y S s106 p106
    obtain ⟨x106, g106_MF⟩ := p106
    obtain ⟨z107, e107, l107, u107⟩ := x106
    refine lv_aload_n X.1 X.2.1 d_M_putSealed_39 rfl (lv_at hl 1 rfl) ?_
    refine lv_bipush (v := iI 48) X.1 X.2.1 d_M_putSealed_40 (by decide) ?_
    refine lv_iload X.1 X.2.1 d_M_putSealed_42 (lv_at hl 0 rfl) ?_
    refine r_nv (m_run (As := [.int (iI 48), .int (iI wn)]) (rest := []) (n := 2) X Y hZ hA hml hl.1 (r_M_head l D E h q H.size I106 J106 B106 G106 48 (by omega) (by omega) wn (by omega) (by omega) S.1 z107 e107 (by omega) (by omega)) kl_M_head ks_M_head kx_M_head ki_M_head ini_M hd_M_head ⟨Nat.le_of_ble_eq_true rfl, Nat.le_of_ble_eq_true rfl⟩ rfl (Nat.le_of_ble_eq_true rfl) d_M_putSealed_44 ⟨Nat.le_refl _, Nat.le_refl _⟩) X Y hA S (by decide) (by decide) (fun u H locs Y S s108 p108 => ?_)
    obtain ⟨I108, J108, B108, G108⟩ := u
    dsimp only at Y S s108 p108
    obtain ⟨x108, g108_MF⟩ := p108
    obtain ⟨z109, e109, l109, u109⟩ := x108
    exact m_retv hQQ X Y hr hlk ⟨S, ⟨⟨z109, e109, by omega, by omega⟩, (mmF_tr (mmF_tr (mmF_tr mmF_rf g101_MF (by decide)) g106_MF (by decide)) g108_MF (by decide))⟩⟩ d_M_putSealed_47
  · refine lv_aload_n X.1 X.2.1 d_M_putSealed_26 rfl (lv_at hl 1 rfl) ?_
    refine lv_iconst (v := iI 1) X.1 X.2.1 d_M_putSealed_27 (by decide) ?_
    refine lv_lload_n X.1 X.2.1 d_M_putSealed_28 rfl (lv_at hl 3 rfl) ?_
    refine r_nv (m_run (As := [.int (iI 1), .long a2]) (rest := []) (n := 2) X Y hZ hA hml hl.1 (r_M_numberField l D E h q H.size I101 J101 B101 G101 1 (by omega) (by omega) a2 S.1 z102 e102 (by omega) (by omega)) kl_M_numberField ks_M_numberField kx_M_numberField ki_M_numberField ini_M hd_M_numberField ⟨Nat.le_of_ble_eq_true rfl, Nat.le_of_ble_eq_true rfl⟩ rfl (Nat.le_of_ble_eq_true rfl) d_M_putSealed_29 ⟨Nat.le_refl _, Nat.le_refl _⟩) X Y hA S (by decide) (by decide) (fun u H locs Y S s110 p110 => ?_)
    obtain ⟨I110, J110, B110, G110⟩ := u
    dsimp only at Y S s110 p110
    obtain ⟨x110, g110_MF⟩ := p110
    obtain ⟨z111, e111, l111, u111⟩ := x110
    refine lv_aload_n X.1 X.2.1 d_M_putSealed_32 rfl (lv_at hl 1 rfl) ?_
    refine lv_iconst (v := iI 0) X.1 X.2.1 d_M_putSealed_33 (by decide) ?_
    refine lv_iload_n X.1 X.2.1 d_M_putSealed_34 rfl (lv_at hl 2 rfl) ?_
    refine lv_i2l X.1 X.2.1 d_M_putSealed_35 rfl ?_
    refine t_anyl (fun v112 => ?_)
    refine r_nv (m_run (As := [.int (iI 0), .long v112]) (rest := []) (n := 2) X Y hZ hA hml hl.1 (r_M_numberField l D E h q H.size I110 J110 B110 G110 0 (by omega) (by omega) v112 S.1 z111 e111 (by omega) (by omega)) kl_M_numberField ks_M_numberField kx_M_numberField ki_M_numberField ini_M hd_M_numberField ⟨Nat.le_of_ble_eq_true rfl, Nat.le_of_ble_eq_true rfl⟩ rfl (Nat.le_of_ble_eq_true rfl) d_M_putSealed_36 ⟨Nat.le_refl _, Nat.le_refl _⟩) X Y hA S (by decide) (by decide) (fun u H locs Y S s113 p113 => ?_)
    obtain ⟨I113, J113, B113, G113⟩ := u
    dsimp only at Y S s113 p113
    obtain ⟨x113, g113_MF⟩ := p113
    obtain ⟨z114, e114, l114, u114⟩ := x113
    refine lv_aload_n X.1 X.2.1 d_M_putSealed_39 rfl (lv_at hl 1 rfl) ?_
    refine lv_bipush (v := iI 48) X.1 X.2.1 d_M_putSealed_40 (by decide) ?_
    refine lv_iload X.1 X.2.1 d_M_putSealed_42 (lv_at hl 0 rfl) ?_
    refine r_nv (m_run (As := [.int (iI 48), .int (iI wn)]) (rest := []) (n := 2) X Y hZ hA hml hl.1 (r_M_head l D E h q H.size I113 J113 B113 G113 48 (by omega) (by omega) wn (by omega) (by omega) S.1 z114 e114 (by omega) (by omega)) kl_M_head ks_M_head kx_M_head ki_M_head ini_M hd_M_head ⟨Nat.le_of_ble_eq_true rfl, Nat.le_of_ble_eq_true rfl⟩ rfl (Nat.le_of_ble_eq_true rfl) d_M_putSealed_44 ⟨Nat.le_refl _, Nat.le_refl _⟩) X Y hA S (by decide) (by decide) (fun u H locs Y S s115 p115 => ?_)
    obtain ⟨I115, J115, B115, G115⟩ := u
    dsimp only at Y S s115 p115
    obtain ⟨x115, g115_MF⟩ := p115
    obtain ⟨z116, e116, l116, u116⟩ := x115
    exact m_retv hQQ X Y hr hlk ⟨S, ⟨⟨z116, e116, by omega, by omega⟩, (mmF_tr (mmF_tr (mmF_tr (mmF_tr mmF_rf g101_MF (by decide)) g110_MF (by decide)) g113_MF (by decide)) g115_MF (by decide))⟩⟩ d_M_putSealed_47
set_option maxHeartbeats 4000000 in
set_option maxRecDepth 100000 in
theorem r_M_sealedField (l : Launch) (D : mD) (E : mE) (h : Nat) (q : Nat → Nat) (sz : Nat) (I : Nat → Int32) (J : Nat → Int64) (B : Nat → Nat → Int32) (G : Nat → Nat → Int64) (a1 : Int) (l_a1 : (-2147483648) ≤ a1) (u_a1 : a1 ≤ 2147483647) (a2 : Int) (l_a2 : (-2147483648) ≤ a2) (u_a2 : a2 ≤ 2147483647) (a3 : Int64) (hT : rT I B) (wn : Int) (gwn : I 42 = iI wn) (lwn : 30600 ≤ wn) (uwn : wn ≤ 60000) (sm : Int) (gsm : I 36 = iI sm) (lsm : 0 ≤ sm) (usm : sm ≤ 19100) (q0 : 30600 + sm ≤ wn) : Met l y_M_sealedField (k_M_sealedField :: lw_tg) (mR 6 181) (va_Pc [.ref h, .int (iI a1), .int (iI a2), .long a3] (mPre D E h q (I, J, B, G) sz)) (va_Qv (rPv [42] [0] I B (fun (u : mS) => (∃ V2 : Int, u.1 42 = iI V2 ∧ wn - (sm + 70) ≤ V2 ∧ V2 ≤ wn) ∧ mmF 30000 60000 (B 0) (u.2.2.1 0))) (mPost D E h q (mA E h q sz)) (mA E h q sz)) 0 0 (mA E h q sz) := by
  refine m_enter (by decide) rfl (Nat.le_of_ble_eq_true rfl) (fun p e s m below meth c ls AV QQ H locs hQQ X Y hZ hA hr hlk hml hl => ?_)
  have Y : mH D E (mA E h q sz) s.heap h q I J B G H locs := Y
  have S : rS [42] [0] I B I B := rS_rf hT
  have hl : lv_has ls 6 [(0, .ref h), (1, .int (iI a1)), (2, .int (iI a2)), (3, .long a3)] := hl
  refine lv_aload_n X.1 X.2.1 d_M_sealedField_0 rfl (lv_at hl 0 rfl) ?_
  refine r_get0 X Y (by decide) lk_w0 (gf_w0 _ _ _) rfl gwn d_M_sealedField_1 ?_
  refine lv_istore (lv' := [(5, .int (iI wn)), (0, .ref h), (1, .int (iI a1)), (2, .int (iI a2)), (3, .long a3)]) X.1 X.2.1 d_M_sealedField_4 hl (by decide) rfl (fun ls hl => ?_)
  refine lv_aload_n X.1 X.2.1 d_M_sealedField_6 rfl (lv_at hl 1 rfl) ?_
  refine lv_iload_n X.1 X.2.1 d_M_sealedField_7 rfl (lv_at hl 3 rfl) ?_
  refine lv_lload_n X.1 X.2.1 d_M_sealedField_8 rfl (lv_at hl 4 rfl) ?_
  refine r_nv (m_run (As := [.int (iI a2), .long a3]) (rest := []) (n := 2) X Y hZ hA hml hl.1 (r_M_putSealed l D E h q H.size I J B G a2 (by omega) (by omega) a3 S.1 wn gwn (by omega) (by omega) sm gsm (by omega) (by omega) (by omega)) kl_M_putSealed ks_M_putSealed kx_M_putSealed ki_M_putSealed ini_M hd_M_putSealed ⟨Nat.le_of_ble_eq_true rfl, Nat.le_of_ble_eq_true rfl⟩ rfl (Nat.le_of_ble_eq_true rfl) d_M_sealedField_9 ⟨Nat.le_refl _, Nat.le_refl _⟩) X Y hA S (by decide) (by decide) (fun u H locs Y S s101 p101 => ?_)
  obtain ⟨I101, J101, B101, G101⟩ := u
  dsimp only at Y S s101 p101
  obtain ⟨x101, g101_MF⟩ := p101
  obtain ⟨z102, e102, l102, u102⟩ := x101
  refine lv_aload_n X.1 X.2.1 d_M_sealedField_12 rfl (lv_at hl 1 rfl) ?_
  refine lv_iload_n X.1 X.2.1 d_M_sealedField_13 rfl (lv_at hl 2 rfl) ?_
  refine lv_iload X.1 X.2.1 d_M_sealedField_14 (lv_at hl 0 rfl) ?_
  refine r_nv (m_run (As := [.int (iI a1), .int (iI wn)]) (rest := []) (n := 2) X Y hZ hA hml hl.1 (r_M_field l D E h q H.size I101 J101 B101 G101 a1 (by omega) (by omega) wn (by omega) (by omega) S.1 z102 e102 (by omega) (by omega)) kl_M_field ks_M_field kx_M_field ki_M_field ini_M hd_M_field ⟨Nat.le_of_ble_eq_true rfl, Nat.le_of_ble_eq_true rfl⟩ rfl (Nat.le_of_ble_eq_true rfl) d_M_sealedField_16 ⟨Nat.le_refl _, Nat.le_refl _⟩) X Y hA S (by decide) (by decide) (fun u H locs Y S s103 p103 => ?_)
  obtain ⟨I103, J103, B103, G103⟩ := u
  dsimp only at Y S s103 p103
  obtain ⟨x103, g103_MF⟩ := p103
  obtain ⟨z104, e104, l104, u104⟩ := x103
  exact m_retv hQQ X Y hr hlk ⟨S, ⟨⟨z104, e104, by omega, by omega⟩, (mmF_tr (mmF_tr mmF_rf g101_MF (by decide)) g103_MF (by decide))⟩⟩ d_M_sealedField_19
set_option maxHeartbeats 4000000 in
set_option maxRecDepth 100000 in
theorem r_M_putBytes_names (l : Launch) (D : mD) (E : mE) (h : Nat) (q : Nat → Nat) (sz : Nat) (I : Nat → Int32) (J : Nat → Int64) (B : Nat → Nat → Int32) (G : Nat → Nat → Int64) (a2 : Int) (l_a2 : 0 ≤ a2) (u_a2 : a2 ≤ 480) (a3 : Int) (l_a3 : 0 ≤ a3) (u_a3 : a3 ≤ 480) (hT : rT I B) (wn : Int) (gwn : I 42 = iI wn) (lwn : 30000 ≤ wn) (uwn : wn ≤ 60000) (q0 : a2 + a3 ≤ 480) (q1 : 30000 + a3 ≤ wn) : Met l y_M_putBytes (k_M_putBytes :: lw_tg) (mR 2 81) (va_Pc [.ref h, .ref (q 44), .int (iI a2), .int (iI a3)] (mPre D E h q (I, J, B, G) sz)) (va_Qv (rPv [42] [0] I B (fun (u : mS) => (∃ V2 : Int, u.1 42 = iI V2 ∧ wn - (a3) ≤ V2 ∧ V2 ≤ wn) ∧ mmF 30000 60000 (B 0) (u.2.2.1 0))) (mPost D E h q (mA E h q sz)) (mA E h q sz)) 0 0 (mA E h q sz) := by
  refine m_enter (by decide) rfl (Nat.le_of_ble_eq_true rfl) (fun p e s m below meth c ls AV QQ H locs hQQ X Y hZ hA hr hlk hml hl => ?_)
  have Y : mH D E (mA E h q sz) s.heap h q I J B G H locs := Y
  have S : rS [42] [0] I B I B := rS_rf hT
  have hl : lv_has ls 5 [(0, .ref h), (1, .ref ((q 44))), (2, .int (iI a2)), (3, .int (iI a3))] := hl
  refine lv_iload_n X.1 X.2.1 d_M_putBytes_0 rfl (lv_at hl 3 rfl) ?_
  refine lv_iconst (v := iI 1) X.1 X.2.1 d_M_putBytes_1 (by decide) ?_
  refine z_isub X.1 X.2.1 d_M_putBytes_2 ?_
  have J107 : ∀ (n109 : Nat) (z102 : Int) (z104 : Int) (I101 : Nat → Int32) (J101 : Nat → Int64) (B101 : Nat → Nat → Int32) (G101 : Nat → Nat → Int64) (H : Heap) (locs : List Loc) (ls : Array Slot), (z102 - (-1)).toNat = n109 → ((-1) ≤ z102) → (z102 ≤ 479) → (mmF 30000 60000 (B 0) (B101 0)) → (I101 42 = iI z104) → (0 ≤ z104) → (z104 ≤ 60000) → (z104 = wn - (a3 - 1 - z102)) → (z102 ≤ a3 - 1) → mH D E (mA E h q sz) s.heap h q I101 J101 B101 G101 H locs → rS [42] [0] I B I101 B101 → lv_has ls 5 [(0, .ref h), (1, .ref ((q 44))), (2, .int (iI a2)), (4, .int (iI z102))] → W p l e (mR 2 81) s m AV below meth c H locs 0 0 QQ (F0 m 5 ls []) := by
    intro n109
    induction n109 using Nat.strongRecOn with
    | ind n109 ih108 =>
      intro z102 z104 I101 J101 B101 G101 H locs ls hm110 l102 u102 f103 e104 l104 u104 i105 i106 Y S hl
      refine lv_iload X.1 X.2.1 d_M_putBytes_5 (lv_at hl 3 rfl) ?_
      refine z_if_lt (tgt := 26) X.1 X.2.1 d_M_putBytes_7 (by decide) ⟨by omega, by omega⟩ (fun h111 => ?_) (fun h111 => ?_)
      · exact m_retv hQQ X Y hr hlk ⟨S, ⟨⟨z104, e104, by omega, by omega⟩, f103⟩⟩ d_M_putBytes_26
      · refine lv_aload_n X.1 X.2.1 d_M_putBytes_10 rfl (lv_at hl 0 rfl) ?_
        refine lv_aload_n X.1 X.2.1 d_M_putBytes_11 rfl (lv_at hl 1 rfl) ?_
        refine lv_iload_n X.1 X.2.1 d_M_putBytes_12 rfl (lv_at hl 2 rfl) ?_
        refine lv_iload X.1 X.2.1 d_M_putBytes_13 (lv_at hl 3 rfl) ?_
        refine z_iadd X.1 X.2.1 d_M_putBytes_15 ?_
        refine r_bald X Y S (aw_names _ _ _ _ _ _ _) rfl (by omega) (show a2 + z102 < ((480 : Nat) : Int) by omega) (by omega) d_M_putBytes_16 (fun z112 q112 l112 u112 => ?_)
        refine r_nv (m_run (As := [.int (iI z112)]) (rest := []) (n := 1) X Y hZ hA hml hl.1 (r_M_one l D E h q H.size I101 J101 B101 G101 z112 (by omega) (by omega) S.1 z104 e104 (by omega) (by omega)) kl_M_one ks_M_one kx_M_one ki_M_one ini_M hd_M_one ⟨Nat.le_of_ble_eq_true rfl, Nat.le_of_ble_eq_true rfl⟩ rfl (Nat.le_of_ble_eq_true rfl) d_M_putBytes_17 ⟨Nat.le_refl _, Nat.le_refl _⟩) X Y hA S (by decide) (by decide) (fun u H locs Y S s113 p113 => ?_)
        obtain ⟨I113, J113, B113, G113⟩ := u
        dsimp only at Y S s113 p113
        obtain ⟨x113, g113_MF⟩ := p113
        refine lv_iinc (v := iI (z102 - 1)) (lv' := [(4, .int (iI (z102 - 1))), (0, .ref h), (1, .ref ((q 44))), (2, .int (iI a2))]) X.1 X.2.1 d_M_putBytes_20 hl (k := 3) rfl ((iI_add _ _).trans (congrArg iI (by omega))) (by decide) rfl (fun ls hl => ?_)
        refine lv_goto (tgt := 5) X.1 X.2.1 d_M_putBytes_23 (by decide) ?_
        exact ih108 (((z102 - 1) - (-1)).toNat) (by omega) (z102 - 1) (z104 - 1) I113 J113 B113 G113 _ _ _ rfl (by omega) (by omega) (mmF_tr f103 g113_MF (by decide)) (x113.trans (congrArg iI (show (z104 - 1 : Int) = z104 - 1 by omega))) (by omega) (by omega) (by omega) (by omega) Y S (lv_sub hl [1, 2, 3, 0] rfl)
  refine lv_istore (lv' := [(4, .int (iI (a3 - 1))), (0, .ref h), (1, .ref ((q 44))), (2, .int (iI a2)), (3, .int (iI a3))]) X.1 X.2.1 d_M_putBytes_3 hl (by decide) rfl (fun ls hl => ?_)
  exact J107 _ (a3 - 1) wn I J B G _ _ _ rfl (by omega) (by omega) mmF_rf gwn (by omega) (by omega) (by omega) (by omega) Y S (lv_sub hl [1, 2, 3, 0] rfl)
set_option maxHeartbeats 4000000 in
set_option maxRecDepth 100000 in
theorem r_M_putParts_names (l : Launch) (D : mD) (E : mE) (h : Nat) (q : Nat → Nat) (sz : Nat) (I : Nat → Int32) (J : Nat → Int64) (B : Nat → Nat → Int32) (G : Nat → Nat → Int64) (a2 : Int) (l_a2 : 0 ≤ a2) (u_a2 : a2 ≤ 440) (a3 : Int) (l_a3 : 0 ≤ a3) (u_a3 : a3 ≤ 40) (hT : rT I B) (wn : Int) (gwn : I 42 = iI wn) (lwn : 30300 ≤ wn) (uwn : wn ≤ 60000) : Met l y_M_putParts (k_M_putParts :: lw_tg) (mR 3 106) (va_Pc [.ref h, .ref (q 44), .int (iI a2), .int (iI a3)] (mPre D E h q (I, J, B, G) sz)) (va_Qv (rPv [42] [0] I B (fun (u : mS) => (∃ V2 : Int, u.1 42 = iI V2 ∧ wn - (5 * a3 + 10) ≤ V2 ∧ V2 ≤ wn) ∧ mmF 30000 60000 (B 0) (u.2.2.1 0))) (mPost D E h q (mA E h q sz)) (mA E h q sz)) 0 0 (mA E h q sz) := by
  refine m_enter (by decide) rfl (Nat.le_of_ble_eq_true rfl) (fun p e s m below meth c ls AV QQ H locs hQQ X Y hZ hA hr hlk hml hl => ?_)
  have Y : mH D E (mA E h q sz) s.heap h q I J B G H locs := Y
  have S : rS [42] [0] I B I B := rS_rf hT
  have hl : lv_has ls 7 [(0, .ref h), (1, .ref ((q 44))), (2, .int (iI a2)), (3, .int (iI a3))] := hl
  refine lv_iload_n X.1 X.2.1 d_M_putParts_0 rfl (lv_at hl 3 rfl) ?_
  refine lv_istore (lv' := [(4, .int (iI a3)), (0, .ref h), (1, .ref ((q 44))), (2, .int (iI a2)), (3, .int (iI a3))]) X.1 X.2.1 d_M_putParts_1 hl (by decide) rfl (fun ls hl => ?_)
  refine lv_iload_n X.1 X.2.1 d_M_putParts_3 rfl (lv_at hl 4 rfl) ?_
  refine lv_iconst (v := iI 1) X.1 X.2.1 d_M_putParts_4 (by decide) ?_
  refine z_isub X.1 X.2.1 d_M_putParts_5 ?_
  have J110 : ∀ (n112 : Nat) (z102 : Int) (z103 : Int) (z105 : Int) (I101 : Nat → Int32) (J101 : Nat → Int64) (B101 : Nat → Nat → Int32) (G101 : Nat → Nat → Int64) (H : Heap) (locs : List Loc) (ls : Array Slot), (z103 - (-2)).toNat = n112 → ((-1) ≤ z102) → (z102 ≤ 40) → ((-2) ≤ z103) → (z103 ≤ 39) → (mmF 30000 60000 (B 0) (B101 0)) → (I101 42 = iI z105) → (0 ≤ z105) → (z105 ≤ 60000) → (wn - (a3 - z102) - 4 * (a3 - 1 - z103) ≤ z105) → (z105 ≤ wn) → (z103 ≤ z102 - 1) → (z102 ≤ a3) → mH D E (mA E h q sz) s.heap h q I101 J101 B101 G101 H locs → rS [42] [0] I B I101 B101 → lv_has ls 7 [(0, .ref h), (1, .ref ((q 44))), (2, .int (iI a2)), (4, .int (iI z102)), (5, .int (iI z103))] → W p l e (mR 3 106) s m AV below meth c H locs 0 0 QQ (F0 m 8 ls []) := by
    intro n112
    induction n112 using Nat.strongRecOn with
    | ind n112 ih111 =>
      intro z102 z103 z105 I101 J101 B101 G101 H locs ls hm113 l102 u102 l103 u103 f104 e105 l105 u105 i106 i107 i108 i109 Y S hl
      refine lv_iload X.1 X.2.1 d_M_putParts_8 (lv_at hl 4 rfl) ?_
      refine lv_iconst (v := iI (-1)) X.1 X.2.1 d_M_putParts_10 (by decide) ?_
      refine z_icmp_lt (tgt := 75) X.1 X.2.1 d_M_putParts_11 (by decide) ⟨by omega, by omega⟩ ⟨by omega, by omega⟩ (fun h114 => ?_) (fun h114 => ?_)
      · exact m_retv hQQ X Y hr hlk ⟨S, ⟨⟨z105, e105, by omega, by omega⟩, f104⟩⟩ d_M_putParts_75
      · refine lv_iload X.1 X.2.1 d_M_putParts_14 (lv_at hl 4 rfl) ?_
        refine z_if_lt (tgt := 33) X.1 X.2.1 d_M_putParts_16 (by decide) ⟨by omega, by omega⟩ (fun h115 => ?_) (fun h115 => ?_)
        · refine lv_aload_n X.1 X.2.1 d_M_putParts_33 rfl (lv_at hl 0 rfl) ?_
          refine r_get0 X Y (by decide) lk_w0 (gf_w0 _ _ _) rfl e105 d_M_putParts_34 ?_
          refine lv_istore (lv' := [(6, .int (iI z105)), (0, .ref h), (1, .ref ((q 44))), (2, .int (iI a2)), (4, .int (iI z102)), (5, .int (iI z103))]) X.1 X.2.1 d_M_putParts_37 hl (by decide) rfl (fun ls hl => ?_)
          refine lv_aload_n X.1 X.2.1 d_M_putParts_39 rfl (lv_at hl 1 rfl) ?_
          refine lv_aload_n X.1 X.2.1 d_M_putParts_40 rfl (lv_at hl 2 rfl) ?_
          refine lv_iload_n X.1 X.2.1 d_M_putParts_41 rfl (lv_at hl 3 rfl) ?_
          refine lv_iload X.1 X.2.1 d_M_putParts_42 (lv_at hl 5 rfl) ?_
          refine z_iadd X.1 X.2.1 d_M_putParts_44 ?_
          refine lv_iconst (v := iI 1) X.1 X.2.1 d_M_putParts_45 (by decide) ?_
          refine z_iadd X.1 X.2.1 d_M_putParts_46 ?_
          refine lv_iload X.1 X.2.1 d_M_putParts_47 (lv_at hl 4 rfl) ?_
          refine lv_iload X.1 X.2.1 d_M_putParts_49 (lv_at hl 5 rfl) ?_
          refine z_isub X.1 X.2.1 d_M_putParts_51 ?_
          refine lv_iconst (v := iI 1) X.1 X.2.1 d_M_putParts_52 (by decide) ?_
          refine z_isub X.1 X.2.1 d_M_putParts_53 ?_
          refine r_nv (m_run (As := [.ref ((q 44)), .int (iI ((a2 + z103) + 1)), .int (iI ((z102 - z103) - 1))]) (rest := []) (n := 3) X Y hZ hA hml hl.1 (r_M_putBytes_names l D E h q H.size I101 J101 B101 G101 ((a2 + z103) + 1) (by omega) (by omega) ((z102 - z103) - 1) (by omega) (by omega) S.1 z105 e105 (by omega) (by omega) (by omega) (by omega)) kl_M_putBytes ks_M_putBytes kx_M_putBytes ki_M_putBytes ini_M hd_M_putBytes ⟨Nat.le_of_ble_eq_true rfl, Nat.le_of_ble_eq_true rfl⟩ rfl (Nat.le_of_ble_eq_true rfl) d_M_putParts_54 ⟨Nat.le_refl _, Nat.le_refl _⟩) X Y hA S (by decide) (by decide) (fun u H locs Y S s116 p116 => ?_)
          obtain ⟨I116, J116, B116, G116⟩ := u
          dsimp only at Y S s116 p116
          obtain ⟨x116, g116_MF⟩ := p116
          obtain ⟨z117, e117, l117, u117⟩ := x116
          refine lv_aload_n X.1 X.2.1 d_M_putParts_57 rfl (lv_at hl 1 rfl) ?_
          refine lv_bipush (v := iI 27) X.1 X.2.1 d_M_putParts_58 (by decide) ?_
          refine lv_iload X.1 X.2.1 d_M_putParts_60 (lv_at hl 0 rfl) ?_
          refine r_nv (m_run (As := [.int (iI 27), .int (iI z105)]) (rest := []) (n := 2) X Y hZ hA hml hl.1 (r_M_head l D E h q H.size I116 J116 B116 G116 27 (by omega) (by omega) z105 (by omega) (by omega) S.1 z117 e117 (by omega) (by omega)) kl_M_head ks_M_head kx_M_head ki_M_head ini_M hd_M_head ⟨Nat.le_of_ble_eq_true rfl, Nat.le_of_ble_eq_true rfl⟩ rfl (Nat.le_of_ble_eq_true rfl) d_M_putParts_62 ⟨Nat.le_refl _, Nat.le_refl _⟩) X Y hA S (by decide) (by decide) (fun u H locs Y S s118 p118 => ?_)
          obtain ⟨I118, J118, B118, G118⟩ := u
          dsimp only at Y S s118 p118
          obtain ⟨x118, g118_MF⟩ := p118
          obtain ⟨z119, e119, l119, u119⟩ := x118
          refine lv_iload X.1 X.2.1 d_M_putParts_65 (lv_at hl 5 rfl) ?_
          refine lv_istore (lv' := [(4, .int (iI z103)), (6, .int (iI z105)), (0, .ref h), (1, .ref ((q 44))), (2, .int (iI a2)), (5, .int (iI z103))]) X.1 X.2.1 d_M_putParts_67 hl (by decide) rfl (fun ls hl => ?_)
          refine lv_iinc (v := iI (z103 - 1)) (lv' := [(5, .int (iI (z103 - 1))), (4, .int (iI z103)), (6, .int (iI z105)), (0, .ref h), (1, .ref ((q 44))), (2, .int (iI a2))]) X.1 X.2.1 d_M_putParts_69 hl (k := 5) rfl ((iI_add _ _).trans (congrArg iI (by omega))) (by decide) rfl (fun ls hl => ?_)
          refine lv_goto (tgt := 8) X.1 X.2.1 d_M_putParts_72 (by decide) ?_
          exact ih111 (((z103 - 1) - (-2)).toNat) (by omega) z103 (z103 - 1) z119 I118 J118 B118 G118 _ _ _ rfl (by omega) (by omega) (by omega) (by omega) (mmF_tr (mmF_tr f104 g116_MF (by decide)) g118_MF (by decide)) e119 (by omega) (by omega) (by omega) (by omega) (by omega) (by omega) Y S (lv_sub hl [3, 4, 5, 1, 0] rfl)
        · refine lv_aload_n X.1 X.2.1 d_M_putParts_19 rfl (lv_at hl 1 rfl) ?_
          refine lv_iload_n X.1 X.2.1 d_M_putParts_20 rfl (lv_at hl 2 rfl) ?_
          refine lv_iload X.1 X.2.1 d_M_putParts_21 (lv_at hl 4 rfl) ?_
          refine z_iadd X.1 X.2.1 d_M_putParts_23 ?_
          refine r_bald X Y S (aw_names _ _ _ _ _ _ _) rfl (by omega) (show a2 + z103 < ((480 : Nat) : Int) by omega) (by omega) d_M_putParts_24 (fun z120 q120 l120 u120 => ?_)
          refine lv_bipush (v := iI 47) X.1 X.2.1 d_M_putParts_25 (by decide) ?_
          refine z_icmp_eq (tgt := 33) X.1 X.2.1 d_M_putParts_27 (by decide) ⟨by omega, by omega⟩ ⟨by omega, by omega⟩ (fun h121 => ?_) (fun h121 => ?_)
          · refine lv_aload_n X.1 X.2.1 d_M_putParts_33 rfl (lv_at hl 0 rfl) ?_
            refine r_get0 X Y (by decide) lk_w0 (gf_w0 _ _ _) rfl e105 d_M_putParts_34 ?_
            refine lv_istore (lv' := [(6, .int (iI z105)), (0, .ref h), (1, .ref ((q 44))), (2, .int (iI a2)), (4, .int (iI z102)), (5, .int (iI z103))]) X.1 X.2.1 d_M_putParts_37 hl (by decide) rfl (fun ls hl => ?_)
            refine lv_aload_n X.1 X.2.1 d_M_putParts_39 rfl (lv_at hl 1 rfl) ?_
            refine lv_aload_n X.1 X.2.1 d_M_putParts_40 rfl (lv_at hl 2 rfl) ?_
            refine lv_iload_n X.1 X.2.1 d_M_putParts_41 rfl (lv_at hl 3 rfl) ?_
            refine lv_iload X.1 X.2.1 d_M_putParts_42 (lv_at hl 5 rfl) ?_
            refine z_iadd X.1 X.2.1 d_M_putParts_44 ?_
            refine lv_iconst (v := iI 1) X.1 X.2.1 d_M_putParts_45 (by decide) ?_
            refine z_iadd X.1 X.2.1 d_M_putParts_46 ?_
            refine lv_iload X.1 X.2.1 d_M_putParts_47 (lv_at hl 4 rfl) ?_
            refine lv_iload X.1 X.2.1 d_M_putParts_49 (lv_at hl 5 rfl) ?_
            refine z_isub X.1 X.2.1 d_M_putParts_51 ?_
            refine lv_iconst (v := iI 1) X.1 X.2.1 d_M_putParts_52 (by decide) ?_
            refine z_isub X.1 X.2.1 d_M_putParts_53 ?_
            refine r_nv (m_run (As := [.ref ((q 44)), .int (iI ((a2 + z103) + 1)), .int (iI ((z102 - z103) - 1))]) (rest := []) (n := 3) X Y hZ hA hml hl.1 (r_M_putBytes_names l D E h q H.size I101 J101 B101 G101 ((a2 + z103) + 1) (by omega) (by omega) ((z102 - z103) - 1) (by omega) (by omega) S.1 z105 e105 (by omega) (by omega) (by omega) (by omega)) kl_M_putBytes ks_M_putBytes kx_M_putBytes ki_M_putBytes ini_M hd_M_putBytes ⟨Nat.le_of_ble_eq_true rfl, Nat.le_of_ble_eq_true rfl⟩ rfl (Nat.le_of_ble_eq_true rfl) d_M_putParts_54 ⟨Nat.le_refl _, Nat.le_refl _⟩) X Y hA S (by decide) (by decide) (fun u H locs Y S s122 p122 => ?_)
            obtain ⟨I122, J122, B122, G122⟩ := u
            dsimp only at Y S s122 p122
            obtain ⟨x122, g122_MF⟩ := p122
            obtain ⟨z123, e123, l123, u123⟩ := x122
            refine lv_aload_n X.1 X.2.1 d_M_putParts_57 rfl (lv_at hl 1 rfl) ?_
            refine lv_bipush (v := iI 27) X.1 X.2.1 d_M_putParts_58 (by decide) ?_
            refine lv_iload X.1 X.2.1 d_M_putParts_60 (lv_at hl 0 rfl) ?_
            refine r_nv (m_run (As := [.int (iI 27), .int (iI z105)]) (rest := []) (n := 2) X Y hZ hA hml hl.1 (r_M_head l D E h q H.size I122 J122 B122 G122 27 (by omega) (by omega) z105 (by omega) (by omega) S.1 z123 e123 (by omega) (by omega)) kl_M_head ks_M_head kx_M_head ki_M_head ini_M hd_M_head ⟨Nat.le_of_ble_eq_true rfl, Nat.le_of_ble_eq_true rfl⟩ rfl (Nat.le_of_ble_eq_true rfl) d_M_putParts_62 ⟨Nat.le_refl _, Nat.le_refl _⟩) X Y hA S (by decide) (by decide) (fun u H locs Y S s124 p124 => ?_)
            obtain ⟨I124, J124, B124, G124⟩ := u
            dsimp only at Y S s124 p124
            obtain ⟨x124, g124_MF⟩ := p124
            obtain ⟨z125, e125, l125, u125⟩ := x124
            refine lv_iload X.1 X.2.1 d_M_putParts_65 (lv_at hl 5 rfl) ?_
            refine lv_istore (lv' := [(4, .int (iI z103)), (6, .int (iI z105)), (0, .ref h), (1, .ref ((q 44))), (2, .int (iI a2)), (5, .int (iI z103))]) X.1 X.2.1 d_M_putParts_67 hl (by decide) rfl (fun ls hl => ?_)
            refine lv_iinc (v := iI (z103 - 1)) (lv' := [(5, .int (iI (z103 - 1))), (4, .int (iI z103)), (6, .int (iI z105)), (0, .ref h), (1, .ref ((q 44))), (2, .int (iI a2))]) X.1 X.2.1 d_M_putParts_69 hl (k := 5) rfl ((iI_add _ _).trans (congrArg iI (by omega))) (by decide) rfl (fun ls hl => ?_)
            refine lv_goto (tgt := 8) X.1 X.2.1 d_M_putParts_72 (by decide) ?_
            exact ih111 (((z103 - 1) - (-2)).toNat) (by omega) z103 (z103 - 1) z125 I124 J124 B124 G124 _ _ _ rfl (by omega) (by omega) (by omega) (by omega) (mmF_tr (mmF_tr f104 g122_MF (by decide)) g124_MF (by decide)) e125 (by omega) (by omega) (by omega) (by omega) (by omega) (by omega) Y S (lv_sub hl [3, 4, 5, 1, 0] rfl)
          · refine lv_goto (tgt := 69) X.1 X.2.1 d_M_putParts_30 (by decide) ?_
            refine lv_iinc (v := iI (z103 - 1)) (lv' := [(5, .int (iI (z103 - 1))), (0, .ref h), (1, .ref ((q 44))), (2, .int (iI a2)), (4, .int (iI z102))]) X.1 X.2.1 d_M_putParts_69 hl (k := 4) rfl ((iI_add _ _).trans (congrArg iI (by omega))) (by decide) rfl (fun ls hl => ?_)
            refine lv_goto (tgt := 8) X.1 X.2.1 d_M_putParts_72 (by decide) ?_
            exact ih111 (((z103 - 1) - (-2)).toNat) (by omega) z102 (z103 - 1) z105 I101 J101 B101 G101 _ _ _ rfl (by omega) (by omega) (by omega) (by omega) f104 e105 (by omega) (by omega) (by omega) (by omega) (by omega) (by omega) Y S (lv_sub hl [1, 2, 3, 4, 0] rfl)
  refine lv_istore (lv' := [(5, .int (iI (a3 - 1))), (4, .int (iI a3)), (0, .ref h), (1, .ref ((q 44))), (2, .int (iI a2)), (3, .int (iI a3))]) X.1 X.2.1 d_M_putParts_6 hl (by decide) rfl (fun ls hl => ?_)
  exact J110 _ a3 (a3 - 1) wn I J B G _ _ _ rfl (by omega) (by omega) (by omega) (by omega) mmF_rf gwn (by omega) (by omega) (by omega) (by omega) (by omega) (by omega) Y S (lv_sub hl [2, 3, 4, 1, 0] rfl)
set_option maxHeartbeats 4000000 in
set_option maxRecDepth 100000 in
theorem r_M_nameField (l : Launch) (D : mD) (E : mE) (h : Nat) (q : Nat → Nat) (sz : Nat) (I : Nat → Int32) (J : Nat → Int64) (B : Nat → Nat → Int32) (G : Nat → Nat → Int64) (a1 : Int) (l_a1 : (-2147483648) ≤ a1) (u_a1 : a1 ≤ 2147483647) (a2 : Int) (l_a2 : 0 ≤ a2) (u_a2 : a2 ≤ 11) (a3 : Int) (l_a3 : (-2147483648) ≤ a3) (u_a3 : a3 ≤ 2147483647) (hT : rT I B) (wn : Int) (gwn : I 42 = iI wn) (lwn : 30700 ≤ wn) (uwn : wn ≤ 60000) : Met l y_M_nameField (k_M_nameField :: lw_tg) (mR 5 157) (va_Pc [.ref h, .int (iI a1), .int (iI a2), .int (iI a3)] (mPre D E h q (I, J, B, G) sz)) (va_Qv (rPv [42] [0] I B (fun (u : mS) => (∃ V2 : Int, u.1 42 = iI V2 ∧ wn - (300) ≤ V2 ∧ V2 ≤ wn) ∧ mmF 30000 60000 (B 0) (u.2.2.1 0))) (mPost D E h q (mA E h q sz)) (mA E h q sz)) 0 0 (mA E h q sz) := by
  refine m_enter (by decide) rfl (Nat.le_of_ble_eq_true rfl) (fun p e s m below meth c ls AV QQ H locs hQQ X Y hZ hA hr hlk hml hl => ?_)
  have Y : mH D E (mA E h q sz) s.heap h q I J B G H locs := Y
  have S : rS [42] [0] I B I B := rS_rf hT
  have hl : lv_has ls 6 [(0, .ref h), (1, .int (iI a1)), (2, .int (iI a2)), (3, .int (iI a3))] := hl
  refine lv_aload_n X.1 X.2.1 d_M_nameField_0 rfl (lv_at hl 0 rfl) ?_
  refine r_get0 X Y (by decide) lk_w0 (gf_w0 _ _ _) rfl gwn d_M_nameField_1 ?_
  refine lv_istore (lv' := [(4, .int (iI wn)), (0, .ref h), (1, .int (iI a1)), (2, .int (iI a2)), (3, .int (iI a3))]) X.1 X.2.1 d_M_nameField_4 hl (by decide) rfl (fun ls hl => ?_)
  refine lv_aload_n X.1 X.2.1 d_M_nameField_6 rfl (lv_at hl 1 rfl) ?_
  refine r_get0 X Y (by decide) lk_w0 (gf_w0 _ _ _) rfl gwn d_M_nameField_7 ?_
  refine lv_istore (lv' := [(5, .int (iI wn)), (4, .int (iI wn)), (0, .ref h), (1, .int (iI a1)), (2, .int (iI a2)), (3, .int (iI a3))]) X.1 X.2.1 d_M_nameField_10 hl (by decide) rfl (fun ls hl => ?_)
  refine lv_aload_n X.1 X.2.1 d_M_nameField_12 rfl (lv_at hl 2 rfl) ?_
  refine lv_aload_n X.1 X.2.1 d_M_nameField_13 rfl (lv_at hl 2 rfl) ?_
  refine m_get X Y 44 (by decide) lk_names (gf_names _ _ _) rfl d_M_nameField_14 ?_
  refine lv_bipush (v := iI 40) X.1 X.2.1 d_M_nameField_17 (by decide) ?_
  refine lv_iload_n X.1 X.2.1 d_M_nameField_19 rfl (lv_at hl 4 rfl) ?_
  refine z_imul X.1 X.2.1 d_M_nameField_20 ?_
  refine lv_aload_n X.1 X.2.1 d_M_nameField_21 rfl (lv_at hl 2 rfl) ?_
  refine m_get X Y 45 (by decide) lk_nameSizes (gf_nameSizes _ _ _) rfl d_M_nameField_22 ?_
  refine lv_iload_n X.1 X.2.1 d_M_nameField_25 rfl (lv_at hl 4 rfl) ?_
  refine r_iald X Y S (aw_nameSizes _ _ _ _ _ _ _) rfl (by omega) (show a2 < ((12 : Nat) : Int) by omega) (by omega) d_M_nameField_26 (fun z101 q101 l101 u101 => ?_)
  refine r_nv (m_run (As := [.ref ((q 44)), .int (iI (40 * a2)), .int (iI z101)]) (rest := []) (n := 3) X Y hZ hA hml hl.1 (r_M_putParts_names l D E h q H.size I J B G (40 * a2) (by omega) (by omega) z101 (by omega) (by omega) S.1 wn gwn (by omega) (by omega)) kl_M_putParts ks_M_putParts kx_M_putParts ki_M_putParts ini_M hd_M_putParts ⟨Nat.le_of_ble_eq_true rfl, Nat.le_of_ble_eq_true rfl⟩ rfl (Nat.le_of_ble_eq_true rfl) d_M_nameField_27 ⟨Nat.le_refl _, Nat.le_refl _⟩) X Y hA S (by decide) (by decide) (fun u H locs Y S s102 p102 => ?_)
  obtain ⟨I102, J102, B102, G102⟩ := u
  dsimp only at Y S s102 p102
  obtain ⟨x102, g102_MF⟩ := p102
  obtain ⟨z103, e103, l103, u103⟩ := x102
  refine lv_aload_n X.1 X.2.1 d_M_nameField_30 rfl (lv_at hl 2 rfl) ?_
  refine lv_bipush (v := iI 48) X.1 X.2.1 d_M_nameField_31 (by decide) ?_
  refine lv_iload X.1 X.2.1 d_M_nameField_33 (lv_at hl 0 rfl) ?_
  refine r_nv (m_run (As := [.int (iI 48), .int (iI wn)]) (rest := []) (n := 2) X Y hZ hA hml hl.1 (r_M_head l D E h q H.size I102 J102 B102 G102 48 (by omega) (by omega) wn (by omega) (by omega) S.1 z103 e103 (by omega) (by omega)) kl_M_head ks_M_head kx_M_head ki_M_head ini_M hd_M_head ⟨Nat.le_of_ble_eq_true rfl, Nat.le_of_ble_eq_true rfl⟩ rfl (Nat.le_of_ble_eq_true rfl) d_M_nameField_35 ⟨Nat.le_refl _, Nat.le_refl _⟩) X Y hA S (by decide) (by decide) (fun u H locs Y S s104 p104 => ?_)
  obtain ⟨I104, J104, B104, G104⟩ := u
  dsimp only at Y S s104 p104
  obtain ⟨x104, g104_MF⟩ := p104
  obtain ⟨z105, e105, l105, u105⟩ := x104
  refine lv_aload_n X.1 X.2.1 d_M_nameField_38 rfl (lv_at hl 2 rfl) ?_
  refine lv_iconst (v := iI 1) X.1 X.2.1 d_M_nameField_39 (by decide) ?_
  refine lv_iload X.1 X.2.1 d_M_nameField_40 (lv_at hl 0 rfl) ?_
  refine r_nv (m_run (As := [.int (iI 1), .int (iI wn)]) (rest := []) (n := 2) X Y hZ hA hml hl.1 (r_M_field l D E h q H.size I104 J104 B104 G104 1 (by omega) (by omega) wn (by omega) (by omega) S.1 z105 e105 (by omega) (by omega)) kl_M_field ks_M_field kx_M_field ki_M_field ini_M hd_M_field ⟨Nat.le_of_ble_eq_true rfl, Nat.le_of_ble_eq_true rfl⟩ rfl (Nat.le_of_ble_eq_true rfl) d_M_nameField_42 ⟨Nat.le_refl _, Nat.le_refl _⟩) X Y hA S (by decide) (by decide) (fun u H locs Y S s106 p106 => ?_)
  obtain ⟨I106, J106, B106, G106⟩ := u
  dsimp only at Y S s106 p106
  obtain ⟨x106, g106_MF⟩ := p106
  obtain ⟨z107, e107, l107, u107⟩ := x106
  refine lv_aload_n X.1 X.2.1 d_M_nameField_45 rfl (lv_at hl 2 rfl) ?_
  refine lv_iconst (v := iI 0) X.1 X.2.1 d_M_nameField_46 (by decide) ?_
  refine lv_iload_n X.1 X.2.1 d_M_nameField_47 rfl (lv_at hl 5 rfl) ?_
  refine lv_i2l X.1 X.2.1 d_M_nameField_48 rfl ?_
  refine t_anyl (fun v108 => ?_)
  refine r_nv (m_run (As := [.int (iI 0), .long v108]) (rest := []) (n := 2) X Y hZ hA hml hl.1 (r_M_numberField l D E h q H.size I106 J106 B106 G106 0 (by omega) (by omega) v108 S.1 z107 e107 (by omega) (by omega)) kl_M_numberField ks_M_numberField kx_M_numberField ki_M_numberField ini_M hd_M_numberField ⟨Nat.le_of_ble_eq_true rfl, Nat.le_of_ble_eq_true rfl⟩ rfl (Nat.le_of_ble_eq_true rfl) d_M_nameField_49 ⟨Nat.le_refl _, Nat.le_refl _⟩) X Y hA S (by decide) (by decide) (fun u H locs Y S s109 p109 => ?_)
  obtain ⟨I109, J109, B109, G109⟩ := u
  dsimp only at Y S s109 p109
  obtain ⟨x109, g109_MF⟩ := p109
  obtain ⟨z110, e110, l110, u110⟩ := x109
  refine lv_aload_n X.1 X.2.1 d_M_nameField_52 rfl (lv_at hl 2 rfl) ?_
  refine lv_bipush (v := iI 48) X.1 X.2.1 d_M_nameField_53 (by decide) ?_
  refine lv_iload X.1 X.2.1 d_M_nameField_55 (lv_at hl 1 rfl) ?_
  refine r_nv (m_run (As := [.int (iI 48), .int (iI wn)]) (rest := []) (n := 2) X Y hZ hA hml hl.1 (r_M_head l D E h q H.size I109 J109 B109 G109 48 (by omega) (by omega) wn (by omega) (by omega) S.1 z110 e110 (by omega) (by omega)) kl_M_head ks_M_head kx_M_head ki_M_head ini_M hd_M_head ⟨Nat.le_of_ble_eq_true rfl, Nat.le_of_ble_eq_true rfl⟩ rfl (Nat.le_of_ble_eq_true rfl) d_M_nameField_57 ⟨Nat.le_refl _, Nat.le_refl _⟩) X Y hA S (by decide) (by decide) (fun u H locs Y S s111 p111 => ?_)
  obtain ⟨I111, J111, B111, G111⟩ := u
  dsimp only at Y S s111 p111
  obtain ⟨x111, g111_MF⟩ := p111
  obtain ⟨z112, e112, l112, u112⟩ := x111
  refine lv_aload_n X.1 X.2.1 d_M_nameField_60 rfl (lv_at hl 2 rfl) ?_
  refine lv_iload_n X.1 X.2.1 d_M_nameField_61 rfl (lv_at hl 3 rfl) ?_
  refine lv_iload X.1 X.2.1 d_M_nameField_62 (lv_at hl 1 rfl) ?_
  refine r_nv (m_run (As := [.int (iI a1), .int (iI wn)]) (rest := []) (n := 2) X Y hZ hA hml hl.1 (r_M_field l D E h q H.size I111 J111 B111 G111 a1 (by omega) (by omega) wn (by omega) (by omega) S.1 z112 e112 (by omega) (by omega)) kl_M_field ks_M_field kx_M_field ki_M_field ini_M hd_M_field ⟨Nat.le_of_ble_eq_true rfl, Nat.le_of_ble_eq_true rfl⟩ rfl (Nat.le_of_ble_eq_true rfl) d_M_nameField_64 ⟨Nat.le_refl _, Nat.le_refl _⟩) X Y hA S (by decide) (by decide) (fun u H locs Y S s113 p113 => ?_)
  obtain ⟨I113, J113, B113, G113⟩ := u
  dsimp only at Y S s113 p113
  obtain ⟨x113, g113_MF⟩ := p113
  obtain ⟨z114, e114, l114, u114⟩ := x113
  exact m_retv hQQ X Y hr hlk ⟨S, ⟨⟨z114, e114, by omega, by omega⟩, (mmF_tr (mmF_tr (mmF_tr (mmF_tr (mmF_tr (mmF_tr mmF_rf g102_MF (by decide)) g104_MF (by decide)) g106_MF (by decide)) g109_MF (by decide)) g111_MF (by decide)) g113_MF (by decide))⟩⟩ d_M_nameField_67
set_option maxHeartbeats 4000000 in
set_option maxRecDepth 100000 in
theorem r_M_putBytes_clientBytes (l : Launch) (D : mD) (E : mE) (h : Nat) (q : Nat → Nat) (sz : Nat) (I : Nat → Int32) (J : Nat → Int64) (B : Nat → Nat → Int32) (G : Nat → Nat → Int64) (a2 : Int) (l_a2 : 0 ≤ a2) (u_a2 : a2 ≤ 12800) (a3 : Int) (l_a3 : 0 ≤ a3) (u_a3 : a3 ≤ 12800) (hT : rT I B) (wn : Int) (gwn : I 42 = iI wn) (lwn : 30000 ≤ wn) (uwn : wn ≤ 60000) (q0 : a2 + a3 ≤ 12800) (q1 : 30000 + a3 ≤ wn) : Met l y_M_putBytes (k_M_putBytes :: lw_tg) (mR 2 81) (va_Pc [.ref h, .ref (q 107), .int (iI a2), .int (iI a3)] (mPre D E h q (I, J, B, G) sz)) (va_Qv (rPv [42] [0] I B (fun (u : mS) => (∃ V2 : Int, u.1 42 = iI V2 ∧ wn - (a3) ≤ V2 ∧ V2 ≤ wn) ∧ mmF 30000 60000 (B 0) (u.2.2.1 0))) (mPost D E h q (mA E h q sz)) (mA E h q sz)) 0 0 (mA E h q sz) := by
  refine m_enter (by decide) rfl (Nat.le_of_ble_eq_true rfl) (fun p e s m below meth c ls AV QQ H locs hQQ X Y hZ hA hr hlk hml hl => ?_)
  have Y : mH D E (mA E h q sz) s.heap h q I J B G H locs := Y
  have S : rS [42] [0] I B I B := rS_rf hT
  have hl : lv_has ls 5 [(0, .ref h), (1, .ref ((q 107))), (2, .int (iI a2)), (3, .int (iI a3))] := hl
  refine lv_iload_n X.1 X.2.1 d_M_putBytes_0 rfl (lv_at hl 3 rfl) ?_
  refine lv_iconst (v := iI 1) X.1 X.2.1 d_M_putBytes_1 (by decide) ?_
  refine z_isub X.1 X.2.1 d_M_putBytes_2 ?_
  have J107 : ∀ (n109 : Nat) (z102 : Int) (z104 : Int) (I101 : Nat → Int32) (J101 : Nat → Int64) (B101 : Nat → Nat → Int32) (G101 : Nat → Nat → Int64) (H : Heap) (locs : List Loc) (ls : Array Slot), (z102 - (-1)).toNat = n109 → ((-1) ≤ z102) → (z102 ≤ 12799) → (mmF 30000 60000 (B 0) (B101 0)) → (I101 42 = iI z104) → (0 ≤ z104) → (z104 ≤ 60000) → (z104 = wn - (a3 - 1 - z102)) → (z102 ≤ a3 - 1) → mH D E (mA E h q sz) s.heap h q I101 J101 B101 G101 H locs → rS [42] [0] I B I101 B101 → lv_has ls 5 [(0, .ref h), (1, .ref ((q 107))), (2, .int (iI a2)), (4, .int (iI z102))] → W p l e (mR 2 81) s m AV below meth c H locs 0 0 QQ (F0 m 5 ls []) := by
    intro n109
    induction n109 using Nat.strongRecOn with
    | ind n109 ih108 =>
      intro z102 z104 I101 J101 B101 G101 H locs ls hm110 l102 u102 f103 e104 l104 u104 i105 i106 Y S hl
      refine lv_iload X.1 X.2.1 d_M_putBytes_5 (lv_at hl 3 rfl) ?_
      refine z_if_lt (tgt := 26) X.1 X.2.1 d_M_putBytes_7 (by decide) ⟨by omega, by omega⟩ (fun h111 => ?_) (fun h111 => ?_)
      · exact m_retv hQQ X Y hr hlk ⟨S, ⟨⟨z104, e104, by omega, by omega⟩, f103⟩⟩ d_M_putBytes_26
      · refine lv_aload_n X.1 X.2.1 d_M_putBytes_10 rfl (lv_at hl 0 rfl) ?_
        refine lv_aload_n X.1 X.2.1 d_M_putBytes_11 rfl (lv_at hl 1 rfl) ?_
        refine lv_iload_n X.1 X.2.1 d_M_putBytes_12 rfl (lv_at hl 2 rfl) ?_
        refine lv_iload X.1 X.2.1 d_M_putBytes_13 (lv_at hl 3 rfl) ?_
        refine z_iadd X.1 X.2.1 d_M_putBytes_15 ?_
        refine r_bald X Y S (aw_clientBytes _ _ _ _ _ _ _) rfl (by omega) (show a2 + z102 < ((12800 : Nat) : Int) by omega) (by omega) d_M_putBytes_16 (fun z112 q112 l112 u112 => ?_)
        refine r_nv (m_run (As := [.int (iI z112)]) (rest := []) (n := 1) X Y hZ hA hml hl.1 (r_M_one l D E h q H.size I101 J101 B101 G101 z112 (by omega) (by omega) S.1 z104 e104 (by omega) (by omega)) kl_M_one ks_M_one kx_M_one ki_M_one ini_M hd_M_one ⟨Nat.le_of_ble_eq_true rfl, Nat.le_of_ble_eq_true rfl⟩ rfl (Nat.le_of_ble_eq_true rfl) d_M_putBytes_17 ⟨Nat.le_refl _, Nat.le_refl _⟩) X Y hA S (by decide) (by decide) (fun u H locs Y S s113 p113 => ?_)
        obtain ⟨I113, J113, B113, G113⟩ := u
        dsimp only at Y S s113 p113
        obtain ⟨x113, g113_MF⟩ := p113
        refine lv_iinc (v := iI (z102 - 1)) (lv' := [(4, .int (iI (z102 - 1))), (0, .ref h), (1, .ref ((q 107))), (2, .int (iI a2))]) X.1 X.2.1 d_M_putBytes_20 hl (k := 3) rfl ((iI_add _ _).trans (congrArg iI (by omega))) (by decide) rfl (fun ls hl => ?_)
        refine lv_goto (tgt := 5) X.1 X.2.1 d_M_putBytes_23 (by decide) ?_
        exact ih108 (((z102 - 1) - (-1)).toNat) (by omega) (z102 - 1) (z104 - 1) I113 J113 B113 G113 _ _ _ rfl (by omega) (by omega) (mmF_tr f103 g113_MF (by decide)) (x113.trans (congrArg iI (show (z104 - 1 : Int) = z104 - 1 by omega))) (by omega) (by omega) (by omega) (by omega) Y S (lv_sub hl [1, 2, 3, 0] rfl)
  refine lv_istore (lv' := [(4, .int (iI (a3 - 1))), (0, .ref h), (1, .ref ((q 107))), (2, .int (iI a2)), (3, .int (iI a3))]) X.1 X.2.1 d_M_putBytes_3 hl (by decide) rfl (fun ls hl => ?_)
  exact J107 _ (a3 - 1) wn I J B G _ _ _ rfl (by omega) (by omega) mmF_rf gwn (by omega) (by omega) (by omega) (by omega) Y S (lv_sub hl [1, 2, 3, 0] rfl)
set_option maxHeartbeats 4000000 in
set_option maxRecDepth 100000 in
theorem r_M_rowField_clientBytes (l : Launch) (D : mD) (E : mE) (h : Nat) (q : Nat → Nat) (sz : Nat) (I : Nat → Int32) (J : Nat → Int64) (B : Nat → Nat → Int32) (G : Nat → Nat → Int64) (a1 : Int) (l_a1 : (-2147483648) ≤ a1) (u_a1 : a1 ≤ 2147483647) (a3 : Int) (l_a3 : 0 ≤ a3) (u_a3 : a3 ≤ 12800) (a4 : Int) (l_a4 : 0 ≤ a4) (u_a4 : a4 ≤ 4200) (hT : rT I B) (wn : Int) (gwn : I 42 = iI wn) (lwn : 30200 ≤ wn) (uwn : wn ≤ 60000) (q0 : a3 + a4 ≤ 12800) (q1 : 30200 + a4 ≤ wn) : Met l y_M_rowField (k_M_rowField :: lw_tg) (mR 4 128) (va_Pc [.ref h, .int (iI a1), .ref (q 107), .int (iI a3), .int (iI a4)] (mPre D E h q (I, J, B, G) sz)) (va_Qv (rPv [42] [0] I B (fun (u : mS) => (∃ V2 : Int, u.1 42 = iI V2 ∧ wn - (a4 + 8) ≤ V2 ∧ V2 ≤ wn) ∧ mmF 30000 60000 (B 0) (u.2.2.1 0))) (mPost D E h q (mA E h q sz)) (mA E h q sz)) 0 0 (mA E h q sz) := by
  refine m_enter (by decide) rfl (Nat.le_of_ble_eq_true rfl) (fun p e s m below meth c ls AV QQ H locs hQQ X Y hZ hA hr hlk hml hl => ?_)
  have Y : mH D E (mA E h q sz) s.heap h q I J B G H locs := Y
  have S : rS [42] [0] I B I B := rS_rf hT
  have hl : lv_has ls 6 [(0, .ref h), (1, .int (iI a1)), (2, .ref ((q 107))), (3, .int (iI a3)), (4, .int (iI a4))] := hl
  refine lv_aload_n X.1 X.2.1 d_M_rowField_0 rfl (lv_at hl 0 rfl) ?_
  refine r_get0 X Y (by decide) lk_w0 (gf_w0 _ _ _) rfl gwn d_M_rowField_1 ?_
  refine lv_istore (lv' := [(5, .int (iI wn)), (0, .ref h), (1, .int (iI a1)), (2, .ref ((q 107))), (3, .int (iI a3)), (4, .int (iI a4))]) X.1 X.2.1 d_M_rowField_4 hl (by decide) rfl (fun ls hl => ?_)
  refine lv_aload_n X.1 X.2.1 d_M_rowField_6 rfl (lv_at hl 1 rfl) ?_
  refine lv_aload_n X.1 X.2.1 d_M_rowField_7 rfl (lv_at hl 3 rfl) ?_
  refine lv_iload_n X.1 X.2.1 d_M_rowField_8 rfl (lv_at hl 4 rfl) ?_
  refine lv_iload X.1 X.2.1 d_M_rowField_9 (lv_at hl 5 rfl) ?_
  refine r_nv (m_run (As := [.ref ((q 107)), .int (iI a3), .int (iI a4)]) (rest := []) (n := 3) X Y hZ hA hml hl.1 (r_M_putBytes_clientBytes l D E h q H.size I J B G a3 (by omega) (by omega) a4 (by omega) (by omega) S.1 wn gwn (by omega) (by omega) (by omega) (by omega)) kl_M_putBytes ks_M_putBytes kx_M_putBytes ki_M_putBytes ini_M hd_M_putBytes ⟨Nat.le_of_ble_eq_true rfl, Nat.le_of_ble_eq_true rfl⟩ rfl (Nat.le_of_ble_eq_true rfl) d_M_rowField_11 ⟨Nat.le_refl _, Nat.le_refl _⟩) X Y hA S (by decide) (by decide) (fun u H locs Y S s101 p101 => ?_)
  obtain ⟨I101, J101, B101, G101⟩ := u
  dsimp only at Y S s101 p101
  obtain ⟨x101, g101_MF⟩ := p101
  obtain ⟨z102, e102, l102, u102⟩ := x101
  refine lv_aload_n X.1 X.2.1 d_M_rowField_14 rfl (lv_at hl 1 rfl) ?_
  refine lv_iload_n X.1 X.2.1 d_M_rowField_15 rfl (lv_at hl 2 rfl) ?_
  refine lv_iload X.1 X.2.1 d_M_rowField_16 (lv_at hl 0 rfl) ?_
  refine r_nv (m_run (As := [.int (iI a1), .int (iI wn)]) (rest := []) (n := 2) X Y hZ hA hml hl.1 (r_M_field l D E h q H.size I101 J101 B101 G101 a1 (by omega) (by omega) wn (by omega) (by omega) S.1 z102 e102 (by omega) (by omega)) kl_M_field ks_M_field kx_M_field ki_M_field ini_M hd_M_field ⟨Nat.le_of_ble_eq_true rfl, Nat.le_of_ble_eq_true rfl⟩ rfl (Nat.le_of_ble_eq_true rfl) d_M_rowField_18 ⟨Nat.le_refl _, Nat.le_refl _⟩) X Y hA S (by decide) (by decide) (fun u H locs Y S s103 p103 => ?_)
  obtain ⟨I103, J103, B103, G103⟩ := u
  dsimp only at Y S s103 p103
  obtain ⟨x103, g103_MF⟩ := p103
  obtain ⟨z104, e104, l104, u104⟩ := x103
  exact m_retv hQQ X Y hr hlk ⟨S, ⟨⟨z104, e104, by omega, by omega⟩, (mmF_tr (mmF_tr mmF_rf g101_MF (by decide)) g103_MF (by decide))⟩⟩ d_M_rowField_21
set_option maxHeartbeats 4000000 in
set_option maxRecDepth 100000 in
theorem r_M_putBytes_ticketBytes (l : Launch) (D : mD) (E : mE) (h : Nat) (q : Nat → Nat) (sz : Nat) (I : Nat → Int32) (J : Nat → Int64) (B : Nat → Nat → Int32) (G : Nat → Nat → Int64) (a2 : Int) (l_a2 : 0 ≤ a2) (u_a2 : a2 ≤ 134400) (a3 : Int) (l_a3 : 0 ≤ a3) (u_a3 : a3 ≤ 19100) (hT : rT I B) (wn : Int) (gwn : I 42 = iI wn) (lwn : 30000 ≤ wn) (uwn : wn ≤ 60000) (q0 : a2 + a3 ≤ 134400) (q1 : 30000 + a3 ≤ wn) : Met l y_M_putBytes (k_M_putBytes :: lw_tg) (mR 2 81) (va_Pc [.ref h, .ref (q 98), .int (iI a2), .int (iI a3)] (mPre D E h q (I, J, B, G) sz)) (va_Qv (rPv [42] [0] I B (fun (u : mS) => (∃ V2 : Int, u.1 42 = iI V2 ∧ wn - (a3) ≤ V2 ∧ V2 ≤ wn) ∧ mmF 30000 60000 (B 0) (u.2.2.1 0))) (mPost D E h q (mA E h q sz)) (mA E h q sz)) 0 0 (mA E h q sz) := by
  refine m_enter (by decide) rfl (Nat.le_of_ble_eq_true rfl) (fun p e s m below meth c ls AV QQ H locs hQQ X Y hZ hA hr hlk hml hl => ?_)
  have Y : mH D E (mA E h q sz) s.heap h q I J B G H locs := Y
  have S : rS [42] [0] I B I B := rS_rf hT
  have hl : lv_has ls 5 [(0, .ref h), (1, .ref ((q 98))), (2, .int (iI a2)), (3, .int (iI a3))] := hl
  refine lv_iload_n X.1 X.2.1 d_M_putBytes_0 rfl (lv_at hl 3 rfl) ?_
  refine lv_iconst (v := iI 1) X.1 X.2.1 d_M_putBytes_1 (by decide) ?_
  refine z_isub X.1 X.2.1 d_M_putBytes_2 ?_
  have J107 : ∀ (n109 : Nat) (z102 : Int) (z104 : Int) (I101 : Nat → Int32) (J101 : Nat → Int64) (B101 : Nat → Nat → Int32) (G101 : Nat → Nat → Int64) (H : Heap) (locs : List Loc) (ls : Array Slot), (z102 - (-1)).toNat = n109 → ((-1) ≤ z102) → (z102 ≤ 19099) → (mmF 30000 60000 (B 0) (B101 0)) → (I101 42 = iI z104) → (0 ≤ z104) → (z104 ≤ 60000) → (z104 = wn - (a3 - 1 - z102)) → (z102 ≤ a3 - 1) → mH D E (mA E h q sz) s.heap h q I101 J101 B101 G101 H locs → rS [42] [0] I B I101 B101 → lv_has ls 5 [(0, .ref h), (1, .ref ((q 98))), (2, .int (iI a2)), (4, .int (iI z102))] → W p l e (mR 2 81) s m AV below meth c H locs 0 0 QQ (F0 m 5 ls []) := by
    intro n109
    induction n109 using Nat.strongRecOn with
    | ind n109 ih108 =>
      intro z102 z104 I101 J101 B101 G101 H locs ls hm110 l102 u102 f103 e104 l104 u104 i105 i106 Y S hl
      refine lv_iload X.1 X.2.1 d_M_putBytes_5 (lv_at hl 3 rfl) ?_
      refine z_if_lt (tgt := 26) X.1 X.2.1 d_M_putBytes_7 (by decide) ⟨by omega, by omega⟩ (fun h111 => ?_) (fun h111 => ?_)
      · exact m_retv hQQ X Y hr hlk ⟨S, ⟨⟨z104, e104, by omega, by omega⟩, f103⟩⟩ d_M_putBytes_26
      · refine lv_aload_n X.1 X.2.1 d_M_putBytes_10 rfl (lv_at hl 0 rfl) ?_
        refine lv_aload_n X.1 X.2.1 d_M_putBytes_11 rfl (lv_at hl 1 rfl) ?_
        refine lv_iload_n X.1 X.2.1 d_M_putBytes_12 rfl (lv_at hl 2 rfl) ?_
        refine lv_iload X.1 X.2.1 d_M_putBytes_13 (lv_at hl 3 rfl) ?_
        refine z_iadd X.1 X.2.1 d_M_putBytes_15 ?_
        refine r_bald X Y S (aw_ticketBytes _ _ _ _ _ _ _) rfl (by omega) (show a2 + z102 < ((134400 : Nat) : Int) by omega) (by omega) d_M_putBytes_16 (fun z112 q112 l112 u112 => ?_)
        refine r_nv (m_run (As := [.int (iI z112)]) (rest := []) (n := 1) X Y hZ hA hml hl.1 (r_M_one l D E h q H.size I101 J101 B101 G101 z112 (by omega) (by omega) S.1 z104 e104 (by omega) (by omega)) kl_M_one ks_M_one kx_M_one ki_M_one ini_M hd_M_one ⟨Nat.le_of_ble_eq_true rfl, Nat.le_of_ble_eq_true rfl⟩ rfl (Nat.le_of_ble_eq_true rfl) d_M_putBytes_17 ⟨Nat.le_refl _, Nat.le_refl _⟩) X Y hA S (by decide) (by decide) (fun u H locs Y S s113 p113 => ?_)
        obtain ⟨I113, J113, B113, G113⟩ := u
        dsimp only at Y S s113 p113
        obtain ⟨x113, g113_MF⟩ := p113
        refine lv_iinc (v := iI (z102 - 1)) (lv' := [(4, .int (iI (z102 - 1))), (0, .ref h), (1, .ref ((q 98))), (2, .int (iI a2))]) X.1 X.2.1 d_M_putBytes_20 hl (k := 3) rfl ((iI_add _ _).trans (congrArg iI (by omega))) (by decide) rfl (fun ls hl => ?_)
        refine lv_goto (tgt := 5) X.1 X.2.1 d_M_putBytes_23 (by decide) ?_
        exact ih108 (((z102 - 1) - (-1)).toNat) (by omega) (z102 - 1) (z104 - 1) I113 J113 B113 G113 _ _ _ rfl (by omega) (by omega) (mmF_tr f103 g113_MF (by decide)) (x113.trans (congrArg iI (show (z104 - 1 : Int) = z104 - 1 by omega))) (by omega) (by omega) (by omega) (by omega) Y S (lv_sub hl [1, 2, 3, 0] rfl)
  refine lv_istore (lv' := [(4, .int (iI (a3 - 1))), (0, .ref h), (1, .ref ((q 98))), (2, .int (iI a2)), (3, .int (iI a3))]) X.1 X.2.1 d_M_putBytes_3 hl (by decide) rfl (fun ls hl => ?_)
  exact J107 _ (a3 - 1) wn I J B G _ _ _ rfl (by omega) (by omega) mmF_rf gwn (by omega) (by omega) (by omega) (by omega) Y S (lv_sub hl [1, 2, 3, 0] rfl)
set_option maxHeartbeats 4000000 in
set_option maxRecDepth 100000 in
theorem r_M_rowField_ticketBytes (l : Launch) (D : mD) (E : mE) (h : Nat) (q : Nat → Nat) (sz : Nat) (I : Nat → Int32) (J : Nat → Int64) (B : Nat → Nat → Int32) (G : Nat → Nat → Int64) (a1 : Int) (l_a1 : (-2147483648) ≤ a1) (u_a1 : a1 ≤ 2147483647) (a3 : Int) (l_a3 : 0 ≤ a3) (u_a3 : a3 ≤ 134400) (a4 : Int) (l_a4 : 0 ≤ a4) (u_a4 : a4 ≤ 4200) (hT : rT I B) (wn : Int) (gwn : I 42 = iI wn) (lwn : 30200 ≤ wn) (uwn : wn ≤ 60000) (q0 : a3 + a4 ≤ 134400) (q1 : 30200 + a4 ≤ wn) : Met l y_M_rowField (k_M_rowField :: lw_tg) (mR 4 128) (va_Pc [.ref h, .int (iI a1), .ref (q 98), .int (iI a3), .int (iI a4)] (mPre D E h q (I, J, B, G) sz)) (va_Qv (rPv [42] [0] I B (fun (u : mS) => (∃ V2 : Int, u.1 42 = iI V2 ∧ wn - (a4 + 8) ≤ V2 ∧ V2 ≤ wn) ∧ mmF 30000 60000 (B 0) (u.2.2.1 0))) (mPost D E h q (mA E h q sz)) (mA E h q sz)) 0 0 (mA E h q sz) := by
  refine m_enter (by decide) rfl (Nat.le_of_ble_eq_true rfl) (fun p e s m below meth c ls AV QQ H locs hQQ X Y hZ hA hr hlk hml hl => ?_)
  have Y : mH D E (mA E h q sz) s.heap h q I J B G H locs := Y
  have S : rS [42] [0] I B I B := rS_rf hT
  have hl : lv_has ls 6 [(0, .ref h), (1, .int (iI a1)), (2, .ref ((q 98))), (3, .int (iI a3)), (4, .int (iI a4))] := hl
  refine lv_aload_n X.1 X.2.1 d_M_rowField_0 rfl (lv_at hl 0 rfl) ?_
  refine r_get0 X Y (by decide) lk_w0 (gf_w0 _ _ _) rfl gwn d_M_rowField_1 ?_
  refine lv_istore (lv' := [(5, .int (iI wn)), (0, .ref h), (1, .int (iI a1)), (2, .ref ((q 98))), (3, .int (iI a3)), (4, .int (iI a4))]) X.1 X.2.1 d_M_rowField_4 hl (by decide) rfl (fun ls hl => ?_)
  refine lv_aload_n X.1 X.2.1 d_M_rowField_6 rfl (lv_at hl 1 rfl) ?_
  refine lv_aload_n X.1 X.2.1 d_M_rowField_7 rfl (lv_at hl 3 rfl) ?_
  refine lv_iload_n X.1 X.2.1 d_M_rowField_8 rfl (lv_at hl 4 rfl) ?_
  refine lv_iload X.1 X.2.1 d_M_rowField_9 (lv_at hl 5 rfl) ?_
  refine r_nv (m_run (As := [.ref ((q 98)), .int (iI a3), .int (iI a4)]) (rest := []) (n := 3) X Y hZ hA hml hl.1 (r_M_putBytes_ticketBytes l D E h q H.size I J B G a3 (by omega) (by omega) a4 (by omega) (by omega) S.1 wn gwn (by omega) (by omega) (by omega) (by omega)) kl_M_putBytes ks_M_putBytes kx_M_putBytes ki_M_putBytes ini_M hd_M_putBytes ⟨Nat.le_of_ble_eq_true rfl, Nat.le_of_ble_eq_true rfl⟩ rfl (Nat.le_of_ble_eq_true rfl) d_M_rowField_11 ⟨Nat.le_refl _, Nat.le_refl _⟩) X Y hA S (by decide) (by decide) (fun u H locs Y S s101 p101 => ?_)
  obtain ⟨I101, J101, B101, G101⟩ := u
  dsimp only at Y S s101 p101
  obtain ⟨x101, g101_MF⟩ := p101
  obtain ⟨z102, e102, l102, u102⟩ := x101
  refine lv_aload_n X.1 X.2.1 d_M_rowField_14 rfl (lv_at hl 1 rfl) ?_
  refine lv_iload_n X.1 X.2.1 d_M_rowField_15 rfl (lv_at hl 2 rfl) ?_
  refine lv_iload X.1 X.2.1 d_M_rowField_16 (lv_at hl 0 rfl) ?_
  refine r_nv (m_run (As := [.int (iI a1), .int (iI wn)]) (rest := []) (n := 2) X Y hZ hA hml hl.1 (r_M_field l D E h q H.size I101 J101 B101 G101 a1 (by omega) (by omega) wn (by omega) (by omega) S.1 z102 e102 (by omega) (by omega)) kl_M_field ks_M_field kx_M_field ki_M_field ini_M hd_M_field ⟨Nat.le_of_ble_eq_true rfl, Nat.le_of_ble_eq_true rfl⟩ rfl (Nat.le_of_ble_eq_true rfl) d_M_rowField_18 ⟨Nat.le_refl _, Nat.le_refl _⟩) X Y hA S (by decide) (by decide) (fun u H locs Y S s103 p103 => ?_)
  obtain ⟨I103, J103, B103, G103⟩ := u
  dsimp only at Y S s103 p103
  obtain ⟨x103, g103_MF⟩ := p103
  obtain ⟨z104, e104, l104, u104⟩ := x103
  exact m_retv hQQ X Y hr hlk ⟨S, ⟨⟨z104, e104, by omega, by omega⟩, (mmF_tr (mmF_tr mmF_rf g101_MF (by decide)) g103_MF (by decide))⟩⟩ d_M_rowField_21
set_option maxHeartbeats 4000000 in
set_option maxRecDepth 100000 in
theorem r_M_putBytes_askedNames (l : Launch) (D : mD) (E : mE) (h : Nat) (q : Nat → Nat) (sz : Nat) (I : Nat → Int32) (J : Nat → Int64) (B : Nat → Nat → Int32) (G : Nat → Nat → Int64) (a2 : Int) (l_a2 : 0 ≤ a2) (u_a2 : a2 ≤ 160) (a3 : Int) (l_a3 : 0 ≤ a3) (u_a3 : a3 ≤ 160) (hT : rT I B) (wn : Int) (gwn : I 42 = iI wn) (lwn : 30000 ≤ wn) (uwn : wn ≤ 60000) (q0 : a2 + a3 ≤ 160) (q1 : 30000 + a3 ≤ wn) : Met l y_M_putBytes (k_M_putBytes :: lw_tg) (mR 2 81) (va_Pc [.ref h, .ref (q 117), .int (iI a2), .int (iI a3)] (mPre D E h q (I, J, B, G) sz)) (va_Qv (rPv [42] [0] I B (fun (u : mS) => (∃ V2 : Int, u.1 42 = iI V2 ∧ wn - (a3) ≤ V2 ∧ V2 ≤ wn) ∧ mmF 30000 60000 (B 0) (u.2.2.1 0))) (mPost D E h q (mA E h q sz)) (mA E h q sz)) 0 0 (mA E h q sz) := by
  refine m_enter (by decide) rfl (Nat.le_of_ble_eq_true rfl) (fun p e s m below meth c ls AV QQ H locs hQQ X Y hZ hA hr hlk hml hl => ?_)
  have Y : mH D E (mA E h q sz) s.heap h q I J B G H locs := Y
  have S : rS [42] [0] I B I B := rS_rf hT
  have hl : lv_has ls 5 [(0, .ref h), (1, .ref ((q 117))), (2, .int (iI a2)), (3, .int (iI a3))] := hl
  refine lv_iload_n X.1 X.2.1 d_M_putBytes_0 rfl (lv_at hl 3 rfl) ?_
  refine lv_iconst (v := iI 1) X.1 X.2.1 d_M_putBytes_1 (by decide) ?_
  refine z_isub X.1 X.2.1 d_M_putBytes_2 ?_
  have J107 : ∀ (n109 : Nat) (z102 : Int) (z104 : Int) (I101 : Nat → Int32) (J101 : Nat → Int64) (B101 : Nat → Nat → Int32) (G101 : Nat → Nat → Int64) (H : Heap) (locs : List Loc) (ls : Array Slot), (z102 - (-1)).toNat = n109 → ((-1) ≤ z102) → (z102 ≤ 159) → (mmF 30000 60000 (B 0) (B101 0)) → (I101 42 = iI z104) → (0 ≤ z104) → (z104 ≤ 60000) → (z104 = wn - (a3 - 1 - z102)) → (z102 ≤ a3 - 1) → mH D E (mA E h q sz) s.heap h q I101 J101 B101 G101 H locs → rS [42] [0] I B I101 B101 → lv_has ls 5 [(0, .ref h), (1, .ref ((q 117))), (2, .int (iI a2)), (4, .int (iI z102))] → W p l e (mR 2 81) s m AV below meth c H locs 0 0 QQ (F0 m 5 ls []) := by
    intro n109
    induction n109 using Nat.strongRecOn with
    | ind n109 ih108 =>
      intro z102 z104 I101 J101 B101 G101 H locs ls hm110 l102 u102 f103 e104 l104 u104 i105 i106 Y S hl
      refine lv_iload X.1 X.2.1 d_M_putBytes_5 (lv_at hl 3 rfl) ?_
      refine z_if_lt (tgt := 26) X.1 X.2.1 d_M_putBytes_7 (by decide) ⟨by omega, by omega⟩ (fun h111 => ?_) (fun h111 => ?_)
      · exact m_retv hQQ X Y hr hlk ⟨S, ⟨⟨z104, e104, by omega, by omega⟩, f103⟩⟩ d_M_putBytes_26
      · refine lv_aload_n X.1 X.2.1 d_M_putBytes_10 rfl (lv_at hl 0 rfl) ?_
        refine lv_aload_n X.1 X.2.1 d_M_putBytes_11 rfl (lv_at hl 1 rfl) ?_
        refine lv_iload_n X.1 X.2.1 d_M_putBytes_12 rfl (lv_at hl 2 rfl) ?_
        refine lv_iload X.1 X.2.1 d_M_putBytes_13 (lv_at hl 3 rfl) ?_
        refine z_iadd X.1 X.2.1 d_M_putBytes_15 ?_
        refine r_bald X Y S (aw_askedNames _ _ _ _ _ _ _) rfl (by omega) (show a2 + z102 < ((160 : Nat) : Int) by omega) (by omega) d_M_putBytes_16 (fun z112 q112 l112 u112 => ?_)
        refine r_nv (m_run (As := [.int (iI z112)]) (rest := []) (n := 1) X Y hZ hA hml hl.1 (r_M_one l D E h q H.size I101 J101 B101 G101 z112 (by omega) (by omega) S.1 z104 e104 (by omega) (by omega)) kl_M_one ks_M_one kx_M_one ki_M_one ini_M hd_M_one ⟨Nat.le_of_ble_eq_true rfl, Nat.le_of_ble_eq_true rfl⟩ rfl (Nat.le_of_ble_eq_true rfl) d_M_putBytes_17 ⟨Nat.le_refl _, Nat.le_refl _⟩) X Y hA S (by decide) (by decide) (fun u H locs Y S s113 p113 => ?_)
        obtain ⟨I113, J113, B113, G113⟩ := u
        dsimp only at Y S s113 p113
        obtain ⟨x113, g113_MF⟩ := p113
        refine lv_iinc (v := iI (z102 - 1)) (lv' := [(4, .int (iI (z102 - 1))), (0, .ref h), (1, .ref ((q 117))), (2, .int (iI a2))]) X.1 X.2.1 d_M_putBytes_20 hl (k := 3) rfl ((iI_add _ _).trans (congrArg iI (by omega))) (by decide) rfl (fun ls hl => ?_)
        refine lv_goto (tgt := 5) X.1 X.2.1 d_M_putBytes_23 (by decide) ?_
        exact ih108 (((z102 - 1) - (-1)).toNat) (by omega) (z102 - 1) (z104 - 1) I113 J113 B113 G113 _ _ _ rfl (by omega) (by omega) (mmF_tr f103 g113_MF (by decide)) (x113.trans (congrArg iI (show (z104 - 1 : Int) = z104 - 1 by omega))) (by omega) (by omega) (by omega) (by omega) Y S (lv_sub hl [1, 2, 3, 0] rfl)
  refine lv_istore (lv' := [(4, .int (iI (a3 - 1))), (0, .ref h), (1, .ref ((q 117))), (2, .int (iI a2)), (3, .int (iI a3))]) X.1 X.2.1 d_M_putBytes_3 hl (by decide) rfl (fun ls hl => ?_)
  exact J107 _ (a3 - 1) wn I J B G _ _ _ rfl (by omega) (by omega) mmF_rf gwn (by omega) (by omega) (by omega) (by omega) Y S (lv_sub hl [1, 2, 3, 0] rfl)
set_option maxHeartbeats 4000000 in
set_option maxRecDepth 100000 in
theorem r_M_putParts_askedNames (l : Launch) (D : mD) (E : mE) (h : Nat) (q : Nat → Nat) (sz : Nat) (I : Nat → Int32) (J : Nat → Int64) (B : Nat → Nat → Int32) (G : Nat → Nat → Int64) (a2 : Int) (l_a2 : 0 ≤ a2) (u_a2 : a2 ≤ 120) (a3 : Int) (l_a3 : 0 ≤ a3) (u_a3 : a3 ≤ 40) (hT : rT I B) (wn : Int) (gwn : I 42 = iI wn) (lwn : 30300 ≤ wn) (uwn : wn ≤ 60000) : Met l y_M_putParts (k_M_putParts :: lw_tg) (mR 3 106) (va_Pc [.ref h, .ref (q 117), .int (iI a2), .int (iI a3)] (mPre D E h q (I, J, B, G) sz)) (va_Qv (rPv [42] [0] I B (fun (u : mS) => (∃ V2 : Int, u.1 42 = iI V2 ∧ wn - (5 * a3 + 10) ≤ V2 ∧ V2 ≤ wn) ∧ mmF 30000 60000 (B 0) (u.2.2.1 0))) (mPost D E h q (mA E h q sz)) (mA E h q sz)) 0 0 (mA E h q sz) := by
  refine m_enter (by decide) rfl (Nat.le_of_ble_eq_true rfl) (fun p e s m below meth c ls AV QQ H locs hQQ X Y hZ hA hr hlk hml hl => ?_)
  have Y : mH D E (mA E h q sz) s.heap h q I J B G H locs := Y
  have S : rS [42] [0] I B I B := rS_rf hT
  have hl : lv_has ls 7 [(0, .ref h), (1, .ref ((q 117))), (2, .int (iI a2)), (3, .int (iI a3))] := hl
  refine lv_iload_n X.1 X.2.1 d_M_putParts_0 rfl (lv_at hl 3 rfl) ?_
  refine lv_istore (lv' := [(4, .int (iI a3)), (0, .ref h), (1, .ref ((q 117))), (2, .int (iI a2)), (3, .int (iI a3))]) X.1 X.2.1 d_M_putParts_1 hl (by decide) rfl (fun ls hl => ?_)
  refine lv_iload_n X.1 X.2.1 d_M_putParts_3 rfl (lv_at hl 4 rfl) ?_
  refine lv_iconst (v := iI 1) X.1 X.2.1 d_M_putParts_4 (by decide) ?_
  refine z_isub X.1 X.2.1 d_M_putParts_5 ?_
  have J110 : ∀ (n112 : Nat) (z102 : Int) (z103 : Int) (z105 : Int) (I101 : Nat → Int32) (J101 : Nat → Int64) (B101 : Nat → Nat → Int32) (G101 : Nat → Nat → Int64) (H : Heap) (locs : List Loc) (ls : Array Slot), (z103 - (-2)).toNat = n112 → ((-1) ≤ z102) → (z102 ≤ 40) → ((-2) ≤ z103) → (z103 ≤ 39) → (mmF 30000 60000 (B 0) (B101 0)) → (I101 42 = iI z105) → (0 ≤ z105) → (z105 ≤ 60000) → (wn - (a3 - z102) - 4 * (a3 - 1 - z103) ≤ z105) → (z105 ≤ wn) → (z103 ≤ z102 - 1) → (z102 ≤ a3) → mH D E (mA E h q sz) s.heap h q I101 J101 B101 G101 H locs → rS [42] [0] I B I101 B101 → lv_has ls 7 [(0, .ref h), (1, .ref ((q 117))), (2, .int (iI a2)), (4, .int (iI z102)), (5, .int (iI z103))] → W p l e (mR 3 106) s m AV below meth c H locs 0 0 QQ (F0 m 8 ls []) := by
    intro n112
    induction n112 using Nat.strongRecOn with
    | ind n112 ih111 =>
      intro z102 z103 z105 I101 J101 B101 G101 H locs ls hm113 l102 u102 l103 u103 f104 e105 l105 u105 i106 i107 i108 i109 Y S hl
      refine lv_iload X.1 X.2.1 d_M_putParts_8 (lv_at hl 4 rfl) ?_
      refine lv_iconst (v := iI (-1)) X.1 X.2.1 d_M_putParts_10 (by decide) ?_
      refine z_icmp_lt (tgt := 75) X.1 X.2.1 d_M_putParts_11 (by decide) ⟨by omega, by omega⟩ ⟨by omega, by omega⟩ (fun h114 => ?_) (fun h114 => ?_)
      · exact m_retv hQQ X Y hr hlk ⟨S, ⟨⟨z105, e105, by omega, by omega⟩, f104⟩⟩ d_M_putParts_75
      · refine lv_iload X.1 X.2.1 d_M_putParts_14 (lv_at hl 4 rfl) ?_
        refine z_if_lt (tgt := 33) X.1 X.2.1 d_M_putParts_16 (by decide) ⟨by omega, by omega⟩ (fun h115 => ?_) (fun h115 => ?_)
        · refine lv_aload_n X.1 X.2.1 d_M_putParts_33 rfl (lv_at hl 0 rfl) ?_
          refine r_get0 X Y (by decide) lk_w0 (gf_w0 _ _ _) rfl e105 d_M_putParts_34 ?_
          refine lv_istore (lv' := [(6, .int (iI z105)), (0, .ref h), (1, .ref ((q 117))), (2, .int (iI a2)), (4, .int (iI z102)), (5, .int (iI z103))]) X.1 X.2.1 d_M_putParts_37 hl (by decide) rfl (fun ls hl => ?_)
          refine lv_aload_n X.1 X.2.1 d_M_putParts_39 rfl (lv_at hl 1 rfl) ?_
          refine lv_aload_n X.1 X.2.1 d_M_putParts_40 rfl (lv_at hl 2 rfl) ?_
          refine lv_iload_n X.1 X.2.1 d_M_putParts_41 rfl (lv_at hl 3 rfl) ?_
          refine lv_iload X.1 X.2.1 d_M_putParts_42 (lv_at hl 5 rfl) ?_
          refine z_iadd X.1 X.2.1 d_M_putParts_44 ?_
          refine lv_iconst (v := iI 1) X.1 X.2.1 d_M_putParts_45 (by decide) ?_
          refine z_iadd X.1 X.2.1 d_M_putParts_46 ?_
          refine lv_iload X.1 X.2.1 d_M_putParts_47 (lv_at hl 4 rfl) ?_
          refine lv_iload X.1 X.2.1 d_M_putParts_49 (lv_at hl 5 rfl) ?_
          refine z_isub X.1 X.2.1 d_M_putParts_51 ?_
          refine lv_iconst (v := iI 1) X.1 X.2.1 d_M_putParts_52 (by decide) ?_
          refine z_isub X.1 X.2.1 d_M_putParts_53 ?_
          refine r_nv (m_run (As := [.ref ((q 117)), .int (iI ((a2 + z103) + 1)), .int (iI ((z102 - z103) - 1))]) (rest := []) (n := 3) X Y hZ hA hml hl.1 (r_M_putBytes_askedNames l D E h q H.size I101 J101 B101 G101 ((a2 + z103) + 1) (by omega) (by omega) ((z102 - z103) - 1) (by omega) (by omega) S.1 z105 e105 (by omega) (by omega) (by omega) (by omega)) kl_M_putBytes ks_M_putBytes kx_M_putBytes ki_M_putBytes ini_M hd_M_putBytes ⟨Nat.le_of_ble_eq_true rfl, Nat.le_of_ble_eq_true rfl⟩ rfl (Nat.le_of_ble_eq_true rfl) d_M_putParts_54 ⟨Nat.le_refl _, Nat.le_refl _⟩) X Y hA S (by decide) (by decide) (fun u H locs Y S s116 p116 => ?_)
          obtain ⟨I116, J116, B116, G116⟩ := u
          dsimp only at Y S s116 p116
          obtain ⟨x116, g116_MF⟩ := p116
          obtain ⟨z117, e117, l117, u117⟩ := x116
          refine lv_aload_n X.1 X.2.1 d_M_putParts_57 rfl (lv_at hl 1 rfl) ?_
          refine lv_bipush (v := iI 27) X.1 X.2.1 d_M_putParts_58 (by decide) ?_
          refine lv_iload X.1 X.2.1 d_M_putParts_60 (lv_at hl 0 rfl) ?_
          refine r_nv (m_run (As := [.int (iI 27), .int (iI z105)]) (rest := []) (n := 2) X Y hZ hA hml hl.1 (r_M_head l D E h q H.size I116 J116 B116 G116 27 (by omega) (by omega) z105 (by omega) (by omega) S.1 z117 e117 (by omega) (by omega)) kl_M_head ks_M_head kx_M_head ki_M_head ini_M hd_M_head ⟨Nat.le_of_ble_eq_true rfl, Nat.le_of_ble_eq_true rfl⟩ rfl (Nat.le_of_ble_eq_true rfl) d_M_putParts_62 ⟨Nat.le_refl _, Nat.le_refl _⟩) X Y hA S (by decide) (by decide) (fun u H locs Y S s118 p118 => ?_)
          obtain ⟨I118, J118, B118, G118⟩ := u
          dsimp only at Y S s118 p118
          obtain ⟨x118, g118_MF⟩ := p118
          obtain ⟨z119, e119, l119, u119⟩ := x118
          refine lv_iload X.1 X.2.1 d_M_putParts_65 (lv_at hl 5 rfl) ?_
          refine lv_istore (lv' := [(4, .int (iI z103)), (6, .int (iI z105)), (0, .ref h), (1, .ref ((q 117))), (2, .int (iI a2)), (5, .int (iI z103))]) X.1 X.2.1 d_M_putParts_67 hl (by decide) rfl (fun ls hl => ?_)
          refine lv_iinc (v := iI (z103 - 1)) (lv' := [(5, .int (iI (z103 - 1))), (4, .int (iI z103)), (6, .int (iI z105)), (0, .ref h), (1, .ref ((q 117))), (2, .int (iI a2))]) X.1 X.2.1 d_M_putParts_69 hl (k := 5) rfl ((iI_add _ _).trans (congrArg iI (by omega))) (by decide) rfl (fun ls hl => ?_)
          refine lv_goto (tgt := 8) X.1 X.2.1 d_M_putParts_72 (by decide) ?_
          exact ih111 (((z103 - 1) - (-2)).toNat) (by omega) z103 (z103 - 1) z119 I118 J118 B118 G118 _ _ _ rfl (by omega) (by omega) (by omega) (by omega) (mmF_tr (mmF_tr f104 g116_MF (by decide)) g118_MF (by decide)) e119 (by omega) (by omega) (by omega) (by omega) (by omega) (by omega) Y S (lv_sub hl [3, 4, 5, 1, 0] rfl)
        · refine lv_aload_n X.1 X.2.1 d_M_putParts_19 rfl (lv_at hl 1 rfl) ?_
          refine lv_iload_n X.1 X.2.1 d_M_putParts_20 rfl (lv_at hl 2 rfl) ?_
          refine lv_iload X.1 X.2.1 d_M_putParts_21 (lv_at hl 4 rfl) ?_
          refine z_iadd X.1 X.2.1 d_M_putParts_23 ?_
          refine r_bald X Y S (aw_askedNames _ _ _ _ _ _ _) rfl (by omega) (show a2 + z103 < ((160 : Nat) : Int) by omega) (by omega) d_M_putParts_24 (fun z120 q120 l120 u120 => ?_)
          refine lv_bipush (v := iI 47) X.1 X.2.1 d_M_putParts_25 (by decide) ?_
          refine z_icmp_eq (tgt := 33) X.1 X.2.1 d_M_putParts_27 (by decide) ⟨by omega, by omega⟩ ⟨by omega, by omega⟩ (fun h121 => ?_) (fun h121 => ?_)
          · refine lv_aload_n X.1 X.2.1 d_M_putParts_33 rfl (lv_at hl 0 rfl) ?_
            refine r_get0 X Y (by decide) lk_w0 (gf_w0 _ _ _) rfl e105 d_M_putParts_34 ?_
            refine lv_istore (lv' := [(6, .int (iI z105)), (0, .ref h), (1, .ref ((q 117))), (2, .int (iI a2)), (4, .int (iI z102)), (5, .int (iI z103))]) X.1 X.2.1 d_M_putParts_37 hl (by decide) rfl (fun ls hl => ?_)
            refine lv_aload_n X.1 X.2.1 d_M_putParts_39 rfl (lv_at hl 1 rfl) ?_
            refine lv_aload_n X.1 X.2.1 d_M_putParts_40 rfl (lv_at hl 2 rfl) ?_
            refine lv_iload_n X.1 X.2.1 d_M_putParts_41 rfl (lv_at hl 3 rfl) ?_
            refine lv_iload X.1 X.2.1 d_M_putParts_42 (lv_at hl 5 rfl) ?_
            refine z_iadd X.1 X.2.1 d_M_putParts_44 ?_
            refine lv_iconst (v := iI 1) X.1 X.2.1 d_M_putParts_45 (by decide) ?_
            refine z_iadd X.1 X.2.1 d_M_putParts_46 ?_
            refine lv_iload X.1 X.2.1 d_M_putParts_47 (lv_at hl 4 rfl) ?_
            refine lv_iload X.1 X.2.1 d_M_putParts_49 (lv_at hl 5 rfl) ?_
            refine z_isub X.1 X.2.1 d_M_putParts_51 ?_
            refine lv_iconst (v := iI 1) X.1 X.2.1 d_M_putParts_52 (by decide) ?_
            refine z_isub X.1 X.2.1 d_M_putParts_53 ?_
            refine r_nv (m_run (As := [.ref ((q 117)), .int (iI ((a2 + z103) + 1)), .int (iI ((z102 - z103) - 1))]) (rest := []) (n := 3) X Y hZ hA hml hl.1 (r_M_putBytes_askedNames l D E h q H.size I101 J101 B101 G101 ((a2 + z103) + 1) (by omega) (by omega) ((z102 - z103) - 1) (by omega) (by omega) S.1 z105 e105 (by omega) (by omega) (by omega) (by omega)) kl_M_putBytes ks_M_putBytes kx_M_putBytes ki_M_putBytes ini_M hd_M_putBytes ⟨Nat.le_of_ble_eq_true rfl, Nat.le_of_ble_eq_true rfl⟩ rfl (Nat.le_of_ble_eq_true rfl) d_M_putParts_54 ⟨Nat.le_refl _, Nat.le_refl _⟩) X Y hA S (by decide) (by decide) (fun u H locs Y S s122 p122 => ?_)
            obtain ⟨I122, J122, B122, G122⟩ := u
            dsimp only at Y S s122 p122
            obtain ⟨x122, g122_MF⟩ := p122
            obtain ⟨z123, e123, l123, u123⟩ := x122
            refine lv_aload_n X.1 X.2.1 d_M_putParts_57 rfl (lv_at hl 1 rfl) ?_
            refine lv_bipush (v := iI 27) X.1 X.2.1 d_M_putParts_58 (by decide) ?_
            refine lv_iload X.1 X.2.1 d_M_putParts_60 (lv_at hl 0 rfl) ?_
            refine r_nv (m_run (As := [.int (iI 27), .int (iI z105)]) (rest := []) (n := 2) X Y hZ hA hml hl.1 (r_M_head l D E h q H.size I122 J122 B122 G122 27 (by omega) (by omega) z105 (by omega) (by omega) S.1 z123 e123 (by omega) (by omega)) kl_M_head ks_M_head kx_M_head ki_M_head ini_M hd_M_head ⟨Nat.le_of_ble_eq_true rfl, Nat.le_of_ble_eq_true rfl⟩ rfl (Nat.le_of_ble_eq_true rfl) d_M_putParts_62 ⟨Nat.le_refl _, Nat.le_refl _⟩) X Y hA S (by decide) (by decide) (fun u H locs Y S s124 p124 => ?_)
            obtain ⟨I124, J124, B124, G124⟩ := u
            dsimp only at Y S s124 p124
            obtain ⟨x124, g124_MF⟩ := p124
            obtain ⟨z125, e125, l125, u125⟩ := x124
            refine lv_iload X.1 X.2.1 d_M_putParts_65 (lv_at hl 5 rfl) ?_
            refine lv_istore (lv' := [(4, .int (iI z103)), (6, .int (iI z105)), (0, .ref h), (1, .ref ((q 117))), (2, .int (iI a2)), (5, .int (iI z103))]) X.1 X.2.1 d_M_putParts_67 hl (by decide) rfl (fun ls hl => ?_)
            refine lv_iinc (v := iI (z103 - 1)) (lv' := [(5, .int (iI (z103 - 1))), (4, .int (iI z103)), (6, .int (iI z105)), (0, .ref h), (1, .ref ((q 117))), (2, .int (iI a2))]) X.1 X.2.1 d_M_putParts_69 hl (k := 5) rfl ((iI_add _ _).trans (congrArg iI (by omega))) (by decide) rfl (fun ls hl => ?_)
            refine lv_goto (tgt := 8) X.1 X.2.1 d_M_putParts_72 (by decide) ?_
            exact ih111 (((z103 - 1) - (-2)).toNat) (by omega) z103 (z103 - 1) z125 I124 J124 B124 G124 _ _ _ rfl (by omega) (by omega) (by omega) (by omega) (mmF_tr (mmF_tr f104 g122_MF (by decide)) g124_MF (by decide)) e125 (by omega) (by omega) (by omega) (by omega) (by omega) (by omega) Y S (lv_sub hl [3, 4, 5, 1, 0] rfl)
          · refine lv_goto (tgt := 69) X.1 X.2.1 d_M_putParts_30 (by decide) ?_
            refine lv_iinc (v := iI (z103 - 1)) (lv' := [(5, .int (iI (z103 - 1))), (0, .ref h), (1, .ref ((q 117))), (2, .int (iI a2)), (4, .int (iI z102))]) X.1 X.2.1 d_M_putParts_69 hl (k := 4) rfl ((iI_add _ _).trans (congrArg iI (by omega))) (by decide) rfl (fun ls hl => ?_)
            refine lv_goto (tgt := 8) X.1 X.2.1 d_M_putParts_72 (by decide) ?_
            exact ih111 (((z103 - 1) - (-2)).toNat) (by omega) z102 (z103 - 1) z105 I101 J101 B101 G101 _ _ _ rfl (by omega) (by omega) (by omega) (by omega) f104 e105 (by omega) (by omega) (by omega) (by omega) (by omega) (by omega) Y S (lv_sub hl [1, 2, 3, 4, 0] rfl)
  refine lv_istore (lv' := [(5, .int (iI (a3 - 1))), (4, .int (iI a3)), (0, .ref h), (1, .ref ((q 117))), (2, .int (iI a2)), (3, .int (iI a3))]) X.1 X.2.1 d_M_putParts_6 hl (by decide) rfl (fun ls hl => ?_)
  exact J110 _ a3 (a3 - 1) wn I J B G _ _ _ rfl (by omega) (by omega) (by omega) (by omega) mmF_rf gwn (by omega) (by omega) (by omega) (by omega) (by omega) (by omega) Y S (lv_sub hl [2, 3, 4, 1, 0] rfl)
set_option maxHeartbeats 4000000 in
set_option maxRecDepth 100000 in
theorem r_M_partsField_askedNames (l : Launch) (D : mD) (E : mE) (h : Nat) (q : Nat → Nat) (sz : Nat) (I : Nat → Int32) (J : Nat → Int64) (B : Nat → Nat → Int32) (G : Nat → Nat → Int64) (a1 : Int) (l_a1 : (-2147483648) ≤ a1) (u_a1 : a1 ≤ 2147483647) (a3 : Int) (l_a3 : 0 ≤ a3) (u_a3 : a3 ≤ 120) (a4 : Int) (l_a4 : 0 ≤ a4) (u_a4 : a4 ≤ 40) (a5 : Int) (l_a5 : (-2147483648) ≤ a5) (u_a5 : a5 ≤ 2147483647) (hT : rT I B) (wn : Int) (gwn : I 42 = iI wn) (lwn : 30700 ≤ wn) (uwn : wn ≤ 60000) : Met l y_M_partsField (k_M_partsField :: lw_tg) (mR 5 157) (va_Pc [.ref h, .int (iI a1), .ref (q 117), .int (iI a3), .int (iI a4), .int (iI a5)] (mPre D E h q (I, J, B, G) sz)) (va_Qv (rPv [42] [0] I B (fun (u : mS) => (∃ V2 : Int, u.1 42 = iI V2 ∧ wn - (300) ≤ V2 ∧ V2 ≤ wn) ∧ mmF 30000 60000 (B 0) (u.2.2.1 0))) (mPost D E h q (mA E h q sz)) (mA E h q sz)) 0 0 (mA E h q sz) := by
  refine m_enter (by decide) rfl (Nat.le_of_ble_eq_true rfl) (fun p e s m below meth c ls AV QQ H locs hQQ X Y hZ hA hr hlk hml hl => ?_)
  have Y : mH D E (mA E h q sz) s.heap h q I J B G H locs := Y
  have S : rS [42] [0] I B I B := rS_rf hT
  have hl : lv_has ls 8 [(0, .ref h), (1, .int (iI a1)), (2, .ref ((q 117))), (3, .int (iI a3)), (4, .int (iI a4)), (5, .int (iI a5))] := hl
  refine lv_aload_n X.1 X.2.1 d_M_partsField_0 rfl (lv_at hl 0 rfl) ?_
  refine r_get0 X Y (by decide) lk_w0 (gf_w0 _ _ _) rfl gwn d_M_partsField_1 ?_
  refine lv_istore (lv' := [(6, .int (iI wn)), (0, .ref h), (1, .int (iI a1)), (2, .ref ((q 117))), (3, .int (iI a3)), (4, .int (iI a4)), (5, .int (iI a5))]) X.1 X.2.1 d_M_partsField_4 hl (by decide) rfl (fun ls hl => ?_)
  refine lv_aload_n X.1 X.2.1 d_M_partsField_6 rfl (lv_at hl 1 rfl) ?_
  refine r_get0 X Y (by decide) lk_w0 (gf_w0 _ _ _) rfl gwn d_M_partsField_7 ?_
  refine lv_istore (lv' := [(7, .int (iI wn)), (6, .int (iI wn)), (0, .ref h), (1, .int (iI a1)), (2, .ref ((q 117))), (3, .int (iI a3)), (4, .int (iI a4)), (5, .int (iI a5))]) X.1 X.2.1 d_M_partsField_10 hl (by decide) rfl (fun ls hl => ?_)
  refine lv_aload_n X.1 X.2.1 d_M_partsField_12 rfl (lv_at hl 2 rfl) ?_
  refine lv_aload_n X.1 X.2.1 d_M_partsField_13 rfl (lv_at hl 4 rfl) ?_
  refine lv_iload_n X.1 X.2.1 d_M_partsField_14 rfl (lv_at hl 5 rfl) ?_
  refine lv_iload X.1 X.2.1 d_M_partsField_15 (lv_at hl 6 rfl) ?_
  refine r_nv (m_run (As := [.ref ((q 117)), .int (iI a3), .int (iI a4)]) (rest := []) (n := 3) X Y hZ hA hml hl.1 (r_M_putParts_askedNames l D E h q H.size I J B G a3 (by omega) (by omega) a4 (by omega) (by omega) S.1 wn gwn (by omega) (by omega)) kl_M_putParts ks_M_putParts kx_M_putParts ki_M_putParts ini_M hd_M_putParts ⟨Nat.le_of_ble_eq_true rfl, Nat.le_of_ble_eq_true rfl⟩ rfl (Nat.le_of_ble_eq_true rfl) d_M_partsField_17 ⟨Nat.le_refl _, Nat.le_refl _⟩) X Y hA S (by decide) (by decide) (fun u H locs Y S s101 p101 => ?_)
  obtain ⟨I101, J101, B101, G101⟩ := u
  dsimp only at Y S s101 p101
  obtain ⟨x101, g101_MF⟩ := p101
  obtain ⟨z102, e102, l102, u102⟩ := x101
  refine lv_aload_n X.1 X.2.1 d_M_partsField_20 rfl (lv_at hl 2 rfl) ?_
  refine lv_bipush (v := iI 48) X.1 X.2.1 d_M_partsField_21 (by decide) ?_
  refine lv_iload X.1 X.2.1 d_M_partsField_23 (lv_at hl 0 rfl) ?_
  refine r_nv (m_run (As := [.int (iI 48), .int (iI wn)]) (rest := []) (n := 2) X Y hZ hA hml hl.1 (r_M_head l D E h q H.size I101 J101 B101 G101 48 (by omega) (by omega) wn (by omega) (by omega) S.1 z102 e102 (by omega) (by omega)) kl_M_head ks_M_head kx_M_head ki_M_head ini_M hd_M_head ⟨Nat.le_of_ble_eq_true rfl, Nat.le_of_ble_eq_true rfl⟩ rfl (Nat.le_of_ble_eq_true rfl) d_M_partsField_25 ⟨Nat.le_refl _, Nat.le_refl _⟩) X Y hA S (by decide) (by decide) (fun u H locs Y S s103 p103 => ?_)
  obtain ⟨I103, J103, B103, G103⟩ := u
  dsimp only at Y S s103 p103
  obtain ⟨x103, g103_MF⟩ := p103
  obtain ⟨z104, e104, l104, u104⟩ := x103
  refine lv_aload_n X.1 X.2.1 d_M_partsField_28 rfl (lv_at hl 2 rfl) ?_
  refine lv_iconst (v := iI 1) X.1 X.2.1 d_M_partsField_29 (by decide) ?_
  refine lv_iload X.1 X.2.1 d_M_partsField_30 (lv_at hl 0 rfl) ?_
  refine r_nv (m_run (As := [.int (iI 1), .int (iI wn)]) (rest := []) (n := 2) X Y hZ hA hml hl.1 (r_M_field l D E h q H.size I103 J103 B103 G103 1 (by omega) (by omega) wn (by omega) (by omega) S.1 z104 e104 (by omega) (by omega)) kl_M_field ks_M_field kx_M_field ki_M_field ini_M hd_M_field ⟨Nat.le_of_ble_eq_true rfl, Nat.le_of_ble_eq_true rfl⟩ rfl (Nat.le_of_ble_eq_true rfl) d_M_partsField_32 ⟨Nat.le_refl _, Nat.le_refl _⟩) X Y hA S (by decide) (by decide) (fun u H locs Y S s105 p105 => ?_)
  obtain ⟨I105, J105, B105, G105⟩ := u
  dsimp only at Y S s105 p105
  obtain ⟨x105, g105_MF⟩ := p105
  obtain ⟨z106, e106, l106, u106⟩ := x105
  refine lv_aload_n X.1 X.2.1 d_M_partsField_35 rfl (lv_at hl 2 rfl) ?_
  refine lv_iconst (v := iI 0) X.1 X.2.1 d_M_partsField_36 (by decide) ?_
  refine lv_iload X.1 X.2.1 d_M_partsField_37 (lv_at hl 7 rfl) ?_
  refine lv_i2l X.1 X.2.1 d_M_partsField_39 rfl ?_
  refine t_anyl (fun v107 => ?_)
  refine r_nv (m_run (As := [.int (iI 0), .long v107]) (rest := []) (n := 2) X Y hZ hA hml hl.1 (r_M_numberField l D E h q H.size I105 J105 B105 G105 0 (by omega) (by omega) v107 S.1 z106 e106 (by omega) (by omega)) kl_M_numberField ks_M_numberField kx_M_numberField ki_M_numberField ini_M hd_M_numberField ⟨Nat.le_of_ble_eq_true rfl, Nat.le_of_ble_eq_true rfl⟩ rfl (Nat.le_of_ble_eq_true rfl) d_M_partsField_40 ⟨Nat.le_refl _, Nat.le_refl _⟩) X Y hA S (by decide) (by decide) (fun u H locs Y S s108 p108 => ?_)
  obtain ⟨I108, J108, B108, G108⟩ := u
  dsimp only at Y S s108 p108
  obtain ⟨x108, g108_MF⟩ := p108
  obtain ⟨z109, e109, l109, u109⟩ := x108
  refine lv_aload_n X.1 X.2.1 d_M_partsField_43 rfl (lv_at hl 2 rfl) ?_
  refine lv_bipush (v := iI 48) X.1 X.2.1 d_M_partsField_44 (by decide) ?_
  refine lv_iload X.1 X.2.1 d_M_partsField_46 (lv_at hl 1 rfl) ?_
  refine r_nv (m_run (As := [.int (iI 48), .int (iI wn)]) (rest := []) (n := 2) X Y hZ hA hml hl.1 (r_M_head l D E h q H.size I108 J108 B108 G108 48 (by omega) (by omega) wn (by omega) (by omega) S.1 z109 e109 (by omega) (by omega)) kl_M_head ks_M_head kx_M_head ki_M_head ini_M hd_M_head ⟨Nat.le_of_ble_eq_true rfl, Nat.le_of_ble_eq_true rfl⟩ rfl (Nat.le_of_ble_eq_true rfl) d_M_partsField_48 ⟨Nat.le_refl _, Nat.le_refl _⟩) X Y hA S (by decide) (by decide) (fun u H locs Y S s110 p110 => ?_)
  obtain ⟨I110, J110, B110, G110⟩ := u
  dsimp only at Y S s110 p110
  obtain ⟨x110, g110_MF⟩ := p110
  obtain ⟨z111, e111, l111, u111⟩ := x110
  refine lv_aload_n X.1 X.2.1 d_M_partsField_51 rfl (lv_at hl 2 rfl) ?_
  refine lv_iload_n X.1 X.2.1 d_M_partsField_52 rfl (lv_at hl 3 rfl) ?_
  refine lv_iload X.1 X.2.1 d_M_partsField_53 (lv_at hl 1 rfl) ?_
  refine r_nv (m_run (As := [.int (iI a1), .int (iI wn)]) (rest := []) (n := 2) X Y hZ hA hml hl.1 (r_M_field l D E h q H.size I110 J110 B110 G110 a1 (by omega) (by omega) wn (by omega) (by omega) S.1 z111 e111 (by omega) (by omega)) kl_M_field ks_M_field kx_M_field ki_M_field ini_M hd_M_field ⟨Nat.le_of_ble_eq_true rfl, Nat.le_of_ble_eq_true rfl⟩ rfl (Nat.le_of_ble_eq_true rfl) d_M_partsField_55 ⟨Nat.le_refl _, Nat.le_refl _⟩) X Y hA S (by decide) (by decide) (fun u H locs Y S s112 p112 => ?_)
  obtain ⟨I112, J112, B112, G112⟩ := u
  dsimp only at Y S s112 p112
  obtain ⟨x112, g112_MF⟩ := p112
  obtain ⟨z113, e113, l113, u113⟩ := x112
  exact m_retv hQQ X Y hr hlk ⟨S, ⟨⟨z113, e113, by omega, by omega⟩, (mmF_tr (mmF_tr (mmF_tr (mmF_tr (mmF_tr (mmF_tr mmF_rf g101_MF (by decide)) g103_MF (by decide)) g105_MF (by decide)) g108_MF (by decide)) g110_MF (by decide)) g112_MF (by decide))⟩⟩ d_M_partsField_58
set_option maxHeartbeats 4000000 in
set_option maxRecDepth 100000 in
theorem r_M_putBytes_agentNames (l : Launch) (D : mD) (E : mE) (h : Nat) (q : Nat → Nat) (sz : Nat) (I : Nat → Int32) (J : Nat → Int64) (B : Nat → Nat → Int32) (G : Nat → Nat → Int64) (a2 : Int) (l_a2 : 0 ≤ a2) (u_a2 : a2 ≤ 160) (a3 : Int) (l_a3 : 0 ≤ a3) (u_a3 : a3 ≤ 160) (hT : rT I B) (wn : Int) (gwn : I 42 = iI wn) (lwn : 30000 ≤ wn) (uwn : wn ≤ 60000) (q0 : a2 + a3 ≤ 160) (q1 : 30000 + a3 ≤ wn) : Met l y_M_putBytes (k_M_putBytes :: lw_tg) (mR 2 81) (va_Pc [.ref h, .ref (q 92), .int (iI a2), .int (iI a3)] (mPre D E h q (I, J, B, G) sz)) (va_Qv (rPv [42] [0] I B (fun (u : mS) => (∃ V2 : Int, u.1 42 = iI V2 ∧ wn - (a3) ≤ V2 ∧ V2 ≤ wn) ∧ mmF 30000 60000 (B 0) (u.2.2.1 0))) (mPost D E h q (mA E h q sz)) (mA E h q sz)) 0 0 (mA E h q sz) := by
  refine m_enter (by decide) rfl (Nat.le_of_ble_eq_true rfl) (fun p e s m below meth c ls AV QQ H locs hQQ X Y hZ hA hr hlk hml hl => ?_)
  have Y : mH D E (mA E h q sz) s.heap h q I J B G H locs := Y
  have S : rS [42] [0] I B I B := rS_rf hT
  have hl : lv_has ls 5 [(0, .ref h), (1, .ref ((q 92))), (2, .int (iI a2)), (3, .int (iI a3))] := hl
  refine lv_iload_n X.1 X.2.1 d_M_putBytes_0 rfl (lv_at hl 3 rfl) ?_
  refine lv_iconst (v := iI 1) X.1 X.2.1 d_M_putBytes_1 (by decide) ?_
  refine z_isub X.1 X.2.1 d_M_putBytes_2 ?_
  have J107 : ∀ (n109 : Nat) (z102 : Int) (z104 : Int) (I101 : Nat → Int32) (J101 : Nat → Int64) (B101 : Nat → Nat → Int32) (G101 : Nat → Nat → Int64) (H : Heap) (locs : List Loc) (ls : Array Slot), (z102 - (-1)).toNat = n109 → ((-1) ≤ z102) → (z102 ≤ 159) → (mmF 30000 60000 (B 0) (B101 0)) → (I101 42 = iI z104) → (0 ≤ z104) → (z104 ≤ 60000) → (z104 = wn - (a3 - 1 - z102)) → (z102 ≤ a3 - 1) → mH D E (mA E h q sz) s.heap h q I101 J101 B101 G101 H locs → rS [42] [0] I B I101 B101 → lv_has ls 5 [(0, .ref h), (1, .ref ((q 92))), (2, .int (iI a2)), (4, .int (iI z102))] → W p l e (mR 2 81) s m AV below meth c H locs 0 0 QQ (F0 m 5 ls []) := by
    intro n109
    induction n109 using Nat.strongRecOn with
    | ind n109 ih108 =>
      intro z102 z104 I101 J101 B101 G101 H locs ls hm110 l102 u102 f103 e104 l104 u104 i105 i106 Y S hl
      refine lv_iload X.1 X.2.1 d_M_putBytes_5 (lv_at hl 3 rfl) ?_
      refine z_if_lt (tgt := 26) X.1 X.2.1 d_M_putBytes_7 (by decide) ⟨by omega, by omega⟩ (fun h111 => ?_) (fun h111 => ?_)
      · exact m_retv hQQ X Y hr hlk ⟨S, ⟨⟨z104, e104, by omega, by omega⟩, f103⟩⟩ d_M_putBytes_26
      · refine lv_aload_n X.1 X.2.1 d_M_putBytes_10 rfl (lv_at hl 0 rfl) ?_
        refine lv_aload_n X.1 X.2.1 d_M_putBytes_11 rfl (lv_at hl 1 rfl) ?_
        refine lv_iload_n X.1 X.2.1 d_M_putBytes_12 rfl (lv_at hl 2 rfl) ?_
        refine lv_iload X.1 X.2.1 d_M_putBytes_13 (lv_at hl 3 rfl) ?_
        refine z_iadd X.1 X.2.1 d_M_putBytes_15 ?_
        refine r_bald X Y S (aw_agentNames _ _ _ _ _ _ _) rfl (by omega) (show a2 + z102 < ((160 : Nat) : Int) by omega) (by omega) d_M_putBytes_16 (fun z112 q112 l112 u112 => ?_)
        refine r_nv (m_run (As := [.int (iI z112)]) (rest := []) (n := 1) X Y hZ hA hml hl.1 (r_M_one l D E h q H.size I101 J101 B101 G101 z112 (by omega) (by omega) S.1 z104 e104 (by omega) (by omega)) kl_M_one ks_M_one kx_M_one ki_M_one ini_M hd_M_one ⟨Nat.le_of_ble_eq_true rfl, Nat.le_of_ble_eq_true rfl⟩ rfl (Nat.le_of_ble_eq_true rfl) d_M_putBytes_17 ⟨Nat.le_refl _, Nat.le_refl _⟩) X Y hA S (by decide) (by decide) (fun u H locs Y S s113 p113 => ?_)
        obtain ⟨I113, J113, B113, G113⟩ := u
        dsimp only at Y S s113 p113
        obtain ⟨x113, g113_MF⟩ := p113
        refine lv_iinc (v := iI (z102 - 1)) (lv' := [(4, .int (iI (z102 - 1))), (0, .ref h), (1, .ref ((q 92))), (2, .int (iI a2))]) X.1 X.2.1 d_M_putBytes_20 hl (k := 3) rfl ((iI_add _ _).trans (congrArg iI (by omega))) (by decide) rfl (fun ls hl => ?_)
        refine lv_goto (tgt := 5) X.1 X.2.1 d_M_putBytes_23 (by decide) ?_
        exact ih108 (((z102 - 1) - (-1)).toNat) (by omega) (z102 - 1) (z104 - 1) I113 J113 B113 G113 _ _ _ rfl (by omega) (by omega) (mmF_tr f103 g113_MF (by decide)) (x113.trans (congrArg iI (show (z104 - 1 : Int) = z104 - 1 by omega))) (by omega) (by omega) (by omega) (by omega) Y S (lv_sub hl [1, 2, 3, 0] rfl)
  refine lv_istore (lv' := [(4, .int (iI (a3 - 1))), (0, .ref h), (1, .ref ((q 92))), (2, .int (iI a2)), (3, .int (iI a3))]) X.1 X.2.1 d_M_putBytes_3 hl (by decide) rfl (fun ls hl => ?_)
  exact J107 _ (a3 - 1) wn I J B G _ _ _ rfl (by omega) (by omega) mmF_rf gwn (by omega) (by omega) (by omega) (by omega) Y S (lv_sub hl [1, 2, 3, 0] rfl)
set_option maxHeartbeats 4000000 in
set_option maxRecDepth 100000 in
theorem r_M_putParts_agentNames (l : Launch) (D : mD) (E : mE) (h : Nat) (q : Nat → Nat) (sz : Nat) (I : Nat → Int32) (J : Nat → Int64) (B : Nat → Nat → Int32) (G : Nat → Nat → Int64) (a2 : Int) (l_a2 : 0 ≤ a2) (u_a2 : a2 ≤ 120) (a3 : Int) (l_a3 : 0 ≤ a3) (u_a3 : a3 ≤ 40) (hT : rT I B) (wn : Int) (gwn : I 42 = iI wn) (lwn : 30300 ≤ wn) (uwn : wn ≤ 60000) : Met l y_M_putParts (k_M_putParts :: lw_tg) (mR 3 106) (va_Pc [.ref h, .ref (q 92), .int (iI a2), .int (iI a3)] (mPre D E h q (I, J, B, G) sz)) (va_Qv (rPv [42] [0] I B (fun (u : mS) => (∃ V2 : Int, u.1 42 = iI V2 ∧ wn - (5 * a3 + 10) ≤ V2 ∧ V2 ≤ wn) ∧ mmF 30000 60000 (B 0) (u.2.2.1 0))) (mPost D E h q (mA E h q sz)) (mA E h q sz)) 0 0 (mA E h q sz) := by
  refine m_enter (by decide) rfl (Nat.le_of_ble_eq_true rfl) (fun p e s m below meth c ls AV QQ H locs hQQ X Y hZ hA hr hlk hml hl => ?_)
  have Y : mH D E (mA E h q sz) s.heap h q I J B G H locs := Y
  have S : rS [42] [0] I B I B := rS_rf hT
  have hl : lv_has ls 7 [(0, .ref h), (1, .ref ((q 92))), (2, .int (iI a2)), (3, .int (iI a3))] := hl
  refine lv_iload_n X.1 X.2.1 d_M_putParts_0 rfl (lv_at hl 3 rfl) ?_
  refine lv_istore (lv' := [(4, .int (iI a3)), (0, .ref h), (1, .ref ((q 92))), (2, .int (iI a2)), (3, .int (iI a3))]) X.1 X.2.1 d_M_putParts_1 hl (by decide) rfl (fun ls hl => ?_)
  refine lv_iload_n X.1 X.2.1 d_M_putParts_3 rfl (lv_at hl 4 rfl) ?_
  refine lv_iconst (v := iI 1) X.1 X.2.1 d_M_putParts_4 (by decide) ?_
  refine z_isub X.1 X.2.1 d_M_putParts_5 ?_
  have J110 : ∀ (n112 : Nat) (z102 : Int) (z103 : Int) (z105 : Int) (I101 : Nat → Int32) (J101 : Nat → Int64) (B101 : Nat → Nat → Int32) (G101 : Nat → Nat → Int64) (H : Heap) (locs : List Loc) (ls : Array Slot), (z103 - (-2)).toNat = n112 → ((-1) ≤ z102) → (z102 ≤ 40) → ((-2) ≤ z103) → (z103 ≤ 39) → (mmF 30000 60000 (B 0) (B101 0)) → (I101 42 = iI z105) → (0 ≤ z105) → (z105 ≤ 60000) → (wn - (a3 - z102) - 4 * (a3 - 1 - z103) ≤ z105) → (z105 ≤ wn) → (z103 ≤ z102 - 1) → (z102 ≤ a3) → mH D E (mA E h q sz) s.heap h q I101 J101 B101 G101 H locs → rS [42] [0] I B I101 B101 → lv_has ls 7 [(0, .ref h), (1, .ref ((q 92))), (2, .int (iI a2)), (4, .int (iI z102)), (5, .int (iI z103))] → W p l e (mR 3 106) s m AV below meth c H locs 0 0 QQ (F0 m 8 ls []) := by
    intro n112
    induction n112 using Nat.strongRecOn with
    | ind n112 ih111 =>
      intro z102 z103 z105 I101 J101 B101 G101 H locs ls hm113 l102 u102 l103 u103 f104 e105 l105 u105 i106 i107 i108 i109 Y S hl
      refine lv_iload X.1 X.2.1 d_M_putParts_8 (lv_at hl 4 rfl) ?_
      refine lv_iconst (v := iI (-1)) X.1 X.2.1 d_M_putParts_10 (by decide) ?_
      refine z_icmp_lt (tgt := 75) X.1 X.2.1 d_M_putParts_11 (by decide) ⟨by omega, by omega⟩ ⟨by omega, by omega⟩ (fun h114 => ?_) (fun h114 => ?_)
      · exact m_retv hQQ X Y hr hlk ⟨S, ⟨⟨z105, e105, by omega, by omega⟩, f104⟩⟩ d_M_putParts_75
      · refine lv_iload X.1 X.2.1 d_M_putParts_14 (lv_at hl 4 rfl) ?_
        refine z_if_lt (tgt := 33) X.1 X.2.1 d_M_putParts_16 (by decide) ⟨by omega, by omega⟩ (fun h115 => ?_) (fun h115 => ?_)
        · refine lv_aload_n X.1 X.2.1 d_M_putParts_33 rfl (lv_at hl 0 rfl) ?_
          refine r_get0 X Y (by decide) lk_w0 (gf_w0 _ _ _) rfl e105 d_M_putParts_34 ?_
          refine lv_istore (lv' := [(6, .int (iI z105)), (0, .ref h), (1, .ref ((q 92))), (2, .int (iI a2)), (4, .int (iI z102)), (5, .int (iI z103))]) X.1 X.2.1 d_M_putParts_37 hl (by decide) rfl (fun ls hl => ?_)
          refine lv_aload_n X.1 X.2.1 d_M_putParts_39 rfl (lv_at hl 1 rfl) ?_
          refine lv_aload_n X.1 X.2.1 d_M_putParts_40 rfl (lv_at hl 2 rfl) ?_
          refine lv_iload_n X.1 X.2.1 d_M_putParts_41 rfl (lv_at hl 3 rfl) ?_
          refine lv_iload X.1 X.2.1 d_M_putParts_42 (lv_at hl 5 rfl) ?_
          refine z_iadd X.1 X.2.1 d_M_putParts_44 ?_
          refine lv_iconst (v := iI 1) X.1 X.2.1 d_M_putParts_45 (by decide) ?_
          refine z_iadd X.1 X.2.1 d_M_putParts_46 ?_
          refine lv_iload X.1 X.2.1 d_M_putParts_47 (lv_at hl 4 rfl) ?_
          refine lv_iload X.1 X.2.1 d_M_putParts_49 (lv_at hl 5 rfl) ?_
          refine z_isub X.1 X.2.1 d_M_putParts_51 ?_
          refine lv_iconst (v := iI 1) X.1 X.2.1 d_M_putParts_52 (by decide) ?_
          refine z_isub X.1 X.2.1 d_M_putParts_53 ?_
          refine r_nv (m_run (As := [.ref ((q 92)), .int (iI ((a2 + z103) + 1)), .int (iI ((z102 - z103) - 1))]) (rest := []) (n := 3) X Y hZ hA hml hl.1 (r_M_putBytes_agentNames l D E h q H.size I101 J101 B101 G101 ((a2 + z103) + 1) (by omega) (by omega) ((z102 - z103) - 1) (by omega) (by omega) S.1 z105 e105 (by omega) (by omega) (by omega) (by omega)) kl_M_putBytes ks_M_putBytes kx_M_putBytes ki_M_putBytes ini_M hd_M_putBytes ⟨Nat.le_of_ble_eq_true rfl, Nat.le_of_ble_eq_true rfl⟩ rfl (Nat.le_of_ble_eq_true rfl) d_M_putParts_54 ⟨Nat.le_refl _, Nat.le_refl _⟩) X Y hA S (by decide) (by decide) (fun u H locs Y S s116 p116 => ?_)
          obtain ⟨I116, J116, B116, G116⟩ := u
          dsimp only at Y S s116 p116
          obtain ⟨x116, g116_MF⟩ := p116
          obtain ⟨z117, e117, l117, u117⟩ := x116
          refine lv_aload_n X.1 X.2.1 d_M_putParts_57 rfl (lv_at hl 1 rfl) ?_
          refine lv_bipush (v := iI 27) X.1 X.2.1 d_M_putParts_58 (by decide) ?_
          refine lv_iload X.1 X.2.1 d_M_putParts_60 (lv_at hl 0 rfl) ?_
          refine r_nv (m_run (As := [.int (iI 27), .int (iI z105)]) (rest := []) (n := 2) X Y hZ hA hml hl.1 (r_M_head l D E h q H.size I116 J116 B116 G116 27 (by omega) (by omega) z105 (by omega) (by omega) S.1 z117 e117 (by omega) (by omega)) kl_M_head ks_M_head kx_M_head ki_M_head ini_M hd_M_head ⟨Nat.le_of_ble_eq_true rfl, Nat.le_of_ble_eq_true rfl⟩ rfl (Nat.le_of_ble_eq_true rfl) d_M_putParts_62 ⟨Nat.le_refl _, Nat.le_refl _⟩) X Y hA S (by decide) (by decide) (fun u H locs Y S s118 p118 => ?_)
          obtain ⟨I118, J118, B118, G118⟩ := u
          dsimp only at Y S s118 p118
          obtain ⟨x118, g118_MF⟩ := p118
          obtain ⟨z119, e119, l119, u119⟩ := x118
          refine lv_iload X.1 X.2.1 d_M_putParts_65 (lv_at hl 5 rfl) ?_
          refine lv_istore (lv' := [(4, .int (iI z103)), (6, .int (iI z105)), (0, .ref h), (1, .ref ((q 92))), (2, .int (iI a2)), (5, .int (iI z103))]) X.1 X.2.1 d_M_putParts_67 hl (by decide) rfl (fun ls hl => ?_)
          refine lv_iinc (v := iI (z103 - 1)) (lv' := [(5, .int (iI (z103 - 1))), (4, .int (iI z103)), (6, .int (iI z105)), (0, .ref h), (1, .ref ((q 92))), (2, .int (iI a2))]) X.1 X.2.1 d_M_putParts_69 hl (k := 5) rfl ((iI_add _ _).trans (congrArg iI (by omega))) (by decide) rfl (fun ls hl => ?_)
          refine lv_goto (tgt := 8) X.1 X.2.1 d_M_putParts_72 (by decide) ?_
          exact ih111 (((z103 - 1) - (-2)).toNat) (by omega) z103 (z103 - 1) z119 I118 J118 B118 G118 _ _ _ rfl (by omega) (by omega) (by omega) (by omega) (mmF_tr (mmF_tr f104 g116_MF (by decide)) g118_MF (by decide)) e119 (by omega) (by omega) (by omega) (by omega) (by omega) (by omega) Y S (lv_sub hl [3, 4, 5, 1, 0] rfl)
        · refine lv_aload_n X.1 X.2.1 d_M_putParts_19 rfl (lv_at hl 1 rfl) ?_
          refine lv_iload_n X.1 X.2.1 d_M_putParts_20 rfl (lv_at hl 2 rfl) ?_
          refine lv_iload X.1 X.2.1 d_M_putParts_21 (lv_at hl 4 rfl) ?_
          refine z_iadd X.1 X.2.1 d_M_putParts_23 ?_
          refine r_bald X Y S (aw_agentNames _ _ _ _ _ _ _) rfl (by omega) (show a2 + z103 < ((160 : Nat) : Int) by omega) (by omega) d_M_putParts_24 (fun z120 q120 l120 u120 => ?_)
          refine lv_bipush (v := iI 47) X.1 X.2.1 d_M_putParts_25 (by decide) ?_
          refine z_icmp_eq (tgt := 33) X.1 X.2.1 d_M_putParts_27 (by decide) ⟨by omega, by omega⟩ ⟨by omega, by omega⟩ (fun h121 => ?_) (fun h121 => ?_)
          · refine lv_aload_n X.1 X.2.1 d_M_putParts_33 rfl (lv_at hl 0 rfl) ?_
            refine r_get0 X Y (by decide) lk_w0 (gf_w0 _ _ _) rfl e105 d_M_putParts_34 ?_
            refine lv_istore (lv' := [(6, .int (iI z105)), (0, .ref h), (1, .ref ((q 92))), (2, .int (iI a2)), (4, .int (iI z102)), (5, .int (iI z103))]) X.1 X.2.1 d_M_putParts_37 hl (by decide) rfl (fun ls hl => ?_)
            refine lv_aload_n X.1 X.2.1 d_M_putParts_39 rfl (lv_at hl 1 rfl) ?_
            refine lv_aload_n X.1 X.2.1 d_M_putParts_40 rfl (lv_at hl 2 rfl) ?_
            refine lv_iload_n X.1 X.2.1 d_M_putParts_41 rfl (lv_at hl 3 rfl) ?_
            refine lv_iload X.1 X.2.1 d_M_putParts_42 (lv_at hl 5 rfl) ?_
            refine z_iadd X.1 X.2.1 d_M_putParts_44 ?_
            refine lv_iconst (v := iI 1) X.1 X.2.1 d_M_putParts_45 (by decide) ?_
            refine z_iadd X.1 X.2.1 d_M_putParts_46 ?_
            refine lv_iload X.1 X.2.1 d_M_putParts_47 (lv_at hl 4 rfl) ?_
            refine lv_iload X.1 X.2.1 d_M_putParts_49 (lv_at hl 5 rfl) ?_
            refine z_isub X.1 X.2.1 d_M_putParts_51 ?_
            refine lv_iconst (v := iI 1) X.1 X.2.1 d_M_putParts_52 (by decide) ?_
            refine z_isub X.1 X.2.1 d_M_putParts_53 ?_
            refine r_nv (m_run (As := [.ref ((q 92)), .int (iI ((a2 + z103) + 1)), .int (iI ((z102 - z103) - 1))]) (rest := []) (n := 3) X Y hZ hA hml hl.1 (r_M_putBytes_agentNames l D E h q H.size I101 J101 B101 G101 ((a2 + z103) + 1) (by omega) (by omega) ((z102 - z103) - 1) (by omega) (by omega) S.1 z105 e105 (by omega) (by omega) (by omega) (by omega)) kl_M_putBytes ks_M_putBytes kx_M_putBytes ki_M_putBytes ini_M hd_M_putBytes ⟨Nat.le_of_ble_eq_true rfl, Nat.le_of_ble_eq_true rfl⟩ rfl (Nat.le_of_ble_eq_true rfl) d_M_putParts_54 ⟨Nat.le_refl _, Nat.le_refl _⟩) X Y hA S (by decide) (by decide) (fun u H locs Y S s122 p122 => ?_)
            obtain ⟨I122, J122, B122, G122⟩ := u
            dsimp only at Y S s122 p122
            obtain ⟨x122, g122_MF⟩ := p122
            obtain ⟨z123, e123, l123, u123⟩ := x122
            refine lv_aload_n X.1 X.2.1 d_M_putParts_57 rfl (lv_at hl 1 rfl) ?_
            refine lv_bipush (v := iI 27) X.1 X.2.1 d_M_putParts_58 (by decide) ?_
            refine lv_iload X.1 X.2.1 d_M_putParts_60 (lv_at hl 0 rfl) ?_
            refine r_nv (m_run (As := [.int (iI 27), .int (iI z105)]) (rest := []) (n := 2) X Y hZ hA hml hl.1 (r_M_head l D E h q H.size I122 J122 B122 G122 27 (by omega) (by omega) z105 (by omega) (by omega) S.1 z123 e123 (by omega) (by omega)) kl_M_head ks_M_head kx_M_head ki_M_head ini_M hd_M_head ⟨Nat.le_of_ble_eq_true rfl, Nat.le_of_ble_eq_true rfl⟩ rfl (Nat.le_of_ble_eq_true rfl) d_M_putParts_62 ⟨Nat.le_refl _, Nat.le_refl _⟩) X Y hA S (by decide) (by decide) (fun u H locs Y S s124 p124 => ?_)
            obtain ⟨I124, J124, B124, G124⟩ := u
            dsimp only at Y S s124 p124
            obtain ⟨x124, g124_MF⟩ := p124
            obtain ⟨z125, e125, l125, u125⟩ := x124
            refine lv_iload X.1 X.2.1 d_M_putParts_65 (lv_at hl 5 rfl) ?_
            refine lv_istore (lv' := [(4, .int (iI z103)), (6, .int (iI z105)), (0, .ref h), (1, .ref ((q 92))), (2, .int (iI a2)), (5, .int (iI z103))]) X.1 X.2.1 d_M_putParts_67 hl (by decide) rfl (fun ls hl => ?_)
            refine lv_iinc (v := iI (z103 - 1)) (lv' := [(5, .int (iI (z103 - 1))), (4, .int (iI z103)), (6, .int (iI z105)), (0, .ref h), (1, .ref ((q 92))), (2, .int (iI a2))]) X.1 X.2.1 d_M_putParts_69 hl (k := 5) rfl ((iI_add _ _).trans (congrArg iI (by omega))) (by decide) rfl (fun ls hl => ?_)
            refine lv_goto (tgt := 8) X.1 X.2.1 d_M_putParts_72 (by decide) ?_
            exact ih111 (((z103 - 1) - (-2)).toNat) (by omega) z103 (z103 - 1) z125 I124 J124 B124 G124 _ _ _ rfl (by omega) (by omega) (by omega) (by omega) (mmF_tr (mmF_tr f104 g122_MF (by decide)) g124_MF (by decide)) e125 (by omega) (by omega) (by omega) (by omega) (by omega) (by omega) Y S (lv_sub hl [3, 4, 5, 1, 0] rfl)
          · refine lv_goto (tgt := 69) X.1 X.2.1 d_M_putParts_30 (by decide) ?_
            refine lv_iinc (v := iI (z103 - 1)) (lv' := [(5, .int (iI (z103 - 1))), (0, .ref h), (1, .ref ((q 92))), (2, .int (iI a2)), (4, .int (iI z102))]) X.1 X.2.1 d_M_putParts_69 hl (k := 4) rfl ((iI_add _ _).trans (congrArg iI (by omega))) (by decide) rfl (fun ls hl => ?_)
            refine lv_goto (tgt := 8) X.1 X.2.1 d_M_putParts_72 (by decide) ?_
            exact ih111 (((z103 - 1) - (-2)).toNat) (by omega) z102 (z103 - 1) z105 I101 J101 B101 G101 _ _ _ rfl (by omega) (by omega) (by omega) (by omega) f104 e105 (by omega) (by omega) (by omega) (by omega) (by omega) (by omega) Y S (lv_sub hl [1, 2, 3, 4, 0] rfl)
  refine lv_istore (lv' := [(5, .int (iI (a3 - 1))), (4, .int (iI a3)), (0, .ref h), (1, .ref ((q 92))), (2, .int (iI a2)), (3, .int (iI a3))]) X.1 X.2.1 d_M_putParts_6 hl (by decide) rfl (fun ls hl => ?_)
  exact J110 _ a3 (a3 - 1) wn I J B G _ _ _ rfl (by omega) (by omega) (by omega) (by omega) mmF_rf gwn (by omega) (by omega) (by omega) (by omega) (by omega) (by omega) Y S (lv_sub hl [2, 3, 4, 1, 0] rfl)
set_option maxHeartbeats 4000000 in
set_option maxRecDepth 100000 in
theorem r_M_partsField_agentNames (l : Launch) (D : mD) (E : mE) (h : Nat) (q : Nat → Nat) (sz : Nat) (I : Nat → Int32) (J : Nat → Int64) (B : Nat → Nat → Int32) (G : Nat → Nat → Int64) (a1 : Int) (l_a1 : (-2147483648) ≤ a1) (u_a1 : a1 ≤ 2147483647) (a3 : Int) (l_a3 : 0 ≤ a3) (u_a3 : a3 ≤ 120) (a4 : Int) (l_a4 : 0 ≤ a4) (u_a4 : a4 ≤ 40) (a5 : Int) (l_a5 : (-2147483648) ≤ a5) (u_a5 : a5 ≤ 2147483647) (hT : rT I B) (wn : Int) (gwn : I 42 = iI wn) (lwn : 30700 ≤ wn) (uwn : wn ≤ 60000) : Met l y_M_partsField (k_M_partsField :: lw_tg) (mR 5 157) (va_Pc [.ref h, .int (iI a1), .ref (q 92), .int (iI a3), .int (iI a4), .int (iI a5)] (mPre D E h q (I, J, B, G) sz)) (va_Qv (rPv [42] [0] I B (fun (u : mS) => (∃ V2 : Int, u.1 42 = iI V2 ∧ wn - (300) ≤ V2 ∧ V2 ≤ wn) ∧ mmF 30000 60000 (B 0) (u.2.2.1 0))) (mPost D E h q (mA E h q sz)) (mA E h q sz)) 0 0 (mA E h q sz) := by
  refine m_enter (by decide) rfl (Nat.le_of_ble_eq_true rfl) (fun p e s m below meth c ls AV QQ H locs hQQ X Y hZ hA hr hlk hml hl => ?_)
  have Y : mH D E (mA E h q sz) s.heap h q I J B G H locs := Y
  have S : rS [42] [0] I B I B := rS_rf hT
  have hl : lv_has ls 8 [(0, .ref h), (1, .int (iI a1)), (2, .ref ((q 92))), (3, .int (iI a3)), (4, .int (iI a4)), (5, .int (iI a5))] := hl
  refine lv_aload_n X.1 X.2.1 d_M_partsField_0 rfl (lv_at hl 0 rfl) ?_
  refine r_get0 X Y (by decide) lk_w0 (gf_w0 _ _ _) rfl gwn d_M_partsField_1 ?_
  refine lv_istore (lv' := [(6, .int (iI wn)), (0, .ref h), (1, .int (iI a1)), (2, .ref ((q 92))), (3, .int (iI a3)), (4, .int (iI a4)), (5, .int (iI a5))]) X.1 X.2.1 d_M_partsField_4 hl (by decide) rfl (fun ls hl => ?_)
  refine lv_aload_n X.1 X.2.1 d_M_partsField_6 rfl (lv_at hl 1 rfl) ?_
  refine r_get0 X Y (by decide) lk_w0 (gf_w0 _ _ _) rfl gwn d_M_partsField_7 ?_
  refine lv_istore (lv' := [(7, .int (iI wn)), (6, .int (iI wn)), (0, .ref h), (1, .int (iI a1)), (2, .ref ((q 92))), (3, .int (iI a3)), (4, .int (iI a4)), (5, .int (iI a5))]) X.1 X.2.1 d_M_partsField_10 hl (by decide) rfl (fun ls hl => ?_)
  refine lv_aload_n X.1 X.2.1 d_M_partsField_12 rfl (lv_at hl 2 rfl) ?_
  refine lv_aload_n X.1 X.2.1 d_M_partsField_13 rfl (lv_at hl 4 rfl) ?_
  refine lv_iload_n X.1 X.2.1 d_M_partsField_14 rfl (lv_at hl 5 rfl) ?_
  refine lv_iload X.1 X.2.1 d_M_partsField_15 (lv_at hl 6 rfl) ?_
  refine r_nv (m_run (As := [.ref ((q 92)), .int (iI a3), .int (iI a4)]) (rest := []) (n := 3) X Y hZ hA hml hl.1 (r_M_putParts_agentNames l D E h q H.size I J B G a3 (by omega) (by omega) a4 (by omega) (by omega) S.1 wn gwn (by omega) (by omega)) kl_M_putParts ks_M_putParts kx_M_putParts ki_M_putParts ini_M hd_M_putParts ⟨Nat.le_of_ble_eq_true rfl, Nat.le_of_ble_eq_true rfl⟩ rfl (Nat.le_of_ble_eq_true rfl) d_M_partsField_17 ⟨Nat.le_refl _, Nat.le_refl _⟩) X Y hA S (by decide) (by decide) (fun u H locs Y S s101 p101 => ?_)
  obtain ⟨I101, J101, B101, G101⟩ := u
  dsimp only at Y S s101 p101
  obtain ⟨x101, g101_MF⟩ := p101
  obtain ⟨z102, e102, l102, u102⟩ := x101
  refine lv_aload_n X.1 X.2.1 d_M_partsField_20 rfl (lv_at hl 2 rfl) ?_
  refine lv_bipush (v := iI 48) X.1 X.2.1 d_M_partsField_21 (by decide) ?_
  refine lv_iload X.1 X.2.1 d_M_partsField_23 (lv_at hl 0 rfl) ?_
  refine r_nv (m_run (As := [.int (iI 48), .int (iI wn)]) (rest := []) (n := 2) X Y hZ hA hml hl.1 (r_M_head l D E h q H.size I101 J101 B101 G101 48 (by omega) (by omega) wn (by omega) (by omega) S.1 z102 e102 (by omega) (by omega)) kl_M_head ks_M_head kx_M_head ki_M_head ini_M hd_M_head ⟨Nat.le_of_ble_eq_true rfl, Nat.le_of_ble_eq_true rfl⟩ rfl (Nat.le_of_ble_eq_true rfl) d_M_partsField_25 ⟨Nat.le_refl _, Nat.le_refl _⟩) X Y hA S (by decide) (by decide) (fun u H locs Y S s103 p103 => ?_)
  obtain ⟨I103, J103, B103, G103⟩ := u
  dsimp only at Y S s103 p103
  obtain ⟨x103, g103_MF⟩ := p103
  obtain ⟨z104, e104, l104, u104⟩ := x103
  refine lv_aload_n X.1 X.2.1 d_M_partsField_28 rfl (lv_at hl 2 rfl) ?_
  refine lv_iconst (v := iI 1) X.1 X.2.1 d_M_partsField_29 (by decide) ?_
  refine lv_iload X.1 X.2.1 d_M_partsField_30 (lv_at hl 0 rfl) ?_
  refine r_nv (m_run (As := [.int (iI 1), .int (iI wn)]) (rest := []) (n := 2) X Y hZ hA hml hl.1 (r_M_field l D E h q H.size I103 J103 B103 G103 1 (by omega) (by omega) wn (by omega) (by omega) S.1 z104 e104 (by omega) (by omega)) kl_M_field ks_M_field kx_M_field ki_M_field ini_M hd_M_field ⟨Nat.le_of_ble_eq_true rfl, Nat.le_of_ble_eq_true rfl⟩ rfl (Nat.le_of_ble_eq_true rfl) d_M_partsField_32 ⟨Nat.le_refl _, Nat.le_refl _⟩) X Y hA S (by decide) (by decide) (fun u H locs Y S s105 p105 => ?_)
  obtain ⟨I105, J105, B105, G105⟩ := u
  dsimp only at Y S s105 p105
  obtain ⟨x105, g105_MF⟩ := p105
  obtain ⟨z106, e106, l106, u106⟩ := x105
  refine lv_aload_n X.1 X.2.1 d_M_partsField_35 rfl (lv_at hl 2 rfl) ?_
  refine lv_iconst (v := iI 0) X.1 X.2.1 d_M_partsField_36 (by decide) ?_
  refine lv_iload X.1 X.2.1 d_M_partsField_37 (lv_at hl 7 rfl) ?_
  refine lv_i2l X.1 X.2.1 d_M_partsField_39 rfl ?_
  refine t_anyl (fun v107 => ?_)
  refine r_nv (m_run (As := [.int (iI 0), .long v107]) (rest := []) (n := 2) X Y hZ hA hml hl.1 (r_M_numberField l D E h q H.size I105 J105 B105 G105 0 (by omega) (by omega) v107 S.1 z106 e106 (by omega) (by omega)) kl_M_numberField ks_M_numberField kx_M_numberField ki_M_numberField ini_M hd_M_numberField ⟨Nat.le_of_ble_eq_true rfl, Nat.le_of_ble_eq_true rfl⟩ rfl (Nat.le_of_ble_eq_true rfl) d_M_partsField_40 ⟨Nat.le_refl _, Nat.le_refl _⟩) X Y hA S (by decide) (by decide) (fun u H locs Y S s108 p108 => ?_)
  obtain ⟨I108, J108, B108, G108⟩ := u
  dsimp only at Y S s108 p108
  obtain ⟨x108, g108_MF⟩ := p108
  obtain ⟨z109, e109, l109, u109⟩ := x108
  refine lv_aload_n X.1 X.2.1 d_M_partsField_43 rfl (lv_at hl 2 rfl) ?_
  refine lv_bipush (v := iI 48) X.1 X.2.1 d_M_partsField_44 (by decide) ?_
  refine lv_iload X.1 X.2.1 d_M_partsField_46 (lv_at hl 1 rfl) ?_
  refine r_nv (m_run (As := [.int (iI 48), .int (iI wn)]) (rest := []) (n := 2) X Y hZ hA hml hl.1 (r_M_head l D E h q H.size I108 J108 B108 G108 48 (by omega) (by omega) wn (by omega) (by omega) S.1 z109 e109 (by omega) (by omega)) kl_M_head ks_M_head kx_M_head ki_M_head ini_M hd_M_head ⟨Nat.le_of_ble_eq_true rfl, Nat.le_of_ble_eq_true rfl⟩ rfl (Nat.le_of_ble_eq_true rfl) d_M_partsField_48 ⟨Nat.le_refl _, Nat.le_refl _⟩) X Y hA S (by decide) (by decide) (fun u H locs Y S s110 p110 => ?_)
  obtain ⟨I110, J110, B110, G110⟩ := u
  dsimp only at Y S s110 p110
  obtain ⟨x110, g110_MF⟩ := p110
  obtain ⟨z111, e111, l111, u111⟩ := x110
  refine lv_aload_n X.1 X.2.1 d_M_partsField_51 rfl (lv_at hl 2 rfl) ?_
  refine lv_iload_n X.1 X.2.1 d_M_partsField_52 rfl (lv_at hl 3 rfl) ?_
  refine lv_iload X.1 X.2.1 d_M_partsField_53 (lv_at hl 1 rfl) ?_
  refine r_nv (m_run (As := [.int (iI a1), .int (iI wn)]) (rest := []) (n := 2) X Y hZ hA hml hl.1 (r_M_field l D E h q H.size I110 J110 B110 G110 a1 (by omega) (by omega) wn (by omega) (by omega) S.1 z111 e111 (by omega) (by omega)) kl_M_field ks_M_field kx_M_field ki_M_field ini_M hd_M_field ⟨Nat.le_of_ble_eq_true rfl, Nat.le_of_ble_eq_true rfl⟩ rfl (Nat.le_of_ble_eq_true rfl) d_M_partsField_55 ⟨Nat.le_refl _, Nat.le_refl _⟩) X Y hA S (by decide) (by decide) (fun u H locs Y S s112 p112 => ?_)
  obtain ⟨I112, J112, B112, G112⟩ := u
  dsimp only at Y S s112 p112
  obtain ⟨x112, g112_MF⟩ := p112
  obtain ⟨z113, e113, l113, u113⟩ := x112
  exact m_retv hQQ X Y hr hlk ⟨S, ⟨⟨z113, e113, by omega, by omega⟩, (mmF_tr (mmF_tr (mmF_tr (mmF_tr (mmF_tr (mmF_tr mmF_rf g101_MF (by decide)) g103_MF (by decide)) g105_MF (by decide)) g108_MF (by decide)) g110_MF (by decide)) g112_MF (by decide))⟩⟩ d_M_partsField_58
set_option maxHeartbeats 4000000 in
set_option maxRecDepth 100000 in
theorem r_M_errorHead (l : Launch) (D : mD) (E : mE) (h : Nat) (q : Nat → Nat) (sz : Nat) (I : Nat → Int32) (J : Nat → Int64) (B : Nat → Nat → Int32) (G : Nat → Nat → Int64) (a1 : Int) (l_a1 : (-2147483648) ≤ a1) (u_a1 : a1 ≤ 2147483647) (hT : rT I B) (wn : Int) (gwn : I 42 = iI wn) (lwn : 30300 ≤ wn) (uwn : wn ≤ 60000) : Met l y_M_errorHead (k_M_errorHead :: lw_tg) (mR 5 157) (va_Pc [.ref h, .int (iI a1)] (mPre D E h q (I, J, B, G) sz)) (va_Qv (rPv [42] [0] I B (fun (u : mS) => (∃ V2 : Int, u.1 42 = iI V2 ∧ wn - (120) ≤ V2 ∧ V2 ≤ wn) ∧ mmF 30000 60000 (B 0) (u.2.2.1 0))) (mPost D E h q (mA E h q sz)) (mA E h q sz)) 0 0 (mA E h q sz) := by
  refine m_enter (by decide) rfl (Nat.le_of_ble_eq_true rfl) (fun p e s m below meth c ls AV QQ H locs hQQ X Y hZ hA hr hlk hml hl => ?_)
  have Y : mH D E (mA E h q sz) s.heap h q I J B G H locs := Y
  have S : rS [42] [0] I B I B := rS_rf hT
  have hl : lv_has ls 2 [(0, .ref h), (1, .int (iI a1))] := hl
  refine lv_aload_n X.1 X.2.1 d_M_errorHead_0 rfl (lv_at hl 0 rfl) ?_
  refine lv_bipush (v := iI 6) X.1 X.2.1 d_M_errorHead_1 (by decide) ?_
  refine lv_iload_n X.1 X.2.1 d_M_errorHead_3 rfl (lv_at hl 1 rfl) ?_
  refine lv_i2l X.1 X.2.1 d_M_errorHead_4 rfl ?_
  refine t_anyl (fun v101 => ?_)
  refine r_nv (m_run (As := [.int (iI 6), .long v101]) (rest := []) (n := 2) X Y hZ hA hml hl.1 (r_M_numberField l D E h q H.size I J B G 6 (by omega) (by omega) v101 S.1 wn gwn (by omega) (by omega)) kl_M_numberField ks_M_numberField kx_M_numberField ki_M_numberField ini_M hd_M_numberField ⟨Nat.le_of_ble_eq_true rfl, Nat.le_of_ble_eq_true rfl⟩ rfl (Nat.le_of_ble_eq_true rfl) d_M_errorHead_5 ⟨Nat.le_refl _, Nat.le_refl _⟩) X Y hA S (by decide) (by decide) (fun u H locs Y S s102 p102 => ?_)
  obtain ⟨I102, J102, B102, G102⟩ := u
  dsimp only at Y S s102 p102
  obtain ⟨x102, g102_MF⟩ := p102
  obtain ⟨z103, e103, l103, u103⟩ := x102
  refine lv_aload_n X.1 X.2.1 d_M_errorHead_8 rfl (lv_at hl 0 rfl) ?_
  refine lv_iconst (v := iI 5) X.1 X.2.1 d_M_errorHead_9 (by decide) ?_
  refine lv_lconst (v := 0) X.1 X.2.1 d_M_errorHead_10 rfl ?_
  refine r_nv (m_run (As := [.int (iI 5), .long 0]) (rest := []) (n := 2) X Y hZ hA hml hl.1 (r_M_numberField l D E h q H.size I102 J102 B102 G102 5 (by omega) (by omega) 0 S.1 z103 e103 (by omega) (by omega)) kl_M_numberField ks_M_numberField kx_M_numberField ki_M_numberField ini_M hd_M_numberField ⟨Nat.le_of_ble_eq_true rfl, Nat.le_of_ble_eq_true rfl⟩ rfl (Nat.le_of_ble_eq_true rfl) d_M_errorHead_11 ⟨Nat.le_refl _, Nat.le_refl _⟩) X Y hA S (by decide) (by decide) (fun u H locs Y S s104 p104 => ?_)
  obtain ⟨I104, J104, B104, G104⟩ := u
  dsimp only at Y S s104 p104
  obtain ⟨x104, g104_MF⟩ := p104
  obtain ⟨z105, e105, l105, u105⟩ := x104
  refine lv_aload_n X.1 X.2.1 d_M_errorHead_14 rfl (lv_at hl 0 rfl) ?_
  refine lv_iconst (v := iI 4) X.1 X.2.1 d_M_errorHead_15 (by decide) ?_
  refine lv_aload_n X.1 X.2.1 d_M_errorHead_16 rfl (lv_at hl 0 rfl) ?_
  refine r_geti (k := 4) X Y S (by decide) lk_now (gf_now _ _ _) rfl rfl d_M_errorHead_17 (fun z106 e106 l106 u106 => ?_)
  refine lv_i2l X.1 X.2.1 d_M_errorHead_20 rfl ?_
  refine t_anyl (fun v107 => ?_)
  refine r_nv (m_run (As := [.int (iI 4), .long v107]) (rest := []) (n := 2) X Y hZ hA hml hl.1 (r_M_timeField l D E h q H.size I104 J104 B104 G104 4 (by omega) (by omega) v107 S.1 z105 e105 (by omega) (by omega)) kl_M_timeField ks_M_timeField kx_M_timeField ki_M_timeField ini_M hd_M_timeField ⟨Nat.le_of_ble_eq_true rfl, Nat.le_of_ble_eq_true rfl⟩ rfl (Nat.le_of_ble_eq_true rfl) d_M_errorHead_21 ⟨Nat.le_refl _, Nat.le_refl _⟩) X Y hA S (by decide) (by decide) (fun u H locs Y S s108 p108 => ?_)
  obtain ⟨I108, J108, B108, G108⟩ := u
  dsimp only at Y S s108 p108
  obtain ⟨x108, g108_MF⟩ := p108
  obtain ⟨z109, e109, l109, u109⟩ := x108
  refine lv_aload_n X.1 X.2.1 d_M_errorHead_24 rfl (lv_at hl 0 rfl) ?_
  refine lv_iconst (v := iI 1) X.1 X.2.1 d_M_errorHead_25 (by decide) ?_
  refine lv_ldc2 (v := (30)) X.1 X.2.1 X.2.2.2.1 (X.2.2.1 _ cl_M_914) d_M_errorHead_26 ?_
  refine r_nv (m_run (As := [.int (iI 1), .long ((30))]) (rest := []) (n := 2) X Y hZ hA hml hl.1 (r_M_numberField l D E h q H.size I108 J108 B108 G108 1 (by omega) (by omega) ((30)) S.1 z109 e109 (by omega) (by omega)) kl_M_numberField ks_M_numberField kx_M_numberField ki_M_numberField ini_M hd_M_numberField ⟨Nat.le_of_ble_eq_true rfl, Nat.le_of_ble_eq_true rfl⟩ rfl (Nat.le_of_ble_eq_true rfl) d_M_errorHead_29 ⟨Nat.le_refl _, Nat.le_refl _⟩) X Y hA S (by decide) (by decide) (fun u H locs Y S s110 p110 => ?_)
  obtain ⟨I110, J110, B110, G110⟩ := u
  dsimp only at Y S s110 p110
  obtain ⟨x110, g110_MF⟩ := p110
  obtain ⟨z111, e111, l111, u111⟩ := x110
  refine lv_aload_n X.1 X.2.1 d_M_errorHead_32 rfl (lv_at hl 0 rfl) ?_
  refine lv_iconst (v := iI 0) X.1 X.2.1 d_M_errorHead_33 (by decide) ?_
  refine lv_ldc2 (v := (5)) X.1 X.2.1 X.2.2.2.1 (X.2.2.1 _ cl_M_669) d_M_errorHead_34 ?_
  refine r_nv (m_run (As := [.int (iI 0), .long ((5))]) (rest := []) (n := 2) X Y hZ hA hml hl.1 (r_M_numberField l D E h q H.size I110 J110 B110 G110 0 (by omega) (by omega) ((5)) S.1 z111 e111 (by omega) (by omega)) kl_M_numberField ks_M_numberField kx_M_numberField ki_M_numberField ini_M hd_M_numberField ⟨Nat.le_of_ble_eq_true rfl, Nat.le_of_ble_eq_true rfl⟩ rfl (Nat.le_of_ble_eq_true rfl) d_M_errorHead_37 ⟨Nat.le_refl _, Nat.le_refl _⟩) X Y hA S (by decide) (by decide) (fun u H locs Y S s112 p112 => ?_)
  obtain ⟨I112, J112, B112, G112⟩ := u
  dsimp only at Y S s112 p112
  obtain ⟨x112, g112_MF⟩ := p112
  obtain ⟨z113, e113, l113, u113⟩ := x112
  refine lv_aload_n X.1 X.2.1 d_M_errorHead_40 rfl (lv_at hl 0 rfl) ?_
  refine lv_bipush (v := iI 48) X.1 X.2.1 d_M_errorHead_41 (by decide) ?_
  refine lv_ldc (v := (60000)) X.1 X.2.1 X.2.2.2.1 (X.2.2.1 _ cn_M_9) d_M_errorHead_43 ?_
  refine t_eq (y := iI 60000) (by decide) ?_
  refine r_nv (m_run (As := [.int (iI 48), .int (iI 60000)]) (rest := []) (n := 2) X Y hZ hA hml hl.1 (r_M_head l D E h q H.size I112 J112 B112 G112 48 (by omega) (by omega) 60000 (by omega) (by omega) S.1 z113 e113 (by omega) (by omega)) kl_M_head ks_M_head kx_M_head ki_M_head ini_M hd_M_head ⟨Nat.le_of_ble_eq_true rfl, Nat.le_of_ble_eq_true rfl⟩ rfl (Nat.le_of_ble_eq_true rfl) d_M_errorHead_45 ⟨Nat.le_refl _, Nat.le_refl _⟩) X Y hA S (by decide) (by decide) (fun u H locs Y S s114 p114 => ?_)
  obtain ⟨I114, J114, B114, G114⟩ := u
  dsimp only at Y S s114 p114
  obtain ⟨x114, g114_MF⟩ := p114
  obtain ⟨z115, e115, l115, u115⟩ := x114
  refine lv_aload_n X.1 X.2.1 d_M_errorHead_48 rfl (lv_at hl 0 rfl) ?_
  refine lv_bipush (v := iI 126) X.1 X.2.1 d_M_errorHead_49 (by decide) ?_
  refine lv_ldc (v := (60000)) X.1 X.2.1 X.2.2.2.1 (X.2.2.1 _ cn_M_9) d_M_errorHead_51 ?_
  refine t_eq (y := iI 60000) (by decide) ?_
  refine r_nv (m_run (As := [.int (iI 126), .int (iI 60000)]) (rest := []) (n := 2) X Y hZ hA hml hl.1 (r_M_head l D E h q H.size I114 J114 B114 G114 126 (by omega) (by omega) 60000 (by omega) (by omega) S.1 z115 e115 (by omega) (by omega)) kl_M_head ks_M_head kx_M_head ki_M_head ini_M hd_M_head ⟨Nat.le_of_ble_eq_true rfl, Nat.le_of_ble_eq_true rfl⟩ rfl (Nat.le_of_ble_eq_true rfl) d_M_errorHead_53 ⟨Nat.le_refl _, Nat.le_refl _⟩) X Y hA S (by decide) (by decide) (fun u H locs Y S s116 p116 => ?_)
  obtain ⟨I116, J116, B116, G116⟩ := u
  dsimp only at Y S s116 p116
  obtain ⟨x116, g116_MF⟩ := p116
  obtain ⟨z117, e117, l117, u117⟩ := x116
  exact m_retv hQQ X Y hr hlk ⟨S, ⟨⟨z117, e117, by omega, by omega⟩, (mmF_tr (mmF_tr (mmF_tr (mmF_tr (mmF_tr (mmF_tr (mmF_tr mmF_rf g102_MF (by decide)) g104_MF (by decide)) g108_MF (by decide)) g110_MF (by decide)) g112_MF (by decide)) g114_MF (by decide)) g116_MF (by decide))⟩⟩ d_M_errorHead_56
set_option maxHeartbeats 4000000 in
set_option maxRecDepth 100000 in
theorem r_M_saltOf_names (l : Launch) (D : mD) (E : mE) (h : Nat) (q : Nat → Nat) (sz : Nat) (I : Nat → Int32) (J : Nat → Int64) (B : Nat → Nat → Int32) (G : Nat → Nat → Int64) (a2 : Int) (l_a2 : 0 ≤ a2) (u_a2 : a2 ≤ 440) (a3 : Int) (l_a3 : 0 ≤ a3) (u_a3 : a3 ≤ 40) (hT : rT I B) : Met l y_M_saltOf (k_M_saltOf :: lw_tg) (mR 4 90) (va_Pc [.ref h, .ref (q 44), .int (iI a2), .int (iI a3)] (mPre D E h q (I, J, B, G) sz)) (va_Qv (rPv [29] [24] I B (fun (u : mS) => True)) (mPost D E h q (mA E h q sz)) (mA E h q sz)) 0 0 (mA E h q sz) := by
  refine m_enter (by decide) rfl (Nat.le_of_ble_eq_true rfl) (fun p e s m below meth c ls AV QQ H locs hQQ X Y hZ hA hr hlk hml hl => ?_)
  have Y : mH D E (mA E h q sz) s.heap h q I J B G H locs := Y
  have S : rS [29] [24] I B I B := rS_rf hT
  have hl : lv_has ls 6 [(0, .ref h), (1, .ref ((q 44))), (2, .int (iI a2)), (3, .int (iI a3))] := hl
  refine m_ldcSW (i := 2) X (by decide) (by decide) d_M_saltOf_0 ?_
  refine lv_astore (lv' := [(4, .ref ((D.2.1 2))), (0, .ref h), (1, .ref ((q 44))), (2, .int (iI a2)), (3, .int (iI a3))]) X.1 X.2.1 d_M_saltOf_3 hl (by decide) rfl (fun ls hl => ?_)
  refine lv_aload_n X.1 X.2.1 d_M_saltOf_5 rfl (lv_at hl 1 rfl) ?_
  refine lv_iconst (v := iI 0) X.1 X.2.1 d_M_saltOf_6 (by decide) ?_
  refine r_puti (k := 29) X Y S (by decide) lk_saltMany rfl rfl (t_M_ok 29 (by decide)) rfl rfl (sf_saltMany _ _ _ _) (Nat.le_of_ble_eq_true rfl) rfl (show (0 : Int) ≤ 0 by omega) (show 0 ≤ (60 : Int) by omega) ⟨by omega, by omega⟩ (by decide) d_M_saltOf_7 (fun I101 H locs Y S w101 => ?_)
  refine lv_iconst (v := iI 0) X.1 X.2.1 d_M_saltOf_10 (by decide) ?_
  have J105 : ∀ (n107 : Nat) (z103 : Int) (I102 : Nat → Int32) (J102 : Nat → Int64) (B102 : Nat → Nat → Int32) (G102 : Nat → Nat → Int64) (H : Heap) (locs : List Loc) (ls : Array Slot), (5 - z103).toNat = n107 → (0 ≤ z103) → (z103 ≤ 5) → (I102 29 = iI 0) → mH D E (mA E h q sz) s.heap h q I102 J102 B102 G102 H locs → rS [29] [24] I B I102 B102 → lv_has ls 6 [(0, .ref h), (1, .ref ((q 44))), (2, .int (iI a2)), (3, .int (iI a3)), (4, .ref ((D.2.1 2))), (5, .int (iI z103))] → W p l e (mR 4 90) s m AV below meth c H locs 0 0 QQ (F0 m 13 ls []) := by
    intro n107
    induction n107 using Nat.strongRecOn with
    | ind n107 ih106 =>
      intro z103 I102 J102 B102 G102 H locs ls hm108 l103 u103 e104 Y S hl
      refine lv_iload X.1 X.2.1 d_M_saltOf_13 (lv_at hl 5 rfl) ?_
      refine lv_iconst (v := iI 5) X.1 X.2.1 d_M_saltOf_15 (by decide) ?_
      refine z_icmp_ge (tgt := 40) X.1 X.2.1 d_M_saltOf_16 (by decide) ⟨by omega, by omega⟩ ⟨by omega, by omega⟩ (fun h109 => ?_) (fun h109 => ?_)
      · refine lv_aload_n X.1 X.2.1 d_M_saltOf_40 rfl (lv_at hl 0 rfl) ?_
        refine lv_iconst (v := iI 5) X.1 X.2.1 d_M_saltOf_41 (by decide) ?_
        refine r_puti (k := 29) X Y S (by decide) lk_saltMany rfl rfl (t_M_ok 29 (by decide)) rfl rfl (sf_saltMany _ _ _ _) (Nat.le_of_ble_eq_true rfl) rfl (show (0 : Int) ≤ 5 by omega) (show 5 ≤ (60 : Int) by omega) ⟨by omega, by omega⟩ (by decide) d_M_saltOf_42 (fun I110 H locs Y S w110 => ?_)
        refine lv_iconst (v := iI 0) X.1 X.2.1 d_M_saltOf_45 (by decide) ?_
        have J115 : ∀ (n117 : Nat) (z112 : Int) (z113 : Int) (I111 : Nat → Int32) (J111 : Nat → Int64) (B111 : Nat → Nat → Int32) (G111 : Nat → Nat → Int64) (H : Heap) (locs : List Loc) (ls : Array Slot), (40 - z112).toNat = n117 → (0 ≤ z112) → (z112 ≤ 40) → (I111 29 = iI z113) → (0 ≤ z113) → (z113 ≤ 60) → (z113 ≤ 5 + z112) → mH D E (mA E h q sz) s.heap h q I111 J111 B111 G111 H locs → rS [29] [24] I B I111 B111 → lv_has ls 6 [(0, .ref h), (1, .ref ((q 44))), (2, .int (iI a2)), (3, .int (iI a3)), (5, .int (iI z112))] → W p l e (mR 4 90) s m AV below meth c H locs 0 0 QQ (F0 m 48 ls []) := by
          intro n117
          induction n117 using Nat.strongRecOn with
          | ind n117 ih116 =>
            intro z112 z113 I111 J111 B111 G111 H locs ls hm118 l112 u112 e113 l113 u113 i114 Y S hl
            refine lv_iload X.1 X.2.1 d_M_saltOf_48 (lv_at hl 4 rfl) ?_
            refine lv_iload_n X.1 X.2.1 d_M_saltOf_50 rfl (lv_at hl 3 rfl) ?_
            refine z_icmp_ge (tgt := 99) X.1 X.2.1 d_M_saltOf_51 (by decide) ⟨by omega, by omega⟩ ⟨by omega, by omega⟩ (fun h119 => ?_) (fun h119 => ?_)
            · exact m_retv hQQ X Y hr hlk ⟨S, trivial⟩ d_M_saltOf_99
            · refine lv_aload_n X.1 X.2.1 d_M_saltOf_54 rfl (lv_at hl 1 rfl) ?_
              refine lv_iload_n X.1 X.2.1 d_M_saltOf_55 rfl (lv_at hl 2 rfl) ?_
              refine lv_iload X.1 X.2.1 d_M_saltOf_56 (lv_at hl 4 rfl) ?_
              refine z_iadd X.1 X.2.1 d_M_saltOf_58 ?_
              refine r_bald X Y S (aw_names _ _ _ _ _ _ _) rfl (by omega) (show a2 + z112 < ((480 : Nat) : Int) by omega) (by omega) d_M_saltOf_59 (fun z120 q120 l120 u120 => ?_)
              refine lv_bipush (v := iI 47) X.1 X.2.1 d_M_saltOf_60 (by decide) ?_
              refine z_icmp_ne (tgt := 68) X.1 X.2.1 d_M_saltOf_62 (by decide) ⟨by omega, by omega⟩ ⟨by omega, by omega⟩ (fun h121 => ?_) (fun h121 => ?_)
              · refine lv_aload_n X.1 X.2.1 d_M_saltOf_68 rfl (lv_at hl 0 rfl) ?_
                refine m_get X Y 24 (by decide) lk_salt (gf_salt _ _ _) rfl d_M_saltOf_69 ?_
                refine lv_aload_n X.1 X.2.1 d_M_saltOf_72 rfl (lv_at hl 0 rfl) ?_
                refine r_get0 X Y (by decide) lk_saltMany (gf_saltMany _ _ _) rfl e113 d_M_saltOf_73 ?_
                refine lv_aload_n X.1 X.2.1 d_M_saltOf_76 rfl (lv_at hl 1 rfl) ?_
                refine lv_iload_n X.1 X.2.1 d_M_saltOf_77 rfl (lv_at hl 2 rfl) ?_
                refine lv_iload X.1 X.2.1 d_M_saltOf_78 (lv_at hl 4 rfl) ?_
                refine z_iadd X.1 X.2.1 d_M_saltOf_80 ?_
                refine r_bald X Y S (aw_names _ _ _ _ _ _ _) rfl (by omega) (show a2 + z112 < ((480 : Nat) : Int) by omega) (by omega) d_M_saltOf_81 (fun z122 q122 l122 u122 => ?_)
                refine r_bast X Y S (aw_salt _ _ _ _ _ _ _) (sw_salt _ _ _ _ _ _ _) rfl (by omega) (show z113 < ((60 : Nat) : Int) by omega) (by omega) (by decide) d_M_saltOf_82 (fun B123 H locs Y S w123 => ?_)
                refine lv_aload_n X.1 X.2.1 d_M_saltOf_83 rfl (lv_at hl 0 rfl) ?_
                refine lv_dup X.1 X.2.1 d_M_saltOf_84 rfl ?_
                refine r_get0 X Y (by decide) lk_saltMany (gf_saltMany _ _ _) rfl e113 d_M_saltOf_85 ?_
                refine lv_iconst (v := iI 1) X.1 X.2.1 d_M_saltOf_88 (by decide) ?_
                refine z_iadd X.1 X.2.1 d_M_saltOf_89 ?_
                refine r_puti (k := 29) X Y S (by decide) lk_saltMany rfl rfl (t_M_ok 29 (by decide)) rfl rfl (sf_saltMany _ _ _ _) (Nat.le_of_ble_eq_true rfl) rfl (show (0 : Int) ≤ z113 + 1 by omega) (show z113 + 1 ≤ (60 : Int) by omega) ⟨by omega, by omega⟩ (by decide) d_M_saltOf_90 (fun I124 H locs Y S w124 => ?_)
                refine lv_iinc (v := iI (z112 + 1)) (lv' := [(5, .int (iI (z112 + 1))), (0, .ref h), (1, .ref ((q 44))), (2, .int (iI a2)), (3, .int (iI a3))]) X.1 X.2.1 d_M_saltOf_93 hl (k := 4) rfl ((iI_add _ _).trans (congrArg iI (by omega))) (by decide) rfl (fun ls hl => ?_)
                refine lv_goto (tgt := 48) X.1 X.2.1 d_M_saltOf_96 (by decide) ?_
                exact ih116 ((40 - (z112 + 1)).toNat) (by omega) (z112 + 1) (z113 + 1) I124 J111 B123 G111 _ _ _ rfl (by omega) (by omega) w124.1 (by omega) (by omega) (by omega) Y S (lv_sub hl [1, 2, 3, 4, 0] rfl)
              · refine lv_goto (tgt := 93) X.1 X.2.1 d_M_saltOf_65 (by decide) ?_
                refine lv_iinc (v := iI (z112 + 1)) (lv' := [(5, .int (iI (z112 + 1))), (0, .ref h), (1, .ref ((q 44))), (2, .int (iI a2)), (3, .int (iI a3))]) X.1 X.2.1 d_M_saltOf_93 hl (k := 4) rfl ((iI_add _ _).trans (congrArg iI (by omega))) (by decide) rfl (fun ls hl => ?_)
                refine lv_goto (tgt := 48) X.1 X.2.1 d_M_saltOf_96 (by decide) ?_
                exact ih116 ((40 - (z112 + 1)).toNat) (by omega) (z112 + 1) z113 I111 J111 B111 G111 _ _ _ rfl (by omega) (by omega) e113 (by omega) (by omega) (by omega) Y S (lv_sub hl [1, 2, 3, 4, 0] rfl)
        refine lv_istore (lv' := [(5, .int (iI 0)), (0, .ref h), (1, .ref ((q 44))), (2, .int (iI a2)), (3, .int (iI a3)), (4, .ref ((D.2.1 2)))]) X.1 X.2.1 d_M_saltOf_46 hl (by decide) rfl (fun ls hl => ?_)
        exact J115 _ 0 5 I110 J102 B102 G102 _ _ _ rfl (by omega) (by omega) w110.1 (by omega) (by omega) (by omega) Y S (lv_sub hl [1, 2, 3, 4, 0] rfl)
      · refine lv_aload_n X.1 X.2.1 d_M_saltOf_19 rfl (lv_at hl 0 rfl) ?_
        refine m_get X Y 24 (by decide) lk_salt (gf_salt _ _ _) rfl d_M_saltOf_20 ?_
        refine lv_iload X.1 X.2.1 d_M_saltOf_23 (lv_at hl 5 rfl) ?_
        refine lv_aload X.1 X.2.1 d_M_saltOf_25 (lv_at hl 4 rfl) ?_
        refine lv_iload X.1 X.2.1 d_M_saltOf_27 (lv_at hl 5 rfl) ?_
        refine r_charAt (i := 2) X Y hZ (show 2 < nZ by decide) (by omega) (show z103 < ((5 : Nat) : Int) by omega) hml hl.1 ⟨Nat.le_of_ble_eq_true rfl, Nat.le_of_ble_eq_true rfl⟩ (Nat.le_of_ble_eq_true rfl) d_M_saltOf_29 ⟨Nat.le_refl _, Nat.le_refl _⟩ (fun H locs z125 Y e125 l125 u125 => ?_)
        refine lv_i2b X.1 X.2.1 d_M_saltOf_32 rfl ?_
        refine t_u (fun z126 l126 u126 => ?_)
        refine r_bast X Y S (aw_salt _ _ _ _ _ _ _) (sw_salt _ _ _ _ _ _ _) rfl (by omega) (show z103 < ((60 : Nat) : Int) by omega) (by omega) (by decide) d_M_saltOf_33 (fun B127 H locs Y S w127 => ?_)
        refine lv_iinc (v := iI (z103 + 1)) (lv' := [(5, .int (iI (z103 + 1))), (0, .ref h), (1, .ref ((q 44))), (2, .int (iI a2)), (3, .int (iI a3)), (4, .ref ((D.2.1 2)))]) X.1 X.2.1 d_M_saltOf_34 hl (k := 5) rfl ((iI_add _ _).trans (congrArg iI (by omega))) (by decide) rfl (fun ls hl => ?_)
        refine lv_goto (tgt := 13) X.1 X.2.1 d_M_saltOf_37 (by decide) ?_
        exact ih106 ((5 - (z103 + 1)).toNat) (by omega) (z103 + 1) I102 J102 B127 G102 _ _ _ rfl (by omega) (by omega) e104 Y S (lv_sub hl [1, 2, 3, 4, 5, 0] rfl)
  refine lv_istore (lv' := [(5, .int (iI 0)), (4, .ref ((D.2.1 2))), (0, .ref h), (1, .ref ((q 44))), (2, .int (iI a2)), (3, .int (iI a3))]) X.1 X.2.1 d_M_saltOf_11 hl (by decide) rfl (fun ls hl => ?_)
  exact J105 _ 0 I101 J B G _ _ _ rfl (by omega) (by omega) w101.1 Y S (lv_sub hl [2, 3, 4, 5, 1, 0] rfl)
set_option maxHeartbeats 4000000 in
set_option maxRecDepth 100000 in
theorem r_M_saltOf_name (l : Launch) (D : mD) (E : mE) (h : Nat) (q : Nat → Nat) (sz : Nat) (I : Nat → Int32) (J : Nat → Int64) (B : Nat → Nat → Int32) (G : Nat → Nat → Int64) (a2 : Int) (l_a2 : 0 ≤ a2) (u_a2 : a2 ≤ 0) (a3 : Int) (l_a3 : 0 ≤ a3) (u_a3 : a3 ≤ 40) (hT : rT I B) : Met l y_M_saltOf (k_M_saltOf :: lw_tg) (mR 4 90) (va_Pc [.ref h, .ref (q 53), .int (iI a2), .int (iI a3)] (mPre D E h q (I, J, B, G) sz)) (va_Qv (rPv [29] [24] I B (fun (u : mS) => True)) (mPost D E h q (mA E h q sz)) (mA E h q sz)) 0 0 (mA E h q sz) := by
  refine m_enter (by decide) rfl (Nat.le_of_ble_eq_true rfl) (fun p e s m below meth c ls AV QQ H locs hQQ X Y hZ hA hr hlk hml hl => ?_)
  have Y : mH D E (mA E h q sz) s.heap h q I J B G H locs := Y
  have S : rS [29] [24] I B I B := rS_rf hT
  have hl : lv_has ls 6 [(0, .ref h), (1, .ref ((q 53))), (2, .int (iI a2)), (3, .int (iI a3))] := hl
  refine m_ldcSW (i := 2) X (by decide) (by decide) d_M_saltOf_0 ?_
  refine lv_astore (lv' := [(4, .ref ((D.2.1 2))), (0, .ref h), (1, .ref ((q 53))), (2, .int (iI a2)), (3, .int (iI a3))]) X.1 X.2.1 d_M_saltOf_3 hl (by decide) rfl (fun ls hl => ?_)
  refine lv_aload_n X.1 X.2.1 d_M_saltOf_5 rfl (lv_at hl 1 rfl) ?_
  refine lv_iconst (v := iI 0) X.1 X.2.1 d_M_saltOf_6 (by decide) ?_
  refine r_puti (k := 29) X Y S (by decide) lk_saltMany rfl rfl (t_M_ok 29 (by decide)) rfl rfl (sf_saltMany _ _ _ _) (Nat.le_of_ble_eq_true rfl) rfl (show (0 : Int) ≤ 0 by omega) (show 0 ≤ (60 : Int) by omega) ⟨by omega, by omega⟩ (by decide) d_M_saltOf_7 (fun I101 H locs Y S w101 => ?_)
  refine lv_iconst (v := iI 0) X.1 X.2.1 d_M_saltOf_10 (by decide) ?_
  have J105 : ∀ (n107 : Nat) (z103 : Int) (I102 : Nat → Int32) (J102 : Nat → Int64) (B102 : Nat → Nat → Int32) (G102 : Nat → Nat → Int64) (H : Heap) (locs : List Loc) (ls : Array Slot), (5 - z103).toNat = n107 → (0 ≤ z103) → (z103 ≤ 5) → (I102 29 = iI 0) → mH D E (mA E h q sz) s.heap h q I102 J102 B102 G102 H locs → rS [29] [24] I B I102 B102 → lv_has ls 6 [(0, .ref h), (1, .ref ((q 53))), (2, .int (iI a2)), (3, .int (iI a3)), (4, .ref ((D.2.1 2))), (5, .int (iI z103))] → W p l e (mR 4 90) s m AV below meth c H locs 0 0 QQ (F0 m 13 ls []) := by
    intro n107
    induction n107 using Nat.strongRecOn with
    | ind n107 ih106 =>
      intro z103 I102 J102 B102 G102 H locs ls hm108 l103 u103 e104 Y S hl
      refine lv_iload X.1 X.2.1 d_M_saltOf_13 (lv_at hl 5 rfl) ?_
      refine lv_iconst (v := iI 5) X.1 X.2.1 d_M_saltOf_15 (by decide) ?_
      refine z_icmp_ge (tgt := 40) X.1 X.2.1 d_M_saltOf_16 (by decide) ⟨by omega, by omega⟩ ⟨by omega, by omega⟩ (fun h109 => ?_) (fun h109 => ?_)
      · refine lv_aload_n X.1 X.2.1 d_M_saltOf_40 rfl (lv_at hl 0 rfl) ?_
        refine lv_iconst (v := iI 5) X.1 X.2.1 d_M_saltOf_41 (by decide) ?_
        refine r_puti (k := 29) X Y S (by decide) lk_saltMany rfl rfl (t_M_ok 29 (by decide)) rfl rfl (sf_saltMany _ _ _ _) (Nat.le_of_ble_eq_true rfl) rfl (show (0 : Int) ≤ 5 by omega) (show 5 ≤ (60 : Int) by omega) ⟨by omega, by omega⟩ (by decide) d_M_saltOf_42 (fun I110 H locs Y S w110 => ?_)
        refine lv_iconst (v := iI 0) X.1 X.2.1 d_M_saltOf_45 (by decide) ?_
        have J115 : ∀ (n117 : Nat) (z112 : Int) (z113 : Int) (I111 : Nat → Int32) (J111 : Nat → Int64) (B111 : Nat → Nat → Int32) (G111 : Nat → Nat → Int64) (H : Heap) (locs : List Loc) (ls : Array Slot), (40 - z112).toNat = n117 → (0 ≤ z112) → (z112 ≤ 40) → (I111 29 = iI z113) → (0 ≤ z113) → (z113 ≤ 60) → (z113 ≤ 5 + z112) → mH D E (mA E h q sz) s.heap h q I111 J111 B111 G111 H locs → rS [29] [24] I B I111 B111 → lv_has ls 6 [(0, .ref h), (1, .ref ((q 53))), (2, .int (iI a2)), (3, .int (iI a3)), (5, .int (iI z112))] → W p l e (mR 4 90) s m AV below meth c H locs 0 0 QQ (F0 m 48 ls []) := by
          intro n117
          induction n117 using Nat.strongRecOn with
          | ind n117 ih116 =>
            intro z112 z113 I111 J111 B111 G111 H locs ls hm118 l112 u112 e113 l113 u113 i114 Y S hl
            refine lv_iload X.1 X.2.1 d_M_saltOf_48 (lv_at hl 4 rfl) ?_
            refine lv_iload_n X.1 X.2.1 d_M_saltOf_50 rfl (lv_at hl 3 rfl) ?_
            refine z_icmp_ge (tgt := 99) X.1 X.2.1 d_M_saltOf_51 (by decide) ⟨by omega, by omega⟩ ⟨by omega, by omega⟩ (fun h119 => ?_) (fun h119 => ?_)
            · exact m_retv hQQ X Y hr hlk ⟨S, trivial⟩ d_M_saltOf_99
            · refine lv_aload_n X.1 X.2.1 d_M_saltOf_54 rfl (lv_at hl 1 rfl) ?_
              refine lv_iload_n X.1 X.2.1 d_M_saltOf_55 rfl (lv_at hl 2 rfl) ?_
              refine lv_iload X.1 X.2.1 d_M_saltOf_56 (lv_at hl 4 rfl) ?_
              refine z_iadd X.1 X.2.1 d_M_saltOf_58 ?_
              refine r_bald X Y S (aw_name _ _ _ _ _ _ _) rfl (by omega) (show a2 + z112 < ((40 : Nat) : Int) by omega) (by omega) d_M_saltOf_59 (fun z120 q120 l120 u120 => ?_)
              refine lv_bipush (v := iI 47) X.1 X.2.1 d_M_saltOf_60 (by decide) ?_
              refine z_icmp_ne (tgt := 68) X.1 X.2.1 d_M_saltOf_62 (by decide) ⟨by omega, by omega⟩ ⟨by omega, by omega⟩ (fun h121 => ?_) (fun h121 => ?_)
              · refine lv_aload_n X.1 X.2.1 d_M_saltOf_68 rfl (lv_at hl 0 rfl) ?_
                refine m_get X Y 24 (by decide) lk_salt (gf_salt _ _ _) rfl d_M_saltOf_69 ?_
                refine lv_aload_n X.1 X.2.1 d_M_saltOf_72 rfl (lv_at hl 0 rfl) ?_
                refine r_get0 X Y (by decide) lk_saltMany (gf_saltMany _ _ _) rfl e113 d_M_saltOf_73 ?_
                refine lv_aload_n X.1 X.2.1 d_M_saltOf_76 rfl (lv_at hl 1 rfl) ?_
                refine lv_iload_n X.1 X.2.1 d_M_saltOf_77 rfl (lv_at hl 2 rfl) ?_
                refine lv_iload X.1 X.2.1 d_M_saltOf_78 (lv_at hl 4 rfl) ?_
                refine z_iadd X.1 X.2.1 d_M_saltOf_80 ?_
                refine r_bald X Y S (aw_name _ _ _ _ _ _ _) rfl (by omega) (show a2 + z112 < ((40 : Nat) : Int) by omega) (by omega) d_M_saltOf_81 (fun z122 q122 l122 u122 => ?_)
                refine r_bast X Y S (aw_salt _ _ _ _ _ _ _) (sw_salt _ _ _ _ _ _ _) rfl (by omega) (show z113 < ((60 : Nat) : Int) by omega) (by omega) (by decide) d_M_saltOf_82 (fun B123 H locs Y S w123 => ?_)
                refine lv_aload_n X.1 X.2.1 d_M_saltOf_83 rfl (lv_at hl 0 rfl) ?_
                refine lv_dup X.1 X.2.1 d_M_saltOf_84 rfl ?_
                refine r_get0 X Y (by decide) lk_saltMany (gf_saltMany _ _ _) rfl e113 d_M_saltOf_85 ?_
                refine lv_iconst (v := iI 1) X.1 X.2.1 d_M_saltOf_88 (by decide) ?_
                refine z_iadd X.1 X.2.1 d_M_saltOf_89 ?_
                refine r_puti (k := 29) X Y S (by decide) lk_saltMany rfl rfl (t_M_ok 29 (by decide)) rfl rfl (sf_saltMany _ _ _ _) (Nat.le_of_ble_eq_true rfl) rfl (show (0 : Int) ≤ z113 + 1 by omega) (show z113 + 1 ≤ (60 : Int) by omega) ⟨by omega, by omega⟩ (by decide) d_M_saltOf_90 (fun I124 H locs Y S w124 => ?_)
                refine lv_iinc (v := iI (z112 + 1)) (lv' := [(5, .int (iI (z112 + 1))), (0, .ref h), (1, .ref ((q 53))), (2, .int (iI a2)), (3, .int (iI a3))]) X.1 X.2.1 d_M_saltOf_93 hl (k := 4) rfl ((iI_add _ _).trans (congrArg iI (by omega))) (by decide) rfl (fun ls hl => ?_)
                refine lv_goto (tgt := 48) X.1 X.2.1 d_M_saltOf_96 (by decide) ?_
                exact ih116 ((40 - (z112 + 1)).toNat) (by omega) (z112 + 1) (z113 + 1) I124 J111 B123 G111 _ _ _ rfl (by omega) (by omega) w124.1 (by omega) (by omega) (by omega) Y S (lv_sub hl [1, 2, 3, 4, 0] rfl)
              · refine lv_goto (tgt := 93) X.1 X.2.1 d_M_saltOf_65 (by decide) ?_
                refine lv_iinc (v := iI (z112 + 1)) (lv' := [(5, .int (iI (z112 + 1))), (0, .ref h), (1, .ref ((q 53))), (2, .int (iI a2)), (3, .int (iI a3))]) X.1 X.2.1 d_M_saltOf_93 hl (k := 4) rfl ((iI_add _ _).trans (congrArg iI (by omega))) (by decide) rfl (fun ls hl => ?_)
                refine lv_goto (tgt := 48) X.1 X.2.1 d_M_saltOf_96 (by decide) ?_
                exact ih116 ((40 - (z112 + 1)).toNat) (by omega) (z112 + 1) z113 I111 J111 B111 G111 _ _ _ rfl (by omega) (by omega) e113 (by omega) (by omega) (by omega) Y S (lv_sub hl [1, 2, 3, 4, 0] rfl)
        refine lv_istore (lv' := [(5, .int (iI 0)), (0, .ref h), (1, .ref ((q 53))), (2, .int (iI a2)), (3, .int (iI a3)), (4, .ref ((D.2.1 2)))]) X.1 X.2.1 d_M_saltOf_46 hl (by decide) rfl (fun ls hl => ?_)
        exact J115 _ 0 5 I110 J102 B102 G102 _ _ _ rfl (by omega) (by omega) w110.1 (by omega) (by omega) (by omega) Y S (lv_sub hl [1, 2, 3, 4, 0] rfl)
      · refine lv_aload_n X.1 X.2.1 d_M_saltOf_19 rfl (lv_at hl 0 rfl) ?_
        refine m_get X Y 24 (by decide) lk_salt (gf_salt _ _ _) rfl d_M_saltOf_20 ?_
        refine lv_iload X.1 X.2.1 d_M_saltOf_23 (lv_at hl 5 rfl) ?_
        refine lv_aload X.1 X.2.1 d_M_saltOf_25 (lv_at hl 4 rfl) ?_
        refine lv_iload X.1 X.2.1 d_M_saltOf_27 (lv_at hl 5 rfl) ?_
        refine r_charAt (i := 2) X Y hZ (show 2 < nZ by decide) (by omega) (show z103 < ((5 : Nat) : Int) by omega) hml hl.1 ⟨Nat.le_of_ble_eq_true rfl, Nat.le_of_ble_eq_true rfl⟩ (Nat.le_of_ble_eq_true rfl) d_M_saltOf_29 ⟨Nat.le_refl _, Nat.le_refl _⟩ (fun H locs z125 Y e125 l125 u125 => ?_)
        refine lv_i2b X.1 X.2.1 d_M_saltOf_32 rfl ?_
        refine t_u (fun z126 l126 u126 => ?_)
        refine r_bast X Y S (aw_salt _ _ _ _ _ _ _) (sw_salt _ _ _ _ _ _ _) rfl (by omega) (show z103 < ((60 : Nat) : Int) by omega) (by omega) (by decide) d_M_saltOf_33 (fun B127 H locs Y S w127 => ?_)
        refine lv_iinc (v := iI (z103 + 1)) (lv' := [(5, .int (iI (z103 + 1))), (0, .ref h), (1, .ref ((q 53))), (2, .int (iI a2)), (3, .int (iI a3)), (4, .ref ((D.2.1 2)))]) X.1 X.2.1 d_M_saltOf_34 hl (k := 5) rfl ((iI_add _ _).trans (congrArg iI (by omega))) (by decide) rfl (fun ls hl => ?_)
        refine lv_goto (tgt := 13) X.1 X.2.1 d_M_saltOf_37 (by decide) ?_
        exact ih106 ((5 - (z103 + 1)).toNat) (by omega) (z103 + 1) I102 J102 B127 G102 _ _ _ rfl (by omega) (by omega) e104 Y S (lv_sub hl [1, 2, 3, 4, 5, 0] rfl)
  refine lv_istore (lv' := [(5, .int (iI 0)), (4, .ref ((D.2.1 2))), (0, .ref h), (1, .ref ((q 53))), (2, .int (iI a2)), (3, .int (iI a3))]) X.1 X.2.1 d_M_saltOf_11 hl (by decide) rfl (fun ls hl => ?_)
  exact J105 _ 0 I101 J B G _ _ _ rfl (by omega) (by omega) w101.1 Y S (lv_sub hl [2, 3, 4, 5, 1, 0] rfl)
set_option maxHeartbeats 4000000 in
set_option maxRecDepth 100000 in
theorem r_M_putBytes_rounds4 (l : Launch) (D : mD) (E : mE) (h : Nat) (q : Nat → Nat) (sz : Nat) (I : Nat → Int32) (J : Nat → Int64) (B : Nat → Nat → Int32) (G : Nat → Nat → Int64) (a2 : Int) (l_a2 : 0 ≤ a2) (u_a2 : a2 ≤ 4) (a3 : Int) (l_a3 : 0 ≤ a3) (u_a3 : a3 ≤ 4) (hT : rT I B) (wn : Int) (gwn : I 42 = iI wn) (lwn : 30000 ≤ wn) (uwn : wn ≤ 60000) (q0 : a2 + a3 ≤ 4) (q1 : 30000 + a3 ≤ wn) : Met l y_M_putBytes (k_M_putBytes :: lw_tg) (mR 2 81) (va_Pc [.ref h, .ref (q 90), .int (iI a2), .int (iI a3)] (mPre D E h q (I, J, B, G) sz)) (va_Qv (rPv [42] [0] I B (fun (u : mS) => (∃ V2 : Int, u.1 42 = iI V2 ∧ wn - (a3) ≤ V2 ∧ V2 ≤ wn) ∧ mmF 30000 60000 (B 0) (u.2.2.1 0))) (mPost D E h q (mA E h q sz)) (mA E h q sz)) 0 0 (mA E h q sz) := by
  refine m_enter (by decide) rfl (Nat.le_of_ble_eq_true rfl) (fun p e s m below meth c ls AV QQ H locs hQQ X Y hZ hA hr hlk hml hl => ?_)
  have Y : mH D E (mA E h q sz) s.heap h q I J B G H locs := Y
  have S : rS [42] [0] I B I B := rS_rf hT
  have hl : lv_has ls 5 [(0, .ref h), (1, .ref ((q 90))), (2, .int (iI a2)), (3, .int (iI a3))] := hl
  refine lv_iload_n X.1 X.2.1 d_M_putBytes_0 rfl (lv_at hl 3 rfl) ?_
  refine lv_iconst (v := iI 1) X.1 X.2.1 d_M_putBytes_1 (by decide) ?_
  refine z_isub X.1 X.2.1 d_M_putBytes_2 ?_
  have J107 : ∀ (n109 : Nat) (z102 : Int) (z104 : Int) (I101 : Nat → Int32) (J101 : Nat → Int64) (B101 : Nat → Nat → Int32) (G101 : Nat → Nat → Int64) (H : Heap) (locs : List Loc) (ls : Array Slot), (z102 - (-1)).toNat = n109 → ((-1) ≤ z102) → (z102 ≤ 3) → (mmF 30000 60000 (B 0) (B101 0)) → (I101 42 = iI z104) → (0 ≤ z104) → (z104 ≤ 60000) → (z104 = wn - (a3 - 1 - z102)) → (z102 ≤ a3 - 1) → mH D E (mA E h q sz) s.heap h q I101 J101 B101 G101 H locs → rS [42] [0] I B I101 B101 → lv_has ls 5 [(0, .ref h), (1, .ref ((q 90))), (2, .int (iI a2)), (4, .int (iI z102))] → W p l e (mR 2 81) s m AV below meth c H locs 0 0 QQ (F0 m 5 ls []) := by
    intro n109
    induction n109 using Nat.strongRecOn with
    | ind n109 ih108 =>
      intro z102 z104 I101 J101 B101 G101 H locs ls hm110 l102 u102 f103 e104 l104 u104 i105 i106 Y S hl
      refine lv_iload X.1 X.2.1 d_M_putBytes_5 (lv_at hl 3 rfl) ?_
      refine z_if_lt (tgt := 26) X.1 X.2.1 d_M_putBytes_7 (by decide) ⟨by omega, by omega⟩ (fun h111 => ?_) (fun h111 => ?_)
      · exact m_retv hQQ X Y hr hlk ⟨S, ⟨⟨z104, e104, by omega, by omega⟩, f103⟩⟩ d_M_putBytes_26
      · refine lv_aload_n X.1 X.2.1 d_M_putBytes_10 rfl (lv_at hl 0 rfl) ?_
        refine lv_aload_n X.1 X.2.1 d_M_putBytes_11 rfl (lv_at hl 1 rfl) ?_
        refine lv_iload_n X.1 X.2.1 d_M_putBytes_12 rfl (lv_at hl 2 rfl) ?_
        refine lv_iload X.1 X.2.1 d_M_putBytes_13 (lv_at hl 3 rfl) ?_
        refine z_iadd X.1 X.2.1 d_M_putBytes_15 ?_
        refine r_bald X Y S (aw_rounds4 _ _ _ _ _ _ _) rfl (by omega) (show a2 + z102 < ((4 : Nat) : Int) by omega) (by omega) d_M_putBytes_16 (fun z112 q112 l112 u112 => ?_)
        refine r_nv (m_run (As := [.int (iI z112)]) (rest := []) (n := 1) X Y hZ hA hml hl.1 (r_M_one l D E h q H.size I101 J101 B101 G101 z112 (by omega) (by omega) S.1 z104 e104 (by omega) (by omega)) kl_M_one ks_M_one kx_M_one ki_M_one ini_M hd_M_one ⟨Nat.le_of_ble_eq_true rfl, Nat.le_of_ble_eq_true rfl⟩ rfl (Nat.le_of_ble_eq_true rfl) d_M_putBytes_17 ⟨Nat.le_refl _, Nat.le_refl _⟩) X Y hA S (by decide) (by decide) (fun u H locs Y S s113 p113 => ?_)
        obtain ⟨I113, J113, B113, G113⟩ := u
        dsimp only at Y S s113 p113
        obtain ⟨x113, g113_MF⟩ := p113
        refine lv_iinc (v := iI (z102 - 1)) (lv' := [(4, .int (iI (z102 - 1))), (0, .ref h), (1, .ref ((q 90))), (2, .int (iI a2))]) X.1 X.2.1 d_M_putBytes_20 hl (k := 3) rfl ((iI_add _ _).trans (congrArg iI (by omega))) (by decide) rfl (fun ls hl => ?_)
        refine lv_goto (tgt := 5) X.1 X.2.1 d_M_putBytes_23 (by decide) ?_
        exact ih108 (((z102 - 1) - (-1)).toNat) (by omega) (z102 - 1) (z104 - 1) I113 J113 B113 G113 _ _ _ rfl (by omega) (by omega) (mmF_tr f103 g113_MF (by decide)) (x113.trans (congrArg iI (show (z104 - 1 : Int) = z104 - 1 by omega))) (by omega) (by omega) (by omega) (by omega) Y S (lv_sub hl [1, 2, 3, 0] rfl)
  refine lv_istore (lv' := [(4, .int (iI (a3 - 1))), (0, .ref h), (1, .ref ((q 90))), (2, .int (iI a2)), (3, .int (iI a3))]) X.1 X.2.1 d_M_putBytes_3 hl (by decide) rfl (fun ls hl => ?_)
  exact J107 _ (a3 - 1) wn I J B G _ _ _ rfl (by omega) (by omega) mmF_rf gwn (by omega) (by omega) (by omega) (by omega) Y S (lv_sub hl [1, 2, 3, 0] rfl)
set_option maxHeartbeats 4000000 in
set_option maxRecDepth 100000 in
theorem r_M_octetField_rounds4 (l : Launch) (D : mD) (E : mE) (h : Nat) (q : Nat → Nat) (sz : Nat) (I : Nat → Int32) (J : Nat → Int64) (B : Nat → Nat → Int32) (G : Nat → Nat → Int64) (a1 : Int) (l_a1 : (-2147483648) ≤ a1) (u_a1 : a1 ≤ 2147483647) (a3 : Int) (l_a3 : 0 ≤ a3) (u_a3 : a3 ≤ 4) (a4 : Int) (l_a4 : 0 ≤ a4) (u_a4 : a4 ≤ 4) (hT : rT I B) (wn : Int) (gwn : I 42 = iI wn) (lwn : 30100 ≤ wn) (uwn : wn ≤ 60000) (q0 : a3 + a4 ≤ 4) (q1 : 30100 + a4 ≤ wn) : Met l y_M_octetField (k_M_octetField :: lw_tg) (mR 4 128) (va_Pc [.ref h, .int (iI a1), .ref (q 90), .int (iI a3), .int (iI a4)] (mPre D E h q (I, J, B, G) sz)) (va_Qv (rPv [42] [0] I B (fun (u : mS) => (∃ V2 : Int, u.1 42 = iI V2 ∧ wn - (a4 + 8) ≤ V2 ∧ V2 ≤ wn) ∧ mmF 30000 60000 (B 0) (u.2.2.1 0))) (mPost D E h q (mA E h q sz)) (mA E h q sz)) 0 0 (mA E h q sz) := by
  refine m_enter (by decide) rfl (Nat.le_of_ble_eq_true rfl) (fun p e s m below meth c ls AV QQ H locs hQQ X Y hZ hA hr hlk hml hl => ?_)
  have Y : mH D E (mA E h q sz) s.heap h q I J B G H locs := Y
  have S : rS [42] [0] I B I B := rS_rf hT
  have hl : lv_has ls 6 [(0, .ref h), (1, .int (iI a1)), (2, .ref ((q 90))), (3, .int (iI a3)), (4, .int (iI a4))] := hl
  refine lv_aload_n X.1 X.2.1 d_M_octetField_0 rfl (lv_at hl 0 rfl) ?_
  refine r_get0 X Y (by decide) lk_w0 (gf_w0 _ _ _) rfl gwn d_M_octetField_1 ?_
  refine lv_istore (lv' := [(5, .int (iI wn)), (0, .ref h), (1, .int (iI a1)), (2, .ref ((q 90))), (3, .int (iI a3)), (4, .int (iI a4))]) X.1 X.2.1 d_M_octetField_4 hl (by decide) rfl (fun ls hl => ?_)
  refine lv_aload_n X.1 X.2.1 d_M_octetField_6 rfl (lv_at hl 1 rfl) ?_
  refine lv_aload_n X.1 X.2.1 d_M_octetField_7 rfl (lv_at hl 3 rfl) ?_
  refine lv_iload_n X.1 X.2.1 d_M_octetField_8 rfl (lv_at hl 4 rfl) ?_
  refine lv_iload X.1 X.2.1 d_M_octetField_9 (lv_at hl 5 rfl) ?_
  refine r_nv (m_run (As := [.ref ((q 90)), .int (iI a3), .int (iI a4)]) (rest := []) (n := 3) X Y hZ hA hml hl.1 (r_M_putBytes_rounds4 l D E h q H.size I J B G a3 (by omega) (by omega) a4 (by omega) (by omega) S.1 wn gwn (by omega) (by omega) (by omega) (by omega)) kl_M_putBytes ks_M_putBytes kx_M_putBytes ki_M_putBytes ini_M hd_M_putBytes ⟨Nat.le_of_ble_eq_true rfl, Nat.le_of_ble_eq_true rfl⟩ rfl (Nat.le_of_ble_eq_true rfl) d_M_octetField_11 ⟨Nat.le_refl _, Nat.le_refl _⟩) X Y hA S (by decide) (by decide) (fun u H locs Y S s101 p101 => ?_)
  obtain ⟨I101, J101, B101, G101⟩ := u
  dsimp only at Y S s101 p101
  obtain ⟨x101, g101_MF⟩ := p101
  obtain ⟨z102, e102, l102, u102⟩ := x101
  refine lv_aload_n X.1 X.2.1 d_M_octetField_14 rfl (lv_at hl 1 rfl) ?_
  refine lv_iconst (v := iI 4) X.1 X.2.1 d_M_octetField_15 (by decide) ?_
  refine lv_iload X.1 X.2.1 d_M_octetField_16 (lv_at hl 0 rfl) ?_
  refine r_nv (m_run (As := [.int (iI 4), .int (iI wn)]) (rest := []) (n := 2) X Y hZ hA hml hl.1 (r_M_head l D E h q H.size I101 J101 B101 G101 4 (by omega) (by omega) wn (by omega) (by omega) S.1 z102 e102 (by omega) (by omega)) kl_M_head ks_M_head kx_M_head ki_M_head ini_M hd_M_head ⟨Nat.le_of_ble_eq_true rfl, Nat.le_of_ble_eq_true rfl⟩ rfl (Nat.le_of_ble_eq_true rfl) d_M_octetField_18 ⟨Nat.le_refl _, Nat.le_refl _⟩) X Y hA S (by decide) (by decide) (fun u H locs Y S s103 p103 => ?_)
  obtain ⟨I103, J103, B103, G103⟩ := u
  dsimp only at Y S s103 p103
  obtain ⟨x103, g103_MF⟩ := p103
  obtain ⟨z104, e104, l104, u104⟩ := x103
  refine lv_aload_n X.1 X.2.1 d_M_octetField_21 rfl (lv_at hl 1 rfl) ?_
  refine lv_iload_n X.1 X.2.1 d_M_octetField_22 rfl (lv_at hl 2 rfl) ?_
  refine lv_iload X.1 X.2.1 d_M_octetField_23 (lv_at hl 0 rfl) ?_
  refine r_nv (m_run (As := [.int (iI a1), .int (iI wn)]) (rest := []) (n := 2) X Y hZ hA hml hl.1 (r_M_field l D E h q H.size I103 J103 B103 G103 a1 (by omega) (by omega) wn (by omega) (by omega) S.1 z104 e104 (by omega) (by omega)) kl_M_field ks_M_field kx_M_field ki_M_field ini_M hd_M_field ⟨Nat.le_of_ble_eq_true rfl, Nat.le_of_ble_eq_true rfl⟩ rfl (Nat.le_of_ble_eq_true rfl) d_M_octetField_25 ⟨Nat.le_refl _, Nat.le_refl _⟩) X Y hA S (by decide) (by decide) (fun u H locs Y S s105 p105 => ?_)
  obtain ⟨I105, J105, B105, G105⟩ := u
  dsimp only at Y S s105 p105
  obtain ⟨x105, g105_MF⟩ := p105
  obtain ⟨z106, e106, l106, u106⟩ := x105
  exact m_retv hQQ X Y hr hlk ⟨S, ⟨⟨z106, e106, by omega, by omega⟩, (mmF_tr (mmF_tr (mmF_tr mmF_rf g101_MF (by decide)) g103_MF (by decide)) g105_MF (by decide))⟩⟩ d_M_octetField_28
set_option maxHeartbeats 4000000 in
set_option maxRecDepth 100000 in
theorem r_M_putBytes_salt (l : Launch) (D : mD) (E : mE) (h : Nat) (q : Nat → Nat) (sz : Nat) (I : Nat → Int32) (J : Nat → Int64) (B : Nat → Nat → Int32) (G : Nat → Nat → Int64) (a2 : Int) (l_a2 : 0 ≤ a2) (u_a2 : a2 ≤ 60) (a3 : Int) (l_a3 : 0 ≤ a3) (u_a3 : a3 ≤ 60) (hT : rT I B) (wn : Int) (gwn : I 42 = iI wn) (lwn : 30000 ≤ wn) (uwn : wn ≤ 60000) (q0 : a2 + a3 ≤ 60) (q1 : 30000 + a3 ≤ wn) : Met l y_M_putBytes (k_M_putBytes :: lw_tg) (mR 2 81) (va_Pc [.ref h, .ref (q 24), .int (iI a2), .int (iI a3)] (mPre D E h q (I, J, B, G) sz)) (va_Qv (rPv [42] [0] I B (fun (u : mS) => (∃ V2 : Int, u.1 42 = iI V2 ∧ wn - (a3) ≤ V2 ∧ V2 ≤ wn) ∧ mmF 30000 60000 (B 0) (u.2.2.1 0))) (mPost D E h q (mA E h q sz)) (mA E h q sz)) 0 0 (mA E h q sz) := by
  refine m_enter (by decide) rfl (Nat.le_of_ble_eq_true rfl) (fun p e s m below meth c ls AV QQ H locs hQQ X Y hZ hA hr hlk hml hl => ?_)
  have Y : mH D E (mA E h q sz) s.heap h q I J B G H locs := Y
  have S : rS [42] [0] I B I B := rS_rf hT
  have hl : lv_has ls 5 [(0, .ref h), (1, .ref ((q 24))), (2, .int (iI a2)), (3, .int (iI a3))] := hl
  refine lv_iload_n X.1 X.2.1 d_M_putBytes_0 rfl (lv_at hl 3 rfl) ?_
  refine lv_iconst (v := iI 1) X.1 X.2.1 d_M_putBytes_1 (by decide) ?_
  refine z_isub X.1 X.2.1 d_M_putBytes_2 ?_
  have J107 : ∀ (n109 : Nat) (z102 : Int) (z104 : Int) (I101 : Nat → Int32) (J101 : Nat → Int64) (B101 : Nat → Nat → Int32) (G101 : Nat → Nat → Int64) (H : Heap) (locs : List Loc) (ls : Array Slot), (z102 - (-1)).toNat = n109 → ((-1) ≤ z102) → (z102 ≤ 59) → (mmF 30000 60000 (B 0) (B101 0)) → (I101 42 = iI z104) → (0 ≤ z104) → (z104 ≤ 60000) → (z104 = wn - (a3 - 1 - z102)) → (z102 ≤ a3 - 1) → mH D E (mA E h q sz) s.heap h q I101 J101 B101 G101 H locs → rS [42] [0] I B I101 B101 → lv_has ls 5 [(0, .ref h), (1, .ref ((q 24))), (2, .int (iI a2)), (4, .int (iI z102))] → W p l e (mR 2 81) s m AV below meth c H locs 0 0 QQ (F0 m 5 ls []) := by
    intro n109
    induction n109 using Nat.strongRecOn with
    | ind n109 ih108 =>
      intro z102 z104 I101 J101 B101 G101 H locs ls hm110 l102 u102 f103 e104 l104 u104 i105 i106 Y S hl
      refine lv_iload X.1 X.2.1 d_M_putBytes_5 (lv_at hl 3 rfl) ?_
      refine z_if_lt (tgt := 26) X.1 X.2.1 d_M_putBytes_7 (by decide) ⟨by omega, by omega⟩ (fun h111 => ?_) (fun h111 => ?_)
      · exact m_retv hQQ X Y hr hlk ⟨S, ⟨⟨z104, e104, by omega, by omega⟩, f103⟩⟩ d_M_putBytes_26
      · refine lv_aload_n X.1 X.2.1 d_M_putBytes_10 rfl (lv_at hl 0 rfl) ?_
        refine lv_aload_n X.1 X.2.1 d_M_putBytes_11 rfl (lv_at hl 1 rfl) ?_
        refine lv_iload_n X.1 X.2.1 d_M_putBytes_12 rfl (lv_at hl 2 rfl) ?_
        refine lv_iload X.1 X.2.1 d_M_putBytes_13 (lv_at hl 3 rfl) ?_
        refine z_iadd X.1 X.2.1 d_M_putBytes_15 ?_
        refine r_bald X Y S (aw_salt _ _ _ _ _ _ _) rfl (by omega) (show a2 + z102 < ((60 : Nat) : Int) by omega) (by omega) d_M_putBytes_16 (fun z112 q112 l112 u112 => ?_)
        refine r_nv (m_run (As := [.int (iI z112)]) (rest := []) (n := 1) X Y hZ hA hml hl.1 (r_M_one l D E h q H.size I101 J101 B101 G101 z112 (by omega) (by omega) S.1 z104 e104 (by omega) (by omega)) kl_M_one ks_M_one kx_M_one ki_M_one ini_M hd_M_one ⟨Nat.le_of_ble_eq_true rfl, Nat.le_of_ble_eq_true rfl⟩ rfl (Nat.le_of_ble_eq_true rfl) d_M_putBytes_17 ⟨Nat.le_refl _, Nat.le_refl _⟩) X Y hA S (by decide) (by decide) (fun u H locs Y S s113 p113 => ?_)
        obtain ⟨I113, J113, B113, G113⟩ := u
        dsimp only at Y S s113 p113
        obtain ⟨x113, g113_MF⟩ := p113
        refine lv_iinc (v := iI (z102 - 1)) (lv' := [(4, .int (iI (z102 - 1))), (0, .ref h), (1, .ref ((q 24))), (2, .int (iI a2))]) X.1 X.2.1 d_M_putBytes_20 hl (k := 3) rfl ((iI_add _ _).trans (congrArg iI (by omega))) (by decide) rfl (fun ls hl => ?_)
        refine lv_goto (tgt := 5) X.1 X.2.1 d_M_putBytes_23 (by decide) ?_
        exact ih108 (((z102 - 1) - (-1)).toNat) (by omega) (z102 - 1) (z104 - 1) I113 J113 B113 G113 _ _ _ rfl (by omega) (by omega) (mmF_tr f103 g113_MF (by decide)) (x113.trans (congrArg iI (show (z104 - 1 : Int) = z104 - 1 by omega))) (by omega) (by omega) (by omega) (by omega) Y S (lv_sub hl [1, 2, 3, 0] rfl)
  refine lv_istore (lv' := [(4, .int (iI (a3 - 1))), (0, .ref h), (1, .ref ((q 24))), (2, .int (iI a2)), (3, .int (iI a3))]) X.1 X.2.1 d_M_putBytes_3 hl (by decide) rfl (fun ls hl => ?_)
  exact J107 _ (a3 - 1) wn I J B G _ _ _ rfl (by omega) (by omega) mmF_rf gwn (by omega) (by omega) (by omega) (by omega) Y S (lv_sub hl [1, 2, 3, 0] rfl)
set_option maxHeartbeats 4000000 in
set_option maxRecDepth 100000 in
theorem r_M_infoOf (l : Launch) (D : mD) (E : mE) (h : Nat) (q : Nat → Nat) (sz : Nat) (I : Nat → Int32) (J : Nat → Int64) (B : Nat → Nat → Int32) (G : Nat → Nat → Int64) (a1 : Int) (l_a1 : 0 ≤ a1) (u_a1 : a1 ≤ 11) (a2 : Int) (l_a2 : (-2147483648) ≤ a2) (u_a2 : a2 ≤ 2147483647) (a3 : Int) (l_a3 : (-2147483648) ≤ a3) (u_a3 : a3 ≤ 2147483647) (hT : rT I B) (wn : Int) (gwn : I 42 = iI wn) (lwn : 31000 ≤ wn) (uwn : wn ≤ 60000) : Met l y_M_infoOf (k_M_infoOf :: lw_tg) (mR 5 157) (va_Pc [.ref h, .int (iI a1), .int (iI a2), .int (iI a3)] (mPre D E h q (I, J, B, G) sz)) (va_Qv (rPv [29, 42] [0, 24, 90] I B (fun (u : mS) => (∃ V2 : Int, u.1 42 = iI V2 ∧ wn - (400) ≤ V2 ∧ V2 ≤ wn) ∧ mmF 30000 60000 (B 0) (u.2.2.1 0))) (mPost D E h q (mA E h q sz)) (mA E h q sz)) 0 0 (mA E h q sz) := by
  refine m_enter (by decide) rfl (Nat.le_of_ble_eq_true rfl) (fun p e s m below meth c ls AV QQ H locs hQQ X Y hZ hA hr hlk hml hl => ?_)
  have Y : mH D E (mA E h q sz) s.heap h q I J B G H locs := Y
  have S : rS [29, 42] [0, 24, 90] I B I B := rS_rf hT
  have hl : lv_has ls 7 [(0, .ref h), (1, .int (iI a1)), (2, .int (iI a2)), (3, .int (iI a3))] := hl
  refine lv_iload_n X.1 X.2.1 d_M_infoOf_0 rfl (lv_at hl 3 rfl) ?_
  refine z_if_ne (tgt := 8) X.1 X.2.1 d_M_infoOf_1 (by decide) ⟨by omega, by omega⟩ (fun h101 => ?_) (fun h101 => ?_)
  · refine lv_iconst (v := iI 1) X.1 X.2.1 d_M_infoOf_8 (by decide) ?_
    have J108 : ∀ (n110 : Nat) (z103 : Int) (z105 : Int) (I102 : Nat → Int32) (J102 : Nat → Int64) (B102 : Nat → Nat → Int32) (G102 : Nat → Nat → Int64) (H : Heap) (locs : List Loc) (ls : Array Slot), (z103 - (-1)).toNat = n110 → ((-1) ≤ z103) → (z103 ≤ 1) → (mmF 30000 60000 (B 0) (B102 0)) → (I102 42 = iI z105) → (0 ≤ z105) → (z105 ≤ 60000) → (wn - 200 * (1 - z103) ≤ z105) → (z105 ≤ wn) → mH D E (mA E h q sz) s.heap h q I102 J102 B102 G102 H locs → rS [29, 42] [0, 24, 90] I B I102 B102 → lv_has ls 7 [(0, .ref h), (1, .int (iI a1)), (2, .int (iI a2)), (3, .int (iI a3)), (4, .int (iI z103))] → W p l e (mR 5 157) s m AV below meth c H locs 0 0 QQ (F0 m 11 ls []) := by
      intro n110
      induction n110 using Nat.strongRecOn with
      | ind n110 ih109 =>
        intro z103 z105 I102 J102 B102 G102 H locs ls hm111 l103 u103 f104 e105 l105 u105 i106 i107 Y S hl
        refine lv_iload X.1 X.2.1 d_M_infoOf_11 (lv_at hl 4 rfl) ?_
        refine z_if_lt (tgt := 150) X.1 X.2.1 d_M_infoOf_13 (by decide) ⟨by omega, by omega⟩ (fun h112 => ?_) (fun h112 => ?_)
        · exact m_retv hQQ X Y hr hlk ⟨S, ⟨⟨z105, e105, by omega, by omega⟩, f104⟩⟩ d_M_infoOf_150
        · refine lv_aload_n X.1 X.2.1 d_M_infoOf_16 rfl (lv_at hl 0 rfl) ?_
          refine r_get0 X Y (by decide) lk_w0 (gf_w0 _ _ _) rfl e105 d_M_infoOf_17 ?_
          refine lv_istore (lv' := [(5, .int (iI z105)), (0, .ref h), (1, .int (iI a1)), (2, .int (iI a2)), (3, .int (iI a3)), (4, .int (iI z103))]) X.1 X.2.1 d_M_infoOf_20 hl (by decide) rfl (fun ls hl => ?_)
          refine lv_aload_n X.1 X.2.1 d_M_infoOf_22 rfl (lv_at hl 1 rfl) ?_
          refine m_get X Y 90 (by decide) lk_rounds4 (gf_rounds4 _ _ _) rfl d_M_infoOf_23 ?_
          refine lv_iconst (v := iI 0) X.1 X.2.1 d_M_infoOf_26 (by decide) ?_
          refine lv_iconst (v := iI 0) X.1 X.2.1 d_M_infoOf_27 (by decide) ?_
          refine r_bast X Y S (aw_rounds4 _ _ _ _ _ _ _) (sw_rounds4 _ _ _ _ _ _ _) rfl (by omega) (show 0 < ((4 : Nat) : Int) by omega) (by omega) (by decide) d_M_infoOf_28 (fun B113 H locs Y S w113 => ?_)
          refine lv_aload_n X.1 X.2.1 d_M_infoOf_29 rfl (lv_at hl 1 rfl) ?_
          refine m_get X Y 90 (by decide) lk_rounds4 (gf_rounds4 _ _ _) rfl d_M_infoOf_30 ?_
          refine lv_iconst (v := iI 1) X.1 X.2.1 d_M_infoOf_33 (by decide) ?_
          refine lv_iconst (v := iI 0) X.1 X.2.1 d_M_infoOf_34 (by decide) ?_
          refine r_bast X Y S (aw_rounds4 _ _ _ _ _ _ _) (sw_rounds4 _ _ _ _ _ _ _) rfl (by omega) (show 1 < ((4 : Nat) : Int) by omega) (by omega) (by decide) d_M_infoOf_35 (fun B114 H locs Y S w114 => ?_)
          refine lv_aload_n X.1 X.2.1 d_M_infoOf_36 rfl (lv_at hl 1 rfl) ?_
          refine m_get X Y 90 (by decide) lk_rounds4 (gf_rounds4 _ _ _) rfl d_M_infoOf_37 ?_
          refine lv_iconst (v := iI 2) X.1 X.2.1 d_M_infoOf_40 (by decide) ?_
          refine lv_iconst (v := iI 0) X.1 X.2.1 d_M_infoOf_41 (by decide) ?_
          refine r_bast X Y S (aw_rounds4 _ _ _ _ _ _ _) (sw_rounds4 _ _ _ _ _ _ _) rfl (by omega) (show 2 < ((4 : Nat) : Int) by omega) (by omega) (by decide) d_M_infoOf_42 (fun B115 H locs Y S w115 => ?_)
          refine lv_aload_n X.1 X.2.1 d_M_infoOf_43 rfl (lv_at hl 1 rfl) ?_
          refine m_get X Y 90 (by decide) lk_rounds4 (gf_rounds4 _ _ _) rfl d_M_infoOf_44 ?_
          refine lv_iconst (v := iI 3) X.1 X.2.1 d_M_infoOf_47 (by decide) ?_
          refine lv_aload_n X.1 X.2.1 d_M_infoOf_48 rfl (lv_at hl 1 rfl) ?_
          refine m_get X Y 47 (by decide) lk_counts (gf_counts _ _ _) rfl d_M_infoOf_49 ?_
          refine lv_iload_n X.1 X.2.1 d_M_infoOf_52 rfl (lv_at hl 2 rfl) ?_
          refine r_iald X Y S (aw_counts _ _ _ _ _ _ _) rfl (by omega) (show a1 < ((12 : Nat) : Int) by omega) (by omega) d_M_infoOf_53 (fun z116 q116 l116 u116 => ?_)
          refine lv_i2b X.1 X.2.1 d_M_infoOf_54 rfl ?_
          refine t_u (fun z117 l117 u117 => ?_)
          refine r_bast X Y S (aw_rounds4 _ _ _ _ _ _ _) (sw_rounds4 _ _ _ _ _ _ _) rfl (by omega) (show 3 < ((4 : Nat) : Int) by omega) (by omega) (by decide) d_M_infoOf_55 (fun B118 H locs Y S w118 => ?_)
          refine lv_aload_n X.1 X.2.1 d_M_infoOf_56 rfl (lv_at hl 1 rfl) ?_
          refine lv_iconst (v := iI 2) X.1 X.2.1 d_M_infoOf_57 (by decide) ?_
          refine lv_aload_n X.1 X.2.1 d_M_infoOf_58 rfl (lv_at hl 1 rfl) ?_
          refine m_get X Y 90 (by decide) lk_rounds4 (gf_rounds4 _ _ _) rfl d_M_infoOf_59 ?_
          refine lv_iconst (v := iI 0) X.1 X.2.1 d_M_infoOf_62 (by decide) ?_
          refine lv_iconst (v := iI 4) X.1 X.2.1 d_M_infoOf_63 (by decide) ?_
          refine r_nv (m_run (As := [.int (iI 2), .ref ((q 90)), .int (iI 0), .int (iI 4)]) (rest := []) (n := 4) X Y hZ hA hml hl.1 (r_M_octetField_rounds4 l D E h q H.size I102 J102 B118 G102 2 (by omega) (by omega) 0 (by omega) (by omega) 4 (by omega) (by omega) S.1 z105 e105 (by omega) (by omega) (by omega) (by omega)) kl_M_octetField ks_M_octetField kx_M_octetField ki_M_octetField ini_M hd_M_octetField ⟨Nat.le_of_ble_eq_true rfl, Nat.le_of_ble_eq_true rfl⟩ rfl (Nat.le_of_ble_eq_true rfl) d_M_infoOf_64 ⟨Nat.le_refl _, Nat.le_refl _⟩) X Y hA S (by decide) (by decide) (fun u H locs Y S s119 p119 => ?_)
          obtain ⟨I119, J119, B119, G119⟩ := u
          dsimp only at Y S s119 p119
          obtain ⟨x119, g119_MF⟩ := p119
          obtain ⟨z120, e120, l120, u120⟩ := x119
          refine lv_aload_n X.1 X.2.1 d_M_infoOf_67 rfl (lv_at hl 1 rfl) ?_
          refine lv_aload_n X.1 X.2.1 d_M_infoOf_68 rfl (lv_at hl 1 rfl) ?_
          refine m_get X Y 44 (by decide) lk_names (gf_names _ _ _) rfl d_M_infoOf_69 ?_
          refine lv_bipush (v := iI 40) X.1 X.2.1 d_M_infoOf_72 (by decide) ?_
          refine lv_iload_n X.1 X.2.1 d_M_infoOf_74 rfl (lv_at hl 2 rfl) ?_
          refine z_imul X.1 X.2.1 d_M_infoOf_75 ?_
          refine lv_aload_n X.1 X.2.1 d_M_infoOf_76 rfl (lv_at hl 1 rfl) ?_
          refine m_get X Y 45 (by decide) lk_nameSizes (gf_nameSizes _ _ _) rfl d_M_infoOf_77 ?_
          refine lv_iload_n X.1 X.2.1 d_M_infoOf_80 rfl (lv_at hl 2 rfl) ?_
          refine r_iald X Y S (aw_nameSizes _ _ _ _ _ _ _) rfl (by omega) (show a1 < ((12 : Nat) : Int) by omega) (by omega) d_M_infoOf_81 (fun z121 q121 l121 u121 => ?_)
          refine r_nv (m_run (As := [.ref ((q 44)), .int (iI (40 * a1)), .int (iI z121)]) (rest := []) (n := 3) X Y hZ hA hml hl.1 (r_M_saltOf_names l D E h q H.size I119 J119 B119 G119 (40 * a1) (by omega) (by omega) z121 (by omega) (by omega) S.1) kl_M_saltOf ks_M_saltOf kx_M_saltOf ki_M_saltOf ini_M hd_M_saltOf ⟨Nat.le_of_ble_eq_true rfl, Nat.le_of_ble_eq_true rfl⟩ rfl (Nat.le_of_ble_eq_true rfl) d_M_infoOf_82 ⟨Nat.le_refl _, Nat.le_refl _⟩) X Y hA S (by decide) (by decide) (fun u H locs Y S s122 p122 => ?_)
          obtain ⟨I122, J122, B122, G122⟩ := u
          dsimp only at Y S s122 p122
          refine lv_aload_n X.1 X.2.1 d_M_infoOf_85 rfl (lv_at hl 1 rfl) ?_
          refine r_get0 X Y (by decide) lk_w0 (gf_w0 _ _ _) rfl ((s122.2.1 42 (by decide)).trans e120) d_M_infoOf_86 ?_
          refine lv_istore (lv' := [(6, .int (iI z120)), (5, .int (iI z105)), (0, .ref h), (1, .int (iI a1)), (2, .int (iI a2)), (3, .int (iI a3)), (4, .int (iI z103))]) X.1 X.2.1 d_M_infoOf_89 hl (by decide) rfl (fun ls hl => ?_)
          refine lv_aload_n X.1 X.2.1 d_M_infoOf_91 rfl (lv_at hl 2 rfl) ?_
          refine lv_aload_n X.1 X.2.1 d_M_infoOf_92 rfl (lv_at hl 2 rfl) ?_
          refine m_get X Y 24 (by decide) lk_salt (gf_salt _ _ _) rfl d_M_infoOf_93 ?_
          refine lv_iconst (v := iI 0) X.1 X.2.1 d_M_infoOf_96 (by decide) ?_
          refine lv_aload_n X.1 X.2.1 d_M_infoOf_97 rfl (lv_at hl 2 rfl) ?_
          refine r_geti (k := 29) X Y S (by decide) lk_saltMany (gf_saltMany _ _ _) rfl rfl d_M_infoOf_98 (fun z123 e123 l123 u123 => ?_)
          refine r_nv (m_run (As := [.ref ((q 24)), .int (iI 0), .int (iI z123)]) (rest := []) (n := 3) X Y hZ hA hml hl.1 (r_M_putBytes_salt l D E h q H.size I122 J122 B122 G122 0 (by omega) (by omega) z123 (by omega) (by omega) S.1 z120 ((s122.2.1 42 (by decide)).trans e120) (by omega) (by omega) (by omega) (by omega)) kl_M_putBytes ks_M_putBytes kx_M_putBytes ki_M_putBytes ini_M hd_M_putBytes ⟨Nat.le_of_ble_eq_true rfl, Nat.le_of_ble_eq_true rfl⟩ rfl (Nat.le_of_ble_eq_true rfl) d_M_infoOf_101 ⟨Nat.le_refl _, Nat.le_refl _⟩) X Y hA S (by decide) (by decide) (fun u H locs Y S s124 p124 => ?_)
          obtain ⟨I124, J124, B124, G124⟩ := u
          dsimp only at Y S s124 p124
          obtain ⟨x124, g124_MF⟩ := p124
          obtain ⟨z125, e125, l125, u125⟩ := x124
          refine lv_aload_n X.1 X.2.1 d_M_infoOf_104 rfl (lv_at hl 2 rfl) ?_
          refine lv_bipush (v := iI 27) X.1 X.2.1 d_M_infoOf_105 (by decide) ?_
          refine lv_iload X.1 X.2.1 d_M_infoOf_107 (lv_at hl 0 rfl) ?_
          refine r_nv (m_run (As := [.int (iI 27), .int (iI z120)]) (rest := []) (n := 2) X Y hZ hA hml hl.1 (r_M_head l D E h q H.size I124 J124 B124 G124 27 (by omega) (by omega) z120 (by omega) (by omega) S.1 z125 e125 (by omega) (by omega)) kl_M_head ks_M_head kx_M_head ki_M_head ini_M hd_M_head ⟨Nat.le_of_ble_eq_true rfl, Nat.le_of_ble_eq_true rfl⟩ rfl (Nat.le_of_ble_eq_true rfl) d_M_infoOf_109 ⟨Nat.le_refl _, Nat.le_refl _⟩) X Y hA S (by decide) (by decide) (fun u H locs Y S s126 p126 => ?_)
          obtain ⟨I126, J126, B126, G126⟩ := u
          dsimp only at Y S s126 p126
          obtain ⟨x126, g126_MF⟩ := p126
          have f127 : mmF 30000 60000 (B 0) (B126 0) := (mmF_tr (mmF_tr (mmF_cg (s122.2.2 0 (by decide)) (mmF_tr (mmF_cg (w118.2 0 (by decide)) (mmF_cg (w115.2 0 (by decide)) (mmF_cg (w114.2 0 (by decide)) (mmF_cg (w113.2 0 (by decide)) f104)))) g119_MF (by decide))) g124_MF (by decide)) g126_MF (by decide))
          obtain ⟨z128, e128, l128, u128⟩ := x126
          refine lv_aload_n X.1 X.2.1 d_M_infoOf_112 rfl (lv_at hl 2 rfl) ?_
          refine lv_iconst (v := iI 1) X.1 X.2.1 d_M_infoOf_113 (by decide) ?_
          refine lv_iload X.1 X.2.1 d_M_infoOf_114 (lv_at hl 0 rfl) ?_
          refine r_nv (m_run (As := [.int (iI 1), .int (iI z120)]) (rest := []) (n := 2) X Y hZ hA hml hl.1 (r_M_field l D E h q H.size I126 J126 B126 G126 1 (by omega) (by omega) z120 (by omega) (by omega) S.1 z128 e128 (by omega) (by omega)) kl_M_field ks_M_field kx_M_field ki_M_field ini_M hd_M_field ⟨Nat.le_of_ble_eq_true rfl, Nat.le_of_ble_eq_true rfl⟩ rfl (Nat.le_of_ble_eq_true rfl) d_M_infoOf_116 ⟨Nat.le_refl _, Nat.le_refl _⟩) X Y hA S (by decide) (by decide) (fun u H locs Y S s129 p129 => ?_)
          obtain ⟨I129, J129, B129, G129⟩ := u
          dsimp only at Y S s129 p129
          obtain ⟨x129, g129_MF⟩ := p129
          obtain ⟨z130, e130, l130, u130⟩ := x129
          refine lv_aload_n X.1 X.2.1 d_M_infoOf_119 rfl (lv_at hl 2 rfl) ?_
          refine lv_iconst (v := iI 0) X.1 X.2.1 d_M_infoOf_120 (by decide) ?_
          refine lv_iload X.1 X.2.1 d_M_infoOf_121 (lv_at hl 6 rfl) ?_
          refine z_if_ne (tgt := 131) X.1 X.2.1 d_M_infoOf_123 (by decide) ⟨by omega, by omega⟩ (fun h131 => ?_) (fun h131 => ?_)
          · refine lv_iload_n X.1 X.2.1 d_M_infoOf_131 rfl (lv_at hl 5 rfl) ?_
            refine lv_i2l X.1 X.2.1 d_M_infoOf_132 rfl ?_
            refine t_anyl (fun v132 => ?_)
            refine r_nv (m_run (As := [.int (iI 0), .long v132]) (rest := []) (n := 2) X Y hZ hA hml hl.1 (r_M_numberField l D E h q H.size I129 J129 B129 G129 0 (by omega) (by omega) v132 S.1 z130 e130 (by omega) (by omega)) kl_M_numberField ks_M_numberField kx_M_numberField ki_M_numberField ini_M hd_M_numberField ⟨Nat.le_of_ble_eq_true rfl, Nat.le_of_ble_eq_true rfl⟩ rfl (Nat.le_of_ble_eq_true rfl) d_M_infoOf_133 ⟨Nat.le_refl _, Nat.le_refl _⟩) X Y hA S (by decide) (by decide) (fun u H locs Y S s133 p133 => ?_)
            obtain ⟨I133, J133, B133, G133⟩ := u
            dsimp only at Y S s133 p133
            obtain ⟨x133, g133_MF⟩ := p133
            obtain ⟨z134, e134, l134, u134⟩ := x133
            refine lv_aload_n X.1 X.2.1 d_M_infoOf_136 rfl (lv_at hl 2 rfl) ?_
            refine lv_bipush (v := iI 48) X.1 X.2.1 d_M_infoOf_137 (by decide) ?_
            refine lv_iload X.1 X.2.1 d_M_infoOf_139 (lv_at hl 1 rfl) ?_
            refine r_nv (m_run (As := [.int (iI 48), .int (iI z105)]) (rest := []) (n := 2) X Y hZ hA hml hl.1 (r_M_head l D E h q H.size I133 J133 B133 G133 48 (by omega) (by omega) z105 (by omega) (by omega) S.1 z134 e134 (by omega) (by omega)) kl_M_head ks_M_head kx_M_head ki_M_head ini_M hd_M_head ⟨Nat.le_of_ble_eq_true rfl, Nat.le_of_ble_eq_true rfl⟩ rfl (Nat.le_of_ble_eq_true rfl) d_M_infoOf_141 ⟨Nat.le_refl _, Nat.le_refl _⟩) X Y hA S (by decide) (by decide) (fun u H locs Y S s135 p135 => ?_)
            obtain ⟨I135, J135, B135, G135⟩ := u
            dsimp only at Y S s135 p135
            obtain ⟨x135, g135_MF⟩ := p135
            obtain ⟨z136, e136, l136, u136⟩ := x135
            refine lv_iinc (v := iI (z103 - 1)) (lv' := [(4, .int (iI (z103 - 1))), (6, .int (iI z120)), (5, .int (iI z105)), (0, .ref h), (1, .int (iI a1)), (2, .int (iI a2)), (3, .int (iI a3))]) X.1 X.2.1 d_M_infoOf_144 hl (k := 6) rfl ((iI_add _ _).trans (congrArg iI (by omega))) (by decide) rfl (fun ls hl => ?_)
            refine lv_goto (tgt := 11) X.1 X.2.1 d_M_infoOf_147 (by decide) ?_
            exact ih109 (((z103 - 1) - (-1)).toNat) (by omega) (z103 - 1) z136 I135 J135 B135 G135 _ _ _ rfl (by omega) (by omega) (mmF_tr (mmF_tr (mmF_tr f127 g129_MF (by decide)) g133_MF (by decide)) g135_MF (by decide)) e136 (by omega) (by omega) (by omega) (by omega) Y S (lv_sub hl [3, 4, 5, 6, 0] rfl)
          · refine lv_iload_n X.1 X.2.1 d_M_infoOf_126 rfl (lv_at hl 4 rfl) ?_
            refine lv_i2l X.1 X.2.1 d_M_infoOf_127 rfl ?_
            refine t_anyl (fun v137 => ?_)
            refine lv_goto (tgt := 133) X.1 X.2.1 d_M_infoOf_128 (by decide) ?_
            refine r_nv (m_run (As := [.int (iI 0), .long v137]) (rest := []) (n := 2) X Y hZ hA hml hl.1 (r_M_numberField l D E h q H.size I129 J129 B129 G129 0 (by omega) (by omega) v137 S.1 z130 e130 (by omega) (by omega)) kl_M_numberField ks_M_numberField kx_M_numberField ki_M_numberField ini_M hd_M_numberField ⟨Nat.le_of_ble_eq_true rfl, Nat.le_of_ble_eq_true rfl⟩ rfl (Nat.le_of_ble_eq_true rfl) d_M_infoOf_133 ⟨Nat.le_refl _, Nat.le_refl _⟩) X Y hA S (by decide) (by decide) (fun u H locs Y S s138 p138 => ?_)
            obtain ⟨I138, J138, B138, G138⟩ := u
            dsimp only at Y S s138 p138
            obtain ⟨x138, g138_MF⟩ := p138
            obtain ⟨z139, e139, l139, u139⟩ := x138
            refine lv_aload_n X.1 X.2.1 d_M_infoOf_136 rfl (lv_at hl 2 rfl) ?_
            refine lv_bipush (v := iI 48) X.1 X.2.1 d_M_infoOf_137 (by decide) ?_
            refine lv_iload X.1 X.2.1 d_M_infoOf_139 (lv_at hl 1 rfl) ?_
            refine r_nv (m_run (As := [.int (iI 48), .int (iI z105)]) (rest := []) (n := 2) X Y hZ hA hml hl.1 (r_M_head l D E h q H.size I138 J138 B138 G138 48 (by omega) (by omega) z105 (by omega) (by omega) S.1 z139 e139 (by omega) (by omega)) kl_M_head ks_M_head kx_M_head ki_M_head ini_M hd_M_head ⟨Nat.le_of_ble_eq_true rfl, Nat.le_of_ble_eq_true rfl⟩ rfl (Nat.le_of_ble_eq_true rfl) d_M_infoOf_141 ⟨Nat.le_refl _, Nat.le_refl _⟩) X Y hA S (by decide) (by decide) (fun u H locs Y S s140 p140 => ?_)
            obtain ⟨I140, J140, B140, G140⟩ := u
            dsimp only at Y S s140 p140
            obtain ⟨x140, g140_MF⟩ := p140
            obtain ⟨z141, e141, l141, u141⟩ := x140
            refine lv_iinc (v := iI (z103 - 1)) (lv' := [(4, .int (iI (z103 - 1))), (6, .int (iI z120)), (5, .int (iI z105)), (0, .ref h), (1, .int (iI a1)), (2, .int (iI a2)), (3, .int (iI a3))]) X.1 X.2.1 d_M_infoOf_144 hl (k := 6) rfl ((iI_add _ _).trans (congrArg iI (by omega))) (by decide) rfl (fun ls hl => ?_)
            refine lv_goto (tgt := 11) X.1 X.2.1 d_M_infoOf_147 (by decide) ?_
            exact ih109 (((z103 - 1) - (-1)).toNat) (by omega) (z103 - 1) z141 I140 J140 B140 G140 _ _ _ rfl (by omega) (by omega) (mmF_tr (mmF_tr (mmF_tr f127 g129_MF (by decide)) g138_MF (by decide)) g140_MF (by decide)) e141 (by omega) (by omega) (by omega) (by omega) Y S (lv_sub hl [3, 4, 5, 6, 0] rfl)
    refine lv_istore (lv' := [(4, .int (iI 1)), (0, .ref h), (1, .int (iI a1)), (2, .int (iI a2)), (3, .int (iI a3))]) X.1 X.2.1 d_M_infoOf_9 hl (by decide) rfl (fun ls hl => ?_)
    exact J108 _ 1 wn I J B G _ _ _ rfl (by omega) (by omega) mmF_rf gwn (by omega) (by omega) (by omega) (by omega) Y S (lv_sub hl [1, 2, 3, 4, 0] rfl)
  · refine lv_iconst (v := iI 0) X.1 X.2.1 d_M_infoOf_4 (by decide) ?_
    refine lv_goto (tgt := 9) X.1 X.2.1 d_M_infoOf_5 (by decide) ?_
    have J148 : ∀ (n150 : Nat) (z143 : Int) (z145 : Int) (I142 : Nat → Int32) (J142 : Nat → Int64) (B142 : Nat → Nat → Int32) (G142 : Nat → Nat → Int64) (H : Heap) (locs : List Loc) (ls : Array Slot), (z143 - (-1)).toNat = n150 → ((-1) ≤ z143) → (z143 ≤ 0) → (mmF 30000 60000 (B 0) (B142 0)) → (I142 42 = iI z145) → (0 ≤ z145) → (z145 ≤ 60000) → (wn - 200 * (1 - z143) ≤ z145) → (z145 ≤ wn) → mH D E (mA E h q sz) s.heap h q I142 J142 B142 G142 H locs → rS [29, 42] [0, 24, 90] I B I142 B142 → lv_has ls 7 [(0, .ref h), (1, .int (iI a1)), (2, .int (iI a2)), (3, .int (iI a3)), (4, .int (iI z143))] → W p l e (mR 5 157) s m AV below meth c H locs 0 0 QQ (F0 m 11 ls []) := by
      intro n150
      induction n150 using Nat.strongRecOn with
      | ind n150 ih149 =>
        intro z143 z145 I142 J142 B142 G142 H locs ls hm151 l143 u143 f144 e145 l145 u145 i146 i147 Y S hl
        refine lv_iload X.1 X.2.1 d_M_infoOf_11 (lv_at hl 4 rfl) ?_
        refine z_if_lt (tgt := 150) X.1 X.2.1 d_M_infoOf_13 (by decide) ⟨by omega, by omega⟩ (fun h152 => ?_) (fun h152 => ?_)
        · exact m_retv hQQ X Y hr hlk ⟨S, ⟨⟨z145, e145, by omega, by omega⟩, f144⟩⟩ d_M_infoOf_150
        · refine lv_aload_n X.1 X.2.1 d_M_infoOf_16 rfl (lv_at hl 0 rfl) ?_
          refine r_get0 X Y (by decide) lk_w0 (gf_w0 _ _ _) rfl e145 d_M_infoOf_17 ?_
          refine lv_istore (lv' := [(5, .int (iI z145)), (0, .ref h), (1, .int (iI a1)), (2, .int (iI a2)), (3, .int (iI a3)), (4, .int (iI z143))]) X.1 X.2.1 d_M_infoOf_20 hl (by decide) rfl (fun ls hl => ?_)
          refine lv_aload_n X.1 X.2.1 d_M_infoOf_22 rfl (lv_at hl 1 rfl) ?_
          refine m_get X Y 90 (by decide) lk_rounds4 (gf_rounds4 _ _ _) rfl d_M_infoOf_23 ?_
          refine lv_iconst (v := iI 0) X.1 X.2.1 d_M_infoOf_26 (by decide) ?_
          refine lv_iconst (v := iI 0) X.1 X.2.1 d_M_infoOf_27 (by decide) ?_
          refine r_bast X Y S (aw_rounds4 _ _ _ _ _ _ _) (sw_rounds4 _ _ _ _ _ _ _) rfl (by omega) (show 0 < ((4 : Nat) : Int) by omega) (by omega) (by decide) d_M_infoOf_28 (fun B153 H locs Y S w153 => ?_)
          refine lv_aload_n X.1 X.2.1 d_M_infoOf_29 rfl (lv_at hl 1 rfl) ?_
          refine m_get X Y 90 (by decide) lk_rounds4 (gf_rounds4 _ _ _) rfl d_M_infoOf_30 ?_
          refine lv_iconst (v := iI 1) X.1 X.2.1 d_M_infoOf_33 (by decide) ?_
          refine lv_iconst (v := iI 0) X.1 X.2.1 d_M_infoOf_34 (by decide) ?_
          refine r_bast X Y S (aw_rounds4 _ _ _ _ _ _ _) (sw_rounds4 _ _ _ _ _ _ _) rfl (by omega) (show 1 < ((4 : Nat) : Int) by omega) (by omega) (by decide) d_M_infoOf_35 (fun B154 H locs Y S w154 => ?_)
          refine lv_aload_n X.1 X.2.1 d_M_infoOf_36 rfl (lv_at hl 1 rfl) ?_
          refine m_get X Y 90 (by decide) lk_rounds4 (gf_rounds4 _ _ _) rfl d_M_infoOf_37 ?_
          refine lv_iconst (v := iI 2) X.1 X.2.1 d_M_infoOf_40 (by decide) ?_
          refine lv_iconst (v := iI 0) X.1 X.2.1 d_M_infoOf_41 (by decide) ?_
          refine r_bast X Y S (aw_rounds4 _ _ _ _ _ _ _) (sw_rounds4 _ _ _ _ _ _ _) rfl (by omega) (show 2 < ((4 : Nat) : Int) by omega) (by omega) (by decide) d_M_infoOf_42 (fun B155 H locs Y S w155 => ?_)
          refine lv_aload_n X.1 X.2.1 d_M_infoOf_43 rfl (lv_at hl 1 rfl) ?_
          refine m_get X Y 90 (by decide) lk_rounds4 (gf_rounds4 _ _ _) rfl d_M_infoOf_44 ?_
          refine lv_iconst (v := iI 3) X.1 X.2.1 d_M_infoOf_47 (by decide) ?_
          refine lv_aload_n X.1 X.2.1 d_M_infoOf_48 rfl (lv_at hl 1 rfl) ?_
          refine m_get X Y 47 (by decide) lk_counts (gf_counts _ _ _) rfl d_M_infoOf_49 ?_
          refine lv_iload_n X.1 X.2.1 d_M_infoOf_52 rfl (lv_at hl 2 rfl) ?_
          refine r_iald X Y S (aw_counts _ _ _ _ _ _ _) rfl (by omega) (show a1 < ((12 : Nat) : Int) by omega) (by omega) d_M_infoOf_53 (fun z156 q156 l156 u156 => ?_)
          refine lv_i2b X.1 X.2.1 d_M_infoOf_54 rfl ?_
          refine t_u (fun z157 l157 u157 => ?_)
          refine r_bast X Y S (aw_rounds4 _ _ _ _ _ _ _) (sw_rounds4 _ _ _ _ _ _ _) rfl (by omega) (show 3 < ((4 : Nat) : Int) by omega) (by omega) (by decide) d_M_infoOf_55 (fun B158 H locs Y S w158 => ?_)
          refine lv_aload_n X.1 X.2.1 d_M_infoOf_56 rfl (lv_at hl 1 rfl) ?_
          refine lv_iconst (v := iI 2) X.1 X.2.1 d_M_infoOf_57 (by decide) ?_
          refine lv_aload_n X.1 X.2.1 d_M_infoOf_58 rfl (lv_at hl 1 rfl) ?_
          refine m_get X Y 90 (by decide) lk_rounds4 (gf_rounds4 _ _ _) rfl d_M_infoOf_59 ?_
          refine lv_iconst (v := iI 0) X.1 X.2.1 d_M_infoOf_62 (by decide) ?_
          refine lv_iconst (v := iI 4) X.1 X.2.1 d_M_infoOf_63 (by decide) ?_
          refine r_nv (m_run (As := [.int (iI 2), .ref ((q 90)), .int (iI 0), .int (iI 4)]) (rest := []) (n := 4) X Y hZ hA hml hl.1 (r_M_octetField_rounds4 l D E h q H.size I142 J142 B158 G142 2 (by omega) (by omega) 0 (by omega) (by omega) 4 (by omega) (by omega) S.1 z145 e145 (by omega) (by omega) (by omega) (by omega)) kl_M_octetField ks_M_octetField kx_M_octetField ki_M_octetField ini_M hd_M_octetField ⟨Nat.le_of_ble_eq_true rfl, Nat.le_of_ble_eq_true rfl⟩ rfl (Nat.le_of_ble_eq_true rfl) d_M_infoOf_64 ⟨Nat.le_refl _, Nat.le_refl _⟩) X Y hA S (by decide) (by decide) (fun u H locs Y S s159 p159 => ?_)
          obtain ⟨I159, J159, B159, G159⟩ := u
          dsimp only at Y S s159 p159
          obtain ⟨x159, g159_MF⟩ := p159
          obtain ⟨z160, e160, l160, u160⟩ := x159
          refine lv_aload_n X.1 X.2.1 d_M_infoOf_67 rfl (lv_at hl 1 rfl) ?_
          refine lv_aload_n X.1 X.2.1 d_M_infoOf_68 rfl (lv_at hl 1 rfl) ?_
          refine m_get X Y 44 (by decide) lk_names (gf_names _ _ _) rfl d_M_infoOf_69 ?_
          refine lv_bipush (v := iI 40) X.1 X.2.1 d_M_infoOf_72 (by decide) ?_
          refine lv_iload_n X.1 X.2.1 d_M_infoOf_74 rfl (lv_at hl 2 rfl) ?_
          refine z_imul X.1 X.2.1 d_M_infoOf_75 ?_
          refine lv_aload_n X.1 X.2.1 d_M_infoOf_76 rfl (lv_at hl 1 rfl) ?_
          refine m_get X Y 45 (by decide) lk_nameSizes (gf_nameSizes _ _ _) rfl d_M_infoOf_77 ?_
          refine lv_iload_n X.1 X.2.1 d_M_infoOf_80 rfl (lv_at hl 2 rfl) ?_
          refine r_iald X Y S (aw_nameSizes _ _ _ _ _ _ _) rfl (by omega) (show a1 < ((12 : Nat) : Int) by omega) (by omega) d_M_infoOf_81 (fun z161 q161 l161 u161 => ?_)
          refine r_nv (m_run (As := [.ref ((q 44)), .int (iI (40 * a1)), .int (iI z161)]) (rest := []) (n := 3) X Y hZ hA hml hl.1 (r_M_saltOf_names l D E h q H.size I159 J159 B159 G159 (40 * a1) (by omega) (by omega) z161 (by omega) (by omega) S.1) kl_M_saltOf ks_M_saltOf kx_M_saltOf ki_M_saltOf ini_M hd_M_saltOf ⟨Nat.le_of_ble_eq_true rfl, Nat.le_of_ble_eq_true rfl⟩ rfl (Nat.le_of_ble_eq_true rfl) d_M_infoOf_82 ⟨Nat.le_refl _, Nat.le_refl _⟩) X Y hA S (by decide) (by decide) (fun u H locs Y S s162 p162 => ?_)
          obtain ⟨I162, J162, B162, G162⟩ := u
          dsimp only at Y S s162 p162
          refine lv_aload_n X.1 X.2.1 d_M_infoOf_85 rfl (lv_at hl 1 rfl) ?_
          refine r_get0 X Y (by decide) lk_w0 (gf_w0 _ _ _) rfl ((s162.2.1 42 (by decide)).trans e160) d_M_infoOf_86 ?_
          refine lv_istore (lv' := [(6, .int (iI z160)), (5, .int (iI z145)), (0, .ref h), (1, .int (iI a1)), (2, .int (iI a2)), (3, .int (iI a3)), (4, .int (iI z143))]) X.1 X.2.1 d_M_infoOf_89 hl (by decide) rfl (fun ls hl => ?_)
          refine lv_aload_n X.1 X.2.1 d_M_infoOf_91 rfl (lv_at hl 2 rfl) ?_
          refine lv_aload_n X.1 X.2.1 d_M_infoOf_92 rfl (lv_at hl 2 rfl) ?_
          refine m_get X Y 24 (by decide) lk_salt (gf_salt _ _ _) rfl d_M_infoOf_93 ?_
          refine lv_iconst (v := iI 0) X.1 X.2.1 d_M_infoOf_96 (by decide) ?_
          refine lv_aload_n X.1 X.2.1 d_M_infoOf_97 rfl (lv_at hl 2 rfl) ?_
          refine r_geti (k := 29) X Y S (by decide) lk_saltMany (gf_saltMany _ _ _) rfl rfl d_M_infoOf_98 (fun z163 e163 l163 u163 => ?_)
          refine r_nv (m_run (As := [.ref ((q 24)), .int (iI 0), .int (iI z163)]) (rest := []) (n := 3) X Y hZ hA hml hl.1 (r_M_putBytes_salt l D E h q H.size I162 J162 B162 G162 0 (by omega) (by omega) z163 (by omega) (by omega) S.1 z160 ((s162.2.1 42 (by decide)).trans e160) (by omega) (by omega) (by omega) (by omega)) kl_M_putBytes ks_M_putBytes kx_M_putBytes ki_M_putBytes ini_M hd_M_putBytes ⟨Nat.le_of_ble_eq_true rfl, Nat.le_of_ble_eq_true rfl⟩ rfl (Nat.le_of_ble_eq_true rfl) d_M_infoOf_101 ⟨Nat.le_refl _, Nat.le_refl _⟩) X Y hA S (by decide) (by decide) (fun u H locs Y S s164 p164 => ?_)
          obtain ⟨I164, J164, B164, G164⟩ := u
          dsimp only at Y S s164 p164
          obtain ⟨x164, g164_MF⟩ := p164
          obtain ⟨z165, e165, l165, u165⟩ := x164
          refine lv_aload_n X.1 X.2.1 d_M_infoOf_104 rfl (lv_at hl 2 rfl) ?_
          refine lv_bipush (v := iI 27) X.1 X.2.1 d_M_infoOf_105 (by decide) ?_
          refine lv_iload X.1 X.2.1 d_M_infoOf_107 (lv_at hl 0 rfl) ?_
          refine r_nv (m_run (As := [.int (iI 27), .int (iI z160)]) (rest := []) (n := 2) X Y hZ hA hml hl.1 (r_M_head l D E h q H.size I164 J164 B164 G164 27 (by omega) (by omega) z160 (by omega) (by omega) S.1 z165 e165 (by omega) (by omega)) kl_M_head ks_M_head kx_M_head ki_M_head ini_M hd_M_head ⟨Nat.le_of_ble_eq_true rfl, Nat.le_of_ble_eq_true rfl⟩ rfl (Nat.le_of_ble_eq_true rfl) d_M_infoOf_109 ⟨Nat.le_refl _, Nat.le_refl _⟩) X Y hA S (by decide) (by decide) (fun u H locs Y S s166 p166 => ?_)
          obtain ⟨I166, J166, B166, G166⟩ := u
          dsimp only at Y S s166 p166
          obtain ⟨x166, g166_MF⟩ := p166
          have f167 : mmF 30000 60000 (B 0) (B166 0) := (mmF_tr (mmF_tr (mmF_cg (s162.2.2 0 (by decide)) (mmF_tr (mmF_cg (w158.2 0 (by decide)) (mmF_cg (w155.2 0 (by decide)) (mmF_cg (w154.2 0 (by decide)) (mmF_cg (w153.2 0 (by decide)) f144)))) g159_MF (by decide))) g164_MF (by decide)) g166_MF (by decide))
          obtain ⟨z168, e168, l168, u168⟩ := x166
          refine lv_aload_n X.1 X.2.1 d_M_infoOf_112 rfl (lv_at hl 2 rfl) ?_
          refine lv_iconst (v := iI 1) X.1 X.2.1 d_M_infoOf_113 (by decide) ?_
          refine lv_iload X.1 X.2.1 d_M_infoOf_114 (lv_at hl 0 rfl) ?_
          refine r_nv (m_run (As := [.int (iI 1), .int (iI z160)]) (rest := []) (n := 2) X Y hZ hA hml hl.1 (r_M_field l D E h q H.size I166 J166 B166 G166 1 (by omega) (by omega) z160 (by omega) (by omega) S.1 z168 e168 (by omega) (by omega)) kl_M_field ks_M_field kx_M_field ki_M_field ini_M hd_M_field ⟨Nat.le_of_ble_eq_true rfl, Nat.le_of_ble_eq_true rfl⟩ rfl (Nat.le_of_ble_eq_true rfl) d_M_infoOf_116 ⟨Nat.le_refl _, Nat.le_refl _⟩) X Y hA S (by decide) (by decide) (fun u H locs Y S s169 p169 => ?_)
          obtain ⟨I169, J169, B169, G169⟩ := u
          dsimp only at Y S s169 p169
          obtain ⟨x169, g169_MF⟩ := p169
          obtain ⟨z170, e170, l170, u170⟩ := x169
          refine lv_aload_n X.1 X.2.1 d_M_infoOf_119 rfl (lv_at hl 2 rfl) ?_
          refine lv_iconst (v := iI 0) X.1 X.2.1 d_M_infoOf_120 (by decide) ?_
          refine lv_iload X.1 X.2.1 d_M_infoOf_121 (lv_at hl 6 rfl) ?_
          refine z_if_ne (tgt := 131) X.1 X.2.1 d_M_infoOf_123 (by decide) ⟨by omega, by omega⟩ (fun h171 => False.elim (by omega)) (fun h171 => ?_)
          · refine lv_iload_n X.1 X.2.1 d_M_infoOf_126 rfl (lv_at hl 4 rfl) ?_
            refine lv_i2l X.1 X.2.1 d_M_infoOf_127 rfl ?_
            refine t_anyl (fun v172 => ?_)
            refine lv_goto (tgt := 133) X.1 X.2.1 d_M_infoOf_128 (by decide) ?_
            refine r_nv (m_run (As := [.int (iI 0), .long v172]) (rest := []) (n := 2) X Y hZ hA hml hl.1 (r_M_numberField l D E h q H.size I169 J169 B169 G169 0 (by omega) (by omega) v172 S.1 z170 e170 (by omega) (by omega)) kl_M_numberField ks_M_numberField kx_M_numberField ki_M_numberField ini_M hd_M_numberField ⟨Nat.le_of_ble_eq_true rfl, Nat.le_of_ble_eq_true rfl⟩ rfl (Nat.le_of_ble_eq_true rfl) d_M_infoOf_133 ⟨Nat.le_refl _, Nat.le_refl _⟩) X Y hA S (by decide) (by decide) (fun u H locs Y S s173 p173 => ?_)
            obtain ⟨I173, J173, B173, G173⟩ := u
            dsimp only at Y S s173 p173
            obtain ⟨x173, g173_MF⟩ := p173
            obtain ⟨z174, e174, l174, u174⟩ := x173
            refine lv_aload_n X.1 X.2.1 d_M_infoOf_136 rfl (lv_at hl 2 rfl) ?_
            refine lv_bipush (v := iI 48) X.1 X.2.1 d_M_infoOf_137 (by decide) ?_
            refine lv_iload X.1 X.2.1 d_M_infoOf_139 (lv_at hl 1 rfl) ?_
            refine r_nv (m_run (As := [.int (iI 48), .int (iI z145)]) (rest := []) (n := 2) X Y hZ hA hml hl.1 (r_M_head l D E h q H.size I173 J173 B173 G173 48 (by omega) (by omega) z145 (by omega) (by omega) S.1 z174 e174 (by omega) (by omega)) kl_M_head ks_M_head kx_M_head ki_M_head ini_M hd_M_head ⟨Nat.le_of_ble_eq_true rfl, Nat.le_of_ble_eq_true rfl⟩ rfl (Nat.le_of_ble_eq_true rfl) d_M_infoOf_141 ⟨Nat.le_refl _, Nat.le_refl _⟩) X Y hA S (by decide) (by decide) (fun u H locs Y S s175 p175 => ?_)
            obtain ⟨I175, J175, B175, G175⟩ := u
            dsimp only at Y S s175 p175
            obtain ⟨x175, g175_MF⟩ := p175
            obtain ⟨z176, e176, l176, u176⟩ := x175
            refine lv_iinc (v := iI (z143 - 1)) (lv' := [(4, .int (iI (z143 - 1))), (6, .int (iI z160)), (5, .int (iI z145)), (0, .ref h), (1, .int (iI a1)), (2, .int (iI a2)), (3, .int (iI a3))]) X.1 X.2.1 d_M_infoOf_144 hl (k := 6) rfl ((iI_add _ _).trans (congrArg iI (by omega))) (by decide) rfl (fun ls hl => ?_)
            refine lv_goto (tgt := 11) X.1 X.2.1 d_M_infoOf_147 (by decide) ?_
            exact ih149 (((z143 - 1) - (-1)).toNat) (by omega) (z143 - 1) z176 I175 J175 B175 G175 _ _ _ rfl (by omega) (by omega) (mmF_tr (mmF_tr (mmF_tr f167 g169_MF (by decide)) g173_MF (by decide)) g175_MF (by decide)) e176 (by omega) (by omega) (by omega) (by omega) Y S (lv_sub hl [3, 4, 5, 6, 0] rfl)
    refine lv_istore (lv' := [(4, .int (iI 0)), (0, .ref h), (1, .int (iI a1)), (2, .int (iI a2)), (3, .int (iI a3))]) X.1 X.2.1 d_M_infoOf_9 hl (by decide) rfl (fun ls hl => ?_)
    exact J148 _ 0 wn I J B G _ _ _ rfl (by omega) (by omega) mmF_rf gwn (by omega) (by omega) (by omega) (by omega) Y S (lv_sub hl [1, 2, 3, 4, 0] rfl)
set_option maxHeartbeats 4000000 in
set_option maxRecDepth 100000 in
theorem r_M_isHouse (l : Launch) (D : mD) (E : mE) (h : Nat) (q : Nat → Nat) (sz : Nat) (I : Nat → Int32) (J : Nat → Int64) (B : Nat → Nat → Int32) (G : Nat → Nat → Int64) (a1 : Int) (l_a1 : (-2147483648) ≤ a1) (u_a1 : a1 ≤ 2147483647) (hT : rT I B) : Met l y_M_isHouse (k_M_isHouse :: lw_tg) (mR 4 90) (va_Pc [.ref h, .int (iI a1)] (mPre D E h q (I, J, B, G) sz)) (va_Qi (rPi [] [] I B (fun (z : Int) (u : mS) => 0 ≤ z ∧ z ≤ 1)) (mPost D E h q (mA E h q sz)) (mA E h q sz)) 0 0 (mA E h q sz) := by
  refine m_enter (by decide) rfl (Nat.le_of_ble_eq_true rfl) (fun p e s m below meth c ls AV QQ H locs hQQ X Y hZ hA hr hlk hml hl => ?_)
  have Y : mH D E (mA E h q sz) s.heap h q I J B G H locs := Y
  have S : rS [] [] I B I B := rS_rf hT
  have hl : lv_has ls 4 [(0, .ref h), (1, .int (iI a1))] := hl
  refine m_ldcSW (i := 1) X (by decide) (by decide) d_M_isHouse_0 ?_
  refine lv_astore_n (lv' := [(2, .ref ((D.2.1 1))), (0, .ref h), (1, .int (iI a1))]) X.1 X.2.1 d_M_isHouse_3 rfl hl (by decide) rfl (fun ls hl => ?_)
  refine lv_aload_n X.1 X.2.1 d_M_isHouse_4 rfl (lv_at hl 1 rfl) ?_
  refine r_geti (k := 2) X Y S (by decide) lk_length (gf_length _ _ _) rfl rfl d_M_isHouse_5 (fun z101 e101 l101 u101 => ?_)
  refine lv_bipush (v := iI 12) X.1 X.2.1 d_M_isHouse_8 (by decide) ?_
  refine z_icmp_ge (tgt := 15) X.1 X.2.1 d_M_isHouse_10 (by decide) ⟨by omega, by omega⟩ ⟨by omega, by omega⟩ (fun h102 => ?_) (fun h102 => ?_)
  · refine lv_iconst (v := iI 0) X.1 X.2.1 d_M_isHouse_15 (by decide) ?_
    have J104 : ∀ (n106 : Nat) (z103 : Int) (H : Heap) (locs : List Loc) (ls : Array Slot), (12 - z103).toNat = n106 → (0 ≤ z103) → (z103 ≤ 12) → mH D E (mA E h q sz) s.heap h q I J B G H locs → rS [] [] I B I B → lv_has ls 4 [(0, .ref h), (2, .ref ((D.2.1 1))), (3, .int (iI z103))] → W p l e (mR 4 90) s m AV below meth c H locs 0 0 QQ (F0 m 17 ls []) := by
      intro n106
      induction n106 using Nat.strongRecOn with
      | ind n106 ih105 =>
        intro z103 H locs ls hm107 l103 u103 Y S hl
        refine lv_iload_n X.1 X.2.1 d_M_isHouse_17 rfl (lv_at hl 2 rfl) ?_
        refine lv_bipush (v := iI 12) X.1 X.2.1 d_M_isHouse_18 (by decide) ?_
        refine z_icmp_ge (tgt := 45) X.1 X.2.1 d_M_isHouse_20 (by decide) ⟨by omega, by omega⟩ ⟨by omega, by omega⟩ (fun h108 => ?_) (fun h108 => ?_)
        · refine lv_aload_n X.1 X.2.1 d_M_isHouse_45 rfl (lv_at hl 0 rfl) ?_
          refine r_get0 X Y (by decide) lk_length (gf_length _ _ _) rfl e101 d_M_isHouse_46 ?_
          refine lv_bipush (v := iI 12) X.1 X.2.1 d_M_isHouse_49 (by decide) ?_
          refine z_icmp_eq (tgt := 66) X.1 X.2.1 d_M_isHouse_51 (by decide) ⟨by omega, by omega⟩ ⟨by omega, by omega⟩ (fun h109 => ?_) (fun h109 => ?_)
          · refine lv_iconst (v := iI 1) X.1 X.2.1 d_M_isHouse_66 (by decide) ?_
            refine lv_goto (tgt := 71) X.1 X.2.1 d_M_isHouse_67 (by decide) ?_
            exact m_retz hQQ X Y hr hlk (iI_bool (by omega) (by omega)).1 ⟨S, 1, rfl, ⟨by omega, by omega⟩⟩ d_M_isHouse_71
          · refine lv_aload_n X.1 X.2.1 d_M_isHouse_54 rfl (lv_at hl 0 rfl) ?_
            refine m_get X Y 0 (by decide) lk_mem (gf_mem _ _ _) rfl d_M_isHouse_55 ?_
            refine lv_bipush (v := iI 12) X.1 X.2.1 d_M_isHouse_58 (by decide) ?_
            refine r_bald X Y S (aw_mem _ _ _ _ _ _ _) rfl (by omega) (show 12 < ((60000 : Nat) : Int) by omega) (by omega) d_M_isHouse_60 (fun z110 q110 l110 u110 => ?_)
            refine lv_bipush (v := iI 58) X.1 X.2.1 d_M_isHouse_61 (by decide) ?_
            refine z_icmp_ne (tgt := 70) X.1 X.2.1 d_M_isHouse_63 (by decide) ⟨by omega, by omega⟩ ⟨by omega, by omega⟩ (fun h111 => ?_) (fun h111 => ?_)
            · refine lv_iconst (v := iI 0) X.1 X.2.1 d_M_isHouse_70 (by decide) ?_
              exact m_retz hQQ X Y hr hlk (iI_bool (by omega) (by omega)).1 ⟨S, 0, rfl, ⟨by omega, by omega⟩⟩ d_M_isHouse_71
            · refine lv_iconst (v := iI 1) X.1 X.2.1 d_M_isHouse_66 (by decide) ?_
              refine lv_goto (tgt := 71) X.1 X.2.1 d_M_isHouse_67 (by decide) ?_
              exact m_retz hQQ X Y hr hlk (iI_bool (by omega) (by omega)).1 ⟨S, 1, rfl, ⟨by omega, by omega⟩⟩ d_M_isHouse_71
        · refine lv_aload_n X.1 X.2.1 d_M_isHouse_23 rfl (lv_at hl 0 rfl) ?_
          refine m_get X Y 0 (by decide) lk_mem (gf_mem _ _ _) rfl d_M_isHouse_24 ?_
          refine lv_iload_n X.1 X.2.1 d_M_isHouse_27 rfl (lv_at hl 2 rfl) ?_
          refine r_bald X Y S (aw_mem _ _ _ _ _ _ _) rfl (by omega) (show z103 < ((60000 : Nat) : Int) by omega) (by omega) d_M_isHouse_28 (fun z112 q112 l112 u112 => ?_)
          refine lv_aload_n X.1 X.2.1 d_M_isHouse_29 rfl (lv_at hl 1 rfl) ?_
          refine lv_iload_n X.1 X.2.1 d_M_isHouse_30 rfl (lv_at hl 2 rfl) ?_
          refine r_charAt (i := 1) X Y hZ (show 1 < nZ by decide) (by omega) (show z103 < ((12 : Nat) : Int) by omega) hml hl.1 ⟨Nat.le_of_ble_eq_true rfl, Nat.le_of_ble_eq_true rfl⟩ (Nat.le_of_ble_eq_true rfl) d_M_isHouse_31 ⟨Nat.le_refl _, Nat.le_refl _⟩ (fun H locs z113 Y e113 l113 u113 => ?_)
          refine z_icmp_eq (tgt := 39) X.1 X.2.1 d_M_isHouse_34 (by decide) ⟨by omega, by omega⟩ ⟨by omega, by omega⟩ (fun h114 => ?_) (fun h114 => ?_)
          · refine lv_iinc (v := iI (z103 + 1)) (lv' := [(3, .int (iI (z103 + 1))), (0, .ref h), (2, .ref ((D.2.1 1)))]) X.1 X.2.1 d_M_isHouse_39 hl (k := 2) rfl ((iI_add _ _).trans (congrArg iI (by omega))) (by decide) rfl (fun ls hl => ?_)
            refine lv_goto (tgt := 17) X.1 X.2.1 d_M_isHouse_42 (by decide) ?_
            exact ih105 ((12 - (z103 + 1)).toNat) (by omega) (z103 + 1) _ _ _ rfl (by omega) (by omega) Y S (lv_sub hl [1, 2, 0] rfl)
          · refine lv_iconst (v := iI 0) X.1 X.2.1 d_M_isHouse_37 (by decide) ?_
            exact m_retz hQQ X Y hr hlk (iI_bool (by omega) (by omega)).1 ⟨S, 0, rfl, ⟨by omega, by omega⟩⟩ d_M_isHouse_38
    refine lv_istore_n (lv' := [(3, .int (iI 0)), (2, .ref ((D.2.1 1))), (0, .ref h), (1, .int (iI a1))]) X.1 X.2.1 d_M_isHouse_16 rfl hl (by decide) rfl (fun ls hl => ?_)
    exact J104 _ 0 _ _ _ rfl (by omega) (by omega) Y S (lv_sub hl [2, 1, 0] rfl)
  · refine lv_iconst (v := iI 0) X.1 X.2.1 d_M_isHouse_13 (by decide) ?_
    exact m_retz hQQ X Y hr hlk (iI_bool (by omega) (by omega)).1 ⟨S, 0, rfl, ⟨by omega, by omega⟩⟩ d_M_isHouse_14
set_option maxHeartbeats 4000000 in
set_option maxRecDepth 100000 in
theorem r_M_nameRead (l : Launch) (D : mD) (E : mE) (h : Nat) (q : Nat → Nat) (sz : Nat) (I : Nat → Int32) (J : Nat → Int64) (B : Nat → Nat → Int32) (G : Nat → Nat → Int64) (a1 : Int) (l_a1 : 0 ≤ a1) (u_a1 : a1 ≤ 1) (hT : rT I B) : Met l y_M_nameRead (k_M_nameRead :: lw_tg) (mR 5 113) (va_Pc [.ref h, .int (iI a1)] (mPre D E h q (I, J, B, G) sz)) (va_Qi (rPi [54, 55] [53] I B (fun (z : Int) (u : mS) => 0 ≤ z ∧ z ≤ 1 ∧ (∃ V2 : Int, u.1 54 = iI V2 ∧ (z = 0 ∨ V2 ≤ 33) ∧ 0 ≤ V2 ∧ V2 ≤ 40))) (mPost D E h q (mA E h q sz)) (mA E h q sz)) 0 0 (mA E h q sz) := by
  refine m_enter (by decide) rfl (Nat.le_of_ble_eq_true rfl) (fun p e s m below meth c ls AV QQ H locs hQQ X Y hZ hA hr hlk hml hl => ?_)
  have Y : mH D E (mA E h q sz) s.heap h q I J B G H locs := Y
  have S : rS [54, 55] [53] I B I B := rS_rf hT
  have hl : lv_has ls 9 [(0, .ref h), (1, .int (iI a1))] := hl
  refine lv_iconst (v := iI 0) X.1 X.2.1 d_M_nameRead_0 (by decide) ?_
  refine lv_istore_n (lv' := [(2, .int (iI 0)), (0, .ref h), (1, .int (iI a1))]) X.1 X.2.1 d_M_nameRead_1 rfl hl (by decide) rfl (fun ls hl => ?_)
  refine lv_iconst (v := iI 1) X.1 X.2.1 d_M_nameRead_2 (by decide) ?_
  refine lv_istore_n (lv' := [(3, .int (iI 1)), (2, .int (iI 0)), (0, .ref h), (1, .int (iI a1))]) X.1 X.2.1 d_M_nameRead_3 rfl hl (by decide) rfl (fun ls hl => ?_)
  refine lv_iconst (v := iI 0) X.1 X.2.1 d_M_nameRead_4 (by decide) ?_
  refine lv_istore (lv' := [(4, .int (iI 0)), (3, .int (iI 1)), (2, .int (iI 0)), (0, .ref h), (1, .int (iI a1))]) X.1 X.2.1 d_M_nameRead_5 hl (by decide) rfl (fun ls hl => ?_)
  refine lv_iconst (v := iI 1) X.1 X.2.1 d_M_nameRead_7 (by decide) ?_
  have J106 : ∀ (n108 : Nat) (z101 : Int) (z102 : Int) (z103 : Int) (z104 : Int) (H : Heap) (locs : List Loc) (ls : Array Slot), (4000 - z101).toNat = n108 → (0 ≤ z101) → (z101 ≤ 4000) → (1 ≤ z102) → (z102 ≤ 3) → (0 ≤ z103) → (z103 ≤ 17) → (0 ≤ z104) → (z104 ≤ 1) → (z104 = 0 ∨ z102 = 1 ∧ z101 = z103 ∧ z103 ≤ 16 ∨ z102 = 2 ∧ z101 ≤ 17 + z103 ∧ z103 ≤ 16) → mH D E (mA E h q sz) s.heap h q I J B G H locs → rS [54, 55] [53] I B I B → lv_has ls 9 [(0, .ref h), (1, .int (iI a1)), (2, .int (iI z101)), (3, .int (iI z102)), (4, .int (iI z103)), (5, .int (iI z104))] → W p l e (mR 5 113) s m AV below meth c H locs 0 0 QQ (F0 m 10 ls []) := by
    intro n108
    induction n108 using Nat.strongRecOn with
    | ind n108 ih107 =>
      intro z101 z102 z103 z104 H locs ls hm109 l101 u101 l102 u102 l103 u103 l104 u104 i105 Y S hl
      refine lv_iload_n X.1 X.2.1 d_M_nameRead_10 rfl (lv_at hl 2 rfl) ?_
      refine lv_aload_n X.1 X.2.1 d_M_nameRead_11 rfl (lv_at hl 0 rfl) ?_
      refine r_geti (k := 2) X Y S (by decide) lk_length (gf_length _ _ _) rfl rfl d_M_nameRead_12 (fun z110 e110 l110 u110 => ?_)
      have J112 : ∀  (H : Heap) (locs : List Loc) (ls : Array Slot), (z104 = 0 ∨ z101 ≤ 33) → mH D E (mA E h q sz) s.heap h q I J B G H locs → rS [54, 55] [53] I B I B → lv_has ls 9 [(0, .ref h), (1, .int (iI a1)), (2, .int (iI z101)), (4, .int (iI z103)), (5, .int (iI z104))] → W p l e (mR 5 113) s m AV below meth c H locs 0 0 QQ (F0 m 182 ls []) := by
        intro  H locs ls i111 Y S hl
        refine lv_iload_n X.1 X.2.1 d_M_nameRead_182 rfl (lv_at hl 1 rfl) ?_
        refine z_if_eq (tgt := 198) X.1 X.2.1 d_M_nameRead_183 (by decide) ⟨by omega, by omega⟩ (fun h116 => ?_) (fun h116 => ?_)
        · refine lv_iconst (v := iI 0) X.1 X.2.1 d_M_nameRead_198 (by decide) ?_
          refine lv_istore (lv' := [(6, .int (iI 0)), (0, .ref h), (1, .int (iI a1)), (2, .int (iI z101)), (4, .int (iI z103)), (5, .int (iI z104))]) X.1 X.2.1 d_M_nameRead_199 hl (by decide) rfl (fun ls hl => ?_)
          refine lv_iload X.1 X.2.1 d_M_nameRead_201 (lv_at hl 0 rfl) ?_
          refine z_if_ne (tgt := 218) X.1 X.2.1 d_M_nameRead_203 (by decide) ⟨by omega, by omega⟩ (fun h117 => False.elim (by omega)) (fun h117 => ?_)
          · refine lv_iload X.1 X.2.1 d_M_nameRead_206 (lv_at hl 5 rfl) ?_
            refine z_if_eq (tgt := 216) X.1 X.2.1 d_M_nameRead_208 (by decide) ⟨by omega, by omega⟩ (fun h118 => ?_) (fun h118 => ?_)
            · refine lv_iconst (v := iI 0) X.1 X.2.1 d_M_nameRead_216 (by decide) ?_
              obtain ⟨z119, e119, l119, u119⟩ := r_rng (k := 54) (lo := 0) (hi := 40) S rfl
              exact m_retz hQQ X Y hr hlk (iI_bool (by omega) (by omega)).1 ⟨S, 0, rfl, ⟨by omega, by omega, ⟨z119, e119, by omega, by omega, by omega⟩⟩⟩ d_M_nameRead_217
            · refine lv_iload X.1 X.2.1 d_M_nameRead_211 (lv_at hl 4 rfl) ?_
              refine z_if_ne (tgt := 218) X.1 X.2.1 d_M_nameRead_213 (by decide) ⟨by omega, by omega⟩ (fun h120 => ?_) (fun h120 => ?_)
              · refine lv_iload_n X.1 X.2.1 d_M_nameRead_218 rfl (lv_at hl 3 rfl) ?_
                refine lv_istore (lv' := [(7, .int (iI z101)), (6, .int (iI 0)), (0, .ref h), (1, .int (iI a1)), (2, .int (iI z101)), (4, .int (iI z103)), (5, .int (iI z104))]) X.1 X.2.1 d_M_nameRead_219 hl (by decide) rfl (fun ls hl => ?_)
                refine lv_iload X.1 X.2.1 d_M_nameRead_221 (lv_at hl 1 rfl) ?_
                refine z_if_eq (tgt := 230) X.1 X.2.1 d_M_nameRead_223 (by decide) ⟨by omega, by omega⟩ (fun h121 => ?_) (fun h121 => False.elim (by omega))
                · refine lv_aload_n X.1 X.2.1 d_M_nameRead_230 rfl (lv_at hl 2 rfl) ?_
                  refine lv_iload X.1 X.2.1 d_M_nameRead_231 (lv_at hl 0 rfl) ?_
                  refine r_puti (k := 55) X Y S (by decide) lk_colon rfl rfl (t_M_ok 55 (by decide)) rfl rfl (sf_colon _ _ _ _) (Nat.le_of_ble_eq_true rfl) rfl (show (0 : Int) ≤ z101 by omega) (show z101 ≤ (4000 : Int) by omega) ⟨by omega, by omega⟩ (by decide) d_M_nameRead_233 (fun I122 H locs Y S w122 => ?_)
                  refine lv_aload_n X.1 X.2.1 d_M_nameRead_236 rfl (lv_at hl 2 rfl) ?_
                  refine lv_iload X.1 X.2.1 d_M_nameRead_237 (lv_at hl 0 rfl) ?_
                  refine r_puti (k := 54) X Y S (by decide) lk_nameSize rfl rfl (t_M_ok 54 (by decide)) rfl rfl (sf_nameSize _ _ _ _) (Nat.le_of_ble_eq_true rfl) rfl (show (0 : Int) ≤ z101 by omega) (show z101 ≤ (40 : Int) by omega) ⟨by omega, by omega⟩ (by decide) d_M_nameRead_239 (fun I123 H locs Y S w123 => ?_)
                  refine lv_iconst (v := iI 0) X.1 X.2.1 d_M_nameRead_242 (by decide) ?_
                  have J128 : ∀ (n130 : Nat) (z125 : Int) (I124 : Nat → Int32) (J124 : Nat → Int64) (B124 : Nat → Nat → Int32) (G124 : Nat → Nat → Int64) (H : Heap) (locs : List Loc) (ls : Array Slot), (4000 - z125).toNat = n130 → (0 ≤ z125) → (z125 ≤ 4000) → (I124 2 = iI z110) → (I124 54 = iI z101) → mH D E (mA E h q sz) s.heap h q I124 J124 B124 G124 H locs → rS [54, 55] [53] I B I124 B124 → lv_has ls 9 [(0, .ref h), (7, .int (iI z101)), (8, .int (iI z125))] → W p l e (mR 5 113) s m AV below meth c H locs 0 0 QQ (F0 m 245 ls []) := by
                    intro n130
                    induction n130 using Nat.strongRecOn with
                    | ind n130 ih129 =>
                      intro z125 I124 J124 B124 G124 H locs ls hm131 l125 u125 e126 e127 Y S hl
                      refine lv_iload X.1 X.2.1 d_M_nameRead_245 (lv_at hl 2 rfl) ?_
                      refine lv_iload X.1 X.2.1 d_M_nameRead_247 (lv_at hl 1 rfl) ?_
                      refine z_icmp_ge (tgt := 272) X.1 X.2.1 d_M_nameRead_249 (by decide) ⟨by omega, by omega⟩ ⟨by omega, by omega⟩ (fun h132 => ?_) (fun h132 => ?_)
                      · refine lv_iconst (v := iI 1) X.1 X.2.1 d_M_nameRead_272 (by decide) ?_
                        exact m_retz hQQ X Y hr hlk (iI_bool (by omega) (by omega)).1 ⟨S, 1, rfl, ⟨by omega, by omega, ⟨z101, e127, by omega, by omega, by omega⟩⟩⟩ d_M_nameRead_273
                      · refine lv_aload_n X.1 X.2.1 d_M_nameRead_252 rfl (lv_at hl 0 rfl) ?_
                        refine m_get X Y 53 (by decide) lk_name (gf_name _ _ _) rfl d_M_nameRead_253 ?_
                        refine lv_iload X.1 X.2.1 d_M_nameRead_256 (lv_at hl 2 rfl) ?_
                        refine lv_aload_n X.1 X.2.1 d_M_nameRead_258 rfl (lv_at hl 0 rfl) ?_
                        refine m_get X Y 0 (by decide) lk_mem (gf_mem _ _ _) rfl d_M_nameRead_259 ?_
                        refine lv_iload X.1 X.2.1 d_M_nameRead_262 (lv_at hl 2 rfl) ?_
                        refine r_bald X Y S (aw_mem _ _ _ _ _ _ _) rfl (by omega) (show z125 < ((60000 : Nat) : Int) by omega) (by omega) d_M_nameRead_264 (fun z133 q133 l133 u133 => ?_)
                        refine r_bast X Y S (aw_name _ _ _ _ _ _ _) (sw_name _ _ _ _ _ _ _) rfl (by omega) (show z125 < ((40 : Nat) : Int) by omega) (by omega) (by decide) d_M_nameRead_265 (fun B134 H locs Y S w134 => ?_)
                        refine lv_iinc (v := iI (z125 + 1)) (lv' := [(8, .int (iI (z125 + 1))), (0, .ref h), (7, .int (iI z101))]) X.1 X.2.1 d_M_nameRead_266 hl (k := 2) rfl ((iI_add _ _).trans (congrArg iI (by omega))) (by decide) rfl (fun ls hl => ?_)
                        refine lv_goto (tgt := 245) X.1 X.2.1 d_M_nameRead_269 (by decide) ?_
                        exact ih129 ((4000 - (z125 + 1)).toNat) (by omega) (z125 + 1) I124 J124 B134 G124 _ _ _ rfl (by omega) (by omega) e126 e127 Y S (lv_sub hl [1, 2, 0] rfl)
                  refine lv_istore (lv' := [(8, .int (iI 0)), (7, .int (iI z101)), (6, .int (iI 0)), (0, .ref h), (1, .int (iI a1)), (2, .int (iI z101)), (4, .int (iI z103)), (5, .int (iI z104))]) X.1 X.2.1 d_M_nameRead_243 hl (by decide) rfl (fun ls hl => ?_)
                  exact J128 _ 0 I123 J B G _ _ _ rfl (by omega) (by omega) ((w123.2 2 (by decide)).trans ((w122.2 2 (by decide)).trans e110)) w123.1 Y S (lv_sub hl [3, 1, 0] rfl)
              · refine lv_iconst (v := iI 0) X.1 X.2.1 d_M_nameRead_216 (by decide) ?_
                obtain ⟨z135, e135, l135, u135⟩ := r_rng (k := 54) (lo := 0) (hi := 40) S rfl
                exact m_retz hQQ X Y hr hlk (iI_bool (by omega) (by omega)).1 ⟨S, 0, rfl, ⟨by omega, by omega, ⟨z135, e135, by omega, by omega, by omega⟩⟩⟩ d_M_nameRead_217
        · refine lv_aload_n X.1 X.2.1 d_M_nameRead_186 rfl (lv_at hl 0 rfl) ?_
          refine lv_iload_n X.1 X.2.1 d_M_nameRead_187 rfl (lv_at hl 2 rfl) ?_
          refine r_ni (m_run (As := [.int (iI z101)]) (rest := []) (n := 1) X Y hZ hA hml hl.1 (r_M_isHouse l D E h q H.size I J B G z101 (by omega) (by omega) S.1) kl_M_isHouse ks_M_isHouse kx_M_isHouse ki_M_isHouse ini_M hd_M_isHouse ⟨Nat.le_of_ble_eq_true rfl, Nat.le_of_ble_eq_true rfl⟩ rfl (Nat.le_of_ble_eq_true rfl) d_M_nameRead_188 ⟨Nat.le_refl _, Nat.le_refl _⟩) X Y hA S (by decide) (by decide) (fun z136 u H locs Y S s136 p136 => ?_)
          obtain ⟨I136, J136, B136, G136⟩ := u
          dsimp only at Y S s136 p136
          obtain ⟨l136, u136⟩ := p136
          refine z_if_eq (tgt := 198) X.1 X.2.1 d_M_nameRead_191 (by decide) ⟨by omega, by omega⟩ (fun h137 => ?_) (fun h137 => ?_)
          · refine lv_iconst (v := iI 0) X.1 X.2.1 d_M_nameRead_198 (by decide) ?_
            refine lv_istore (lv' := [(6, .int (iI 0)), (0, .ref h), (1, .int (iI a1)), (2, .int (iI z101)), (4, .int (iI z103)), (5, .int (iI z104))]) X.1 X.2.1 d_M_nameRead_199 hl (by decide) rfl (fun ls hl => ?_)
            refine lv_iload X.1 X.2.1 d_M_nameRead_201 (lv_at hl 0 rfl) ?_
            refine z_if_ne (tgt := 218) X.1 X.2.1 d_M_nameRead_203 (by decide) ⟨by omega, by omega⟩ (fun h138 => False.elim (by omega)) (fun h138 => ?_)
            · refine lv_iload X.1 X.2.1 d_M_nameRead_206 (lv_at hl 5 rfl) ?_
              refine z_if_eq (tgt := 216) X.1 X.2.1 d_M_nameRead_208 (by decide) ⟨by omega, by omega⟩ (fun h139 => ?_) (fun h139 => ?_)
              · refine lv_iconst (v := iI 0) X.1 X.2.1 d_M_nameRead_216 (by decide) ?_
                obtain ⟨z140, e140, l140, u140⟩ := r_rng (k := 54) (lo := 0) (hi := 40) S rfl
                exact m_retz hQQ X Y hr hlk (iI_bool (by omega) (by omega)).1 ⟨S, 0, rfl, ⟨by omega, by omega, ⟨z140, e140, by omega, by omega, by omega⟩⟩⟩ d_M_nameRead_217
              · refine lv_iload X.1 X.2.1 d_M_nameRead_211 (lv_at hl 4 rfl) ?_
                refine z_if_ne (tgt := 218) X.1 X.2.1 d_M_nameRead_213 (by decide) ⟨by omega, by omega⟩ (fun h141 => ?_) (fun h141 => ?_)
                · refine lv_iload_n X.1 X.2.1 d_M_nameRead_218 rfl (lv_at hl 3 rfl) ?_
                  refine lv_istore (lv' := [(7, .int (iI z101)), (6, .int (iI 0)), (0, .ref h), (1, .int (iI a1)), (2, .int (iI z101)), (4, .int (iI z103)), (5, .int (iI z104))]) X.1 X.2.1 d_M_nameRead_219 hl (by decide) rfl (fun ls hl => ?_)
                  refine lv_iload X.1 X.2.1 d_M_nameRead_221 (lv_at hl 1 rfl) ?_
                  refine z_if_eq (tgt := 230) X.1 X.2.1 d_M_nameRead_223 (by decide) ⟨by omega, by omega⟩ (fun h142 => ?_) (fun h142 => False.elim (by omega))
                  · refine lv_aload_n X.1 X.2.1 d_M_nameRead_230 rfl (lv_at hl 2 rfl) ?_
                    refine lv_iload X.1 X.2.1 d_M_nameRead_231 (lv_at hl 0 rfl) ?_
                    refine r_puti (k := 55) X Y S (by decide) lk_colon rfl rfl (t_M_ok 55 (by decide)) rfl rfl (sf_colon _ _ _ _) (Nat.le_of_ble_eq_true rfl) rfl (show (0 : Int) ≤ z101 by omega) (show z101 ≤ (4000 : Int) by omega) ⟨by omega, by omega⟩ (by decide) d_M_nameRead_233 (fun I143 H locs Y S w143 => ?_)
                    refine lv_aload_n X.1 X.2.1 d_M_nameRead_236 rfl (lv_at hl 2 rfl) ?_
                    refine lv_iload X.1 X.2.1 d_M_nameRead_237 (lv_at hl 0 rfl) ?_
                    refine r_puti (k := 54) X Y S (by decide) lk_nameSize rfl rfl (t_M_ok 54 (by decide)) rfl rfl (sf_nameSize _ _ _ _) (Nat.le_of_ble_eq_true rfl) rfl (show (0 : Int) ≤ z101 by omega) (show z101 ≤ (40 : Int) by omega) ⟨by omega, by omega⟩ (by decide) d_M_nameRead_239 (fun I144 H locs Y S w144 => ?_)
                    refine lv_iconst (v := iI 0) X.1 X.2.1 d_M_nameRead_242 (by decide) ?_
                    have J149 : ∀ (n151 : Nat) (z146 : Int) (I145 : Nat → Int32) (J145 : Nat → Int64) (B145 : Nat → Nat → Int32) (G145 : Nat → Nat → Int64) (H : Heap) (locs : List Loc) (ls : Array Slot), (4000 - z146).toNat = n151 → (0 ≤ z146) → (z146 ≤ 4000) → (I145 2 = iI z110) → (I145 54 = iI z101) → mH D E (mA E h q sz) s.heap h q I145 J145 B145 G145 H locs → rS [54, 55] [53] I B I145 B145 → lv_has ls 9 [(0, .ref h), (7, .int (iI z101)), (8, .int (iI z146))] → W p l e (mR 5 113) s m AV below meth c H locs 0 0 QQ (F0 m 245 ls []) := by
                      intro n151
                      induction n151 using Nat.strongRecOn with
                      | ind n151 ih150 =>
                        intro z146 I145 J145 B145 G145 H locs ls hm152 l146 u146 e147 e148 Y S hl
                        refine lv_iload X.1 X.2.1 d_M_nameRead_245 (lv_at hl 2 rfl) ?_
                        refine lv_iload X.1 X.2.1 d_M_nameRead_247 (lv_at hl 1 rfl) ?_
                        refine z_icmp_ge (tgt := 272) X.1 X.2.1 d_M_nameRead_249 (by decide) ⟨by omega, by omega⟩ ⟨by omega, by omega⟩ (fun h153 => ?_) (fun h153 => ?_)
                        · refine lv_iconst (v := iI 1) X.1 X.2.1 d_M_nameRead_272 (by decide) ?_
                          exact m_retz hQQ X Y hr hlk (iI_bool (by omega) (by omega)).1 ⟨S, 1, rfl, ⟨by omega, by omega, ⟨z101, e148, by omega, by omega, by omega⟩⟩⟩ d_M_nameRead_273
                        · refine lv_aload_n X.1 X.2.1 d_M_nameRead_252 rfl (lv_at hl 0 rfl) ?_
                          refine m_get X Y 53 (by decide) lk_name (gf_name _ _ _) rfl d_M_nameRead_253 ?_
                          refine lv_iload X.1 X.2.1 d_M_nameRead_256 (lv_at hl 2 rfl) ?_
                          refine lv_aload_n X.1 X.2.1 d_M_nameRead_258 rfl (lv_at hl 0 rfl) ?_
                          refine m_get X Y 0 (by decide) lk_mem (gf_mem _ _ _) rfl d_M_nameRead_259 ?_
                          refine lv_iload X.1 X.2.1 d_M_nameRead_262 (lv_at hl 2 rfl) ?_
                          refine r_bald X Y S (aw_mem _ _ _ _ _ _ _) rfl (by omega) (show z146 < ((60000 : Nat) : Int) by omega) (by omega) d_M_nameRead_264 (fun z154 q154 l154 u154 => ?_)
                          refine r_bast X Y S (aw_name _ _ _ _ _ _ _) (sw_name _ _ _ _ _ _ _) rfl (by omega) (show z146 < ((40 : Nat) : Int) by omega) (by omega) (by decide) d_M_nameRead_265 (fun B155 H locs Y S w155 => ?_)
                          refine lv_iinc (v := iI (z146 + 1)) (lv' := [(8, .int (iI (z146 + 1))), (0, .ref h), (7, .int (iI z101))]) X.1 X.2.1 d_M_nameRead_266 hl (k := 2) rfl ((iI_add _ _).trans (congrArg iI (by omega))) (by decide) rfl (fun ls hl => ?_)
                          refine lv_goto (tgt := 245) X.1 X.2.1 d_M_nameRead_269 (by decide) ?_
                          exact ih150 ((4000 - (z146 + 1)).toNat) (by omega) (z146 + 1) I145 J145 B155 G145 _ _ _ rfl (by omega) (by omega) e147 e148 Y S (lv_sub hl [1, 2, 0] rfl)
                    refine lv_istore (lv' := [(8, .int (iI 0)), (7, .int (iI z101)), (6, .int (iI 0)), (0, .ref h), (1, .int (iI a1)), (2, .int (iI z101)), (4, .int (iI z103)), (5, .int (iI z104))]) X.1 X.2.1 d_M_nameRead_243 hl (by decide) rfl (fun ls hl => ?_)
                    exact J149 _ 0 I144 J136 B136 G136 _ _ _ rfl (by omega) (by omega) ((w144.2 2 (by decide)).trans ((w143.2 2 (by decide)).trans ((s136.2.1 2 (by decide)).trans e110))) w144.1 Y S (lv_sub hl [3, 1, 0] rfl)
                · refine lv_iconst (v := iI 0) X.1 X.2.1 d_M_nameRead_216 (by decide) ?_
                  obtain ⟨z156, e156, l156, u156⟩ := r_rng (k := 54) (lo := 0) (hi := 40) S rfl
                  exact m_retz hQQ X Y hr hlk (iI_bool (by omega) (by omega)).1 ⟨S, 0, rfl, ⟨by omega, by omega, ⟨z156, e156, by omega, by omega, by omega⟩⟩⟩ d_M_nameRead_217
          · refine lv_iconst (v := iI 1) X.1 X.2.1 d_M_nameRead_194 (by decide) ?_
            refine lv_goto (tgt := 199) X.1 X.2.1 d_M_nameRead_195 (by decide) ?_
            refine lv_istore (lv' := [(6, .int (iI 1)), (0, .ref h), (1, .int (iI a1)), (2, .int (iI z101)), (4, .int (iI z103)), (5, .int (iI z104))]) X.1 X.2.1 d_M_nameRead_199 hl (by decide) rfl (fun ls hl => ?_)
            refine lv_iload X.1 X.2.1 d_M_nameRead_201 (lv_at hl 0 rfl) ?_
            refine z_if_ne (tgt := 218) X.1 X.2.1 d_M_nameRead_203 (by decide) ⟨by omega, by omega⟩ (fun h157 => ?_) (fun h157 => False.elim (by omega))
            · refine lv_iload_n X.1 X.2.1 d_M_nameRead_218 rfl (lv_at hl 3 rfl) ?_
              refine lv_istore (lv' := [(7, .int (iI z101)), (6, .int (iI 1)), (0, .ref h), (1, .int (iI a1)), (2, .int (iI z101)), (4, .int (iI z103)), (5, .int (iI z104))]) X.1 X.2.1 d_M_nameRead_219 hl (by decide) rfl (fun ls hl => ?_)
              refine lv_iload X.1 X.2.1 d_M_nameRead_221 (lv_at hl 1 rfl) ?_
              refine z_if_eq (tgt := 230) X.1 X.2.1 d_M_nameRead_223 (by decide) ⟨by omega, by omega⟩ (fun h158 => False.elim (by omega)) (fun h158 => ?_)
              · refine lv_bipush (v := iI 12) X.1 X.2.1 d_M_nameRead_226 (by decide) ?_
                refine lv_istore (lv' := [(7, .int (iI 12)), (6, .int (iI 1)), (0, .ref h), (1, .int (iI a1)), (2, .int (iI z101)), (4, .int (iI z103)), (5, .int (iI z104))]) X.1 X.2.1 d_M_nameRead_228 hl (by decide) rfl (fun ls hl => ?_)
                refine lv_aload_n X.1 X.2.1 d_M_nameRead_230 rfl (lv_at hl 2 rfl) ?_
                refine lv_iload X.1 X.2.1 d_M_nameRead_231 (lv_at hl 0 rfl) ?_
                refine r_puti (k := 55) X Y S (by decide) lk_colon rfl rfl (t_M_ok 55 (by decide)) rfl rfl (sf_colon _ _ _ _) (Nat.le_of_ble_eq_true rfl) rfl (show (0 : Int) ≤ 12 by omega) (show 12 ≤ (4000 : Int) by omega) ⟨by omega, by omega⟩ (by decide) d_M_nameRead_233 (fun I159 H locs Y S w159 => ?_)
                refine lv_aload_n X.1 X.2.1 d_M_nameRead_236 rfl (lv_at hl 2 rfl) ?_
                refine lv_iload X.1 X.2.1 d_M_nameRead_237 (lv_at hl 0 rfl) ?_
                refine r_puti (k := 54) X Y S (by decide) lk_nameSize rfl rfl (t_M_ok 54 (by decide)) rfl rfl (sf_nameSize _ _ _ _) (Nat.le_of_ble_eq_true rfl) rfl (show (0 : Int) ≤ 12 by omega) (show 12 ≤ (40 : Int) by omega) ⟨by omega, by omega⟩ (by decide) d_M_nameRead_239 (fun I160 H locs Y S w160 => ?_)
                refine lv_iconst (v := iI 0) X.1 X.2.1 d_M_nameRead_242 (by decide) ?_
                have J165 : ∀ (n167 : Nat) (z162 : Int) (I161 : Nat → Int32) (J161 : Nat → Int64) (B161 : Nat → Nat → Int32) (G161 : Nat → Nat → Int64) (H : Heap) (locs : List Loc) (ls : Array Slot), (12 - z162).toNat = n167 → (0 ≤ z162) → (z162 ≤ 12) → (I161 2 = iI z110) → (I161 54 = iI 12) → mH D E (mA E h q sz) s.heap h q I161 J161 B161 G161 H locs → rS [54, 55] [53] I B I161 B161 → lv_has ls 9 [(0, .ref h), (7, .int (iI 12)), (8, .int (iI z162))] → W p l e (mR 5 113) s m AV below meth c H locs 0 0 QQ (F0 m 245 ls []) := by
                  intro n167
                  induction n167 using Nat.strongRecOn with
                  | ind n167 ih166 =>
                    intro z162 I161 J161 B161 G161 H locs ls hm168 l162 u162 e163 e164 Y S hl
                    refine lv_iload X.1 X.2.1 d_M_nameRead_245 (lv_at hl 2 rfl) ?_
                    refine lv_iload X.1 X.2.1 d_M_nameRead_247 (lv_at hl 1 rfl) ?_
                    refine z_icmp_ge (tgt := 272) X.1 X.2.1 d_M_nameRead_249 (by decide) ⟨by omega, by omega⟩ ⟨by omega, by omega⟩ (fun h169 => ?_) (fun h169 => ?_)
                    · refine lv_iconst (v := iI 1) X.1 X.2.1 d_M_nameRead_272 (by decide) ?_
                      exact m_retz hQQ X Y hr hlk (iI_bool (by omega) (by omega)).1 ⟨S, 1, rfl, ⟨by omega, by omega, ⟨12, e164, by omega, by omega, by omega⟩⟩⟩ d_M_nameRead_273
                    · refine lv_aload_n X.1 X.2.1 d_M_nameRead_252 rfl (lv_at hl 0 rfl) ?_
                      refine m_get X Y 53 (by decide) lk_name (gf_name _ _ _) rfl d_M_nameRead_253 ?_
                      refine lv_iload X.1 X.2.1 d_M_nameRead_256 (lv_at hl 2 rfl) ?_
                      refine lv_aload_n X.1 X.2.1 d_M_nameRead_258 rfl (lv_at hl 0 rfl) ?_
                      refine m_get X Y 0 (by decide) lk_mem (gf_mem _ _ _) rfl d_M_nameRead_259 ?_
                      refine lv_iload X.1 X.2.1 d_M_nameRead_262 (lv_at hl 2 rfl) ?_
                      refine r_bald X Y S (aw_mem _ _ _ _ _ _ _) rfl (by omega) (show z162 < ((60000 : Nat) : Int) by omega) (by omega) d_M_nameRead_264 (fun z170 q170 l170 u170 => ?_)
                      refine r_bast X Y S (aw_name _ _ _ _ _ _ _) (sw_name _ _ _ _ _ _ _) rfl (by omega) (show z162 < ((40 : Nat) : Int) by omega) (by omega) (by decide) d_M_nameRead_265 (fun B171 H locs Y S w171 => ?_)
                      refine lv_iinc (v := iI (z162 + 1)) (lv' := [(8, .int (iI (z162 + 1))), (0, .ref h), (7, .int (iI 12))]) X.1 X.2.1 d_M_nameRead_266 hl (k := 2) rfl ((iI_add _ _).trans (congrArg iI (by omega))) (by decide) rfl (fun ls hl => ?_)
                      refine lv_goto (tgt := 245) X.1 X.2.1 d_M_nameRead_269 (by decide) ?_
                      exact ih166 ((12 - (z162 + 1)).toNat) (by omega) (z162 + 1) I161 J161 B171 G161 _ _ _ rfl (by omega) (by omega) e163 e164 Y S (lv_sub hl [1, 2, 0] rfl)
                refine lv_istore (lv' := [(8, .int (iI 0)), (7, .int (iI 12)), (6, .int (iI 1)), (0, .ref h), (1, .int (iI a1)), (2, .int (iI z101)), (4, .int (iI z103)), (5, .int (iI z104))]) X.1 X.2.1 d_M_nameRead_243 hl (by decide) rfl (fun ls hl => ?_)
                exact J165 _ 0 I160 J136 B136 G136 _ _ _ rfl (by omega) (by omega) ((w160.2 2 (by decide)).trans ((w159.2 2 (by decide)).trans ((s136.2.1 2 (by decide)).trans e110))) w160.1 Y S (lv_sub hl [3, 1, 0] rfl)
      refine z_icmp_ge (tgt := 182) X.1 X.2.1 d_M_nameRead_15 (by decide) ⟨by omega, by omega⟩ ⟨by omega, by omega⟩ (fun h172 => ?_) (fun h172 => ?_)
      · exact J112  _ _ _ (by omega) Y S (lv_sub hl [0, 1, 2, 4, 5] rfl)
      · refine lv_aload_n X.1 X.2.1 d_M_nameRead_18 rfl (lv_at hl 0 rfl) ?_
        refine m_get X Y 0 (by decide) lk_mem (gf_mem _ _ _) rfl d_M_nameRead_19 ?_
        refine lv_iload_n X.1 X.2.1 d_M_nameRead_22 rfl (lv_at hl 2 rfl) ?_
        refine r_bald X Y S (aw_mem _ _ _ _ _ _ _) rfl (by omega) (show z101 < ((60000 : Nat) : Int) by omega) (by omega) d_M_nameRead_23 (fun z173 q173 l173 u173 => ?_)
        refine lv_bipush (v := iI 58) X.1 X.2.1 d_M_nameRead_24 (by decide) ?_
        refine z_icmp_eq (tgt := 182) X.1 X.2.1 d_M_nameRead_26 (by decide) ⟨by omega, by omega⟩ ⟨by omega, by omega⟩ (fun h174 => ?_) (fun h174 => ?_)
        · exact J112  _ _ _ (by omega) Y S (lv_sub hl [0, 1, 2, 4, 5] rfl)
        · refine lv_iload X.1 X.2.1 d_M_nameRead_29 (lv_at hl 5 rfl) ?_
          refine z_if_eq (tgt := 182) X.1 X.2.1 d_M_nameRead_31 (by decide) ⟨by omega, by omega⟩ (fun h175 => ?_) (fun h175 => ?_)
          · exact J112  _ _ _ (by omega) Y S (lv_sub hl [0, 1, 2, 4, 5] rfl)
          · refine lv_aload_n X.1 X.2.1 d_M_nameRead_34 rfl (lv_at hl 0 rfl) ?_
            refine m_get X Y 0 (by decide) lk_mem (gf_mem _ _ _) rfl d_M_nameRead_35 ?_
            refine lv_iload_n X.1 X.2.1 d_M_nameRead_38 rfl (lv_at hl 2 rfl) ?_
            refine r_bald X Y S (aw_mem _ _ _ _ _ _ _) rfl (by omega) (show z101 < ((60000 : Nat) : Int) by omega) (by omega) d_M_nameRead_39 (fun z176 q176 l176 u176 => ?_)
            refine lv_istore (lv' := [(6, .int (iI z176)), (0, .ref h), (1, .int (iI a1)), (2, .int (iI z101)), (3, .int (iI z102)), (4, .int (iI z103)), (5, .int (iI z104))]) X.1 X.2.1 d_M_nameRead_40 hl (by decide) rfl (fun ls hl => ?_)
            refine lv_iload X.1 X.2.1 d_M_nameRead_42 (lv_at hl 0 rfl) ?_
            refine lv_bipush (v := iI 97) X.1 X.2.1 d_M_nameRead_44 (by decide) ?_
            refine z_icmp_lt (tgt := 60) X.1 X.2.1 d_M_nameRead_46 (by decide) ⟨by omega, by omega⟩ ⟨by omega, by omega⟩ (fun h177 => ?_) (fun h177 => ?_)
            · refine lv_iconst (v := iI 0) X.1 X.2.1 d_M_nameRead_60 (by decide) ?_
              refine lv_istore (lv' := [(7, .int (iI 0)), (6, .int (iI z176)), (0, .ref h), (1, .int (iI a1)), (2, .int (iI z101)), (3, .int (iI z102)), (4, .int (iI z103)), (5, .int (iI z104))]) X.1 X.2.1 d_M_nameRead_61 hl (by decide) rfl (fun ls hl => ?_)
              refine lv_iload X.1 X.2.1 d_M_nameRead_63 (lv_at hl 1 rfl) ?_
              refine lv_bipush (v := iI 47) X.1 X.2.1 d_M_nameRead_65 (by decide) ?_
              refine z_icmp_ne (tgt := 96) X.1 X.2.1 d_M_nameRead_67 (by decide) ⟨by omega, by omega⟩ ⟨by omega, by omega⟩ (fun h178 => ?_) (fun h178 => ?_)
              · refine lv_iload X.1 X.2.1 d_M_nameRead_96 (lv_at hl 0 rfl) ?_
                refine z_if_ne (tgt := 147) X.1 X.2.1 d_M_nameRead_98 (by decide) ⟨by omega, by omega⟩ (fun h179 => False.elim (by omega)) (fun h179 => ?_)
                · refine lv_iload_n X.1 X.2.1 d_M_nameRead_101 rfl (lv_at hl 4 rfl) ?_
                  refine z_if_le (tgt := 124) X.1 X.2.1 d_M_nameRead_102 (by decide) ⟨by omega, by omega⟩ (fun h180 => ?_) (fun h180 => ?_)
                  · refine lv_iload X.1 X.2.1 d_M_nameRead_124 (lv_at hl 6 rfl) ?_
                    refine z_if_ne (tgt := 151) X.1 X.2.1 d_M_nameRead_126 (by decide) ⟨by omega, by omega⟩ (fun h181 => ?_) (fun h181 => ?_)
                    · refine lv_iconst (v := iI 0) X.1 X.2.1 d_M_nameRead_151 (by decide) ?_
                      refine lv_istore (lv' := [(5, .int (iI 0)), (7, .int (iI 0)), (6, .int (iI z176)), (0, .ref h), (1, .int (iI a1)), (2, .int (iI z101)), (3, .int (iI z102)), (4, .int (iI z103))]) X.1 X.2.1 d_M_nameRead_152 hl (by decide) rfl (fun ls hl => ?_)
                      refine lv_iinc (v := iI (z103 + 1)) (lv' := [(4, .int (iI (z103 + 1))), (5, .int (iI 0)), (7, .int (iI 0)), (6, .int (iI z176)), (0, .ref h), (1, .int (iI a1)), (2, .int (iI z101)), (3, .int (iI z102))]) X.1 X.2.1 d_M_nameRead_154 hl (k := 7) rfl ((iI_add _ _).trans (congrArg iI (by omega))) (by decide) rfl (fun ls hl => ?_)
                      refine lv_iload X.1 X.2.1 d_M_nameRead_157 (lv_at hl 1 rfl) ?_
                      refine z_if_eq (tgt := 173) X.1 X.2.1 d_M_nameRead_159 (by decide) ⟨by omega, by omega⟩ (fun h182 => ?_) (fun h182 => False.elim (by omega))
                      · refine lv_iconst (v := iI 0) X.1 X.2.1 d_M_nameRead_173 (by decide) ?_
                        refine lv_istore (lv' := [(5, .int (iI 0)), (4, .int (iI (z103 + 1))), (7, .int (iI 0)), (6, .int (iI z176)), (0, .ref h), (1, .int (iI a1)), (2, .int (iI z101)), (3, .int (iI z102))]) X.1 X.2.1 d_M_nameRead_174 hl (by decide) rfl (fun ls hl => ?_)
                        refine lv_iinc (v := iI (z101 + 1)) (lv' := [(2, .int (iI (z101 + 1))), (5, .int (iI 0)), (4, .int (iI (z103 + 1))), (7, .int (iI 0)), (6, .int (iI z176)), (0, .ref h), (1, .int (iI a1)), (3, .int (iI z102))]) X.1 X.2.1 d_M_nameRead_176 hl (k := 6) rfl ((iI_add _ _).trans (congrArg iI (by omega))) (by decide) rfl (fun ls hl => ?_)
                        refine lv_goto (tgt := 10) X.1 X.2.1 d_M_nameRead_179 (by decide) ?_
                        exact ih107 ((4000 - (z101 + 1)).toNat) (by omega) (z101 + 1) z102 (z103 + 1) 0 _ _ _ rfl (by omega) (by omega) (by omega) (by omega) (by omega) (by omega) (by omega) (by omega) (by omega) Y S (lv_sub hl [5, 6, 0, 7, 2, 1] rfl)
                    · refine lv_iload_n X.1 X.2.1 d_M_nameRead_129 rfl (lv_at hl 4 rfl) ?_
                      refine z_if_le (tgt := 151) X.1 X.2.1 d_M_nameRead_130 (by decide) ⟨by omega, by omega⟩ (fun h183 => ?_) (fun h183 => False.elim (by omega))
                      · refine lv_iconst (v := iI 0) X.1 X.2.1 d_M_nameRead_151 (by decide) ?_
                        refine lv_istore (lv' := [(5, .int (iI 0)), (7, .int (iI 0)), (6, .int (iI z176)), (0, .ref h), (1, .int (iI a1)), (2, .int (iI z101)), (3, .int (iI z102)), (4, .int (iI z103))]) X.1 X.2.1 d_M_nameRead_152 hl (by decide) rfl (fun ls hl => ?_)
                        refine lv_iinc (v := iI (z103 + 1)) (lv' := [(4, .int (iI (z103 + 1))), (5, .int (iI 0)), (7, .int (iI 0)), (6, .int (iI z176)), (0, .ref h), (1, .int (iI a1)), (2, .int (iI z101)), (3, .int (iI z102))]) X.1 X.2.1 d_M_nameRead_154 hl (k := 7) rfl ((iI_add _ _).trans (congrArg iI (by omega))) (by decide) rfl (fun ls hl => ?_)
                        refine lv_iload X.1 X.2.1 d_M_nameRead_157 (lv_at hl 1 rfl) ?_
                        refine z_if_eq (tgt := 173) X.1 X.2.1 d_M_nameRead_159 (by decide) ⟨by omega, by omega⟩ (fun h184 => ?_) (fun h184 => False.elim (by omega))
                        · refine lv_iconst (v := iI 0) X.1 X.2.1 d_M_nameRead_173 (by decide) ?_
                          refine lv_istore (lv' := [(5, .int (iI 0)), (4, .int (iI (z103 + 1))), (7, .int (iI 0)), (6, .int (iI z176)), (0, .ref h), (1, .int (iI a1)), (2, .int (iI z101)), (3, .int (iI z102))]) X.1 X.2.1 d_M_nameRead_174 hl (by decide) rfl (fun ls hl => ?_)
                          refine lv_iinc (v := iI (z101 + 1)) (lv' := [(2, .int (iI (z101 + 1))), (5, .int (iI 0)), (4, .int (iI (z103 + 1))), (7, .int (iI 0)), (6, .int (iI z176)), (0, .ref h), (1, .int (iI a1)), (3, .int (iI z102))]) X.1 X.2.1 d_M_nameRead_176 hl (k := 6) rfl ((iI_add _ _).trans (congrArg iI (by omega))) (by decide) rfl (fun ls hl => ?_)
                          refine lv_goto (tgt := 10) X.1 X.2.1 d_M_nameRead_179 (by decide) ?_
                          exact ih107 ((4000 - (z101 + 1)).toNat) (by omega) (z101 + 1) z102 (z103 + 1) 0 _ _ _ rfl (by omega) (by omega) (by omega) (by omega) (by omega) (by omega) (by omega) (by omega) (by omega) Y S (lv_sub hl [5, 6, 0, 7, 2, 1] rfl)
                  · refine lv_iload X.1 X.2.1 d_M_nameRead_105 (lv_at hl 6 rfl) ?_
                    refine z_if_le (tgt := 124) X.1 X.2.1 d_M_nameRead_107 (by decide) ⟨by omega, by omega⟩ (fun h185 => ?_) (fun h185 => ?_)
                    · refine lv_iload X.1 X.2.1 d_M_nameRead_124 (lv_at hl 6 rfl) ?_
                      refine z_if_ne (tgt := 151) X.1 X.2.1 d_M_nameRead_126 (by decide) ⟨by omega, by omega⟩ (fun h186 => False.elim (by omega)) (fun h186 => ?_)
                      · refine lv_iload_n X.1 X.2.1 d_M_nameRead_129 rfl (lv_at hl 4 rfl) ?_
                        refine z_if_le (tgt := 151) X.1 X.2.1 d_M_nameRead_130 (by decide) ⟨by omega, by omega⟩ (fun h187 => False.elim (by omega)) (fun h187 => ?_)
                        · refine lv_iload X.1 X.2.1 d_M_nameRead_133 (lv_at hl 1 rfl) ?_
                          refine lv_bipush (v := iI 48) X.1 X.2.1 d_M_nameRead_135 (by decide) ?_
                          refine z_icmp_lt (tgt := 151) X.1 X.2.1 d_M_nameRead_137 (by decide) ⟨by omega, by omega⟩ ⟨by omega, by omega⟩ (fun h188 => ?_) (fun h188 => ?_)
                          · refine lv_iconst (v := iI 0) X.1 X.2.1 d_M_nameRead_151 (by decide) ?_
                            refine lv_istore (lv' := [(5, .int (iI 0)), (7, .int (iI 0)), (6, .int (iI z176)), (0, .ref h), (1, .int (iI a1)), (2, .int (iI z101)), (3, .int (iI z102)), (4, .int (iI z103))]) X.1 X.2.1 d_M_nameRead_152 hl (by decide) rfl (fun ls hl => ?_)
                            refine lv_iinc (v := iI (z103 + 1)) (lv' := [(4, .int (iI (z103 + 1))), (5, .int (iI 0)), (7, .int (iI 0)), (6, .int (iI z176)), (0, .ref h), (1, .int (iI a1)), (2, .int (iI z101)), (3, .int (iI z102))]) X.1 X.2.1 d_M_nameRead_154 hl (k := 7) rfl ((iI_add _ _).trans (congrArg iI (by omega))) (by decide) rfl (fun ls hl => ?_)
                            refine lv_iload X.1 X.2.1 d_M_nameRead_157 (lv_at hl 1 rfl) ?_
                            refine z_if_eq (tgt := 173) X.1 X.2.1 d_M_nameRead_159 (by decide) ⟨by omega, by omega⟩ (fun h189 => ?_) (fun h189 => False.elim (by omega))
                            · refine lv_iconst (v := iI 0) X.1 X.2.1 d_M_nameRead_173 (by decide) ?_
                              refine lv_istore (lv' := [(5, .int (iI 0)), (4, .int (iI (z103 + 1))), (7, .int (iI 0)), (6, .int (iI z176)), (0, .ref h), (1, .int (iI a1)), (2, .int (iI z101)), (3, .int (iI z102))]) X.1 X.2.1 d_M_nameRead_174 hl (by decide) rfl (fun ls hl => ?_)
                              refine lv_iinc (v := iI (z101 + 1)) (lv' := [(2, .int (iI (z101 + 1))), (5, .int (iI 0)), (4, .int (iI (z103 + 1))), (7, .int (iI 0)), (6, .int (iI z176)), (0, .ref h), (1, .int (iI a1)), (3, .int (iI z102))]) X.1 X.2.1 d_M_nameRead_176 hl (k := 6) rfl ((iI_add _ _).trans (congrArg iI (by omega))) (by decide) rfl (fun ls hl => ?_)
                              refine lv_goto (tgt := 10) X.1 X.2.1 d_M_nameRead_179 (by decide) ?_
                              exact ih107 ((4000 - (z101 + 1)).toNat) (by omega) (z101 + 1) z102 (z103 + 1) 0 _ _ _ rfl (by omega) (by omega) (by omega) (by omega) (by omega) (by omega) (by omega) (by omega) (by omega) Y S (lv_sub hl [5, 6, 0, 7, 2, 1] rfl)
                          · refine lv_iload X.1 X.2.1 d_M_nameRead_140 (lv_at hl 1 rfl) ?_
                            refine lv_bipush (v := iI 57) X.1 X.2.1 d_M_nameRead_142 (by decide) ?_
                            refine z_icmp_gt (tgt := 151) X.1 X.2.1 d_M_nameRead_144 (by decide) ⟨by omega, by omega⟩ ⟨by omega, by omega⟩ (fun h190 => ?_) (fun h190 => ?_)
                            · refine lv_iconst (v := iI 0) X.1 X.2.1 d_M_nameRead_151 (by decide) ?_
                              refine lv_istore (lv' := [(5, .int (iI 0)), (7, .int (iI 0)), (6, .int (iI z176)), (0, .ref h), (1, .int (iI a1)), (2, .int (iI z101)), (3, .int (iI z102)), (4, .int (iI z103))]) X.1 X.2.1 d_M_nameRead_152 hl (by decide) rfl (fun ls hl => ?_)
                              refine lv_iinc (v := iI (z103 + 1)) (lv' := [(4, .int (iI (z103 + 1))), (5, .int (iI 0)), (7, .int (iI 0)), (6, .int (iI z176)), (0, .ref h), (1, .int (iI a1)), (2, .int (iI z101)), (3, .int (iI z102))]) X.1 X.2.1 d_M_nameRead_154 hl (k := 7) rfl ((iI_add _ _).trans (congrArg iI (by omega))) (by decide) rfl (fun ls hl => ?_)
                              refine lv_iload X.1 X.2.1 d_M_nameRead_157 (lv_at hl 1 rfl) ?_
                              refine z_if_eq (tgt := 173) X.1 X.2.1 d_M_nameRead_159 (by decide) ⟨by omega, by omega⟩ (fun h191 => ?_) (fun h191 => False.elim (by omega))
                              · refine lv_iconst (v := iI 0) X.1 X.2.1 d_M_nameRead_173 (by decide) ?_
                                refine lv_istore (lv' := [(5, .int (iI 0)), (4, .int (iI (z103 + 1))), (7, .int (iI 0)), (6, .int (iI z176)), (0, .ref h), (1, .int (iI a1)), (2, .int (iI z101)), (3, .int (iI z102))]) X.1 X.2.1 d_M_nameRead_174 hl (by decide) rfl (fun ls hl => ?_)
                                refine lv_iinc (v := iI (z101 + 1)) (lv' := [(2, .int (iI (z101 + 1))), (5, .int (iI 0)), (4, .int (iI (z103 + 1))), (7, .int (iI 0)), (6, .int (iI z176)), (0, .ref h), (1, .int (iI a1)), (3, .int (iI z102))]) X.1 X.2.1 d_M_nameRead_176 hl (k := 6) rfl ((iI_add _ _).trans (congrArg iI (by omega))) (by decide) rfl (fun ls hl => ?_)
                                refine lv_goto (tgt := 10) X.1 X.2.1 d_M_nameRead_179 (by decide) ?_
                                exact ih107 ((4000 - (z101 + 1)).toNat) (by omega) (z101 + 1) z102 (z103 + 1) 0 _ _ _ rfl (by omega) (by omega) (by omega) (by omega) (by omega) (by omega) (by omega) (by omega) (by omega) Y S (lv_sub hl [5, 6, 0, 7, 2, 1] rfl)
                            · refine lv_iconst (v := iI 1) X.1 X.2.1 d_M_nameRead_147 (by decide) ?_
                              refine lv_goto (tgt := 152) X.1 X.2.1 d_M_nameRead_148 (by decide) ?_
                              refine lv_istore (lv' := [(5, .int (iI 1)), (7, .int (iI 0)), (6, .int (iI z176)), (0, .ref h), (1, .int (iI a1)), (2, .int (iI z101)), (3, .int (iI z102)), (4, .int (iI z103))]) X.1 X.2.1 d_M_nameRead_152 hl (by decide) rfl (fun ls hl => ?_)
                              refine lv_iinc (v := iI (z103 + 1)) (lv' := [(4, .int (iI (z103 + 1))), (5, .int (iI 1)), (7, .int (iI 0)), (6, .int (iI z176)), (0, .ref h), (1, .int (iI a1)), (2, .int (iI z101)), (3, .int (iI z102))]) X.1 X.2.1 d_M_nameRead_154 hl (k := 7) rfl ((iI_add _ _).trans (congrArg iI (by omega))) (by decide) rfl (fun ls hl => ?_)
                              refine lv_iload X.1 X.2.1 d_M_nameRead_157 (lv_at hl 1 rfl) ?_
                              refine z_if_eq (tgt := 173) X.1 X.2.1 d_M_nameRead_159 (by decide) ⟨by omega, by omega⟩ (fun h192 => False.elim (by omega)) (fun h192 => ?_)
                              · refine lv_iload X.1 X.2.1 d_M_nameRead_162 (lv_at hl 0 rfl) ?_
                                refine lv_bipush (v := iI 16) X.1 X.2.1 d_M_nameRead_164 (by decide) ?_
                                refine z_icmp_gt (tgt := 173) X.1 X.2.1 d_M_nameRead_166 (by decide) ⟨by omega, by omega⟩ ⟨by omega, by omega⟩ (fun h193 => False.elim (by omega)) (fun h193 => ?_)
                                · refine lv_iconst (v := iI 1) X.1 X.2.1 d_M_nameRead_169 (by decide) ?_
                                  refine lv_goto (tgt := 174) X.1 X.2.1 d_M_nameRead_170 (by decide) ?_
                                  refine lv_istore (lv' := [(5, .int (iI 1)), (4, .int (iI (z103 + 1))), (7, .int (iI 0)), (6, .int (iI z176)), (0, .ref h), (1, .int (iI a1)), (2, .int (iI z101)), (3, .int (iI z102))]) X.1 X.2.1 d_M_nameRead_174 hl (by decide) rfl (fun ls hl => ?_)
                                  refine lv_iinc (v := iI (z101 + 1)) (lv' := [(2, .int (iI (z101 + 1))), (5, .int (iI 1)), (4, .int (iI (z103 + 1))), (7, .int (iI 0)), (6, .int (iI z176)), (0, .ref h), (1, .int (iI a1)), (3, .int (iI z102))]) X.1 X.2.1 d_M_nameRead_176 hl (k := 6) rfl ((iI_add _ _).trans (congrArg iI (by omega))) (by decide) rfl (fun ls hl => ?_)
                                  refine lv_goto (tgt := 10) X.1 X.2.1 d_M_nameRead_179 (by decide) ?_
                                  exact ih107 ((4000 - (z101 + 1)).toNat) (by omega) (z101 + 1) z102 (z103 + 1) 1 _ _ _ rfl (by omega) (by omega) (by omega) (by omega) (by omega) (by omega) (by omega) (by omega) (by omega) Y S (lv_sub hl [5, 6, 0, 7, 2, 1] rfl)
                    · refine lv_iload X.1 X.2.1 d_M_nameRead_110 (lv_at hl 1 rfl) ?_
                      refine lv_bipush (v := iI 48) X.1 X.2.1 d_M_nameRead_112 (by decide) ?_
                      refine z_icmp_lt (tgt := 124) X.1 X.2.1 d_M_nameRead_114 (by decide) ⟨by omega, by omega⟩ ⟨by omega, by omega⟩ (fun h194 => ?_) (fun h194 => ?_)
                      · refine lv_iload X.1 X.2.1 d_M_nameRead_124 (lv_at hl 6 rfl) ?_
                        refine z_if_ne (tgt := 151) X.1 X.2.1 d_M_nameRead_126 (by decide) ⟨by omega, by omega⟩ (fun h195 => ?_) (fun h195 => False.elim (by omega))
                        · refine lv_iconst (v := iI 0) X.1 X.2.1 d_M_nameRead_151 (by decide) ?_
                          refine lv_istore (lv' := [(5, .int (iI 0)), (7, .int (iI 0)), (6, .int (iI z176)), (0, .ref h), (1, .int (iI a1)), (2, .int (iI z101)), (3, .int (iI z102)), (4, .int (iI z103))]) X.1 X.2.1 d_M_nameRead_152 hl (by decide) rfl (fun ls hl => ?_)
                          refine lv_iinc (v := iI (z103 + 1)) (lv' := [(4, .int (iI (z103 + 1))), (5, .int (iI 0)), (7, .int (iI 0)), (6, .int (iI z176)), (0, .ref h), (1, .int (iI a1)), (2, .int (iI z101)), (3, .int (iI z102))]) X.1 X.2.1 d_M_nameRead_154 hl (k := 7) rfl ((iI_add _ _).trans (congrArg iI (by omega))) (by decide) rfl (fun ls hl => ?_)
                          refine lv_iload X.1 X.2.1 d_M_nameRead_157 (lv_at hl 1 rfl) ?_
                          refine z_if_eq (tgt := 173) X.1 X.2.1 d_M_nameRead_159 (by decide) ⟨by omega, by omega⟩ (fun h196 => ?_) (fun h196 => False.elim (by omega))
                          · refine lv_iconst (v := iI 0) X.1 X.2.1 d_M_nameRead_173 (by decide) ?_
                            refine lv_istore (lv' := [(5, .int (iI 0)), (4, .int (iI (z103 + 1))), (7, .int (iI 0)), (6, .int (iI z176)), (0, .ref h), (1, .int (iI a1)), (2, .int (iI z101)), (3, .int (iI z102))]) X.1 X.2.1 d_M_nameRead_174 hl (by decide) rfl (fun ls hl => ?_)
                            refine lv_iinc (v := iI (z101 + 1)) (lv' := [(2, .int (iI (z101 + 1))), (5, .int (iI 0)), (4, .int (iI (z103 + 1))), (7, .int (iI 0)), (6, .int (iI z176)), (0, .ref h), (1, .int (iI a1)), (3, .int (iI z102))]) X.1 X.2.1 d_M_nameRead_176 hl (k := 6) rfl ((iI_add _ _).trans (congrArg iI (by omega))) (by decide) rfl (fun ls hl => ?_)
                            refine lv_goto (tgt := 10) X.1 X.2.1 d_M_nameRead_179 (by decide) ?_
                            exact ih107 ((4000 - (z101 + 1)).toNat) (by omega) (z101 + 1) z102 (z103 + 1) 0 _ _ _ rfl (by omega) (by omega) (by omega) (by omega) (by omega) (by omega) (by omega) (by omega) (by omega) Y S (lv_sub hl [5, 6, 0, 7, 2, 1] rfl)
                      · refine lv_iload X.1 X.2.1 d_M_nameRead_117 (lv_at hl 1 rfl) ?_
                        refine lv_bipush (v := iI 57) X.1 X.2.1 d_M_nameRead_119 (by decide) ?_
                        refine z_icmp_le (tgt := 147) X.1 X.2.1 d_M_nameRead_121 (by decide) ⟨by omega, by omega⟩ ⟨by omega, by omega⟩ (fun h197 => ?_) (fun h197 => ?_)
                        · refine lv_iconst (v := iI 1) X.1 X.2.1 d_M_nameRead_147 (by decide) ?_
                          refine lv_goto (tgt := 152) X.1 X.2.1 d_M_nameRead_148 (by decide) ?_
                          refine lv_istore (lv' := [(5, .int (iI 1)), (7, .int (iI 0)), (6, .int (iI z176)), (0, .ref h), (1, .int (iI a1)), (2, .int (iI z101)), (3, .int (iI z102)), (4, .int (iI z103))]) X.1 X.2.1 d_M_nameRead_152 hl (by decide) rfl (fun ls hl => ?_)
                          refine lv_iinc (v := iI (z103 + 1)) (lv' := [(4, .int (iI (z103 + 1))), (5, .int (iI 1)), (7, .int (iI 0)), (6, .int (iI z176)), (0, .ref h), (1, .int (iI a1)), (2, .int (iI z101)), (3, .int (iI z102))]) X.1 X.2.1 d_M_nameRead_154 hl (k := 7) rfl ((iI_add _ _).trans (congrArg iI (by omega))) (by decide) rfl (fun ls hl => ?_)
                          refine lv_iload X.1 X.2.1 d_M_nameRead_157 (lv_at hl 1 rfl) ?_
                          refine z_if_eq (tgt := 173) X.1 X.2.1 d_M_nameRead_159 (by decide) ⟨by omega, by omega⟩ (fun h198 => False.elim (by omega)) (fun h198 => ?_)
                          · refine lv_iload X.1 X.2.1 d_M_nameRead_162 (lv_at hl 0 rfl) ?_
                            refine lv_bipush (v := iI 16) X.1 X.2.1 d_M_nameRead_164 (by decide) ?_
                            refine z_icmp_gt (tgt := 173) X.1 X.2.1 d_M_nameRead_166 (by decide) ⟨by omega, by omega⟩ ⟨by omega, by omega⟩ (fun h199 => ?_) (fun h199 => ?_)
                            · refine lv_iconst (v := iI 0) X.1 X.2.1 d_M_nameRead_173 (by decide) ?_
                              refine lv_istore (lv' := [(5, .int (iI 0)), (4, .int (iI (z103 + 1))), (7, .int (iI 0)), (6, .int (iI z176)), (0, .ref h), (1, .int (iI a1)), (2, .int (iI z101)), (3, .int (iI z102))]) X.1 X.2.1 d_M_nameRead_174 hl (by decide) rfl (fun ls hl => ?_)
                              refine lv_iinc (v := iI (z101 + 1)) (lv' := [(2, .int (iI (z101 + 1))), (5, .int (iI 0)), (4, .int (iI (z103 + 1))), (7, .int (iI 0)), (6, .int (iI z176)), (0, .ref h), (1, .int (iI a1)), (3, .int (iI z102))]) X.1 X.2.1 d_M_nameRead_176 hl (k := 6) rfl ((iI_add _ _).trans (congrArg iI (by omega))) (by decide) rfl (fun ls hl => ?_)
                              refine lv_goto (tgt := 10) X.1 X.2.1 d_M_nameRead_179 (by decide) ?_
                              exact ih107 ((4000 - (z101 + 1)).toNat) (by omega) (z101 + 1) z102 (z103 + 1) 0 _ _ _ rfl (by omega) (by omega) (by omega) (by omega) (by omega) (by omega) (by omega) (by omega) (by omega) Y S (lv_sub hl [5, 6, 0, 7, 2, 1] rfl)
                            · refine lv_iconst (v := iI 1) X.1 X.2.1 d_M_nameRead_169 (by decide) ?_
                              refine lv_goto (tgt := 174) X.1 X.2.1 d_M_nameRead_170 (by decide) ?_
                              refine lv_istore (lv' := [(5, .int (iI 1)), (4, .int (iI (z103 + 1))), (7, .int (iI 0)), (6, .int (iI z176)), (0, .ref h), (1, .int (iI a1)), (2, .int (iI z101)), (3, .int (iI z102))]) X.1 X.2.1 d_M_nameRead_174 hl (by decide) rfl (fun ls hl => ?_)
                              refine lv_iinc (v := iI (z101 + 1)) (lv' := [(2, .int (iI (z101 + 1))), (5, .int (iI 1)), (4, .int (iI (z103 + 1))), (7, .int (iI 0)), (6, .int (iI z176)), (0, .ref h), (1, .int (iI a1)), (3, .int (iI z102))]) X.1 X.2.1 d_M_nameRead_176 hl (k := 6) rfl ((iI_add _ _).trans (congrArg iI (by omega))) (by decide) rfl (fun ls hl => ?_)
                              refine lv_goto (tgt := 10) X.1 X.2.1 d_M_nameRead_179 (by decide) ?_
                              exact ih107 ((4000 - (z101 + 1)).toNat) (by omega) (z101 + 1) z102 (z103 + 1) 1 _ _ _ rfl (by omega) (by omega) (by omega) (by omega) (by omega) (by omega) (by omega) (by omega) (by omega) Y S (lv_sub hl [5, 6, 0, 7, 2, 1] rfl)
                        · refine lv_iload X.1 X.2.1 d_M_nameRead_124 (lv_at hl 6 rfl) ?_
                          refine z_if_ne (tgt := 151) X.1 X.2.1 d_M_nameRead_126 (by decide) ⟨by omega, by omega⟩ (fun h200 => ?_) (fun h200 => False.elim (by omega))
                          · refine lv_iconst (v := iI 0) X.1 X.2.1 d_M_nameRead_151 (by decide) ?_
                            refine lv_istore (lv' := [(5, .int (iI 0)), (7, .int (iI 0)), (6, .int (iI z176)), (0, .ref h), (1, .int (iI a1)), (2, .int (iI z101)), (3, .int (iI z102)), (4, .int (iI z103))]) X.1 X.2.1 d_M_nameRead_152 hl (by decide) rfl (fun ls hl => ?_)
                            refine lv_iinc (v := iI (z103 + 1)) (lv' := [(4, .int (iI (z103 + 1))), (5, .int (iI 0)), (7, .int (iI 0)), (6, .int (iI z176)), (0, .ref h), (1, .int (iI a1)), (2, .int (iI z101)), (3, .int (iI z102))]) X.1 X.2.1 d_M_nameRead_154 hl (k := 7) rfl ((iI_add _ _).trans (congrArg iI (by omega))) (by decide) rfl (fun ls hl => ?_)
                            refine lv_iload X.1 X.2.1 d_M_nameRead_157 (lv_at hl 1 rfl) ?_
                            refine z_if_eq (tgt := 173) X.1 X.2.1 d_M_nameRead_159 (by decide) ⟨by omega, by omega⟩ (fun h201 => ?_) (fun h201 => False.elim (by omega))
                            · refine lv_iconst (v := iI 0) X.1 X.2.1 d_M_nameRead_173 (by decide) ?_
                              refine lv_istore (lv' := [(5, .int (iI 0)), (4, .int (iI (z103 + 1))), (7, .int (iI 0)), (6, .int (iI z176)), (0, .ref h), (1, .int (iI a1)), (2, .int (iI z101)), (3, .int (iI z102))]) X.1 X.2.1 d_M_nameRead_174 hl (by decide) rfl (fun ls hl => ?_)
                              refine lv_iinc (v := iI (z101 + 1)) (lv' := [(2, .int (iI (z101 + 1))), (5, .int (iI 0)), (4, .int (iI (z103 + 1))), (7, .int (iI 0)), (6, .int (iI z176)), (0, .ref h), (1, .int (iI a1)), (3, .int (iI z102))]) X.1 X.2.1 d_M_nameRead_176 hl (k := 6) rfl ((iI_add _ _).trans (congrArg iI (by omega))) (by decide) rfl (fun ls hl => ?_)
                              refine lv_goto (tgt := 10) X.1 X.2.1 d_M_nameRead_179 (by decide) ?_
                              exact ih107 ((4000 - (z101 + 1)).toNat) (by omega) (z101 + 1) z102 (z103 + 1) 0 _ _ _ rfl (by omega) (by omega) (by omega) (by omega) (by omega) (by omega) (by omega) (by omega) (by omega) Y S (lv_sub hl [5, 6, 0, 7, 2, 1] rfl)
              · refine lv_iload X.1 X.2.1 d_M_nameRead_70 (lv_at hl 6 rfl) ?_
                refine z_if_le (tgt := 84) X.1 X.2.1 d_M_nameRead_72 (by decide) ⟨by omega, by omega⟩ (fun h202 => ?_) (fun h202 => ?_)
                · refine lv_iconst (v := iI 0) X.1 X.2.1 d_M_nameRead_84 (by decide) ?_
                  refine lv_istore (lv' := [(5, .int (iI 0)), (7, .int (iI 0)), (6, .int (iI z176)), (0, .ref h), (1, .int (iI a1)), (2, .int (iI z101)), (3, .int (iI z102)), (4, .int (iI z103))]) X.1 X.2.1 d_M_nameRead_85 hl (by decide) rfl (fun ls hl => ?_)
                  refine lv_iinc (v := iI (z102 + 1)) (lv' := [(3, .int (iI (z102 + 1))), (5, .int (iI 0)), (7, .int (iI 0)), (6, .int (iI z176)), (0, .ref h), (1, .int (iI a1)), (2, .int (iI z101)), (4, .int (iI z103))]) X.1 X.2.1 d_M_nameRead_87 hl (k := 6) rfl ((iI_add _ _).trans (congrArg iI (by omega))) (by decide) rfl (fun ls hl => ?_)
                  refine lv_iconst (v := iI 0) X.1 X.2.1 d_M_nameRead_90 (by decide) ?_
                  refine lv_istore (lv' := [(4, .int (iI 0)), (3, .int (iI (z102 + 1))), (5, .int (iI 0)), (7, .int (iI 0)), (6, .int (iI z176)), (0, .ref h), (1, .int (iI a1)), (2, .int (iI z101))]) X.1 X.2.1 d_M_nameRead_91 hl (by decide) rfl (fun ls hl => ?_)
                  refine lv_goto (tgt := 176) X.1 X.2.1 d_M_nameRead_93 (by decide) ?_
                  refine lv_iinc (v := iI (z101 + 1)) (lv' := [(2, .int (iI (z101 + 1))), (4, .int (iI 0)), (3, .int (iI (z102 + 1))), (5, .int (iI 0)), (7, .int (iI 0)), (6, .int (iI z176)), (0, .ref h), (1, .int (iI a1))]) X.1 X.2.1 d_M_nameRead_176 hl (k := 7) rfl ((iI_add _ _).trans (congrArg iI (by omega))) (by decide) rfl (fun ls hl => ?_)
                  refine lv_goto (tgt := 10) X.1 X.2.1 d_M_nameRead_179 (by decide) ?_
                  exact ih107 ((4000 - (z101 + 1)).toNat) (by omega) (z101 + 1) (z102 + 1) 0 0 _ _ _ rfl (by omega) (by omega) (by omega) (by omega) (by omega) (by omega) (by omega) (by omega) (by omega) Y S (lv_sub hl [6, 7, 0, 2, 1, 3] rfl)
                · refine lv_iload_n X.1 X.2.1 d_M_nameRead_75 rfl (lv_at hl 5 rfl) ?_
                  refine lv_iconst (v := iI 1) X.1 X.2.1 d_M_nameRead_76 (by decide) ?_
                  refine z_icmp_ne (tgt := 84) X.1 X.2.1 d_M_nameRead_77 (by decide) ⟨by omega, by omega⟩ ⟨by omega, by omega⟩ (fun h203 => ?_) (fun h203 => ?_)
                  · refine lv_iconst (v := iI 0) X.1 X.2.1 d_M_nameRead_84 (by decide) ?_
                    refine lv_istore (lv' := [(5, .int (iI 0)), (7, .int (iI 0)), (6, .int (iI z176)), (0, .ref h), (1, .int (iI a1)), (2, .int (iI z101)), (3, .int (iI z102)), (4, .int (iI z103))]) X.1 X.2.1 d_M_nameRead_85 hl (by decide) rfl (fun ls hl => ?_)
                    refine lv_iinc (v := iI (z102 + 1)) (lv' := [(3, .int (iI (z102 + 1))), (5, .int (iI 0)), (7, .int (iI 0)), (6, .int (iI z176)), (0, .ref h), (1, .int (iI a1)), (2, .int (iI z101)), (4, .int (iI z103))]) X.1 X.2.1 d_M_nameRead_87 hl (k := 6) rfl ((iI_add _ _).trans (congrArg iI (by omega))) (by decide) rfl (fun ls hl => ?_)
                    refine lv_iconst (v := iI 0) X.1 X.2.1 d_M_nameRead_90 (by decide) ?_
                    refine lv_istore (lv' := [(4, .int (iI 0)), (3, .int (iI (z102 + 1))), (5, .int (iI 0)), (7, .int (iI 0)), (6, .int (iI z176)), (0, .ref h), (1, .int (iI a1)), (2, .int (iI z101))]) X.1 X.2.1 d_M_nameRead_91 hl (by decide) rfl (fun ls hl => ?_)
                    refine lv_goto (tgt := 176) X.1 X.2.1 d_M_nameRead_93 (by decide) ?_
                    refine lv_iinc (v := iI (z101 + 1)) (lv' := [(2, .int (iI (z101 + 1))), (4, .int (iI 0)), (3, .int (iI (z102 + 1))), (5, .int (iI 0)), (7, .int (iI 0)), (6, .int (iI z176)), (0, .ref h), (1, .int (iI a1))]) X.1 X.2.1 d_M_nameRead_176 hl (k := 7) rfl ((iI_add _ _).trans (congrArg iI (by omega))) (by decide) rfl (fun ls hl => ?_)
                    refine lv_goto (tgt := 10) X.1 X.2.1 d_M_nameRead_179 (by decide) ?_
                    exact ih107 ((4000 - (z101 + 1)).toNat) (by omega) (z101 + 1) (z102 + 1) 0 0 _ _ _ rfl (by omega) (by omega) (by omega) (by omega) (by omega) (by omega) (by omega) (by omega) (by omega) Y S (lv_sub hl [6, 7, 0, 2, 1, 3] rfl)
                  · refine lv_iconst (v := iI 1) X.1 X.2.1 d_M_nameRead_80 (by decide) ?_
                    refine lv_goto (tgt := 85) X.1 X.2.1 d_M_nameRead_81 (by decide) ?_
                    refine lv_istore (lv' := [(5, .int (iI 1)), (7, .int (iI 0)), (6, .int (iI z176)), (0, .ref h), (1, .int (iI a1)), (2, .int (iI z101)), (3, .int (iI z102)), (4, .int (iI z103))]) X.1 X.2.1 d_M_nameRead_85 hl (by decide) rfl (fun ls hl => ?_)
                    refine lv_iinc (v := iI (z102 + 1)) (lv' := [(3, .int (iI (z102 + 1))), (5, .int (iI 1)), (7, .int (iI 0)), (6, .int (iI z176)), (0, .ref h), (1, .int (iI a1)), (2, .int (iI z101)), (4, .int (iI z103))]) X.1 X.2.1 d_M_nameRead_87 hl (k := 6) rfl ((iI_add _ _).trans (congrArg iI (by omega))) (by decide) rfl (fun ls hl => ?_)
                    refine lv_iconst (v := iI 0) X.1 X.2.1 d_M_nameRead_90 (by decide) ?_
                    refine lv_istore (lv' := [(4, .int (iI 0)), (3, .int (iI (z102 + 1))), (5, .int (iI 1)), (7, .int (iI 0)), (6, .int (iI z176)), (0, .ref h), (1, .int (iI a1)), (2, .int (iI z101))]) X.1 X.2.1 d_M_nameRead_91 hl (by decide) rfl (fun ls hl => ?_)
                    refine lv_goto (tgt := 176) X.1 X.2.1 d_M_nameRead_93 (by decide) ?_
                    refine lv_iinc (v := iI (z101 + 1)) (lv' := [(2, .int (iI (z101 + 1))), (4, .int (iI 0)), (3, .int (iI (z102 + 1))), (5, .int (iI 1)), (7, .int (iI 0)), (6, .int (iI z176)), (0, .ref h), (1, .int (iI a1))]) X.1 X.2.1 d_M_nameRead_176 hl (k := 7) rfl ((iI_add _ _).trans (congrArg iI (by omega))) (by decide) rfl (fun ls hl => ?_)
                    refine lv_goto (tgt := 10) X.1 X.2.1 d_M_nameRead_179 (by decide) ?_
                    exact ih107 ((4000 - (z101 + 1)).toNat) (by omega) (z101 + 1) (z102 + 1) 0 1 _ _ _ rfl (by omega) (by omega) (by omega) (by omega) (by omega) (by omega) (by omega) (by omega) (by omega) Y S (lv_sub hl [6, 7, 0, 2, 1, 3] rfl)
            · refine lv_iload X.1 X.2.1 d_M_nameRead_49 (lv_at hl 0 rfl) ?_
              refine lv_bipush (v := iI 122) X.1 X.2.1 d_M_nameRead_51 (by decide) ?_
              refine z_icmp_gt (tgt := 60) X.1 X.2.1 d_M_nameRead_53 (by decide) ⟨by omega, by omega⟩ ⟨by omega, by omega⟩ (fun h204 => ?_) (fun h204 => ?_)
              · refine lv_iconst (v := iI 0) X.1 X.2.1 d_M_nameRead_60 (by decide) ?_
                refine lv_istore (lv' := [(7, .int (iI 0)), (6, .int (iI z176)), (0, .ref h), (1, .int (iI a1)), (2, .int (iI z101)), (3, .int (iI z102)), (4, .int (iI z103)), (5, .int (iI z104))]) X.1 X.2.1 d_M_nameRead_61 hl (by decide) rfl (fun ls hl => ?_)
                refine lv_iload X.1 X.2.1 d_M_nameRead_63 (lv_at hl 1 rfl) ?_
                refine lv_bipush (v := iI 47) X.1 X.2.1 d_M_nameRead_65 (by decide) ?_
                refine z_icmp_ne (tgt := 96) X.1 X.2.1 d_M_nameRead_67 (by decide) ⟨by omega, by omega⟩ ⟨by omega, by omega⟩ (fun h205 => ?_) (fun h205 => False.elim (by omega))
                · refine lv_iload X.1 X.2.1 d_M_nameRead_96 (lv_at hl 0 rfl) ?_
                  refine z_if_ne (tgt := 147) X.1 X.2.1 d_M_nameRead_98 (by decide) ⟨by omega, by omega⟩ (fun h206 => False.elim (by omega)) (fun h206 => ?_)
                  · refine lv_iload_n X.1 X.2.1 d_M_nameRead_101 rfl (lv_at hl 4 rfl) ?_
                    refine z_if_le (tgt := 124) X.1 X.2.1 d_M_nameRead_102 (by decide) ⟨by omega, by omega⟩ (fun h207 => ?_) (fun h207 => ?_)
                    · refine lv_iload X.1 X.2.1 d_M_nameRead_124 (lv_at hl 6 rfl) ?_
                      refine z_if_ne (tgt := 151) X.1 X.2.1 d_M_nameRead_126 (by decide) ⟨by omega, by omega⟩ (fun h208 => ?_) (fun h208 => ?_)
                      · refine lv_iconst (v := iI 0) X.1 X.2.1 d_M_nameRead_151 (by decide) ?_
                        refine lv_istore (lv' := [(5, .int (iI 0)), (7, .int (iI 0)), (6, .int (iI z176)), (0, .ref h), (1, .int (iI a1)), (2, .int (iI z101)), (3, .int (iI z102)), (4, .int (iI z103))]) X.1 X.2.1 d_M_nameRead_152 hl (by decide) rfl (fun ls hl => ?_)
                        refine lv_iinc (v := iI (z103 + 1)) (lv' := [(4, .int (iI (z103 + 1))), (5, .int (iI 0)), (7, .int (iI 0)), (6, .int (iI z176)), (0, .ref h), (1, .int (iI a1)), (2, .int (iI z101)), (3, .int (iI z102))]) X.1 X.2.1 d_M_nameRead_154 hl (k := 7) rfl ((iI_add _ _).trans (congrArg iI (by omega))) (by decide) rfl (fun ls hl => ?_)
                        refine lv_iload X.1 X.2.1 d_M_nameRead_157 (lv_at hl 1 rfl) ?_
                        refine z_if_eq (tgt := 173) X.1 X.2.1 d_M_nameRead_159 (by decide) ⟨by omega, by omega⟩ (fun h209 => ?_) (fun h209 => False.elim (by omega))
                        · refine lv_iconst (v := iI 0) X.1 X.2.1 d_M_nameRead_173 (by decide) ?_
                          refine lv_istore (lv' := [(5, .int (iI 0)), (4, .int (iI (z103 + 1))), (7, .int (iI 0)), (6, .int (iI z176)), (0, .ref h), (1, .int (iI a1)), (2, .int (iI z101)), (3, .int (iI z102))]) X.1 X.2.1 d_M_nameRead_174 hl (by decide) rfl (fun ls hl => ?_)
                          refine lv_iinc (v := iI (z101 + 1)) (lv' := [(2, .int (iI (z101 + 1))), (5, .int (iI 0)), (4, .int (iI (z103 + 1))), (7, .int (iI 0)), (6, .int (iI z176)), (0, .ref h), (1, .int (iI a1)), (3, .int (iI z102))]) X.1 X.2.1 d_M_nameRead_176 hl (k := 6) rfl ((iI_add _ _).trans (congrArg iI (by omega))) (by decide) rfl (fun ls hl => ?_)
                          refine lv_goto (tgt := 10) X.1 X.2.1 d_M_nameRead_179 (by decide) ?_
                          exact ih107 ((4000 - (z101 + 1)).toNat) (by omega) (z101 + 1) z102 (z103 + 1) 0 _ _ _ rfl (by omega) (by omega) (by omega) (by omega) (by omega) (by omega) (by omega) (by omega) (by omega) Y S (lv_sub hl [5, 6, 0, 7, 2, 1] rfl)
                      · refine lv_iload_n X.1 X.2.1 d_M_nameRead_129 rfl (lv_at hl 4 rfl) ?_
                        refine z_if_le (tgt := 151) X.1 X.2.1 d_M_nameRead_130 (by decide) ⟨by omega, by omega⟩ (fun h210 => ?_) (fun h210 => False.elim (by omega))
                        · refine lv_iconst (v := iI 0) X.1 X.2.1 d_M_nameRead_151 (by decide) ?_
                          refine lv_istore (lv' := [(5, .int (iI 0)), (7, .int (iI 0)), (6, .int (iI z176)), (0, .ref h), (1, .int (iI a1)), (2, .int (iI z101)), (3, .int (iI z102)), (4, .int (iI z103))]) X.1 X.2.1 d_M_nameRead_152 hl (by decide) rfl (fun ls hl => ?_)
                          refine lv_iinc (v := iI (z103 + 1)) (lv' := [(4, .int (iI (z103 + 1))), (5, .int (iI 0)), (7, .int (iI 0)), (6, .int (iI z176)), (0, .ref h), (1, .int (iI a1)), (2, .int (iI z101)), (3, .int (iI z102))]) X.1 X.2.1 d_M_nameRead_154 hl (k := 7) rfl ((iI_add _ _).trans (congrArg iI (by omega))) (by decide) rfl (fun ls hl => ?_)
                          refine lv_iload X.1 X.2.1 d_M_nameRead_157 (lv_at hl 1 rfl) ?_
                          refine z_if_eq (tgt := 173) X.1 X.2.1 d_M_nameRead_159 (by decide) ⟨by omega, by omega⟩ (fun h211 => ?_) (fun h211 => False.elim (by omega))
                          · refine lv_iconst (v := iI 0) X.1 X.2.1 d_M_nameRead_173 (by decide) ?_
                            refine lv_istore (lv' := [(5, .int (iI 0)), (4, .int (iI (z103 + 1))), (7, .int (iI 0)), (6, .int (iI z176)), (0, .ref h), (1, .int (iI a1)), (2, .int (iI z101)), (3, .int (iI z102))]) X.1 X.2.1 d_M_nameRead_174 hl (by decide) rfl (fun ls hl => ?_)
                            refine lv_iinc (v := iI (z101 + 1)) (lv' := [(2, .int (iI (z101 + 1))), (5, .int (iI 0)), (4, .int (iI (z103 + 1))), (7, .int (iI 0)), (6, .int (iI z176)), (0, .ref h), (1, .int (iI a1)), (3, .int (iI z102))]) X.1 X.2.1 d_M_nameRead_176 hl (k := 6) rfl ((iI_add _ _).trans (congrArg iI (by omega))) (by decide) rfl (fun ls hl => ?_)
                            refine lv_goto (tgt := 10) X.1 X.2.1 d_M_nameRead_179 (by decide) ?_
                            exact ih107 ((4000 - (z101 + 1)).toNat) (by omega) (z101 + 1) z102 (z103 + 1) 0 _ _ _ rfl (by omega) (by omega) (by omega) (by omega) (by omega) (by omega) (by omega) (by omega) (by omega) Y S (lv_sub hl [5, 6, 0, 7, 2, 1] rfl)
                    · refine lv_iload X.1 X.2.1 d_M_nameRead_105 (lv_at hl 6 rfl) ?_
                      refine z_if_le (tgt := 124) X.1 X.2.1 d_M_nameRead_107 (by decide) ⟨by omega, by omega⟩ (fun h212 => ?_) (fun h212 => ?_)
                      · refine lv_iload X.1 X.2.1 d_M_nameRead_124 (lv_at hl 6 rfl) ?_
                        refine z_if_ne (tgt := 151) X.1 X.2.1 d_M_nameRead_126 (by decide) ⟨by omega, by omega⟩ (fun h213 => False.elim (by omega)) (fun h213 => ?_)
                        · refine lv_iload_n X.1 X.2.1 d_M_nameRead_129 rfl (lv_at hl 4 rfl) ?_
                          refine z_if_le (tgt := 151) X.1 X.2.1 d_M_nameRead_130 (by decide) ⟨by omega, by omega⟩ (fun h214 => False.elim (by omega)) (fun h214 => ?_)
                          · refine lv_iload X.1 X.2.1 d_M_nameRead_133 (lv_at hl 1 rfl) ?_
                            refine lv_bipush (v := iI 48) X.1 X.2.1 d_M_nameRead_135 (by decide) ?_
                            refine z_icmp_lt (tgt := 151) X.1 X.2.1 d_M_nameRead_137 (by decide) ⟨by omega, by omega⟩ ⟨by omega, by omega⟩ (fun h215 => False.elim (by omega)) (fun h215 => ?_)
                            · refine lv_iload X.1 X.2.1 d_M_nameRead_140 (lv_at hl 1 rfl) ?_
                              refine lv_bipush (v := iI 57) X.1 X.2.1 d_M_nameRead_142 (by decide) ?_
                              refine z_icmp_gt (tgt := 151) X.1 X.2.1 d_M_nameRead_144 (by decide) ⟨by omega, by omega⟩ ⟨by omega, by omega⟩ (fun h216 => ?_) (fun h216 => False.elim (by omega))
                              · refine lv_iconst (v := iI 0) X.1 X.2.1 d_M_nameRead_151 (by decide) ?_
                                refine lv_istore (lv' := [(5, .int (iI 0)), (7, .int (iI 0)), (6, .int (iI z176)), (0, .ref h), (1, .int (iI a1)), (2, .int (iI z101)), (3, .int (iI z102)), (4, .int (iI z103))]) X.1 X.2.1 d_M_nameRead_152 hl (by decide) rfl (fun ls hl => ?_)
                                refine lv_iinc (v := iI (z103 + 1)) (lv' := [(4, .int (iI (z103 + 1))), (5, .int (iI 0)), (7, .int (iI 0)), (6, .int (iI z176)), (0, .ref h), (1, .int (iI a1)), (2, .int (iI z101)), (3, .int (iI z102))]) X.1 X.2.1 d_M_nameRead_154 hl (k := 7) rfl ((iI_add _ _).trans (congrArg iI (by omega))) (by decide) rfl (fun ls hl => ?_)
                                refine lv_iload X.1 X.2.1 d_M_nameRead_157 (lv_at hl 1 rfl) ?_
                                refine z_if_eq (tgt := 173) X.1 X.2.1 d_M_nameRead_159 (by decide) ⟨by omega, by omega⟩ (fun h217 => ?_) (fun h217 => False.elim (by omega))
                                · refine lv_iconst (v := iI 0) X.1 X.2.1 d_M_nameRead_173 (by decide) ?_
                                  refine lv_istore (lv' := [(5, .int (iI 0)), (4, .int (iI (z103 + 1))), (7, .int (iI 0)), (6, .int (iI z176)), (0, .ref h), (1, .int (iI a1)), (2, .int (iI z101)), (3, .int (iI z102))]) X.1 X.2.1 d_M_nameRead_174 hl (by decide) rfl (fun ls hl => ?_)
                                  refine lv_iinc (v := iI (z101 + 1)) (lv' := [(2, .int (iI (z101 + 1))), (5, .int (iI 0)), (4, .int (iI (z103 + 1))), (7, .int (iI 0)), (6, .int (iI z176)), (0, .ref h), (1, .int (iI a1)), (3, .int (iI z102))]) X.1 X.2.1 d_M_nameRead_176 hl (k := 6) rfl ((iI_add _ _).trans (congrArg iI (by omega))) (by decide) rfl (fun ls hl => ?_)
                                  refine lv_goto (tgt := 10) X.1 X.2.1 d_M_nameRead_179 (by decide) ?_
                                  exact ih107 ((4000 - (z101 + 1)).toNat) (by omega) (z101 + 1) z102 (z103 + 1) 0 _ _ _ rfl (by omega) (by omega) (by omega) (by omega) (by omega) (by omega) (by omega) (by omega) (by omega) Y S (lv_sub hl [5, 6, 0, 7, 2, 1] rfl)
                      · refine lv_iload X.1 X.2.1 d_M_nameRead_110 (lv_at hl 1 rfl) ?_
                        refine lv_bipush (v := iI 48) X.1 X.2.1 d_M_nameRead_112 (by decide) ?_
                        refine z_icmp_lt (tgt := 124) X.1 X.2.1 d_M_nameRead_114 (by decide) ⟨by omega, by omega⟩ ⟨by omega, by omega⟩ (fun h218 => False.elim (by omega)) (fun h218 => ?_)
                        · refine lv_iload X.1 X.2.1 d_M_nameRead_117 (lv_at hl 1 rfl) ?_
                          refine lv_bipush (v := iI 57) X.1 X.2.1 d_M_nameRead_119 (by decide) ?_
                          refine z_icmp_le (tgt := 147) X.1 X.2.1 d_M_nameRead_121 (by decide) ⟨by omega, by omega⟩ ⟨by omega, by omega⟩ (fun h219 => False.elim (by omega)) (fun h219 => ?_)
                          · refine lv_iload X.1 X.2.1 d_M_nameRead_124 (lv_at hl 6 rfl) ?_
                            refine z_if_ne (tgt := 151) X.1 X.2.1 d_M_nameRead_126 (by decide) ⟨by omega, by omega⟩ (fun h220 => ?_) (fun h220 => False.elim (by omega))
                            · refine lv_iconst (v := iI 0) X.1 X.2.1 d_M_nameRead_151 (by decide) ?_
                              refine lv_istore (lv' := [(5, .int (iI 0)), (7, .int (iI 0)), (6, .int (iI z176)), (0, .ref h), (1, .int (iI a1)), (2, .int (iI z101)), (3, .int (iI z102)), (4, .int (iI z103))]) X.1 X.2.1 d_M_nameRead_152 hl (by decide) rfl (fun ls hl => ?_)
                              refine lv_iinc (v := iI (z103 + 1)) (lv' := [(4, .int (iI (z103 + 1))), (5, .int (iI 0)), (7, .int (iI 0)), (6, .int (iI z176)), (0, .ref h), (1, .int (iI a1)), (2, .int (iI z101)), (3, .int (iI z102))]) X.1 X.2.1 d_M_nameRead_154 hl (k := 7) rfl ((iI_add _ _).trans (congrArg iI (by omega))) (by decide) rfl (fun ls hl => ?_)
                              refine lv_iload X.1 X.2.1 d_M_nameRead_157 (lv_at hl 1 rfl) ?_
                              refine z_if_eq (tgt := 173) X.1 X.2.1 d_M_nameRead_159 (by decide) ⟨by omega, by omega⟩ (fun h221 => ?_) (fun h221 => False.elim (by omega))
                              · refine lv_iconst (v := iI 0) X.1 X.2.1 d_M_nameRead_173 (by decide) ?_
                                refine lv_istore (lv' := [(5, .int (iI 0)), (4, .int (iI (z103 + 1))), (7, .int (iI 0)), (6, .int (iI z176)), (0, .ref h), (1, .int (iI a1)), (2, .int (iI z101)), (3, .int (iI z102))]) X.1 X.2.1 d_M_nameRead_174 hl (by decide) rfl (fun ls hl => ?_)
                                refine lv_iinc (v := iI (z101 + 1)) (lv' := [(2, .int (iI (z101 + 1))), (5, .int (iI 0)), (4, .int (iI (z103 + 1))), (7, .int (iI 0)), (6, .int (iI z176)), (0, .ref h), (1, .int (iI a1)), (3, .int (iI z102))]) X.1 X.2.1 d_M_nameRead_176 hl (k := 6) rfl ((iI_add _ _).trans (congrArg iI (by omega))) (by decide) rfl (fun ls hl => ?_)
                                refine lv_goto (tgt := 10) X.1 X.2.1 d_M_nameRead_179 (by decide) ?_
                                exact ih107 ((4000 - (z101 + 1)).toNat) (by omega) (z101 + 1) z102 (z103 + 1) 0 _ _ _ rfl (by omega) (by omega) (by omega) (by omega) (by omega) (by omega) (by omega) (by omega) (by omega) Y S (lv_sub hl [5, 6, 0, 7, 2, 1] rfl)
              · refine lv_iconst (v := iI 1) X.1 X.2.1 d_M_nameRead_56 (by decide) ?_
                refine lv_goto (tgt := 61) X.1 X.2.1 d_M_nameRead_57 (by decide) ?_
                refine lv_istore (lv' := [(7, .int (iI 1)), (6, .int (iI z176)), (0, .ref h), (1, .int (iI a1)), (2, .int (iI z101)), (3, .int (iI z102)), (4, .int (iI z103)), (5, .int (iI z104))]) X.1 X.2.1 d_M_nameRead_61 hl (by decide) rfl (fun ls hl => ?_)
                refine lv_iload X.1 X.2.1 d_M_nameRead_63 (lv_at hl 1 rfl) ?_
                refine lv_bipush (v := iI 47) X.1 X.2.1 d_M_nameRead_65 (by decide) ?_
                refine z_icmp_ne (tgt := 96) X.1 X.2.1 d_M_nameRead_67 (by decide) ⟨by omega, by omega⟩ ⟨by omega, by omega⟩ (fun h222 => ?_) (fun h222 => False.elim (by omega))
                · refine lv_iload X.1 X.2.1 d_M_nameRead_96 (lv_at hl 0 rfl) ?_
                  refine z_if_ne (tgt := 147) X.1 X.2.1 d_M_nameRead_98 (by decide) ⟨by omega, by omega⟩ (fun h223 => ?_) (fun h223 => False.elim (by omega))
                  · refine lv_iconst (v := iI 1) X.1 X.2.1 d_M_nameRead_147 (by decide) ?_
                    refine lv_goto (tgt := 152) X.1 X.2.1 d_M_nameRead_148 (by decide) ?_
                    refine lv_istore (lv' := [(5, .int (iI 1)), (7, .int (iI 1)), (6, .int (iI z176)), (0, .ref h), (1, .int (iI a1)), (2, .int (iI z101)), (3, .int (iI z102)), (4, .int (iI z103))]) X.1 X.2.1 d_M_nameRead_152 hl (by decide) rfl (fun ls hl => ?_)
                    refine lv_iinc (v := iI (z103 + 1)) (lv' := [(4, .int (iI (z103 + 1))), (5, .int (iI 1)), (7, .int (iI 1)), (6, .int (iI z176)), (0, .ref h), (1, .int (iI a1)), (2, .int (iI z101)), (3, .int (iI z102))]) X.1 X.2.1 d_M_nameRead_154 hl (k := 7) rfl ((iI_add _ _).trans (congrArg iI (by omega))) (by decide) rfl (fun ls hl => ?_)
                    refine lv_iload X.1 X.2.1 d_M_nameRead_157 (lv_at hl 1 rfl) ?_
                    refine z_if_eq (tgt := 173) X.1 X.2.1 d_M_nameRead_159 (by decide) ⟨by omega, by omega⟩ (fun h224 => False.elim (by omega)) (fun h224 => ?_)
                    · refine lv_iload X.1 X.2.1 d_M_nameRead_162 (lv_at hl 0 rfl) ?_
                      refine lv_bipush (v := iI 16) X.1 X.2.1 d_M_nameRead_164 (by decide) ?_
                      refine z_icmp_gt (tgt := 173) X.1 X.2.1 d_M_nameRead_166 (by decide) ⟨by omega, by omega⟩ ⟨by omega, by omega⟩ (fun h225 => ?_) (fun h225 => ?_)
                      · refine lv_iconst (v := iI 0) X.1 X.2.1 d_M_nameRead_173 (by decide) ?_
                        refine lv_istore (lv' := [(5, .int (iI 0)), (4, .int (iI (z103 + 1))), (7, .int (iI 1)), (6, .int (iI z176)), (0, .ref h), (1, .int (iI a1)), (2, .int (iI z101)), (3, .int (iI z102))]) X.1 X.2.1 d_M_nameRead_174 hl (by decide) rfl (fun ls hl => ?_)
                        refine lv_iinc (v := iI (z101 + 1)) (lv' := [(2, .int (iI (z101 + 1))), (5, .int (iI 0)), (4, .int (iI (z103 + 1))), (7, .int (iI 1)), (6, .int (iI z176)), (0, .ref h), (1, .int (iI a1)), (3, .int (iI z102))]) X.1 X.2.1 d_M_nameRead_176 hl (k := 6) rfl ((iI_add _ _).trans (congrArg iI (by omega))) (by decide) rfl (fun ls hl => ?_)
                        refine lv_goto (tgt := 10) X.1 X.2.1 d_M_nameRead_179 (by decide) ?_
                        exact ih107 ((4000 - (z101 + 1)).toNat) (by omega) (z101 + 1) z102 (z103 + 1) 0 _ _ _ rfl (by omega) (by omega) (by omega) (by omega) (by omega) (by omega) (by omega) (by omega) (by omega) Y S (lv_sub hl [5, 6, 0, 7, 2, 1] rfl)
                      · refine lv_iconst (v := iI 1) X.1 X.2.1 d_M_nameRead_169 (by decide) ?_
                        refine lv_goto (tgt := 174) X.1 X.2.1 d_M_nameRead_170 (by decide) ?_
                        refine lv_istore (lv' := [(5, .int (iI 1)), (4, .int (iI (z103 + 1))), (7, .int (iI 1)), (6, .int (iI z176)), (0, .ref h), (1, .int (iI a1)), (2, .int (iI z101)), (3, .int (iI z102))]) X.1 X.2.1 d_M_nameRead_174 hl (by decide) rfl (fun ls hl => ?_)
                        refine lv_iinc (v := iI (z101 + 1)) (lv' := [(2, .int (iI (z101 + 1))), (5, .int (iI 1)), (4, .int (iI (z103 + 1))), (7, .int (iI 1)), (6, .int (iI z176)), (0, .ref h), (1, .int (iI a1)), (3, .int (iI z102))]) X.1 X.2.1 d_M_nameRead_176 hl (k := 6) rfl ((iI_add _ _).trans (congrArg iI (by omega))) (by decide) rfl (fun ls hl => ?_)
                        refine lv_goto (tgt := 10) X.1 X.2.1 d_M_nameRead_179 (by decide) ?_
                        exact ih107 ((4000 - (z101 + 1)).toNat) (by omega) (z101 + 1) z102 (z103 + 1) 1 _ _ _ rfl (by omega) (by omega) (by omega) (by omega) (by omega) (by omega) (by omega) (by omega) (by omega) Y S (lv_sub hl [5, 6, 0, 7, 2, 1] rfl)
  refine lv_istore (lv' := [(5, .int (iI 1)), (4, .int (iI 0)), (3, .int (iI 1)), (2, .int (iI 0)), (0, .ref h), (1, .int (iI a1))]) X.1 X.2.1 d_M_nameRead_8 hl (by decide) rfl (fun ls hl => ?_)
  exact J106 _ 0 1 0 1 _ _ _ rfl (by omega) (by omega) (by omega) (by omega) (by omega) (by omega) (by omega) (by omega) (by omega) Y S (lv_sub hl [4, 5, 3, 2, 1, 0] rfl)
set_option maxHeartbeats 4000000 in
set_option maxRecDepth 100000 in
theorem r_M_passwordRead (l : Launch) (D : mD) (E : mE) (h : Nat) (q : Nat → Nat) (sz : Nat) (I : Nat → Int32) (J : Nat → Int64) (B : Nat → Nat → Int32) (G : Nat → Nat → Int64) (a1 : Int) (l_a1 : 0 ≤ a1) (u_a1 : a1 ≤ 4001) (a2 : Int) (l_a2 : 0 ≤ a2) (u_a2 : a2 ≤ 4000) (hT : rT I B) (q0 : a1 ≤ a2) : Met l y_M_passwordRead (k_M_passwordRead :: lw_tg) (mR 1 60) (va_Pc [.ref h, .int (iI a1), .int (iI a2)] (mPre D E h q (I, J, B, G) sz)) (va_Qi (rPi [30] [25] I B (fun (z : Int) (u : mS) => 0 ≤ z ∧ z ≤ 1 ∧ (∃ V2 : Int, u.1 30 = iI V2 ∧ (z = 0 ∨ 0 ≤ V2 ∧ V2 ≤ 20) ∧ (-2147483648) ≤ V2 ∧ V2 ≤ 2147483647))) (mPost D E h q (mA E h q sz)) (mA E h q sz)) 0 0 (mA E h q sz) := by
  refine m_enter (by decide) rfl (Nat.le_of_ble_eq_true rfl) (fun p e s m below meth c ls AV QQ H locs hQQ X Y hZ hA hr hlk hml hl => ?_)
  have Y : mH D E (mA E h q sz) s.heap h q I J B G H locs := Y
  have S : rS [30] [25] I B I B := rS_rf hT
  have hl : lv_has ls 4 [(0, .ref h), (1, .int (iI a1)), (2, .int (iI a2))] := hl
  refine lv_aload_n X.1 X.2.1 d_M_passwordRead_0 rfl (lv_at hl 0 rfl) ?_
  refine lv_iload_n X.1 X.2.1 d_M_passwordRead_1 rfl (lv_at hl 2 rfl) ?_
  refine lv_iload_n X.1 X.2.1 d_M_passwordRead_2 rfl (lv_at hl 1 rfl) ?_
  refine z_isub X.1 X.2.1 d_M_passwordRead_3 ?_
  refine r_puti (k := 30) X Y S (by decide) lk_passwordMany rfl rfl (t_M_ok 30 (by decide)) rfl rfl (sf_passwordMany _ _ _ _) (Nat.le_of_ble_eq_true rfl) rfl (show ((-2147483648) : Int) ≤ a2 - a1 by omega) (show a2 - a1 ≤ (2147483647 : Int) by omega) ⟨by omega, by omega⟩ (by decide) d_M_passwordRead_4 (fun I101 H locs Y S w101 => ?_)
  refine lv_aload_n X.1 X.2.1 d_M_passwordRead_7 rfl (lv_at hl 0 rfl) ?_
  refine r_get0 X Y (by decide) lk_passwordMany (gf_passwordMany _ _ _) rfl w101.1 d_M_passwordRead_8 ?_
  refine lv_bipush (v := iI 20) X.1 X.2.1 d_M_passwordRead_11 (by decide) ?_
  refine z_icmp_le (tgt := 18) X.1 X.2.1 d_M_passwordRead_13 (by decide) ⟨by omega, by omega⟩ ⟨by omega, by omega⟩ (fun h102 => ?_) (fun h102 => ?_)
  · refine lv_iload_n X.1 X.2.1 d_M_passwordRead_18 rfl (lv_at hl 1 rfl) ?_
    have J107 : ∀ (n109 : Nat) (z104 : Int) (I103 : Nat → Int32) (J103 : Nat → Int64) (B103 : Nat → Nat → Int32) (G103 : Nat → Nat → Int64) (H : Heap) (locs : List Loc) (ls : Array Slot), (4001 - z104).toNat = n109 → (0 ≤ z104) → (z104 ≤ 4001) → (I103 30 = iI (a2 - a1)) → (a1 ≤ z104) → mH D E (mA E h q sz) s.heap h q I103 J103 B103 G103 H locs → rS [30] [25] I B I103 B103 → lv_has ls 4 [(0, .ref h), (1, .int (iI a1)), (2, .int (iI a2)), (3, .int (iI z104))] → W p l e (mR 1 60) s m AV below meth c H locs 0 0 QQ (F0 m 20 ls []) := by
      intro n109
      induction n109 using Nat.strongRecOn with
      | ind n109 ih108 =>
        intro z104 I103 J103 B103 G103 H locs ls hm110 l104 u104 e105 i106 Y S hl
        refine lv_iload_n X.1 X.2.1 d_M_passwordRead_20 rfl (lv_at hl 3 rfl) ?_
        refine lv_iload_n X.1 X.2.1 d_M_passwordRead_21 rfl (lv_at hl 2 rfl) ?_
        refine z_icmp_ge (tgt := 69) X.1 X.2.1 d_M_passwordRead_22 (by decide) ⟨by omega, by omega⟩ ⟨by omega, by omega⟩ (fun h111 => ?_) (fun h111 => ?_)
        · refine lv_iconst (v := iI 1) X.1 X.2.1 d_M_passwordRead_69 (by decide) ?_
          exact m_retz hQQ X Y hr hlk (iI_bool (by omega) (by omega)).1 ⟨S, 1, rfl, ⟨by omega, by omega, ⟨a2 - a1, e105, by omega, by omega, by omega⟩⟩⟩ d_M_passwordRead_70
        · refine lv_aload_n X.1 X.2.1 d_M_passwordRead_25 rfl (lv_at hl 0 rfl) ?_
          refine m_get X Y 0 (by decide) lk_mem (gf_mem _ _ _) rfl d_M_passwordRead_26 ?_
          refine lv_iload_n X.1 X.2.1 d_M_passwordRead_29 rfl (lv_at hl 3 rfl) ?_
          refine r_bald X Y S (aw_mem _ _ _ _ _ _ _) rfl (by omega) (show z104 < ((60000 : Nat) : Int) by omega) (by omega) d_M_passwordRead_30 (fun z112 q112 l112 u112 => ?_)
          refine lv_bipush (v := iI 32) X.1 X.2.1 d_M_passwordRead_31 (by decide) ?_
          refine z_icmp_lt (tgt := 47) X.1 X.2.1 d_M_passwordRead_33 (by decide) ⟨by omega, by omega⟩ ⟨by omega, by omega⟩ (fun h113 => ?_) (fun h113 => ?_)
          · refine lv_iconst (v := iI 0) X.1 X.2.1 d_M_passwordRead_47 (by decide) ?_
            exact m_retz hQQ X Y hr hlk (iI_bool (by omega) (by omega)).1 ⟨S, 0, rfl, ⟨by omega, by omega, ⟨a2 - a1, e105, by omega, by omega, by omega⟩⟩⟩ d_M_passwordRead_48
          · refine lv_aload_n X.1 X.2.1 d_M_passwordRead_36 rfl (lv_at hl 0 rfl) ?_
            refine m_get X Y 0 (by decide) lk_mem (gf_mem _ _ _) rfl d_M_passwordRead_37 ?_
            refine lv_iload_n X.1 X.2.1 d_M_passwordRead_40 rfl (lv_at hl 3 rfl) ?_
            refine r_bald X Y S (aw_mem _ _ _ _ _ _ _) rfl (by omega) (show z104 < ((60000 : Nat) : Int) by omega) (by omega) d_M_passwordRead_41 (fun z114 q114 l114 u114 => ?_)
            refine lv_bipush (v := iI 126) X.1 X.2.1 d_M_passwordRead_42 (by decide) ?_
            refine z_icmp_le (tgt := 49) X.1 X.2.1 d_M_passwordRead_44 (by decide) ⟨by omega, by omega⟩ ⟨by omega, by omega⟩ (fun h115 => ?_) (fun h115 => ?_)
            · refine lv_aload_n X.1 X.2.1 d_M_passwordRead_49 rfl (lv_at hl 0 rfl) ?_
              refine m_get X Y 25 (by decide) lk_password (gf_password _ _ _) rfl d_M_passwordRead_50 ?_
              refine lv_iload_n X.1 X.2.1 d_M_passwordRead_53 rfl (lv_at hl 3 rfl) ?_
              refine lv_iload_n X.1 X.2.1 d_M_passwordRead_54 rfl (lv_at hl 1 rfl) ?_
              refine z_isub X.1 X.2.1 d_M_passwordRead_55 ?_
              refine lv_aload_n X.1 X.2.1 d_M_passwordRead_56 rfl (lv_at hl 0 rfl) ?_
              refine m_get X Y 0 (by decide) lk_mem (gf_mem _ _ _) rfl d_M_passwordRead_57 ?_
              refine lv_iload_n X.1 X.2.1 d_M_passwordRead_60 rfl (lv_at hl 3 rfl) ?_
              refine r_bald X Y S (aw_mem _ _ _ _ _ _ _) rfl (by omega) (show z104 < ((60000 : Nat) : Int) by omega) (by omega) d_M_passwordRead_61 (fun z116 q116 l116 u116 => ?_)
              refine r_bast X Y S (aw_password _ _ _ _ _ _ _) (sw_password _ _ _ _ _ _ _) rfl (by omega) (show z104 - a1 < ((30 : Nat) : Int) by omega) (by omega) (by decide) d_M_passwordRead_62 (fun B117 H locs Y S w117 => ?_)
              refine lv_iinc (v := iI (z104 + 1)) (lv' := [(3, .int (iI (z104 + 1))), (0, .ref h), (1, .int (iI a1)), (2, .int (iI a2))]) X.1 X.2.1 d_M_passwordRead_63 hl (k := 3) rfl ((iI_add _ _).trans (congrArg iI (by omega))) (by decide) rfl (fun ls hl => ?_)
              refine lv_goto (tgt := 20) X.1 X.2.1 d_M_passwordRead_66 (by decide) ?_
              exact ih108 ((4001 - (z104 + 1)).toNat) (by omega) (z104 + 1) I103 J103 B117 G103 _ _ _ rfl (by omega) (by omega) e105 (by omega) Y S (lv_sub hl [1, 2, 3, 0] rfl)
            · refine lv_iconst (v := iI 0) X.1 X.2.1 d_M_passwordRead_47 (by decide) ?_
              exact m_retz hQQ X Y hr hlk (iI_bool (by omega) (by omega)).1 ⟨S, 0, rfl, ⟨by omega, by omega, ⟨a2 - a1, e105, by omega, by omega, by omega⟩⟩⟩ d_M_passwordRead_48
    refine lv_istore_n (lv' := [(3, .int (iI a1)), (0, .ref h), (1, .int (iI a1)), (2, .int (iI a2))]) X.1 X.2.1 d_M_passwordRead_19 rfl hl (by decide) rfl (fun ls hl => ?_)
    exact J107 _ a1 I101 J B G _ _ _ rfl (by omega) (by omega) w101.1 (by omega) Y S (lv_sub hl [1, 2, 3, 0] rfl)
  · refine lv_iconst (v := iI 0) X.1 X.2.1 d_M_passwordRead_16 (by decide) ?_
    exact m_retz hQQ X Y hr hlk (iI_bool (by omega) (by omega)).1 ⟨S, 0, rfl, ⟨by omega, by omega, ⟨a2 - a1, w101.1, by omega, by omega, by omega⟩⟩⟩ d_M_passwordRead_17
set_option maxHeartbeats 4000000 in
set_option maxRecDepth 100000 in
theorem r_M_bothRead (l : Launch) (D : mD) (E : mE) (h : Nat) (q : Nat → Nat) (sz : Nat) (I : Nat → Int32) (J : Nat → Int64) (B : Nat → Nat → Int32) (G : Nat → Nat → Int64) (a1 : Int) (l_a1 : 0 ≤ a1) (u_a1 : a1 ≤ 1) (hT : rT I B) : Met l y_M_bothRead (k_M_bothRead :: lw_tg) (mR 6 141) (va_Pc [.ref h, .int (iI a1)] (mPre D E h q (I, J, B, G) sz)) (va_Qi (rPi [30, 54, 55] [25, 53] I B (fun (z : Int) (u : mS) => 0 ≤ z ∧ z ≤ 1 ∧ ((∃ V2 : Int, u.1 54 = iI V2 ∧ (z = 0 ∨ V2 ≤ 33) ∧ 0 ≤ V2 ∧ V2 ≤ 40) ∧ (∃ V2 : Int, u.1 30 = iI V2 ∧ (z = 0 ∨ 0 ≤ V2 ∧ V2 ≤ 20) ∧ (-2147483648) ≤ V2 ∧ V2 ≤ 2147483647)))) (mPost D E h q (mA E h q sz)) (mA E h q sz)) 0 0 (mA E h q sz) := by
  refine m_enter (by decide) rfl (Nat.le_of_ble_eq_true rfl) (fun p e s m below meth c ls AV QQ H locs hQQ X Y hZ hA hr hlk hml hl => ?_)
  have Y : mH D E (mA E h q sz) s.heap h q I J B G H locs := Y
  have S : rS [30, 54, 55] [25, 53] I B I B := rS_rf hT
  have hl : lv_has ls 2 [(0, .ref h), (1, .int (iI a1))] := hl
  refine lv_aload_n X.1 X.2.1 d_M_bothRead_0 rfl (lv_at hl 0 rfl) ?_
  refine lv_iload_n X.1 X.2.1 d_M_bothRead_1 rfl (lv_at hl 1 rfl) ?_
  refine r_ni (m_run (As := [.int (iI a1)]) (rest := []) (n := 1) X Y hZ hA hml hl.1 (r_M_nameRead l D E h q H.size I J B G a1 (by omega) (by omega) S.1) kl_M_nameRead ks_M_nameRead kx_M_nameRead ki_M_nameRead ini_M hd_M_nameRead ⟨Nat.le_of_ble_eq_true rfl, Nat.le_of_ble_eq_true rfl⟩ rfl (Nat.le_of_ble_eq_true rfl) d_M_bothRead_2 ⟨Nat.le_refl _, Nat.le_refl _⟩) X Y hA S (by decide) (by decide) (fun z101 u H locs Y S s101 p101 => ?_)
  obtain ⟨I101, J101, B101, G101⟩ := u
  dsimp only at Y S s101 p101
  obtain ⟨l101, u101, x101⟩ := p101
  obtain ⟨z102, e102, x102, y102, y2102⟩ := x101
  refine z_if_eq (tgt := 33) X.1 X.2.1 d_M_bothRead_5 (by decide) ⟨by omega, by omega⟩ (fun h103 => ?_) (fun h103 => ?_)
  · refine lv_iconst (v := iI 0) X.1 X.2.1 d_M_bothRead_33 (by decide) ?_
    obtain ⟨z104, e104, l104, u104⟩ := r_rng (k := 30) (lo := (-2147483648)) (hi := 2147483647) S rfl
    exact m_retz hQQ X Y hr hlk (iI_bool (by omega) (by omega)).1 ⟨S, 0, rfl, ⟨by omega, by omega, ⟨⟨z102, e102, by omega, by omega, by omega⟩, ⟨z104, e104, by omega, by omega, by omega⟩⟩⟩⟩ d_M_bothRead_34
  · refine lv_aload_n X.1 X.2.1 d_M_bothRead_8 rfl (lv_at hl 0 rfl) ?_
    refine r_geti (k := 55) X Y S (by decide) lk_colon (gf_colon _ _ _) rfl rfl d_M_bothRead_9 (fun z105 e105 l105 u105 => ?_)
    refine lv_aload_n X.1 X.2.1 d_M_bothRead_12 rfl (lv_at hl 0 rfl) ?_
    refine r_geti (k := 2) X Y S (by decide) lk_length (gf_length _ _ _) rfl rfl d_M_bothRead_13 (fun z106 e106 l106 u106 => ?_)
    refine z_icmp_ge (tgt := 33) X.1 X.2.1 d_M_bothRead_16 (by decide) ⟨by omega, by omega⟩ ⟨by omega, by omega⟩ (fun h107 => ?_) (fun h107 => ?_)
    · refine lv_iconst (v := iI 0) X.1 X.2.1 d_M_bothRead_33 (by decide) ?_
      obtain ⟨z108, e108, l108, u108⟩ := r_rng (k := 30) (lo := (-2147483648)) (hi := 2147483647) S rfl
      exact m_retz hQQ X Y hr hlk (iI_bool (by omega) (by omega)).1 ⟨S, 0, rfl, ⟨by omega, by omega, ⟨⟨z102, e102, by omega, by omega, by omega⟩, ⟨z108, e108, by omega, by omega, by omega⟩⟩⟩⟩ d_M_bothRead_34
    · refine lv_aload_n X.1 X.2.1 d_M_bothRead_19 rfl (lv_at hl 0 rfl) ?_
      refine m_get X Y 0 (by decide) lk_mem (gf_mem _ _ _) rfl d_M_bothRead_20 ?_
      refine lv_aload_n X.1 X.2.1 d_M_bothRead_23 rfl (lv_at hl 0 rfl) ?_
      refine r_get0 X Y (by decide) lk_colon (gf_colon _ _ _) rfl e105 d_M_bothRead_24 ?_
      refine r_bald X Y S (aw_mem _ _ _ _ _ _ _) rfl (by omega) (show z105 < ((60000 : Nat) : Int) by omega) (by omega) d_M_bothRead_27 (fun z109 q109 l109 u109 => ?_)
      refine lv_bipush (v := iI 58) X.1 X.2.1 d_M_bothRead_28 (by decide) ?_
      refine z_icmp_eq (tgt := 35) X.1 X.2.1 d_M_bothRead_30 (by decide) ⟨by omega, by omega⟩ ⟨by omega, by omega⟩ (fun h110 => ?_) (fun h110 => ?_)
      · refine lv_aload_n X.1 X.2.1 d_M_bothRead_35 rfl (lv_at hl 0 rfl) ?_
        refine lv_aload_n X.1 X.2.1 d_M_bothRead_36 rfl (lv_at hl 0 rfl) ?_
        refine r_get0 X Y (by decide) lk_length (gf_length _ _ _) rfl e106 d_M_bothRead_37 ?_
        refine lv_aload_n X.1 X.2.1 d_M_bothRead_40 rfl (lv_at hl 0 rfl) ?_
        refine r_get0 X Y (by decide) lk_colon (gf_colon _ _ _) rfl e105 d_M_bothRead_41 ?_
        refine z_isub X.1 X.2.1 d_M_bothRead_44 ?_
        refine lv_iconst (v := iI 1) X.1 X.2.1 d_M_bothRead_45 (by decide) ?_
        refine z_isub X.1 X.2.1 d_M_bothRead_46 ?_
        refine r_puti (k := 30) X Y S (by decide) lk_passwordMany rfl rfl (t_M_ok 30 (by decide)) rfl rfl (sf_passwordMany _ _ _ _) (Nat.le_of_ble_eq_true rfl) rfl (show ((-2147483648) : Int) ≤ (z106 - z105) - 1 by omega) (show (z106 - z105) - 1 ≤ (2147483647 : Int) by omega) ⟨by omega, by omega⟩ (by decide) d_M_bothRead_47 (fun I111 H locs Y S w111 => ?_)
        refine lv_aload_n X.1 X.2.1 d_M_bothRead_50 rfl (lv_at hl 0 rfl) ?_
        refine lv_aload_n X.1 X.2.1 d_M_bothRead_51 rfl (lv_at hl 0 rfl) ?_
        refine r_get0 X Y (by decide) lk_colon (gf_colon _ _ _) rfl ((w111.2 55 (by decide)).trans e105) d_M_bothRead_52 ?_
        refine lv_iconst (v := iI 1) X.1 X.2.1 d_M_bothRead_55 (by decide) ?_
        refine z_iadd X.1 X.2.1 d_M_bothRead_56 ?_
        refine lv_aload_n X.1 X.2.1 d_M_bothRead_57 rfl (lv_at hl 0 rfl) ?_
        refine r_get0 X Y (by decide) lk_length (gf_length _ _ _) rfl ((w111.2 2 (by decide)).trans e106) d_M_bothRead_58 ?_
        refine r_ni (m_run (As := [.int (iI (z105 + 1)), .int (iI z106)]) (rest := []) (n := 2) X Y hZ hA hml hl.1 (r_M_passwordRead l D E h q H.size I111 J101 B101 G101 (z105 + 1) (by omega) (by omega) z106 (by omega) (by omega) S.1 (by omega)) kl_M_passwordRead ks_M_passwordRead kx_M_passwordRead ki_M_passwordRead ini_M hd_M_passwordRead ⟨Nat.le_of_ble_eq_true rfl, Nat.le_of_ble_eq_true rfl⟩ rfl (Nat.le_of_ble_eq_true rfl) d_M_bothRead_61 ⟨Nat.le_refl _, Nat.le_refl _⟩) X Y hA S (by decide) (by decide) (fun z112 u H locs Y S s112 p112 => ?_)
        obtain ⟨I112, J112, B112, G112⟩ := u
        dsimp only at Y S s112 p112
        obtain ⟨l112, u112, x112⟩ := p112
        obtain ⟨z113, e113, x113, y113, y2113⟩ := x112
        exact m_retz hQQ X Y hr hlk (iI_bool (by omega) (by omega)).1 ⟨S, z112, rfl, ⟨by omega, by omega, ⟨⟨z102, ((s112.2.1 54 (by decide)).trans ((w111.2 54 (by decide)).trans e102)), by omega, by omega, by omega⟩, ⟨z113, e113, by omega, by omega, by omega⟩⟩⟩⟩ d_M_bothRead_64
      · refine lv_iconst (v := iI 0) X.1 X.2.1 d_M_bothRead_33 (by decide) ?_
        obtain ⟨z114, e114, l114, u114⟩ := r_rng (k := 30) (lo := (-2147483648)) (hi := 2147483647) S rfl
        exact m_retz hQQ X Y hr hlk (iI_bool (by omega) (by omega)).1 ⟨S, 0, rfl, ⟨by omega, by omega, ⟨⟨z102, e102, by omega, by omega, by omega⟩, ⟨z114, e114, by omega, by omega, by omega⟩⟩⟩⟩ d_M_bothRead_34
