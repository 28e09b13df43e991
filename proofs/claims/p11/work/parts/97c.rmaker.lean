set_option maxHeartbeats 4000000 in
set_option maxRecDepth 100000 in
theorem r_M_word (l : Launch) (D : mD) (E : mE) (h : Nat) (q : Nat → Nat) (sz : Nat) (I : Nat → Int32) (J : Nat → Int64) (B : Nat → Nat → Int32) (G : Nat → Nat → Int64) (a1 : Int) (l_a1 : 0 ≤ a1) (u_a1 : a1 ≤ 0) (a2 : Nat) (k2 : a2 < nZ) (hT : rT I B) : Met l y_M_word (k_M_word :: lw_tg) (mR 4 90) (va_Pc [.ref h, .int (iI a1), .ref (D.2.1 a2)] (mPre D E h q (I, J, B, G) sz)) (va_Qv (rPv [] [0] I B (fun (u : mS) => True)) (mPost D E h q (mA E h q sz)) (mA E h q sz)) 0 0 (mA E h q sz) := by
  refine m_enter (by decide) rfl (Nat.le_of_ble_eq_true rfl) (fun p e s m below meth c ls AV QQ H locs hQQ X Y hZ hA hr hlk hml hl => ?_)
  have Y : mH D E (mA E h q sz) s.heap h q I J B G H locs := Y
  have S : rS [] [0] I B I B := rS_rf hT
  have hl : lv_has ls 4 [(0, .ref h), (1, .int (iI a1)), (2, .ref ((D.2.1 a2)))] := hl
  refine lv_iconst (v := iI 0) X.1 X.2.1 d_M_word_0 (by decide) ?_
  have J103 : ∀ (n105 : Nat) (z102 : Int) (I101 : Nat → Int32) (J101 : Nat → Int64) (B101 : Nat → Nat → Int32) (G101 : Nat → Nat → Int64) (H : Heap) (locs : List Loc) (ls : Array Slot), (64 - z102).toNat = n105 → (0 ≤ z102) → (z102 ≤ 64) → mH D E (mA E h q sz) s.heap h q I101 J101 B101 G101 H locs → rS [] [0] I B I101 B101 → lv_has ls 4 [(0, .ref h), (1, .int (iI a1)), (2, .ref ((D.2.1 a2))), (3, .int (iI z102))] → W p l e (mR 4 90) s m AV below meth c H locs 0 0 QQ (F0 m 2 ls []) := by
    intro n105
    induction n105 using Nat.strongRecOn with
    | ind n105 ih104 =>
      intro z102 I101 J101 B101 G101 H locs ls hm106 l102 u102 Y S hl
      refine lv_iload_n X.1 X.2.1 d_M_word_2 rfl (lv_at hl 3 rfl) ?_
      refine lv_aload_n X.1 X.2.1 d_M_word_3 rfl (lv_at hl 2 rfl) ?_
      refine r_length (i := a2) X Y hZ k2 hml hl.1 ⟨Nat.le_of_ble_eq_true rfl, Nat.le_of_ble_eq_true rfl⟩ (Nat.le_of_ble_eq_true rfl) d_M_word_4 ⟨Nat.le_refl _, Nat.le_refl _⟩ (fun H locs Y => ?_)
      have y107 := zn_64 a2 k2
      refine z_icmp_ge (tgt := 30) X.1 X.2.1 d_M_word_7 (by decide) ⟨by omega, by omega⟩ ⟨by omega, by omega⟩ (fun h108 => ?_) (fun h108 => ?_)
      · exact m_retv hQQ X Y hr hlk ⟨S, trivial⟩ d_M_word_30
      · refine lv_aload_n X.1 X.2.1 d_M_word_10 rfl (lv_at hl 0 rfl) ?_
        refine m_get X Y 0 (by decide) lk_mem (gf_mem _ _ _) rfl d_M_word_11 ?_
        refine lv_iload_n X.1 X.2.1 d_M_word_14 rfl (lv_at hl 1 rfl) ?_
        refine lv_iload_n X.1 X.2.1 d_M_word_15 rfl (lv_at hl 3 rfl) ?_
        refine z_iadd X.1 X.2.1 d_M_word_16 ?_
        refine lv_aload_n X.1 X.2.1 d_M_word_17 rfl (lv_at hl 2 rfl) ?_
        refine lv_iload_n X.1 X.2.1 d_M_word_18 rfl (lv_at hl 3 rfl) ?_
        refine r_charAt (i := a2) X Y hZ k2 (by omega) (by omega) hml hl.1 ⟨Nat.le_of_ble_eq_true rfl, Nat.le_of_ble_eq_true rfl⟩ (Nat.le_of_ble_eq_true rfl) d_M_word_19 ⟨Nat.le_refl _, Nat.le_refl _⟩ (fun H locs z109 Y e109 l109 u109 => ?_)
        refine lv_i2b X.1 X.2.1 d_M_word_22 rfl ?_
        refine t_u (fun z110 l110 u110 => ?_)
        refine r_bast X Y S (aw_mem _ _ _ _ _ _ _) (sw_mem _ _ _ _ _ _ _) rfl (by omega) (show a1 + z102 < ((60000 : Nat) : Int) by omega) (by omega) (by decide) d_M_word_23 (fun B111 H locs Y S w111 => ?_)
        refine lv_iinc (v := iI (z102 + 1)) (lv' := [(3, .int (iI (z102 + 1))), (0, .ref h), (1, .int (iI a1)), (2, .ref ((D.2.1 a2)))]) X.1 X.2.1 d_M_word_24 hl (k := 3) rfl ((iI_add _ _).trans (congrArg iI (by omega))) (by decide) rfl (fun ls hl => ?_)
        refine lv_goto (tgt := 2) X.1 X.2.1 d_M_word_27 (by decide) ?_
        exact ih104 ((64 - (z102 + 1)).toNat) (by omega) (z102 + 1) I101 J101 B111 G101 _ _ _ rfl (by omega) (by omega) Y S (lv_sub hl [1, 2, 3, 0] rfl)
  refine lv_istore_n (lv' := [(3, .int (iI 0)), (0, .ref h), (1, .int (iI a1)), (2, .ref ((D.2.1 a2)))]) X.1 X.2.1 d_M_word_1 rfl hl (by decide) rfl (fun ls hl => ?_)
  exact J103 _ 0 I J B G _ _ _ rfl (by omega) (by omega) Y S (lv_sub hl [1, 2, 3, 0] rfl)
theorem o_link : Cond.methodLink R_M 3 objectInit ∈ lw_tg := in_t 1750 (by decide +kernel)
theorem ra_long (U : State) (x : ClassId) (h : va_RA U x .long) : U.vm.findClass ("[" ++ FieldType.toString .long) = some x := h
theorem vz_long (cA : ClassId) (N : Nat) : vp_cell cA (N, .inr (.inl (fun _ => 0))) = arrV cA N (fun _ => defaultValue .long) := rfl
theorem ar_long : Cond.arrayClass .long ∈ lw_tg := in_t 2307 (by decide +kernel)
theorem ra_boolean (U : State) (x : ClassId) (h : va_RA U x .boolean) : U.vm.findClass ("[" ++ FieldType.toString .boolean) = some x := h
theorem vz_boolean (cA : ClassId) (N : Nat) : vp_cell cA (N, .inl (fun _ => 0)) = arrV cA N (fun _ => defaultValue .boolean) := rfl
theorem ar_boolean : Cond.arrayClass .boolean ∈ lw_tg := in_t 2308 (by decide +kernel)
def iA (h sz : Nat) : Nat → Prop := fun a => a = h ∨ sz ≤ a
def iPre (D : mD) (E : mE) (h sz : Nat) : State → Prop := fun U => U.heap.size = sz ∧ va_P D.1 mCl (iW E h 0 0 (fun _ => 0) (fun _ => 0) (fun _ _ => 0)) U.heap ∧ va_K D.1 mCl (mTy E) U ∧ zS D.2.1 D.2.2.1 D.2.2.2 (iA h sz) U U.heap ∧ zR D.2.1 U
theorem rT_init {g : Nat → Int32} (hg : ∀ j, -128 ≤ (g j).toInt ∧ (g j).toInt ≤ 127) : rT (upd (upd (fun _ => 0) 4 (nI 1000000000)) 57 (nI 32)) (upB (fun _ _ => 0) 28 g) := by
  refine ⟨fun k => ?_, fun k j => ?_⟩
  · by_cases e1 : k = 57
    · rw [e1, pk_us]; decide
    · rw [pk_un e1]
      by_cases e2 : k = 4
      · rw [e2, pk_us]; decide
      · rw [pk_un e2]
        have h : (rI k).1 ≤ 0 ∧ 0 ≤ (rI k).2 := by
          unfold rI
          split <;> first | decide | omega
        exact h
  · by_cases e1 : k = 28
    · rw [e1, upB_s]; exact hg j
    · rw [upB_n e1]
      have h : (rB k).1 ≤ 0 ∧ 0 ≤ (rB k).2 := by
        unfold rB
        split <;> decide
      exact h
set_option maxHeartbeats 4000000 in
set_option maxRecDepth 100000 in
theorem c_init (l : Launch) (D : mD) (E : mE) (h sz : Nat) : Met l y_init (k_init :: lw_tg) { frames := 9, cells := 101, slots := 295201, locals := 283 } (va_Pc [.ref h] (iPre D E h sz)) (va_Qv (fun (u : (Nat → Nat) × mS) => rT u.2.1 u.2.2.2.1 ∧ pG1 u.2.1 ∧ pG2 (u.2.2.2.1 37) (u.2.2.2.1 38) ∧ stT (u.2.2.2.1 97) (u.2.2.2.1 98) (u.2.2.2.1 100) (u.2.2.2.1 107) (u.2.2.2.1 108) (u.2.2.2.1 109) ∧ stA (u.2.2.2.1 110) (u.2.2.2.1 118) (u.2.2.2.1 119) (u.2.2.2.1 120) ∧ vB 1 (u.2.2.2.1 46) ∧ u.2.1 33 = iI 0) (fun u => mPost D E h u.1 (iA h sz) u.2) (iA h sz)) 101 295201 (iA h sz) := by
  refine Met.ofW (cc := b_init) (maxL := 1) (ret := none) (by decide) rfl ?_
  intro p e s m args below meth c s₁ B hml hv
  obtain ⟨rfl, hsz, hP, hK, hZ, hR⟩ := hv
  have hts := atoms_spec (ws := k_init :: lw_tg) B.pre
  have hown : s.vm.findClass R_M = some m.cls := findClass_of_methodNamed B.named
  have hr := B.returns
  have hlk := B.notSynchronized
  have hin : meth.name = "<init>" := (name_of_methodNamed B.named B.method).1
  have X : mX p c b_init _ s m D E := ⟨B.exec, B.bytes, fun w hw => hts w (List.mem_cons_of_mem _ hw), hown, hK, hR⟩
  have hA : ∀ a, s.heap.size ≤ a → iA h sz a := fun a ha => Or.inr (by rw [← hsz]; exact ha)
  have Y : iH D E (iA h sz) s.heap h 0 0 (fun _ => 0) (fun _ => 0) (fun _ _ => 0) s.heap [] := ⟨hP, ⟨fun i j x y hx hy _ => by have h1 := (List.getElem?_eq_some_iff.mp hx).1; have h2 := (List.getElem?_eq_some_iff.mp hy).1; have h3 : i < 1 := h1; have h4 : j < 1 := h2; omega, fun k x hx => by have h1 : k < 1 := (List.getElem?_eq_some_iff.mp hx).1; obtain rfl : k = 0 := (by omega); cases hx; exact Or.inl rfl⟩, va_S.rf⟩
  have hl := lv_entry ([.ref h]) (n := 1) (Nat.le_of_ble_eq_true rfl)
  rw [lg_entry_eq]
  generalize (lg_sl ([.ref h]) ++ List.replicate (1 - (lg_sl ([.ref h])).length) Slot.unset).toArray = ls at hl ⊢
  have hl : lv_has ls 1 [(0, .ref h)] := hl
  refine lv_aload_n X.1 X.2.1 d_init_0 rfl (lv_at hl 0 rfl) ?_
  refine W.objInit X.1 X.2.1 hown (X.2.2.1 _ o_link) (X.2.2.1 _ o_inst) (X.2.2.1 _ o_code) rfl (by rw [hml]; exact hl.1) rfl d_init_1 (Nat.le_of_ble_eq_true rfl) (Nat.le_of_ble_eq_true rfl) ?_
  refine W.eq (g2 := F0 m 4 ls []) rfl ?_
  refine lv_aload_n X.1 X.2.1 d_init_4 rfl (lv_at hl 0 rfl) ?_
  refine lv_ldc (v := (60000)) X.1 X.2.1 X.2.2.2.1 (X.2.2.1 _ cn_M_9) d_init_5 ?_
  refine t_eq (y := nI 60000) (by decide) ?_
  refine i_newa (k := 0) (f := 0) (N := 60000) X Y hA (atype := .byte) (ty := .byte) rfl ra_byte ar_byte 0 (cE := E.1) rfl (a0 := (60000, .inl (fun _ => 0))) (fun cA => vz_byte cA 60000) (nI_pos (by decide)) (nI_clamp (by decide)) (by decide +kernel) (by decide +kernel) (by decide +kernel) (by decide) rfl rfl d_init_7 (fun q H Y => ?_)
  refine i_putr (k := 0) (f := 0) X Y (by decide) lk_mem rfl rfl hin (t_M_ok 0 (by decide)) rfl rfl (by decide) rfl d_init_9 (fun H locs Y => ?_)
  refine lv_aload_n X.1 X.2.1 d_init_12 rfl (lv_at hl 0 rfl) ?_
  refine lv_sipush (v := (nI 20000)) X.1 X.2.1 d_init_13 (by decide) ?_
  refine i_newa (k := 1) (f := 1) (N := 20000) X Y hA (atype := .byte) (ty := .byte) rfl ra_byte ar_byte 0 (cE := E.1) rfl (a0 := (20000, .inl (fun _ => 0))) (fun cA => vz_byte cA 20000) (nI_pos (by decide)) (nI_clamp (by decide)) (by decide +kernel) (by decide +kernel) (by decide +kernel) (by decide) rfl rfl d_init_16 (fun q H Y => ?_)
  refine i_putr (k := 1) (f := 1) X Y (by decide) lk_outs rfl rfl hin (t_M_ok 1 (by decide)) rfl rfl (by decide) rfl d_init_18 (fun H locs Y => ?_)
  refine lv_aload_n X.1 X.2.1 d_init_21 rfl (lv_at hl 0 rfl) ?_
  refine lv_ldc (v := (1000000000)) X.1 X.2.1 X.2.2.2.1 (X.2.2.1 _ cn_M_17) d_init_22 ?_
  refine t_eq (y := nI 1000000000) (by decide) ?_
  refine i_puti (f := 4) X Y (by decide) lk_now rfl rfl (t_M_ok 4 (by decide)) rfl rfl rfl rfl d_init_24 (fun H locs Y => ?_)
  refine lv_aload_n X.1 X.2.1 d_init_27 rfl (lv_at hl 0 rfl) ?_
  refine lv_iconst (v := (nI 5)) X.1 X.2.1 d_init_28 (by decide) ?_
  refine i_newa (k := 2) (f := 5) (N := 5) X Y hA (atype := .int) (ty := .int) rfl ra_int ar_int 1 (cE := E.2.1) rfl (a0 := (5, .inl (fun _ => 0))) (fun cA => vz_int cA 5) (nI_pos (by decide)) (nI_clamp (by decide)) (by decide +kernel) (by decide +kernel) (by decide +kernel) (by decide) rfl rfl d_init_29 (fun q H Y => ?_)
  refine i_putr (k := 2) (f := 5) X Y (by decide) lk_h rfl rfl hin (t_M_ok 5 (by decide)) rfl rfl (by decide) rfl d_init_31 (fun H locs Y => ?_)
  refine lv_aload_n X.1 X.2.1 d_init_34 rfl (lv_at hl 0 rfl) ?_
  refine lv_bipush (v := (nI 80)) X.1 X.2.1 d_init_35 (by decide) ?_
  refine i_newa (k := 3) (f := 6) (N := 80) X Y hA (atype := .int) (ty := .int) rfl ra_int ar_int 1 (cE := E.2.1) rfl (a0 := (80, .inl (fun _ => 0))) (fun cA => vz_int cA 80) (nI_pos (by decide)) (nI_clamp (by decide)) (by decide +kernel) (by decide +kernel) (by decide +kernel) (by decide) rfl rfl d_init_37 (fun q H Y => ?_)
  refine i_putr (k := 3) (f := 6) X Y (by decide) lk_w rfl rfl hin (t_M_ok 6 (by decide)) rfl rfl (by decide) rfl d_init_39 (fun H locs Y => ?_)
  refine lv_aload_n X.1 X.2.1 d_init_42 rfl (lv_at hl 0 rfl) ?_
  refine lv_bipush (v := (nI 64)) X.1 X.2.1 d_init_43 (by decide) ?_
  refine i_newa (k := 4) (f := 7) (N := 64) X Y hA (atype := .byte) (ty := .byte) rfl ra_byte ar_byte 0 (cE := E.1) rfl (a0 := (64, .inl (fun _ => 0))) (fun cA => vz_byte cA 64) (nI_pos (by decide)) (nI_clamp (by decide)) (by decide +kernel) (by decide +kernel) (by decide +kernel) (by decide) rfl rfl d_init_45 (fun q H Y => ?_)
  refine i_putr (k := 4) (f := 7) X Y (by decide) lk_block rfl rfl hin (t_M_ok 7 (by decide)) rfl rfl (by decide) rfl d_init_47 (fun H locs Y => ?_)
  refine lv_aload_n X.1 X.2.1 d_init_50 rfl (lv_at hl 0 rfl) ?_
  refine lv_bipush (v := (nI 20)) X.1 X.2.1 d_init_51 (by decide) ?_
  refine i_newa (k := 5) (f := 9) (N := 20) X Y hA (atype := .byte) (ty := .byte) rfl ra_byte ar_byte 0 (cE := E.1) rfl (a0 := (20, .inl (fun _ => 0))) (fun cA => vz_byte cA 20) (nI_pos (by decide)) (nI_clamp (by decide)) (by decide +kernel) (by decide +kernel) (by decide +kernel) (by decide) rfl rfl d_init_53 (fun q H Y => ?_)
  refine i_putr (k := 5) (f := 9) X Y (by decide) lk_inner rfl rfl hin (t_M_ok 9 (by decide)) rfl rfl (by decide) rfl d_init_55 (fun H locs Y => ?_)
  refine lv_aload_n X.1 X.2.1 d_init_58 rfl (lv_at hl 0 rfl) ?_
  refine lv_bipush (v := (nI 20)) X.1 X.2.1 d_init_59 (by decide) ?_
  refine i_newa (k := 6) (f := 10) (N := 20) X Y hA (atype := .byte) (ty := .byte) rfl ra_byte ar_byte 0 (cE := E.1) rfl (a0 := (20, .inl (fun _ => 0))) (fun cA => vz_byte cA 20) (nI_pos (by decide)) (nI_clamp (by decide)) (by decide +kernel) (by decide +kernel) (by decide +kernel) (by decide) rfl rfl d_init_61 (fun q H Y => ?_)
  refine i_putr (k := 6) (f := 10) X Y (by decide) lk_mac rfl rfl hin (t_M_ok 10 (by decide)) rfl rfl (by decide) rfl d_init_63 (fun H locs Y => ?_)
  refine lv_aload_n X.1 X.2.1 d_init_66 rfl (lv_at hl 0 rfl) ?_
  refine lv_bipush (v := (nI 64)) X.1 X.2.1 d_init_67 (by decide) ?_
  refine i_newa (k := 7) (f := 11) (N := 64) X Y hA (atype := .byte) (ty := .byte) rfl ra_byte ar_byte 0 (cE := E.1) rfl (a0 := (64, .inl (fun _ => 0))) (fun cA => vz_byte cA 64) (nI_pos (by decide)) (nI_clamp (by decide)) (by decide +kernel) (by decide +kernel) (by decide +kernel) (by decide) rfl rfl d_init_69 (fun q H Y => ?_)
  refine i_putr (k := 7) (f := 11) X Y (by decide) lk_macKey rfl rfl hin (t_M_ok 11 (by decide)) rfl rfl (by decide) rfl d_init_71 (fun H locs Y => ?_)
  refine lv_aload_n X.1 X.2.1 d_init_74 rfl (lv_at hl 0 rfl) ?_
  refine lv_sipush (v := (nI 256)) X.1 X.2.1 d_init_75 (by decide) ?_
  refine i_newa (k := 8) (f := 12) (N := 256) X Y hA (atype := .int) (ty := .int) rfl ra_int ar_int 1 (cE := E.2.1) rfl (a0 := (256, .inl (fun _ => 0))) (fun cA => vz_int cA 256) (nI_pos (by decide)) (nI_clamp (by decide)) (by decide +kernel) (by decide +kernel) (by decide +kernel) (by decide) rfl rfl d_init_78 (fun q H Y => ?_)
  refine i_putr (k := 8) (f := 12) X Y (by decide) lk_box rfl rfl hin (t_M_ok 12 (by decide)) rfl rfl (by decide) rfl d_init_80 (fun H locs Y => ?_)
  refine lv_aload_n X.1 X.2.1 d_init_83 rfl (lv_at hl 0 rfl) ?_
  refine lv_sipush (v := (nI 256)) X.1 X.2.1 d_init_84 (by decide) ?_
  refine i_newa (k := 9) (f := 13) (N := 256) X Y hA (atype := .int) (ty := .int) rfl ra_int ar_int 1 (cE := E.2.1) rfl (a0 := (256, .inl (fun _ => 0))) (fun cA => vz_int cA 256) (nI_pos (by decide)) (nI_clamp (by decide)) (by decide +kernel) (by decide +kernel) (by decide +kernel) (by decide) rfl rfl d_init_87 (fun q H Y => ?_)
  refine i_putr (k := 9) (f := 13) X Y (by decide) lk_back rfl rfl hin (t_M_ok 13 (by decide)) rfl rfl (by decide) rfl d_init_89 (fun H locs Y => ?_)
  refine lv_aload_n X.1 X.2.1 d_init_92 rfl (lv_at hl 0 rfl) ?_
  refine lv_bipush (v := (nI 60)) X.1 X.2.1 d_init_93 (by decide) ?_
  refine i_newa (k := 10) (f := 15) (N := 60) X Y hA (atype := .int) (ty := .int) rfl ra_int ar_int 1 (cE := E.2.1) rfl (a0 := (60, .inl (fun _ => 0))) (fun cA => vz_int cA 60) (nI_pos (by decide)) (nI_clamp (by decide)) (by decide +kernel) (by decide +kernel) (by decide +kernel) (by decide) rfl rfl d_init_95 (fun q H Y => ?_)
  refine i_putr (k := 10) (f := 15) X Y (by decide) lk_schedule rfl rfl hin (t_M_ok 15 (by decide)) rfl rfl (by decide) rfl d_init_97 (fun H locs Y => ?_)
  refine lv_aload_n X.1 X.2.1 d_init_100 rfl (lv_at hl 0 rfl) ?_
  refine lv_bipush (v := (nI 16)) X.1 X.2.1 d_init_101 (by decide) ?_
  refine i_newa (k := 11) (f := 16) (N := 16) X Y hA (atype := .int) (ty := .int) rfl ra_int ar_int 1 (cE := E.2.1) rfl (a0 := (16, .inl (fun _ => 0))) (fun cA => vz_int cA 16) (nI_pos (by decide)) (nI_clamp (by decide)) (by decide +kernel) (by decide +kernel) (by decide +kernel) (by decide) rfl rfl d_init_103 (fun q H Y => ?_)
  refine i_putr (k := 11) (f := 16) X Y (by decide) lk_state rfl rfl hin (t_M_ok 16 (by decide)) rfl rfl (by decide) rfl d_init_105 (fun H locs Y => ?_)
  refine lv_aload_n X.1 X.2.1 d_init_108 rfl (lv_at hl 0 rfl) ?_
  refine lv_bipush (v := (nI 16)) X.1 X.2.1 d_init_109 (by decide) ?_
  refine i_newa (k := 12) (f := 17) (N := 16) X Y hA (atype := .int) (ty := .int) rfl ra_int ar_int 1 (cE := E.2.1) rfl (a0 := (16, .inl (fun _ => 0))) (fun cA => vz_int cA 16) (nI_pos (by decide)) (nI_clamp (by decide)) (by decide +kernel) (by decide +kernel) (by decide +kernel) (by decide) rfl rfl d_init_111 (fun q H Y => ?_)
  refine i_putr (k := 12) (f := 17) X Y (by decide) lk_other rfl rfl hin (t_M_ok 17 (by decide)) rfl rfl (by decide) rfl d_init_113 (fun H locs Y => ?_)
  refine lv_aload_n X.1 X.2.1 d_init_116 rfl (lv_at hl 0 rfl) ?_
  refine lv_bipush (v := (nI 16)) X.1 X.2.1 d_init_117 (by decide) ?_
  refine i_newa (k := 13) (f := 19) (N := 16) X Y hA (atype := .byte) (ty := .byte) rfl ra_byte ar_byte 0 (cE := E.1) rfl (a0 := (16, .inl (fun _ => 0))) (fun cA => vz_byte cA 16) (nI_pos (by decide)) (nI_clamp (by decide)) (by decide +kernel) (by decide +kernel) (by decide +kernel) (by decide) rfl rfl d_init_119 (fun q H Y => ?_)
  refine i_putr (k := 13) (f := 19) X Y (by decide) lk_fold rfl rfl hin (t_M_ok 19 (by decide)) rfl rfl (by decide) rfl d_init_121 (fun H locs Y => ?_)
  refine lv_aload_n X.1 X.2.1 d_init_124 rfl (lv_at hl 0 rfl) ?_
  refine lv_bipush (v := (nI 32)) X.1 X.2.1 d_init_125 (by decide) ?_
  refine i_newa (k := 14) (f := 20) (N := 32) X Y hA (atype := .byte) (ty := .byte) rfl ra_byte ar_byte 0 (cE := E.1) rfl (a0 := (32, .inl (fun _ => 0))) (fun cA => vz_byte cA 32) (nI_pos (by decide)) (nI_clamp (by decide)) (by decide +kernel) (by decide +kernel) (by decide +kernel) (by decide) rfl rfl d_init_127 (fun q H Y => ?_)
  refine i_putr (k := 14) (f := 20) X Y (by decide) lk_derived rfl rfl hin (t_M_ok 20 (by decide)) rfl rfl (by decide) rfl d_init_129 (fun H locs Y => ?_)
  refine lv_aload_n X.1 X.2.1 d_init_132 rfl (lv_at hl 0 rfl) ?_
  refine lv_bipush (v := (nI 16)) X.1 X.2.1 d_init_133 (by decide) ?_
  refine i_newa (k := 15) (f := 21) (N := 16) X Y hA (atype := .int) (ty := .int) rfl ra_int ar_int 1 (cE := E.2.1) rfl (a0 := (16, .inl (fun _ => 0))) (fun cA => vz_int cA 16) (nI_pos (by decide)) (nI_clamp (by decide)) (by decide +kernel) (by decide +kernel) (by decide +kernel) (by decide) rfl rfl d_init_135 (fun q H Y => ?_)
  refine i_putr (k := 15) (f := 21) X Y (by decide) lk_folding rfl rfl hin (t_M_ok 21 (by decide)) rfl rfl (by decide) rfl d_init_137 (fun H locs Y => ?_)
  refine lv_aload_n X.1 X.2.1 d_init_140 rfl (lv_at hl 0 rfl) ?_
  refine lv_iconst (v := (nI 5)) X.1 X.2.1 d_init_141 (by decide) ?_
  refine i_newa (k := 16) (f := 22) (N := 5) X Y hA (atype := .byte) (ty := .byte) rfl ra_byte ar_byte 0 (cE := E.1) rfl (a0 := (5, .inl (fun _ => 0))) (fun cA => vz_byte cA 5) (nI_pos (by decide)) (nI_clamp (by decide)) (by decide +kernel) (by decide +kernel) (by decide +kernel) (by decide) rfl rfl d_init_142 (fun q H Y => ?_)
  refine i_putr (k := 16) (f := 22) X Y (by decide) lk_constant rfl rfl hin (t_M_ok 22 (by decide)) rfl rfl (by decide) rfl d_init_144 (fun H locs Y => ?_)
  refine lv_aload_n X.1 X.2.1 d_init_147 rfl (lv_at hl 0 rfl) ?_
  refine lv_bipush (v := (nI 32)) X.1 X.2.1 d_init_148 (by decide) ?_
  refine i_newa (k := 17) (f := 23) (N := 32) X Y hA (atype := .byte) (ty := .byte) rfl ra_byte ar_byte 0 (cE := E.1) rfl (a0 := (32, .inl (fun _ => 0))) (fun cA => vz_byte cA 32) (nI_pos (by decide)) (nI_clamp (by decide)) (by decide +kernel) (by decide +kernel) (by decide +kernel) (by decide) rfl rfl d_init_150 (fun q H Y => ?_)
  refine i_putr (k := 17) (f := 23) X Y (by decide) lk_use rfl rfl hin (t_M_ok 23 (by decide)) rfl rfl (by decide) rfl d_init_152 (fun H locs Y => ?_)
  refine lv_aload_n X.1 X.2.1 d_init_155 rfl (lv_at hl 0 rfl) ?_
  refine lv_bipush (v := (nI 60)) X.1 X.2.1 d_init_156 (by decide) ?_
  refine i_newa (k := 18) (f := 24) (N := 60) X Y hA (atype := .byte) (ty := .byte) rfl ra_byte ar_byte 0 (cE := E.1) rfl (a0 := (60, .inl (fun _ => 0))) (fun cA => vz_byte cA 60) (nI_pos (by decide)) (nI_clamp (by decide)) (by decide +kernel) (by decide +kernel) (by decide +kernel) (by decide) rfl rfl d_init_158 (fun q H Y => ?_)
  refine i_putr (k := 18) (f := 24) X Y (by decide) lk_salt rfl rfl hin (t_M_ok 24 (by decide)) rfl rfl (by decide) rfl d_init_160 (fun H locs Y => ?_)
  refine lv_aload_n X.1 X.2.1 d_init_163 rfl (lv_at hl 0 rfl) ?_
  refine lv_bipush (v := (nI 30)) X.1 X.2.1 d_init_164 (by decide) ?_
  refine i_newa (k := 19) (f := 25) (N := 30) X Y hA (atype := .byte) (ty := .byte) rfl ra_byte ar_byte 0 (cE := E.1) rfl (a0 := (30, .inl (fun _ => 0))) (fun cA => vz_byte cA 30) (nI_pos (by decide)) (nI_clamp (by decide)) (by decide +kernel) (by decide +kernel) (by decide +kernel) (by decide) rfl rfl d_init_166 (fun q H Y => ?_)
  refine i_putr (k := 19) (f := 25) X Y (by decide) lk_password rfl rfl hin (t_M_ok 25 (by decide)) rfl rfl (by decide) rfl d_init_168 (fun H locs Y => ?_)
  refine lv_aload_n X.1 X.2.1 d_init_171 rfl (lv_at hl 0 rfl) ?_
  refine lv_bipush (v := (nI 20)) X.1 X.2.1 d_init_172 (by decide) ?_
  refine i_newa (k := 20) (f := 26) (N := 20) X Y hA (atype := .byte) (ty := .byte) rfl ra_byte ar_byte 0 (cE := E.1) rfl (a0 := (20, .inl (fun _ => 0))) (fun cA => vz_byte cA 20) (nI_pos (by decide)) (nI_clamp (by decide)) (by decide +kernel) (by decide +kernel) (by decide +kernel) (by decide) rfl rfl d_init_174 (fun q H Y => ?_)
  refine i_putr (k := 20) (f := 26) X Y (by decide) lk_mixed rfl rfl hin (t_M_ok 26 (by decide)) rfl rfl (by decide) rfl d_init_176 (fun H locs Y => ?_)
  refine lv_aload_n X.1 X.2.1 d_init_179 rfl (lv_at hl 0 rfl) ?_
  refine lv_bipush (v := (nI 40)) X.1 X.2.1 d_init_180 (by decide) ?_
  refine i_newa (k := 21) (f := 27) (N := 40) X Y hA (atype := .byte) (ty := .byte) rfl ra_byte ar_byte 0 (cE := E.1) rfl (a0 := (40, .inl (fun _ => 0))) (fun cA => vz_byte cA 40) (nI_pos (by decide)) (nI_clamp (by decide)) (by decide +kernel) (by decide +kernel) (by decide +kernel) (by decide) rfl rfl d_init_182 (fun q H Y => ?_)
  refine i_putr (k := 21) (f := 27) X Y (by decide) lk_long0 rfl rfl hin (t_M_ok 27 (by decide)) rfl rfl (by decide) rfl d_init_184 (fun H locs Y => ?_)
  refine lv_aload_n X.1 X.2.1 d_init_187 rfl (lv_at hl 0 rfl) ?_
  refine lv_bipush (v := (nI 8)) X.1 X.2.1 d_init_188 (by decide) ?_
  refine i_newa (k := 22) (f := 28) (N := 8) X Y hA (atype := .byte) (ty := .byte) rfl ra_byte ar_byte 0 (cE := E.1) rfl (a0 := (8, .inl (fun _ => 0))) (fun cA => vz_byte cA 8) (nI_pos (by decide)) (nI_clamp (by decide)) (by decide +kernel) (by decide +kernel) (by decide +kernel) (by decide) rfl rfl d_init_190 (fun q H Y => ?_)
  have Y : iH D E (iA h sz) s.heap h 22 23 q (upd (fun _ => 0) 4 (nI 1000000000)) (upB (fun _ _ => 0) 28 (fun _ => 0)) H locs := by rw [show upB (fun _ _ => (0 : Int32)) 28 (fun _ => 0) = (fun _ _ => 0) from upB_id (fun _ _ => 0) 28]; exact Y
  refine lv_dup X.1 X.2.1 d_init_192 rfl ?_
  refine lv_iconst (v := (nI 0)) X.1 X.2.1 d_init_193 (by decide) ?_
  refine lv_bipush (v := (nI 107)) X.1 X.2.1 d_init_194 (by decide) ?_
  refine i_bastB (k := 22) (f := 28) (N := 8) X Y (by decide) rfl (fun _ => rfl) (vp_in_nI (by decide) (by decide)) (fun _ => ⟨by decide, by decide⟩) d_init_196 (fun g hg1 H locs Y => ?_)
  refine lv_dup X.1 X.2.1 d_init_197 rfl ?_
  refine lv_iconst (v := (nI 1)) X.1 X.2.1 d_init_198 (by decide) ?_
  refine lv_bipush (v := (nI 101)) X.1 X.2.1 d_init_199 (by decide) ?_
  refine i_bastB (k := 22) (f := 28) (N := 8) X Y (by decide) rfl (fun _ => rfl) (vp_in_nI (by decide) (by decide)) hg1 d_init_201 (fun g hg2 H locs Y => ?_)
  refine lv_dup X.1 X.2.1 d_init_202 rfl ?_
  refine lv_iconst (v := (nI 2)) X.1 X.2.1 d_init_203 (by decide) ?_
  refine lv_bipush (v := (nI 114)) X.1 X.2.1 d_init_204 (by decide) ?_
  refine i_bastB (k := 22) (f := 28) (N := 8) X Y (by decide) rfl (fun _ => rfl) (vp_in_nI (by decide) (by decide)) hg2 d_init_206 (fun g hg3 H locs Y => ?_)
  refine lv_dup X.1 X.2.1 d_init_207 rfl ?_
  refine lv_iconst (v := (nI 3)) X.1 X.2.1 d_init_208 (by decide) ?_
  refine lv_bipush (v := (nI 98)) X.1 X.2.1 d_init_209 (by decide) ?_
  refine i_bastB (k := 22) (f := 28) (N := 8) X Y (by decide) rfl (fun _ => rfl) (vp_in_nI (by decide) (by decide)) hg3 d_init_211 (fun g hg4 H locs Y => ?_)
  refine lv_dup X.1 X.2.1 d_init_212 rfl ?_
  refine lv_iconst (v := (nI 4)) X.1 X.2.1 d_init_213 (by decide) ?_
  refine lv_bipush (v := (nI 101)) X.1 X.2.1 d_init_214 (by decide) ?_
  refine i_bastB (k := 22) (f := 28) (N := 8) X Y (by decide) rfl (fun _ => rfl) (vp_in_nI (by decide) (by decide)) hg4 d_init_216 (fun g hg5 H locs Y => ?_)
  refine lv_dup X.1 X.2.1 d_init_217 rfl ?_
  refine lv_iconst (v := (nI 5)) X.1 X.2.1 d_init_218 (by decide) ?_
  refine lv_bipush (v := (nI 114)) X.1 X.2.1 d_init_219 (by decide) ?_
  refine i_bastB (k := 22) (f := 28) (N := 8) X Y (by decide) rfl (fun _ => rfl) (vp_in_nI (by decide) (by decide)) hg5 d_init_221 (fun g hg6 H locs Y => ?_)
  refine lv_dup X.1 X.2.1 d_init_222 rfl ?_
  refine lv_bipush (v := (nI 6)) X.1 X.2.1 d_init_223 (by decide) ?_
  refine lv_bipush (v := (nI 111)) X.1 X.2.1 d_init_225 (by decide) ?_
  refine i_bastB (k := 22) (f := 28) (N := 8) X Y (by decide) rfl (fun _ => rfl) (vp_in_nI (by decide) (by decide)) hg6 d_init_227 (fun g hg7 H locs Y => ?_)
  refine lv_dup X.1 X.2.1 d_init_228 rfl ?_
  refine lv_bipush (v := (nI 7)) X.1 X.2.1 d_init_229 (by decide) ?_
  refine lv_bipush (v := (nI 115)) X.1 X.2.1 d_init_231 (by decide) ?_
  refine i_bastB (k := 22) (f := 28) (N := 8) X Y (by decide) rfl (fun _ => rfl) (vp_in_nI (by decide) (by decide)) hg7 d_init_233 (fun g hg8 H locs Y => ?_)
  refine i_putr (k := 22) (f := 28) X Y (by decide) lk_kerberos rfl rfl hin (t_M_ok 28 (by decide)) rfl rfl (by decide) rfl d_init_234 (fun H locs Y => ?_)
  refine lv_aload_n X.1 X.2.1 d_init_237 rfl (lv_at hl 0 rfl) ?_
  refine lv_bipush (v := (nI 64)) X.1 X.2.1 d_init_238 (by decide) ?_
  refine i_newa (k := 23) (f := 31) (N := 64) X Y hA (atype := .byte) (ty := .byte) rfl ra_byte ar_byte 0 (cE := E.1) rfl (a0 := (64, .inl (fun _ => 0))) (fun cA => vz_byte cA 64) (nI_pos (by decide)) (nI_clamp (by decide)) (by decide +kernel) (by decide +kernel) (by decide +kernel) (by decide) rfl rfl d_init_240 (fun q H Y => ?_)
  refine i_putr (k := 23) (f := 31) X Y (by decide) lk_seed rfl rfl hin (t_M_ok 31 (by decide)) rfl rfl (by decide) rfl d_init_242 (fun H locs Y => ?_)
  refine lv_aload_n X.1 X.2.1 d_init_245 rfl (lv_at hl 0 rfl) ?_
  refine lv_sipush (v := (nI 20000)) X.1 X.2.1 d_init_246 (by decide) ?_
  refine i_newa (k := 24) (f := 34) (N := 20000) X Y hA (atype := .byte) (ty := .byte) rfl ra_byte ar_byte 0 (cE := E.1) rfl (a0 := (20000, .inl (fun _ => 0))) (fun cA => vz_byte cA 20000) (nI_pos (by decide)) (nI_clamp (by decide)) (by decide +kernel) (by decide +kernel) (by decide +kernel) (by decide) rfl rfl d_init_249 (fun q H Y => ?_)
  refine i_putr (k := 24) (f := 34) X Y (by decide) lk_text rfl rfl hin (t_M_ok 34 (by decide)) rfl rfl (by decide) rfl d_init_251 (fun H locs Y => ?_)
  refine lv_aload_n X.1 X.2.1 d_init_254 rfl (lv_at hl 0 rfl) ?_
  refine lv_sipush (v := (nI 20000)) X.1 X.2.1 d_init_255 (by decide) ?_
  refine i_newa (k := 25) (f := 35) (N := 20000) X Y hA (atype := .byte) (ty := .byte) rfl ra_byte ar_byte 0 (cE := E.1) rfl (a0 := (20000, .inl (fun _ => 0))) (fun cA => vz_byte cA 20000) (nI_pos (by decide)) (nI_clamp (by decide)) (by decide +kernel) (by decide +kernel) (by decide +kernel) (by decide) rfl rfl d_init_258 (fun q H Y => ?_)
  refine i_putr (k := 25) (f := 35) X Y (by decide) lk_secret rfl rfl hin (t_M_ok 35 (by decide)) rfl rfl (by decide) rfl d_init_260 (fun H locs Y => ?_)
  refine lv_aload_n X.1 X.2.1 d_init_263 rfl (lv_at hl 0 rfl) ?_
  refine lv_sipush (v := (nI 192)) X.1 X.2.1 d_init_264 (by decide) ?_
  refine i_newa (k := 26) (f := 37) (N := 192) X Y hA (atype := .int) (ty := .int) rfl ra_int ar_int 1 (cE := E.2.1) rfl (a0 := (192, .inl (fun _ => 0))) (fun cA => vz_int cA 192) (nI_pos (by decide)) (nI_clamp (by decide)) (by decide +kernel) (by decide +kernel) (by decide +kernel) (by decide) rfl rfl d_init_267 (fun q H Y => ?_)
  refine i_putr (k := 26) (f := 37) X Y (by decide) lk_from rfl rfl hin (t_M_ok 37 (by decide)) rfl rfl (by decide) rfl d_init_269 (fun H locs Y => ?_)
  refine lv_aload_n X.1 X.2.1 d_init_272 rfl (lv_at hl 0 rfl) ?_
  refine lv_sipush (v := (nI 192)) X.1 X.2.1 d_init_273 (by decide) ?_
  refine i_newa (k := 27) (f := 38) (N := 192) X Y hA (atype := .int) (ty := .int) rfl ra_int ar_int 1 (cE := E.2.1) rfl (a0 := (192, .inl (fun _ => 0))) (fun cA => vz_int cA 192) (nI_pos (by decide)) (nI_clamp (by decide)) (by decide +kernel) (by decide +kernel) (by decide +kernel) (by decide) rfl rfl d_init_276 (fun q H Y => ?_)
  refine i_putr (k := 27) (f := 38) X Y (by decide) lk_to rfl rfl hin (t_M_ok 38 (by decide)) rfl rfl (by decide) rfl d_init_278 (fun H locs Y => ?_)
  refine lv_aload_n X.1 X.2.1 d_init_281 rfl (lv_at hl 0 rfl) ?_
  refine lv_sipush (v := (nI 480)) X.1 X.2.1 d_init_282 (by decide) ?_
  refine i_newa (k := 28) (f := 44) (N := 480) X Y hA (atype := .byte) (ty := .byte) rfl ra_byte ar_byte 0 (cE := E.1) rfl (a0 := (480, .inl (fun _ => 0))) (fun cA => vz_byte cA 480) (nI_pos (by decide)) (nI_clamp (by decide)) (by decide +kernel) (by decide +kernel) (by decide +kernel) (by decide) rfl rfl d_init_285 (fun q H Y => ?_)
  refine i_putr (k := 28) (f := 44) X Y (by decide) lk_names rfl rfl hin (t_M_ok 44 (by decide)) rfl rfl (by decide) rfl d_init_287 (fun H locs Y => ?_)
  refine lv_aload_n X.1 X.2.1 d_init_290 rfl (lv_at hl 0 rfl) ?_
  refine lv_bipush (v := (nI 12)) X.1 X.2.1 d_init_291 (by decide) ?_
  refine i_newa (k := 29) (f := 45) (N := 12) X Y hA (atype := .int) (ty := .int) rfl ra_int ar_int 1 (cE := E.2.1) rfl (a0 := (12, .inl (fun _ => 0))) (fun cA => vz_int cA 12) (nI_pos (by decide)) (nI_clamp (by decide)) (by decide +kernel) (by decide +kernel) (by decide +kernel) (by decide) rfl rfl d_init_293 (fun q H Y => ?_)
  refine i_putr (k := 29) (f := 45) X Y (by decide) lk_nameSizes rfl rfl hin (t_M_ok 45 (by decide)) rfl rfl (by decide) rfl d_init_295 (fun H locs Y => ?_)
  refine lv_aload_n X.1 X.2.1 d_init_298 rfl (lv_at hl 0 rfl) ?_
  refine lv_bipush (v := (nI 12)) X.1 X.2.1 d_init_299 (by decide) ?_
  refine i_newa (k := 30) (f := 46) (N := 12) X Y hA (atype := .int) (ty := .int) rfl ra_int ar_int 1 (cE := E.2.1) rfl (a0 := (12, .inl (fun _ => 0))) (fun cA => vz_int cA 12) (nI_pos (by decide)) (nI_clamp (by decide)) (by decide +kernel) (by decide +kernel) (by decide +kernel) (by decide) rfl rfl d_init_301 (fun q H Y => ?_)
  refine i_putr (k := 30) (f := 46) X Y (by decide) lk_versions rfl rfl hin (t_M_ok 46 (by decide)) rfl rfl (by decide) rfl d_init_303 (fun H locs Y => ?_)
  refine lv_aload_n X.1 X.2.1 d_init_306 rfl (lv_at hl 0 rfl) ?_
  refine lv_bipush (v := (nI 12)) X.1 X.2.1 d_init_307 (by decide) ?_
  refine i_newa (k := 31) (f := 47) (N := 12) X Y hA (atype := .int) (ty := .int) rfl ra_int ar_int 1 (cE := E.2.1) rfl (a0 := (12, .inl (fun _ => 0))) (fun cA => vz_int cA 12) (nI_pos (by decide)) (nI_clamp (by decide)) (by decide +kernel) (by decide +kernel) (by decide +kernel) (by decide) rfl rfl d_init_309 (fun q H Y => ?_)
  refine i_putr (k := 31) (f := 47) X Y (by decide) lk_counts rfl rfl hin (t_M_ok 47 (by decide)) rfl rfl (by decide) rfl d_init_311 (fun H locs Y => ?_)
  refine lv_aload_n X.1 X.2.1 d_init_314 rfl (lv_at hl 0 rfl) ?_
  refine lv_bipush (v := (nI 12)) X.1 X.2.1 d_init_315 (by decide) ?_
  refine i_newa (k := 32) (f := 48) (N := 12) X Y hA (atype := .int) (ty := .int) rfl ra_int ar_int 1 (cE := E.2.1) rfl (a0 := (12, .inl (fun _ => 0))) (fun cA => vz_int cA 12) (nI_pos (by decide)) (nI_clamp (by decide)) (by decide +kernel) (by decide +kernel) (by decide +kernel) (by decide) rfl rfl d_init_317 (fun q H Y => ?_)
  refine i_putr (k := 32) (f := 48) X Y (by decide) lk_lifes rfl rfl hin (t_M_ok 48 (by decide)) rfl rfl (by decide) rfl d_init_319 (fun H locs Y => ?_)
  refine lv_aload_n X.1 X.2.1 d_init_322 rfl (lv_at hl 0 rfl) ?_
  refine lv_bipush (v := (nI 12)) X.1 X.2.1 d_init_323 (by decide) ?_
  refine i_newa (k := 33) (f := 49) (N := 12) X Y hA (atype := .int) (ty := .int) rfl ra_int ar_int 1 (cE := E.2.1) rfl (a0 := (12, .inl (fun _ => 0))) (fun cA => vz_int cA 12) (nI_pos (by decide)) (nI_clamp (by decide)) (by decide +kernel) (by decide +kernel) (by decide +kernel) (by decide) rfl rfl d_init_325 (fun q H Y => ?_)
  refine i_putr (k := 33) (f := 49) X Y (by decide) lk_renews rfl rfl hin (t_M_ok 49 (by decide)) rfl rfl (by decide) rfl d_init_327 (fun H locs Y => ?_)
  refine lv_aload_n X.1 X.2.1 d_init_330 rfl (lv_at hl 0 rfl) ?_
  refine lv_bipush (v := (nI 12)) X.1 X.2.1 d_init_331 (by decide) ?_
  refine i_newa (k := 34) (f := 50) (N := 12) X Y hA (atype := .int) (ty := .int) rfl ra_int ar_int 1 (cE := E.2.1) rfl (a0 := (12, .inl (fun _ => 0))) (fun cA => vz_int cA 12) (nI_pos (by decide)) (nI_clamp (by decide)) (by decide +kernel) (by decide +kernel) (by decide +kernel) (by decide) rfl rfl d_init_333 (fun q H Y => ?_)
  refine i_putr (k := 34) (f := 50) X Y (by decide) lk_flags rfl rfl hin (t_M_ok 50 (by decide)) rfl rfl (by decide) rfl d_init_335 (fun H locs Y => ?_)
  refine lv_aload_n X.1 X.2.1 d_init_338 rfl (lv_at hl 0 rfl) ?_
  refine lv_bipush (v := (nI 12)) X.1 X.2.1 d_init_339 (by decide) ?_
  refine i_newa (k := 35) (f := 51) (N := 12) X Y hA (atype := .int) (ty := .int) rfl ra_int ar_int 1 (cE := E.2.1) rfl (a0 := (12, .inl (fun _ => 0))) (fun cA => vz_int cA 12) (nI_pos (by decide)) (nI_clamp (by decide)) (by decide +kernel) (by decide +kernel) (by decide +kernel) (by decide) rfl rfl d_init_341 (fun q H Y => ?_)
  refine i_putr (k := 35) (f := 51) X Y (by decide) lk_ends rfl rfl hin (t_M_ok 51 (by decide)) rfl rfl (by decide) rfl d_init_343 (fun H locs Y => ?_)
  refine lv_aload_n X.1 X.2.1 d_init_346 rfl (lv_at hl 0 rfl) ?_
  refine lv_sipush (v := (nI 1536)) X.1 X.2.1 d_init_347 (by decide) ?_
  refine i_newa (k := 36) (f := 52) (N := 1536) X Y hA (atype := .byte) (ty := .byte) rfl ra_byte ar_byte 0 (cE := E.1) rfl (a0 := (1536, .inl (fun _ => 0))) (fun cA => vz_byte cA 1536) (nI_pos (by decide)) (nI_clamp (by decide)) (by decide +kernel) (by decide +kernel) (by decide +kernel) (by decide) rfl rfl d_init_350 (fun q H Y => ?_)
  refine i_putr (k := 36) (f := 52) X Y (by decide) lk_keys rfl rfl hin (t_M_ok 52 (by decide)) rfl rfl (by decide) rfl d_init_352 (fun H locs Y => ?_)
  refine lv_aload_n X.1 X.2.1 d_init_355 rfl (lv_at hl 0 rfl) ?_
  refine lv_bipush (v := (nI 40)) X.1 X.2.1 d_init_356 (by decide) ?_
  refine i_newa (k := 37) (f := 53) (N := 40) X Y hA (atype := .byte) (ty := .byte) rfl ra_byte ar_byte 0 (cE := E.1) rfl (a0 := (40, .inl (fun _ => 0))) (fun cA => vz_byte cA 40) (nI_pos (by decide)) (nI_clamp (by decide)) (by decide +kernel) (by decide +kernel) (by decide +kernel) (by decide) rfl rfl d_init_358 (fun q H Y => ?_)
  refine i_putr (k := 37) (f := 53) X Y (by decide) lk_name rfl rfl hin (t_M_ok 53 (by decide)) rfl rfl (by decide) rfl d_init_360 (fun H locs Y => ?_)
  refine lv_aload_n X.1 X.2.1 d_init_363 rfl (lv_at hl 0 rfl) ?_
  refine lv_bipush (v := (nI 32)) X.1 X.2.1 d_init_364 (by decide) ?_
  refine i_newa (k := 38) (f := 56) (N := 32) X Y hA (atype := .byte) (ty := .byte) rfl ra_byte ar_byte 0 (cE := E.1) rfl (a0 := (32, .inl (fun _ => 0))) (fun cA => vz_byte cA 32) (nI_pos (by decide)) (nI_clamp (by decide)) (by decide +kernel) (by decide +kernel) (by decide +kernel) (by decide) rfl rfl d_init_366 (fun q H Y => ?_)
  refine i_putr (k := 38) (f := 56) X Y (by decide) lk_made rfl rfl hin (t_M_ok 56 (by decide)) rfl rfl (by decide) rfl d_init_368 (fun H locs Y => ?_)
  refine lv_aload_n X.1 X.2.1 d_init_371 rfl (lv_at hl 0 rfl) ?_
  refine lv_bipush (v := (nI 32)) X.1 X.2.1 d_init_372 (by decide) ?_
  refine i_puti (f := 57) X Y (by decide) lk_most rfl rfl (t_M_ok 57 (by decide)) rfl rfl rfl rfl d_init_374 (fun H locs Y => ?_)
  refine lv_aload_n X.1 X.2.1 d_init_377 rfl (lv_at hl 0 rfl) ?_
  refine lv_bipush (v := (nI 32)) X.1 X.2.1 d_init_378 (by decide) ?_
  refine i_newa (k := 39) (f := 58) (N := 32) X Y hA (atype := .byte) (ty := .byte) rfl ra_byte ar_byte 0 (cE := E.1) rfl (a0 := (32, .inl (fun _ => 0))) (fun cA => vz_byte cA 32) (nI_pos (by decide)) (nI_clamp (by decide)) (by decide +kernel) (by decide +kernel) (by decide +kernel) (by decide) rfl rfl d_init_380 (fun q H Y => ?_)
  refine i_putr (k := 39) (f := 58) X Y (by decide) lk_key rfl rfl hin (t_M_ok 58 (by decide)) rfl rfl (by decide) rfl d_init_382 (fun H locs Y => ?_)
  refine lv_aload_n X.1 X.2.1 d_init_385 rfl (lv_at hl 0 rfl) ?_
  refine lv_bipush (v := (nI 32)) X.1 X.2.1 d_init_386 (by decide) ?_
  refine i_newa (k := 40) (f := 59) (N := 32) X Y hA (atype := .byte) (ty := .byte) rfl ra_byte ar_byte 0 (cE := E.1) rfl (a0 := (32, .inl (fun _ => 0))) (fun cA => vz_byte cA 32) (nI_pos (by decide)) (nI_clamp (by decide)) (by decide +kernel) (by decide +kernel) (by decide +kernel) (by decide) rfl rfl d_init_388 (fun q H Y => ?_)
  refine i_putr (k := 40) (f := 59) X Y (by decide) lk_sub rfl rfl hin (t_M_ok 59 (by decide)) rfl rfl (by decide) rfl d_init_390 (fun H locs Y => ?_)
  refine lv_aload_n X.1 X.2.1 d_init_393 rfl (lv_at hl 0 rfl) ?_
  refine lv_bipush (v := (nI 32)) X.1 X.2.1 d_init_394 (by decide) ?_
  refine i_newa (k := 41) (f := 60) (N := 32) X Y hA (atype := .byte) (ty := .byte) rfl ra_byte ar_byte 0 (cE := E.1) rfl (a0 := (32, .inl (fun _ => 0))) (fun cA => vz_byte cA 32) (nI_pos (by decide)) (nI_clamp (by decide)) (by decide +kernel) (by decide +kernel) (by decide +kernel) (by decide) rfl rfl d_init_396 (fun q H Y => ?_)
  refine i_putr (k := 41) (f := 60) X Y (by decide) lk_fresh rfl rfl hin (t_M_ok 60 (by decide)) rfl rfl (by decide) rfl d_init_398 (fun H locs Y => ?_)
  refine lv_aload_n X.1 X.2.1 d_init_401 rfl (lv_at hl 0 rfl) ?_
  refine lv_sipush (v := (nI 18304)) X.1 X.2.1 d_init_402 (by decide) ?_
  refine i_newa (k := 42) (f := 61) (N := 18304) X Y hA (atype := .byte) (ty := .byte) rfl ra_byte ar_byte 0 (cE := E.1) rfl (a0 := (18304, .inl (fun _ => 0))) (fun cA => vz_byte cA 18304) (nI_pos (by decide)) (nI_clamp (by decide)) (by decide +kernel) (by decide +kernel) (by decide +kernel) (by decide) rfl rfl d_init_405 (fun q H Y => ?_)
  refine i_putr (k := 42) (f := 61) X Y (by decide) lk_seenNames rfl rfl hin (t_M_ok 61 (by decide)) rfl rfl (by decide) rfl d_init_407 (fun H locs Y => ?_)
  refine lv_aload_n X.1 X.2.1 d_init_410 rfl (lv_at hl 0 rfl) ?_
  refine lv_sipush (v := (nI 416)) X.1 X.2.1 d_init_411 (by decide) ?_
  refine i_newa (k := 43) (f := 62) (N := 416) X Y hA (atype := .int) (ty := .int) rfl ra_int ar_int 1 (cE := E.2.1) rfl (a0 := (416, .inl (fun _ => 0))) (fun cA => vz_int cA 416) (nI_pos (by decide)) (nI_clamp (by decide)) (by decide +kernel) (by decide +kernel) (by decide +kernel) (by decide) rfl rfl d_init_414 (fun q H Y => ?_)
  refine i_putr (k := 43) (f := 62) X Y (by decide) lk_seenSizes rfl rfl hin (t_M_ok 62 (by decide)) rfl rfl (by decide) rfl d_init_416 (fun H locs Y => ?_)
  refine lv_aload_n X.1 X.2.1 d_init_419 rfl (lv_at hl 0 rfl) ?_
  refine lv_sipush (v := (nI 416)) X.1 X.2.1 d_init_420 (by decide) ?_
  refine i_newa (k := 44) (f := 63) (N := 416) X Y hA (atype := .int) (ty := .int) rfl ra_int ar_int 1 (cE := E.2.1) rfl (a0 := (416, .inl (fun _ => 0))) (fun cA => vz_int cA 416) (nI_pos (by decide)) (nI_clamp (by decide)) (by decide +kernel) (by decide +kernel) (by decide +kernel) (by decide) rfl rfl d_init_423 (fun q H Y => ?_)
  refine i_putr (k := 44) (f := 63) X Y (by decide) lk_seenMicros rfl rfl hin (t_M_ok 63 (by decide)) rfl rfl (by decide) rfl d_init_425 (fun H locs Y => ?_)
  refine lv_aload_n X.1 X.2.1 d_init_428 rfl (lv_at hl 0 rfl) ?_
  refine lv_bipush (v := (nI 13)) X.1 X.2.1 d_init_429 (by decide) ?_
  refine i_newa (k := 45) (f := 64) (N := 13) X Y hA (atype := .int) (ty := .int) rfl ra_int ar_int 1 (cE := E.2.1) rfl (a0 := (13, .inl (fun _ => 0))) (fun cA => vz_int cA 13) (nI_pos (by decide)) (nI_clamp (by decide)) (by decide +kernel) (by decide +kernel) (by decide +kernel) (by decide) rfl rfl d_init_431 (fun q H Y => ?_)
  refine i_putr (k := 45) (f := 64) X Y (by decide) lk_seenMany rfl rfl hin (t_M_ok 64 (by decide)) rfl rfl (by decide) rfl d_init_433 (fun H locs Y => ?_)
  refine lv_aload_n X.1 X.2.1 d_init_436 rfl (lv_at hl 0 rfl) ?_
  refine lv_sipush (v := (nI 416)) X.1 X.2.1 d_init_437 (by decide) ?_
  refine i_newa (k := 46) (f := 65) (N := 416) X Y hA (atype := .long) (ty := .long) rfl ra_long ar_long 2 (cE := E.2.2.1) rfl (a0 := (416, .inr (.inl (fun _ => 0)))) (fun cA => vz_long cA 416) (nI_pos (by decide)) (nI_clamp (by decide)) (by decide +kernel) (by decide +kernel) (by decide +kernel) (by decide) rfl rfl d_init_440 (fun q H Y => ?_)
  refine i_putr (k := 46) (f := 65) X Y (by decide) lk_seenTimes rfl rfl hin (t_M_ok 65 (by decide)) rfl rfl (by decide) rfl d_init_442 (fun H locs Y => ?_)
  refine lv_aload_n X.1 X.2.1 d_init_445 rfl (lv_at hl 0 rfl) ?_
  refine lv_iconst (v := (nI 4)) X.1 X.2.1 d_init_446 (by decide) ?_
  refine i_newa (k := 47) (f := 90) (N := 4) X Y hA (atype := .byte) (ty := .byte) rfl ra_byte ar_byte 0 (cE := E.1) rfl (a0 := (4, .inl (fun _ => 0))) (fun cA => vz_byte cA 4) (nI_pos (by decide)) (nI_clamp (by decide)) (by decide +kernel) (by decide +kernel) (by decide +kernel) (by decide) rfl rfl d_init_447 (fun q H Y => ?_)
  refine i_putr (k := 47) (f := 90) X Y (by decide) lk_rounds4 rfl rfl hin (t_M_ok 90 (by decide)) rfl rfl (by decide) rfl d_init_449 (fun H locs Y => ?_)
  refine lv_aload_n X.1 X.2.1 d_init_452 rfl (lv_at hl 0 rfl) ?_
  refine lv_iconst (v := (nI 4)) X.1 X.2.1 d_init_453 (by decide) ?_
  refine i_newa (k := 48) (f := 91) (N := 4) X Y hA (atype := .boolean) (ty := .boolean) rfl ra_boolean ar_boolean 3 (cE := E.2.2.2) rfl (a0 := (4, .inl (fun _ => 0))) (fun cA => vz_boolean cA 4) (nI_pos (by decide)) (nI_clamp (by decide)) (by decide +kernel) (by decide +kernel) (by decide +kernel) (by decide) rfl rfl d_init_454 (fun q H Y => ?_)
  refine i_putr (k := 48) (f := 91) X Y (by decide) lk_isAgent rfl rfl hin (t_M_ok 91 (by decide)) rfl rfl (by decide) rfl d_init_456 (fun H locs Y => ?_)
  refine lv_aload_n X.1 X.2.1 d_init_459 rfl (lv_at hl 0 rfl) ?_
  refine lv_sipush (v := (nI 160)) X.1 X.2.1 d_init_460 (by decide) ?_
  refine i_newa (k := 49) (f := 92) (N := 160) X Y hA (atype := .byte) (ty := .byte) rfl ra_byte ar_byte 0 (cE := E.1) rfl (a0 := (160, .inl (fun _ => 0))) (fun cA => vz_byte cA 160) (nI_pos (by decide)) (nI_clamp (by decide)) (by decide +kernel) (by decide +kernel) (by decide +kernel) (by decide) rfl rfl d_init_463 (fun q H Y => ?_)
  refine i_putr (k := 49) (f := 92) X Y (by decide) lk_agentNames rfl rfl hin (t_M_ok 92 (by decide)) rfl rfl (by decide) rfl d_init_465 (fun H locs Y => ?_)
  refine lv_aload_n X.1 X.2.1 d_init_468 rfl (lv_at hl 0 rfl) ?_
  refine lv_iconst (v := (nI 4)) X.1 X.2.1 d_init_469 (by decide) ?_
  refine i_newa (k := 50) (f := 93) (N := 4) X Y hA (atype := .int) (ty := .int) rfl ra_int ar_int 1 (cE := E.2.1) rfl (a0 := (4, .inl (fun _ => 0))) (fun cA => vz_int cA 4) (nI_pos (by decide)) (nI_clamp (by decide)) (by decide +kernel) (by decide +kernel) (by decide +kernel) (by decide) rfl rfl d_init_470 (fun q H Y => ?_)
  refine i_putr (k := 50) (f := 93) X Y (by decide) lk_agentSizes rfl rfl hin (t_M_ok 93 (by decide)) rfl rfl (by decide) rfl d_init_472 (fun H locs Y => ?_)
  refine lv_aload_n X.1 X.2.1 d_init_475 rfl (lv_at hl 0 rfl) ?_
  refine lv_iconst (v := (nI 4)) X.1 X.2.1 d_init_476 (by decide) ?_
  refine i_newa (k := 51) (f := 94) (N := 4) X Y hA (atype := .int) (ty := .int) rfl ra_int ar_int 1 (cE := E.2.1) rfl (a0 := (4, .inl (fun _ => 0))) (fun cA => vz_int cA 4) (nI_pos (by decide)) (nI_clamp (by decide)) (by decide +kernel) (by decide +kernel) (by decide +kernel) (by decide) rfl rfl d_init_477 (fun q H Y => ?_)
  refine i_putr (k := 51) (f := 94) X Y (by decide) lk_shifts rfl rfl hin (t_M_ok 94 (by decide)) rfl rfl (by decide) rfl d_init_479 (fun H locs Y => ?_)
  refine lv_aload_n X.1 X.2.1 d_init_482 rfl (lv_at hl 0 rfl) ?_
  refine lv_iconst (v := (nI 4)) X.1 X.2.1 d_init_483 (by decide) ?_
  refine i_newa (k := 52) (f := 95) (N := 4) X Y hA (atype := .int) (ty := .int) rfl ra_int ar_int 1 (cE := E.2.1) rfl (a0 := (4, .inl (fun _ => 0))) (fun cA => vz_int cA 4) (nI_pos (by decide)) (nI_clamp (by decide)) (by decide +kernel) (by decide +kernel) (by decide +kernel) (by decide) rfl rfl d_init_484 (fun q H Y => ?_)
  refine i_putr (k := 52) (f := 95) X Y (by decide) lk_micros rfl rfl hin (t_M_ok 95 (by decide)) rfl rfl (by decide) rfl d_init_486 (fun H locs Y => ?_)
  refine lv_aload_n X.1 X.2.1 d_init_489 rfl (lv_at hl 0 rfl) ?_
  refine lv_sipush (v := (nI 256)) X.1 X.2.1 d_init_490 (by decide) ?_
  refine i_newa (k := 53) (f := 96) (N := 256) X Y hA (atype := .byte) (ty := .byte) rfl ra_byte ar_byte 0 (cE := E.1) rfl (a0 := (256, .inl (fun _ => 0))) (fun cA => vz_byte cA 256) (nI_pos (by decide)) (nI_clamp (by decide)) (by decide +kernel) (by decide +kernel) (by decide +kernel) (by decide) rfl rfl d_init_493 (fun q H Y => ?_)
  refine i_putr (k := 53) (f := 96) X Y (by decide) lk_agentKeys rfl rfl hin (t_M_ok 96 (by decide)) rfl rfl (by decide) rfl d_init_495 (fun H locs Y => ?_)
  refine lv_aload_n X.1 X.2.1 d_init_498 rfl (lv_at hl 0 rfl) ?_
  refine lv_bipush (v := (nI 32)) X.1 X.2.1 d_init_499 (by decide) ?_
  refine i_newa (k := 54) (f := 97) (N := 32) X Y hA (atype := .boolean) (ty := .boolean) rfl ra_boolean ar_boolean 3 (cE := E.2.2.2) rfl (a0 := (32, .inl (fun _ => 0))) (fun cA => vz_boolean cA 32) (nI_pos (by decide)) (nI_clamp (by decide)) (by decide +kernel) (by decide +kernel) (by decide +kernel) (by decide) rfl rfl d_init_501 (fun q H Y => ?_)
  refine i_putr (k := 54) (f := 97) X Y (by decide) lk_isTicket rfl rfl hin (t_M_ok 97 (by decide)) rfl rfl (by decide) rfl d_init_503 (fun H locs Y => ?_)
  refine lv_aload_n X.1 X.2.1 d_init_506 rfl (lv_at hl 0 rfl) ?_
  refine lv_ldc (v := (134400)) X.1 X.2.1 X.2.2.2.1 (X.2.2.1 _ cn_187) d_init_507 ?_
  refine t_eq (y := nI 134400) (by decide) ?_
  refine i_newa (k := 55) (f := 98) (N := 134400) X Y hA (atype := .byte) (ty := .byte) rfl ra_byte ar_byte 0 (cE := E.1) rfl (a0 := (134400, .inl (fun _ => 0))) (fun cA => vz_byte cA 134400) (nI_pos (by decide)) (nI_clamp (by decide)) (by decide +kernel) (by decide +kernel) (by decide +kernel) (by decide) rfl rfl d_init_509 (fun q H Y => ?_)
  refine i_putr (k := 55) (f := 98) X Y (by decide) lk_ticketBytes rfl rfl hin (t_M_ok 98 (by decide)) rfl rfl (by decide) rfl d_init_511 (fun H locs Y => ?_)
  refine lv_aload_n X.1 X.2.1 d_init_514 rfl (lv_at hl 0 rfl) ?_
  refine lv_sipush (v := (nI 1024)) X.1 X.2.1 d_init_515 (by decide) ?_
  refine i_newa (k := 56) (f := 99) (N := 1024) X Y hA (atype := .byte) (ty := .byte) rfl ra_byte ar_byte 0 (cE := E.1) rfl (a0 := (1024, .inl (fun _ => 0))) (fun cA => vz_byte cA 1024) (nI_pos (by decide)) (nI_clamp (by decide)) (by decide +kernel) (by decide +kernel) (by decide +kernel) (by decide) rfl rfl d_init_518 (fun q H Y => ?_)
  refine i_putr (k := 56) (f := 99) X Y (by decide) lk_ticketKeys rfl rfl hin (t_M_ok 99 (by decide)) rfl rfl (by decide) rfl d_init_520 (fun H locs Y => ?_)
  refine lv_aload_n X.1 X.2.1 d_init_523 rfl (lv_at hl 0 rfl) ?_
  refine lv_bipush (v := (nI 32)) X.1 X.2.1 d_init_524 (by decide) ?_
  refine i_newa (k := 57) (f := 100) (N := 32) X Y hA (atype := .int) (ty := .int) rfl ra_int ar_int 1 (cE := E.2.1) rfl (a0 := (32, .inl (fun _ => 0))) (fun cA => vz_int cA 32) (nI_pos (by decide)) (nI_clamp (by decide)) (by decide +kernel) (by decide +kernel) (by decide +kernel) (by decide) rfl rfl d_init_526 (fun q H Y => ?_)
  refine i_putr (k := 57) (f := 100) X Y (by decide) lk_ticketSizes rfl rfl hin (t_M_ok 100 (by decide)) rfl rfl (by decide) rfl d_init_528 (fun H locs Y => ?_)
  refine lv_aload_n X.1 X.2.1 d_init_531 rfl (lv_at hl 0 rfl) ?_
  refine lv_bipush (v := (nI 32)) X.1 X.2.1 d_init_532 (by decide) ?_
  refine i_newa (k := 58) (f := 101) (N := 32) X Y hA (atype := .int) (ty := .int) rfl ra_int ar_int 1 (cE := E.2.1) rfl (a0 := (32, .inl (fun _ => 0))) (fun cA => vz_int cA 32) (nI_pos (by decide)) (nI_clamp (by decide)) (by decide +kernel) (by decide +kernel) (by decide +kernel) (by decide) rfl rfl d_init_534 (fun q H Y => ?_)
  refine i_putr (k := 58) (f := 101) X Y (by decide) lk_ticketFlags rfl rfl hin (t_M_ok 101 (by decide)) rfl rfl (by decide) rfl d_init_536 (fun H locs Y => ?_)
  refine lv_aload_n X.1 X.2.1 d_init_539 rfl (lv_at hl 0 rfl) ?_
  refine lv_bipush (v := (nI 32)) X.1 X.2.1 d_init_540 (by decide) ?_
  refine i_newa (k := 59) (f := 102) (N := 32) X Y hA (atype := .int) (ty := .int) rfl ra_int ar_int 1 (cE := E.2.1) rfl (a0 := (32, .inl (fun _ => 0))) (fun cA => vz_int cA 32) (nI_pos (by decide)) (nI_clamp (by decide)) (by decide +kernel) (by decide +kernel) (by decide +kernel) (by decide) rfl rfl d_init_542 (fun q H Y => ?_)
  refine i_putr (k := 59) (f := 102) X Y (by decide) lk_ticketTypes rfl rfl hin (t_M_ok 102 (by decide)) rfl rfl (by decide) rfl d_init_544 (fun H locs Y => ?_)
  refine lv_aload_n X.1 X.2.1 d_init_547 rfl (lv_at hl 0 rfl) ?_
  refine lv_bipush (v := (nI 32)) X.1 X.2.1 d_init_548 (by decide) ?_
  refine i_newa (k := 60) (f := 103) (N := 32) X Y hA (atype := .long) (ty := .long) rfl ra_long ar_long 2 (cE := E.2.2.1) rfl (a0 := (32, .inr (.inl (fun _ => 0)))) (fun cA => vz_long cA 32) (nI_pos (by decide)) (nI_clamp (by decide)) (by decide +kernel) (by decide +kernel) (by decide +kernel) (by decide) rfl rfl d_init_550 (fun q H Y => ?_)
  refine i_putr (k := 60) (f := 103) X Y (by decide) lk_authTimes rfl rfl hin (t_M_ok 103 (by decide)) rfl rfl (by decide) rfl d_init_552 (fun H locs Y => ?_)
  refine lv_aload_n X.1 X.2.1 d_init_555 rfl (lv_at hl 0 rfl) ?_
  refine lv_bipush (v := (nI 32)) X.1 X.2.1 d_init_556 (by decide) ?_
  refine i_newa (k := 61) (f := 104) (N := 32) X Y hA (atype := .long) (ty := .long) rfl ra_long ar_long 2 (cE := E.2.2.1) rfl (a0 := (32, .inr (.inl (fun _ => 0)))) (fun cA => vz_long cA 32) (nI_pos (by decide)) (nI_clamp (by decide)) (by decide +kernel) (by decide +kernel) (by decide +kernel) (by decide) rfl rfl d_init_558 (fun q H Y => ?_)
  refine i_putr (k := 61) (f := 104) X Y (by decide) lk_startTimes rfl rfl hin (t_M_ok 104 (by decide)) rfl rfl (by decide) rfl d_init_560 (fun H locs Y => ?_)
  refine lv_aload_n X.1 X.2.1 d_init_563 rfl (lv_at hl 0 rfl) ?_
  refine lv_bipush (v := (nI 32)) X.1 X.2.1 d_init_564 (by decide) ?_
  refine i_newa (k := 62) (f := 105) (N := 32) X Y hA (atype := .long) (ty := .long) rfl ra_long ar_long 2 (cE := E.2.2.1) rfl (a0 := (32, .inr (.inl (fun _ => 0)))) (fun cA => vz_long cA 32) (nI_pos (by decide)) (nI_clamp (by decide)) (by decide +kernel) (by decide +kernel) (by decide +kernel) (by decide) rfl rfl d_init_566 (fun q H Y => ?_)
  refine i_putr (k := 62) (f := 105) X Y (by decide) lk_endTimes rfl rfl hin (t_M_ok 105 (by decide)) rfl rfl (by decide) rfl d_init_568 (fun H locs Y => ?_)
  refine lv_aload_n X.1 X.2.1 d_init_571 rfl (lv_at hl 0 rfl) ?_
  refine lv_bipush (v := (nI 32)) X.1 X.2.1 d_init_572 (by decide) ?_
  refine i_newa (k := 63) (f := 106) (N := 32) X Y hA (atype := .long) (ty := .long) rfl ra_long ar_long 2 (cE := E.2.2.1) rfl (a0 := (32, .inr (.inl (fun _ => 0)))) (fun cA => vz_long cA 32) (nI_pos (by decide)) (nI_clamp (by decide)) (by decide +kernel) (by decide +kernel) (by decide +kernel) (by decide) rfl rfl d_init_574 (fun q H Y => ?_)
  refine i_putr (k := 63) (f := 106) X Y (by decide) lk_renewTimes rfl rfl hin (t_M_ok 106 (by decide)) rfl rfl (by decide) rfl d_init_576 (fun H locs Y => ?_)
  refine lv_aload_n X.1 X.2.1 d_init_579 rfl (lv_at hl 0 rfl) ?_
  refine lv_sipush (v := (nI 12800)) X.1 X.2.1 d_init_580 (by decide) ?_
  refine i_newa (k := 64) (f := 107) (N := 12800) X Y hA (atype := .byte) (ty := .byte) rfl ra_byte ar_byte 0 (cE := E.1) rfl (a0 := (12800, .inl (fun _ => 0))) (fun cA => vz_byte cA 12800) (nI_pos (by decide)) (nI_clamp (by decide)) (by decide +kernel) (by decide +kernel) (by decide +kernel) (by decide) rfl rfl d_init_583 (fun q H Y => ?_)
  refine i_putr (k := 64) (f := 107) X Y (by decide) lk_clientBytes rfl rfl hin (t_M_ok 107 (by decide)) rfl rfl (by decide) rfl d_init_585 (fun H locs Y => ?_)
  refine lv_aload_n X.1 X.2.1 d_init_588 rfl (lv_at hl 0 rfl) ?_
  refine lv_bipush (v := (nI 32)) X.1 X.2.1 d_init_589 (by decide) ?_
  refine i_newa (k := 65) (f := 108) (N := 32) X Y hA (atype := .int) (ty := .int) rfl ra_int ar_int 1 (cE := E.2.1) rfl (a0 := (32, .inl (fun _ => 0))) (fun cA => vz_int cA 32) (nI_pos (by decide)) (nI_clamp (by decide)) (by decide +kernel) (by decide +kernel) (by decide +kernel) (by decide) rfl rfl d_init_591 (fun q H Y => ?_)
  refine i_putr (k := 65) (f := 108) X Y (by decide) lk_realmSizes rfl rfl hin (t_M_ok 108 (by decide)) rfl rfl (by decide) rfl d_init_593 (fun H locs Y => ?_)
  refine lv_aload_n X.1 X.2.1 d_init_596 rfl (lv_at hl 0 rfl) ?_
  refine lv_bipush (v := (nI 32)) X.1 X.2.1 d_init_597 (by decide) ?_
  refine i_newa (k := 66) (f := 109) (N := 32) X Y hA (atype := .int) (ty := .int) rfl ra_int ar_int 1 (cE := E.2.1) rfl (a0 := (32, .inl (fun _ => 0))) (fun cA => vz_int cA 32) (nI_pos (by decide)) (nI_clamp (by decide)) (by decide +kernel) (by decide +kernel) (by decide +kernel) (by decide) rfl rfl d_init_599 (fun q H Y => ?_)
  refine i_putr (k := 66) (f := 109) X Y (by decide) lk_clientSizes rfl rfl hin (t_M_ok 109 (by decide)) rfl rfl (by decide) rfl d_init_601 (fun H locs Y => ?_)
  refine lv_aload_n X.1 X.2.1 d_init_604 rfl (lv_at hl 0 rfl) ?_
  refine lv_iconst (v := (nI 4)) X.1 X.2.1 d_init_605 (by decide) ?_
  refine i_newa (k := 67) (f := 110) (N := 4) X Y hA (atype := .int) (ty := .int) rfl ra_int ar_int 1 (cE := E.2.1) rfl (a0 := (4, .inl (fun _ => 0))) (fun cA => vz_int cA 4) (nI_pos (by decide)) (nI_clamp (by decide)) (by decide +kernel) (by decide +kernel) (by decide +kernel) (by decide) rfl rfl d_init_606 (fun q H Y => ?_)
  refine i_putr (k := 67) (f := 110) X Y (by decide) lk_askedKind rfl rfl hin (t_M_ok 110 (by decide)) rfl rfl (by decide) rfl d_init_608 (fun H locs Y => ?_)
  refine lv_aload_n X.1 X.2.1 d_init_611 rfl (lv_at hl 0 rfl) ?_
  refine lv_iconst (v := (nI 4)) X.1 X.2.1 d_init_612 (by decide) ?_
  refine i_newa (k := 68) (f := 111) (N := 4) X Y hA (atype := .int) (ty := .int) rfl ra_int ar_int 1 (cE := E.2.1) rfl (a0 := (4, .inl (fun _ => 0))) (fun cA => vz_int cA 4) (nI_pos (by decide)) (nI_clamp (by decide)) (by decide +kernel) (by decide +kernel) (by decide +kernel) (by decide) rfl rfl d_init_613 (fun q H Y => ?_)
  refine i_putr (k := 68) (f := 111) X Y (by decide) lk_askedTypes rfl rfl hin (t_M_ok 111 (by decide)) rfl rfl (by decide) rfl d_init_615 (fun H locs Y => ?_)
  refine lv_aload_n X.1 X.2.1 d_init_618 rfl (lv_at hl 0 rfl) ?_
  refine lv_iconst (v := (nI 4)) X.1 X.2.1 d_init_619 (by decide) ?_
  refine i_newa (k := 69) (f := 112) (N := 4) X Y hA (atype := .int) (ty := .int) rfl ra_int ar_int 1 (cE := E.2.1) rfl (a0 := (4, .inl (fun _ => 0))) (fun cA => vz_int cA 4) (nI_pos (by decide)) (nI_clamp (by decide)) (by decide +kernel) (by decide +kernel) (by decide +kernel) (by decide) rfl rfl d_init_620 (fun q H Y => ?_)
  refine i_putr (k := 69) (f := 112) X Y (by decide) lk_askedSub rfl rfl hin (t_M_ok 112 (by decide)) rfl rfl (by decide) rfl d_init_622 (fun H locs Y => ?_)
  refine lv_aload_n X.1 X.2.1 d_init_625 rfl (lv_at hl 0 rfl) ?_
  refine lv_iconst (v := (nI 4)) X.1 X.2.1 d_init_626 (by decide) ?_
  refine i_newa (k := 70) (f := 113) (N := 4) X Y hA (atype := .int) (ty := .int) rfl ra_int ar_int 1 (cE := E.2.1) rfl (a0 := (4, .inl (fun _ => 0))) (fun cA => vz_int cA 4) (nI_pos (by decide)) (nI_clamp (by decide)) (by decide +kernel) (by decide +kernel) (by decide +kernel) (by decide) rfl rfl d_init_627 (fun q H Y => ?_)
  refine i_putr (k := 70) (f := 113) X Y (by decide) lk_askedSize rfl rfl hin (t_M_ok 113 (by decide)) rfl rfl (by decide) rfl d_init_629 (fun H locs Y => ?_)
  refine lv_aload_n X.1 X.2.1 d_init_632 rfl (lv_at hl 0 rfl) ?_
  refine lv_iconst (v := (nI 4)) X.1 X.2.1 d_init_633 (by decide) ?_
  refine i_newa (k := 71) (f := 114) (N := 4) X Y hA (atype := .long) (ty := .long) rfl ra_long ar_long 2 (cE := E.2.2.1) rfl (a0 := (4, .inr (.inl (fun _ => 0)))) (fun cA => vz_long cA 4) (nI_pos (by decide)) (nI_clamp (by decide)) (by decide +kernel) (by decide +kernel) (by decide +kernel) (by decide) rfl rfl d_init_634 (fun q H Y => ?_)
  refine i_putr (k := 71) (f := 114) X Y (by decide) lk_askedNonce rfl rfl hin (t_M_ok 114 (by decide)) rfl rfl (by decide) rfl d_init_636 (fun H locs Y => ?_)
  refine lv_aload_n X.1 X.2.1 d_init_639 rfl (lv_at hl 0 rfl) ?_
  refine lv_iconst (v := (nI 4)) X.1 X.2.1 d_init_640 (by decide) ?_
  refine i_newa (k := 72) (f := 115) (N := 4) X Y hA (atype := .boolean) (ty := .boolean) rfl ra_boolean ar_boolean 3 (cE := E.2.2.2) rfl (a0 := (4, .inl (fun _ => 0))) (fun cA => vz_boolean cA 4) (nI_pos (by decide)) (nI_clamp (by decide)) (by decide +kernel) (by decide +kernel) (by decide +kernel) (by decide) rfl rfl d_init_641 (fun q H Y => ?_)
  refine i_putr (k := 72) (f := 115) X Y (by decide) lk_askedRenew rfl rfl hin (t_M_ok 115 (by decide)) rfl rfl (by decide) rfl d_init_643 (fun H locs Y => ?_)
  refine lv_aload_n X.1 X.2.1 d_init_646 rfl (lv_at hl 0 rfl) ?_
  refine lv_sipush (v := (nI 128)) X.1 X.2.1 d_init_647 (by decide) ?_
  refine i_newa (k := 73) (f := 116) (N := 128) X Y hA (atype := .byte) (ty := .byte) rfl ra_byte ar_byte 0 (cE := E.1) rfl (a0 := (128, .inl (fun _ => 0))) (fun cA => vz_byte cA 128) (nI_pos (by decide)) (nI_clamp (by decide)) (by decide +kernel) (by decide +kernel) (by decide +kernel) (by decide) rfl rfl d_init_650 (fun q H Y => ?_)
  refine i_putr (k := 73) (f := 116) X Y (by decide) lk_askedKeys rfl rfl hin (t_M_ok 116 (by decide)) rfl rfl (by decide) rfl d_init_652 (fun H locs Y => ?_)
  refine lv_aload_n X.1 X.2.1 d_init_655 rfl (lv_at hl 0 rfl) ?_
  refine lv_sipush (v := (nI 160)) X.1 X.2.1 d_init_656 (by decide) ?_
  refine i_newa (k := 74) (f := 117) (N := 160) X Y hA (atype := .byte) (ty := .byte) rfl ra_byte ar_byte 0 (cE := E.1) rfl (a0 := (160, .inl (fun _ => 0))) (fun cA => vz_byte cA 160) (nI_pos (by decide)) (nI_clamp (by decide)) (by decide +kernel) (by decide +kernel) (by decide +kernel) (by decide) rfl rfl d_init_659 (fun q H Y => ?_)
  refine i_putr (k := 74) (f := 117) X Y (by decide) lk_askedNames rfl rfl hin (t_M_ok 117 (by decide)) rfl rfl (by decide) rfl d_init_661 (fun H locs Y => ?_)
  refine lv_aload_n X.1 X.2.1 d_init_664 rfl (lv_at hl 0 rfl) ?_
  refine lv_sipush (v := (nI 1600)) X.1 X.2.1 d_init_665 (by decide) ?_
  refine i_newa (k := 75) (f := 118) (N := 1600) X Y hA (atype := .byte) (ty := .byte) rfl ra_byte ar_byte 0 (cE := E.1) rfl (a0 := (1600, .inl (fun _ => 0))) (fun cA => vz_byte cA 1600) (nI_pos (by decide)) (nI_clamp (by decide)) (by decide +kernel) (by decide +kernel) (by decide +kernel) (by decide) rfl rfl d_init_668 (fun q H Y => ?_)
  refine i_putr (k := 75) (f := 118) X Y (by decide) lk_askedClients rfl rfl hin (t_M_ok 118 (by decide)) rfl rfl (by decide) rfl d_init_670 (fun H locs Y => ?_)
  refine lv_aload_n X.1 X.2.1 d_init_673 rfl (lv_at hl 0 rfl) ?_
  refine lv_iconst (v := (nI 4)) X.1 X.2.1 d_init_674 (by decide) ?_
  refine i_newa (k := 76) (f := 119) (N := 4) X Y hA (atype := .int) (ty := .int) rfl ra_int ar_int 1 (cE := E.2.1) rfl (a0 := (4, .inl (fun _ => 0))) (fun cA => vz_int cA 4) (nI_pos (by decide)) (nI_clamp (by decide)) (by decide +kernel) (by decide +kernel) (by decide +kernel) (by decide) rfl rfl d_init_675 (fun q H Y => ?_)
  refine i_putr (k := 76) (f := 119) X Y (by decide) lk_askedRealm rfl rfl hin (t_M_ok 119 (by decide)) rfl rfl (by decide) rfl d_init_677 (fun H locs Y => ?_)
  refine lv_aload_n X.1 X.2.1 d_init_680 rfl (lv_at hl 0 rfl) ?_
  refine lv_iconst (v := (nI 4)) X.1 X.2.1 d_init_681 (by decide) ?_
  refine i_newa (k := 77) (f := 120) (N := 4) X Y hA (atype := .int) (ty := .int) rfl ra_int ar_int 1 (cE := E.2.1) rfl (a0 := (4, .inl (fun _ => 0))) (fun cA => vz_int cA 4) (nI_pos (by decide)) (nI_clamp (by decide)) (by decide +kernel) (by decide +kernel) (by decide +kernel) (by decide) rfl rfl d_init_682 (fun q H Y => ?_)
  refine i_putr (k := 77) (f := 120) X Y (by decide) lk_askedClient rfl rfl hin (t_M_ok 120 (by decide)) rfl rfl (by decide) rfl d_init_684 (fun H locs Y => ?_)
  refine lv_aload_n X.1 X.2.1 d_init_687 rfl (lv_at hl 0 rfl) ?_
  refine lv_iconst (v := (nI 4)) X.1 X.2.1 d_init_688 (by decide) ?_
  refine i_newa (k := 78) (f := 121) (N := 4) X Y hA (atype := .boolean) (ty := .boolean) rfl ra_boolean ar_boolean 3 (cE := E.2.2.2) rfl (a0 := (4, .inl (fun _ => 0))) (fun cA => vz_boolean cA 4) (nI_pos (by decide)) (nI_clamp (by decide)) (by decide +kernel) (by decide +kernel) (by decide +kernel) (by decide) rfl rfl d_init_689 (fun q H Y => ?_)
  refine i_putr (k := 78) (f := 121) X Y (by decide) lk_wantsMet rfl rfl hin (t_M_ok 121 (by decide)) rfl rfl (by decide) rfl d_init_691 (fun H locs Y => ?_)
  refine lv_aload_n X.1 X.2.1 d_init_694 rfl (lv_at hl 0 rfl) ?_
  refine lv_iconst (v := (nI 4)) X.1 X.2.1 d_init_695 (by decide) ?_
  refine i_newa (k := 79) (f := 122) (N := 4) X Y hA (atype := .int) (ty := .int) rfl ra_int ar_int 1 (cE := E.2.1) rfl (a0 := (4, .inl (fun _ => 0))) (fun cA => vz_int cA 4) (nI_pos (by decide)) (nI_clamp (by decide)) (by decide +kernel) (by decide +kernel) (by decide +kernel) (by decide) rfl rfl d_init_696 (fun q H Y => ?_)
  refine i_putr (k := 79) (f := 122) X Y (by decide) lk_apType rfl rfl hin (t_M_ok 122 (by decide)) rfl rfl (by decide) rfl d_init_698 (fun H locs Y => ?_)
  refine lv_aload_n X.1 X.2.1 d_init_701 rfl (lv_at hl 0 rfl) ?_
  refine lv_iconst (v := (nI 4)) X.1 X.2.1 d_init_702 (by decide) ?_
  refine i_newa (k := 80) (f := 123) (N := 4) X Y hA (atype := .int) (ty := .int) rfl ra_int ar_int 1 (cE := E.2.1) rfl (a0 := (4, .inl (fun _ => 0))) (fun cA => vz_int cA 4) (nI_pos (by decide)) (nI_clamp (by decide)) (by decide +kernel) (by decide +kernel) (by decide +kernel) (by decide) rfl rfl d_init_703 (fun q H Y => ?_)
  refine i_putr (k := 80) (f := 123) X Y (by decide) lk_apSubType rfl rfl hin (t_M_ok 123 (by decide)) rfl rfl (by decide) rfl d_init_705 (fun H locs Y => ?_)
  refine lv_aload_n X.1 X.2.1 d_init_708 rfl (lv_at hl 0 rfl) ?_
  refine lv_iconst (v := (nI 4)) X.1 X.2.1 d_init_709 (by decide) ?_
  refine i_newa (k := 81) (f := 124) (N := 4) X Y hA (atype := .int) (ty := .int) rfl ra_int ar_int 1 (cE := E.2.1) rfl (a0 := (4, .inl (fun _ => 0))) (fun cA => vz_int cA 4) (nI_pos (by decide)) (nI_clamp (by decide)) (by decide +kernel) (by decide +kernel) (by decide +kernel) (by decide) rfl rfl d_init_710 (fun q H Y => ?_)
  refine i_putr (k := 81) (f := 124) X Y (by decide) lk_apMicros rfl rfl hin (t_M_ok 124 (by decide)) rfl rfl (by decide) rfl d_init_712 (fun H locs Y => ?_)
  refine lv_aload_n X.1 X.2.1 d_init_715 rfl (lv_at hl 0 rfl) ?_
  refine lv_iconst (v := (nI 4)) X.1 X.2.1 d_init_716 (by decide) ?_
  refine i_newa (k := 82) (f := 125) (N := 4) X Y hA (atype := .int) (ty := .int) rfl ra_int ar_int 1 (cE := E.2.1) rfl (a0 := (4, .inl (fun _ => 0))) (fun cA => vz_int cA 4) (nI_pos (by decide)) (nI_clamp (by decide)) (by decide +kernel) (by decide +kernel) (by decide +kernel) (by decide) rfl rfl d_init_717 (fun q H Y => ?_)
  refine i_putr (k := 82) (f := 125) X Y (by decide) lk_apSerial rfl rfl hin (t_M_ok 125 (by decide)) rfl rfl (by decide) rfl d_init_719 (fun H locs Y => ?_)
  refine lv_aload_n X.1 X.2.1 d_init_722 rfl (lv_at hl 0 rfl) ?_
  refine lv_sipush (v := (nI 128)) X.1 X.2.1 d_init_723 (by decide) ?_
  refine i_newa (k := 83) (f := 126) (N := 128) X Y hA (atype := .byte) (ty := .byte) rfl ra_byte ar_byte 0 (cE := E.1) rfl (a0 := (128, .inl (fun _ => 0))) (fun cA => vz_byte cA 128) (nI_pos (by decide)) (nI_clamp (by decide)) (by decide +kernel) (by decide +kernel) (by decide +kernel) (by decide) rfl rfl d_init_726 (fun q H Y => ?_)
  refine i_putr (k := 83) (f := 126) X Y (by decide) lk_apKeys rfl rfl hin (t_M_ok 126 (by decide)) rfl rfl (by decide) rfl d_init_728 (fun H locs Y => ?_)
  refine lv_aload_n X.1 X.2.1 d_init_731 rfl (lv_at hl 0 rfl) ?_
  refine lv_sipush (v := (nI 128)) X.1 X.2.1 d_init_732 (by decide) ?_
  refine i_newa (k := 84) (f := 127) (N := 128) X Y hA (atype := .byte) (ty := .byte) rfl ra_byte ar_byte 0 (cE := E.1) rfl (a0 := (128, .inl (fun _ => 0))) (fun cA => vz_byte cA 128) (nI_pos (by decide)) (nI_clamp (by decide)) (by decide +kernel) (by decide +kernel) (by decide +kernel) (by decide) rfl rfl d_init_735 (fun q H Y => ?_)
  refine i_putr (k := 84) (f := 127) X Y (by decide) lk_apSubs rfl rfl hin (t_M_ok 127 (by decide)) rfl rfl (by decide) rfl d_init_737 (fun H locs Y => ?_)
  refine lv_aload_n X.1 X.2.1 d_init_740 rfl (lv_at hl 0 rfl) ?_
  refine lv_iconst (v := (nI 4)) X.1 X.2.1 d_init_741 (by decide) ?_
  refine i_newa (k := 85) (f := 128) (N := 4) X Y hA (atype := .long) (ty := .long) rfl ra_long ar_long 2 (cE := E.2.2.1) rfl (a0 := (4, .inr (.inl (fun _ => 0)))) (fun cA => vz_long cA 4) (nI_pos (by decide)) (nI_clamp (by decide)) (by decide +kernel) (by decide +kernel) (by decide +kernel) (by decide) rfl rfl d_init_742 (fun q H Y => ?_)
  refine i_putr (k := 85) (f := 128) X Y (by decide) lk_apTime rfl rfl hin (t_M_ok 128 (by decide)) rfl rfl (by decide) rfl d_init_744 (fun H locs Y => ?_)
  refine lv_aload_n X.1 X.2.1 d_init_747 rfl (lv_at hl 0 rfl) ?_
  refine lv_iconst (v := (nI 4)) X.1 X.2.1 d_init_748 (by decide) ?_
  refine i_newa (k := 86) (f := 129) (N := 4) X Y hA (atype := .long) (ty := .long) rfl ra_long ar_long 2 (cE := E.2.2.1) rfl (a0 := (4, .inr (.inl (fun _ => 0)))) (fun cA => vz_long cA 4) (nI_pos (by decide)) (nI_clamp (by decide)) (by decide +kernel) (by decide +kernel) (by decide +kernel) (by decide) rfl rfl d_init_749 (fun q H Y => ?_)
  refine i_putr (k := 86) (f := 129) X Y (by decide) lk_apNumber rfl rfl hin (t_M_ok 129 (by decide)) rfl rfl (by decide) rfl d_init_751 (fun H locs Y => ?_)
  refine lv_aload_n X.1 X.2.1 d_init_754 rfl (lv_at hl 0 rfl) ?_
  refine lv_iconst (v := (nI 4)) X.1 X.2.1 d_init_755 (by decide) ?_
  refine i_newa (k := 87) (f := 130) (N := 4) X Y hA (atype := .long) (ty := .long) rfl ra_long ar_long 2 (cE := E.2.2.1) rfl (a0 := (4, .inr (.inl (fun _ => 0)))) (fun cA => vz_long cA 4) (nI_pos (by decide)) (nI_clamp (by decide)) (by decide +kernel) (by decide +kernel) (by decide +kernel) (by decide) rfl rfl d_init_756 (fun q H Y => ?_)
  refine i_putr (k := 87) (f := 130) X Y (by decide) lk_apOther rfl rfl hin (t_M_ok 130 (by decide)) rfl rfl (by decide) rfl d_init_758 (fun H locs Y => ?_)
  refine lv_aload_n X.1 X.2.1 d_init_761 rfl (lv_at hl 0 rfl) ?_
  refine lv_bipush (v := (nI 12)) X.1 X.2.1 d_init_762 (by decide) ?_
  refine i_newa (k := 88) (f := 132) (N := 12) X Y hA (atype := .byte) (ty := .byte) rfl ra_byte ar_byte 0 (cE := E.1) rfl (a0 := (12, .inl (fun _ => 0))) (fun cA => vz_byte cA 12) (nI_pos (by decide)) (nI_clamp (by decide)) (by decide +kernel) (by decide +kernel) (by decide +kernel) (by decide) rfl rfl d_init_764 (fun q H Y => ?_)
  refine i_putr (k := 88) (f := 132) X Y (by decide) lk_kept rfl rfl hin (t_M_ok 132 (by decide)) rfl rfl (by decide) rfl d_init_766 (fun H locs Y => ?_)
  refine lv_aload_n X.1 X.2.1 d_init_769 rfl (lv_at hl 0 rfl) ?_
  refine lv_bipush (v := (nI 8)) X.1 X.2.1 d_init_770 (by decide) ?_
  refine i_newa (k := 89) (f := 133) (N := 8) X Y hA (atype := .boolean) (ty := .boolean) rfl ra_boolean ar_boolean 3 (cE := E.2.2.2) rfl (a0 := (8, .inl (fun _ => 0))) (fun cA => vz_boolean cA 8) (nI_pos (by decide)) (nI_clamp (by decide)) (by decide +kernel) (by decide +kernel) (by decide +kernel) (by decide) rfl rfl d_init_772 (fun q H Y => ?_)
  refine i_putr (k := 89) (f := 133) X Y (by decide) lk_isSession rfl rfl hin (t_M_ok 133 (by decide)) rfl rfl (by decide) rfl d_init_774 (fun H locs Y => ?_)
  refine lv_aload_n X.1 X.2.1 d_init_777 rfl (lv_at hl 0 rfl) ?_
  refine lv_bipush (v := (nI 8)) X.1 X.2.1 d_init_778 (by decide) ?_
  refine i_newa (k := 90) (f := 134) (N := 8) X Y hA (atype := .int) (ty := .int) rfl ra_int ar_int 1 (cE := E.2.1) rfl (a0 := (8, .inl (fun _ => 0))) (fun cA => vz_int cA 8) (nI_pos (by decide)) (nI_clamp (by decide)) (by decide +kernel) (by decide +kernel) (by decide +kernel) (by decide) rfl rfl d_init_780 (fun q H Y => ?_)
  refine i_putr (k := 90) (f := 134) X Y (by decide) lk_sessionTypes rfl rfl hin (t_M_ok 134 (by decide)) rfl rfl (by decide) rfl d_init_782 (fun H locs Y => ?_)
  refine lv_aload_n X.1 X.2.1 d_init_785 rfl (lv_at hl 0 rfl) ?_
  refine lv_bipush (v := (nI 8)) X.1 X.2.1 d_init_786 (by decide) ?_
  refine i_newa (k := 91) (f := 135) (N := 8) X Y hA (atype := .int) (ty := .int) rfl ra_int ar_int 1 (cE := E.2.1) rfl (a0 := (8, .inl (fun _ => 0))) (fun cA => vz_int cA 8) (nI_pos (by decide)) (nI_clamp (by decide)) (by decide +kernel) (by decide +kernel) (by decide +kernel) (by decide) rfl rfl d_init_788 (fun q H Y => ?_)
  refine i_putr (k := 91) (f := 135) X Y (by decide) lk_sessionAgents rfl rfl hin (t_M_ok 135 (by decide)) rfl rfl (by decide) rfl d_init_790 (fun H locs Y => ?_)
  refine lv_aload_n X.1 X.2.1 d_init_793 rfl (lv_at hl 0 rfl) ?_
  refine lv_sipush (v := (nI 256)) X.1 X.2.1 d_init_794 (by decide) ?_
  refine i_newa (k := 92) (f := 136) (N := 256) X Y hA (atype := .byte) (ty := .byte) rfl ra_byte ar_byte 0 (cE := E.1) rfl (a0 := (256, .inl (fun _ => 0))) (fun cA => vz_byte cA 256) (nI_pos (by decide)) (nI_clamp (by decide)) (by decide +kernel) (by decide +kernel) (by decide +kernel) (by decide) rfl rfl d_init_797 (fun q H Y => ?_)
  refine i_putr (k := 92) (f := 136) X Y (by decide) lk_sessionKeys rfl rfl hin (t_M_ok 136 (by decide)) rfl rfl (by decide) rfl d_init_799 (fun H locs Y => ?_)
  refine lv_aload_n X.1 X.2.1 d_init_802 rfl (lv_at hl 0 rfl) ?_
  refine lv_bipush (v := (nI 16)) X.1 X.2.1 d_init_803 (by decide) ?_
  refine i_newa (k := 93) (f := 137) (N := 16) X Y hA (atype := .long) (ty := .long) rfl ra_long ar_long 2 (cE := E.2.2.1) rfl (a0 := (16, .inr (.inl (fun _ => 0)))) (fun cA => vz_long cA 16) (nI_pos (by decide)) (nI_clamp (by decide)) (by decide +kernel) (by decide +kernel) (by decide +kernel) (by decide) rfl rfl d_init_805 (fun q H Y => ?_)
  refine i_putr (k := 93) (f := 137) X Y (by decide) lk_ownNumber rfl rfl hin (t_M_ok 137 (by decide)) rfl rfl (by decide) rfl d_init_807 (fun H locs Y => ?_)
  refine lv_aload_n X.1 X.2.1 d_init_810 rfl (lv_at hl 0 rfl) ?_
  refine lv_bipush (v := (nI 16)) X.1 X.2.1 d_init_811 (by decide) ?_
  refine i_newa (k := 94) (f := 138) (N := 16) X Y hA (atype := .long) (ty := .long) rfl ra_long ar_long 2 (cE := E.2.2.1) rfl (a0 := (16, .inr (.inl (fun _ => 0)))) (fun cA => vz_long cA 16) (nI_pos (by decide)) (nI_clamp (by decide)) (by decide +kernel) (by decide +kernel) (by decide +kernel) (by decide) rfl rfl d_init_813 (fun q H Y => ?_)
  refine i_putr (k := 94) (f := 138) X Y (by decide) lk_dueNumber rfl rfl hin (t_M_ok 138 (by decide)) rfl rfl (by decide) rfl d_init_815 (fun H locs Y => ?_)
  refine lv_aload_n X.1 X.2.1 d_init_818 rfl (lv_at hl 0 rfl) ?_
  refine lv_bipush (v := (nI 8)) X.1 X.2.1 d_init_819 (by decide) ?_
  refine i_newa (k := 95) (f := 139) (N := 8) X Y hA (atype := .long) (ty := .long) rfl ra_long ar_long 2 (cE := E.2.2.1) rfl (a0 := (8, .inr (.inl (fun _ => 0)))) (fun cA => vz_long cA 8) (nI_pos (by decide)) (nI_clamp (by decide)) (by decide +kernel) (by decide +kernel) (by decide +kernel) (by decide) rfl rfl d_init_821 (fun q H Y => ?_)
  refine i_putr (k := 95) (f := 139) X Y (by decide) lk_beganTime rfl rfl hin (t_M_ok 139 (by decide)) rfl rfl (by decide) rfl d_init_823 (fun H locs Y => ?_)
  refine lv_aload_n X.1 X.2.1 d_init_826 rfl (lv_at hl 0 rfl) ?_
  refine lv_bipush (v := (nI 8)) X.1 X.2.1 d_init_827 (by decide) ?_
  refine i_newa (k := 96) (f := 140) (N := 8) X Y hA (atype := .long) (ty := .long) rfl ra_long ar_long 2 (cE := E.2.2.1) rfl (a0 := (8, .inr (.inl (fun _ => 0)))) (fun cA => vz_long cA 8) (nI_pos (by decide)) (nI_clamp (by decide)) (by decide +kernel) (by decide +kernel) (by decide +kernel) (by decide) rfl rfl d_init_829 (fun q H Y => ?_)
  refine i_putr (k := 96) (f := 140) X Y (by decide) lk_beganNumber rfl rfl hin (t_M_ok 140 (by decide)) rfl rfl (by decide) rfl d_init_831 (fun H locs Y => ?_)
  refine lv_aload_n X.1 X.2.1 d_init_834 rfl (lv_at hl 0 rfl) ?_
  refine lv_bipush (v := (nI 8)) X.1 X.2.1 d_init_835 (by decide) ?_
  refine i_newa (k := 97) (f := 141) (N := 8) X Y hA (atype := .int) (ty := .int) rfl ra_int ar_int 1 (cE := E.2.1) rfl (a0 := (8, .inl (fun _ => 0))) (fun cA => vz_int cA 8) (nI_pos (by decide)) (nI_clamp (by decide)) (by decide +kernel) (by decide +kernel) (by decide +kernel) (by decide) rfl rfl d_init_837 (fun q H Y => ?_)
  refine i_putr (k := 97) (f := 141) X Y (by decide) lk_beganMicros rfl rfl hin (t_M_ok 141 (by decide)) rfl rfl (by decide) rfl d_init_839 (fun H locs Y => ?_)
  refine lv_aload_n X.1 X.2.1 d_init_842 rfl (lv_at hl 0 rfl) ?_
  refine lv_bipush (v := (nI 8)) X.1 X.2.1 d_init_843 (by decide) ?_
  refine i_newa (k := 98) (f := 142) (N := 8) X Y hA (atype := .int) (ty := .int) rfl ra_int ar_int 1 (cE := E.2.1) rfl (a0 := (8, .inl (fun _ => 0))) (fun cA => vz_int cA 8) (nI_pos (by decide)) (nI_clamp (by decide)) (by decide +kernel) (by decide +kernel) (by decide +kernel) (by decide) rfl rfl d_init_845 (fun q H Y => ?_)
  refine i_putr (k := 98) (f := 142) X Y (by decide) lk_beganTypes rfl rfl hin (t_M_ok 142 (by decide)) rfl rfl (by decide) rfl d_init_847 (fun H locs Y => ?_)
  refine lv_aload_n X.1 X.2.1 d_init_850 rfl (lv_at hl 0 rfl) ?_
  refine lv_sipush (v := (nI 256)) X.1 X.2.1 d_init_851 (by decide) ?_
  refine i_newa (k := 99) (f := 143) (N := 256) X Y hA (atype := .byte) (ty := .byte) rfl ra_byte ar_byte 0 (cE := E.1) rfl (a0 := (256, .inl (fun _ => 0))) (fun cA => vz_byte cA 256) (nI_pos (by decide)) (nI_clamp (by decide)) (by decide +kernel) (by decide +kernel) (by decide +kernel) (by decide) rfl rfl d_init_854 (fun q H Y => ?_)
  refine i_putr (k := 99) (f := 143) X Y (by decide) lk_beganKeys rfl rfl hin (t_M_ok 143 (by decide)) rfl rfl (by decide) rfl d_init_856 (fun H locs Y => ?_)
  refine lv_aload_n X.1 X.2.1 d_init_859 rfl (lv_at hl 0 rfl) ?_
  refine lv_iconst (v := (nI 4)) X.1 X.2.1 d_init_860 (by decide) ?_
  refine i_newa (k := 100) (f := 144) (N := 4) X Y hA (atype := .byte) (ty := .byte) rfl ra_byte ar_byte 0 (cE := E.1) rfl (a0 := (4, .inl (fun _ => 0))) (fun cA => vz_byte cA 4) (nI_pos (by decide)) (nI_clamp (by decide)) (by decide +kernel) (by decide +kernel) (by decide +kernel) (by decide) rfl rfl d_init_861 (fun q H Y => ?_)
  refine i_putr (k := 100) (f := 144) X Y (by decide) lk_address rfl rfl hin (t_M_ok 144 (by decide)) rfl rfl (by decide) rfl d_init_863 (fun H locs Y => ?_)
  rw [iH_all] at Y
  refine lv_aload_n X.1 X.2.1 d_init_866 rfl (lv_at hl 0 rfl) ?_
  refine lv_iconst (v := iI 0) X.1 X.2.1 d_init_867 (by decide) ?_
  refine m_ldcSW (i := 0) X (by decide) (by decide) d_init_868 ?_
  have hT0 : rT (upd (upd (fun _ => 0) 4 (nI 1000000000)) 57 (nI 32)) (upB (fun _ _ => 0) 28 g) := rT_init hg8
  have S : rS [2, 8, 14, 18, 29, 30, 43, 54, 55] [0, 5, 6, 7, 9, 10, 11, 12, 13, 15, 16, 17, 19, 20, 21, 24, 25, 26, 27, 44, 45, 46, 47, 48, 49, 50, 51, 52, 53, 56] (upd (upd (fun _ => 0) 4 (nI 1000000000)) 57 (nI 32)) (upB (fun _ _ => 0) 28 g) (upd (upd (fun _ => 0) 4 (nI 1000000000)) 57 (nI 32)) (upB (fun _ _ => 0) 28 g) := rS_rf hT0
  refine r_nv (m_run (As := [.int (iI 0), .ref (D.2.1 0)]) (rest := []) (n := 2) X Y hZ hA hml hl.1 (r_M_word l D E h q H.size (upd (upd (fun _ => 0) 4 (nI 1000000000)) 57 (nI 32)) (fun _ => 0) (upB (fun _ _ => 0) 28 g) (fun _ _ => 0) 0 (by omega) (by omega) 0 (by decide) S.1) kl_M_word ks_M_word kx_M_word ki_M_word ini_M hd_M_word ⟨Nat.le_of_ble_eq_true rfl, Nat.le_of_ble_eq_true rfl⟩ rfl (Nat.le_of_ble_eq_true rfl) d_init_871 ⟨Nat.le_refl _, Nat.le_refl _⟩) X Y hA S (by decide) (by decide) (fun u H locs Y S s1 _ => ?_)
  obtain ⟨I1, J1, B1, G1⟩ := u
  dsimp only at Y S s1
  refine lv_aload_n X.1 X.2.1 d_init_874 rfl (lv_at hl 0 rfl) ?_
  refine lv_bipush (v := (iI 13)) X.1 X.2.1 d_init_875 (by decide) ?_
  refine r_puti (k := 2) X Y S (by decide) lk_length rfl rfl (t_M_ok 2 (by decide)) rfl rfl (sf_length _ _ _ _) (Nat.le_of_ble_eq_true rfl) rfl (show (0 : Int) ≤ 13 by omega) (show 13 ≤ (4000 : Int) by omega) ⟨by omega, by omega⟩ (by decide) d_init_877 (fun I2 H locs Y S w2 => ?_)
  refine lv_aload_n X.1 X.2.1 d_init_880 rfl (lv_at hl 0 rfl) ?_
  refine lv_iconst (v := (iI 1)) X.1 X.2.1 d_init_881 (by decide) ?_
  refine lv_iconst (v := (iI 1)) X.1 X.2.1 d_init_882 (by decide) ?_
  have fV : vB 0 (B1 46) := by rw [s1.2.2 46 (by decide)]; exact fun p _ => Int.le_refl 0
  refine r_ni (m_run (As := [.int (iI 1), .int (iI 1)]) (rest := []) (n := 2) X Y hZ hA hml hl.1 (r_M_add l D E h q H.size I2 J1 B1 G1 1 (by omega) (by omega) 1 (by omega) (by omega) S.1 0 (by omega) fV) kl_M_add ks_M_add kx_M_add ki_M_add ini_M hd_M_add ⟨Nat.le_of_ble_eq_true rfl, Nat.le_of_ble_eq_true rfl⟩ rfl (Nat.le_of_ble_eq_true rfl) d_init_883 ⟨Nat.le_refl _, Nat.le_refl _⟩) X Y hA S (by decide) (by decide) (fun z3 u H locs Y S s3 p3 => ?_)
  obtain ⟨I3, J3, B3, G3⟩ := u
  dsimp only at Y S s3 p3
  refine lv_pop X.1 X.2.1 d_init_886 rfl ?_
  refine lv_aload_n X.1 X.2.1 d_init_887 rfl (lv_at hl 0 rfl) ?_
  refine lv_iconst (v := (iI 0)) X.1 X.2.1 d_init_888 (by decide) ?_
  refine r_puti (k := 2) X Y S (by decide) lk_length rfl rfl (t_M_ok 2 (by decide)) rfl rfl (sf_length _ _ _ _) (Nat.le_of_ble_eq_true rfl) rfl (show (0 : Int) ≤ 0 by omega) (show 0 ≤ (4000 : Int) by omega) ⟨by omega, by omega⟩ (by decide) d_init_889 (fun I4 H locs Y S w4 => ?_)
  have e33 : I4 33 = iI 0 := (S.2.1 33 (by decide)).trans (by decide)
  have e39 : I4 39 = iI 0 := (S.2.1 39 (by decide)).trans (by decide)
  have e40 : I4 40 = iI 0 := (S.2.1 40 (by decide)).trans (by decide)
  have z : ∀ k : Nat, k ∉ [0, 5, 6, 7, 9, 10, 11, 12, 13, 15, 16, 17, 19, 20, 21, 24, 25, 26, 27, 44, 45, 46, 47, 48, 49, 50, 51, 52, 53, 56] → k ≠ 28 → ∀ j, (B3 k j).toInt = 0 := fun k hk hn j => by rw [S.2.2 k hk, upB_n hn]; rfl
  have f2 : pG2 (B3 37) (B3 38) := fun j _ => .inr (by rw [z 37 (by decide) (by decide) j, z 38 (by decide) (by decide) j]; decide)
  have f3 : stT (B3 97) (B3 98) (B3 100) (B3 107) (B3 108) (B3 109) := fun t _ => .inl (z 97 (by decide) (by decide) t)
  have f4 : stA (B3 110) (B3 118) (B3 119) (B3 120) := fun a _ e => absurd e (by rw [z 110 (by decide) (by decide) a]; decide)
  exact W.vret X.1 X.2.1 hr (fun t ht hW => ⟨⟨(q, I4, J3, B3, G3), rfl, ⟨S.1, ⟨0, 0, e39, e40, by omega, by omega, by omega, by omega⟩, f2, f3, f4, p3.2.2, e33⟩, by rw [ht]; exact Y.1, va_K.moved hW.alike X.2.2.2.2.1, Y.2.1⟩, Y.2.2.F ht⟩) Y.2.2.2.2 d_init_892
