set_option maxHeartbeats 4000000 in
set_option maxRecDepth 100000 in
theorem c_Ha_init (l : Launch) (D : va_G) (E : cE) (T : cT) (κ : tK) (L : List Nat) (f : pF) (sz : Nat) (h : Nat) (m_h : h ∈ L) (r_h : (κ h).1 = 0) (e_h : f h = .inr (6, [.null, .null, .null, .null, .null, .int (iI 0), .int (iI 0), .null])) (hw : tW E T κ L f) : Met l y_Ha_init (k_Ha_init :: lw_tg) (kRm 1 60 6 179) (va_Pc [.ref h] (kPre D E T L f sz)) (va_Qv (aPv E T [1, 2, 3, 4, 5, 6, 7, 8, 9, 10, 11, 12, 13, 14, 15, 16, 17, 18, 19, 20, 21] [h] κ L f (fun (k : tK) (g : pF) => k h = (16, 0))) (cPost D E (pA L sz)) (pA L sz)) 6 179 (pA L sz) := by
  refine k_enter (own := R_Ha) (by decide) rfl (Nat.le_of_ble_eq_true rfl) (fun p e s m below meth c ls AV QQ H locs hQQ X Y hA hin hr hlk hml hl KS KR => ?_)
  have hl : lv_has ls 1 [(0, .ref h)] := hl
  have S : tS E T (tFr κ L [1, 2, 3, 4, 5, 6, 7, 8, 9, 10, 11, 12, 13, 14, 15, 16, 17, 18, 19, 20, 21] [h]) κ L f κ L f := tS_rf hw
  have hF0 : ∀ b, tFr κ L [1, 2, 3, 4, 5, 6, 7, 8, 9, 10, 11, 12, 13, 14, 15, 16, 17, 18, 19, 20, 21] [h] b → b ∈ L := fun b h9 => h9.1
  refine lv_aload_n X.1 X.2.1 d_Ha_init_0 rfl (lv_at hl 0 rfl) ?_
  refine W.objInit X.1 X.2.1 X.2.2.2.1 (X.2.2.1 _ ol_Ha) (X.2.2.1 _ o_inst) (X.2.2.1 _ o_code) rfl (by rw [hml]; exact hl.1) rfl d_Ha_init_1 (Nat.le_of_ble_eq_true rfl) (Nat.le_of_ble_eq_true rfl) ?_
  refine W.eq (g2 := F0 m 4 ls []) rfl ?_
  refine lv_aload_n X.1 X.2.1 d_Ha_init_4 rfl (lv_at hl 0 rfl) ?_
  refine lv_bipush (v := iI 80) X.1 X.2.1 d_Ha_init_5 (by decide) ?_
  refine t_newI (cI := 2) (by decide) X Y S hA hF0 (N := 80) (mx := 80) (by omega) (by omega) (by decide) (Nat.le_of_ble_eq_true rfl) (Nat.le_of_ble_eq_true rfl) d_Ha_init_7 (fun q1 κ1 L1 f1 H Y S s1 k1 => ?_)
  have e2 : f1 h = .inr (6, [.null, .null, .null, .null, .null, .int (iI 0), .int (iI 0), .null]) := (s1.2.2.2 _ ⟨m_h, by rw [r_h]; decide, by simp⟩).1.trans e_h
  have m3 : h ∈ L1 := s1.2.1 _ m_h
  have r4 : (κ1 h).1 = 0 := by rw [(s1.2.2.2 _ ⟨m_h, by rw [r_h]; decide, by simp⟩).2]; exact r_h
  refine q_putF X.1 X.2.1 X.2.2.1 i_Ha t_Ha t_Ha_ok n_Ha X.2.2.2.1 X.2.2.2.2 Y m3 e2 rfl 0 (by decide) (X.2.2.1 _ lk_Ha_7) (fun _ h9 => h9) rfl hin rfl (t_Ha_ok 0 (by decide)) rfl rfl (Nat.le_of_ble_eq_true rfl) d_Ha_init_9 (fun H locs Y => ?_)
  have Y : pH D cCl (pA L sz) s.heap L1 (va_up f1 h (.inr (6, [.ref q1, .null, .null, .null, .null, .int (iI 0), .int (iI 0), .null]))) H locs := Y
  have S := tS_up (x := .inr (6, [.ref q1, .null, .null, .null, .null, .int (iI 0), .int (iI 0), .null])) S (fun h9 => h9.2.2 (List.mem_singleton.mpr rfl)) (fun h9 => absurd r4 h9)
  have e6 : (va_up f1 h (.inr (6, [.ref q1, .null, .null, .null, .null, .int (iI 0), .int (iI 0), .null]))) h = .inr (6, [.ref q1, .null, .null, .null, .null, .int (iI 0), .int (iI 0), .null]) := q_up
  generalize va_up f1 h (.inr (6, [.ref q1, .null, .null, .null, .null, .int (iI 0), .int (iI 0), .null])) = f5 at Y S e6
  refine lv_aload_n X.1 X.2.1 d_Ha_init_12 rfl (lv_at hl 0 rfl) ?_
  refine lv_bipush (v := iI 64) X.1 X.2.1 d_Ha_init_13 (by decide) ?_
  refine t_newB X Y S hA hF0 (N := 64) (mx := 64) (by omega) (by omega) (by decide) (Nat.le_of_ble_eq_true rfl) (Nat.le_of_ble_eq_true rfl) d_Ha_init_15 (fun q7 κ7 L7 f7 H Y S s7 k7 => ?_)
  have k8 : κ7 q1 = (2, 80) := tLe_k s7.2.2.1 k1
  have e9 : f7 h = .inr (6, [.ref q1, .null, .null, .null, .null, .int (iI 0), .int (iI 0), .null]) := (s7.2.2.2 _ ⟨m3, by rw [r4]; decide, by simp⟩).1.trans e6
  have m10 : h ∈ L7 := s7.2.1 _ m3
  have r11 : (κ7 h).1 = 0 := by rw [(s7.2.2.2 _ ⟨m3, by rw [r4]; decide, by simp⟩).2]; exact r4
  refine q_putF X.1 X.2.1 X.2.2.1 i_Ha t_Ha t_Ha_ok n_Ha X.2.2.2.1 X.2.2.2.2 Y m10 e9 rfl 1 (by decide) (X.2.2.1 _ lk_Ha_13) (fun _ h9 => h9) rfl hin rfl (t_Ha_ok 1 (by decide)) rfl rfl (Nat.le_of_ble_eq_true rfl) d_Ha_init_17 (fun H locs Y => ?_)
  have Y : pH D cCl (pA L sz) s.heap L7 (va_up f7 h (.inr (6, [.ref q1, .ref q7, .null, .null, .null, .int (iI 0), .int (iI 0), .null]))) H locs := Y
  have S := tS_up (x := .inr (6, [.ref q1, .ref q7, .null, .null, .null, .int (iI 0), .int (iI 0), .null])) S (fun h9 => h9.2.2 (List.mem_singleton.mpr rfl)) (fun h9 => absurd r11 h9)
  have e13 : (va_up f7 h (.inr (6, [.ref q1, .ref q7, .null, .null, .null, .int (iI 0), .int (iI 0), .null]))) h = .inr (6, [.ref q1, .ref q7, .null, .null, .null, .int (iI 0), .int (iI 0), .null]) := q_up
  generalize va_up f7 h (.inr (6, [.ref q1, .ref q7, .null, .null, .null, .int (iI 0), .int (iI 0), .null])) = f12 at Y S e13
  refine lv_aload_n X.1 X.2.1 d_Ha_init_20 rfl (lv_at hl 0 rfl) ?_
  refine lv_iconst (v := iI 5) X.1 X.2.1 d_Ha_init_21 (by decide) ?_
  refine t_newI (cI := 2) (by decide) X Y S hA hF0 (N := 5) (mx := 5) (by omega) (by omega) (by decide) (Nat.le_of_ble_eq_true rfl) (Nat.le_of_ble_eq_true rfl) d_Ha_init_22 (fun q14 κ14 L14 f14 H Y S s14 k14 => ?_)
  have k15 : κ14 q1 = (2, 80) := tLe_k s14.2.2.1 k8
  have k16 : κ14 q7 = (1, 64) := tLe_k s14.2.2.1 k7
  have e17 : f14 h = .inr (6, [.ref q1, .ref q7, .null, .null, .null, .int (iI 0), .int (iI 0), .null]) := (s14.2.2.2 _ ⟨m10, by rw [r11]; decide, by simp⟩).1.trans e13
  have m18 : h ∈ L14 := s14.2.1 _ m10
  have r19 : (κ14 h).1 = 0 := by rw [(s14.2.2.2 _ ⟨m10, by rw [r11]; decide, by simp⟩).2]; exact r11
  refine q_putF X.1 X.2.1 X.2.2.1 i_Ha t_Ha t_Ha_ok n_Ha X.2.2.2.1 X.2.2.2.2 Y m18 e17 rfl 2 (by decide) (X.2.2.1 _ lk_Ha_17) (fun _ h9 => h9) rfl hin rfl (t_Ha_ok 2 (by decide)) rfl rfl (Nat.le_of_ble_eq_true rfl) d_Ha_init_24 (fun H locs Y => ?_)
  have Y : pH D cCl (pA L sz) s.heap L14 (va_up f14 h (.inr (6, [.ref q1, .ref q7, .ref q14, .null, .null, .int (iI 0), .int (iI 0), .null]))) H locs := Y
  have S := tS_up (x := .inr (6, [.ref q1, .ref q7, .ref q14, .null, .null, .int (iI 0), .int (iI 0), .null])) S (fun h9 => h9.2.2 (List.mem_singleton.mpr rfl)) (fun h9 => absurd r19 h9)
  have e21 : (va_up f14 h (.inr (6, [.ref q1, .ref q7, .ref q14, .null, .null, .int (iI 0), .int (iI 0), .null]))) h = .inr (6, [.ref q1, .ref q7, .ref q14, .null, .null, .int (iI 0), .int (iI 0), .null]) := q_up
  generalize va_up f14 h (.inr (6, [.ref q1, .ref q7, .ref q14, .null, .null, .int (iI 0), .int (iI 0), .null])) = f20 at Y S e21
  refine lv_aload_n X.1 X.2.1 d_Ha_init_27 rfl (lv_at hl 0 rfl) ?_
  refine lv_iconst (v := iI 5) X.1 X.2.1 d_Ha_init_28 (by decide) ?_
  refine t_newI (cI := 2) (by decide) X Y S hA hF0 (N := 5) (mx := 5) (by omega) (by omega) (by decide) (Nat.le_of_ble_eq_true rfl) (Nat.le_of_ble_eq_true rfl) d_Ha_init_29 (fun q22 κ22 L22 f22 H Y S s22 k22 => ?_)
  have k23 : κ22 q1 = (2, 80) := tLe_k s22.2.2.1 k15
  have k24 : κ22 q7 = (1, 64) := tLe_k s22.2.2.1 k16
  have k25 : κ22 q14 = (2, 5) := tLe_k s22.2.2.1 k14
  have e26 : f22 h = .inr (6, [.ref q1, .ref q7, .ref q14, .null, .null, .int (iI 0), .int (iI 0), .null]) := (s22.2.2.2 _ ⟨m18, by rw [r19]; decide, by simp⟩).1.trans e21
  have m27 : h ∈ L22 := s22.2.1 _ m18
  have r28 : (κ22 h).1 = 0 := by rw [(s22.2.2.2 _ ⟨m18, by rw [r19]; decide, by simp⟩).2]; exact r19
  refine q_putF X.1 X.2.1 X.2.2.1 i_Ha t_Ha t_Ha_ok n_Ha X.2.2.2.1 X.2.2.2.2 Y m27 e26 rfl 3 (by decide) (X.2.2.1 _ lk_Ha_20) (fun _ h9 => h9) rfl hin rfl (t_Ha_ok 3 (by decide)) rfl rfl (Nat.le_of_ble_eq_true rfl) d_Ha_init_31 (fun H locs Y => ?_)
  have Y : pH D cCl (pA L sz) s.heap L22 (va_up f22 h (.inr (6, [.ref q1, .ref q7, .ref q14, .ref q22, .null, .int (iI 0), .int (iI 0), .null]))) H locs := Y
  have S := tS_up (x := .inr (6, [.ref q1, .ref q7, .ref q14, .ref q22, .null, .int (iI 0), .int (iI 0), .null])) S (fun h9 => h9.2.2 (List.mem_singleton.mpr rfl)) (fun h9 => absurd r28 h9)
  have e30 : (va_up f22 h (.inr (6, [.ref q1, .ref q7, .ref q14, .ref q22, .null, .int (iI 0), .int (iI 0), .null]))) h = .inr (6, [.ref q1, .ref q7, .ref q14, .ref q22, .null, .int (iI 0), .int (iI 0), .null]) := q_up
  generalize va_up f22 h (.inr (6, [.ref q1, .ref q7, .ref q14, .ref q22, .null, .int (iI 0), .int (iI 0), .null])) = f29 at Y S e30
  refine lv_aload_n X.1 X.2.1 d_Ha_init_34 rfl (lv_at hl 0 rfl) ?_
  refine lv_iconst (v := iI 5) X.1 X.2.1 d_Ha_init_35 (by decide) ?_
  refine t_newI (cI := 2) (by decide) X Y S hA hF0 (N := 5) (mx := 5) (by omega) (by omega) (by decide) (Nat.le_of_ble_eq_true rfl) (Nat.le_of_ble_eq_true rfl) d_Ha_init_36 (fun q31 κ31 L31 f31 H Y S s31 k31 => ?_)
  have k32 : κ31 q1 = (2, 80) := tLe_k s31.2.2.1 k23
  have k33 : κ31 q7 = (1, 64) := tLe_k s31.2.2.1 k24
  have k34 : κ31 q14 = (2, 5) := tLe_k s31.2.2.1 k25
  have k35 : κ31 q22 = (2, 5) := tLe_k s31.2.2.1 k22
  have e36 : f31 h = .inr (6, [.ref q1, .ref q7, .ref q14, .ref q22, .null, .int (iI 0), .int (iI 0), .null]) := (s31.2.2.2 _ ⟨m27, by rw [r28]; decide, by simp⟩).1.trans e30
  have m37 : h ∈ L31 := s31.2.1 _ m27
  have r38 : (κ31 h).1 = 0 := by rw [(s31.2.2.2 _ ⟨m27, by rw [r28]; decide, by simp⟩).2]; exact r28
  refine q_putF X.1 X.2.1 X.2.2.1 i_Ha t_Ha t_Ha_ok n_Ha X.2.2.2.1 X.2.2.2.2 Y m37 e36 rfl 4 (by decide) (X.2.2.1 _ lk_Ha_23) (fun _ h9 => h9) rfl hin rfl (t_Ha_ok 4 (by decide)) rfl rfl (Nat.le_of_ble_eq_true rfl) d_Ha_init_38 (fun H locs Y => ?_)
  have Y : pH D cCl (pA L sz) s.heap L31 (va_up f31 h (.inr (6, [.ref q1, .ref q7, .ref q14, .ref q22, .ref q31, .int (iI 0), .int (iI 0), .null]))) H locs := Y
  have S := tS_up (x := .inr (6, [.ref q1, .ref q7, .ref q14, .ref q22, .ref q31, .int (iI 0), .int (iI 0), .null])) S (fun h9 => h9.2.2 (List.mem_singleton.mpr rfl)) (fun h9 => absurd r38 h9)
  have e40 : (va_up f31 h (.inr (6, [.ref q1, .ref q7, .ref q14, .ref q22, .ref q31, .int (iI 0), .int (iI 0), .null]))) h = .inr (6, [.ref q1, .ref q7, .ref q14, .ref q22, .ref q31, .int (iI 0), .int (iI 0), .null]) := q_up
  generalize va_up f31 h (.inr (6, [.ref q1, .ref q7, .ref q14, .ref q22, .ref q31, .int (iI 0), .int (iI 0), .null])) = f39 at Y S e40
  refine lv_aload_n X.1 X.2.1 d_Ha_init_41 rfl (lv_at hl 0 rfl) ?_
  refine lv_bipush (v := iI 20) X.1 X.2.1 d_Ha_init_42 (by decide) ?_
  refine t_newB X Y S hA hF0 (N := 20) (mx := 20) (by omega) (by omega) (by decide) (Nat.le_of_ble_eq_true rfl) (Nat.le_of_ble_eq_true rfl) d_Ha_init_44 (fun q41 κ41 L41 f41 H Y S s41 k41 => ?_)
  have k42 : κ41 q1 = (2, 80) := tLe_k s41.2.2.1 k32
  have k43 : κ41 q7 = (1, 64) := tLe_k s41.2.2.1 k33
  have k44 : κ41 q14 = (2, 5) := tLe_k s41.2.2.1 k34
  have k45 : κ41 q22 = (2, 5) := tLe_k s41.2.2.1 k35
  have k46 : κ41 q31 = (2, 5) := tLe_k s41.2.2.1 k31
  have e47 : f41 h = .inr (6, [.ref q1, .ref q7, .ref q14, .ref q22, .ref q31, .int (iI 0), .int (iI 0), .null]) := (s41.2.2.2 _ ⟨m37, by rw [r38]; decide, by simp⟩).1.trans e40
  have m48 : h ∈ L41 := s41.2.1 _ m37
  have r49 : (κ41 h).1 = 0 := by rw [(s41.2.2.2 _ ⟨m37, by rw [r38]; decide, by simp⟩).2]; exact r38
  refine q_putF X.1 X.2.1 X.2.2.1 i_Ha t_Ha t_Ha_ok n_Ha X.2.2.2.1 X.2.2.2.2 Y m48 e47 rfl 7 (by decide) (X.2.2.1 _ lk_Ha_26) (fun _ h9 => h9) rfl hin rfl (t_Ha_ok 7 (by decide)) rfl rfl (Nat.le_of_ble_eq_true rfl) d_Ha_init_46 (fun H locs Y => ?_)
  have Y : pH D cCl (pA L sz) s.heap L41 (va_up f41 h (.inr (6, [.ref q1, .ref q7, .ref q14, .ref q22, .ref q31, .int (iI 0), .int (iI 0), .ref q41]))) H locs := Y
  have S := tS_up (x := .inr (6, [.ref q1, .ref q7, .ref q14, .ref q22, .ref q31, .int (iI 0), .int (iI 0), .ref q41])) S (fun h9 => h9.2.2 (List.mem_singleton.mpr rfl)) (fun h9 => absurd r49 h9)
  have e51 : (va_up f41 h (.inr (6, [.ref q1, .ref q7, .ref q14, .ref q22, .ref q31, .int (iI 0), .int (iI 0), .ref q41]))) h = .inr (6, [.ref q1, .ref q7, .ref q14, .ref q22, .ref q31, .int (iI 0), .int (iI 0), .ref q41]) := q_up
  generalize va_up f41 h (.inr (6, [.ref q1, .ref q7, .ref q14, .ref q22, .ref q31, .int (iI 0), .int (iI 0), .ref q41])) = f50 at Y S e51
  have hle : tLe κ41 (va_up κ41 h (16, 0)) := tLe_raw r49
  have S := (tS_kind (k := (16, 0)) S m48 r49 r_h (fun h9 => h9.2.2 (List.mem_singleton.mpr rfl)) (by rw [e51]; exact ⟨_, rfl, okO_of ⟨⟨_, rfl, tLe_k hle k42⟩, ⟨_, rfl, tLe_k hle k43⟩, ⟨_, rfl, tLe_k hle k44⟩, ⟨_, rfl, tLe_k hle k45⟩, ⟨_, rfl, tLe_k hle k46⟩, ⟨_, rfl, by omega, by omega⟩, ⟨_, rfl, by omega, by omega⟩, ⟨_, rfl, tLe_k hle k41⟩, trivial⟩⟩)).1
  exact c_retv hQQ X Y hr hlk ⟨_, S, va_up_self _ _ _⟩ d_Ha_init_49
set_option maxHeartbeats 4000000 in
set_option maxRecDepth 100000 in
theorem c_Ae_init (l : Launch) (D : va_G) (E : cE) (T : cT) (κ : tK) (L : List Nat) (f : pF) (sz : Nat) (h : Nat) (m_h : h ∈ L) (r_h : (κ h).1 = 0) (e_h : f h = .inr (1, [.null, .null, .null, .int (iI 0), .null, .null, .null])) (hw : tW E T κ L f) : Met l y_Ae_init (k_Ae_init :: lw_tg) (kRm 1 60 6 800) (va_Pc [.ref h] (kPre D E T L f sz)) (va_Qv (aPv E T [1, 2, 3, 4, 5, 6, 7, 8, 9, 10, 11, 12, 13, 14, 15, 16, 17, 18, 19, 20, 21] [h] κ L f (fun (k : tK) (g : pF) => k h = (11, 0))) (cPost D E (pA L sz)) (pA L sz)) 6 800 (pA L sz) := by
  refine k_enter (own := R_Ae) (by decide) rfl (Nat.le_of_ble_eq_true rfl) (fun p e s m below meth c ls AV QQ H locs hQQ X Y hA hin hr hlk hml hl KS KR => ?_)
  have hl : lv_has ls 2 [(0, .ref h)] := hl
  have S : tS E T (tFr κ L [1, 2, 3, 4, 5, 6, 7, 8, 9, 10, 11, 12, 13, 14, 15, 16, 17, 18, 19, 20, 21] [h]) κ L f κ L f := tS_rf hw
  have hF0 : ∀ b, tFr κ L [1, 2, 3, 4, 5, 6, 7, 8, 9, 10, 11, 12, 13, 14, 15, 16, 17, 18, 19, 20, 21] [h] b → b ∈ L := fun b h9 => h9.1
  refine lv_aload_n X.1 X.2.1 d_Ae_init_0 rfl (lv_at hl 0 rfl) ?_
  refine W.objInit X.1 X.2.1 X.2.2.2.1 (X.2.2.1 _ ol_Ae) (X.2.2.1 _ o_inst) (X.2.2.1 _ o_code) rfl (by rw [hml]; exact hl.1) rfl d_Ae_init_1 (Nat.le_of_ble_eq_true rfl) (Nat.le_of_ble_eq_true rfl) ?_
  refine W.eq (g2 := F0 m 4 ls []) rfl ?_
  refine lv_aload_n X.1 X.2.1 d_Ae_init_4 rfl (lv_at hl 0 rfl) ?_
  refine lv_sipush (v := iI 256) X.1 X.2.1 d_Ae_init_5 (by decide) ?_
  refine t_newI (cI := 3) (by decide) X Y S hA hF0 (N := 256) (mx := 256) (by omega) (by omega) (by decide) (Nat.le_of_ble_eq_true rfl) (Nat.le_of_ble_eq_true rfl) d_Ae_init_8 (fun q1 κ1 L1 f1 H Y S s1 k1 => ?_)
  have e2 : f1 h = .inr (1, [.null, .null, .null, .int (iI 0), .null, .null, .null]) := (s1.2.2.2 _ ⟨m_h, by rw [r_h]; decide, by simp⟩).1.trans e_h
  have m3 : h ∈ L1 := s1.2.1 _ m_h
  have r4 : (κ1 h).1 = 0 := by rw [(s1.2.2.2 _ ⟨m_h, by rw [r_h]; decide, by simp⟩).2]; exact r_h
  refine q_putF X.1 X.2.1 X.2.2.1 i_Ae t_Ae t_Ae_ok n_Ae X.2.2.2.1 X.2.2.2.2 Y m3 e2 rfl 0 (by decide) (X.2.2.1 _ lk_Ae_7) (fun _ h9 => h9) rfl hin rfl (t_Ae_ok 0 (by decide)) rfl rfl (Nat.le_of_ble_eq_true rfl) d_Ae_init_10 (fun H locs Y => ?_)
  have Y : pH D cCl (pA L sz) s.heap L1 (va_up f1 h (.inr (1, [.ref q1, .null, .null, .int (iI 0), .null, .null, .null]))) H locs := Y
  have S := tS_up (x := .inr (1, [.ref q1, .null, .null, .int (iI 0), .null, .null, .null])) S (fun h9 => h9.2.2 (List.mem_singleton.mpr rfl)) (fun h9 => absurd r4 h9)
  have e6 : (va_up f1 h (.inr (1, [.ref q1, .null, .null, .int (iI 0), .null, .null, .null]))) h = .inr (1, [.ref q1, .null, .null, .int (iI 0), .null, .null, .null]) := q_up
  generalize va_up f1 h (.inr (1, [.ref q1, .null, .null, .int (iI 0), .null, .null, .null])) = f5 at Y S e6
  refine lv_aload_n X.1 X.2.1 d_Ae_init_13 rfl (lv_at hl 0 rfl) ?_
  refine lv_sipush (v := iI 256) X.1 X.2.1 d_Ae_init_14 (by decide) ?_
  refine t_newI (cI := 3) (by decide) X Y S hA hF0 (N := 256) (mx := 256) (by omega) (by omega) (by decide) (Nat.le_of_ble_eq_true rfl) (Nat.le_of_ble_eq_true rfl) d_Ae_init_17 (fun q7 κ7 L7 f7 H Y S s7 k7 => ?_)
  have k8 : κ7 q1 = (3, 256) := tLe_k s7.2.2.1 k1
  have e9 : f7 h = .inr (1, [.ref q1, .null, .null, .int (iI 0), .null, .null, .null]) := (s7.2.2.2 _ ⟨m3, by rw [r4]; decide, by simp⟩).1.trans e6
  have m10 : h ∈ L7 := s7.2.1 _ m3
  have r11 : (κ7 h).1 = 0 := by rw [(s7.2.2.2 _ ⟨m3, by rw [r4]; decide, by simp⟩).2]; exact r4
  refine q_putF X.1 X.2.1 X.2.2.1 i_Ae t_Ae t_Ae_ok n_Ae X.2.2.2.1 X.2.2.2.2 Y m10 e9 rfl 1 (by decide) (X.2.2.1 _ lk_Ae_13) (fun _ h9 => h9) rfl hin rfl (t_Ae_ok 1 (by decide)) rfl rfl (Nat.le_of_ble_eq_true rfl) d_Ae_init_19 (fun H locs Y => ?_)
  have Y : pH D cCl (pA L sz) s.heap L7 (va_up f7 h (.inr (1, [.ref q1, .ref q7, .null, .int (iI 0), .null, .null, .null]))) H locs := Y
  have S := tS_up (x := .inr (1, [.ref q1, .ref q7, .null, .int (iI 0), .null, .null, .null])) S (fun h9 => h9.2.2 (List.mem_singleton.mpr rfl)) (fun h9 => absurd r11 h9)
  have e13 : (va_up f7 h (.inr (1, [.ref q1, .ref q7, .null, .int (iI 0), .null, .null, .null]))) h = .inr (1, [.ref q1, .ref q7, .null, .int (iI 0), .null, .null, .null]) := q_up
  generalize va_up f7 h (.inr (1, [.ref q1, .ref q7, .null, .int (iI 0), .null, .null, .null])) = f12 at Y S e13
  refine lv_aload_n X.1 X.2.1 d_Ae_init_22 rfl (lv_at hl 0 rfl) ?_
  refine lv_sipush (v := iI 240) X.1 X.2.1 d_Ae_init_23 (by decide) ?_
  refine t_newI (cI := 3) (by decide) X Y S hA hF0 (N := 240) (mx := 240) (by omega) (by omega) (by decide) (Nat.le_of_ble_eq_true rfl) (Nat.le_of_ble_eq_true rfl) d_Ae_init_26 (fun q14 κ14 L14 f14 H Y S s14 k14 => ?_)
  have k15 : κ14 q1 = (3, 256) := tLe_k s14.2.2.1 k8
  have k16 : κ14 q7 = (3, 256) := tLe_k s14.2.2.1 k7
  have e17 : f14 h = .inr (1, [.ref q1, .ref q7, .null, .int (iI 0), .null, .null, .null]) := (s14.2.2.2 _ ⟨m10, by rw [r11]; decide, by simp⟩).1.trans e13
  have m18 : h ∈ L14 := s14.2.1 _ m10
  have r19 : (κ14 h).1 = 0 := by rw [(s14.2.2.2 _ ⟨m10, by rw [r11]; decide, by simp⟩).2]; exact r11
  refine q_putF X.1 X.2.1 X.2.2.1 i_Ae t_Ae t_Ae_ok n_Ae X.2.2.2.1 X.2.2.2.2 Y m18 e17 rfl 2 (by decide) (X.2.2.1 _ lk_Ae_16) (fun _ h9 => h9) rfl hin rfl (t_Ae_ok 2 (by decide)) rfl rfl (Nat.le_of_ble_eq_true rfl) d_Ae_init_28 (fun H locs Y => ?_)
  have Y : pH D cCl (pA L sz) s.heap L14 (va_up f14 h (.inr (1, [.ref q1, .ref q7, .ref q14, .int (iI 0), .null, .null, .null]))) H locs := Y
  have S := tS_up (x := .inr (1, [.ref q1, .ref q7, .ref q14, .int (iI 0), .null, .null, .null])) S (fun h9 => h9.2.2 (List.mem_singleton.mpr rfl)) (fun h9 => absurd r19 h9)
  have e21 : (va_up f14 h (.inr (1, [.ref q1, .ref q7, .ref q14, .int (iI 0), .null, .null, .null]))) h = .inr (1, [.ref q1, .ref q7, .ref q14, .int (iI 0), .null, .null, .null]) := q_up
  generalize va_up f14 h (.inr (1, [.ref q1, .ref q7, .ref q14, .int (iI 0), .null, .null, .null])) = f20 at Y S e21
  refine lv_aload_n X.1 X.2.1 d_Ae_init_31 rfl (lv_at hl 0 rfl) ?_
  refine lv_bipush (v := iI 16) X.1 X.2.1 d_Ae_init_32 (by decide) ?_
  refine t_newI (cI := 3) (by decide) X Y S hA hF0 (N := 16) (mx := 16) (by omega) (by omega) (by decide) (Nat.le_of_ble_eq_true rfl) (Nat.le_of_ble_eq_true rfl) d_Ae_init_34 (fun q22 κ22 L22 f22 H Y S s22 k22 => ?_)
  have k23 : κ22 q1 = (3, 256) := tLe_k s22.2.2.1 k15
  have k24 : κ22 q7 = (3, 256) := tLe_k s22.2.2.1 k16
  have k25 : κ22 q14 = (3, 240) := tLe_k s22.2.2.1 k14
  have e26 : f22 h = .inr (1, [.ref q1, .ref q7, .ref q14, .int (iI 0), .null, .null, .null]) := (s22.2.2.2 _ ⟨m18, by rw [r19]; decide, by simp⟩).1.trans e21
  have m27 : h ∈ L22 := s22.2.1 _ m18
  have r28 : (κ22 h).1 = 0 := by rw [(s22.2.2.2 _ ⟨m18, by rw [r19]; decide, by simp⟩).2]; exact r19
  refine q_putF X.1 X.2.1 X.2.2.1 i_Ae t_Ae t_Ae_ok n_Ae X.2.2.2.1 X.2.2.2.2 Y m27 e26 rfl 4 (by decide) (X.2.2.1 _ lk_Ae_19) (fun _ h9 => h9) rfl hin rfl (t_Ae_ok 4 (by decide)) rfl rfl (Nat.le_of_ble_eq_true rfl) d_Ae_init_36 (fun H locs Y => ?_)
  have Y : pH D cCl (pA L sz) s.heap L22 (va_up f22 h (.inr (1, [.ref q1, .ref q7, .ref q14, .int (iI 0), .ref q22, .null, .null]))) H locs := Y
  have S := tS_up (x := .inr (1, [.ref q1, .ref q7, .ref q14, .int (iI 0), .ref q22, .null, .null])) S (fun h9 => h9.2.2 (List.mem_singleton.mpr rfl)) (fun h9 => absurd r28 h9)
  have e30 : (va_up f22 h (.inr (1, [.ref q1, .ref q7, .ref q14, .int (iI 0), .ref q22, .null, .null]))) h = .inr (1, [.ref q1, .ref q7, .ref q14, .int (iI 0), .ref q22, .null, .null]) := q_up
  generalize va_up f22 h (.inr (1, [.ref q1, .ref q7, .ref q14, .int (iI 0), .ref q22, .null, .null])) = f29 at Y S e30
  refine lv_aload_n X.1 X.2.1 d_Ae_init_39 rfl (lv_at hl 0 rfl) ?_
  refine lv_bipush (v := iI 16) X.1 X.2.1 d_Ae_init_40 (by decide) ?_
  refine t_newI (cI := 3) (by decide) X Y S hA hF0 (N := 16) (mx := 16) (by omega) (by omega) (by decide) (Nat.le_of_ble_eq_true rfl) (Nat.le_of_ble_eq_true rfl) d_Ae_init_42 (fun q31 κ31 L31 f31 H Y S s31 k31 => ?_)
  have k32 : κ31 q1 = (3, 256) := tLe_k s31.2.2.1 k23
  have k33 : κ31 q7 = (3, 256) := tLe_k s31.2.2.1 k24
  have k34 : κ31 q14 = (3, 240) := tLe_k s31.2.2.1 k25
  have k35 : κ31 q22 = (3, 16) := tLe_k s31.2.2.1 k22
  have e36 : f31 h = .inr (1, [.ref q1, .ref q7, .ref q14, .int (iI 0), .ref q22, .null, .null]) := (s31.2.2.2 _ ⟨m27, by rw [r28]; decide, by simp⟩).1.trans e30
  have m37 : h ∈ L31 := s31.2.1 _ m27
  have r38 : (κ31 h).1 = 0 := by rw [(s31.2.2.2 _ ⟨m27, by rw [r28]; decide, by simp⟩).2]; exact r28
  refine q_putF X.1 X.2.1 X.2.2.1 i_Ae t_Ae t_Ae_ok n_Ae X.2.2.2.1 X.2.2.2.2 Y m37 e36 rfl 5 (by decide) (X.2.2.1 _ lk_Ae_22) (fun _ h9 => h9) rfl hin rfl (t_Ae_ok 5 (by decide)) rfl rfl (Nat.le_of_ble_eq_true rfl) d_Ae_init_44 (fun H locs Y => ?_)
  have Y : pH D cCl (pA L sz) s.heap L31 (va_up f31 h (.inr (1, [.ref q1, .ref q7, .ref q14, .int (iI 0), .ref q22, .ref q31, .null]))) H locs := Y
  have S := tS_up (x := .inr (1, [.ref q1, .ref q7, .ref q14, .int (iI 0), .ref q22, .ref q31, .null])) S (fun h9 => h9.2.2 (List.mem_singleton.mpr rfl)) (fun h9 => absurd r38 h9)
  have e40 : (va_up f31 h (.inr (1, [.ref q1, .ref q7, .ref q14, .int (iI 0), .ref q22, .ref q31, .null]))) h = .inr (1, [.ref q1, .ref q7, .ref q14, .int (iI 0), .ref q22, .ref q31, .null]) := q_up
  generalize va_up f31 h (.inr (1, [.ref q1, .ref q7, .ref q14, .int (iI 0), .ref q22, .ref q31, .null])) = f39 at Y S e40
  refine lv_aload_n X.1 X.2.1 d_Ae_init_47 rfl (lv_at hl 0 rfl) ?_
  refine lv_bipush (v := iI 16) X.1 X.2.1 d_Ae_init_48 (by decide) ?_
  refine t_newB X Y S hA hF0 (N := 16) (mx := 16) (by omega) (by omega) (by decide) (Nat.le_of_ble_eq_true rfl) (Nat.le_of_ble_eq_true rfl) d_Ae_init_50 (fun q41 κ41 L41 f41 H Y S s41 k41 => ?_)
  have k42 : κ41 q1 = (3, 256) := tLe_k s41.2.2.1 k32
  have k43 : κ41 q7 = (3, 256) := tLe_k s41.2.2.1 k33
  have k44 : κ41 q14 = (3, 240) := tLe_k s41.2.2.1 k34
  have k45 : κ41 q22 = (3, 16) := tLe_k s41.2.2.1 k35
  have k46 : κ41 q31 = (3, 16) := tLe_k s41.2.2.1 k31
  have e47 : f41 h = .inr (1, [.ref q1, .ref q7, .ref q14, .int (iI 0), .ref q22, .ref q31, .null]) := (s41.2.2.2 _ ⟨m37, by rw [r38]; decide, by simp⟩).1.trans e40
  have m48 : h ∈ L41 := s41.2.1 _ m37
  have r49 : (κ41 h).1 = 0 := by rw [(s41.2.2.2 _ ⟨m37, by rw [r38]; decide, by simp⟩).2]; exact r38
  refine q_putF X.1 X.2.1 X.2.2.1 i_Ae t_Ae t_Ae_ok n_Ae X.2.2.2.1 X.2.2.2.2 Y m48 e47 rfl 6 (by decide) (X.2.2.1 _ lk_Ae_25) (fun _ h9 => h9) rfl hin rfl (t_Ae_ok 6 (by decide)) rfl rfl (Nat.le_of_ble_eq_true rfl) d_Ae_init_52 (fun H locs Y => ?_)
  have Y : pH D cCl (pA L sz) s.heap L41 (va_up f41 h (.inr (1, [.ref q1, .ref q7, .ref q14, .int (iI 0), .ref q22, .ref q31, .ref q41]))) H locs := Y
  have S := tS_up (x := .inr (1, [.ref q1, .ref q7, .ref q14, .int (iI 0), .ref q22, .ref q31, .ref q41])) S (fun h9 => h9.2.2 (List.mem_singleton.mpr rfl)) (fun h9 => absurd r49 h9)
  have e51 : (va_up f41 h (.inr (1, [.ref q1, .ref q7, .ref q14, .int (iI 0), .ref q22, .ref q31, .ref q41]))) h = .inr (1, [.ref q1, .ref q7, .ref q14, .int (iI 0), .ref q22, .ref q31, .ref q41]) := q_up
  generalize va_up f41 h (.inr (1, [.ref q1, .ref q7, .ref q14, .int (iI 0), .ref q22, .ref q31, .ref q41])) = f50 at Y S e51
  refine lv_iconst (v := iI 0) X.1 X.2.1 d_Ae_init_55 (by decide) ?_
  have J55 : ∀ (n57 : Nat) (z53 : Int) (f52 : pF) (H : Heap) (locs : List Loc) (ls : Array Slot), (256 - z53).toNat = n57 → (0 ≤ z53) → (z53 ≤ 256) → (f52 h = .inr (1, [.ref q1, .ref q7, .ref q14, .int (iI 0), .ref q22, .ref q31, .ref q41])) → pH D cCl (pA L sz) s.heap L41 f52 H locs → tS E T (tFr κ L [1, 2, 3, 4, 5, 6, 7, 8, 9, 10, 11, 12, 13, 14, 15, 16, 17, 18, 19, 20, 21] [h]) κ L f κ41 L41 f52 → lv_has ls 2 [(0, .ref h), (1, .int (iI z53))] → W p l e (kRm 1 60 6 800) s m AV below meth c H locs 6 800 QQ (F0 m 57 ls []) := by
    intro n57
    induction n57 using Nat.strongRecOn with
    | ind n57 ih56 =>
      intro z53 f52 H locs ls hm58 l53 u53 e54 Y S hl
      refine lv_iload_n X.1 X.2.1 d_Ae_init_57 rfl (lv_at hl 1 rfl) ?_
      refine lv_sipush (v := iI 256) X.1 X.2.1 d_Ae_init_58 (by decide) ?_
      refine z_icmp_ge (tgt := 99) X.1 X.2.1 d_Ae_init_61 (by decide) ⟨by omega, by omega⟩ ⟨by omega, by omega⟩ (fun h59 => ?_) (fun h59 => ?_)
      · have hle : tLe κ41 (va_up κ41 h (11, 0)) := tLe_raw r49
        have S := (tS_kind (k := (11, 0)) S m48 r49 r_h (fun h9 => h9.2.2 (List.mem_singleton.mpr rfl)) (by rw [e54]; exact ⟨_, rfl, okO_of ⟨⟨_, rfl, tLe_k hle k42⟩, ⟨_, rfl, tLe_k hle k43⟩, ⟨_, rfl, tLe_k hle k44⟩, ⟨_, rfl, by omega, by omega⟩, ⟨_, rfl, tLe_k hle k45⟩, ⟨_, rfl, tLe_k hle k46⟩, ⟨_, rfl, tLe_k hle k41⟩, trivial⟩⟩)).1
        exact c_retv hQQ X Y hr hlk ⟨_, S, va_up_self _ _ _⟩ d_Ae_init_99
      · refine lv_aload_n X.1 X.2.1 d_Ae_init_64 rfl (lv_at hl 0 rfl) ?_
        refine q_get X.1 X.2.1 X.2.2.1 i_Ae X.2.2.2.1 X.2.2.2.2 Y m48 e54 rfl 0 (by decide) (X.2.2.1 _ lk_Ae_7) (fun _ h9 => h9) rfl d_Ae_init_65 ?_
        refine k_gets 1 (by decide) X Y KS sk_Ae_29 d_Ae_init_68 ?_
        refine lv_iload_n X.1 X.2.1 d_Ae_init_71 rfl (lv_at hl 1 rfl) ?_
        refine t_box X Y KS (by omega) (by omega) d_Ae_init_72 (fun z60 l60 u60 => ?_)
        refine lv_iload_n X.1 X.2.1 d_Ae_init_73 rfl (lv_at hl 1 rfl) ?_
        refine t_iast3 X Y S k42 (by omega) (by omega) (by omega) ⟨by omega, by omega⟩ (fun h9 => h9.2.1 (by rw [← (S.2.2.2 _ h9).2, k42]; decide)) d_Ae_init_74 (fun f61 H locs Y S w61 => ?_)
        have e62 : f61 h = .inr (1, [.ref q1, .ref q7, .ref q14, .int (iI 0), .ref q22, .ref q31, .ref q41]) := (w61 _ (kr_ne k42 r49 (by decide))).trans e54
        refine lv_aload_n X.1 X.2.1 d_Ae_init_75 rfl (lv_at hl 0 rfl) ?_
        refine q_get X.1 X.2.1 X.2.2.1 i_Ae X.2.2.2.1 X.2.2.2.2 Y m48 e62 rfl 1 (by decide) (X.2.2.1 _ lk_Ae_13) (fun _ h9 => h9) rfl d_Ae_init_76 ?_
        refine lv_iload_n X.1 X.2.1 d_Ae_init_79 rfl (lv_at hl 1 rfl) ?_
        refine lv_iload_n X.1 X.2.1 d_Ae_init_80 rfl (lv_at hl 1 rfl) ?_
        refine lv_iconst (v := iI 1) X.1 X.2.1 d_Ae_init_81 (by decide) ?_
        refine lv_ishl X.1 X.2.1 d_Ae_init_82 ?_
        refine t_u (fun z63 l63 u63 => ?_)
        refine lv_iload_n X.1 X.2.1 d_Ae_init_83 rfl (lv_at hl 1 rfl) ?_
        refine lv_bipush (v := iI 7) X.1 X.2.1 d_Ae_init_84 (by decide) ?_
        refine lv_ishr X.1 X.2.1 d_Ae_init_86 ?_
        refine t_u (fun z64 l64 u64 => ?_)
        refine lv_sipush (v := iI 283) X.1 X.2.1 d_Ae_init_87 (by decide) ?_
        refine lv_imul X.1 X.2.1 d_Ae_init_90 ?_
        refine t_u (fun z65 l65 u65 => ?_)
        refine lv_ixor X.1 X.2.1 d_Ae_init_91 ?_
        refine t_u (fun z66 l66 u66 => ?_)
        refine t_iast3 X Y S k43 (by omega) (by omega) (by omega) ⟨by omega, by omega⟩ (fun h9 => h9.2.1 (by rw [← (S.2.2.2 _ h9).2, k43]; decide)) d_Ae_init_92 (fun f67 H locs Y S w67 => ?_)
        have e68 : f67 h = .inr (1, [.ref q1, .ref q7, .ref q14, .int (iI 0), .ref q22, .ref q31, .ref q41]) := (w67 _ (kr_ne k43 r49 (by decide))).trans e62
        refine lv_iinc (v := iI (z53 + 1)) (lv' := [(1, .int (iI (z53 + 1))), (0, .ref h)]) X.1 X.2.1 d_Ae_init_93 hl (k := 1) rfl ((iI_add _ _).trans (congrArg iI (by omega))) (by decide) rfl (fun ls hl => ?_)
        refine lv_goto (tgt := 57) X.1 X.2.1 d_Ae_init_96 (by decide) ?_
        exact ih56 ((256 - (z53 + 1)).toNat) (by omega) (z53 + 1) f67 _ _ _ rfl (by omega) (by omega) e68 Y S (lv_sub hl [1, 0] rfl)
  refine lv_istore_n (lv' := [(1, .int (iI 0)), (0, .ref h)]) X.1 X.2.1 d_Ae_init_56 rfl hl (by decide) rfl (fun ls hl => ?_)
  exact J55 _ 0 f50 _ _ _ rfl (by omega) (by omega) e51 Y S (lv_sub hl [1, 0] rfl)
set_option maxHeartbeats 4000000 in
set_option maxRecDepth 100000 in
theorem c_Va_init (l : Launch) (D : va_G) (E : cE) (T : cT) (κ : tK) (L : List Nat) (f : pF) (sz : Nat) (h : Nat) (m_h : h ∈ L) (r_h : (κ h).1 = 0) (e_h : f h = .inr (11, [.int (iI 0), .null, .null, .null, .null, .null, .int (iI 0), .null, .int (iI 0), .int (iI 0), .null, .null, .null])) (hw : tW E T κ L f) : Met l y_Va_init (k_Va_init :: lw_tg) (kRm 2 81 24 7856) (va_Pc [.ref h] (kPre D E T L f sz)) (va_Qv (aPv E T [1, 2, 3, 4, 5, 6, 7, 8, 9, 10, 11, 12, 13, 14, 15, 16, 17, 18, 19, 20, 21] [h] κ L f (fun (k : tK) (g : pF) => k h = (21, 0))) (cPost D E (pA L sz)) (pA L sz)) 24 7856 (pA L sz) := by
  refine k_enter (own := R_Va) (by decide) rfl (Nat.le_of_ble_eq_true rfl) (fun p e s m below meth c ls AV QQ H locs hQQ X Y hA hin hr hlk hml hl KS KR => ?_)
  have hl : lv_has ls 1 [(0, .ref h)] := hl
  have S : tS E T (tFr κ L [1, 2, 3, 4, 5, 6, 7, 8, 9, 10, 11, 12, 13, 14, 15, 16, 17, 18, 19, 20, 21] [h]) κ L f κ L f := tS_rf hw
  have hF0 : ∀ b, tFr κ L [1, 2, 3, 4, 5, 6, 7, 8, 9, 10, 11, 12, 13, 14, 15, 16, 17, 18, 19, 20, 21] [h] b → b ∈ L := fun b h9 => h9.1
  refine lv_aload_n X.1 X.2.1 d_Va_init_0 rfl (lv_at hl 0 rfl) ?_
  refine W.objInit X.1 X.2.1 X.2.2.2.1 (X.2.2.1 _ ol_Va) (X.2.2.1 _ o_inst) (X.2.2.1 _ o_code) rfl (by rw [hml]; exact hl.1) rfl d_Va_init_1 (Nat.le_of_ble_eq_true rfl) (Nat.le_of_ble_eq_true rfl) ?_
  refine W.eq (g2 := F0 m 4 ls []) rfl ?_
  refine lv_aload_n X.1 X.2.1 d_Va_init_4 rfl (lv_at hl 0 rfl) ?_
  refine lv_ldc (v := (1000000000)) X.1 X.2.1 X.2.2.2.1 (X.2.2.1 _ cn_Va_9) d_Va_init_5 ?_
  refine t_eq (y := iI 1000000000) (by decide) ?_
  refine q_put X.1 X.2.1 X.2.2.1 i_Va t_Va t_Va_ok n_Va X.2.2.2.1 X.2.2.2.2 Y m_h e_h rfl 0 (by decide) (X.2.2.1 _ lk_Va_10) (fun _ h9 => h9) rfl (t_Va_ok 0 (by decide)) rfl rfl (Nat.le_of_ble_eq_true rfl) d_Va_init_7 (fun H locs Y => ?_)
  have Y : pH D cCl (pA L sz) s.heap L (va_up f h (.inr (11, [.int (iI 1000000000), .null, .null, .null, .null, .null, .int (iI 0), .null, .int (iI 0), .int (iI 0), .null, .null, .null]))) H locs := Y
  have S := tS_up (x := .inr (11, [.int (iI 1000000000), .null, .null, .null, .null, .null, .int (iI 0), .null, .int (iI 0), .int (iI 0), .null, .null, .null])) S (fun h9 => h9.2.2 (List.mem_singleton.mpr rfl)) (fun h9 => absurd r_h h9)
  have e2 : (va_up f h (.inr (11, [.int (iI 1000000000), .null, .null, .null, .null, .null, .int (iI 0), .null, .int (iI 0), .int (iI 0), .null, .null, .null]))) h = .inr (11, [.int (iI 1000000000), .null, .null, .null, .null, .null, .int (iI 0), .null, .int (iI 0), .int (iI 0), .null, .null, .null]) := q_up
  generalize va_up f h (.inr (11, [.int (iI 1000000000), .null, .null, .null, .null, .null, .int (iI 0), .null, .int (iI 0), .int (iI 0), .null, .null, .null])) = f1 at Y S e2
  refine lv_aload_n X.1 X.2.1 d_Va_init_10 rfl (lv_at hl 0 rfl) ?_
  refine t_new (ci := 3) X Y S hA hF0 i_By t_By t_By_ok ck_Va_16 mk_By ini_By rfl (fs := [.null, .int (iI 0)]) (fun j hj => match j, hj with | 0, _ => rfl | 1, _ => rfl | n9 + 2, h9 => absurd (show n9 + 2 < 2 from h9) (by omega)) (Nat.le_of_ble_eq_true rfl) (Nat.le_of_ble_eq_true rfl) d_Va_init_11 (fun q3 L3 f3 H Y S s3 nl3 m3 r3 e3 nz3 => ?_)
  have e4 : f3 h = .inr (11, [.int (iI 1000000000), .null, .null, .null, .null, .null, .int (iI 0), .null, .int (iI 0), .int (iI 0), .null, .null, .null]) := (s3.2.2.2 _ ⟨m_h, by rw [r_h]; decide, by simp⟩).1.trans e2
  have m5 : h ∈ L3 := s3.2.1 _ m_h
  have r6 : (κ h).1 = 0 := by rw [(s3.2.2.2 _ ⟨m_h, by rw [r_h]; decide, by simp⟩).2]; exact r_h
  refine lv_dup X.1 X.2.1 d_Va_init_14 rfl ?_
  refine lv_sipush (v := iI 6144) X.1 X.2.1 d_Va_init_15 (by decide) ?_
  refine t_mk (x_runI (As := [.int (iI 6144)]) (rest := [.ref q3, .ref h]) (n := 1) X hml hl.1 (c_By_init l D E T κ L3 f3 H.size q3 m3 r3 e3 6144 (by omega) (by omega) S.1 6144 6144 (by omega) (by omega) (by decide)) (ok_k X Y hA KS KR) kl_Va_By_init ks_By_init ki_By_init ini_By rfl ⟨rfl, rfl⟩ hd_By_init.2 ⟨Nat.le_of_ble_eq_true rfl, Nat.le_of_ble_eq_true rfl⟩ rfl (Nat.le_of_ble_eq_true rfl) d_Va_init_18 ⟨Nat.le_of_ble_eq_true rfl, Nat.le_of_ble_eq_true rfl⟩) X Y hA S (by decide) nl3 (fun κ7 L7 f7 H locs Y S s7 p7 => ?_)
  obtain k7 := p7
  have e8 : f7 h = .inr (11, [.int (iI 1000000000), .null, .null, .null, .null, .null, .int (iI 0), .null, .int (iI 0), .int (iI 0), .null, .null, .null]) := (s7.2.2.2 _ ⟨m5, by rw [r6]; decide, by simp only [List.mem_singleton]; exact (nz3 _ m_h)⟩).1.trans e4
  have m9 : h ∈ L7 := s7.2.1 _ m5
  have r10 : (κ7 h).1 = 0 := by rw [(s7.2.2.2 _ ⟨m5, by rw [r6]; decide, by simp only [List.mem_singleton]; exact (nz3 _ m_h)⟩).2]; exact r6
  refine q_putF X.1 X.2.1 X.2.2.1 i_Va t_Va t_Va_ok n_Va X.2.2.2.1 X.2.2.2.2 Y m9 e8 rfl 1 (by decide) (X.2.2.1 _ lk_Va_21) (fun _ h9 => h9) rfl hin rfl (t_Va_ok 1 (by decide)) rfl rfl (Nat.le_of_ble_eq_true rfl) d_Va_init_21 (fun H locs Y => ?_)
  have Y : pH D cCl (pA L sz) s.heap L7 (va_up f7 h (.inr (11, [.int (iI 1000000000), .ref q3, .null, .null, .null, .null, .int (iI 0), .null, .int (iI 0), .int (iI 0), .null, .null, .null]))) H locs := Y
  have S := tS_up (x := .inr (11, [.int (iI 1000000000), .ref q3, .null, .null, .null, .null, .int (iI 0), .null, .int (iI 0), .int (iI 0), .null, .null, .null])) S (fun h9 => h9.2.2 (List.mem_singleton.mpr rfl)) (fun h9 => absurd r10 h9)
  have e12 : (va_up f7 h (.inr (11, [.int (iI 1000000000), .ref q3, .null, .null, .null, .null, .int (iI 0), .null, .int (iI 0), .int (iI 0), .null, .null, .null]))) h = .inr (11, [.int (iI 1000000000), .ref q3, .null, .null, .null, .null, .int (iI 0), .null, .int (iI 0), .int (iI 0), .null, .null, .null]) := q_up
  generalize va_up f7 h (.inr (11, [.int (iI 1000000000), .ref q3, .null, .null, .null, .null, .int (iI 0), .null, .int (iI 0), .int (iI 0), .null, .null, .null])) = f11 at Y S e12
  refine lv_aload_n X.1 X.2.1 d_Va_init_24 rfl (lv_at hl 0 rfl) ?_
  refine t_new (ci := 3) X Y S hA hF0 i_By t_By t_By_ok ck_Va_16 mk_By ini_By rfl (fs := [.null, .int (iI 0)]) (fun j hj => match j, hj with | 0, _ => rfl | 1, _ => rfl | n9 + 2, h9 => absurd (show n9 + 2 < 2 from h9) (by omega)) (Nat.le_of_ble_eq_true rfl) (Nat.le_of_ble_eq_true rfl) d_Va_init_25 (fun q13 L13 f13 H Y S s13 nl13 m13 r13 e13 nz13 => ?_)
  have k14 : κ7 q3 = (13, 6144) := tLe_k s13.2.2.1 k7
  have e15 : f13 h = .inr (11, [.int (iI 1000000000), .ref q3, .null, .null, .null, .null, .int (iI 0), .null, .int (iI 0), .int (iI 0), .null, .null, .null]) := (s13.2.2.2 _ ⟨m9, by rw [r10]; decide, by simp⟩).1.trans e12
  have m16 : h ∈ L13 := s13.2.1 _ m9
  have r17 : (κ7 h).1 = 0 := by rw [(s13.2.2.2 _ ⟨m9, by rw [r10]; decide, by simp⟩).2]; exact r10
  refine lv_dup X.1 X.2.1 d_Va_init_28 rfl ?_
  refine lv_sipush (v := iI 512) X.1 X.2.1 d_Va_init_29 (by decide) ?_
  refine t_mk (x_runI (As := [.int (iI 512)]) (rest := [.ref q13, .ref h]) (n := 1) X hml hl.1 (c_By_init l D E T κ7 L13 f13 H.size q13 m13 r13 e13 512 (by omega) (by omega) S.1 512 512 (by omega) (by omega) (by decide)) (ok_k X Y hA KS KR) kl_Va_By_init ks_By_init ki_By_init ini_By rfl ⟨rfl, rfl⟩ hd_By_init.2 ⟨Nat.le_of_ble_eq_true rfl, Nat.le_of_ble_eq_true rfl⟩ rfl (Nat.le_of_ble_eq_true rfl) d_Va_init_32 ⟨Nat.le_of_ble_eq_true rfl, Nat.le_of_ble_eq_true rfl⟩) X Y hA S (by decide) nl13 (fun κ18 L18 f18 H locs Y S s18 p18 => ?_)
  obtain k18 := p18
  have k19 : κ18 q3 = (13, 6144) := tLe_k s18.2.2.1 k14
  have e20 : f18 h = .inr (11, [.int (iI 1000000000), .ref q3, .null, .null, .null, .null, .int (iI 0), .null, .int (iI 0), .int (iI 0), .null, .null, .null]) := (s18.2.2.2 _ ⟨m16, by rw [r17]; decide, by simp only [List.mem_singleton]; exact (nz13 _ m9)⟩).1.trans e15
  have m21 : h ∈ L18 := s18.2.1 _ m16
  have r22 : (κ18 h).1 = 0 := by rw [(s18.2.2.2 _ ⟨m16, by rw [r17]; decide, by simp only [List.mem_singleton]; exact (nz13 _ m9)⟩).2]; exact r17
  refine q_putF X.1 X.2.1 X.2.2.1 i_Va t_Va t_Va_ok n_Va X.2.2.2.1 X.2.2.2.2 Y m21 e20 rfl 2 (by decide) (X.2.2.1 _ lk_Va_25) (fun _ h9 => h9) rfl hin rfl (t_Va_ok 2 (by decide)) rfl rfl (Nat.le_of_ble_eq_true rfl) d_Va_init_35 (fun H locs Y => ?_)
  have Y : pH D cCl (pA L sz) s.heap L18 (va_up f18 h (.inr (11, [.int (iI 1000000000), .ref q3, .ref q13, .null, .null, .null, .int (iI 0), .null, .int (iI 0), .int (iI 0), .null, .null, .null]))) H locs := Y
  have S := tS_up (x := .inr (11, [.int (iI 1000000000), .ref q3, .ref q13, .null, .null, .null, .int (iI 0), .null, .int (iI 0), .int (iI 0), .null, .null, .null])) S (fun h9 => h9.2.2 (List.mem_singleton.mpr rfl)) (fun h9 => absurd r22 h9)
  have e24 : (va_up f18 h (.inr (11, [.int (iI 1000000000), .ref q3, .ref q13, .null, .null, .null, .int (iI 0), .null, .int (iI 0), .int (iI 0), .null, .null, .null]))) h = .inr (11, [.int (iI 1000000000), .ref q3, .ref q13, .null, .null, .null, .int (iI 0), .null, .int (iI 0), .int (iI 0), .null, .null, .null]) := q_up
  generalize va_up f18 h (.inr (11, [.int (iI 1000000000), .ref q3, .ref q13, .null, .null, .null, .int (iI 0), .null, .int (iI 0), .int (iI 0), .null, .null, .null])) = f23 at Y S e24
  refine lv_aload_n X.1 X.2.1 d_Va_init_38 rfl (lv_at hl 0 rfl) ?_
  refine t_new (ci := 6) X Y S hA hF0 i_Ha t_Ha t_Ha_ok ck_Va_28 mk_Ha ini_Ha rfl (fs := [.null, .null, .null, .null, .null, .int (iI 0), .int (iI 0), .null]) (fun j hj => match j, hj with | 0, _ => rfl | 1, _ => rfl | 2, _ => rfl | 3, _ => rfl | 4, _ => rfl | 5, _ => rfl | 6, _ => rfl | 7, _ => rfl | n9 + 8, h9 => absurd (show n9 + 8 < 8 from h9) (by omega)) (Nat.le_of_ble_eq_true rfl) (Nat.le_of_ble_eq_true rfl) d_Va_init_39 (fun q25 L25 f25 H Y S s25 nl25 m25 r25 e25 nz25 => ?_)
  have k26 : κ18 q3 = (13, 6144) := tLe_k s25.2.2.1 k19
  have k27 : κ18 q13 = (13, 512) := tLe_k s25.2.2.1 k18
  have e28 : f25 h = .inr (11, [.int (iI 1000000000), .ref q3, .ref q13, .null, .null, .null, .int (iI 0), .null, .int (iI 0), .int (iI 0), .null, .null, .null]) := (s25.2.2.2 _ ⟨m21, by rw [r22]; decide, by simp⟩).1.trans e24
  have m29 : h ∈ L25 := s25.2.1 _ m21
  have r30 : (κ18 h).1 = 0 := by rw [(s25.2.2.2 _ ⟨m21, by rw [r22]; decide, by simp⟩).2]; exact r22
  refine lv_dup X.1 X.2.1 d_Va_init_42 rfl ?_
  refine t_mk (x_runIN (As := []) (rest := [.ref q25, .ref h]) (n := 0) X KR hml hl.1 (c_Ha_init l D E T κ18 L25 f25 H.size q25 m25 r25 e25 S.1) (ok_k X Y hA KS KR) (by decide) ks_Ha_init ki_Ha_init ini_Ha rfl ⟨rfl, rfl⟩ hd_Ha_init.2 ⟨Nat.le_of_ble_eq_true rfl, Nat.le_of_ble_eq_true rfl⟩ rfl (Nat.le_of_ble_eq_true rfl) d_Va_init_43 ⟨Nat.le_of_ble_eq_true rfl, Nat.le_of_ble_eq_true rfl⟩) X Y hA S (by decide) nl25 (fun κ31 L31 f31 H locs Y S s31 p31 => ?_)
  obtain k31 := p31
  have k32 : κ31 q3 = (13, 6144) := tLe_k s31.2.2.1 k26
  have k33 : κ31 q13 = (13, 512) := tLe_k s31.2.2.1 k27
  have e34 : f31 h = .inr (11, [.int (iI 1000000000), .ref q3, .ref q13, .null, .null, .null, .int (iI 0), .null, .int (iI 0), .int (iI 0), .null, .null, .null]) := (s31.2.2.2 _ ⟨m29, by rw [r30]; decide, by simp only [List.mem_singleton]; exact (nz25 _ m21)⟩).1.trans e28
  have m35 : h ∈ L31 := s31.2.1 _ m29
  have r36 : (κ31 h).1 = 0 := by rw [(s31.2.2.2 _ ⟨m29, by rw [r30]; decide, by simp only [List.mem_singleton]; exact (nz25 _ m21)⟩).2]; exact r30
  refine q_putF X.1 X.2.1 X.2.2.1 i_Va t_Va t_Va_ok n_Va X.2.2.2.1 X.2.2.2.2 Y m35 e34 rfl 3 (by decide) (X.2.2.1 _ lk_Va_31) (fun _ h9 => h9) rfl hin rfl (t_Va_ok 3 (by decide)) rfl rfl (Nat.le_of_ble_eq_true rfl) d_Va_init_46 (fun H locs Y => ?_)
  have Y : pH D cCl (pA L sz) s.heap L31 (va_up f31 h (.inr (11, [.int (iI 1000000000), .ref q3, .ref q13, .ref q25, .null, .null, .int (iI 0), .null, .int (iI 0), .int (iI 0), .null, .null, .null]))) H locs := Y
  have S := tS_up (x := .inr (11, [.int (iI 1000000000), .ref q3, .ref q13, .ref q25, .null, .null, .int (iI 0), .null, .int (iI 0), .int (iI 0), .null, .null, .null])) S (fun h9 => h9.2.2 (List.mem_singleton.mpr rfl)) (fun h9 => absurd r36 h9)
  have e38 : (va_up f31 h (.inr (11, [.int (iI 1000000000), .ref q3, .ref q13, .ref q25, .null, .null, .int (iI 0), .null, .int (iI 0), .int (iI 0), .null, .null, .null]))) h = .inr (11, [.int (iI 1000000000), .ref q3, .ref q13, .ref q25, .null, .null, .int (iI 0), .null, .int (iI 0), .int (iI 0), .null, .null, .null]) := q_up
  generalize va_up f31 h (.inr (11, [.int (iI 1000000000), .ref q3, .ref q13, .ref q25, .null, .null, .int (iI 0), .null, .int (iI 0), .int (iI 0), .null, .null, .null])) = f37 at Y S e38
  refine lv_aload_n X.1 X.2.1 d_Va_init_49 rfl (lv_at hl 0 rfl) ?_
  refine t_new (ci := 1) X Y S hA hF0 i_Ae t_Ae t_Ae_ok ck_Va_35 mk_Ae ini_Ae rfl (fs := [.null, .null, .null, .int (iI 0), .null, .null, .null]) (fun j hj => match j, hj with | 0, _ => rfl | 1, _ => rfl | 2, _ => rfl | 3, _ => rfl | 4, _ => rfl | 5, _ => rfl | 6, _ => rfl | n9 + 7, h9 => absurd (show n9 + 7 < 7 from h9) (by omega)) (Nat.le_of_ble_eq_true rfl) (Nat.le_of_ble_eq_true rfl) d_Va_init_50 (fun q39 L39 f39 H Y S s39 nl39 m39 r39 e39 nz39 => ?_)
  have k40 : κ31 q3 = (13, 6144) := tLe_k s39.2.2.1 k32
  have k41 : κ31 q13 = (13, 512) := tLe_k s39.2.2.1 k33
  have k42 : κ31 q25 = (16, 0) := tLe_k s39.2.2.1 k31
  have e43 : f39 h = .inr (11, [.int (iI 1000000000), .ref q3, .ref q13, .ref q25, .null, .null, .int (iI 0), .null, .int (iI 0), .int (iI 0), .null, .null, .null]) := (s39.2.2.2 _ ⟨m35, by rw [r36]; decide, by simp⟩).1.trans e38
  have m44 : h ∈ L39 := s39.2.1 _ m35
  have r45 : (κ31 h).1 = 0 := by rw [(s39.2.2.2 _ ⟨m35, by rw [r36]; decide, by simp⟩).2]; exact r36
  refine lv_dup X.1 X.2.1 d_Va_init_53 rfl ?_
  refine t_mk (x_runI (As := []) (rest := [.ref q39, .ref h]) (n := 0) X hml hl.1 (c_Ae_init l D E T κ31 L39 f39 H.size q39 m39 r39 e39 S.1) (ok_k X Y hA KS KR) kl_Va_Ae_init ks_Ae_init ki_Ae_init ini_Ae rfl ⟨rfl, rfl⟩ hd_Ae_init.2 ⟨Nat.le_of_ble_eq_true rfl, Nat.le_of_ble_eq_true rfl⟩ rfl (Nat.le_of_ble_eq_true rfl) d_Va_init_54 ⟨Nat.le_of_ble_eq_true rfl, Nat.le_of_ble_eq_true rfl⟩) X Y hA S (by decide) nl39 (fun κ46 L46 f46 H locs Y S s46 p46 => ?_)
  obtain k46 := p46
  have k47 : κ46 q3 = (13, 6144) := tLe_k s46.2.2.1 k40
  have k48 : κ46 q13 = (13, 512) := tLe_k s46.2.2.1 k41
  have k49 : κ46 q25 = (16, 0) := tLe_k s46.2.2.1 k42
  have e50 : f46 h = .inr (11, [.int (iI 1000000000), .ref q3, .ref q13, .ref q25, .null, .null, .int (iI 0), .null, .int (iI 0), .int (iI 0), .null, .null, .null]) := (s46.2.2.2 _ ⟨m44, by rw [r45]; decide, by simp only [List.mem_singleton]; exact (nz39 _ m35)⟩).1.trans e43
  have m51 : h ∈ L46 := s46.2.1 _ m44
  have r52 : (κ46 h).1 = 0 := by rw [(s46.2.2.2 _ ⟨m44, by rw [r45]; decide, by simp only [List.mem_singleton]; exact (nz39 _ m35)⟩).2]; exact r45
  refine q_putF X.1 X.2.1 X.2.2.1 i_Va t_Va t_Va_ok n_Va X.2.2.2.1 X.2.2.2.2 Y m51 e50 rfl 4 (by decide) (X.2.2.1 _ lk_Va_38) (fun _ h9 => h9) rfl hin rfl (t_Va_ok 4 (by decide)) rfl rfl (Nat.le_of_ble_eq_true rfl) d_Va_init_57 (fun H locs Y => ?_)
  have Y : pH D cCl (pA L sz) s.heap L46 (va_up f46 h (.inr (11, [.int (iI 1000000000), .ref q3, .ref q13, .ref q25, .ref q39, .null, .int (iI 0), .null, .int (iI 0), .int (iI 0), .null, .null, .null]))) H locs := Y
  have S := tS_up (x := .inr (11, [.int (iI 1000000000), .ref q3, .ref q13, .ref q25, .ref q39, .null, .int (iI 0), .null, .int (iI 0), .int (iI 0), .null, .null, .null])) S (fun h9 => h9.2.2 (List.mem_singleton.mpr rfl)) (fun h9 => absurd r52 h9)
  have e54 : (va_up f46 h (.inr (11, [.int (iI 1000000000), .ref q3, .ref q13, .ref q25, .ref q39, .null, .int (iI 0), .null, .int (iI 0), .int (iI 0), .null, .null, .null]))) h = .inr (11, [.int (iI 1000000000), .ref q3, .ref q13, .ref q25, .ref q39, .null, .int (iI 0), .null, .int (iI 0), .int (iI 0), .null, .null, .null]) := q_up
  generalize va_up f46 h (.inr (11, [.int (iI 1000000000), .ref q3, .ref q13, .ref q25, .ref q39, .null, .int (iI 0), .null, .int (iI 0), .int (iI 0), .null, .null, .null])) = f53 at Y S e54
  refine lv_aload_n X.1 X.2.1 d_Va_init_60 rfl (lv_at hl 0 rfl) ?_
  refine lv_bipush (v := iI 64) X.1 X.2.1 d_Va_init_61 (by decide) ?_
  refine t_newB X Y S hA hF0 (N := 64) (mx := 64) (by omega) (by omega) (by decide) (Nat.le_of_ble_eq_true rfl) (Nat.le_of_ble_eq_true rfl) d_Va_init_63 (fun q55 κ55 L55 f55 H Y S s55 k55 => ?_)
  have k56 : κ55 q3 = (13, 6144) := tLe_k s55.2.2.1 k47
  have k57 : κ55 q13 = (13, 512) := tLe_k s55.2.2.1 k48
  have k58 : κ55 q25 = (16, 0) := tLe_k s55.2.2.1 k49
  have k59 : κ55 q39 = (11, 0) := tLe_k s55.2.2.1 k46
  have e60 : f55 h = .inr (11, [.int (iI 1000000000), .ref q3, .ref q13, .ref q25, .ref q39, .null, .int (iI 0), .null, .int (iI 0), .int (iI 0), .null, .null, .null]) := (s55.2.2.2 _ ⟨m51, by rw [r52]; decide, by simp⟩).1.trans e54
  have m61 : h ∈ L55 := s55.2.1 _ m51
  have r62 : (κ55 h).1 = 0 := by rw [(s55.2.2.2 _ ⟨m51, by rw [r52]; decide, by simp⟩).2]; exact r52
  refine q_putF X.1 X.2.1 X.2.2.1 i_Va t_Va t_Va_ok n_Va X.2.2.2.1 X.2.2.2.2 Y m61 e60 rfl 5 (by decide) (X.2.2.1 _ lk_Va_42) (fun _ h9 => h9) rfl hin rfl (t_Va_ok 5 (by decide)) rfl rfl (Nat.le_of_ble_eq_true rfl) d_Va_init_65 (fun H locs Y => ?_)
  have Y : pH D cCl (pA L sz) s.heap L55 (va_up f55 h (.inr (11, [.int (iI 1000000000), .ref q3, .ref q13, .ref q25, .ref q39, .ref q55, .int (iI 0), .null, .int (iI 0), .int (iI 0), .null, .null, .null]))) H locs := Y
  have S := tS_up (x := .inr (11, [.int (iI 1000000000), .ref q3, .ref q13, .ref q25, .ref q39, .ref q55, .int (iI 0), .null, .int (iI 0), .int (iI 0), .null, .null, .null])) S (fun h9 => h9.2.2 (List.mem_singleton.mpr rfl)) (fun h9 => absurd r62 h9)
  have e64 : (va_up f55 h (.inr (11, [.int (iI 1000000000), .ref q3, .ref q13, .ref q25, .ref q39, .ref q55, .int (iI 0), .null, .int (iI 0), .int (iI 0), .null, .null, .null]))) h = .inr (11, [.int (iI 1000000000), .ref q3, .ref q13, .ref q25, .ref q39, .ref q55, .int (iI 0), .null, .int (iI 0), .int (iI 0), .null, .null, .null]) := q_up
  generalize va_up f55 h (.inr (11, [.int (iI 1000000000), .ref q3, .ref q13, .ref q25, .ref q39, .ref q55, .int (iI 0), .null, .int (iI 0), .int (iI 0), .null, .null, .null])) = f63 at Y S e64
  refine lv_aload_n X.1 X.2.1 d_Va_init_68 rfl (lv_at hl 0 rfl) ?_
  refine lv_bipush (v := iI 20) X.1 X.2.1 d_Va_init_69 (by decide) ?_
  refine t_newB X Y S hA hF0 (N := 20) (mx := 20) (by omega) (by omega) (by decide) (Nat.le_of_ble_eq_true rfl) (Nat.le_of_ble_eq_true rfl) d_Va_init_71 (fun q65 κ65 L65 f65 H Y S s65 k65 => ?_)
  have k66 : κ65 q3 = (13, 6144) := tLe_k s65.2.2.1 k56
  have k67 : κ65 q13 = (13, 512) := tLe_k s65.2.2.1 k57
  have k68 : κ65 q25 = (16, 0) := tLe_k s65.2.2.1 k58
  have k69 : κ65 q39 = (11, 0) := tLe_k s65.2.2.1 k59
  have k70 : κ65 q55 = (1, 64) := tLe_k s65.2.2.1 k55
  have e71 : f65 h = .inr (11, [.int (iI 1000000000), .ref q3, .ref q13, .ref q25, .ref q39, .ref q55, .int (iI 0), .null, .int (iI 0), .int (iI 0), .null, .null, .null]) := (s65.2.2.2 _ ⟨m61, by rw [r62]; decide, by simp⟩).1.trans e64
  have m72 : h ∈ L65 := s65.2.1 _ m61
  have r73 : (κ65 h).1 = 0 := by rw [(s65.2.2.2 _ ⟨m61, by rw [r62]; decide, by simp⟩).2]; exact r62
  refine q_putF X.1 X.2.1 X.2.2.1 i_Va t_Va t_Va_ok n_Va X.2.2.2.1 X.2.2.2.2 Y m72 e71 rfl 7 (by decide) (X.2.2.1 _ lk_Va_46) (fun _ h9 => h9) rfl hin rfl (t_Va_ok 7 (by decide)) rfl rfl (Nat.le_of_ble_eq_true rfl) d_Va_init_73 (fun H locs Y => ?_)
  have Y : pH D cCl (pA L sz) s.heap L65 (va_up f65 h (.inr (11, [.int (iI 1000000000), .ref q3, .ref q13, .ref q25, .ref q39, .ref q55, .int (iI 0), .ref q65, .int (iI 0), .int (iI 0), .null, .null, .null]))) H locs := Y
  have S := tS_up (x := .inr (11, [.int (iI 1000000000), .ref q3, .ref q13, .ref q25, .ref q39, .ref q55, .int (iI 0), .ref q65, .int (iI 0), .int (iI 0), .null, .null, .null])) S (fun h9 => h9.2.2 (List.mem_singleton.mpr rfl)) (fun h9 => absurd r73 h9)
  have e75 : (va_up f65 h (.inr (11, [.int (iI 1000000000), .ref q3, .ref q13, .ref q25, .ref q39, .ref q55, .int (iI 0), .ref q65, .int (iI 0), .int (iI 0), .null, .null, .null]))) h = .inr (11, [.int (iI 1000000000), .ref q3, .ref q13, .ref q25, .ref q39, .ref q55, .int (iI 0), .ref q65, .int (iI 0), .int (iI 0), .null, .null, .null]) := q_up
  generalize va_up f65 h (.inr (11, [.int (iI 1000000000), .ref q3, .ref q13, .ref q25, .ref q39, .ref q55, .int (iI 0), .ref q65, .int (iI 0), .int (iI 0), .null, .null, .null])) = f74 at Y S e75
  refine lv_aload_n X.1 X.2.1 d_Va_init_76 rfl (lv_at hl 0 rfl) ?_
  refine lv_bipush (v := iI 20) X.1 X.2.1 d_Va_init_77 (by decide) ?_
  refine q_put X.1 X.2.1 X.2.2.1 i_Va t_Va t_Va_ok n_Va X.2.2.2.1 X.2.2.2.2 Y m72 e75 rfl 8 (by decide) (X.2.2.1 _ lk_Va_49) (fun _ h9 => h9) rfl (t_Va_ok 8 (by decide)) rfl rfl (Nat.le_of_ble_eq_true rfl) d_Va_init_79 (fun H locs Y => ?_)
  have Y : pH D cCl (pA L sz) s.heap L65 (va_up f74 h (.inr (11, [.int (iI 1000000000), .ref q3, .ref q13, .ref q25, .ref q39, .ref q55, .int (iI 0), .ref q65, .int (iI 20), .int (iI 0), .null, .null, .null]))) H locs := Y
  have S := tS_up (x := .inr (11, [.int (iI 1000000000), .ref q3, .ref q13, .ref q25, .ref q39, .ref q55, .int (iI 0), .ref q65, .int (iI 20), .int (iI 0), .null, .null, .null])) S (fun h9 => h9.2.2 (List.mem_singleton.mpr rfl)) (fun h9 => absurd r73 h9)
  have e77 : (va_up f74 h (.inr (11, [.int (iI 1000000000), .ref q3, .ref q13, .ref q25, .ref q39, .ref q55, .int (iI 0), .ref q65, .int (iI 20), .int (iI 0), .null, .null, .null]))) h = .inr (11, [.int (iI 1000000000), .ref q3, .ref q13, .ref q25, .ref q39, .ref q55, .int (iI 0), .ref q65, .int (iI 20), .int (iI 0), .null, .null, .null]) := q_up
  generalize va_up f74 h (.inr (11, [.int (iI 1000000000), .ref q3, .ref q13, .ref q25, .ref q39, .ref q55, .int (iI 0), .ref q65, .int (iI 20), .int (iI 0), .null, .null, .null])) = f76 at Y S e77
  refine lv_aload_n X.1 X.2.1 d_Va_init_82 rfl (lv_at hl 0 rfl) ?_
  refine lv_bipush (v := iI 32) X.1 X.2.1 d_Va_init_83 (by decide) ?_
  refine t_newB X Y S hA hF0 (N := 32) (mx := 32) (by omega) (by omega) (by decide) (Nat.le_of_ble_eq_true rfl) (Nat.le_of_ble_eq_true rfl) d_Va_init_85 (fun q78 κ78 L78 f78 H Y S s78 k78 => ?_)
  have k79 : κ78 q3 = (13, 6144) := tLe_k s78.2.2.1 k66
  have k80 : κ78 q13 = (13, 512) := tLe_k s78.2.2.1 k67
  have k81 : κ78 q25 = (16, 0) := tLe_k s78.2.2.1 k68
  have k82 : κ78 q39 = (11, 0) := tLe_k s78.2.2.1 k69
  have k83 : κ78 q55 = (1, 64) := tLe_k s78.2.2.1 k70
  have k84 : κ78 q65 = (1, 20) := tLe_k s78.2.2.1 k65
  have e85 : f78 h = .inr (11, [.int (iI 1000000000), .ref q3, .ref q13, .ref q25, .ref q39, .ref q55, .int (iI 0), .ref q65, .int (iI 20), .int (iI 0), .null, .null, .null]) := (s78.2.2.2 _ ⟨m72, by rw [r73]; decide, by simp⟩).1.trans e77
  have m86 : h ∈ L78 := s78.2.1 _ m72
  have r87 : (κ78 h).1 = 0 := by rw [(s78.2.2.2 _ ⟨m72, by rw [r73]; decide, by simp⟩).2]; exact r73
  refine q_putF X.1 X.2.1 X.2.2.1 i_Va t_Va t_Va_ok n_Va X.2.2.2.1 X.2.2.2.2 Y m86 e85 rfl 10 (by decide) (X.2.2.1 _ lk_Va_52) (fun _ h9 => h9) rfl hin rfl (t_Va_ok 10 (by decide)) rfl rfl (Nat.le_of_ble_eq_true rfl) d_Va_init_87 (fun H locs Y => ?_)
  have Y : pH D cCl (pA L sz) s.heap L78 (va_up f78 h (.inr (11, [.int (iI 1000000000), .ref q3, .ref q13, .ref q25, .ref q39, .ref q55, .int (iI 0), .ref q65, .int (iI 20), .int (iI 0), .ref q78, .null, .null]))) H locs := Y
  have S := tS_up (x := .inr (11, [.int (iI 1000000000), .ref q3, .ref q13, .ref q25, .ref q39, .ref q55, .int (iI 0), .ref q65, .int (iI 20), .int (iI 0), .ref q78, .null, .null])) S (fun h9 => h9.2.2 (List.mem_singleton.mpr rfl)) (fun h9 => absurd r87 h9)
  have e89 : (va_up f78 h (.inr (11, [.int (iI 1000000000), .ref q3, .ref q13, .ref q25, .ref q39, .ref q55, .int (iI 0), .ref q65, .int (iI 20), .int (iI 0), .ref q78, .null, .null]))) h = .inr (11, [.int (iI 1000000000), .ref q3, .ref q13, .ref q25, .ref q39, .ref q55, .int (iI 0), .ref q65, .int (iI 20), .int (iI 0), .ref q78, .null, .null]) := q_up
  generalize va_up f78 h (.inr (11, [.int (iI 1000000000), .ref q3, .ref q13, .ref q25, .ref q39, .ref q55, .int (iI 0), .ref q65, .int (iI 20), .int (iI 0), .ref q78, .null, .null])) = f88 at Y S e89
  refine lv_aload_n X.1 X.2.1 d_Va_init_90 rfl (lv_at hl 0 rfl) ?_
  refine lv_bipush (v := iI 20) X.1 X.2.1 d_Va_init_91 (by decide) ?_
  refine t_newB X Y S hA hF0 (N := 20) (mx := 20) (by omega) (by omega) (by decide) (Nat.le_of_ble_eq_true rfl) (Nat.le_of_ble_eq_true rfl) d_Va_init_93 (fun q90 κ90 L90 f90 H Y S s90 k90 => ?_)
  have k91 : κ90 q3 = (13, 6144) := tLe_k s90.2.2.1 k79
  have k92 : κ90 q13 = (13, 512) := tLe_k s90.2.2.1 k80
  have k93 : κ90 q25 = (16, 0) := tLe_k s90.2.2.1 k81
  have k94 : κ90 q39 = (11, 0) := tLe_k s90.2.2.1 k82
  have k95 : κ90 q55 = (1, 64) := tLe_k s90.2.2.1 k83
  have k96 : κ90 q65 = (1, 20) := tLe_k s90.2.2.1 k84
  have k97 : κ90 q78 = (1, 32) := tLe_k s90.2.2.1 k78
  have e98 : f90 h = .inr (11, [.int (iI 1000000000), .ref q3, .ref q13, .ref q25, .ref q39, .ref q55, .int (iI 0), .ref q65, .int (iI 20), .int (iI 0), .ref q78, .null, .null]) := (s90.2.2.2 _ ⟨m86, by rw [r87]; decide, by simp⟩).1.trans e89
  have m99 : h ∈ L90 := s90.2.1 _ m86
  have r100 : (κ90 h).1 = 0 := by rw [(s90.2.2.2 _ ⟨m86, by rw [r87]; decide, by simp⟩).2]; exact r87
  refine q_putF X.1 X.2.1 X.2.2.1 i_Va t_Va t_Va_ok n_Va X.2.2.2.1 X.2.2.2.2 Y m99 e98 rfl 11 (by decide) (X.2.2.1 _ lk_Va_55) (fun _ h9 => h9) rfl hin rfl (t_Va_ok 11 (by decide)) rfl rfl (Nat.le_of_ble_eq_true rfl) d_Va_init_95 (fun H locs Y => ?_)
  have Y : pH D cCl (pA L sz) s.heap L90 (va_up f90 h (.inr (11, [.int (iI 1000000000), .ref q3, .ref q13, .ref q25, .ref q39, .ref q55, .int (iI 0), .ref q65, .int (iI 20), .int (iI 0), .ref q78, .ref q90, .null]))) H locs := Y
  have S := tS_up (x := .inr (11, [.int (iI 1000000000), .ref q3, .ref q13, .ref q25, .ref q39, .ref q55, .int (iI 0), .ref q65, .int (iI 20), .int (iI 0), .ref q78, .ref q90, .null])) S (fun h9 => h9.2.2 (List.mem_singleton.mpr rfl)) (fun h9 => absurd r100 h9)
  have e102 : (va_up f90 h (.inr (11, [.int (iI 1000000000), .ref q3, .ref q13, .ref q25, .ref q39, .ref q55, .int (iI 0), .ref q65, .int (iI 20), .int (iI 0), .ref q78, .ref q90, .null]))) h = .inr (11, [.int (iI 1000000000), .ref q3, .ref q13, .ref q25, .ref q39, .ref q55, .int (iI 0), .ref q65, .int (iI 20), .int (iI 0), .ref q78, .ref q90, .null]) := q_up
  generalize va_up f90 h (.inr (11, [.int (iI 1000000000), .ref q3, .ref q13, .ref q25, .ref q39, .ref q55, .int (iI 0), .ref q65, .int (iI 20), .int (iI 0), .ref q78, .ref q90, .null])) = f101 at Y S e102
  refine lv_aload_n X.1 X.2.1 d_Va_init_98 rfl (lv_at hl 0 rfl) ?_
  refine t_new (ci := 3) X Y S hA hF0 i_By t_By t_By_ok ck_Va_16 mk_By ini_By rfl (fs := [.null, .int (iI 0)]) (fun j hj => match j, hj with | 0, _ => rfl | 1, _ => rfl | n9 + 2, h9 => absurd (show n9 + 2 < 2 from h9) (by omega)) (Nat.le_of_ble_eq_true rfl) (Nat.le_of_ble_eq_true rfl) d_Va_init_99 (fun q103 L103 f103 H Y S s103 nl103 m103 r103 e103 nz103 => ?_)
  have k104 : κ90 q3 = (13, 6144) := tLe_k s103.2.2.1 k91
  have k105 : κ90 q13 = (13, 512) := tLe_k s103.2.2.1 k92
  have k106 : κ90 q25 = (16, 0) := tLe_k s103.2.2.1 k93
  have k107 : κ90 q39 = (11, 0) := tLe_k s103.2.2.1 k94
  have k108 : κ90 q55 = (1, 64) := tLe_k s103.2.2.1 k95
  have k109 : κ90 q65 = (1, 20) := tLe_k s103.2.2.1 k96
  have k110 : κ90 q78 = (1, 32) := tLe_k s103.2.2.1 k97
  have k111 : κ90 q90 = (1, 20) := tLe_k s103.2.2.1 k90
  have e112 : f103 h = .inr (11, [.int (iI 1000000000), .ref q3, .ref q13, .ref q25, .ref q39, .ref q55, .int (iI 0), .ref q65, .int (iI 20), .int (iI 0), .ref q78, .ref q90, .null]) := (s103.2.2.2 _ ⟨m99, by rw [r100]; decide, by simp⟩).1.trans e102
  have m113 : h ∈ L103 := s103.2.1 _ m99
  have r114 : (κ90 h).1 = 0 := by rw [(s103.2.2.2 _ ⟨m99, by rw [r100]; decide, by simp⟩).2]; exact r100
  refine lv_dup X.1 X.2.1 d_Va_init_102 rfl ?_
  refine lv_bipush (v := iI 64) X.1 X.2.1 d_Va_init_103 (by decide) ?_
  refine t_mk (x_runI (As := [.int (iI 64)]) (rest := [.ref q103, .ref h]) (n := 1) X hml hl.1 (c_By_init l D E T κ90 L103 f103 H.size q103 m103 r103 e103 64 (by omega) (by omega) S.1 64 64 (by omega) (by omega) (by decide)) (ok_k X Y hA KS KR) kl_Va_By_init ks_By_init ki_By_init ini_By rfl ⟨rfl, rfl⟩ hd_By_init.2 ⟨Nat.le_of_ble_eq_true rfl, Nat.le_of_ble_eq_true rfl⟩ rfl (Nat.le_of_ble_eq_true rfl) d_Va_init_105 ⟨Nat.le_of_ble_eq_true rfl, Nat.le_of_ble_eq_true rfl⟩) X Y hA S (by decide) nl103 (fun κ115 L115 f115 H locs Y S s115 p115 => ?_)
  obtain k115 := p115
  have k116 : κ115 q3 = (13, 6144) := tLe_k s115.2.2.1 k104
  have k117 : κ115 q13 = (13, 512) := tLe_k s115.2.2.1 k105
  have k118 : κ115 q25 = (16, 0) := tLe_k s115.2.2.1 k106
  have k119 : κ115 q39 = (11, 0) := tLe_k s115.2.2.1 k107
  have k120 : κ115 q55 = (1, 64) := tLe_k s115.2.2.1 k108
  have k121 : κ115 q65 = (1, 20) := tLe_k s115.2.2.1 k109
  have k122 : κ115 q78 = (1, 32) := tLe_k s115.2.2.1 k110
  have k123 : κ115 q90 = (1, 20) := tLe_k s115.2.2.1 k111
  have e124 : f115 h = .inr (11, [.int (iI 1000000000), .ref q3, .ref q13, .ref q25, .ref q39, .ref q55, .int (iI 0), .ref q65, .int (iI 20), .int (iI 0), .ref q78, .ref q90, .null]) := (s115.2.2.2 _ ⟨m113, by rw [r114]; decide, by simp only [List.mem_singleton]; exact (nz103 _ m99)⟩).1.trans e112
  have m125 : h ∈ L115 := s115.2.1 _ m113
  have r126 : (κ115 h).1 = 0 := by rw [(s115.2.2.2 _ ⟨m113, by rw [r114]; decide, by simp only [List.mem_singleton]; exact (nz103 _ m99)⟩).2]; exact r114
  refine q_putF X.1 X.2.1 X.2.2.1 i_Va t_Va t_Va_ok n_Va X.2.2.2.1 X.2.2.2.2 Y m125 e124 rfl 12 (by decide) (X.2.2.1 _ lk_Va_58) (fun _ h9 => h9) rfl hin rfl (t_Va_ok 12 (by decide)) rfl rfl (Nat.le_of_ble_eq_true rfl) d_Va_init_108 (fun H locs Y => ?_)
  have Y : pH D cCl (pA L sz) s.heap L115 (va_up f115 h (.inr (11, [.int (iI 1000000000), .ref q3, .ref q13, .ref q25, .ref q39, .ref q55, .int (iI 0), .ref q65, .int (iI 20), .int (iI 0), .ref q78, .ref q90, .ref q103]))) H locs := Y
  have S := tS_up (x := .inr (11, [.int (iI 1000000000), .ref q3, .ref q13, .ref q25, .ref q39, .ref q55, .int (iI 0), .ref q65, .int (iI 20), .int (iI 0), .ref q78, .ref q90, .ref q103])) S (fun h9 => h9.2.2 (List.mem_singleton.mpr rfl)) (fun h9 => absurd r126 h9)
  have e128 : (va_up f115 h (.inr (11, [.int (iI 1000000000), .ref q3, .ref q13, .ref q25, .ref q39, .ref q55, .int (iI 0), .ref q65, .int (iI 20), .int (iI 0), .ref q78, .ref q90, .ref q103]))) h = .inr (11, [.int (iI 1000000000), .ref q3, .ref q13, .ref q25, .ref q39, .ref q55, .int (iI 0), .ref q65, .int (iI 20), .int (iI 0), .ref q78, .ref q90, .ref q103]) := q_up
  generalize va_up f115 h (.inr (11, [.int (iI 1000000000), .ref q3, .ref q13, .ref q25, .ref q39, .ref q55, .int (iI 0), .ref q65, .int (iI 20), .int (iI 0), .ref q78, .ref q90, .ref q103])) = f127 at Y S e128
  have hle : tLe κ115 (va_up κ115 h (21, 0)) := tLe_raw r126
  have S := (tS_kind (k := (21, 0)) S m125 r126 r_h (fun h9 => h9.2.2 (List.mem_singleton.mpr rfl)) (by rw [e128]; exact ⟨_, rfl, okO_of ⟨⟨_, rfl, by omega, by omega⟩, ⟨_, rfl, tLe_k hle k116⟩, ⟨_, rfl, tLe_k hle k117⟩, ⟨_, rfl, tLe_k hle k118⟩, ⟨_, rfl, tLe_k hle k119⟩, ⟨_, rfl, tLe_k hle k120⟩, ⟨_, rfl, by omega, by omega⟩, ⟨_, rfl, tLe_k hle k121⟩, ⟨_, rfl, by omega, by omega⟩, ⟨_, rfl, by omega, by omega⟩, ⟨_, rfl, tLe_k hle k122⟩, ⟨_, rfl, tLe_k hle k123⟩, ⟨_, rfl, tLe_k hle k115⟩, trivial⟩⟩)).1
  exact c_retv hQQ X Y hr hlk ⟨_, S, va_up_self _ _ _⟩ d_Va_init_111
set_option maxHeartbeats 4000000 in
set_option maxRecDepth 100000 in
theorem c_Se_init (l : Launch) (D : va_G) (E : cE) (T : cT) (κ : tK) (L : List Nat) (f : pF) (sz : Nat) (h : Nat) (m_h : h ∈ L) (r_h : (κ h).1 = 0) (e_h : f h = .inr (8, [.null, .null, .null, .null, .int (iI 0)])) (hw : tW E T κ L f) : Met l y_Se_init (k_Se_init :: lw_tg) (kRm 1 60 4 1376) (va_Pc [.ref h] (kPre D E T L f sz)) (va_Qv (aPv E T [1, 2, 3, 4, 5, 6, 7, 8, 9, 10, 11, 12, 13, 14, 15, 16, 17, 18, 19, 20, 21] [h] κ L f (fun (k : tK) (g : pF) => k h = (18, 0))) (cPost D E (pA L sz)) (pA L sz)) 4 1376 (pA L sz) := by
  refine k_enter (own := R_Se) (by decide) rfl (Nat.le_of_ble_eq_true rfl) (fun p e s m below meth c ls AV QQ H locs hQQ X Y hA hin hr hlk hml hl KS KR => ?_)
  have hl : lv_has ls 1 [(0, .ref h)] := hl
  have S : tS E T (tFr κ L [1, 2, 3, 4, 5, 6, 7, 8, 9, 10, 11, 12, 13, 14, 15, 16, 17, 18, 19, 20, 21] [h]) κ L f κ L f := tS_rf hw
  have hF0 : ∀ b, tFr κ L [1, 2, 3, 4, 5, 6, 7, 8, 9, 10, 11, 12, 13, 14, 15, 16, 17, 18, 19, 20, 21] [h] b → b ∈ L := fun b h9 => h9.1
  refine lv_aload_n X.1 X.2.1 d_Se_init_0 rfl (lv_at hl 0 rfl) ?_
  refine W.objInit X.1 X.2.1 X.2.2.2.1 (X.2.2.1 _ ol_Se) (X.2.2.1 _ o_inst) (X.2.2.1 _ o_code) rfl (by rw [hml]; exact hl.1) rfl d_Se_init_1 (Nat.le_of_ble_eq_true rfl) (Nat.le_of_ble_eq_true rfl) ?_
  refine W.eq (g2 := F0 m 4 ls []) rfl ?_
  refine lv_aload_n X.1 X.2.1 d_Se_init_4 rfl (lv_at hl 0 rfl) ?_
  refine lv_sipush (v := iI 1280) X.1 X.2.1 d_Se_init_5 (by decide) ?_
  refine t_newB X Y S hA hF0 (N := 1280) (mx := 1280) (by omega) (by omega) (by decide) (Nat.le_of_ble_eq_true rfl) (Nat.le_of_ble_eq_true rfl) d_Se_init_8 (fun q1 κ1 L1 f1 H Y S s1 k1 => ?_)
  have e2 : f1 h = .inr (8, [.null, .null, .null, .null, .int (iI 0)]) := (s1.2.2.2 _ ⟨m_h, by rw [r_h]; decide, by simp⟩).1.trans e_h
  have m3 : h ∈ L1 := s1.2.1 _ m_h
  have r4 : (κ1 h).1 = 0 := by rw [(s1.2.2.2 _ ⟨m_h, by rw [r_h]; decide, by simp⟩).2]; exact r_h
  refine q_putF X.1 X.2.1 X.2.2.1 i_Se t_Se t_Se_ok n_Se X.2.2.2.1 X.2.2.2.2 Y m3 e2 rfl 0 (by decide) (X.2.2.1 _ lk_Se_9) (fun _ h9 => h9) rfl hin rfl (t_Se_ok 0 (by decide)) rfl rfl (Nat.le_of_ble_eq_true rfl) d_Se_init_10 (fun H locs Y => ?_)
  have Y : pH D cCl (pA L sz) s.heap L1 (va_up f1 h (.inr (8, [.ref q1, .null, .null, .null, .int (iI 0)]))) H locs := Y
  have S := tS_up (x := .inr (8, [.ref q1, .null, .null, .null, .int (iI 0)])) S (fun h9 => h9.2.2 (List.mem_singleton.mpr rfl)) (fun h9 => absurd r4 h9)
  have e6 : (va_up f1 h (.inr (8, [.ref q1, .null, .null, .null, .int (iI 0)]))) h = .inr (8, [.ref q1, .null, .null, .null, .int (iI 0)]) := q_up
  generalize va_up f1 h (.inr (8, [.ref q1, .null, .null, .null, .int (iI 0)])) = f5 at Y S e6
  refine lv_aload_n X.1 X.2.1 d_Se_init_13 rfl (lv_at hl 0 rfl) ?_
  refine lv_bipush (v := iI 32) X.1 X.2.1 d_Se_init_14 (by decide) ?_
  refine t_newI (cI := 4) (by decide) X Y S hA hF0 (N := 32) (mx := 32) (by omega) (by omega) (by decide) (Nat.le_of_ble_eq_true rfl) (Nat.le_of_ble_eq_true rfl) d_Se_init_16 (fun q7 κ7 L7 f7 H Y S s7 k7 => ?_)
  have k8 : κ7 q1 = (1, 1280) := tLe_k s7.2.2.1 k1
  have e9 : f7 h = .inr (8, [.ref q1, .null, .null, .null, .int (iI 0)]) := (s7.2.2.2 _ ⟨m3, by rw [r4]; decide, by simp⟩).1.trans e6
  have m10 : h ∈ L7 := s7.2.1 _ m3
  have r11 : (κ7 h).1 = 0 := by rw [(s7.2.2.2 _ ⟨m3, by rw [r4]; decide, by simp⟩).2]; exact r4
  refine q_putF X.1 X.2.1 X.2.2.1 i_Se t_Se t_Se_ok n_Se X.2.2.2.1 X.2.2.2.2 Y m10 e9 rfl 1 (by decide) (X.2.2.1 _ lk_Se_15) (fun _ h9 => h9) rfl hin rfl (t_Se_ok 1 (by decide)) rfl rfl (Nat.le_of_ble_eq_true rfl) d_Se_init_18 (fun H locs Y => ?_)
  have Y : pH D cCl (pA L sz) s.heap L7 (va_up f7 h (.inr (8, [.ref q1, .ref q7, .null, .null, .int (iI 0)]))) H locs := Y
  have S := tS_up (x := .inr (8, [.ref q1, .ref q7, .null, .null, .int (iI 0)])) S (fun h9 => h9.2.2 (List.mem_singleton.mpr rfl)) (fun h9 => absurd r11 h9)
  have e13 : (va_up f7 h (.inr (8, [.ref q1, .ref q7, .null, .null, .int (iI 0)]))) h = .inr (8, [.ref q1, .ref q7, .null, .null, .int (iI 0)]) := q_up
  generalize va_up f7 h (.inr (8, [.ref q1, .ref q7, .null, .null, .int (iI 0)])) = f12 at Y S e13
  refine lv_aload_n X.1 X.2.1 d_Se_init_21 rfl (lv_at hl 0 rfl) ?_
  refine lv_bipush (v := iI 32) X.1 X.2.1 d_Se_init_22 (by decide) ?_
  refine t_newI (cI := 2) (by decide) X Y S hA hF0 (N := 32) (mx := 32) (by omega) (by omega) (by decide) (Nat.le_of_ble_eq_true rfl) (Nat.le_of_ble_eq_true rfl) d_Se_init_24 (fun q14 κ14 L14 f14 H Y S s14 k14 => ?_)
  have k15 : κ14 q1 = (1, 1280) := tLe_k s14.2.2.1 k8
  have k16 : κ14 q7 = (4, 32) := tLe_k s14.2.2.1 k7
  have e17 : f14 h = .inr (8, [.ref q1, .ref q7, .null, .null, .int (iI 0)]) := (s14.2.2.2 _ ⟨m10, by rw [r11]; decide, by simp⟩).1.trans e13
  have m18 : h ∈ L14 := s14.2.1 _ m10
  have r19 : (κ14 h).1 = 0 := by rw [(s14.2.2.2 _ ⟨m10, by rw [r11]; decide, by simp⟩).2]; exact r11
  refine q_putF X.1 X.2.1 X.2.2.1 i_Se t_Se t_Se_ok n_Se X.2.2.2.1 X.2.2.2.2 Y m18 e17 rfl 2 (by decide) (X.2.2.1 _ lk_Se_19) (fun _ h9 => h9) rfl hin rfl (t_Se_ok 2 (by decide)) rfl rfl (Nat.le_of_ble_eq_true rfl) d_Se_init_26 (fun H locs Y => ?_)
  have Y : pH D cCl (pA L sz) s.heap L14 (va_up f14 h (.inr (8, [.ref q1, .ref q7, .ref q14, .null, .int (iI 0)]))) H locs := Y
  have S := tS_up (x := .inr (8, [.ref q1, .ref q7, .ref q14, .null, .int (iI 0)])) S (fun h9 => h9.2.2 (List.mem_singleton.mpr rfl)) (fun h9 => absurd r19 h9)
  have e21 : (va_up f14 h (.inr (8, [.ref q1, .ref q7, .ref q14, .null, .int (iI 0)]))) h = .inr (8, [.ref q1, .ref q7, .ref q14, .null, .int (iI 0)]) := q_up
  generalize va_up f14 h (.inr (8, [.ref q1, .ref q7, .ref q14, .null, .int (iI 0)])) = f20 at Y S e21
  refine lv_aload_n X.1 X.2.1 d_Se_init_29 rfl (lv_at hl 0 rfl) ?_
  refine lv_bipush (v := iI 32) X.1 X.2.1 d_Se_init_30 (by decide) ?_
  refine t_newI (cI := 2) (by decide) X Y S hA hF0 (N := 32) (mx := 32) (by omega) (by omega) (by decide) (Nat.le_of_ble_eq_true rfl) (Nat.le_of_ble_eq_true rfl) d_Se_init_32 (fun q22 κ22 L22 f22 H Y S s22 k22 => ?_)
  have k23 : κ22 q1 = (1, 1280) := tLe_k s22.2.2.1 k15
  have k24 : κ22 q7 = (4, 32) := tLe_k s22.2.2.1 k16
  have k25 : κ22 q14 = (2, 32) := tLe_k s22.2.2.1 k14
  have e26 : f22 h = .inr (8, [.ref q1, .ref q7, .ref q14, .null, .int (iI 0)]) := (s22.2.2.2 _ ⟨m18, by rw [r19]; decide, by simp⟩).1.trans e21
  have m27 : h ∈ L22 := s22.2.1 _ m18
  have r28 : (κ22 h).1 = 0 := by rw [(s22.2.2.2 _ ⟨m18, by rw [r19]; decide, by simp⟩).2]; exact r19
  refine q_putF X.1 X.2.1 X.2.2.1 i_Se t_Se t_Se_ok n_Se X.2.2.2.1 X.2.2.2.2 Y m27 e26 rfl 3 (by decide) (X.2.2.1 _ lk_Se_22) (fun _ h9 => h9) rfl hin rfl (t_Se_ok 3 (by decide)) rfl rfl (Nat.le_of_ble_eq_true rfl) d_Se_init_34 (fun H locs Y => ?_)
  have Y : pH D cCl (pA L sz) s.heap L22 (va_up f22 h (.inr (8, [.ref q1, .ref q7, .ref q14, .ref q22, .int (iI 0)]))) H locs := Y
  have S := tS_up (x := .inr (8, [.ref q1, .ref q7, .ref q14, .ref q22, .int (iI 0)])) S (fun h9 => h9.2.2 (List.mem_singleton.mpr rfl)) (fun h9 => absurd r28 h9)
  have e30 : (va_up f22 h (.inr (8, [.ref q1, .ref q7, .ref q14, .ref q22, .int (iI 0)]))) h = .inr (8, [.ref q1, .ref q7, .ref q14, .ref q22, .int (iI 0)]) := q_up
  generalize va_up f22 h (.inr (8, [.ref q1, .ref q7, .ref q14, .ref q22, .int (iI 0)])) = f29 at Y S e30
  have hle : tLe κ22 (va_up κ22 h (18, 0)) := tLe_raw r28
  have S := (tS_kind (k := (18, 0)) S m27 r28 r_h (fun h9 => h9.2.2 (List.mem_singleton.mpr rfl)) (by rw [e30]; exact ⟨_, rfl, okO_of ⟨⟨_, rfl, tLe_k hle k23⟩, ⟨_, rfl, tLe_k hle k24⟩, ⟨_, rfl, tLe_k hle k25⟩, ⟨_, rfl, tLe_k hle k22⟩, ⟨_, rfl, by omega, by omega⟩, trivial⟩⟩)).1
  exact c_retv hQQ X Y hr hlk ⟨_, S, va_up_self _ _ _⟩ d_Se_init_37
set_option maxHeartbeats 4000000 in
set_option maxRecDepth 100000 in
theorem c_Pr_init (l : Launch) (D : va_G) (E : cE) (T : cT) (κ : tK) (L : List Nat) (f : pF) (sz : Nat) (h : Nat) (m_h : h ∈ L) (r_h : (κ h).1 = 0) (e_h : f h = .inr (7, [.null, .null, .int (iI 0), .int (iI 0), .int (iI 0), .null, .null, .null, .null, .int (iI 0), .int (iI 0), .int (iI 0), .int (iI 0)])) (hw : tW E T κ L f) : Met l y_Pr_init (k_Pr_init :: lw_tg) (kRm 2 81 7 1423) (va_Pc [.ref h] (kPre D E T L f sz)) (va_Qv (aPv E T [1, 2, 3, 4, 5, 6, 7, 8, 9, 10, 11, 12, 13, 14, 15, 16, 17, 18, 19, 20, 21] [h] κ L f (fun (k : tK) (g : pF) => k h = (17, 0))) (cPost D E (pA L sz)) (pA L sz)) 7 1423 (pA L sz) := by
  refine k_enter (own := R_Pr) (by decide) rfl (Nat.le_of_ble_eq_true rfl) (fun p e s m below meth c ls AV QQ H locs hQQ X Y hA hin hr hlk hml hl KS KR => ?_)
  have hl : lv_has ls 1 [(0, .ref h)] := hl
  have S : tS E T (tFr κ L [1, 2, 3, 4, 5, 6, 7, 8, 9, 10, 11, 12, 13, 14, 15, 16, 17, 18, 19, 20, 21] [h]) κ L f κ L f := tS_rf hw
  have hF0 : ∀ b, tFr κ L [1, 2, 3, 4, 5, 6, 7, 8, 9, 10, 11, 12, 13, 14, 15, 16, 17, 18, 19, 20, 21] [h] b → b ∈ L := fun b h9 => h9.1
  refine lv_aload_n X.1 X.2.1 d_Pr_init_0 rfl (lv_at hl 0 rfl) ?_
  refine W.objInit X.1 X.2.1 X.2.2.2.1 (X.2.2.1 _ ol_Pr) (X.2.2.1 _ o_inst) (X.2.2.1 _ o_code) rfl (by rw [hml]; exact hl.1) rfl d_Pr_init_1 (Nat.le_of_ble_eq_true rfl) (Nat.le_of_ble_eq_true rfl) ?_
  refine W.eq (g2 := F0 m 4 ls []) rfl ?_
  refine lv_aload_n X.1 X.2.1 d_Pr_init_4 rfl (lv_at hl 0 rfl) ?_
  refine t_new (ci := 3) X Y S hA hF0 i_By t_By t_By_ok ck_Pr_9 mk_By ini_By rfl (fs := [.null, .int (iI 0)]) (fun j hj => match j, hj with | 0, _ => rfl | 1, _ => rfl | n9 + 2, h9 => absurd (show n9 + 2 < 2 from h9) (by omega)) (Nat.le_of_ble_eq_true rfl) (Nat.le_of_ble_eq_true rfl) d_Pr_init_5 (fun q1 L1 f1 H Y S s1 nl1 m1 r1 e1 nz1 => ?_)
  have e2 : f1 h = .inr (7, [.null, .null, .int (iI 0), .int (iI 0), .int (iI 0), .null, .null, .null, .null, .int (iI 0), .int (iI 0), .int (iI 0), .int (iI 0)]) := (s1.2.2.2 _ ⟨m_h, by rw [r_h]; decide, by simp⟩).1.trans e_h
  have m3 : h ∈ L1 := s1.2.1 _ m_h
  have r4 : (κ h).1 = 0 := by rw [(s1.2.2.2 _ ⟨m_h, by rw [r_h]; decide, by simp⟩).2]; exact r_h
  refine lv_dup X.1 X.2.1 d_Pr_init_8 rfl ?_
  refine lv_bipush (v := iI 40) X.1 X.2.1 d_Pr_init_9 (by decide) ?_
  refine t_mk (x_runI (As := [.int (iI 40)]) (rest := [.ref q1, .ref h]) (n := 1) X hml hl.1 (c_By_init l D E T κ L1 f1 H.size q1 m1 r1 e1 40 (by omega) (by omega) S.1 40 40 (by omega) (by omega) (by decide)) (ok_k X Y hA KS KR) kl_Pr_By_init ks_By_init ki_By_init ini_By rfl ⟨rfl, rfl⟩ hd_By_init.2 ⟨Nat.le_of_ble_eq_true rfl, Nat.le_of_ble_eq_true rfl⟩ rfl (Nat.le_of_ble_eq_true rfl) d_Pr_init_11 ⟨Nat.le_of_ble_eq_true rfl, Nat.le_of_ble_eq_true rfl⟩) X Y hA S (by decide) nl1 (fun κ5 L5 f5 H locs Y S s5 p5 => ?_)
  obtain k5 := p5
  have e6 : f5 h = .inr (7, [.null, .null, .int (iI 0), .int (iI 0), .int (iI 0), .null, .null, .null, .null, .int (iI 0), .int (iI 0), .int (iI 0), .int (iI 0)]) := (s5.2.2.2 _ ⟨m3, by rw [r4]; decide, by simp only [List.mem_singleton]; exact (nz1 _ m_h)⟩).1.trans e2
  have m7 : h ∈ L5 := s5.2.1 _ m3
  have r8 : (κ5 h).1 = 0 := by rw [(s5.2.2.2 _ ⟨m3, by rw [r4]; decide, by simp only [List.mem_singleton]; exact (nz1 _ m_h)⟩).2]; exact r4
  refine q_putF X.1 X.2.1 X.2.2.1 i_Pr t_Pr t_Pr_ok n_Pr X.2.2.2.1 X.2.2.2.2 Y m7 e6 rfl 0 (by decide) (X.2.2.1 _ lk_Pr_14) (fun _ h9 => h9) rfl hin rfl (t_Pr_ok 0 (by decide)) rfl rfl (Nat.le_of_ble_eq_true rfl) d_Pr_init_14 (fun H locs Y => ?_)
  have Y : pH D cCl (pA L sz) s.heap L5 (va_up f5 h (.inr (7, [.ref q1, .null, .int (iI 0), .int (iI 0), .int (iI 0), .null, .null, .null, .null, .int (iI 0), .int (iI 0), .int (iI 0), .int (iI 0)]))) H locs := Y
  have S := tS_up (x := .inr (7, [.ref q1, .null, .int (iI 0), .int (iI 0), .int (iI 0), .null, .null, .null, .null, .int (iI 0), .int (iI 0), .int (iI 0), .int (iI 0)])) S (fun h9 => h9.2.2 (List.mem_singleton.mpr rfl)) (fun h9 => absurd r8 h9)
  have e10 : (va_up f5 h (.inr (7, [.ref q1, .null, .int (iI 0), .int (iI 0), .int (iI 0), .null, .null, .null, .null, .int (iI 0), .int (iI 0), .int (iI 0), .int (iI 0)]))) h = .inr (7, [.ref q1, .null, .int (iI 0), .int (iI 0), .int (iI 0), .null, .null, .null, .null, .int (iI 0), .int (iI 0), .int (iI 0), .int (iI 0)]) := q_up
  generalize va_up f5 h (.inr (7, [.ref q1, .null, .int (iI 0), .int (iI 0), .int (iI 0), .null, .null, .null, .null, .int (iI 0), .int (iI 0), .int (iI 0), .int (iI 0)])) = f9 at Y S e10
  refine lv_aload_n X.1 X.2.1 d_Pr_init_17 rfl (lv_at hl 0 rfl) ?_
  refine t_new (ci := 8) X Y S hA hF0 i_Se t_Se t_Se_ok ck_Pr_20 mk_Se ini_Se rfl (fs := [.null, .null, .null, .null, .int (iI 0)]) (fun j hj => match j, hj with | 0, _ => rfl | 1, _ => rfl | 2, _ => rfl | 3, _ => rfl | 4, _ => rfl | n9 + 5, h9 => absurd (show n9 + 5 < 5 from h9) (by omega)) (Nat.le_of_ble_eq_true rfl) (Nat.le_of_ble_eq_true rfl) d_Pr_init_18 (fun q11 L11 f11 H Y S s11 nl11 m11 r11 e11 nz11 => ?_)
  have k12 : κ5 q1 = (13, 40) := tLe_k s11.2.2.1 k5
  have e13 : f11 h = .inr (7, [.ref q1, .null, .int (iI 0), .int (iI 0), .int (iI 0), .null, .null, .null, .null, .int (iI 0), .int (iI 0), .int (iI 0), .int (iI 0)]) := (s11.2.2.2 _ ⟨m7, by rw [r8]; decide, by simp⟩).1.trans e10
  have m14 : h ∈ L11 := s11.2.1 _ m7
  have r15 : (κ5 h).1 = 0 := by rw [(s11.2.2.2 _ ⟨m7, by rw [r8]; decide, by simp⟩).2]; exact r8
  refine lv_dup X.1 X.2.1 d_Pr_init_21 rfl ?_
  refine t_mk (x_runIN (As := []) (rest := [.ref q11, .ref h]) (n := 0) X KR hml hl.1 (c_Se_init l D E T κ5 L11 f11 H.size q11 m11 r11 e11 S.1) (ok_k X Y hA KS KR) (by decide) ks_Se_init ki_Se_init ini_Se rfl ⟨rfl, rfl⟩ hd_Se_init.2 ⟨Nat.le_of_ble_eq_true rfl, Nat.le_of_ble_eq_true rfl⟩ rfl (Nat.le_of_ble_eq_true rfl) d_Pr_init_22 ⟨Nat.le_of_ble_eq_true rfl, Nat.le_of_ble_eq_true rfl⟩) X Y hA S (by decide) nl11 (fun κ16 L16 f16 H locs Y S s16 p16 => ?_)
  obtain k16 := p16
  have k17 : κ16 q1 = (13, 40) := tLe_k s16.2.2.1 k12
  have e18 : f16 h = .inr (7, [.ref q1, .null, .int (iI 0), .int (iI 0), .int (iI 0), .null, .null, .null, .null, .int (iI 0), .int (iI 0), .int (iI 0), .int (iI 0)]) := (s16.2.2.2 _ ⟨m14, by rw [r15]; decide, by simp only [List.mem_singleton]; exact (nz11 _ m7)⟩).1.trans e13
  have m19 : h ∈ L16 := s16.2.1 _ m14
  have r20 : (κ16 h).1 = 0 := by rw [(s16.2.2.2 _ ⟨m14, by rw [r15]; decide, by simp only [List.mem_singleton]; exact (nz11 _ m7)⟩).2]; exact r15
  refine q_putF X.1 X.2.1 X.2.2.1 i_Pr t_Pr t_Pr_ok n_Pr X.2.2.2.1 X.2.2.2.2 Y m19 e18 rfl 1 (by decide) (X.2.2.1 _ lk_Pr_23) (fun _ h9 => h9) rfl hin rfl (t_Pr_ok 1 (by decide)) rfl rfl (Nat.le_of_ble_eq_true rfl) d_Pr_init_25 (fun H locs Y => ?_)
  have Y : pH D cCl (pA L sz) s.heap L16 (va_up f16 h (.inr (7, [.ref q1, .ref q11, .int (iI 0), .int (iI 0), .int (iI 0), .null, .null, .null, .null, .int (iI 0), .int (iI 0), .int (iI 0), .int (iI 0)]))) H locs := Y
  have S := tS_up (x := .inr (7, [.ref q1, .ref q11, .int (iI 0), .int (iI 0), .int (iI 0), .null, .null, .null, .null, .int (iI 0), .int (iI 0), .int (iI 0), .int (iI 0)])) S (fun h9 => h9.2.2 (List.mem_singleton.mpr rfl)) (fun h9 => absurd r20 h9)
  have e22 : (va_up f16 h (.inr (7, [.ref q1, .ref q11, .int (iI 0), .int (iI 0), .int (iI 0), .null, .null, .null, .null, .int (iI 0), .int (iI 0), .int (iI 0), .int (iI 0)]))) h = .inr (7, [.ref q1, .ref q11, .int (iI 0), .int (iI 0), .int (iI 0), .null, .null, .null, .null, .int (iI 0), .int (iI 0), .int (iI 0), .int (iI 0)]) := q_up
  generalize va_up f16 h (.inr (7, [.ref q1, .ref q11, .int (iI 0), .int (iI 0), .int (iI 0), .null, .null, .null, .null, .int (iI 0), .int (iI 0), .int (iI 0), .int (iI 0)])) = f21 at Y S e22
  refine lv_aload_n X.1 X.2.1 d_Pr_init_28 rfl (lv_at hl 0 rfl) ?_
  refine k_getsN X Y KS KR (by decide) d_Pr_init_29 ?_
  refine q_put X.1 X.2.1 X.2.2.1 i_Pr t_Pr t_Pr_ok n_Pr X.2.2.2.1 X.2.2.2.2 Y m19 e22 rfl 5 (by decide) (X.2.2.1 _ lk_Pr_31) (fun _ h9 => h9) rfl (t_Pr_ok 5 (by decide)) rfl rfl (Nat.le_of_ble_eq_true rfl) d_Pr_init_32 (fun H locs Y => ?_)
  have Y : pH D cCl (pA L sz) s.heap L16 (va_up f21 h (.inr (7, [.ref q1, .ref q11, .int (iI 0), .int (iI 0), .int (iI 0), .ref ((T.1 0)), .null, .null, .null, .int (iI 0), .int (iI 0), .int (iI 0), .int (iI 0)]))) H locs := Y
  have S := tS_up (x := .inr (7, [.ref q1, .ref q11, .int (iI 0), .int (iI 0), .int (iI 0), .ref ((T.1 0)), .null, .null, .null, .int (iI 0), .int (iI 0), .int (iI 0), .int (iI 0)])) S (fun h9 => h9.2.2 (List.mem_singleton.mpr rfl)) (fun h9 => absurd r20 h9)
  have e24 : (va_up f21 h (.inr (7, [.ref q1, .ref q11, .int (iI 0), .int (iI 0), .int (iI 0), .ref ((T.1 0)), .null, .null, .null, .int (iI 0), .int (iI 0), .int (iI 0), .int (iI 0)]))) h = .inr (7, [.ref q1, .ref q11, .int (iI 0), .int (iI 0), .int (iI 0), .ref ((T.1 0)), .null, .null, .null, .int (iI 0), .int (iI 0), .int (iI 0), .int (iI 0)]) := q_up
  generalize va_up f21 h (.inr (7, [.ref q1, .ref q11, .int (iI 0), .int (iI 0), .int (iI 0), .ref ((T.1 0)), .null, .null, .null, .int (iI 0), .int (iI 0), .int (iI 0), .int (iI 0)])) = f23 at Y S e24
  refine lv_aload_n X.1 X.2.1 d_Pr_init_35 rfl (lv_at hl 0 rfl) ?_
  refine k_getsN X Y KS KR (by decide) d_Pr_init_36 ?_
  refine q_put X.1 X.2.1 X.2.2.1 i_Pr t_Pr t_Pr_ok n_Pr X.2.2.2.1 X.2.2.2.2 Y m19 e24 rfl 6 (by decide) (X.2.2.1 _ lk_Pr_34) (fun _ h9 => h9) rfl (t_Pr_ok 6 (by decide)) rfl rfl (Nat.le_of_ble_eq_true rfl) d_Pr_init_39 (fun H locs Y => ?_)
  have Y : pH D cCl (pA L sz) s.heap L16 (va_up f23 h (.inr (7, [.ref q1, .ref q11, .int (iI 0), .int (iI 0), .int (iI 0), .ref ((T.1 0)), .ref ((T.1 0)), .null, .null, .int (iI 0), .int (iI 0), .int (iI 0), .int (iI 0)]))) H locs := Y
  have S := tS_up (x := .inr (7, [.ref q1, .ref q11, .int (iI 0), .int (iI 0), .int (iI 0), .ref ((T.1 0)), .ref ((T.1 0)), .null, .null, .int (iI 0), .int (iI 0), .int (iI 0), .int (iI 0)])) S (fun h9 => h9.2.2 (List.mem_singleton.mpr rfl)) (fun h9 => absurd r20 h9)
  have e26 : (va_up f23 h (.inr (7, [.ref q1, .ref q11, .int (iI 0), .int (iI 0), .int (iI 0), .ref ((T.1 0)), .ref ((T.1 0)), .null, .null, .int (iI 0), .int (iI 0), .int (iI 0), .int (iI 0)]))) h = .inr (7, [.ref q1, .ref q11, .int (iI 0), .int (iI 0), .int (iI 0), .ref ((T.1 0)), .ref ((T.1 0)), .null, .null, .int (iI 0), .int (iI 0), .int (iI 0), .int (iI 0)]) := q_up
  generalize va_up f23 h (.inr (7, [.ref q1, .ref q11, .int (iI 0), .int (iI 0), .int (iI 0), .ref ((T.1 0)), .ref ((T.1 0)), .null, .null, .int (iI 0), .int (iI 0), .int (iI 0), .int (iI 0)])) = f25 at Y S e26
  refine lv_aload_n X.1 X.2.1 d_Pr_init_42 rfl (lv_at hl 0 rfl) ?_
  refine k_getsN X Y KS KR (by decide) d_Pr_init_43 ?_
  refine q_put X.1 X.2.1 X.2.2.1 i_Pr t_Pr t_Pr_ok n_Pr X.2.2.2.1 X.2.2.2.2 Y m19 e26 rfl 7 (by decide) (X.2.2.1 _ lk_Pr_37) (fun _ h9 => h9) rfl (t_Pr_ok 7 (by decide)) rfl rfl (Nat.le_of_ble_eq_true rfl) d_Pr_init_46 (fun H locs Y => ?_)
  have Y : pH D cCl (pA L sz) s.heap L16 (va_up f25 h (.inr (7, [.ref q1, .ref q11, .int (iI 0), .int (iI 0), .int (iI 0), .ref ((T.1 0)), .ref ((T.1 0)), .ref ((T.1 0)), .null, .int (iI 0), .int (iI 0), .int (iI 0), .int (iI 0)]))) H locs := Y
  have S := tS_up (x := .inr (7, [.ref q1, .ref q11, .int (iI 0), .int (iI 0), .int (iI 0), .ref ((T.1 0)), .ref ((T.1 0)), .ref ((T.1 0)), .null, .int (iI 0), .int (iI 0), .int (iI 0), .int (iI 0)])) S (fun h9 => h9.2.2 (List.mem_singleton.mpr rfl)) (fun h9 => absurd r20 h9)
  have e28 : (va_up f25 h (.inr (7, [.ref q1, .ref q11, .int (iI 0), .int (iI 0), .int (iI 0), .ref ((T.1 0)), .ref ((T.1 0)), .ref ((T.1 0)), .null, .int (iI 0), .int (iI 0), .int (iI 0), .int (iI 0)]))) h = .inr (7, [.ref q1, .ref q11, .int (iI 0), .int (iI 0), .int (iI 0), .ref ((T.1 0)), .ref ((T.1 0)), .ref ((T.1 0)), .null, .int (iI 0), .int (iI 0), .int (iI 0), .int (iI 0)]) := q_up
  generalize va_up f25 h (.inr (7, [.ref q1, .ref q11, .int (iI 0), .int (iI 0), .int (iI 0), .ref ((T.1 0)), .ref ((T.1 0)), .ref ((T.1 0)), .null, .int (iI 0), .int (iI 0), .int (iI 0), .int (iI 0)])) = f27 at Y S e28
  refine lv_aload_n X.1 X.2.1 d_Pr_init_49 rfl (lv_at hl 0 rfl) ?_
  refine k_getsN X Y KS KR (by decide) d_Pr_init_50 ?_
  refine q_put X.1 X.2.1 X.2.2.1 i_Pr t_Pr t_Pr_ok n_Pr X.2.2.2.1 X.2.2.2.2 Y m19 e28 rfl 8 (by decide) (X.2.2.1 _ lk_Pr_40) (fun _ h9 => h9) rfl (t_Pr_ok 8 (by decide)) rfl rfl (Nat.le_of_ble_eq_true rfl) d_Pr_init_53 (fun H locs Y => ?_)
  have Y : pH D cCl (pA L sz) s.heap L16 (va_up f27 h (.inr (7, [.ref q1, .ref q11, .int (iI 0), .int (iI 0), .int (iI 0), .ref ((T.1 0)), .ref ((T.1 0)), .ref ((T.1 0)), .ref ((T.1 0)), .int (iI 0), .int (iI 0), .int (iI 0), .int (iI 0)]))) H locs := Y
  have S := tS_up (x := .inr (7, [.ref q1, .ref q11, .int (iI 0), .int (iI 0), .int (iI 0), .ref ((T.1 0)), .ref ((T.1 0)), .ref ((T.1 0)), .ref ((T.1 0)), .int (iI 0), .int (iI 0), .int (iI 0), .int (iI 0)])) S (fun h9 => h9.2.2 (List.mem_singleton.mpr rfl)) (fun h9 => absurd r20 h9)
  have e30 : (va_up f27 h (.inr (7, [.ref q1, .ref q11, .int (iI 0), .int (iI 0), .int (iI 0), .ref ((T.1 0)), .ref ((T.1 0)), .ref ((T.1 0)), .ref ((T.1 0)), .int (iI 0), .int (iI 0), .int (iI 0), .int (iI 0)]))) h = .inr (7, [.ref q1, .ref q11, .int (iI 0), .int (iI 0), .int (iI 0), .ref ((T.1 0)), .ref ((T.1 0)), .ref ((T.1 0)), .ref ((T.1 0)), .int (iI 0), .int (iI 0), .int (iI 0), .int (iI 0)]) := q_up
  generalize va_up f27 h (.inr (7, [.ref q1, .ref q11, .int (iI 0), .int (iI 0), .int (iI 0), .ref ((T.1 0)), .ref ((T.1 0)), .ref ((T.1 0)), .ref ((T.1 0)), .int (iI 0), .int (iI 0), .int (iI 0), .int (iI 0)])) = f29 at Y S e30
  refine lv_aload_n X.1 X.2.1 d_Pr_init_56 rfl (lv_at hl 0 rfl) ?_
  refine lv_ldc (v := (36000)) X.1 X.2.1 X.2.2.2.1 (X.2.2.1 _ cn_Pr_43) d_Pr_init_57 ?_
  refine t_eq (y := iI 36000) (by decide) ?_
  refine q_put X.1 X.2.1 X.2.2.1 i_Pr t_Pr t_Pr_ok n_Pr X.2.2.2.1 X.2.2.2.2 Y m19 e30 rfl 9 (by decide) (X.2.2.1 _ lk_Pr_44) (fun _ h9 => h9) rfl (t_Pr_ok 9 (by decide)) rfl rfl (Nat.le_of_ble_eq_true rfl) d_Pr_init_59 (fun H locs Y => ?_)
  have Y : pH D cCl (pA L sz) s.heap L16 (va_up f29 h (.inr (7, [.ref q1, .ref q11, .int (iI 0), .int (iI 0), .int (iI 0), .ref ((T.1 0)), .ref ((T.1 0)), .ref ((T.1 0)), .ref ((T.1 0)), .int (iI 36000), .int (iI 0), .int (iI 0), .int (iI 0)]))) H locs := Y
  have S := tS_up (x := .inr (7, [.ref q1, .ref q11, .int (iI 0), .int (iI 0), .int (iI 0), .ref ((T.1 0)), .ref ((T.1 0)), .ref ((T.1 0)), .ref ((T.1 0)), .int (iI 36000), .int (iI 0), .int (iI 0), .int (iI 0)])) S (fun h9 => h9.2.2 (List.mem_singleton.mpr rfl)) (fun h9 => absurd r20 h9)
  have e32 : (va_up f29 h (.inr (7, [.ref q1, .ref q11, .int (iI 0), .int (iI 0), .int (iI 0), .ref ((T.1 0)), .ref ((T.1 0)), .ref ((T.1 0)), .ref ((T.1 0)), .int (iI 36000), .int (iI 0), .int (iI 0), .int (iI 0)]))) h = .inr (7, [.ref q1, .ref q11, .int (iI 0), .int (iI 0), .int (iI 0), .ref ((T.1 0)), .ref ((T.1 0)), .ref ((T.1 0)), .ref ((T.1 0)), .int (iI 36000), .int (iI 0), .int (iI 0), .int (iI 0)]) := q_up
  generalize va_up f29 h (.inr (7, [.ref q1, .ref q11, .int (iI 0), .int (iI 0), .int (iI 0), .ref ((T.1 0)), .ref ((T.1 0)), .ref ((T.1 0)), .ref ((T.1 0)), .int (iI 36000), .int (iI 0), .int (iI 0), .int (iI 0)])) = f31 at Y S e32
  refine lv_aload_n X.1 X.2.1 d_Pr_init_62 rfl (lv_at hl 0 rfl) ?_
  refine lv_ldc (v := (72000)) X.1 X.2.1 X.2.2.2.1 (X.2.2.1 _ cn_Pr_48) d_Pr_init_63 ?_
  refine t_eq (y := iI 72000) (by decide) ?_
  refine q_put X.1 X.2.1 X.2.2.1 i_Pr t_Pr t_Pr_ok n_Pr X.2.2.2.1 X.2.2.2.2 Y m19 e32 rfl 10 (by decide) (X.2.2.1 _ lk_Pr_49) (fun _ h9 => h9) rfl (t_Pr_ok 10 (by decide)) rfl rfl (Nat.le_of_ble_eq_true rfl) d_Pr_init_65 (fun H locs Y => ?_)
  have Y : pH D cCl (pA L sz) s.heap L16 (va_up f31 h (.inr (7, [.ref q1, .ref q11, .int (iI 0), .int (iI 0), .int (iI 0), .ref ((T.1 0)), .ref ((T.1 0)), .ref ((T.1 0)), .ref ((T.1 0)), .int (iI 36000), .int (iI 72000), .int (iI 0), .int (iI 0)]))) H locs := Y
  have S := tS_up (x := .inr (7, [.ref q1, .ref q11, .int (iI 0), .int (iI 0), .int (iI 0), .ref ((T.1 0)), .ref ((T.1 0)), .ref ((T.1 0)), .ref ((T.1 0)), .int (iI 36000), .int (iI 72000), .int (iI 0), .int (iI 0)])) S (fun h9 => h9.2.2 (List.mem_singleton.mpr rfl)) (fun h9 => absurd r20 h9)
  have e34 : (va_up f31 h (.inr (7, [.ref q1, .ref q11, .int (iI 0), .int (iI 0), .int (iI 0), .ref ((T.1 0)), .ref ((T.1 0)), .ref ((T.1 0)), .ref ((T.1 0)), .int (iI 36000), .int (iI 72000), .int (iI 0), .int (iI 0)]))) h = .inr (7, [.ref q1, .ref q11, .int (iI 0), .int (iI 0), .int (iI 0), .ref ((T.1 0)), .ref ((T.1 0)), .ref ((T.1 0)), .ref ((T.1 0)), .int (iI 36000), .int (iI 72000), .int (iI 0), .int (iI 0)]) := q_up
  generalize va_up f31 h (.inr (7, [.ref q1, .ref q11, .int (iI 0), .int (iI 0), .int (iI 0), .ref ((T.1 0)), .ref ((T.1 0)), .ref ((T.1 0)), .ref ((T.1 0)), .int (iI 36000), .int (iI 72000), .int (iI 0), .int (iI 0)])) = f33 at Y S e34
  refine lv_aload_n X.1 X.2.1 d_Pr_init_68 rfl (lv_at hl 0 rfl) ?_
  refine lv_bipush (v := iI 15) X.1 X.2.1 d_Pr_init_69 (by decide) ?_
  refine q_put X.1 X.2.1 X.2.2.1 i_Pr t_Pr t_Pr_ok n_Pr X.2.2.2.1 X.2.2.2.2 Y m19 e34 rfl 11 (by decide) (X.2.2.1 _ lk_Pr_52) (fun _ h9 => h9) rfl (t_Pr_ok 11 (by decide)) rfl rfl (Nat.le_of_ble_eq_true rfl) d_Pr_init_71 (fun H locs Y => ?_)
  have Y : pH D cCl (pA L sz) s.heap L16 (va_up f33 h (.inr (7, [.ref q1, .ref q11, .int (iI 0), .int (iI 0), .int (iI 0), .ref ((T.1 0)), .ref ((T.1 0)), .ref ((T.1 0)), .ref ((T.1 0)), .int (iI 36000), .int (iI 72000), .int (iI 15), .int (iI 0)]))) H locs := Y
  have S := tS_up (x := .inr (7, [.ref q1, .ref q11, .int (iI 0), .int (iI 0), .int (iI 0), .ref ((T.1 0)), .ref ((T.1 0)), .ref ((T.1 0)), .ref ((T.1 0)), .int (iI 36000), .int (iI 72000), .int (iI 15), .int (iI 0)])) S (fun h9 => h9.2.2 (List.mem_singleton.mpr rfl)) (fun h9 => absurd r20 h9)
  have e36 : (va_up f33 h (.inr (7, [.ref q1, .ref q11, .int (iI 0), .int (iI 0), .int (iI 0), .ref ((T.1 0)), .ref ((T.1 0)), .ref ((T.1 0)), .ref ((T.1 0)), .int (iI 36000), .int (iI 72000), .int (iI 15), .int (iI 0)]))) h = .inr (7, [.ref q1, .ref q11, .int (iI 0), .int (iI 0), .int (iI 0), .ref ((T.1 0)), .ref ((T.1 0)), .ref ((T.1 0)), .ref ((T.1 0)), .int (iI 36000), .int (iI 72000), .int (iI 15), .int (iI 0)]) := q_up
  generalize va_up f33 h (.inr (7, [.ref q1, .ref q11, .int (iI 0), .int (iI 0), .int (iI 0), .ref ((T.1 0)), .ref ((T.1 0)), .ref ((T.1 0)), .ref ((T.1 0)), .int (iI 36000), .int (iI 72000), .int (iI 15), .int (iI 0)])) = f35 at Y S e36
  have hle : tLe κ16 (va_up κ16 h (17, 0)) := tLe_raw r20
  have S := (tS_kind (k := (17, 0)) S m19 r20 r_h (fun h9 => h9.2.2 (List.mem_singleton.mpr rfl)) (by rw [e36]; exact ⟨_, rfl, okO_of ⟨⟨_, rfl, tLe_k hle k17⟩, ⟨_, rfl, tLe_k hle k16⟩, ⟨_, rfl, by omega, by omega⟩, ⟨_, rfl, by omega, by omega⟩, ⟨_, rfl, by omega, by omega⟩, ⟨_, 0, rfl, tLe_key hle tKey_no⟩, ⟨_, 0, rfl, tLe_key hle tKey_no⟩, ⟨_, 0, rfl, tLe_key hle tKey_no⟩, ⟨_, 0, rfl, tLe_key hle tKey_no⟩, ⟨_, rfl, by omega, by omega⟩, ⟨_, rfl, by omega, by omega⟩, ⟨_, rfl, by omega, by omega⟩, ⟨_, rfl, by omega, by omega⟩, trivial⟩⟩)).1
  exact c_retv hQQ X Y hr hlk ⟨_, S, va_up_self _ _ _⟩ d_Pr_init_74
set_option maxHeartbeats 4000000 in
set_option maxRecDepth 100000 in
theorem c_Ti_init (l : Launch) (D : va_G) (E : cE) (T : cT) (κ : tK) (L : List Nat) (f : pF) (sz : Nat) (h : Nat) (m_h : h ∈ L) (r_h : (κ h).1 = 0) (e_h : f h = .inr (10, [.null, .null, .int (iI 0), .int (iI 0), .null, .int (iI 0), .int (iI 0), .int (iI 0), .int (iI 0), .int (iI 0)])) (hw : tW E T κ L f) : Met l y_Ti_init (k_Ti_init :: lw_tg) (kRm 2 81 4 44) (va_Pc [.ref h] (kPre D E T L f sz)) (va_Qv (aPv E T [1, 2, 3, 4, 5, 6, 7, 8, 9, 10, 11, 12, 13, 14, 15, 16, 17, 18, 19, 20, 21] [h] κ L f (fun (k : tK) (g : pF) => k h = (20, 0))) (cPost D E (pA L sz)) (pA L sz)) 4 44 (pA L sz) := by
  refine k_enter (own := R_Ti) (by decide) rfl (Nat.le_of_ble_eq_true rfl) (fun p e s m below meth c ls AV QQ H locs hQQ X Y hA hin hr hlk hml hl KS KR => ?_)
  have hl : lv_has ls 1 [(0, .ref h)] := hl
  have S : tS E T (tFr κ L [1, 2, 3, 4, 5, 6, 7, 8, 9, 10, 11, 12, 13, 14, 15, 16, 17, 18, 19, 20, 21] [h]) κ L f κ L f := tS_rf hw
  have hF0 : ∀ b, tFr κ L [1, 2, 3, 4, 5, 6, 7, 8, 9, 10, 11, 12, 13, 14, 15, 16, 17, 18, 19, 20, 21] [h] b → b ∈ L := fun b h9 => h9.1
  refine lv_aload_n X.1 X.2.1 d_Ti_init_0 rfl (lv_at hl 0 rfl) ?_
  refine W.objInit X.1 X.2.1 X.2.2.2.1 (X.2.2.1 _ ol_Ti) (X.2.2.1 _ o_inst) (X.2.2.1 _ o_code) rfl (by rw [hml]; exact hl.1) rfl d_Ti_init_1 (Nat.le_of_ble_eq_true rfl) (Nat.le_of_ble_eq_true rfl) ?_
  refine W.eq (g2 := F0 m 4 ls []) rfl ?_
  refine lv_aload_n X.1 X.2.1 d_Ti_init_4 rfl (lv_at hl 0 rfl) ?_
  refine t_new (ci := 3) X Y S hA hF0 i_By t_By t_By_ok ck_Ti_9 mk_By ini_By rfl (fs := [.null, .int (iI 0)]) (fun j hj => match j, hj with | 0, _ => rfl | 1, _ => rfl | n9 + 2, h9 => absurd (show n9 + 2 < 2 from h9) (by omega)) (Nat.le_of_ble_eq_true rfl) (Nat.le_of_ble_eq_true rfl) d_Ti_init_5 (fun q1 L1 f1 H Y S s1 nl1 m1 r1 e1 nz1 => ?_)
  have e2 : f1 h = .inr (10, [.null, .null, .int (iI 0), .int (iI 0), .null, .int (iI 0), .int (iI 0), .int (iI 0), .int (iI 0), .int (iI 0)]) := (s1.2.2.2 _ ⟨m_h, by rw [r_h]; decide, by simp⟩).1.trans e_h
  have m3 : h ∈ L1 := s1.2.1 _ m_h
  have r4 : (κ h).1 = 0 := by rw [(s1.2.2.2 _ ⟨m_h, by rw [r_h]; decide, by simp⟩).2]; exact r_h
  refine lv_dup X.1 X.2.1 d_Ti_init_8 rfl ?_
  refine lv_iconst (v := iI 0) X.1 X.2.1 d_Ti_init_9 (by decide) ?_
  refine t_mk (x_runI (As := [.int (iI 0)]) (rest := [.ref q1, .ref h]) (n := 1) X hml hl.1 (c_By_init l D E T κ L1 f1 H.size q1 m1 r1 e1 0 (by omega) (by omega) S.1 0 0 (by omega) (by omega) (by decide)) (ok_k X Y hA KS KR) kl_Ti_By_init ks_By_init ki_By_init ini_By rfl ⟨rfl, rfl⟩ hd_By_init.2 ⟨Nat.le_of_ble_eq_true rfl, Nat.le_of_ble_eq_true rfl⟩ rfl (Nat.le_of_ble_eq_true rfl) d_Ti_init_10 ⟨Nat.le_of_ble_eq_true rfl, Nat.le_of_ble_eq_true rfl⟩) X Y hA S (by decide) nl1 (fun κ5 L5 f5 H locs Y S s5 p5 => ?_)
  obtain k5 := p5
  have e6 : f5 h = .inr (10, [.null, .null, .int (iI 0), .int (iI 0), .null, .int (iI 0), .int (iI 0), .int (iI 0), .int (iI 0), .int (iI 0)]) := (s5.2.2.2 _ ⟨m3, by rw [r4]; decide, by simp only [List.mem_singleton]; exact (nz1 _ m_h)⟩).1.trans e2
  have m7 : h ∈ L5 := s5.2.1 _ m3
  have r8 : (κ5 h).1 = 0 := by rw [(s5.2.2.2 _ ⟨m3, by rw [r4]; decide, by simp only [List.mem_singleton]; exact (nz1 _ m_h)⟩).2]; exact r4
  refine q_put X.1 X.2.1 X.2.2.1 i_Ti t_Ti t_Ti_ok n_Ti X.2.2.2.1 X.2.2.2.2 Y m7 e6 rfl 0 (by decide) (X.2.2.1 _ lk_Ti_14) (fun _ h9 => h9) rfl (t_Ti_ok 0 (by decide)) rfl rfl (Nat.le_of_ble_eq_true rfl) d_Ti_init_13 (fun H locs Y => ?_)
  have Y : pH D cCl (pA L sz) s.heap L5 (va_up f5 h (.inr (10, [.ref q1, .null, .int (iI 0), .int (iI 0), .null, .int (iI 0), .int (iI 0), .int (iI 0), .int (iI 0), .int (iI 0)]))) H locs := Y
  have S := tS_up (x := .inr (10, [.ref q1, .null, .int (iI 0), .int (iI 0), .null, .int (iI 0), .int (iI 0), .int (iI 0), .int (iI 0), .int (iI 0)])) S (fun h9 => h9.2.2 (List.mem_singleton.mpr rfl)) (fun h9 => absurd r8 h9)
  have e10 : (va_up f5 h (.inr (10, [.ref q1, .null, .int (iI 0), .int (iI 0), .null, .int (iI 0), .int (iI 0), .int (iI 0), .int (iI 0), .int (iI 0)]))) h = .inr (10, [.ref q1, .null, .int (iI 0), .int (iI 0), .null, .int (iI 0), .int (iI 0), .int (iI 0), .int (iI 0), .int (iI 0)]) := q_up
  generalize va_up f5 h (.inr (10, [.ref q1, .null, .int (iI 0), .int (iI 0), .null, .int (iI 0), .int (iI 0), .int (iI 0), .int (iI 0), .int (iI 0)])) = f9 at Y S e10
  refine lv_aload_n X.1 X.2.1 d_Ti_init_16 rfl (lv_at hl 0 rfl) ?_
  refine t_new (ci := 3) X Y S hA hF0 i_By t_By t_By_ok ck_Ti_9 mk_By ini_By rfl (fs := [.null, .int (iI 0)]) (fun j hj => match j, hj with | 0, _ => rfl | 1, _ => rfl | n9 + 2, h9 => absurd (show n9 + 2 < 2 from h9) (by omega)) (Nat.le_of_ble_eq_true rfl) (Nat.le_of_ble_eq_true rfl) d_Ti_init_17 (fun q11 L11 f11 H Y S s11 nl11 m11 r11 e11 nz11 => ?_)
  have k12 : κ5 q1 = (13, 0) := tLe_k s11.2.2.1 k5
  have e13 : f11 h = .inr (10, [.ref q1, .null, .int (iI 0), .int (iI 0), .null, .int (iI 0), .int (iI 0), .int (iI 0), .int (iI 0), .int (iI 0)]) := (s11.2.2.2 _ ⟨m7, by rw [r8]; decide, by simp⟩).1.trans e10
  have m14 : h ∈ L11 := s11.2.1 _ m7
  have r15 : (κ5 h).1 = 0 := by rw [(s11.2.2.2 _ ⟨m7, by rw [r8]; decide, by simp⟩).2]; exact r8
  refine lv_dup X.1 X.2.1 d_Ti_init_20 rfl ?_
  refine lv_bipush (v := iI 40) X.1 X.2.1 d_Ti_init_21 (by decide) ?_
  refine t_mk (x_runI (As := [.int (iI 40)]) (rest := [.ref q11, .ref h]) (n := 1) X hml hl.1 (c_By_init l D E T κ5 L11 f11 H.size q11 m11 r11 e11 40 (by omega) (by omega) S.1 40 40 (by omega) (by omega) (by decide)) (ok_k X Y hA KS KR) kl_Ti_By_init ks_By_init ki_By_init ini_By rfl ⟨rfl, rfl⟩ hd_By_init.2 ⟨Nat.le_of_ble_eq_true rfl, Nat.le_of_ble_eq_true rfl⟩ rfl (Nat.le_of_ble_eq_true rfl) d_Ti_init_23 ⟨Nat.le_of_ble_eq_true rfl, Nat.le_of_ble_eq_true rfl⟩) X Y hA S (by decide) nl11 (fun κ16 L16 f16 H locs Y S s16 p16 => ?_)
  obtain k16 := p16
  have k17 : κ16 q1 = (13, 0) := tLe_k s16.2.2.1 k12
  have e18 : f16 h = .inr (10, [.ref q1, .null, .int (iI 0), .int (iI 0), .null, .int (iI 0), .int (iI 0), .int (iI 0), .int (iI 0), .int (iI 0)]) := (s16.2.2.2 _ ⟨m14, by rw [r15]; decide, by simp only [List.mem_singleton]; exact (nz11 _ m7)⟩).1.trans e13
  have m19 : h ∈ L16 := s16.2.1 _ m14
  have r20 : (κ16 h).1 = 0 := by rw [(s16.2.2.2 _ ⟨m14, by rw [r15]; decide, by simp only [List.mem_singleton]; exact (nz11 _ m7)⟩).2]; exact r15
  refine q_putF X.1 X.2.1 X.2.2.1 i_Ti t_Ti t_Ti_ok n_Ti X.2.2.2.1 X.2.2.2.2 Y m19 e18 rfl 1 (by decide) (X.2.2.1 _ lk_Ti_20) (fun _ h9 => h9) rfl hin rfl (t_Ti_ok 1 (by decide)) rfl rfl (Nat.le_of_ble_eq_true rfl) d_Ti_init_26 (fun H locs Y => ?_)
  have Y : pH D cCl (pA L sz) s.heap L16 (va_up f16 h (.inr (10, [.ref q1, .ref q11, .int (iI 0), .int (iI 0), .null, .int (iI 0), .int (iI 0), .int (iI 0), .int (iI 0), .int (iI 0)]))) H locs := Y
  have S := tS_up (x := .inr (10, [.ref q1, .ref q11, .int (iI 0), .int (iI 0), .null, .int (iI 0), .int (iI 0), .int (iI 0), .int (iI 0), .int (iI 0)])) S (fun h9 => h9.2.2 (List.mem_singleton.mpr rfl)) (fun h9 => absurd r20 h9)
  have e22 : (va_up f16 h (.inr (10, [.ref q1, .ref q11, .int (iI 0), .int (iI 0), .null, .int (iI 0), .int (iI 0), .int (iI 0), .int (iI 0), .int (iI 0)]))) h = .inr (10, [.ref q1, .ref q11, .int (iI 0), .int (iI 0), .null, .int (iI 0), .int (iI 0), .int (iI 0), .int (iI 0), .int (iI 0)]) := q_up
  generalize va_up f16 h (.inr (10, [.ref q1, .ref q11, .int (iI 0), .int (iI 0), .null, .int (iI 0), .int (iI 0), .int (iI 0), .int (iI 0), .int (iI 0)])) = f21 at Y S e22
  refine lv_aload_n X.1 X.2.1 d_Ti_init_29 rfl (lv_at hl 0 rfl) ?_
  refine k_getsN X Y KS KR (by decide) d_Ti_init_30 ?_
  refine q_put X.1 X.2.1 X.2.2.1 i_Ti t_Ti t_Ti_ok n_Ti X.2.2.2.1 X.2.2.2.2 Y m19 e22 rfl 4 (by decide) (X.2.2.1 _ lk_Ti_27) (fun _ h9 => h9) rfl (t_Ti_ok 4 (by decide)) rfl rfl (Nat.le_of_ble_eq_true rfl) d_Ti_init_33 (fun H locs Y => ?_)
  have Y : pH D cCl (pA L sz) s.heap L16 (va_up f21 h (.inr (10, [.ref q1, .ref q11, .int (iI 0), .int (iI 0), .ref ((T.1 0)), .int (iI 0), .int (iI 0), .int (iI 0), .int (iI 0), .int (iI 0)]))) H locs := Y
  have S := tS_up (x := .inr (10, [.ref q1, .ref q11, .int (iI 0), .int (iI 0), .ref ((T.1 0)), .int (iI 0), .int (iI 0), .int (iI 0), .int (iI 0), .int (iI 0)])) S (fun h9 => h9.2.2 (List.mem_singleton.mpr rfl)) (fun h9 => absurd r20 h9)
  have e24 : (va_up f21 h (.inr (10, [.ref q1, .ref q11, .int (iI 0), .int (iI 0), .ref ((T.1 0)), .int (iI 0), .int (iI 0), .int (iI 0), .int (iI 0), .int (iI 0)]))) h = .inr (10, [.ref q1, .ref q11, .int (iI 0), .int (iI 0), .ref ((T.1 0)), .int (iI 0), .int (iI 0), .int (iI 0), .int (iI 0), .int (iI 0)]) := q_up
  generalize va_up f21 h (.inr (10, [.ref q1, .ref q11, .int (iI 0), .int (iI 0), .ref ((T.1 0)), .int (iI 0), .int (iI 0), .int (iI 0), .int (iI 0), .int (iI 0)])) = f23 at Y S e24
  have hle : tLe κ16 (va_up κ16 h (20, 0)) := tLe_raw r20
  have S := (tS_kind (k := (20, 0)) S m19 r20 r_h (fun h9 => h9.2.2 (List.mem_singleton.mpr rfl)) (by rw [e24]; exact ⟨_, rfl, okO_of ⟨⟨_, _, rfl, tLe_k hle k17, by omega⟩, ⟨_, rfl, tLe_k hle k16⟩, ⟨_, rfl, by omega, by omega⟩, ⟨_, rfl, by omega, by omega⟩, ⟨_, 0, rfl, tLe_key hle tKey_no⟩, ⟨_, rfl, by omega, by omega⟩, ⟨_, rfl, by omega, by omega⟩, ⟨_, rfl, by omega, by omega⟩, ⟨_, rfl, by omega, by omega⟩, ⟨_, rfl, by omega, by omega⟩, trivial⟩⟩)).1
  exact c_retv hQQ X Y hr hlk ⟨_, S, va_up_self _ _ _⟩ d_Ti_init_36
set_option maxHeartbeats 4000000 in
set_option maxRecDepth 100000 in
theorem c_Ag_init (l : Launch) (D : va_G) (E : cE) (T : cT) (κ : tK) (L : List Nat) (f : pF) (sz : Nat) (h : Nat) (m_h : h ∈ L) (r_h : (κ h).1 = 0) (e_h : f h = .inr (2, [.null, .null, .int (iI 0), .int (iI 0), .null, .null, .null, .int (iI 0), .int (iI 0), .int (iI 0), .int (iI 0), .int (iI 0), .null, .null, .null, .int (iI 0), .int (iI 0), .long 0, .null, .long 0, .int (iI 0)])) (a1 : Nat) (k1 : κ a1 = (21, 0)) (hw : tW E T κ L f) : Met l y_Ag_init (k_Ag_init :: lw_tg) (kRm 3 101 47 566) (va_Pc [.ref h, .ref a1] (kPre D E T L f sz)) (va_Qv (aPv E T [1, 2, 3, 4, 5, 6, 7, 8, 9, 10, 11, 12, 13, 14, 15, 16, 17, 18, 19, 20, 21] [h] κ L f (fun (k : tK) (g : pF) => k h = (12, 0))) (cPost D E (pA L sz)) (pA L sz)) 47 566 (pA L sz) := by
  refine k_enter (own := R_Ag) (by decide) rfl (Nat.le_of_ble_eq_true rfl) (fun p e s m below meth c ls AV QQ H locs hQQ X Y hA hin hr hlk hml hl KS KR => ?_)
  have hl : lv_has ls 3 [(0, .ref h), (1, .ref a1)] := hl
  have S : tS E T (tFr κ L [1, 2, 3, 4, 5, 6, 7, 8, 9, 10, 11, 12, 13, 14, 15, 16, 17, 18, 19, 20, 21] [h]) κ L f κ L f := tS_rf hw
  have hF0 : ∀ b, tFr κ L [1, 2, 3, 4, 5, 6, 7, 8, 9, 10, 11, 12, 13, 14, 15, 16, 17, 18, 19, 20, 21] [h] b → b ∈ L := fun b h9 => h9.1
  refine lv_aload_n X.1 X.2.1 d_Ag_init_0 rfl (lv_at hl 0 rfl) ?_
  refine W.objInit X.1 X.2.1 X.2.2.2.1 (X.2.2.1 _ ol_Ag) (X.2.2.1 _ o_inst) (X.2.2.1 _ o_code) rfl (by rw [hml]; exact hl.1) rfl d_Ag_init_1 (Nat.le_of_ble_eq_true rfl) (Nat.le_of_ble_eq_true rfl) ?_
  refine W.eq (g2 := F0 m 4 ls []) rfl ?_
  refine lv_aload_n X.1 X.2.1 d_Ag_init_4 rfl (lv_at hl 0 rfl) ?_
  refine t_new (ci := 3) X Y S hA hF0 i_By t_By t_By_ok ck_Ag_9 mk_By ini_By rfl (fs := [.null, .int (iI 0)]) (fun j hj => match j, hj with | 0, _ => rfl | 1, _ => rfl | n9 + 2, h9 => absurd (show n9 + 2 < 2 from h9) (by omega)) (Nat.le_of_ble_eq_true rfl) (Nat.le_of_ble_eq_true rfl) d_Ag_init_5 (fun q1 L1 f1 H Y S s1 nl1 m1 r1 e1 nz1 => ?_)
  have k2 : κ a1 = (21, 0) := tLe_k s1.2.2.1 k1
  have e3 : f1 h = .inr (2, [.null, .null, .int (iI 0), .int (iI 0), .null, .null, .null, .int (iI 0), .int (iI 0), .int (iI 0), .int (iI 0), .int (iI 0), .null, .null, .null, .int (iI 0), .int (iI 0), .long 0, .null, .long 0, .int (iI 0)]) := (s1.2.2.2 _ ⟨m_h, by rw [r_h]; decide, by simp⟩).1.trans e_h
  have m4 : h ∈ L1 := s1.2.1 _ m_h
  have r5 : (κ h).1 = 0 := by rw [(s1.2.2.2 _ ⟨m_h, by rw [r_h]; decide, by simp⟩).2]; exact r_h
  refine lv_dup X.1 X.2.1 d_Ag_init_8 rfl ?_
  refine lv_bipush (v := iI 40) X.1 X.2.1 d_Ag_init_9 (by decide) ?_
  refine t_mk (x_runI (As := [.int (iI 40)]) (rest := [.ref q1, .ref h]) (n := 1) X hml hl.1 (c_By_init l D E T κ L1 f1 H.size q1 m1 r1 e1 40 (by omega) (by omega) S.1 40 40 (by omega) (by omega) (by decide)) (ok_k X Y hA KS KR) kl_Ag_By_init ks_By_init ki_By_init ini_By rfl ⟨rfl, rfl⟩ hd_By_init.2 ⟨Nat.le_of_ble_eq_true rfl, Nat.le_of_ble_eq_true rfl⟩ rfl (Nat.le_of_ble_eq_true rfl) d_Ag_init_11 ⟨Nat.le_of_ble_eq_true rfl, Nat.le_of_ble_eq_true rfl⟩) X Y hA S (by decide) nl1 (fun κ6 L6 f6 H locs Y S s6 p6 => ?_)
  obtain k6 := p6
  have k7 : κ6 a1 = (21, 0) := tLe_k s6.2.2.1 k2
  have e8 : f6 h = .inr (2, [.null, .null, .int (iI 0), .int (iI 0), .null, .null, .null, .int (iI 0), .int (iI 0), .int (iI 0), .int (iI 0), .int (iI 0), .null, .null, .null, .int (iI 0), .int (iI 0), .long 0, .null, .long 0, .int (iI 0)]) := (s6.2.2.2 _ ⟨m4, by rw [r5]; decide, by simp only [List.mem_singleton]; exact (nz1 _ m_h)⟩).1.trans e3
  have m9 : h ∈ L6 := s6.2.1 _ m4
  have r10 : (κ6 h).1 = 0 := by rw [(s6.2.2.2 _ ⟨m4, by rw [r5]; decide, by simp only [List.mem_singleton]; exact (nz1 _ m_h)⟩).2]; exact r5
  refine q_putF X.1 X.2.1 X.2.2.1 i_Ag t_Ag t_Ag_ok n_Ag X.2.2.2.1 X.2.2.2.2 Y m9 e8 rfl 4 (by decide) (X.2.2.1 _ lk_Ag_14) (fun _ h9 => h9) rfl hin rfl (t_Ag_ok 4 (by decide)) rfl rfl (Nat.le_of_ble_eq_true rfl) d_Ag_init_14 (fun H locs Y => ?_)
  have Y : pH D cCl (pA L sz) s.heap L6 (va_up f6 h (.inr (2, [.null, .null, .int (iI 0), .int (iI 0), .ref q1, .null, .null, .int (iI 0), .int (iI 0), .int (iI 0), .int (iI 0), .int (iI 0), .null, .null, .null, .int (iI 0), .int (iI 0), .long 0, .null, .long 0, .int (iI 0)]))) H locs := Y
  have S := tS_up (x := .inr (2, [.null, .null, .int (iI 0), .int (iI 0), .ref q1, .null, .null, .int (iI 0), .int (iI 0), .int (iI 0), .int (iI 0), .int (iI 0), .null, .null, .null, .int (iI 0), .int (iI 0), .long 0, .null, .long 0, .int (iI 0)])) S (fun h9 => h9.2.2 (List.mem_singleton.mpr rfl)) (fun h9 => absurd r10 h9)
  have e12 : (va_up f6 h (.inr (2, [.null, .null, .int (iI 0), .int (iI 0), .ref q1, .null, .null, .int (iI 0), .int (iI 0), .int (iI 0), .int (iI 0), .int (iI 0), .null, .null, .null, .int (iI 0), .int (iI 0), .long 0, .null, .long 0, .int (iI 0)]))) h = .inr (2, [.null, .null, .int (iI 0), .int (iI 0), .ref q1, .null, .null, .int (iI 0), .int (iI 0), .int (iI 0), .int (iI 0), .int (iI 0), .null, .null, .null, .int (iI 0), .int (iI 0), .long 0, .null, .long 0, .int (iI 0)]) := q_up
  generalize va_up f6 h (.inr (2, [.null, .null, .int (iI 0), .int (iI 0), .ref q1, .null, .null, .int (iI 0), .int (iI 0), .int (iI 0), .int (iI 0), .int (iI 0), .null, .null, .null, .int (iI 0), .int (iI 0), .long 0, .null, .long 0, .int (iI 0)])) = f11 at Y S e12
  refine lv_aload_n X.1 X.2.1 d_Ag_init_17 rfl (lv_at hl 0 rfl) ?_
  refine k_getsN X Y KS KR (by decide) d_Ag_init_18 ?_
  refine q_put X.1 X.2.1 X.2.2.1 i_Ag t_Ag t_Ag_ok n_Ag X.2.2.2.1 X.2.2.2.2 Y m9 e12 rfl 5 (by decide) (X.2.2.1 _ lk_Ag_24) (fun _ h9 => h9) rfl (t_Ag_ok 5 (by decide)) rfl rfl (Nat.le_of_ble_eq_true rfl) d_Ag_init_21 (fun H locs Y => ?_)
  have Y : pH D cCl (pA L sz) s.heap L6 (va_up f11 h (.inr (2, [.null, .null, .int (iI 0), .int (iI 0), .ref q1, .ref ((T.1 0)), .null, .int (iI 0), .int (iI 0), .int (iI 0), .int (iI 0), .int (iI 0), .null, .null, .null, .int (iI 0), .int (iI 0), .long 0, .null, .long 0, .int (iI 0)]))) H locs := Y
  have S := tS_up (x := .inr (2, [.null, .null, .int (iI 0), .int (iI 0), .ref q1, .ref ((T.1 0)), .null, .int (iI 0), .int (iI 0), .int (iI 0), .int (iI 0), .int (iI 0), .null, .null, .null, .int (iI 0), .int (iI 0), .long 0, .null, .long 0, .int (iI 0)])) S (fun h9 => h9.2.2 (List.mem_singleton.mpr rfl)) (fun h9 => absurd r10 h9)
  have e14 : (va_up f11 h (.inr (2, [.null, .null, .int (iI 0), .int (iI 0), .ref q1, .ref ((T.1 0)), .null, .int (iI 0), .int (iI 0), .int (iI 0), .int (iI 0), .int (iI 0), .null, .null, .null, .int (iI 0), .int (iI 0), .long 0, .null, .long 0, .int (iI 0)]))) h = .inr (2, [.null, .null, .int (iI 0), .int (iI 0), .ref q1, .ref ((T.1 0)), .null, .int (iI 0), .int (iI 0), .int (iI 0), .int (iI 0), .int (iI 0), .null, .null, .null, .int (iI 0), .int (iI 0), .long 0, .null, .long 0, .int (iI 0)]) := q_up
  generalize va_up f11 h (.inr (2, [.null, .null, .int (iI 0), .int (iI 0), .ref q1, .ref ((T.1 0)), .null, .int (iI 0), .int (iI 0), .int (iI 0), .int (iI 0), .int (iI 0), .null, .null, .null, .int (iI 0), .int (iI 0), .long 0, .null, .long 0, .int (iI 0)])) = f13 at Y S e14
  refine lv_aload_n X.1 X.2.1 d_Ag_init_24 rfl (lv_at hl 0 rfl) ?_
  refine k_getsN X Y KS KR (by decide) d_Ag_init_25 ?_
  refine q_put X.1 X.2.1 X.2.2.1 i_Ag t_Ag t_Ag_ok n_Ag X.2.2.2.1 X.2.2.2.2 Y m9 e14 rfl 6 (by decide) (X.2.2.1 _ lk_Ag_27) (fun _ h9 => h9) rfl (t_Ag_ok 6 (by decide)) rfl rfl (Nat.le_of_ble_eq_true rfl) d_Ag_init_28 (fun H locs Y => ?_)
  have Y : pH D cCl (pA L sz) s.heap L6 (va_up f13 h (.inr (2, [.null, .null, .int (iI 0), .int (iI 0), .ref q1, .ref ((T.1 0)), .ref ((T.1 0)), .int (iI 0), .int (iI 0), .int (iI 0), .int (iI 0), .int (iI 0), .null, .null, .null, .int (iI 0), .int (iI 0), .long 0, .null, .long 0, .int (iI 0)]))) H locs := Y
  have S := tS_up (x := .inr (2, [.null, .null, .int (iI 0), .int (iI 0), .ref q1, .ref ((T.1 0)), .ref ((T.1 0)), .int (iI 0), .int (iI 0), .int (iI 0), .int (iI 0), .int (iI 0), .null, .null, .null, .int (iI 0), .int (iI 0), .long 0, .null, .long 0, .int (iI 0)])) S (fun h9 => h9.2.2 (List.mem_singleton.mpr rfl)) (fun h9 => absurd r10 h9)
  have e16 : (va_up f13 h (.inr (2, [.null, .null, .int (iI 0), .int (iI 0), .ref q1, .ref ((T.1 0)), .ref ((T.1 0)), .int (iI 0), .int (iI 0), .int (iI 0), .int (iI 0), .int (iI 0), .null, .null, .null, .int (iI 0), .int (iI 0), .long 0, .null, .long 0, .int (iI 0)]))) h = .inr (2, [.null, .null, .int (iI 0), .int (iI 0), .ref q1, .ref ((T.1 0)), .ref ((T.1 0)), .int (iI 0), .int (iI 0), .int (iI 0), .int (iI 0), .int (iI 0), .null, .null, .null, .int (iI 0), .int (iI 0), .long 0, .null, .long 0, .int (iI 0)]) := q_up
  generalize va_up f13 h (.inr (2, [.null, .null, .int (iI 0), .int (iI 0), .ref q1, .ref ((T.1 0)), .ref ((T.1 0)), .int (iI 0), .int (iI 0), .int (iI 0), .int (iI 0), .int (iI 0), .null, .null, .null, .int (iI 0), .int (iI 0), .long 0, .null, .long 0, .int (iI 0)])) = f15 at Y S e16
  refine lv_aload_n X.1 X.2.1 d_Ag_init_31 rfl (lv_at hl 0 rfl) ?_
  refine t_new (ci := 3) X Y S hA hF0 i_By t_By t_By_ok ck_Ag_9 mk_By ini_By rfl (fs := [.null, .int (iI 0)]) (fun j hj => match j, hj with | 0, _ => rfl | 1, _ => rfl | n9 + 2, h9 => absurd (show n9 + 2 < 2 from h9) (by omega)) (Nat.le_of_ble_eq_true rfl) (Nat.le_of_ble_eq_true rfl) d_Ag_init_32 (fun q17 L17 f17 H Y S s17 nl17 m17 r17 e17 nz17 => ?_)
  have k18 : κ6 a1 = (21, 0) := tLe_k s17.2.2.1 k7
  have k19 : κ6 q1 = (13, 40) := tLe_k s17.2.2.1 k6
  have e20 : f17 h = .inr (2, [.null, .null, .int (iI 0), .int (iI 0), .ref q1, .ref ((T.1 0)), .ref ((T.1 0)), .int (iI 0), .int (iI 0), .int (iI 0), .int (iI 0), .int (iI 0), .null, .null, .null, .int (iI 0), .int (iI 0), .long 0, .null, .long 0, .int (iI 0)]) := (s17.2.2.2 _ ⟨m9, by rw [r10]; decide, by simp⟩).1.trans e16
  have m21 : h ∈ L17 := s17.2.1 _ m9
  have r22 : (κ6 h).1 = 0 := by rw [(s17.2.2.2 _ ⟨m9, by rw [r10]; decide, by simp⟩).2]; exact r10
  refine lv_dup X.1 X.2.1 d_Ag_init_35 rfl ?_
  refine lv_bipush (v := iI 40) X.1 X.2.1 d_Ag_init_36 (by decide) ?_
  refine t_mk (x_runI (As := [.int (iI 40)]) (rest := [.ref q17, .ref h]) (n := 1) X hml hl.1 (c_By_init l D E T κ6 L17 f17 H.size q17 m17 r17 e17 40 (by omega) (by omega) S.1 40 40 (by omega) (by omega) (by decide)) (ok_k X Y hA KS KR) kl_Ag_By_init ks_By_init ki_By_init ini_By rfl ⟨rfl, rfl⟩ hd_By_init.2 ⟨Nat.le_of_ble_eq_true rfl, Nat.le_of_ble_eq_true rfl⟩ rfl (Nat.le_of_ble_eq_true rfl) d_Ag_init_38 ⟨Nat.le_of_ble_eq_true rfl, Nat.le_of_ble_eq_true rfl⟩) X Y hA S (by decide) nl17 (fun κ23 L23 f23 H locs Y S s23 p23 => ?_)
  obtain k23 := p23
  have k24 : κ23 a1 = (21, 0) := tLe_k s23.2.2.1 k18
  have k25 : κ23 q1 = (13, 40) := tLe_k s23.2.2.1 k19
  have e26 : f23 h = .inr (2, [.null, .null, .int (iI 0), .int (iI 0), .ref q1, .ref ((T.1 0)), .ref ((T.1 0)), .int (iI 0), .int (iI 0), .int (iI 0), .int (iI 0), .int (iI 0), .null, .null, .null, .int (iI 0), .int (iI 0), .long 0, .null, .long 0, .int (iI 0)]) := (s23.2.2.2 _ ⟨m21, by rw [r22]; decide, by simp only [List.mem_singleton]; exact (nz17 _ m9)⟩).1.trans e20
  have m27 : h ∈ L23 := s23.2.1 _ m21
  have r28 : (κ23 h).1 = 0 := by rw [(s23.2.2.2 _ ⟨m21, by rw [r22]; decide, by simp only [List.mem_singleton]; exact (nz17 _ m9)⟩).2]; exact r22
  refine q_putF X.1 X.2.1 X.2.2.1 i_Ag t_Ag t_Ag_ok n_Ag X.2.2.2.1 X.2.2.2.2 Y m27 e26 rfl 12 (by decide) (X.2.2.1 _ lk_Ag_30) (fun _ h9 => h9) rfl hin rfl (t_Ag_ok 12 (by decide)) rfl rfl (Nat.le_of_ble_eq_true rfl) d_Ag_init_41 (fun H locs Y => ?_)
  have Y : pH D cCl (pA L sz) s.heap L23 (va_up f23 h (.inr (2, [.null, .null, .int (iI 0), .int (iI 0), .ref q1, .ref ((T.1 0)), .ref ((T.1 0)), .int (iI 0), .int (iI 0), .int (iI 0), .int (iI 0), .int (iI 0), .ref q17, .null, .null, .int (iI 0), .int (iI 0), .long 0, .null, .long 0, .int (iI 0)]))) H locs := Y
  have S := tS_up (x := .inr (2, [.null, .null, .int (iI 0), .int (iI 0), .ref q1, .ref ((T.1 0)), .ref ((T.1 0)), .int (iI 0), .int (iI 0), .int (iI 0), .int (iI 0), .int (iI 0), .ref q17, .null, .null, .int (iI 0), .int (iI 0), .long 0, .null, .long 0, .int (iI 0)])) S (fun h9 => h9.2.2 (List.mem_singleton.mpr rfl)) (fun h9 => absurd r28 h9)
  have e30 : (va_up f23 h (.inr (2, [.null, .null, .int (iI 0), .int (iI 0), .ref q1, .ref ((T.1 0)), .ref ((T.1 0)), .int (iI 0), .int (iI 0), .int (iI 0), .int (iI 0), .int (iI 0), .ref q17, .null, .null, .int (iI 0), .int (iI 0), .long 0, .null, .long 0, .int (iI 0)]))) h = .inr (2, [.null, .null, .int (iI 0), .int (iI 0), .ref q1, .ref ((T.1 0)), .ref ((T.1 0)), .int (iI 0), .int (iI 0), .int (iI 0), .int (iI 0), .int (iI 0), .ref q17, .null, .null, .int (iI 0), .int (iI 0), .long 0, .null, .long 0, .int (iI 0)]) := q_up
  generalize va_up f23 h (.inr (2, [.null, .null, .int (iI 0), .int (iI 0), .ref q1, .ref ((T.1 0)), .ref ((T.1 0)), .int (iI 0), .int (iI 0), .int (iI 0), .int (iI 0), .int (iI 0), .ref q17, .null, .null, .int (iI 0), .int (iI 0), .long 0, .null, .long 0, .int (iI 0)])) = f29 at Y S e30
  refine lv_aload_n X.1 X.2.1 d_Ag_init_44 rfl (lv_at hl 0 rfl) ?_
  refine t_new (ci := 3) X Y S hA hF0 i_By t_By t_By_ok ck_Ag_9 mk_By ini_By rfl (fs := [.null, .int (iI 0)]) (fun j hj => match j, hj with | 0, _ => rfl | 1, _ => rfl | n9 + 2, h9 => absurd (show n9 + 2 < 2 from h9) (by omega)) (Nat.le_of_ble_eq_true rfl) (Nat.le_of_ble_eq_true rfl) d_Ag_init_45 (fun q31 L31 f31 H Y S s31 nl31 m31 r31 e31 nz31 => ?_)
  have k32 : κ23 a1 = (21, 0) := tLe_k s31.2.2.1 k24
  have k33 : κ23 q1 = (13, 40) := tLe_k s31.2.2.1 k25
  have k34 : κ23 q17 = (13, 40) := tLe_k s31.2.2.1 k23
  have e35 : f31 h = .inr (2, [.null, .null, .int (iI 0), .int (iI 0), .ref q1, .ref ((T.1 0)), .ref ((T.1 0)), .int (iI 0), .int (iI 0), .int (iI 0), .int (iI 0), .int (iI 0), .ref q17, .null, .null, .int (iI 0), .int (iI 0), .long 0, .null, .long 0, .int (iI 0)]) := (s31.2.2.2 _ ⟨m27, by rw [r28]; decide, by simp⟩).1.trans e30
  have m36 : h ∈ L31 := s31.2.1 _ m27
  have r37 : (κ23 h).1 = 0 := by rw [(s31.2.2.2 _ ⟨m27, by rw [r28]; decide, by simp⟩).2]; exact r28
  refine lv_dup X.1 X.2.1 d_Ag_init_48 rfl ?_
  refine lv_bipush (v := iI 40) X.1 X.2.1 d_Ag_init_49 (by decide) ?_
  refine t_mk (x_runI (As := [.int (iI 40)]) (rest := [.ref q31, .ref h]) (n := 1) X hml hl.1 (c_By_init l D E T κ23 L31 f31 H.size q31 m31 r31 e31 40 (by omega) (by omega) S.1 40 40 (by omega) (by omega) (by decide)) (ok_k X Y hA KS KR) kl_Ag_By_init ks_By_init ki_By_init ini_By rfl ⟨rfl, rfl⟩ hd_By_init.2 ⟨Nat.le_of_ble_eq_true rfl, Nat.le_of_ble_eq_true rfl⟩ rfl (Nat.le_of_ble_eq_true rfl) d_Ag_init_51 ⟨Nat.le_of_ble_eq_true rfl, Nat.le_of_ble_eq_true rfl⟩) X Y hA S (by decide) nl31 (fun κ38 L38 f38 H locs Y S s38 p38 => ?_)
  obtain k38 := p38
  have k39 : κ38 a1 = (21, 0) := tLe_k s38.2.2.1 k32
  have k40 : κ38 q1 = (13, 40) := tLe_k s38.2.2.1 k33
  have k41 : κ38 q17 = (13, 40) := tLe_k s38.2.2.1 k34
  have e42 : f38 h = .inr (2, [.null, .null, .int (iI 0), .int (iI 0), .ref q1, .ref ((T.1 0)), .ref ((T.1 0)), .int (iI 0), .int (iI 0), .int (iI 0), .int (iI 0), .int (iI 0), .ref q17, .null, .null, .int (iI 0), .int (iI 0), .long 0, .null, .long 0, .int (iI 0)]) := (s38.2.2.2 _ ⟨m36, by rw [r37]; decide, by simp only [List.mem_singleton]; exact (nz31 _ m27)⟩).1.trans e35
  have m43 : h ∈ L38 := s38.2.1 _ m36
  have r44 : (κ38 h).1 = 0 := by rw [(s38.2.2.2 _ ⟨m36, by rw [r37]; decide, by simp only [List.mem_singleton]; exact (nz31 _ m27)⟩).2]; exact r37
  refine q_putF X.1 X.2.1 X.2.2.1 i_Ag t_Ag t_Ag_ok n_Ag X.2.2.2.1 X.2.2.2.2 Y m43 e42 rfl 13 (by decide) (X.2.2.1 _ lk_Ag_33) (fun _ h9 => h9) rfl hin rfl (t_Ag_ok 13 (by decide)) rfl rfl (Nat.le_of_ble_eq_true rfl) d_Ag_init_54 (fun H locs Y => ?_)
  have Y : pH D cCl (pA L sz) s.heap L38 (va_up f38 h (.inr (2, [.null, .null, .int (iI 0), .int (iI 0), .ref q1, .ref ((T.1 0)), .ref ((T.1 0)), .int (iI 0), .int (iI 0), .int (iI 0), .int (iI 0), .int (iI 0), .ref q17, .ref q31, .null, .int (iI 0), .int (iI 0), .long 0, .null, .long 0, .int (iI 0)]))) H locs := Y
  have S := tS_up (x := .inr (2, [.null, .null, .int (iI 0), .int (iI 0), .ref q1, .ref ((T.1 0)), .ref ((T.1 0)), .int (iI 0), .int (iI 0), .int (iI 0), .int (iI 0), .int (iI 0), .ref q17, .ref q31, .null, .int (iI 0), .int (iI 0), .long 0, .null, .long 0, .int (iI 0)])) S (fun h9 => h9.2.2 (List.mem_singleton.mpr rfl)) (fun h9 => absurd r44 h9)
  have e46 : (va_up f38 h (.inr (2, [.null, .null, .int (iI 0), .int (iI 0), .ref q1, .ref ((T.1 0)), .ref ((T.1 0)), .int (iI 0), .int (iI 0), .int (iI 0), .int (iI 0), .int (iI 0), .ref q17, .ref q31, .null, .int (iI 0), .int (iI 0), .long 0, .null, .long 0, .int (iI 0)]))) h = .inr (2, [.null, .null, .int (iI 0), .int (iI 0), .ref q1, .ref ((T.1 0)), .ref ((T.1 0)), .int (iI 0), .int (iI 0), .int (iI 0), .int (iI 0), .int (iI 0), .ref q17, .ref q31, .null, .int (iI 0), .int (iI 0), .long 0, .null, .long 0, .int (iI 0)]) := q_up
  generalize va_up f38 h (.inr (2, [.null, .null, .int (iI 0), .int (iI 0), .ref q1, .ref ((T.1 0)), .ref ((T.1 0)), .int (iI 0), .int (iI 0), .int (iI 0), .int (iI 0), .int (iI 0), .ref q17, .ref q31, .null, .int (iI 0), .int (iI 0), .long 0, .null, .long 0, .int (iI 0)])) = f45 at Y S e46
  refine lv_aload_n X.1 X.2.1 d_Ag_init_57 rfl (lv_at hl 0 rfl) ?_
  refine k_getsN X Y KS KR (by decide) d_Ag_init_58 ?_
  refine q_put X.1 X.2.1 X.2.2.1 i_Ag t_Ag t_Ag_ok n_Ag X.2.2.2.1 X.2.2.2.2 Y m43 e46 rfl 14 (by decide) (X.2.2.1 _ lk_Ag_36) (fun _ h9 => h9) rfl (t_Ag_ok 14 (by decide)) rfl rfl (Nat.le_of_ble_eq_true rfl) d_Ag_init_61 (fun H locs Y => ?_)
  have Y : pH D cCl (pA L sz) s.heap L38 (va_up f45 h (.inr (2, [.null, .null, .int (iI 0), .int (iI 0), .ref q1, .ref ((T.1 0)), .ref ((T.1 0)), .int (iI 0), .int (iI 0), .int (iI 0), .int (iI 0), .int (iI 0), .ref q17, .ref q31, .ref ((T.1 0)), .int (iI 0), .int (iI 0), .long 0, .null, .long 0, .int (iI 0)]))) H locs := Y
  have S := tS_up (x := .inr (2, [.null, .null, .int (iI 0), .int (iI 0), .ref q1, .ref ((T.1 0)), .ref ((T.1 0)), .int (iI 0), .int (iI 0), .int (iI 0), .int (iI 0), .int (iI 0), .ref q17, .ref q31, .ref ((T.1 0)), .int (iI 0), .int (iI 0), .long 0, .null, .long 0, .int (iI 0)])) S (fun h9 => h9.2.2 (List.mem_singleton.mpr rfl)) (fun h9 => absurd r44 h9)
  have e48 : (va_up f45 h (.inr (2, [.null, .null, .int (iI 0), .int (iI 0), .ref q1, .ref ((T.1 0)), .ref ((T.1 0)), .int (iI 0), .int (iI 0), .int (iI 0), .int (iI 0), .int (iI 0), .ref q17, .ref q31, .ref ((T.1 0)), .int (iI 0), .int (iI 0), .long 0, .null, .long 0, .int (iI 0)]))) h = .inr (2, [.null, .null, .int (iI 0), .int (iI 0), .ref q1, .ref ((T.1 0)), .ref ((T.1 0)), .int (iI 0), .int (iI 0), .int (iI 0), .int (iI 0), .int (iI 0), .ref q17, .ref q31, .ref ((T.1 0)), .int (iI 0), .int (iI 0), .long 0, .null, .long 0, .int (iI 0)]) := q_up
  generalize va_up f45 h (.inr (2, [.null, .null, .int (iI 0), .int (iI 0), .ref q1, .ref ((T.1 0)), .ref ((T.1 0)), .int (iI 0), .int (iI 0), .int (iI 0), .int (iI 0), .int (iI 0), .ref q17, .ref q31, .ref ((T.1 0)), .int (iI 0), .int (iI 0), .long 0, .null, .long 0, .int (iI 0)])) = f47 at Y S e48
  refine lv_aload_n X.1 X.2.1 d_Ag_init_64 rfl (lv_at hl 0 rfl) ?_
  refine k_getsN X Y KS KR (by decide) d_Ag_init_65 ?_
  refine q_put X.1 X.2.1 X.2.2.1 i_Ag t_Ag t_Ag_ok n_Ag X.2.2.2.1 X.2.2.2.2 Y m43 e48 rfl 18 (by decide) (X.2.2.1 _ lk_Ag_39) (fun _ h9 => h9) rfl (t_Ag_ok 18 (by decide)) rfl rfl (Nat.le_of_ble_eq_true rfl) d_Ag_init_68 (fun H locs Y => ?_)
  have Y : pH D cCl (pA L sz) s.heap L38 (va_up f47 h (.inr (2, [.null, .null, .int (iI 0), .int (iI 0), .ref q1, .ref ((T.1 0)), .ref ((T.1 0)), .int (iI 0), .int (iI 0), .int (iI 0), .int (iI 0), .int (iI 0), .ref q17, .ref q31, .ref ((T.1 0)), .int (iI 0), .int (iI 0), .long 0, .ref ((T.1 0)), .long 0, .int (iI 0)]))) H locs := Y
  have S := tS_up (x := .inr (2, [.null, .null, .int (iI 0), .int (iI 0), .ref q1, .ref ((T.1 0)), .ref ((T.1 0)), .int (iI 0), .int (iI 0), .int (iI 0), .int (iI 0), .int (iI 0), .ref q17, .ref q31, .ref ((T.1 0)), .int (iI 0), .int (iI 0), .long 0, .ref ((T.1 0)), .long 0, .int (iI 0)])) S (fun h9 => h9.2.2 (List.mem_singleton.mpr rfl)) (fun h9 => absurd r44 h9)
  have e50 : (va_up f47 h (.inr (2, [.null, .null, .int (iI 0), .int (iI 0), .ref q1, .ref ((T.1 0)), .ref ((T.1 0)), .int (iI 0), .int (iI 0), .int (iI 0), .int (iI 0), .int (iI 0), .ref q17, .ref q31, .ref ((T.1 0)), .int (iI 0), .int (iI 0), .long 0, .ref ((T.1 0)), .long 0, .int (iI 0)]))) h = .inr (2, [.null, .null, .int (iI 0), .int (iI 0), .ref q1, .ref ((T.1 0)), .ref ((T.1 0)), .int (iI 0), .int (iI 0), .int (iI 0), .int (iI 0), .int (iI 0), .ref q17, .ref q31, .ref ((T.1 0)), .int (iI 0), .int (iI 0), .long 0, .ref ((T.1 0)), .long 0, .int (iI 0)]) := q_up
  generalize va_up f47 h (.inr (2, [.null, .null, .int (iI 0), .int (iI 0), .ref q1, .ref ((T.1 0)), .ref ((T.1 0)), .int (iI 0), .int (iI 0), .int (iI 0), .int (iI 0), .int (iI 0), .ref q17, .ref q31, .ref ((T.1 0)), .int (iI 0), .int (iI 0), .long 0, .ref ((T.1 0)), .long 0, .int (iI 0)])) = f49 at Y S e50
  refine lv_aload_n X.1 X.2.1 d_Ag_init_71 rfl (lv_at hl 0 rfl) ?_
  refine lv_aload_n X.1 X.2.1 d_Ag_init_72 rfl (lv_at hl 1 rfl) ?_
  refine q_putF X.1 X.2.1 X.2.2.1 i_Ag t_Ag t_Ag_ok n_Ag X.2.2.2.1 X.2.2.2.2 Y m43 e50 rfl 0 (by decide) (X.2.2.1 _ lk_Ag_42) (fun _ h9 => h9) rfl hin rfl (t_Ag_ok 0 (by decide)) rfl rfl (Nat.le_of_ble_eq_true rfl) d_Ag_init_73 (fun H locs Y => ?_)
  have Y : pH D cCl (pA L sz) s.heap L38 (va_up f49 h (.inr (2, [.ref a1, .null, .int (iI 0), .int (iI 0), .ref q1, .ref ((T.1 0)), .ref ((T.1 0)), .int (iI 0), .int (iI 0), .int (iI 0), .int (iI 0), .int (iI 0), .ref q17, .ref q31, .ref ((T.1 0)), .int (iI 0), .int (iI 0), .long 0, .ref ((T.1 0)), .long 0, .int (iI 0)]))) H locs := Y
  have S := tS_up (x := .inr (2, [.ref a1, .null, .int (iI 0), .int (iI 0), .ref q1, .ref ((T.1 0)), .ref ((T.1 0)), .int (iI 0), .int (iI 0), .int (iI 0), .int (iI 0), .int (iI 0), .ref q17, .ref q31, .ref ((T.1 0)), .int (iI 0), .int (iI 0), .long 0, .ref ((T.1 0)), .long 0, .int (iI 0)])) S (fun h9 => h9.2.2 (List.mem_singleton.mpr rfl)) (fun h9 => absurd r44 h9)
  have e52 : (va_up f49 h (.inr (2, [.ref a1, .null, .int (iI 0), .int (iI 0), .ref q1, .ref ((T.1 0)), .ref ((T.1 0)), .int (iI 0), .int (iI 0), .int (iI 0), .int (iI 0), .int (iI 0), .ref q17, .ref q31, .ref ((T.1 0)), .int (iI 0), .int (iI 0), .long 0, .ref ((T.1 0)), .long 0, .int (iI 0)]))) h = .inr (2, [.ref a1, .null, .int (iI 0), .int (iI 0), .ref q1, .ref ((T.1 0)), .ref ((T.1 0)), .int (iI 0), .int (iI 0), .int (iI 0), .int (iI 0), .int (iI 0), .ref q17, .ref q31, .ref ((T.1 0)), .int (iI 0), .int (iI 0), .long 0, .ref ((T.1 0)), .long 0, .int (iI 0)]) := q_up
  generalize va_up f49 h (.inr (2, [.ref a1, .null, .int (iI 0), .int (iI 0), .ref q1, .ref ((T.1 0)), .ref ((T.1 0)), .int (iI 0), .int (iI 0), .int (iI 0), .int (iI 0), .int (iI 0), .ref q17, .ref q31, .ref ((T.1 0)), .int (iI 0), .int (iI 0), .long 0, .ref ((T.1 0)), .long 0, .int (iI 0)])) = f51 at Y S e52
  refine lv_aload_n X.1 X.2.1 d_Ag_init_76 rfl (lv_at hl 0 rfl) ?_
  refine lv_bipush (v := iI 8) X.1 X.2.1 d_Ag_init_77 (by decide) ?_
  refine t_anew X Y S hA hF0 ck_Ag_46 (KR.2.2.2 _ (by decide)) (t0 := 5) (c2 := 20) (N := 8) rfl (by omega) (by decide) (Nat.le_of_ble_eq_true rfl) (Nat.le_of_ble_eq_true rfl) d_Ag_init_79 (fun q53 L53 f53 H Y S s53 nl53 m53 r53 e53 nz53 => ?_)
  have k54 : κ38 a1 = (21, 0) := tLe_k s53.2.2.1 k39
  have k55 : κ38 q1 = (13, 40) := tLe_k s53.2.2.1 k40
  have k56 : κ38 q17 = (13, 40) := tLe_k s53.2.2.1 k41
  have k57 : κ38 q31 = (13, 40) := tLe_k s53.2.2.1 k38
  have e58 : f53 h = .inr (2, [.ref a1, .null, .int (iI 0), .int (iI 0), .ref q1, .ref ((T.1 0)), .ref ((T.1 0)), .int (iI 0), .int (iI 0), .int (iI 0), .int (iI 0), .int (iI 0), .ref q17, .ref q31, .ref ((T.1 0)), .int (iI 0), .int (iI 0), .long 0, .ref ((T.1 0)), .long 0, .int (iI 0)]) := (s53.2.2.2 _ ⟨m43, by rw [r44]; decide, by simp⟩).1.trans e52
  have m59 : h ∈ L53 := s53.2.1 _ m43
  have r60 : (κ38 h).1 = 0 := by rw [(s53.2.2.2 _ ⟨m43, by rw [r44]; decide, by simp⟩).2]; exact r44
  refine q_putF X.1 X.2.1 X.2.2.1 i_Ag t_Ag t_Ag_ok n_Ag X.2.2.2.1 X.2.2.2.2 Y m59 e58 rfl 1 (by decide) (X.2.2.1 _ lk_Ag_48) (fun _ h9 => h9) rfl hin rfl (t_Ag_ok 1 (by decide)) rfl rfl (Nat.le_of_ble_eq_true rfl) d_Ag_init_82 (fun H locs Y => ?_)
  have Y : pH D cCl (pA L sz) s.heap L53 (va_up f53 h (.inr (2, [.ref a1, .ref q53, .int (iI 0), .int (iI 0), .ref q1, .ref ((T.1 0)), .ref ((T.1 0)), .int (iI 0), .int (iI 0), .int (iI 0), .int (iI 0), .int (iI 0), .ref q17, .ref q31, .ref ((T.1 0)), .int (iI 0), .int (iI 0), .long 0, .ref ((T.1 0)), .long 0, .int (iI 0)]))) H locs := Y
  have S := tS_up (x := .inr (2, [.ref a1, .ref q53, .int (iI 0), .int (iI 0), .ref q1, .ref ((T.1 0)), .ref ((T.1 0)), .int (iI 0), .int (iI 0), .int (iI 0), .int (iI 0), .int (iI 0), .ref q17, .ref q31, .ref ((T.1 0)), .int (iI 0), .int (iI 0), .long 0, .ref ((T.1 0)), .long 0, .int (iI 0)])) S (fun h9 => h9.2.2 (List.mem_singleton.mpr rfl)) (fun h9 => absurd r60 h9)
  have e62 : (va_up f53 h (.inr (2, [.ref a1, .ref q53, .int (iI 0), .int (iI 0), .ref q1, .ref ((T.1 0)), .ref ((T.1 0)), .int (iI 0), .int (iI 0), .int (iI 0), .int (iI 0), .int (iI 0), .ref q17, .ref q31, .ref ((T.1 0)), .int (iI 0), .int (iI 0), .long 0, .ref ((T.1 0)), .long 0, .int (iI 0)]))) h = .inr (2, [.ref a1, .ref q53, .int (iI 0), .int (iI 0), .ref q1, .ref ((T.1 0)), .ref ((T.1 0)), .int (iI 0), .int (iI 0), .int (iI 0), .int (iI 0), .int (iI 0), .ref q17, .ref q31, .ref ((T.1 0)), .int (iI 0), .int (iI 0), .long 0, .ref ((T.1 0)), .long 0, .int (iI 0)]) := q_up
  have e63 : okP κ38 E.2.2.2.2.2 8 0 20 ((va_up f53 h (.inr (2, [.ref a1, .ref q53, .int (iI 0), .int (iI 0), .ref q1, .ref ((T.1 0)), .ref ((T.1 0)), .int (iI 0), .int (iI 0), .int (iI 0), .int (iI 0), .int (iI 0), .ref q17, .ref q31, .ref ((T.1 0)), .int (iI 0), .int (iI 0), .long 0, .ref ((T.1 0)), .long 0, .int (iI 0)]))) q53) := by rw [q_ne (nz53 _ m43).symm]; exact e53
  generalize va_up f53 h (.inr (2, [.ref a1, .ref q53, .int (iI 0), .int (iI 0), .ref q1, .ref ((T.1 0)), .ref ((T.1 0)), .int (iI 0), .int (iI 0), .int (iI 0), .int (iI 0), .int (iI 0), .ref q17, .ref q31, .ref ((T.1 0)), .int (iI 0), .int (iI 0), .long 0, .ref ((T.1 0)), .long 0, .int (iI 0)])) = f61 at Y S e62 e63
  refine lv_iconst (v := iI 0) X.1 X.2.1 d_Ag_init_85 (by decide) ?_
  refine lv_istore_n (lv' := [(2, .int (iI 0)), (0, .ref h), (1, .ref a1)]) X.1 X.2.1 d_Ag_init_86 rfl hl (by decide) rfl (fun ls hl => ?_)
  refine lv_iload_n X.1 X.2.1 d_Ag_init_87 rfl (lv_at hl 0 rfl) ?_
  refine lv_bipush (v := iI 8) X.1 X.2.1 d_Ag_init_88 (by decide) ?_
  refine z_icmp_ge (tgt := 112) X.1 X.2.1 d_Ag_init_90 (by decide) ⟨by omega, by omega⟩ ⟨by omega, by omega⟩ (fun h64 => False.elim (by omega)) (fun h64 => ?_)
  · refine lv_aload_n X.1 X.2.1 d_Ag_init_93 rfl (lv_at hl 1 rfl) ?_
    refine q_get X.1 X.2.1 X.2.2.1 i_Ag X.2.2.2.1 X.2.2.2.2 Y m59 e62 rfl 1 (by decide) (X.2.2.1 _ lk_Ag_48) (fun _ h9 => h9) rfl d_Ag_init_94 ?_
    refine lv_iload_n X.1 X.2.1 d_Ag_init_97 rfl (lv_at hl 0 rfl) ?_
    refine t_new (ci := 10) X Y S hA hF0 i_Ti t_Ti t_Ti_ok ck_Ag_46 mk_Ti ini_Ti rfl (fs := [.null, .null, .int (iI 0), .int (iI 0), .null, .int (iI 0), .int (iI 0), .int (iI 0), .int (iI 0), .int (iI 0)]) (fun j hj => match j, hj with | 0, _ => rfl | 1, _ => rfl | 2, _ => rfl | 3, _ => rfl | 4, _ => rfl | 5, _ => rfl | 6, _ => rfl | 7, _ => rfl | 8, _ => rfl | 9, _ => rfl | n9 + 10, h9 => absurd (show n9 + 10 < 10 from h9) (by omega)) (Nat.le_of_ble_eq_true rfl) (Nat.le_of_ble_eq_true rfl) d_Ag_init_98 (fun q65 L65 f65 H Y S s65 nl65 m65 r65 e65 nz65 => ?_)
    have k66 : κ38 a1 = (21, 0) := tLe_k s65.2.2.1 k54
    have k67 : κ38 q1 = (13, 40) := tLe_k s65.2.2.1 k55
    have k68 : κ38 q17 = (13, 40) := tLe_k s65.2.2.1 k56
    have k69 : κ38 q31 = (13, 40) := tLe_k s65.2.2.1 k57
    have e70 : f65 h = .inr (2, [.ref a1, .ref q53, .int (iI 0), .int (iI 0), .ref q1, .ref ((T.1 0)), .ref ((T.1 0)), .int (iI 0), .int (iI 0), .int (iI 0), .int (iI 0), .int (iI 0), .ref q17, .ref q31, .ref ((T.1 0)), .int (iI 0), .int (iI 0), .long 0, .ref ((T.1 0)), .long 0, .int (iI 0)]) := (s65.2.2.2 _ ⟨m59, by rw [r60]; decide, by simp⟩).1.trans e62
    have m71 : h ∈ L65 := s65.2.1 _ m59
    have r72 : (κ38 h).1 = 0 := by rw [(s65.2.2.2 _ ⟨m59, by rw [r60]; decide, by simp⟩).2]; exact r60
    have e73 : okP κ38 E.2.2.2.2.2 8 0 20 (f65 q53) := okP_le s65.2.2.1 (by rw [(s65.2.2.2 _ ⟨m53, by rw [r53]; decide, by simp⟩).1]; exact e63)
    have m74 : q53 ∈ L65 := s65.2.1 _ m53
    have r75 : (κ38 q53).1 = 0 := by rw [(s65.2.2.2 _ ⟨m53, by rw [r53]; decide, by simp⟩).2]; exact r53
    refine lv_dup X.1 X.2.1 d_Ag_init_101 rfl ?_
    refine t_mk (x_runIN (As := []) (rest := [.ref q65, .int (iI 0), .ref q53]) (n := 0) X KR hml hl.1 (c_Ti_init l D E T κ38 L65 f65 H.size q65 m65 r65 e65 S.1) (ok_k X Y hA KS KR) (by decide) ks_Ti_init ki_Ti_init ini_Ti rfl ⟨rfl, rfl⟩ hd_Ti_init.2 ⟨Nat.le_of_ble_eq_true rfl, Nat.le_of_ble_eq_true rfl⟩ rfl (Nat.le_of_ble_eq_true rfl) d_Ag_init_102 ⟨Nat.le_of_ble_eq_true rfl, Nat.le_of_ble_eq_true rfl⟩) X Y hA S (by decide) nl65 (fun κ76 L76 f76 H locs Y S s76 p76 => ?_)
    obtain k76 := p76
    have k77 : κ76 a1 = (21, 0) := tLe_k s76.2.2.1 k66
    have k78 : κ76 q1 = (13, 40) := tLe_k s76.2.2.1 k67
    have k79 : κ76 q17 = (13, 40) := tLe_k s76.2.2.1 k68
    have k80 : κ76 q31 = (13, 40) := tLe_k s76.2.2.1 k69
    have e81 : f76 h = .inr (2, [.ref a1, .ref q53, .int (iI 0), .int (iI 0), .ref q1, .ref ((T.1 0)), .ref ((T.1 0)), .int (iI 0), .int (iI 0), .int (iI 0), .int (iI 0), .int (iI 0), .ref q17, .ref q31, .ref ((T.1 0)), .int (iI 0), .int (iI 0), .long 0, .ref ((T.1 0)), .long 0, .int (iI 0)]) := (s76.2.2.2 _ ⟨m71, by rw [r72]; decide, by simp only [List.mem_singleton]; exact (nz65 _ m59)⟩).1.trans e70
    have m82 : h ∈ L76 := s76.2.1 _ m71
    have r83 : (κ76 h).1 = 0 := by rw [(s76.2.2.2 _ ⟨m71, by rw [r72]; decide, by simp only [List.mem_singleton]; exact (nz65 _ m59)⟩).2]; exact r72
    have e84 : okP κ76 E.2.2.2.2.2 8 0 20 (f76 q53) := okP_le s76.2.2.1 (by rw [(s76.2.2.2 _ ⟨m74, by rw [r75]; decide, by simp only [List.mem_singleton]; exact (nz65 _ m53)⟩).1]; exact e73)
    have m85 : q53 ∈ L76 := s76.2.1 _ m74
    have r86 : (κ76 q53).1 = 0 := by rw [(s76.2.2.2 _ ⟨m74, by rw [r75]; decide, by simp only [List.mem_singleton]; exact (nz65 _ m53)⟩).2]; exact r75
    refine t_aast (ci := 10) (r := (R_Ti, F_Ti, 10)) (t0 := 5) X Y S m85 r86 e84 rfl k76 rfl (by omega) (by decide) (by decide) (fun h9 => nl53 h9.1) d_Ag_init_105 (fun f87 H locs Y S w87 o87 => ?_)
    have e88 : f87 h = .inr (2, [.ref a1, .ref q53, .int (iI 0), .int (iI 0), .ref q1, .ref ((T.1 0)), .ref ((T.1 0)), .int (iI 0), .int (iI 0), .int (iI 0), .int (iI 0), .int (iI 0), .ref q17, .ref q31, .ref ((T.1 0)), .int (iI 0), .int (iI 0), .long 0, .ref ((T.1 0)), .long 0, .int (iI 0)]) := (w87 _ (nz53 _ m43)).trans e81
    refine lv_iinc (v := iI 1) (lv' := [(2, .int (iI 1)), (0, .ref h), (1, .ref a1)]) X.1 X.2.1 d_Ag_init_106 hl (k := 0) rfl (by decide) (by decide) rfl (fun ls hl => ?_)
    refine lv_goto (tgt := 87) X.1 X.2.1 d_Ag_init_109 (by decide) ?_
    refine lv_iload_n X.1 X.2.1 d_Ag_init_87 rfl (lv_at hl 0 rfl) ?_
    refine lv_bipush (v := iI 8) X.1 X.2.1 d_Ag_init_88 (by decide) ?_
    refine z_icmp_ge (tgt := 112) X.1 X.2.1 d_Ag_init_90 (by decide) ⟨by omega, by omega⟩ ⟨by omega, by omega⟩ (fun h89 => False.elim (by omega)) (fun h89 => ?_)
    · refine lv_aload_n X.1 X.2.1 d_Ag_init_93 rfl (lv_at hl 1 rfl) ?_
      refine q_get X.1 X.2.1 X.2.2.1 i_Ag X.2.2.2.1 X.2.2.2.2 Y m82 e88 rfl 1 (by decide) (X.2.2.1 _ lk_Ag_48) (fun _ h9 => h9) rfl d_Ag_init_94 ?_
      refine lv_iload_n X.1 X.2.1 d_Ag_init_97 rfl (lv_at hl 0 rfl) ?_
      refine t_new (ci := 10) X Y S hA hF0 i_Ti t_Ti t_Ti_ok ck_Ag_46 mk_Ti ini_Ti rfl (fs := [.null, .null, .int (iI 0), .int (iI 0), .null, .int (iI 0), .int (iI 0), .int (iI 0), .int (iI 0), .int (iI 0)]) (fun j hj => match j, hj with | 0, _ => rfl | 1, _ => rfl | 2, _ => rfl | 3, _ => rfl | 4, _ => rfl | 5, _ => rfl | 6, _ => rfl | 7, _ => rfl | 8, _ => rfl | 9, _ => rfl | n9 + 10, h9 => absurd (show n9 + 10 < 10 from h9) (by omega)) (Nat.le_of_ble_eq_true rfl) (Nat.le_of_ble_eq_true rfl) d_Ag_init_98 (fun q90 L90 f90 H Y S s90 nl90 m90 r90 e90 nz90 => ?_)
      have k91 : κ76 a1 = (21, 0) := tLe_k s90.2.2.1 k77
      have k92 : κ76 q1 = (13, 40) := tLe_k s90.2.2.1 k78
      have k93 : κ76 q17 = (13, 40) := tLe_k s90.2.2.1 k79
      have k94 : κ76 q31 = (13, 40) := tLe_k s90.2.2.1 k80
      have e95 : f90 h = .inr (2, [.ref a1, .ref q53, .int (iI 0), .int (iI 0), .ref q1, .ref ((T.1 0)), .ref ((T.1 0)), .int (iI 0), .int (iI 0), .int (iI 0), .int (iI 0), .int (iI 0), .ref q17, .ref q31, .ref ((T.1 0)), .int (iI 0), .int (iI 0), .long 0, .ref ((T.1 0)), .long 0, .int (iI 0)]) := (s90.2.2.2 _ ⟨m82, by rw [r83]; decide, by simp⟩).1.trans e88
      have m96 : h ∈ L90 := s90.2.1 _ m82
      have r97 : (κ76 h).1 = 0 := by rw [(s90.2.2.2 _ ⟨m82, by rw [r83]; decide, by simp⟩).2]; exact r83
      have e98 : okP κ76 E.2.2.2.2.2 8 1 20 (f90 q53) := okP_le s90.2.2.1 (by rw [(s90.2.2.2 _ ⟨m85, by rw [r86]; decide, by simp⟩).1]; exact o87)
      have m99 : q53 ∈ L90 := s90.2.1 _ m85
      have r100 : (κ76 q53).1 = 0 := by rw [(s90.2.2.2 _ ⟨m85, by rw [r86]; decide, by simp⟩).2]; exact r86
      refine lv_dup X.1 X.2.1 d_Ag_init_101 rfl ?_
      refine t_mk (x_runIN (As := []) (rest := [.ref q90, .int (iI 1), .ref q53]) (n := 0) X KR hml hl.1 (c_Ti_init l D E T κ76 L90 f90 H.size q90 m90 r90 e90 S.1) (ok_k X Y hA KS KR) (by decide) ks_Ti_init ki_Ti_init ini_Ti rfl ⟨rfl, rfl⟩ hd_Ti_init.2 ⟨Nat.le_of_ble_eq_true rfl, Nat.le_of_ble_eq_true rfl⟩ rfl (Nat.le_of_ble_eq_true rfl) d_Ag_init_102 ⟨Nat.le_of_ble_eq_true rfl, Nat.le_of_ble_eq_true rfl⟩) X Y hA S (by decide) nl90 (fun κ101 L101 f101 H locs Y S s101 p101 => ?_)
      obtain k101 := p101
      have k102 : κ101 a1 = (21, 0) := tLe_k s101.2.2.1 k91
      have k103 : κ101 q1 = (13, 40) := tLe_k s101.2.2.1 k92
      have k104 : κ101 q17 = (13, 40) := tLe_k s101.2.2.1 k93
      have k105 : κ101 q31 = (13, 40) := tLe_k s101.2.2.1 k94
      have e106 : f101 h = .inr (2, [.ref a1, .ref q53, .int (iI 0), .int (iI 0), .ref q1, .ref ((T.1 0)), .ref ((T.1 0)), .int (iI 0), .int (iI 0), .int (iI 0), .int (iI 0), .int (iI 0), .ref q17, .ref q31, .ref ((T.1 0)), .int (iI 0), .int (iI 0), .long 0, .ref ((T.1 0)), .long 0, .int (iI 0)]) := (s101.2.2.2 _ ⟨m96, by rw [r97]; decide, by simp only [List.mem_singleton]; exact (nz90 _ m82)⟩).1.trans e95
      have m107 : h ∈ L101 := s101.2.1 _ m96
      have r108 : (κ101 h).1 = 0 := by rw [(s101.2.2.2 _ ⟨m96, by rw [r97]; decide, by simp only [List.mem_singleton]; exact (nz90 _ m82)⟩).2]; exact r97
      have e109 : okP κ101 E.2.2.2.2.2 8 1 20 (f101 q53) := okP_le s101.2.2.1 (by rw [(s101.2.2.2 _ ⟨m99, by rw [r100]; decide, by simp only [List.mem_singleton]; exact (nz90 _ m85)⟩).1]; exact e98)
      have m110 : q53 ∈ L101 := s101.2.1 _ m99
      have r111 : (κ101 q53).1 = 0 := by rw [(s101.2.2.2 _ ⟨m99, by rw [r100]; decide, by simp only [List.mem_singleton]; exact (nz90 _ m85)⟩).2]; exact r100
      refine t_aast (ci := 10) (r := (R_Ti, F_Ti, 10)) (t0 := 5) X Y S m110 r111 e109 rfl k101 rfl (by omega) (by decide) (by decide) (fun h9 => nl53 h9.1) d_Ag_init_105 (fun f112 H locs Y S w112 o112 => ?_)
      have e113 : f112 h = .inr (2, [.ref a1, .ref q53, .int (iI 0), .int (iI 0), .ref q1, .ref ((T.1 0)), .ref ((T.1 0)), .int (iI 0), .int (iI 0), .int (iI 0), .int (iI 0), .int (iI 0), .ref q17, .ref q31, .ref ((T.1 0)), .int (iI 0), .int (iI 0), .long 0, .ref ((T.1 0)), .long 0, .int (iI 0)]) := (w112 _ (nz53 _ m43)).trans e106
      refine lv_iinc (v := iI 2) (lv' := [(2, .int (iI 2)), (0, .ref h), (1, .ref a1)]) X.1 X.2.1 d_Ag_init_106 hl (k := 0) rfl (by decide) (by decide) rfl (fun ls hl => ?_)
      refine lv_goto (tgt := 87) X.1 X.2.1 d_Ag_init_109 (by decide) ?_
      refine lv_iload_n X.1 X.2.1 d_Ag_init_87 rfl (lv_at hl 0 rfl) ?_
      refine lv_bipush (v := iI 8) X.1 X.2.1 d_Ag_init_88 (by decide) ?_
      refine z_icmp_ge (tgt := 112) X.1 X.2.1 d_Ag_init_90 (by decide) ⟨by omega, by omega⟩ ⟨by omega, by omega⟩ (fun h114 => False.elim (by omega)) (fun h114 => ?_)
      · refine lv_aload_n X.1 X.2.1 d_Ag_init_93 rfl (lv_at hl 1 rfl) ?_
        refine q_get X.1 X.2.1 X.2.2.1 i_Ag X.2.2.2.1 X.2.2.2.2 Y m107 e113 rfl 1 (by decide) (X.2.2.1 _ lk_Ag_48) (fun _ h9 => h9) rfl d_Ag_init_94 ?_
        refine lv_iload_n X.1 X.2.1 d_Ag_init_97 rfl (lv_at hl 0 rfl) ?_
        refine t_new (ci := 10) X Y S hA hF0 i_Ti t_Ti t_Ti_ok ck_Ag_46 mk_Ti ini_Ti rfl (fs := [.null, .null, .int (iI 0), .int (iI 0), .null, .int (iI 0), .int (iI 0), .int (iI 0), .int (iI 0), .int (iI 0)]) (fun j hj => match j, hj with | 0, _ => rfl | 1, _ => rfl | 2, _ => rfl | 3, _ => rfl | 4, _ => rfl | 5, _ => rfl | 6, _ => rfl | 7, _ => rfl | 8, _ => rfl | 9, _ => rfl | n9 + 10, h9 => absurd (show n9 + 10 < 10 from h9) (by omega)) (Nat.le_of_ble_eq_true rfl) (Nat.le_of_ble_eq_true rfl) d_Ag_init_98 (fun q115 L115 f115 H Y S s115 nl115 m115 r115 e115 nz115 => ?_)
        have k116 : κ101 a1 = (21, 0) := tLe_k s115.2.2.1 k102
        have k117 : κ101 q1 = (13, 40) := tLe_k s115.2.2.1 k103
        have k118 : κ101 q17 = (13, 40) := tLe_k s115.2.2.1 k104
        have k119 : κ101 q31 = (13, 40) := tLe_k s115.2.2.1 k105
        have e120 : f115 h = .inr (2, [.ref a1, .ref q53, .int (iI 0), .int (iI 0), .ref q1, .ref ((T.1 0)), .ref ((T.1 0)), .int (iI 0), .int (iI 0), .int (iI 0), .int (iI 0), .int (iI 0), .ref q17, .ref q31, .ref ((T.1 0)), .int (iI 0), .int (iI 0), .long 0, .ref ((T.1 0)), .long 0, .int (iI 0)]) := (s115.2.2.2 _ ⟨m107, by rw [r108]; decide, by simp⟩).1.trans e113
        have m121 : h ∈ L115 := s115.2.1 _ m107
        have r122 : (κ101 h).1 = 0 := by rw [(s115.2.2.2 _ ⟨m107, by rw [r108]; decide, by simp⟩).2]; exact r108
        have e123 : okP κ101 E.2.2.2.2.2 8 2 20 (f115 q53) := okP_le s115.2.2.1 (by rw [(s115.2.2.2 _ ⟨m110, by rw [r111]; decide, by simp⟩).1]; exact o112)
        have m124 : q53 ∈ L115 := s115.2.1 _ m110
        have r125 : (κ101 q53).1 = 0 := by rw [(s115.2.2.2 _ ⟨m110, by rw [r111]; decide, by simp⟩).2]; exact r111
        refine lv_dup X.1 X.2.1 d_Ag_init_101 rfl ?_
        refine t_mk (x_runIN (As := []) (rest := [.ref q115, .int (iI 2), .ref q53]) (n := 0) X KR hml hl.1 (c_Ti_init l D E T κ101 L115 f115 H.size q115 m115 r115 e115 S.1) (ok_k X Y hA KS KR) (by decide) ks_Ti_init ki_Ti_init ini_Ti rfl ⟨rfl, rfl⟩ hd_Ti_init.2 ⟨Nat.le_of_ble_eq_true rfl, Nat.le_of_ble_eq_true rfl⟩ rfl (Nat.le_of_ble_eq_true rfl) d_Ag_init_102 ⟨Nat.le_of_ble_eq_true rfl, Nat.le_of_ble_eq_true rfl⟩) X Y hA S (by decide) nl115 (fun κ126 L126 f126 H locs Y S s126 p126 => ?_)
        obtain k126 := p126
        have k127 : κ126 a1 = (21, 0) := tLe_k s126.2.2.1 k116
        have k128 : κ126 q1 = (13, 40) := tLe_k s126.2.2.1 k117
        have k129 : κ126 q17 = (13, 40) := tLe_k s126.2.2.1 k118
        have k130 : κ126 q31 = (13, 40) := tLe_k s126.2.2.1 k119
        have e131 : f126 h = .inr (2, [.ref a1, .ref q53, .int (iI 0), .int (iI 0), .ref q1, .ref ((T.1 0)), .ref ((T.1 0)), .int (iI 0), .int (iI 0), .int (iI 0), .int (iI 0), .int (iI 0), .ref q17, .ref q31, .ref ((T.1 0)), .int (iI 0), .int (iI 0), .long 0, .ref ((T.1 0)), .long 0, .int (iI 0)]) := (s126.2.2.2 _ ⟨m121, by rw [r122]; decide, by simp only [List.mem_singleton]; exact (nz115 _ m107)⟩).1.trans e120
        have m132 : h ∈ L126 := s126.2.1 _ m121
        have r133 : (κ126 h).1 = 0 := by rw [(s126.2.2.2 _ ⟨m121, by rw [r122]; decide, by simp only [List.mem_singleton]; exact (nz115 _ m107)⟩).2]; exact r122
        have e134 : okP κ126 E.2.2.2.2.2 8 2 20 (f126 q53) := okP_le s126.2.2.1 (by rw [(s126.2.2.2 _ ⟨m124, by rw [r125]; decide, by simp only [List.mem_singleton]; exact (nz115 _ m110)⟩).1]; exact e123)
        have m135 : q53 ∈ L126 := s126.2.1 _ m124
        have r136 : (κ126 q53).1 = 0 := by rw [(s126.2.2.2 _ ⟨m124, by rw [r125]; decide, by simp only [List.mem_singleton]; exact (nz115 _ m110)⟩).2]; exact r125
        refine t_aast (ci := 10) (r := (R_Ti, F_Ti, 10)) (t0 := 5) X Y S m135 r136 e134 rfl k126 rfl (by omega) (by decide) (by decide) (fun h9 => nl53 h9.1) d_Ag_init_105 (fun f137 H locs Y S w137 o137 => ?_)
        have e138 : f137 h = .inr (2, [.ref a1, .ref q53, .int (iI 0), .int (iI 0), .ref q1, .ref ((T.1 0)), .ref ((T.1 0)), .int (iI 0), .int (iI 0), .int (iI 0), .int (iI 0), .int (iI 0), .ref q17, .ref q31, .ref ((T.1 0)), .int (iI 0), .int (iI 0), .long 0, .ref ((T.1 0)), .long 0, .int (iI 0)]) := (w137 _ (nz53 _ m43)).trans e131
        refine lv_iinc (v := iI 3) (lv' := [(2, .int (iI 3)), (0, .ref h), (1, .ref a1)]) X.1 X.2.1 d_Ag_init_106 hl (k := 0) rfl (by decide) (by decide) rfl (fun ls hl => ?_)
        refine lv_goto (tgt := 87) X.1 X.2.1 d_Ag_init_109 (by decide) ?_
        refine lv_iload_n X.1 X.2.1 d_Ag_init_87 rfl (lv_at hl 0 rfl) ?_
        refine lv_bipush (v := iI 8) X.1 X.2.1 d_Ag_init_88 (by decide) ?_
        refine z_icmp_ge (tgt := 112) X.1 X.2.1 d_Ag_init_90 (by decide) ⟨by omega, by omega⟩ ⟨by omega, by omega⟩ (fun h139 => False.elim (by omega)) (fun h139 => ?_)
        · refine lv_aload_n X.1 X.2.1 d_Ag_init_93 rfl (lv_at hl 1 rfl) ?_
          refine q_get X.1 X.2.1 X.2.2.1 i_Ag X.2.2.2.1 X.2.2.2.2 Y m132 e138 rfl 1 (by decide) (X.2.2.1 _ lk_Ag_48) (fun _ h9 => h9) rfl d_Ag_init_94 ?_
          refine lv_iload_n X.1 X.2.1 d_Ag_init_97 rfl (lv_at hl 0 rfl) ?_
          refine t_new (ci := 10) X Y S hA hF0 i_Ti t_Ti t_Ti_ok ck_Ag_46 mk_Ti ini_Ti rfl (fs := [.null, .null, .int (iI 0), .int (iI 0), .null, .int (iI 0), .int (iI 0), .int (iI 0), .int (iI 0), .int (iI 0)]) (fun j hj => match j, hj with | 0, _ => rfl | 1, _ => rfl | 2, _ => rfl | 3, _ => rfl | 4, _ => rfl | 5, _ => rfl | 6, _ => rfl | 7, _ => rfl | 8, _ => rfl | 9, _ => rfl | n9 + 10, h9 => absurd (show n9 + 10 < 10 from h9) (by omega)) (Nat.le_of_ble_eq_true rfl) (Nat.le_of_ble_eq_true rfl) d_Ag_init_98 (fun q140 L140 f140 H Y S s140 nl140 m140 r140 e140 nz140 => ?_)
          have k141 : κ126 a1 = (21, 0) := tLe_k s140.2.2.1 k127
          have k142 : κ126 q1 = (13, 40) := tLe_k s140.2.2.1 k128
          have k143 : κ126 q17 = (13, 40) := tLe_k s140.2.2.1 k129
          have k144 : κ126 q31 = (13, 40) := tLe_k s140.2.2.1 k130
          have e145 : f140 h = .inr (2, [.ref a1, .ref q53, .int (iI 0), .int (iI 0), .ref q1, .ref ((T.1 0)), .ref ((T.1 0)), .int (iI 0), .int (iI 0), .int (iI 0), .int (iI 0), .int (iI 0), .ref q17, .ref q31, .ref ((T.1 0)), .int (iI 0), .int (iI 0), .long 0, .ref ((T.1 0)), .long 0, .int (iI 0)]) := (s140.2.2.2 _ ⟨m132, by rw [r133]; decide, by simp⟩).1.trans e138
          have m146 : h ∈ L140 := s140.2.1 _ m132
          have r147 : (κ126 h).1 = 0 := by rw [(s140.2.2.2 _ ⟨m132, by rw [r133]; decide, by simp⟩).2]; exact r133
          have e148 : okP κ126 E.2.2.2.2.2 8 3 20 (f140 q53) := okP_le s140.2.2.1 (by rw [(s140.2.2.2 _ ⟨m135, by rw [r136]; decide, by simp⟩).1]; exact o137)
          have m149 : q53 ∈ L140 := s140.2.1 _ m135
          have r150 : (κ126 q53).1 = 0 := by rw [(s140.2.2.2 _ ⟨m135, by rw [r136]; decide, by simp⟩).2]; exact r136
          refine lv_dup X.1 X.2.1 d_Ag_init_101 rfl ?_
          refine t_mk (x_runIN (As := []) (rest := [.ref q140, .int (iI 3), .ref q53]) (n := 0) X KR hml hl.1 (c_Ti_init l D E T κ126 L140 f140 H.size q140 m140 r140 e140 S.1) (ok_k X Y hA KS KR) (by decide) ks_Ti_init ki_Ti_init ini_Ti rfl ⟨rfl, rfl⟩ hd_Ti_init.2 ⟨Nat.le_of_ble_eq_true rfl, Nat.le_of_ble_eq_true rfl⟩ rfl (Nat.le_of_ble_eq_true rfl) d_Ag_init_102 ⟨Nat.le_of_ble_eq_true rfl, Nat.le_of_ble_eq_true rfl⟩) X Y hA S (by decide) nl140 (fun κ151 L151 f151 H locs Y S s151 p151 => ?_)
          obtain k151 := p151
          have k152 : κ151 a1 = (21, 0) := tLe_k s151.2.2.1 k141
          have k153 : κ151 q1 = (13, 40) := tLe_k s151.2.2.1 k142
          have k154 : κ151 q17 = (13, 40) := tLe_k s151.2.2.1 k143
          have k155 : κ151 q31 = (13, 40) := tLe_k s151.2.2.1 k144
          have e156 : f151 h = .inr (2, [.ref a1, .ref q53, .int (iI 0), .int (iI 0), .ref q1, .ref ((T.1 0)), .ref ((T.1 0)), .int (iI 0), .int (iI 0), .int (iI 0), .int (iI 0), .int (iI 0), .ref q17, .ref q31, .ref ((T.1 0)), .int (iI 0), .int (iI 0), .long 0, .ref ((T.1 0)), .long 0, .int (iI 0)]) := (s151.2.2.2 _ ⟨m146, by rw [r147]; decide, by simp only [List.mem_singleton]; exact (nz140 _ m132)⟩).1.trans e145
          have m157 : h ∈ L151 := s151.2.1 _ m146
          have r158 : (κ151 h).1 = 0 := by rw [(s151.2.2.2 _ ⟨m146, by rw [r147]; decide, by simp only [List.mem_singleton]; exact (nz140 _ m132)⟩).2]; exact r147
          have e159 : okP κ151 E.2.2.2.2.2 8 3 20 (f151 q53) := okP_le s151.2.2.1 (by rw [(s151.2.2.2 _ ⟨m149, by rw [r150]; decide, by simp only [List.mem_singleton]; exact (nz140 _ m135)⟩).1]; exact e148)
          have m160 : q53 ∈ L151 := s151.2.1 _ m149
          have r161 : (κ151 q53).1 = 0 := by rw [(s151.2.2.2 _ ⟨m149, by rw [r150]; decide, by simp only [List.mem_singleton]; exact (nz140 _ m135)⟩).2]; exact r150
          refine t_aast (ci := 10) (r := (R_Ti, F_Ti, 10)) (t0 := 5) X Y S m160 r161 e159 rfl k151 rfl (by omega) (by decide) (by decide) (fun h9 => nl53 h9.1) d_Ag_init_105 (fun f162 H locs Y S w162 o162 => ?_)
          have e163 : f162 h = .inr (2, [.ref a1, .ref q53, .int (iI 0), .int (iI 0), .ref q1, .ref ((T.1 0)), .ref ((T.1 0)), .int (iI 0), .int (iI 0), .int (iI 0), .int (iI 0), .int (iI 0), .ref q17, .ref q31, .ref ((T.1 0)), .int (iI 0), .int (iI 0), .long 0, .ref ((T.1 0)), .long 0, .int (iI 0)]) := (w162 _ (nz53 _ m43)).trans e156
          refine lv_iinc (v := iI 4) (lv' := [(2, .int (iI 4)), (0, .ref h), (1, .ref a1)]) X.1 X.2.1 d_Ag_init_106 hl (k := 0) rfl (by decide) (by decide) rfl (fun ls hl => ?_)
          refine lv_goto (tgt := 87) X.1 X.2.1 d_Ag_init_109 (by decide) ?_
          refine lv_iload_n X.1 X.2.1 d_Ag_init_87 rfl (lv_at hl 0 rfl) ?_
          refine lv_bipush (v := iI 8) X.1 X.2.1 d_Ag_init_88 (by decide) ?_
          refine z_icmp_ge (tgt := 112) X.1 X.2.1 d_Ag_init_90 (by decide) ⟨by omega, by omega⟩ ⟨by omega, by omega⟩ (fun h164 => False.elim (by omega)) (fun h164 => ?_)
          · refine lv_aload_n X.1 X.2.1 d_Ag_init_93 rfl (lv_at hl 1 rfl) ?_
            refine q_get X.1 X.2.1 X.2.2.1 i_Ag X.2.2.2.1 X.2.2.2.2 Y m157 e163 rfl 1 (by decide) (X.2.2.1 _ lk_Ag_48) (fun _ h9 => h9) rfl d_Ag_init_94 ?_
            refine lv_iload_n X.1 X.2.1 d_Ag_init_97 rfl (lv_at hl 0 rfl) ?_
            refine t_new (ci := 10) X Y S hA hF0 i_Ti t_Ti t_Ti_ok ck_Ag_46 mk_Ti ini_Ti rfl (fs := [.null, .null, .int (iI 0), .int (iI 0), .null, .int (iI 0), .int (iI 0), .int (iI 0), .int (iI 0), .int (iI 0)]) (fun j hj => match j, hj with | 0, _ => rfl | 1, _ => rfl | 2, _ => rfl | 3, _ => rfl | 4, _ => rfl | 5, _ => rfl | 6, _ => rfl | 7, _ => rfl | 8, _ => rfl | 9, _ => rfl | n9 + 10, h9 => absurd (show n9 + 10 < 10 from h9) (by omega)) (Nat.le_of_ble_eq_true rfl) (Nat.le_of_ble_eq_true rfl) d_Ag_init_98 (fun q165 L165 f165 H Y S s165 nl165 m165 r165 e165 nz165 => ?_)
            have k166 : κ151 a1 = (21, 0) := tLe_k s165.2.2.1 k152
            have k167 : κ151 q1 = (13, 40) := tLe_k s165.2.2.1 k153
            have k168 : κ151 q17 = (13, 40) := tLe_k s165.2.2.1 k154
            have k169 : κ151 q31 = (13, 40) := tLe_k s165.2.2.1 k155
            have e170 : f165 h = .inr (2, [.ref a1, .ref q53, .int (iI 0), .int (iI 0), .ref q1, .ref ((T.1 0)), .ref ((T.1 0)), .int (iI 0), .int (iI 0), .int (iI 0), .int (iI 0), .int (iI 0), .ref q17, .ref q31, .ref ((T.1 0)), .int (iI 0), .int (iI 0), .long 0, .ref ((T.1 0)), .long 0, .int (iI 0)]) := (s165.2.2.2 _ ⟨m157, by rw [r158]; decide, by simp⟩).1.trans e163
            have m171 : h ∈ L165 := s165.2.1 _ m157
            have r172 : (κ151 h).1 = 0 := by rw [(s165.2.2.2 _ ⟨m157, by rw [r158]; decide, by simp⟩).2]; exact r158
            have e173 : okP κ151 E.2.2.2.2.2 8 4 20 (f165 q53) := okP_le s165.2.2.1 (by rw [(s165.2.2.2 _ ⟨m160, by rw [r161]; decide, by simp⟩).1]; exact o162)
            have m174 : q53 ∈ L165 := s165.2.1 _ m160
            have r175 : (κ151 q53).1 = 0 := by rw [(s165.2.2.2 _ ⟨m160, by rw [r161]; decide, by simp⟩).2]; exact r161
            refine lv_dup X.1 X.2.1 d_Ag_init_101 rfl ?_
            refine t_mk (x_runIN (As := []) (rest := [.ref q165, .int (iI 4), .ref q53]) (n := 0) X KR hml hl.1 (c_Ti_init l D E T κ151 L165 f165 H.size q165 m165 r165 e165 S.1) (ok_k X Y hA KS KR) (by decide) ks_Ti_init ki_Ti_init ini_Ti rfl ⟨rfl, rfl⟩ hd_Ti_init.2 ⟨Nat.le_of_ble_eq_true rfl, Nat.le_of_ble_eq_true rfl⟩ rfl (Nat.le_of_ble_eq_true rfl) d_Ag_init_102 ⟨Nat.le_of_ble_eq_true rfl, Nat.le_of_ble_eq_true rfl⟩) X Y hA S (by decide) nl165 (fun κ176 L176 f176 H locs Y S s176 p176 => ?_)
            obtain k176 := p176
            have k177 : κ176 a1 = (21, 0) := tLe_k s176.2.2.1 k166
            have k178 : κ176 q1 = (13, 40) := tLe_k s176.2.2.1 k167
            have k179 : κ176 q17 = (13, 40) := tLe_k s176.2.2.1 k168
            have k180 : κ176 q31 = (13, 40) := tLe_k s176.2.2.1 k169
            have e181 : f176 h = .inr (2, [.ref a1, .ref q53, .int (iI 0), .int (iI 0), .ref q1, .ref ((T.1 0)), .ref ((T.1 0)), .int (iI 0), .int (iI 0), .int (iI 0), .int (iI 0), .int (iI 0), .ref q17, .ref q31, .ref ((T.1 0)), .int (iI 0), .int (iI 0), .long 0, .ref ((T.1 0)), .long 0, .int (iI 0)]) := (s176.2.2.2 _ ⟨m171, by rw [r172]; decide, by simp only [List.mem_singleton]; exact (nz165 _ m157)⟩).1.trans e170
            have m182 : h ∈ L176 := s176.2.1 _ m171
            have r183 : (κ176 h).1 = 0 := by rw [(s176.2.2.2 _ ⟨m171, by rw [r172]; decide, by simp only [List.mem_singleton]; exact (nz165 _ m157)⟩).2]; exact r172
            have e184 : okP κ176 E.2.2.2.2.2 8 4 20 (f176 q53) := okP_le s176.2.2.1 (by rw [(s176.2.2.2 _ ⟨m174, by rw [r175]; decide, by simp only [List.mem_singleton]; exact (nz165 _ m160)⟩).1]; exact e173)
            have m185 : q53 ∈ L176 := s176.2.1 _ m174
            have r186 : (κ176 q53).1 = 0 := by rw [(s176.2.2.2 _ ⟨m174, by rw [r175]; decide, by simp only [List.mem_singleton]; exact (nz165 _ m160)⟩).2]; exact r175
            refine t_aast (ci := 10) (r := (R_Ti, F_Ti, 10)) (t0 := 5) X Y S m185 r186 e184 rfl k176 rfl (by omega) (by decide) (by decide) (fun h9 => nl53 h9.1) d_Ag_init_105 (fun f187 H locs Y S w187 o187 => ?_)
            have e188 : f187 h = .inr (2, [.ref a1, .ref q53, .int (iI 0), .int (iI 0), .ref q1, .ref ((T.1 0)), .ref ((T.1 0)), .int (iI 0), .int (iI 0), .int (iI 0), .int (iI 0), .int (iI 0), .ref q17, .ref q31, .ref ((T.1 0)), .int (iI 0), .int (iI 0), .long 0, .ref ((T.1 0)), .long 0, .int (iI 0)]) := (w187 _ (nz53 _ m43)).trans e181
            refine lv_iinc (v := iI 5) (lv' := [(2, .int (iI 5)), (0, .ref h), (1, .ref a1)]) X.1 X.2.1 d_Ag_init_106 hl (k := 0) rfl (by decide) (by decide) rfl (fun ls hl => ?_)
            refine lv_goto (tgt := 87) X.1 X.2.1 d_Ag_init_109 (by decide) ?_
            refine lv_iload_n X.1 X.2.1 d_Ag_init_87 rfl (lv_at hl 0 rfl) ?_
            refine lv_bipush (v := iI 8) X.1 X.2.1 d_Ag_init_88 (by decide) ?_
            refine z_icmp_ge (tgt := 112) X.1 X.2.1 d_Ag_init_90 (by decide) ⟨by omega, by omega⟩ ⟨by omega, by omega⟩ (fun h189 => False.elim (by omega)) (fun h189 => ?_)
            · refine lv_aload_n X.1 X.2.1 d_Ag_init_93 rfl (lv_at hl 1 rfl) ?_
              refine q_get X.1 X.2.1 X.2.2.1 i_Ag X.2.2.2.1 X.2.2.2.2 Y m182 e188 rfl 1 (by decide) (X.2.2.1 _ lk_Ag_48) (fun _ h9 => h9) rfl d_Ag_init_94 ?_
              refine lv_iload_n X.1 X.2.1 d_Ag_init_97 rfl (lv_at hl 0 rfl) ?_
              refine t_new (ci := 10) X Y S hA hF0 i_Ti t_Ti t_Ti_ok ck_Ag_46 mk_Ti ini_Ti rfl (fs := [.null, .null, .int (iI 0), .int (iI 0), .null, .int (iI 0), .int (iI 0), .int (iI 0), .int (iI 0), .int (iI 0)]) (fun j hj => match j, hj with | 0, _ => rfl | 1, _ => rfl | 2, _ => rfl | 3, _ => rfl | 4, _ => rfl | 5, _ => rfl | 6, _ => rfl | 7, _ => rfl | 8, _ => rfl | 9, _ => rfl | n9 + 10, h9 => absurd (show n9 + 10 < 10 from h9) (by omega)) (Nat.le_of_ble_eq_true rfl) (Nat.le_of_ble_eq_true rfl) d_Ag_init_98 (fun q190 L190 f190 H Y S s190 nl190 m190 r190 e190 nz190 => ?_)
              have k191 : κ176 a1 = (21, 0) := tLe_k s190.2.2.1 k177
              have k192 : κ176 q1 = (13, 40) := tLe_k s190.2.2.1 k178
              have k193 : κ176 q17 = (13, 40) := tLe_k s190.2.2.1 k179
              have k194 : κ176 q31 = (13, 40) := tLe_k s190.2.2.1 k180
              have e195 : f190 h = .inr (2, [.ref a1, .ref q53, .int (iI 0), .int (iI 0), .ref q1, .ref ((T.1 0)), .ref ((T.1 0)), .int (iI 0), .int (iI 0), .int (iI 0), .int (iI 0), .int (iI 0), .ref q17, .ref q31, .ref ((T.1 0)), .int (iI 0), .int (iI 0), .long 0, .ref ((T.1 0)), .long 0, .int (iI 0)]) := (s190.2.2.2 _ ⟨m182, by rw [r183]; decide, by simp⟩).1.trans e188
              have m196 : h ∈ L190 := s190.2.1 _ m182
              have r197 : (κ176 h).1 = 0 := by rw [(s190.2.2.2 _ ⟨m182, by rw [r183]; decide, by simp⟩).2]; exact r183
              have e198 : okP κ176 E.2.2.2.2.2 8 5 20 (f190 q53) := okP_le s190.2.2.1 (by rw [(s190.2.2.2 _ ⟨m185, by rw [r186]; decide, by simp⟩).1]; exact o187)
              have m199 : q53 ∈ L190 := s190.2.1 _ m185
              have r200 : (κ176 q53).1 = 0 := by rw [(s190.2.2.2 _ ⟨m185, by rw [r186]; decide, by simp⟩).2]; exact r186
              refine lv_dup X.1 X.2.1 d_Ag_init_101 rfl ?_
              refine t_mk (x_runIN (As := []) (rest := [.ref q190, .int (iI 5), .ref q53]) (n := 0) X KR hml hl.1 (c_Ti_init l D E T κ176 L190 f190 H.size q190 m190 r190 e190 S.1) (ok_k X Y hA KS KR) (by decide) ks_Ti_init ki_Ti_init ini_Ti rfl ⟨rfl, rfl⟩ hd_Ti_init.2 ⟨Nat.le_of_ble_eq_true rfl, Nat.le_of_ble_eq_true rfl⟩ rfl (Nat.le_of_ble_eq_true rfl) d_Ag_init_102 ⟨Nat.le_of_ble_eq_true rfl, Nat.le_of_ble_eq_true rfl⟩) X Y hA S (by decide) nl190 (fun κ201 L201 f201 H locs Y S s201 p201 => ?_)
              obtain k201 := p201
              have k202 : κ201 a1 = (21, 0) := tLe_k s201.2.2.1 k191
              have k203 : κ201 q1 = (13, 40) := tLe_k s201.2.2.1 k192
              have k204 : κ201 q17 = (13, 40) := tLe_k s201.2.2.1 k193
              have k205 : κ201 q31 = (13, 40) := tLe_k s201.2.2.1 k194
              have e206 : f201 h = .inr (2, [.ref a1, .ref q53, .int (iI 0), .int (iI 0), .ref q1, .ref ((T.1 0)), .ref ((T.1 0)), .int (iI 0), .int (iI 0), .int (iI 0), .int (iI 0), .int (iI 0), .ref q17, .ref q31, .ref ((T.1 0)), .int (iI 0), .int (iI 0), .long 0, .ref ((T.1 0)), .long 0, .int (iI 0)]) := (s201.2.2.2 _ ⟨m196, by rw [r197]; decide, by simp only [List.mem_singleton]; exact (nz190 _ m182)⟩).1.trans e195
              have m207 : h ∈ L201 := s201.2.1 _ m196
              have r208 : (κ201 h).1 = 0 := by rw [(s201.2.2.2 _ ⟨m196, by rw [r197]; decide, by simp only [List.mem_singleton]; exact (nz190 _ m182)⟩).2]; exact r197
              have e209 : okP κ201 E.2.2.2.2.2 8 5 20 (f201 q53) := okP_le s201.2.2.1 (by rw [(s201.2.2.2 _ ⟨m199, by rw [r200]; decide, by simp only [List.mem_singleton]; exact (nz190 _ m185)⟩).1]; exact e198)
              have m210 : q53 ∈ L201 := s201.2.1 _ m199
              have r211 : (κ201 q53).1 = 0 := by rw [(s201.2.2.2 _ ⟨m199, by rw [r200]; decide, by simp only [List.mem_singleton]; exact (nz190 _ m185)⟩).2]; exact r200
              refine t_aast (ci := 10) (r := (R_Ti, F_Ti, 10)) (t0 := 5) X Y S m210 r211 e209 rfl k201 rfl (by omega) (by decide) (by decide) (fun h9 => nl53 h9.1) d_Ag_init_105 (fun f212 H locs Y S w212 o212 => ?_)
              have e213 : f212 h = .inr (2, [.ref a1, .ref q53, .int (iI 0), .int (iI 0), .ref q1, .ref ((T.1 0)), .ref ((T.1 0)), .int (iI 0), .int (iI 0), .int (iI 0), .int (iI 0), .int (iI 0), .ref q17, .ref q31, .ref ((T.1 0)), .int (iI 0), .int (iI 0), .long 0, .ref ((T.1 0)), .long 0, .int (iI 0)]) := (w212 _ (nz53 _ m43)).trans e206
              refine lv_iinc (v := iI 6) (lv' := [(2, .int (iI 6)), (0, .ref h), (1, .ref a1)]) X.1 X.2.1 d_Ag_init_106 hl (k := 0) rfl (by decide) (by decide) rfl (fun ls hl => ?_)
              refine lv_goto (tgt := 87) X.1 X.2.1 d_Ag_init_109 (by decide) ?_
              refine lv_iload_n X.1 X.2.1 d_Ag_init_87 rfl (lv_at hl 0 rfl) ?_
              refine lv_bipush (v := iI 8) X.1 X.2.1 d_Ag_init_88 (by decide) ?_
              refine z_icmp_ge (tgt := 112) X.1 X.2.1 d_Ag_init_90 (by decide) ⟨by omega, by omega⟩ ⟨by omega, by omega⟩ (fun h214 => False.elim (by omega)) (fun h214 => ?_)
              · refine lv_aload_n X.1 X.2.1 d_Ag_init_93 rfl (lv_at hl 1 rfl) ?_
                refine q_get X.1 X.2.1 X.2.2.1 i_Ag X.2.2.2.1 X.2.2.2.2 Y m207 e213 rfl 1 (by decide) (X.2.2.1 _ lk_Ag_48) (fun _ h9 => h9) rfl d_Ag_init_94 ?_
                refine lv_iload_n X.1 X.2.1 d_Ag_init_97 rfl (lv_at hl 0 rfl) ?_
                refine t_new (ci := 10) X Y S hA hF0 i_Ti t_Ti t_Ti_ok ck_Ag_46 mk_Ti ini_Ti rfl (fs := [.null, .null, .int (iI 0), .int (iI 0), .null, .int (iI 0), .int (iI 0), .int (iI 0), .int (iI 0), .int (iI 0)]) (fun j hj => match j, hj with | 0, _ => rfl | 1, _ => rfl | 2, _ => rfl | 3, _ => rfl | 4, _ => rfl | 5, _ => rfl | 6, _ => rfl | 7, _ => rfl | 8, _ => rfl | 9, _ => rfl | n9 + 10, h9 => absurd (show n9 + 10 < 10 from h9) (by omega)) (Nat.le_of_ble_eq_true rfl) (Nat.le_of_ble_eq_true rfl) d_Ag_init_98 (fun q215 L215 f215 H Y S s215 nl215 m215 r215 e215 nz215 => ?_)
                have k216 : κ201 a1 = (21, 0) := tLe_k s215.2.2.1 k202
                have k217 : κ201 q1 = (13, 40) := tLe_k s215.2.2.1 k203
                have k218 : κ201 q17 = (13, 40) := tLe_k s215.2.2.1 k204
                have k219 : κ201 q31 = (13, 40) := tLe_k s215.2.2.1 k205
                have e220 : f215 h = .inr (2, [.ref a1, .ref q53, .int (iI 0), .int (iI 0), .ref q1, .ref ((T.1 0)), .ref ((T.1 0)), .int (iI 0), .int (iI 0), .int (iI 0), .int (iI 0), .int (iI 0), .ref q17, .ref q31, .ref ((T.1 0)), .int (iI 0), .int (iI 0), .long 0, .ref ((T.1 0)), .long 0, .int (iI 0)]) := (s215.2.2.2 _ ⟨m207, by rw [r208]; decide, by simp⟩).1.trans e213
                have m221 : h ∈ L215 := s215.2.1 _ m207
                have r222 : (κ201 h).1 = 0 := by rw [(s215.2.2.2 _ ⟨m207, by rw [r208]; decide, by simp⟩).2]; exact r208
                have e223 : okP κ201 E.2.2.2.2.2 8 6 20 (f215 q53) := okP_le s215.2.2.1 (by rw [(s215.2.2.2 _ ⟨m210, by rw [r211]; decide, by simp⟩).1]; exact o212)
                have m224 : q53 ∈ L215 := s215.2.1 _ m210
                have r225 : (κ201 q53).1 = 0 := by rw [(s215.2.2.2 _ ⟨m210, by rw [r211]; decide, by simp⟩).2]; exact r211
                refine lv_dup X.1 X.2.1 d_Ag_init_101 rfl ?_
                refine t_mk (x_runIN (As := []) (rest := [.ref q215, .int (iI 6), .ref q53]) (n := 0) X KR hml hl.1 (c_Ti_init l D E T κ201 L215 f215 H.size q215 m215 r215 e215 S.1) (ok_k X Y hA KS KR) (by decide) ks_Ti_init ki_Ti_init ini_Ti rfl ⟨rfl, rfl⟩ hd_Ti_init.2 ⟨Nat.le_of_ble_eq_true rfl, Nat.le_of_ble_eq_true rfl⟩ rfl (Nat.le_of_ble_eq_true rfl) d_Ag_init_102 ⟨Nat.le_of_ble_eq_true rfl, Nat.le_of_ble_eq_true rfl⟩) X Y hA S (by decide) nl215 (fun κ226 L226 f226 H locs Y S s226 p226 => ?_)
                obtain k226 := p226
                have k227 : κ226 a1 = (21, 0) := tLe_k s226.2.2.1 k216
                have k228 : κ226 q1 = (13, 40) := tLe_k s226.2.2.1 k217
                have k229 : κ226 q17 = (13, 40) := tLe_k s226.2.2.1 k218
                have k230 : κ226 q31 = (13, 40) := tLe_k s226.2.2.1 k219
                have e231 : f226 h = .inr (2, [.ref a1, .ref q53, .int (iI 0), .int (iI 0), .ref q1, .ref ((T.1 0)), .ref ((T.1 0)), .int (iI 0), .int (iI 0), .int (iI 0), .int (iI 0), .int (iI 0), .ref q17, .ref q31, .ref ((T.1 0)), .int (iI 0), .int (iI 0), .long 0, .ref ((T.1 0)), .long 0, .int (iI 0)]) := (s226.2.2.2 _ ⟨m221, by rw [r222]; decide, by simp only [List.mem_singleton]; exact (nz215 _ m207)⟩).1.trans e220
                have m232 : h ∈ L226 := s226.2.1 _ m221
                have r233 : (κ226 h).1 = 0 := by rw [(s226.2.2.2 _ ⟨m221, by rw [r222]; decide, by simp only [List.mem_singleton]; exact (nz215 _ m207)⟩).2]; exact r222
                have e234 : okP κ226 E.2.2.2.2.2 8 6 20 (f226 q53) := okP_le s226.2.2.1 (by rw [(s226.2.2.2 _ ⟨m224, by rw [r225]; decide, by simp only [List.mem_singleton]; exact (nz215 _ m210)⟩).1]; exact e223)
                have m235 : q53 ∈ L226 := s226.2.1 _ m224
                have r236 : (κ226 q53).1 = 0 := by rw [(s226.2.2.2 _ ⟨m224, by rw [r225]; decide, by simp only [List.mem_singleton]; exact (nz215 _ m210)⟩).2]; exact r225
                refine t_aast (ci := 10) (r := (R_Ti, F_Ti, 10)) (t0 := 5) X Y S m235 r236 e234 rfl k226 rfl (by omega) (by decide) (by decide) (fun h9 => nl53 h9.1) d_Ag_init_105 (fun f237 H locs Y S w237 o237 => ?_)
                have e238 : f237 h = .inr (2, [.ref a1, .ref q53, .int (iI 0), .int (iI 0), .ref q1, .ref ((T.1 0)), .ref ((T.1 0)), .int (iI 0), .int (iI 0), .int (iI 0), .int (iI 0), .int (iI 0), .ref q17, .ref q31, .ref ((T.1 0)), .int (iI 0), .int (iI 0), .long 0, .ref ((T.1 0)), .long 0, .int (iI 0)]) := (w237 _ (nz53 _ m43)).trans e231
                refine lv_iinc (v := iI 7) (lv' := [(2, .int (iI 7)), (0, .ref h), (1, .ref a1)]) X.1 X.2.1 d_Ag_init_106 hl (k := 0) rfl (by decide) (by decide) rfl (fun ls hl => ?_)
                refine lv_goto (tgt := 87) X.1 X.2.1 d_Ag_init_109 (by decide) ?_
                refine lv_iload_n X.1 X.2.1 d_Ag_init_87 rfl (lv_at hl 0 rfl) ?_
                refine lv_bipush (v := iI 8) X.1 X.2.1 d_Ag_init_88 (by decide) ?_
                refine z_icmp_ge (tgt := 112) X.1 X.2.1 d_Ag_init_90 (by decide) ⟨by omega, by omega⟩ ⟨by omega, by omega⟩ (fun h239 => False.elim (by omega)) (fun h239 => ?_)
                · refine lv_aload_n X.1 X.2.1 d_Ag_init_93 rfl (lv_at hl 1 rfl) ?_
                  refine q_get X.1 X.2.1 X.2.2.1 i_Ag X.2.2.2.1 X.2.2.2.2 Y m232 e238 rfl 1 (by decide) (X.2.2.1 _ lk_Ag_48) (fun _ h9 => h9) rfl d_Ag_init_94 ?_
                  refine lv_iload_n X.1 X.2.1 d_Ag_init_97 rfl (lv_at hl 0 rfl) ?_
                  refine t_new (ci := 10) X Y S hA hF0 i_Ti t_Ti t_Ti_ok ck_Ag_46 mk_Ti ini_Ti rfl (fs := [.null, .null, .int (iI 0), .int (iI 0), .null, .int (iI 0), .int (iI 0), .int (iI 0), .int (iI 0), .int (iI 0)]) (fun j hj => match j, hj with | 0, _ => rfl | 1, _ => rfl | 2, _ => rfl | 3, _ => rfl | 4, _ => rfl | 5, _ => rfl | 6, _ => rfl | 7, _ => rfl | 8, _ => rfl | 9, _ => rfl | n9 + 10, h9 => absurd (show n9 + 10 < 10 from h9) (by omega)) (Nat.le_of_ble_eq_true rfl) (Nat.le_of_ble_eq_true rfl) d_Ag_init_98 (fun q240 L240 f240 H Y S s240 nl240 m240 r240 e240 nz240 => ?_)
                  have k241 : κ226 a1 = (21, 0) := tLe_k s240.2.2.1 k227
                  have k242 : κ226 q1 = (13, 40) := tLe_k s240.2.2.1 k228
                  have k243 : κ226 q17 = (13, 40) := tLe_k s240.2.2.1 k229
                  have k244 : κ226 q31 = (13, 40) := tLe_k s240.2.2.1 k230
                  have e245 : f240 h = .inr (2, [.ref a1, .ref q53, .int (iI 0), .int (iI 0), .ref q1, .ref ((T.1 0)), .ref ((T.1 0)), .int (iI 0), .int (iI 0), .int (iI 0), .int (iI 0), .int (iI 0), .ref q17, .ref q31, .ref ((T.1 0)), .int (iI 0), .int (iI 0), .long 0, .ref ((T.1 0)), .long 0, .int (iI 0)]) := (s240.2.2.2 _ ⟨m232, by rw [r233]; decide, by simp⟩).1.trans e238
                  have m246 : h ∈ L240 := s240.2.1 _ m232
                  have r247 : (κ226 h).1 = 0 := by rw [(s240.2.2.2 _ ⟨m232, by rw [r233]; decide, by simp⟩).2]; exact r233
                  have e248 : okP κ226 E.2.2.2.2.2 8 7 20 (f240 q53) := okP_le s240.2.2.1 (by rw [(s240.2.2.2 _ ⟨m235, by rw [r236]; decide, by simp⟩).1]; exact o237)
                  have m249 : q53 ∈ L240 := s240.2.1 _ m235
                  have r250 : (κ226 q53).1 = 0 := by rw [(s240.2.2.2 _ ⟨m235, by rw [r236]; decide, by simp⟩).2]; exact r236
                  refine lv_dup X.1 X.2.1 d_Ag_init_101 rfl ?_
                  refine t_mk (x_runIN (As := []) (rest := [.ref q240, .int (iI 7), .ref q53]) (n := 0) X KR hml hl.1 (c_Ti_init l D E T κ226 L240 f240 H.size q240 m240 r240 e240 S.1) (ok_k X Y hA KS KR) (by decide) ks_Ti_init ki_Ti_init ini_Ti rfl ⟨rfl, rfl⟩ hd_Ti_init.2 ⟨Nat.le_of_ble_eq_true rfl, Nat.le_of_ble_eq_true rfl⟩ rfl (Nat.le_of_ble_eq_true rfl) d_Ag_init_102 ⟨Nat.le_of_ble_eq_true rfl, Nat.le_of_ble_eq_true rfl⟩) X Y hA S (by decide) nl240 (fun κ251 L251 f251 H locs Y S s251 p251 => ?_)
                  obtain k251 := p251
                  have k252 : κ251 a1 = (21, 0) := tLe_k s251.2.2.1 k241
                  have k253 : κ251 q1 = (13, 40) := tLe_k s251.2.2.1 k242
                  have k254 : κ251 q17 = (13, 40) := tLe_k s251.2.2.1 k243
                  have k255 : κ251 q31 = (13, 40) := tLe_k s251.2.2.1 k244
                  have e256 : f251 h = .inr (2, [.ref a1, .ref q53, .int (iI 0), .int (iI 0), .ref q1, .ref ((T.1 0)), .ref ((T.1 0)), .int (iI 0), .int (iI 0), .int (iI 0), .int (iI 0), .int (iI 0), .ref q17, .ref q31, .ref ((T.1 0)), .int (iI 0), .int (iI 0), .long 0, .ref ((T.1 0)), .long 0, .int (iI 0)]) := (s251.2.2.2 _ ⟨m246, by rw [r247]; decide, by simp only [List.mem_singleton]; exact (nz240 _ m232)⟩).1.trans e245
                  have m257 : h ∈ L251 := s251.2.1 _ m246
                  have r258 : (κ251 h).1 = 0 := by rw [(s251.2.2.2 _ ⟨m246, by rw [r247]; decide, by simp only [List.mem_singleton]; exact (nz240 _ m232)⟩).2]; exact r247
                  have e259 : okP κ251 E.2.2.2.2.2 8 7 20 (f251 q53) := okP_le s251.2.2.1 (by rw [(s251.2.2.2 _ ⟨m249, by rw [r250]; decide, by simp only [List.mem_singleton]; exact (nz240 _ m235)⟩).1]; exact e248)
                  have m260 : q53 ∈ L251 := s251.2.1 _ m249
                  have r261 : (κ251 q53).1 = 0 := by rw [(s251.2.2.2 _ ⟨m249, by rw [r250]; decide, by simp only [List.mem_singleton]; exact (nz240 _ m235)⟩).2]; exact r250
                  refine t_aast (ci := 10) (r := (R_Ti, F_Ti, 10)) (t0 := 5) X Y S m260 r261 e259 rfl k251 rfl (by omega) (by decide) (by decide) (fun h9 => nl53 h9.1) d_Ag_init_105 (fun f262 H locs Y S w262 o262 => ?_)
                  have e263 : f262 h = .inr (2, [.ref a1, .ref q53, .int (iI 0), .int (iI 0), .ref q1, .ref ((T.1 0)), .ref ((T.1 0)), .int (iI 0), .int (iI 0), .int (iI 0), .int (iI 0), .int (iI 0), .ref q17, .ref q31, .ref ((T.1 0)), .int (iI 0), .int (iI 0), .long 0, .ref ((T.1 0)), .long 0, .int (iI 0)]) := (w262 _ (nz53 _ m43)).trans e256
                  refine lv_iinc (v := iI 8) (lv' := [(2, .int (iI 8)), (0, .ref h), (1, .ref a1)]) X.1 X.2.1 d_Ag_init_106 hl (k := 0) rfl (by decide) (by decide) rfl (fun ls hl => ?_)
                  refine lv_goto (tgt := 87) X.1 X.2.1 d_Ag_init_109 (by decide) ?_
                  refine lv_iload_n X.1 X.2.1 d_Ag_init_87 rfl (lv_at hl 0 rfl) ?_
                  refine lv_bipush (v := iI 8) X.1 X.2.1 d_Ag_init_88 (by decide) ?_
                  refine z_icmp_ge (tgt := 112) X.1 X.2.1 d_Ag_init_90 (by decide) ⟨by omega, by omega⟩ ⟨by omega, by omega⟩ (fun h264 => ?_) (fun h264 => False.elim (by omega))
                  · obtain ⟨S, s265⟩ := t_arrkind (c1 := 8) (n := 8) S m260 r261 nl53 hF0 (raw0_of hw nl53) (okP_le (tLe_raw r261) o262)
                    have k265 : (va_up κ251 q53 (8, 8)) q53 = (8, 8) := va_up_self _ _ _
                    generalize va_up κ251 q53 (8, 8) = κ265 at S s265 k265
                    have k266 : κ265 a1 = (21, 0) := tLe_k s265.2.2.1 k252
                    have k267 : κ265 q1 = (13, 40) := tLe_k s265.2.2.1 k253
                    have k268 : κ265 q17 = (13, 40) := tLe_k s265.2.2.1 k254
                    have k269 : κ265 q31 = (13, 40) := tLe_k s265.2.2.1 k255
                    have e270 : f262 h = .inr (2, [.ref a1, .ref q53, .int (iI 0), .int (iI 0), .ref q1, .ref ((T.1 0)), .ref ((T.1 0)), .int (iI 0), .int (iI 0), .int (iI 0), .int (iI 0), .int (iI 0), .ref q17, .ref q31, .ref ((T.1 0)), .int (iI 0), .int (iI 0), .long 0, .ref ((T.1 0)), .long 0, .int (iI 0)]) := (s265.2.2.2 _ ⟨m257, by rw [r258]; decide, by simp only [List.mem_singleton]; exact (nz53 _ m43)⟩).1.trans e263
                    have m271 : h ∈ L251 := s265.2.1 _ m257
                    have r272 : (κ265 h).1 = 0 := by rw [(s265.2.2.2 _ ⟨m257, by rw [r258]; decide, by simp only [List.mem_singleton]; exact (nz53 _ m43)⟩).2]; exact r258
                    have hle : tLe κ265 (va_up κ265 h (12, 0)) := tLe_raw r272
                    have S := (tS_kind (k := (12, 0)) S m271 r272 r_h (fun h9 => h9.2.2 (List.mem_singleton.mpr rfl)) (by rw [e270]; exact ⟨_, rfl, okO_of ⟨⟨_, rfl, tLe_k hle k266⟩, ⟨_, rfl, tLe_k hle k265⟩, ⟨_, rfl, by omega, by omega⟩, ⟨_, rfl, by omega, by omega⟩, ⟨_, rfl, tLe_k hle k267⟩, ⟨_, 0, rfl, tLe_key hle tKey_no⟩, ⟨_, 0, rfl, tLe_key hle tKey_no⟩, ⟨_, rfl, by omega, by omega⟩, ⟨_, rfl, by omega, by omega⟩, ⟨_, rfl, by omega, by omega⟩, ⟨_, rfl, by omega, by omega⟩, ⟨_, rfl, by omega, by omega⟩, ⟨_, rfl, tLe_k hle k268⟩, ⟨_, rfl, tLe_k hle k269⟩, ⟨_, 0, rfl, tLe_key hle tKey_no⟩, ⟨_, rfl, by omega, by omega⟩, ⟨_, rfl, by omega, by omega⟩, ⟨_, rfl⟩, ⟨_, 0, rfl, tLe_key hle tKey_no⟩, ⟨_, rfl⟩, ⟨_, rfl, by omega, by omega⟩, trivial⟩⟩)).1
                    exact c_retv hQQ X Y hr hlk ⟨_, S, va_up_self _ _ _⟩ d_Ag_init_112
set_option maxHeartbeats 4000000 in
set_option maxRecDepth 100000 in
theorem c_So_init (l : Launch) (D : va_G) (E : cE) (T : cT) (κ : tK) (L : List Nat) (f : pF) (sz : Nat) (h : Nat) (m_h : h ∈ L) (r_h : (κ h).1 = 0) (e_h : f h = .inr (9, [.null, .int (iI 0), .int (iI 0), .null, .null, .int (iI 0), .int (iI 0), .long 0, .null, .null, .null])) (a1 : Nat) (k1 : κ a1 = (21, 0)) (hw : tW E T κ L f) : Met l y_So_init (k_So_init :: lw_tg) (kRm 1 60 3 8) (va_Pc [.ref h, .ref a1] (kPre D E T L f sz)) (va_Qv (aPv E T [1, 2, 3, 4, 5, 6, 7, 8, 9, 10, 11, 12, 13, 14, 15, 16, 17, 18, 19, 20, 21] [h] κ L f (fun (k : tK) (g : pF) => k h = (19, 0))) (cPost D E (pA L sz)) (pA L sz)) 3 8 (pA L sz) := by
  refine k_enter (own := R_So) (by decide) rfl (Nat.le_of_ble_eq_true rfl) (fun p e s m below meth c ls AV QQ H locs hQQ X Y hA hin hr hlk hml hl KS KR => ?_)
  have hl : lv_has ls 2 [(0, .ref h), (1, .ref a1)] := hl
  have S : tS E T (tFr κ L [1, 2, 3, 4, 5, 6, 7, 8, 9, 10, 11, 12, 13, 14, 15, 16, 17, 18, 19, 20, 21] [h]) κ L f κ L f := tS_rf hw
  have hF0 : ∀ b, tFr κ L [1, 2, 3, 4, 5, 6, 7, 8, 9, 10, 11, 12, 13, 14, 15, 16, 17, 18, 19, 20, 21] [h] b → b ∈ L := fun b h9 => h9.1
  refine lv_aload_n X.1 X.2.1 d_So_init_0 rfl (lv_at hl 0 rfl) ?_
  refine W.objInit X.1 X.2.1 X.2.2.2.1 (X.2.2.1 _ ol_So) (X.2.2.1 _ o_inst) (X.2.2.1 _ o_code) rfl (by rw [hml]; exact hl.1) rfl d_So_init_1 (Nat.le_of_ble_eq_true rfl) (Nat.le_of_ble_eq_true rfl) ?_
  refine W.eq (g2 := F0 m 4 ls []) rfl ?_
  refine lv_aload_n X.1 X.2.1 d_So_init_4 rfl (lv_at hl 0 rfl) ?_
  refine lv_iconst (v := iI (-1)) X.1 X.2.1 d_So_init_5 (by decide) ?_
  refine q_put X.1 X.2.1 X.2.2.1 i_So t_So t_So_ok n_So X.2.2.2.1 X.2.2.2.2 Y m_h e_h rfl 2 (by decide) (X.2.2.1 _ lk_So_9) (fun _ h9 => h9) rfl (t_So_ok 2 (by decide)) rfl rfl (Nat.le_of_ble_eq_true rfl) d_So_init_6 (fun H locs Y => ?_)
  have Y : pH D cCl (pA L sz) s.heap L (va_up f h (.inr (9, [.null, .int (iI 0), .int (iI ((-1))), .null, .null, .int (iI 0), .int (iI 0), .long 0, .null, .null, .null]))) H locs := Y
  have S := tS_up (x := .inr (9, [.null, .int (iI 0), .int (iI ((-1))), .null, .null, .int (iI 0), .int (iI 0), .long 0, .null, .null, .null])) S (fun h9 => h9.2.2 (List.mem_singleton.mpr rfl)) (fun h9 => absurd r_h h9)
  have e2 : (va_up f h (.inr (9, [.null, .int (iI 0), .int (iI ((-1))), .null, .null, .int (iI 0), .int (iI 0), .long 0, .null, .null, .null]))) h = .inr (9, [.null, .int (iI 0), .int (iI ((-1))), .null, .null, .int (iI 0), .int (iI 0), .long 0, .null, .null, .null]) := q_up
  generalize va_up f h (.inr (9, [.null, .int (iI 0), .int (iI ((-1))), .null, .null, .int (iI 0), .int (iI 0), .long 0, .null, .null, .null])) = f1 at Y S e2
  refine lv_aload_n X.1 X.2.1 d_So_init_9 rfl (lv_at hl 0 rfl) ?_
  refine k_getsN X Y KS KR (by decide) d_So_init_10 ?_
  refine q_put X.1 X.2.1 X.2.2.1 i_So t_So t_So_ok n_So X.2.2.2.1 X.2.2.2.2 Y m_h e2 rfl 3 (by decide) (X.2.2.1 _ lk_So_19) (fun _ h9 => h9) rfl (t_So_ok 3 (by decide)) rfl rfl (Nat.le_of_ble_eq_true rfl) d_So_init_13 (fun H locs Y => ?_)
  have Y : pH D cCl (pA L sz) s.heap L (va_up f1 h (.inr (9, [.null, .int (iI 0), .int (iI ((-1))), .ref ((T.1 0)), .null, .int (iI 0), .int (iI 0), .long 0, .null, .null, .null]))) H locs := Y
  have S := tS_up (x := .inr (9, [.null, .int (iI 0), .int (iI ((-1))), .ref ((T.1 0)), .null, .int (iI 0), .int (iI 0), .long 0, .null, .null, .null])) S (fun h9 => h9.2.2 (List.mem_singleton.mpr rfl)) (fun h9 => absurd r_h h9)
  have e4 : (va_up f1 h (.inr (9, [.null, .int (iI 0), .int (iI ((-1))), .ref ((T.1 0)), .null, .int (iI 0), .int (iI 0), .long 0, .null, .null, .null]))) h = .inr (9, [.null, .int (iI 0), .int (iI ((-1))), .ref ((T.1 0)), .null, .int (iI 0), .int (iI 0), .long 0, .null, .null, .null]) := q_up
  generalize va_up f1 h (.inr (9, [.null, .int (iI 0), .int (iI ((-1))), .ref ((T.1 0)), .null, .int (iI 0), .int (iI 0), .long 0, .null, .null, .null])) = f3 at Y S e4
  refine lv_aload_n X.1 X.2.1 d_So_init_16 rfl (lv_at hl 0 rfl) ?_
  refine k_getsN X Y KS KR (by decide) d_So_init_17 ?_
  refine q_put X.1 X.2.1 X.2.2.1 i_So t_So t_So_ok n_So X.2.2.2.1 X.2.2.2.2 Y m_h e4 rfl 4 (by decide) (X.2.2.1 _ lk_So_22) (fun _ h9 => h9) rfl (t_So_ok 4 (by decide)) rfl rfl (Nat.le_of_ble_eq_true rfl) d_So_init_20 (fun H locs Y => ?_)
  have Y : pH D cCl (pA L sz) s.heap L (va_up f3 h (.inr (9, [.null, .int (iI 0), .int (iI ((-1))), .ref ((T.1 0)), .ref ((T.1 0)), .int (iI 0), .int (iI 0), .long 0, .null, .null, .null]))) H locs := Y
  have S := tS_up (x := .inr (9, [.null, .int (iI 0), .int (iI ((-1))), .ref ((T.1 0)), .ref ((T.1 0)), .int (iI 0), .int (iI 0), .long 0, .null, .null, .null])) S (fun h9 => h9.2.2 (List.mem_singleton.mpr rfl)) (fun h9 => absurd r_h h9)
  have e6 : (va_up f3 h (.inr (9, [.null, .int (iI 0), .int (iI ((-1))), .ref ((T.1 0)), .ref ((T.1 0)), .int (iI 0), .int (iI 0), .long 0, .null, .null, .null]))) h = .inr (9, [.null, .int (iI 0), .int (iI ((-1))), .ref ((T.1 0)), .ref ((T.1 0)), .int (iI 0), .int (iI 0), .long 0, .null, .null, .null]) := q_up
  generalize va_up f3 h (.inr (9, [.null, .int (iI 0), .int (iI ((-1))), .ref ((T.1 0)), .ref ((T.1 0)), .int (iI 0), .int (iI 0), .long 0, .null, .null, .null])) = f5 at Y S e6
  refine lv_aload_n X.1 X.2.1 d_So_init_23 rfl (lv_at hl 0 rfl) ?_
  refine lv_iconst (v := iI 2) X.1 X.2.1 d_So_init_24 (by decide) ?_
  refine t_newI (cI := 2) (by decide) X Y S hA hF0 (N := 2) (mx := 2) (by omega) (by omega) (by decide) (Nat.le_of_ble_eq_true rfl) (Nat.le_of_ble_eq_true rfl) d_So_init_25 (fun q7 κ7 L7 f7 H Y S s7 k7 => ?_)
  have k8 : κ7 a1 = (21, 0) := tLe_k s7.2.2.1 k1
  have e9 : f7 h = .inr (9, [.null, .int (iI 0), .int (iI ((-1))), .ref ((T.1 0)), .ref ((T.1 0)), .int (iI 0), .int (iI 0), .long 0, .null, .null, .null]) := (s7.2.2.2 _ ⟨m_h, by rw [r_h]; decide, by simp⟩).1.trans e6
  have m10 : h ∈ L7 := s7.2.1 _ m_h
  have r11 : (κ7 h).1 = 0 := by rw [(s7.2.2.2 _ ⟨m_h, by rw [r_h]; decide, by simp⟩).2]; exact r_h
  refine q_putF X.1 X.2.1 X.2.2.1 i_So t_So t_So_ok n_So X.2.2.2.1 X.2.2.2.2 Y m10 e9 rfl 8 (by decide) (X.2.2.1 _ lk_So_25) (fun _ h9 => h9) rfl hin rfl (t_So_ok 8 (by decide)) rfl rfl (Nat.le_of_ble_eq_true rfl) d_So_init_27 (fun H locs Y => ?_)
  have Y : pH D cCl (pA L sz) s.heap L7 (va_up f7 h (.inr (9, [.null, .int (iI 0), .int (iI ((-1))), .ref ((T.1 0)), .ref ((T.1 0)), .int (iI 0), .int (iI 0), .long 0, .ref q7, .null, .null]))) H locs := Y
  have S := tS_up (x := .inr (9, [.null, .int (iI 0), .int (iI ((-1))), .ref ((T.1 0)), .ref ((T.1 0)), .int (iI 0), .int (iI 0), .long 0, .ref q7, .null, .null])) S (fun h9 => h9.2.2 (List.mem_singleton.mpr rfl)) (fun h9 => absurd r11 h9)
  have e13 : (va_up f7 h (.inr (9, [.null, .int (iI 0), .int (iI ((-1))), .ref ((T.1 0)), .ref ((T.1 0)), .int (iI 0), .int (iI 0), .long 0, .ref q7, .null, .null]))) h = .inr (9, [.null, .int (iI 0), .int (iI ((-1))), .ref ((T.1 0)), .ref ((T.1 0)), .int (iI 0), .int (iI 0), .long 0, .ref q7, .null, .null]) := q_up
  generalize va_up f7 h (.inr (9, [.null, .int (iI 0), .int (iI ((-1))), .ref ((T.1 0)), .ref ((T.1 0)), .int (iI 0), .int (iI 0), .long 0, .ref q7, .null, .null])) = f12 at Y S e13
  refine lv_aload_n X.1 X.2.1 d_So_init_30 rfl (lv_at hl 0 rfl) ?_
  refine lv_iconst (v := iI 2) X.1 X.2.1 d_So_init_31 (by decide) ?_
  refine t_newI (cI := 2) (by decide) X Y S hA hF0 (N := 2) (mx := 2) (by omega) (by omega) (by decide) (Nat.le_of_ble_eq_true rfl) (Nat.le_of_ble_eq_true rfl) d_So_init_32 (fun q14 κ14 L14 f14 H Y S s14 k14 => ?_)
  have k15 : κ14 a1 = (21, 0) := tLe_k s14.2.2.1 k8
  have k16 : κ14 q7 = (2, 2) := tLe_k s14.2.2.1 k7
  have e17 : f14 h = .inr (9, [.null, .int (iI 0), .int (iI ((-1))), .ref ((T.1 0)), .ref ((T.1 0)), .int (iI 0), .int (iI 0), .long 0, .ref q7, .null, .null]) := (s14.2.2.2 _ ⟨m10, by rw [r11]; decide, by simp⟩).1.trans e13
  have m18 : h ∈ L14 := s14.2.1 _ m10
  have r19 : (κ14 h).1 = 0 := by rw [(s14.2.2.2 _ ⟨m10, by rw [r11]; decide, by simp⟩).2]; exact r11
  refine q_putF X.1 X.2.1 X.2.2.1 i_So t_So t_So_ok n_So X.2.2.2.1 X.2.2.2.2 Y m18 e17 rfl 9 (by decide) (X.2.2.1 _ lk_So_29) (fun _ h9 => h9) rfl hin rfl (t_So_ok 9 (by decide)) rfl rfl (Nat.le_of_ble_eq_true rfl) d_So_init_34 (fun H locs Y => ?_)
  have Y : pH D cCl (pA L sz) s.heap L14 (va_up f14 h (.inr (9, [.null, .int (iI 0), .int (iI ((-1))), .ref ((T.1 0)), .ref ((T.1 0)), .int (iI 0), .int (iI 0), .long 0, .ref q7, .ref q14, .null]))) H locs := Y
  have S := tS_up (x := .inr (9, [.null, .int (iI 0), .int (iI ((-1))), .ref ((T.1 0)), .ref ((T.1 0)), .int (iI 0), .int (iI 0), .long 0, .ref q7, .ref q14, .null])) S (fun h9 => h9.2.2 (List.mem_singleton.mpr rfl)) (fun h9 => absurd r19 h9)
  have e21 : (va_up f14 h (.inr (9, [.null, .int (iI 0), .int (iI ((-1))), .ref ((T.1 0)), .ref ((T.1 0)), .int (iI 0), .int (iI 0), .long 0, .ref q7, .ref q14, .null]))) h = .inr (9, [.null, .int (iI 0), .int (iI ((-1))), .ref ((T.1 0)), .ref ((T.1 0)), .int (iI 0), .int (iI 0), .long 0, .ref q7, .ref q14, .null]) := q_up
  generalize va_up f14 h (.inr (9, [.null, .int (iI 0), .int (iI ((-1))), .ref ((T.1 0)), .ref ((T.1 0)), .int (iI 0), .int (iI 0), .long 0, .ref q7, .ref q14, .null])) = f20 at Y S e21
  refine lv_aload_n X.1 X.2.1 d_So_init_37 rfl (lv_at hl 0 rfl) ?_
  refine lv_iconst (v := iI 4) X.1 X.2.1 d_So_init_38 (by decide) ?_
  refine t_newB X Y S hA hF0 (N := 4) (mx := 4) (by omega) (by omega) (by decide) (Nat.le_of_ble_eq_true rfl) (Nat.le_of_ble_eq_true rfl) d_So_init_39 (fun q22 κ22 L22 f22 H Y S s22 k22 => ?_)
  have k23 : κ22 a1 = (21, 0) := tLe_k s22.2.2.1 k15
  have k24 : κ22 q7 = (2, 2) := tLe_k s22.2.2.1 k16
  have k25 : κ22 q14 = (2, 2) := tLe_k s22.2.2.1 k14
  have e26 : f22 h = .inr (9, [.null, .int (iI 0), .int (iI ((-1))), .ref ((T.1 0)), .ref ((T.1 0)), .int (iI 0), .int (iI 0), .long 0, .ref q7, .ref q14, .null]) := (s22.2.2.2 _ ⟨m18, by rw [r19]; decide, by simp⟩).1.trans e21
  have m27 : h ∈ L22 := s22.2.1 _ m18
  have r28 : (κ22 h).1 = 0 := by rw [(s22.2.2.2 _ ⟨m18, by rw [r19]; decide, by simp⟩).2]; exact r19
  refine q_putF X.1 X.2.1 X.2.2.1 i_So t_So t_So_ok n_So X.2.2.2.1 X.2.2.2.2 Y m27 e26 rfl 10 (by decide) (X.2.2.1 _ lk_So_32) (fun _ h9 => h9) rfl hin rfl (t_So_ok 10 (by decide)) rfl rfl (Nat.le_of_ble_eq_true rfl) d_So_init_41 (fun H locs Y => ?_)
  have Y : pH D cCl (pA L sz) s.heap L22 (va_up f22 h (.inr (9, [.null, .int (iI 0), .int (iI ((-1))), .ref ((T.1 0)), .ref ((T.1 0)), .int (iI 0), .int (iI 0), .long 0, .ref q7, .ref q14, .ref q22]))) H locs := Y
  have S := tS_up (x := .inr (9, [.null, .int (iI 0), .int (iI ((-1))), .ref ((T.1 0)), .ref ((T.1 0)), .int (iI 0), .int (iI 0), .long 0, .ref q7, .ref q14, .ref q22])) S (fun h9 => h9.2.2 (List.mem_singleton.mpr rfl)) (fun h9 => absurd r28 h9)
  have e30 : (va_up f22 h (.inr (9, [.null, .int (iI 0), .int (iI ((-1))), .ref ((T.1 0)), .ref ((T.1 0)), .int (iI 0), .int (iI 0), .long 0, .ref q7, .ref q14, .ref q22]))) h = .inr (9, [.null, .int (iI 0), .int (iI ((-1))), .ref ((T.1 0)), .ref ((T.1 0)), .int (iI 0), .int (iI 0), .long 0, .ref q7, .ref q14, .ref q22]) := q_up
  generalize va_up f22 h (.inr (9, [.null, .int (iI 0), .int (iI ((-1))), .ref ((T.1 0)), .ref ((T.1 0)), .int (iI 0), .int (iI 0), .long 0, .ref q7, .ref q14, .ref q22])) = f29 at Y S e30
  refine lv_aload_n X.1 X.2.1 d_So_init_44 rfl (lv_at hl 0 rfl) ?_
  refine lv_aload_n X.1 X.2.1 d_So_init_45 rfl (lv_at hl 1 rfl) ?_
  refine q_putF X.1 X.2.1 X.2.2.1 i_So t_So t_So_ok n_So X.2.2.2.1 X.2.2.2.2 Y m27 e30 rfl 0 (by decide) (X.2.2.1 _ lk_So_35) (fun _ h9 => h9) rfl hin rfl (t_So_ok 0 (by decide)) rfl rfl (Nat.le_of_ble_eq_true rfl) d_So_init_46 (fun H locs Y => ?_)
  have Y : pH D cCl (pA L sz) s.heap L22 (va_up f29 h (.inr (9, [.ref a1, .int (iI 0), .int (iI ((-1))), .ref ((T.1 0)), .ref ((T.1 0)), .int (iI 0), .int (iI 0), .long 0, .ref q7, .ref q14, .ref q22]))) H locs := Y
  have S := tS_up (x := .inr (9, [.ref a1, .int (iI 0), .int (iI ((-1))), .ref ((T.1 0)), .ref ((T.1 0)), .int (iI 0), .int (iI 0), .long 0, .ref q7, .ref q14, .ref q22])) S (fun h9 => h9.2.2 (List.mem_singleton.mpr rfl)) (fun h9 => absurd r28 h9)
  have e32 : (va_up f29 h (.inr (9, [.ref a1, .int (iI 0), .int (iI ((-1))), .ref ((T.1 0)), .ref ((T.1 0)), .int (iI 0), .int (iI 0), .long 0, .ref q7, .ref q14, .ref q22]))) h = .inr (9, [.ref a1, .int (iI 0), .int (iI ((-1))), .ref ((T.1 0)), .ref ((T.1 0)), .int (iI 0), .int (iI 0), .long 0, .ref q7, .ref q14, .ref q22]) := q_up
  generalize va_up f29 h (.inr (9, [.ref a1, .int (iI 0), .int (iI ((-1))), .ref ((T.1 0)), .ref ((T.1 0)), .int (iI 0), .int (iI 0), .long 0, .ref q7, .ref q14, .ref q22])) = f31 at Y S e32
  refine lv_aload_n X.1 X.2.1 d_So_init_49 rfl (lv_at hl 0 rfl) ?_
  refine q_get X.1 X.2.1 X.2.2.1 i_So X.2.2.2.1 X.2.2.2.2 Y m27 e32 rfl 10 (by decide) (X.2.2.1 _ lk_So_32) (fun _ h9 => h9) rfl d_So_init_50 ?_
  refine lv_iconst (v := iI 0) X.1 X.2.1 d_So_init_53 (by decide) ?_
  refine lv_bipush (v := iI 10) X.1 X.2.1 d_So_init_54 (by decide) ?_
  refine t_bast X Y S k22 (by omega) (by omega) (by omega) (fun h9 => h9.2.1 (by rw [← (S.2.2.2 _ h9).2, k22]; decide)) d_So_init_56 (fun f33 H locs Y S w33 => ?_)
  have e34 : f33 h = .inr (9, [.ref a1, .int (iI 0), .int (iI ((-1))), .ref ((T.1 0)), .ref ((T.1 0)), .int (iI 0), .int (iI 0), .long 0, .ref q7, .ref q14, .ref q22]) := (w33 _ (kr_ne k22 r28 (by decide))).trans e32
  have hle : tLe κ22 (va_up κ22 h (19, 0)) := tLe_raw r28
  have S := (tS_kind (k := (19, 0)) S m27 r28 r_h (fun h9 => h9.2.2 (List.mem_singleton.mpr rfl)) (by rw [e34]; exact ⟨_, rfl, okO_of ⟨⟨_, rfl, tLe_k hle k23⟩, ⟨_, rfl, by omega, by omega⟩, ⟨_, rfl, by omega, by omega⟩, ⟨_, 0, rfl, tLe_key hle tKey_no⟩, ⟨_, 0, rfl, tLe_key hle tKey_no⟩, ⟨_, rfl, by omega, by omega⟩, ⟨_, rfl, by omega, by omega⟩, ⟨_, rfl⟩, ⟨_, rfl, tLe_k hle k24⟩, ⟨_, rfl, tLe_k hle k25⟩, ⟨_, rfl, tLe_k hle k22⟩, trivial⟩⟩)).1
  exact c_retv hQQ X Y hr hlk ⟨_, S, va_up_self _ _ _⟩ d_So_init_57
set_option maxHeartbeats 4000000 in
set_option maxRecDepth 100000 in
theorem c_Ga_init (l : Launch) (D : va_G) (E : cE) (T : cT) (κ : tK) (L : List Nat) (f : pF) (sz : Nat) (h : Nat) (m_h : h ∈ L) (r_h : (κ h).1 = 0) (e_h : f h = .inr (5, [.null, .null, .null, .null, .int (iI 0)])) (a1 : Nat) (k1 : κ a1 = (21, 0)) (hw : tW E T κ L f) : Met l y_Ga_init (k_Ga_init :: lw_tg) (kRm 2 81 4 8004) (va_Pc [.ref h, .ref a1] (kPre D E T L f sz)) (va_Qv (aPv E T [1, 2, 3, 4, 5, 6, 7, 8, 9, 10, 11, 12, 13, 14, 15, 16, 17, 18, 19, 20, 21] [h] κ L f (fun (k : tK) (g : pF) => k h = (15, 0))) (cPost D E (pA L sz)) (pA L sz)) 4 8004 (pA L sz) := by
  refine k_enter (own := R_Ga) (by decide) rfl (Nat.le_of_ble_eq_true rfl) (fun p e s m below meth c ls AV QQ H locs hQQ X Y hA hin hr hlk hml hl KS KR => ?_)
  have hl : lv_has ls 2 [(0, .ref h), (1, .ref a1)] := hl
  have S : tS E T (tFr κ L [1, 2, 3, 4, 5, 6, 7, 8, 9, 10, 11, 12, 13, 14, 15, 16, 17, 18, 19, 20, 21] [h]) κ L f κ L f := tS_rf hw
  have hF0 : ∀ b, tFr κ L [1, 2, 3, 4, 5, 6, 7, 8, 9, 10, 11, 12, 13, 14, 15, 16, 17, 18, 19, 20, 21] [h] b → b ∈ L := fun b h9 => h9.1
  refine lv_aload_n X.1 X.2.1 d_Ga_init_0 rfl (lv_at hl 0 rfl) ?_
  refine W.objInit X.1 X.2.1 X.2.2.2.1 (X.2.2.1 _ ol_Ga) (X.2.2.1 _ o_inst) (X.2.2.1 _ o_code) rfl (by rw [hml]; exact hl.1) rfl d_Ga_init_1 (Nat.le_of_ble_eq_true rfl) (Nat.le_of_ble_eq_true rfl) ?_
  refine W.eq (g2 := F0 m 4 ls []) rfl ?_
  refine lv_aload_n X.1 X.2.1 d_Ga_init_4 rfl (lv_at hl 0 rfl) ?_
  refine t_new (ci := 3) X Y S hA hF0 i_By t_By t_By_ok ck_Ga_9 mk_By ini_By rfl (fs := [.null, .int (iI 0)]) (fun j hj => match j, hj with | 0, _ => rfl | 1, _ => rfl | n9 + 2, h9 => absurd (show n9 + 2 < 2 from h9) (by omega)) (Nat.le_of_ble_eq_true rfl) (Nat.le_of_ble_eq_true rfl) d_Ga_init_5 (fun q1 L1 f1 H Y S s1 nl1 m1 r1 e1 nz1 => ?_)
  have k2 : κ a1 = (21, 0) := tLe_k s1.2.2.1 k1
  have e3 : f1 h = .inr (5, [.null, .null, .null, .null, .int (iI 0)]) := (s1.2.2.2 _ ⟨m_h, by rw [r_h]; decide, by simp⟩).1.trans e_h
  have m4 : h ∈ L1 := s1.2.1 _ m_h
  have r5 : (κ h).1 = 0 := by rw [(s1.2.2.2 _ ⟨m_h, by rw [r_h]; decide, by simp⟩).2]; exact r_h
  refine lv_dup X.1 X.2.1 d_Ga_init_8 rfl ?_
  refine lv_sipush (v := iI 4000) X.1 X.2.1 d_Ga_init_9 (by decide) ?_
  refine t_mk (x_runI (As := [.int (iI 4000)]) (rest := [.ref q1, .ref h]) (n := 1) X hml hl.1 (c_By_init l D E T κ L1 f1 H.size q1 m1 r1 e1 4000 (by omega) (by omega) S.1 4000 4000 (by omega) (by omega) (by decide)) (ok_k X Y hA KS KR) kl_Ga_By_init ks_By_init ki_By_init ini_By rfl ⟨rfl, rfl⟩ hd_By_init.2 ⟨Nat.le_of_ble_eq_true rfl, Nat.le_of_ble_eq_true rfl⟩ rfl (Nat.le_of_ble_eq_true rfl) d_Ga_init_12 ⟨Nat.le_of_ble_eq_true rfl, Nat.le_of_ble_eq_true rfl⟩) X Y hA S (by decide) nl1 (fun κ6 L6 f6 H locs Y S s6 p6 => ?_)
  obtain k6 := p6
  have k7 : κ6 a1 = (21, 0) := tLe_k s6.2.2.1 k2
  have e8 : f6 h = .inr (5, [.null, .null, .null, .null, .int (iI 0)]) := (s6.2.2.2 _ ⟨m4, by rw [r5]; decide, by simp only [List.mem_singleton]; exact (nz1 _ m_h)⟩).1.trans e3
  have m9 : h ∈ L6 := s6.2.1 _ m4
  have r10 : (κ6 h).1 = 0 := by rw [(s6.2.2.2 _ ⟨m4, by rw [r5]; decide, by simp only [List.mem_singleton]; exact (nz1 _ m_h)⟩).2]; exact r5
  refine q_putF X.1 X.2.1 X.2.2.1 i_Ga t_Ga t_Ga_ok n_Ga X.2.2.2.1 X.2.2.2.2 Y m9 e8 rfl 1 (by decide) (X.2.2.1 _ lk_Ga_14) (fun _ h9 => h9) rfl hin rfl (t_Ga_ok 1 (by decide)) rfl rfl (Nat.le_of_ble_eq_true rfl) d_Ga_init_15 (fun H locs Y => ?_)
  have Y : pH D cCl (pA L sz) s.heap L6 (va_up f6 h (.inr (5, [.null, .ref q1, .null, .null, .int (iI 0)]))) H locs := Y
  have S := tS_up (x := .inr (5, [.null, .ref q1, .null, .null, .int (iI 0)])) S (fun h9 => h9.2.2 (List.mem_singleton.mpr rfl)) (fun h9 => absurd r10 h9)
  have e12 : (va_up f6 h (.inr (5, [.null, .ref q1, .null, .null, .int (iI 0)]))) h = .inr (5, [.null, .ref q1, .null, .null, .int (iI 0)]) := q_up
  generalize va_up f6 h (.inr (5, [.null, .ref q1, .null, .null, .int (iI 0)])) = f11 at Y S e12
  refine lv_aload_n X.1 X.2.1 d_Ga_init_18 rfl (lv_at hl 0 rfl) ?_
  refine t_new (ci := 3) X Y S hA hF0 i_By t_By t_By_ok ck_Ga_9 mk_By ini_By rfl (fs := [.null, .int (iI 0)]) (fun j hj => match j, hj with | 0, _ => rfl | 1, _ => rfl | n9 + 2, h9 => absurd (show n9 + 2 < 2 from h9) (by omega)) (Nat.le_of_ble_eq_true rfl) (Nat.le_of_ble_eq_true rfl) d_Ga_init_19 (fun q13 L13 f13 H Y S s13 nl13 m13 r13 e13 nz13 => ?_)
  have k14 : κ6 a1 = (21, 0) := tLe_k s13.2.2.1 k7
  have k15 : κ6 q1 = (13, 4000) := tLe_k s13.2.2.1 k6
  have e16 : f13 h = .inr (5, [.null, .ref q1, .null, .null, .int (iI 0)]) := (s13.2.2.2 _ ⟨m9, by rw [r10]; decide, by simp⟩).1.trans e12
  have m17 : h ∈ L13 := s13.2.1 _ m9
  have r18 : (κ6 h).1 = 0 := by rw [(s13.2.2.2 _ ⟨m9, by rw [r10]; decide, by simp⟩).2]; exact r10
  refine lv_dup X.1 X.2.1 d_Ga_init_22 rfl ?_
  refine lv_sipush (v := iI 4000) X.1 X.2.1 d_Ga_init_23 (by decide) ?_
  refine t_mk (x_runI (As := [.int (iI 4000)]) (rest := [.ref q13, .ref h]) (n := 1) X hml hl.1 (c_By_init l D E T κ6 L13 f13 H.size q13 m13 r13 e13 4000 (by omega) (by omega) S.1 4000 4000 (by omega) (by omega) (by decide)) (ok_k X Y hA KS KR) kl_Ga_By_init ks_By_init ki_By_init ini_By rfl ⟨rfl, rfl⟩ hd_By_init.2 ⟨Nat.le_of_ble_eq_true rfl, Nat.le_of_ble_eq_true rfl⟩ rfl (Nat.le_of_ble_eq_true rfl) d_Ga_init_26 ⟨Nat.le_of_ble_eq_true rfl, Nat.le_of_ble_eq_true rfl⟩) X Y hA S (by decide) nl13 (fun κ19 L19 f19 H locs Y S s19 p19 => ?_)
  obtain k19 := p19
  have k20 : κ19 a1 = (21, 0) := tLe_k s19.2.2.1 k14
  have k21 : κ19 q1 = (13, 4000) := tLe_k s19.2.2.1 k15
  have e22 : f19 h = .inr (5, [.null, .ref q1, .null, .null, .int (iI 0)]) := (s19.2.2.2 _ ⟨m17, by rw [r18]; decide, by simp only [List.mem_singleton]; exact (nz13 _ m9)⟩).1.trans e16
  have m23 : h ∈ L19 := s19.2.1 _ m17
  have r24 : (κ19 h).1 = 0 := by rw [(s19.2.2.2 _ ⟨m17, by rw [r18]; decide, by simp only [List.mem_singleton]; exact (nz13 _ m9)⟩).2]; exact r18
  refine q_putF X.1 X.2.1 X.2.2.1 i_Ga t_Ga t_Ga_ok n_Ga X.2.2.2.1 X.2.2.2.2 Y m23 e22 rfl 2 (by decide) (X.2.2.1 _ lk_Ga_20) (fun _ h9 => h9) rfl hin rfl (t_Ga_ok 2 (by decide)) rfl rfl (Nat.le_of_ble_eq_true rfl) d_Ga_init_29 (fun H locs Y => ?_)
  have Y : pH D cCl (pA L sz) s.heap L19 (va_up f19 h (.inr (5, [.null, .ref q1, .ref q13, .null, .int (iI 0)]))) H locs := Y
  have S := tS_up (x := .inr (5, [.null, .ref q1, .ref q13, .null, .int (iI 0)])) S (fun h9 => h9.2.2 (List.mem_singleton.mpr rfl)) (fun h9 => absurd r24 h9)
  have e26 : (va_up f19 h (.inr (5, [.null, .ref q1, .ref q13, .null, .int (iI 0)]))) h = .inr (5, [.null, .ref q1, .ref q13, .null, .int (iI 0)]) := q_up
  generalize va_up f19 h (.inr (5, [.null, .ref q1, .ref q13, .null, .int (iI 0)])) = f25 at Y S e26
  refine lv_aload_n X.1 X.2.1 d_Ga_init_32 rfl (lv_at hl 0 rfl) ?_
  refine k_getsN X Y KS KR (by decide) d_Ga_init_33 ?_
  refine q_put X.1 X.2.1 X.2.2.1 i_Ga t_Ga t_Ga_ok n_Ga X.2.2.2.1 X.2.2.2.2 Y m23 e26 rfl 3 (by decide) (X.2.2.1 _ lk_Ga_27) (fun _ h9 => h9) rfl (t_Ga_ok 3 (by decide)) rfl rfl (Nat.le_of_ble_eq_true rfl) d_Ga_init_36 (fun H locs Y => ?_)
  have Y : pH D cCl (pA L sz) s.heap L19 (va_up f25 h (.inr (5, [.null, .ref q1, .ref q13, .ref ((T.1 0)), .int (iI 0)]))) H locs := Y
  have S := tS_up (x := .inr (5, [.null, .ref q1, .ref q13, .ref ((T.1 0)), .int (iI 0)])) S (fun h9 => h9.2.2 (List.mem_singleton.mpr rfl)) (fun h9 => absurd r24 h9)
  have e28 : (va_up f25 h (.inr (5, [.null, .ref q1, .ref q13, .ref ((T.1 0)), .int (iI 0)]))) h = .inr (5, [.null, .ref q1, .ref q13, .ref ((T.1 0)), .int (iI 0)]) := q_up
  generalize va_up f25 h (.inr (5, [.null, .ref q1, .ref q13, .ref ((T.1 0)), .int (iI 0)])) = f27 at Y S e28
  refine lv_aload_n X.1 X.2.1 d_Ga_init_39 rfl (lv_at hl 0 rfl) ?_
  refine lv_bipush (v := iI 32) X.1 X.2.1 d_Ga_init_40 (by decide) ?_
  refine q_put X.1 X.2.1 X.2.2.1 i_Ga t_Ga t_Ga_ok n_Ga X.2.2.2.1 X.2.2.2.2 Y m23 e28 rfl 4 (by decide) (X.2.2.1 _ lk_Ga_30) (fun _ h9 => h9) rfl (t_Ga_ok 4 (by decide)) rfl rfl (Nat.le_of_ble_eq_true rfl) d_Ga_init_42 (fun H locs Y => ?_)
  have Y : pH D cCl (pA L sz) s.heap L19 (va_up f27 h (.inr (5, [.null, .ref q1, .ref q13, .ref ((T.1 0)), .int (iI 32)]))) H locs := Y
  have S := tS_up (x := .inr (5, [.null, .ref q1, .ref q13, .ref ((T.1 0)), .int (iI 32)])) S (fun h9 => h9.2.2 (List.mem_singleton.mpr rfl)) (fun h9 => absurd r24 h9)
  have e30 : (va_up f27 h (.inr (5, [.null, .ref q1, .ref q13, .ref ((T.1 0)), .int (iI 32)]))) h = .inr (5, [.null, .ref q1, .ref q13, .ref ((T.1 0)), .int (iI 32)]) := q_up
  generalize va_up f27 h (.inr (5, [.null, .ref q1, .ref q13, .ref ((T.1 0)), .int (iI 32)])) = f29 at Y S e30
  refine lv_aload_n X.1 X.2.1 d_Ga_init_45 rfl (lv_at hl 0 rfl) ?_
  refine lv_aload_n X.1 X.2.1 d_Ga_init_46 rfl (lv_at hl 1 rfl) ?_
  refine q_putF X.1 X.2.1 X.2.2.1 i_Ga t_Ga t_Ga_ok n_Ga X.2.2.2.1 X.2.2.2.2 Y m23 e30 rfl 0 (by decide) (X.2.2.1 _ lk_Ga_34) (fun _ h9 => h9) rfl hin rfl (t_Ga_ok 0 (by decide)) rfl rfl (Nat.le_of_ble_eq_true rfl) d_Ga_init_47 (fun H locs Y => ?_)
  have Y : pH D cCl (pA L sz) s.heap L19 (va_up f29 h (.inr (5, [.ref a1, .ref q1, .ref q13, .ref ((T.1 0)), .int (iI 32)]))) H locs := Y
  have S := tS_up (x := .inr (5, [.ref a1, .ref q1, .ref q13, .ref ((T.1 0)), .int (iI 32)])) S (fun h9 => h9.2.2 (List.mem_singleton.mpr rfl)) (fun h9 => absurd r24 h9)
  have e32 : (va_up f29 h (.inr (5, [.ref a1, .ref q1, .ref q13, .ref ((T.1 0)), .int (iI 32)]))) h = .inr (5, [.ref a1, .ref q1, .ref q13, .ref ((T.1 0)), .int (iI 32)]) := q_up
  generalize va_up f29 h (.inr (5, [.ref a1, .ref q1, .ref q13, .ref ((T.1 0)), .int (iI 32)])) = f31 at Y S e32
  have hle : tLe κ19 (va_up κ19 h (15, 0)) := tLe_raw r24
  have S := (tS_kind (k := (15, 0)) S m23 r24 r_h (fun h9 => h9.2.2 (List.mem_singleton.mpr rfl)) (by rw [e32]; exact ⟨_, rfl, okO_of ⟨⟨_, rfl, tLe_k hle k20⟩, ⟨_, rfl, tLe_k hle k21⟩, ⟨_, rfl, tLe_k hle k19⟩, ⟨_, 0, rfl, tLe_key hle tKey_no⟩, ⟨_, rfl, by omega, by omega⟩, trivial⟩⟩)).1
  exact c_retv hQQ X Y hr hlk ⟨_, S, va_up_self _ _ _⟩ d_Ga_init_50
set_option maxHeartbeats 4000000 in
set_option maxRecDepth 100000 in
theorem c_Ce_init (l : Launch) (D : va_G) (E : cE) (T : cT) (κ : tK) (L : List Nat) (f : pF) (sz : Nat) (h : Nat) (m_h : h ∈ L) (r_h : (κ h).1 = 0) (e_h : f h = .inr (4, [.null, .null, .null, .null, .null, .null, .int (iI 0), .int (iI 0), .int (iI 0), .int (iI 0), .null, .null, .int (iI 0), .int (iI 0), .int (iI 0), .int (iI 0)])) (a1 : Nat) (k1 : κ a1 = (21, 0)) (a2 : Nat) (k2 : κ a2 = (15, 0)) (a3 : Nat) (k3 : κ a3 = (5, 12)) (a4 n4 : Nat) (k4 : κ a4 = (13, n4)) (x4 : n4 ≤ 12288) (a5 n5 : Nat) (k5 : κ a5 = (13, n5)) (x5 : n5 ≤ 12288) (hw : tW E T κ L f) : Met l y_Ce_init (k_Ce_init :: lw_tg) (kRm 2 80 5 1381) (va_Pc [.ref h, .ref a1, .ref a2, .ref a3, .ref a4, .ref a5] (kPre D E T L f sz)) (va_Qv (aPv E T [1, 2, 3, 4, 5, 6, 7, 8, 9, 10, 11, 12, 13, 14, 15, 16, 17, 18, 19, 20, 21] [h] κ L f (fun (k : tK) (g : pF) => k h = (14, 0))) (cPost D E (pA L sz)) (pA L sz)) 5 1381 (pA L sz) := by
  refine k_enter (own := R_Ce) (by decide) rfl (Nat.le_of_ble_eq_true rfl) (fun p e s m below meth c ls AV QQ H locs hQQ X Y hA hin hr hlk hml hl KS KR => ?_)
  have hl : lv_has ls 6 [(0, .ref h), (1, .ref a1), (2, .ref a2), (3, .ref a3), (4, .ref a4), (5, .ref a5)] := hl
  have S : tS E T (tFr κ L [1, 2, 3, 4, 5, 6, 7, 8, 9, 10, 11, 12, 13, 14, 15, 16, 17, 18, 19, 20, 21] [h]) κ L f κ L f := tS_rf hw
  have hF0 : ∀ b, tFr κ L [1, 2, 3, 4, 5, 6, 7, 8, 9, 10, 11, 12, 13, 14, 15, 16, 17, 18, 19, 20, 21] [h] b → b ∈ L := fun b h9 => h9.1
  refine lv_aload_n X.1 X.2.1 d_Ce_init_0 rfl (lv_at hl 0 rfl) ?_
  refine W.objInit X.1 X.2.1 X.2.2.2.1 (X.2.2.1 _ ol_Ce) (X.2.2.1 _ o_inst) (X.2.2.1 _ o_code) rfl (by rw [hml]; exact hl.1) rfl d_Ce_init_1 (Nat.le_of_ble_eq_true rfl) (Nat.le_of_ble_eq_true rfl) ?_
  refine W.eq (g2 := F0 m 4 ls []) rfl ?_
  refine lv_aload_n X.1 X.2.1 d_Ce_init_4 rfl (lv_at hl 0 rfl) ?_
  refine t_new (ci := 8) X Y S hA hF0 i_Se t_Se t_Se_ok ck_Ce_9 mk_Se ini_Se rfl (fs := [.null, .null, .null, .null, .int (iI 0)]) (fun j hj => match j, hj with | 0, _ => rfl | 1, _ => rfl | 2, _ => rfl | 3, _ => rfl | 4, _ => rfl | n9 + 5, h9 => absurd (show n9 + 5 < 5 from h9) (by omega)) (Nat.le_of_ble_eq_true rfl) (Nat.le_of_ble_eq_true rfl) d_Ce_init_5 (fun q1 L1 f1 H Y S s1 nl1 m1 r1 e1 nz1 => ?_)
  have k2 : κ a1 = (21, 0) := tLe_k s1.2.2.1 k1
  have k3 : κ a2 = (15, 0) := tLe_k s1.2.2.1 k2
  have k4 : κ a3 = (5, 12) := tLe_k s1.2.2.1 k3
  have k5 : κ a4 = (13, n4) := tLe_k s1.2.2.1 k4
  have k6 : κ a5 = (13, n5) := tLe_k s1.2.2.1 k5
  have e7 : f1 h = .inr (4, [.null, .null, .null, .null, .null, .null, .int (iI 0), .int (iI 0), .int (iI 0), .int (iI 0), .null, .null, .int (iI 0), .int (iI 0), .int (iI 0), .int (iI 0)]) := (s1.2.2.2 _ ⟨m_h, by rw [r_h]; decide, by simp⟩).1.trans e_h
  have m8 : h ∈ L1 := s1.2.1 _ m_h
  have r9 : (κ h).1 = 0 := by rw [(s1.2.2.2 _ ⟨m_h, by rw [r_h]; decide, by simp⟩).2]; exact r_h
  refine lv_dup X.1 X.2.1 d_Ce_init_8 rfl ?_
  refine t_mk (x_runIN (As := []) (rest := [.ref q1, .ref h]) (n := 0) X KR hml hl.1 (c_Se_init l D E T κ L1 f1 H.size q1 m1 r1 e1 S.1) (ok_k X Y hA KS KR) (by decide) ks_Se_init ki_Se_init ini_Se rfl ⟨rfl, rfl⟩ hd_Se_init.2 ⟨Nat.le_of_ble_eq_true rfl, Nat.le_of_ble_eq_true rfl⟩ rfl (Nat.le_of_ble_eq_true rfl) d_Ce_init_9 ⟨Nat.le_of_ble_eq_true rfl, Nat.le_of_ble_eq_true rfl⟩) X Y hA S (by decide) nl1 (fun κ10 L10 f10 H locs Y S s10 p10 => ?_)
  obtain k10 := p10
  have k11 : κ10 a1 = (21, 0) := tLe_k s10.2.2.1 k2
  have k12 : κ10 a2 = (15, 0) := tLe_k s10.2.2.1 k3
  have k13 : κ10 a3 = (5, 12) := tLe_k s10.2.2.1 k4
  have k14 : κ10 a4 = (13, n4) := tLe_k s10.2.2.1 k5
  have k15 : κ10 a5 = (13, n5) := tLe_k s10.2.2.1 k6
  have e16 : f10 h = .inr (4, [.null, .null, .null, .null, .null, .null, .int (iI 0), .int (iI 0), .int (iI 0), .int (iI 0), .null, .null, .int (iI 0), .int (iI 0), .int (iI 0), .int (iI 0)]) := (s10.2.2.2 _ ⟨m8, by rw [r9]; decide, by simp only [List.mem_singleton]; exact (nz1 _ m_h)⟩).1.trans e7
  have m17 : h ∈ L10 := s10.2.1 _ m8
  have r18 : (κ10 h).1 = 0 := by rw [(s10.2.2.2 _ ⟨m8, by rw [r9]; decide, by simp only [List.mem_singleton]; exact (nz1 _ m_h)⟩).2]; exact r9
  refine q_putF X.1 X.2.1 X.2.2.1 i_Ce t_Ce t_Ce_ok n_Ce X.2.2.2.1 X.2.2.2.2 Y m17 e16 rfl 5 (by decide) (X.2.2.1 _ lk_Ce_12) (fun _ h9 => h9) rfl hin rfl (t_Ce_ok 5 (by decide)) rfl rfl (Nat.le_of_ble_eq_true rfl) d_Ce_init_12 (fun H locs Y => ?_)
  have Y : pH D cCl (pA L sz) s.heap L10 (va_up f10 h (.inr (4, [.null, .null, .null, .null, .null, .ref q1, .int (iI 0), .int (iI 0), .int (iI 0), .int (iI 0), .null, .null, .int (iI 0), .int (iI 0), .int (iI 0), .int (iI 0)]))) H locs := Y
  have S := tS_up (x := .inr (4, [.null, .null, .null, .null, .null, .ref q1, .int (iI 0), .int (iI 0), .int (iI 0), .int (iI 0), .null, .null, .int (iI 0), .int (iI 0), .int (iI 0), .int (iI 0)])) S (fun h9 => h9.2.2 (List.mem_singleton.mpr rfl)) (fun h9 => absurd r18 h9)
  have e20 : (va_up f10 h (.inr (4, [.null, .null, .null, .null, .null, .ref q1, .int (iI 0), .int (iI 0), .int (iI 0), .int (iI 0), .null, .null, .int (iI 0), .int (iI 0), .int (iI 0), .int (iI 0)]))) h = .inr (4, [.null, .null, .null, .null, .null, .ref q1, .int (iI 0), .int (iI 0), .int (iI 0), .int (iI 0), .null, .null, .int (iI 0), .int (iI 0), .int (iI 0), .int (iI 0)]) := q_up
  generalize va_up f10 h (.inr (4, [.null, .null, .null, .null, .null, .ref q1, .int (iI 0), .int (iI 0), .int (iI 0), .int (iI 0), .null, .null, .int (iI 0), .int (iI 0), .int (iI 0), .int (iI 0)])) = f19 at Y S e20
  refine lv_aload_n X.1 X.2.1 d_Ce_init_15 rfl (lv_at hl 0 rfl) ?_
  refine lv_aload_n X.1 X.2.1 d_Ce_init_16 rfl (lv_at hl 1 rfl) ?_
  refine q_putF X.1 X.2.1 X.2.2.1 i_Ce t_Ce t_Ce_ok n_Ce X.2.2.2.1 X.2.2.2.2 Y m17 e20 rfl 0 (by decide) (X.2.2.1 _ lk_Ce_18) (fun _ h9 => h9) rfl hin rfl (t_Ce_ok 0 (by decide)) rfl rfl (Nat.le_of_ble_eq_true rfl) d_Ce_init_17 (fun H locs Y => ?_)
  have Y : pH D cCl (pA L sz) s.heap L10 (va_up f19 h (.inr (4, [.ref a1, .null, .null, .null, .null, .ref q1, .int (iI 0), .int (iI 0), .int (iI 0), .int (iI 0), .null, .null, .int (iI 0), .int (iI 0), .int (iI 0), .int (iI 0)]))) H locs := Y
  have S := tS_up (x := .inr (4, [.ref a1, .null, .null, .null, .null, .ref q1, .int (iI 0), .int (iI 0), .int (iI 0), .int (iI 0), .null, .null, .int (iI 0), .int (iI 0), .int (iI 0), .int (iI 0)])) S (fun h9 => h9.2.2 (List.mem_singleton.mpr rfl)) (fun h9 => absurd r18 h9)
  have e22 : (va_up f19 h (.inr (4, [.ref a1, .null, .null, .null, .null, .ref q1, .int (iI 0), .int (iI 0), .int (iI 0), .int (iI 0), .null, .null, .int (iI 0), .int (iI 0), .int (iI 0), .int (iI 0)]))) h = .inr (4, [.ref a1, .null, .null, .null, .null, .ref q1, .int (iI 0), .int (iI 0), .int (iI 0), .int (iI 0), .null, .null, .int (iI 0), .int (iI 0), .int (iI 0), .int (iI 0)]) := q_up
  generalize va_up f19 h (.inr (4, [.ref a1, .null, .null, .null, .null, .ref q1, .int (iI 0), .int (iI 0), .int (iI 0), .int (iI 0), .null, .null, .int (iI 0), .int (iI 0), .int (iI 0), .int (iI 0)])) = f21 at Y S e22
  refine lv_aload_n X.1 X.2.1 d_Ce_init_20 rfl (lv_at hl 0 rfl) ?_
  refine lv_aload_n X.1 X.2.1 d_Ce_init_21 rfl (lv_at hl 2 rfl) ?_
  refine q_putF X.1 X.2.1 X.2.2.1 i_Ce t_Ce t_Ce_ok n_Ce X.2.2.2.1 X.2.2.2.2 Y m17 e22 rfl 1 (by decide) (X.2.2.1 _ lk_Ce_22) (fun _ h9 => h9) rfl hin rfl (t_Ce_ok 1 (by decide)) rfl rfl (Nat.le_of_ble_eq_true rfl) d_Ce_init_22 (fun H locs Y => ?_)
  have Y : pH D cCl (pA L sz) s.heap L10 (va_up f21 h (.inr (4, [.ref a1, .ref a2, .null, .null, .null, .ref q1, .int (iI 0), .int (iI 0), .int (iI 0), .int (iI 0), .null, .null, .int (iI 0), .int (iI 0), .int (iI 0), .int (iI 0)]))) H locs := Y
  have S := tS_up (x := .inr (4, [.ref a1, .ref a2, .null, .null, .null, .ref q1, .int (iI 0), .int (iI 0), .int (iI 0), .int (iI 0), .null, .null, .int (iI 0), .int (iI 0), .int (iI 0), .int (iI 0)])) S (fun h9 => h9.2.2 (List.mem_singleton.mpr rfl)) (fun h9 => absurd r18 h9)
  have e24 : (va_up f21 h (.inr (4, [.ref a1, .ref a2, .null, .null, .null, .ref q1, .int (iI 0), .int (iI 0), .int (iI 0), .int (iI 0), .null, .null, .int (iI 0), .int (iI 0), .int (iI 0), .int (iI 0)]))) h = .inr (4, [.ref a1, .ref a2, .null, .null, .null, .ref q1, .int (iI 0), .int (iI 0), .int (iI 0), .int (iI 0), .null, .null, .int (iI 0), .int (iI 0), .int (iI 0), .int (iI 0)]) := q_up
  generalize va_up f21 h (.inr (4, [.ref a1, .ref a2, .null, .null, .null, .ref q1, .int (iI 0), .int (iI 0), .int (iI 0), .int (iI 0), .null, .null, .int (iI 0), .int (iI 0), .int (iI 0), .int (iI 0)])) = f23 at Y S e24
  refine lv_aload_n X.1 X.2.1 d_Ce_init_25 rfl (lv_at hl 0 rfl) ?_
  refine lv_aload_n X.1 X.2.1 d_Ce_init_26 rfl (lv_at hl 3 rfl) ?_
  refine q_putF X.1 X.2.1 X.2.2.1 i_Ce t_Ce t_Ce_ok n_Ce X.2.2.2.1 X.2.2.2.2 Y m17 e24 rfl 2 (by decide) (X.2.2.1 _ lk_Ce_26) (fun _ h9 => h9) rfl hin rfl (t_Ce_ok 2 (by decide)) rfl rfl (Nat.le_of_ble_eq_true rfl) d_Ce_init_27 (fun H locs Y => ?_)
  have Y : pH D cCl (pA L sz) s.heap L10 (va_up f23 h (.inr (4, [.ref a1, .ref a2, .ref a3, .null, .null, .ref q1, .int (iI 0), .int (iI 0), .int (iI 0), .int (iI 0), .null, .null, .int (iI 0), .int (iI 0), .int (iI 0), .int (iI 0)]))) H locs := Y
  have S := tS_up (x := .inr (4, [.ref a1, .ref a2, .ref a3, .null, .null, .ref q1, .int (iI 0), .int (iI 0), .int (iI 0), .int (iI 0), .null, .null, .int (iI 0), .int (iI 0), .int (iI 0), .int (iI 0)])) S (fun h9 => h9.2.2 (List.mem_singleton.mpr rfl)) (fun h9 => absurd r18 h9)
  have e26 : (va_up f23 h (.inr (4, [.ref a1, .ref a2, .ref a3, .null, .null, .ref q1, .int (iI 0), .int (iI 0), .int (iI 0), .int (iI 0), .null, .null, .int (iI 0), .int (iI 0), .int (iI 0), .int (iI 0)]))) h = .inr (4, [.ref a1, .ref a2, .ref a3, .null, .null, .ref q1, .int (iI 0), .int (iI 0), .int (iI 0), .int (iI 0), .null, .null, .int (iI 0), .int (iI 0), .int (iI 0), .int (iI 0)]) := q_up
  generalize va_up f23 h (.inr (4, [.ref a1, .ref a2, .ref a3, .null, .null, .ref q1, .int (iI 0), .int (iI 0), .int (iI 0), .int (iI 0), .null, .null, .int (iI 0), .int (iI 0), .int (iI 0), .int (iI 0)])) = f25 at Y S e26
  refine lv_aload_n X.1 X.2.1 d_Ce_init_30 rfl (lv_at hl 0 rfl) ?_
  refine lv_aload X.1 X.2.1 d_Ce_init_31 (lv_at hl 4 rfl) ?_
  refine q_putF X.1 X.2.1 X.2.2.1 i_Ce t_Ce t_Ce_ok n_Ce X.2.2.2.1 X.2.2.2.2 Y m17 e26 rfl 3 (by decide) (X.2.2.1 _ lk_Ce_30) (fun _ h9 => h9) rfl hin rfl (t_Ce_ok 3 (by decide)) rfl rfl (Nat.le_of_ble_eq_true rfl) d_Ce_init_33 (fun H locs Y => ?_)
  have Y : pH D cCl (pA L sz) s.heap L10 (va_up f25 h (.inr (4, [.ref a1, .ref a2, .ref a3, .ref a4, .null, .ref q1, .int (iI 0), .int (iI 0), .int (iI 0), .int (iI 0), .null, .null, .int (iI 0), .int (iI 0), .int (iI 0), .int (iI 0)]))) H locs := Y
  have S := tS_up (x := .inr (4, [.ref a1, .ref a2, .ref a3, .ref a4, .null, .ref q1, .int (iI 0), .int (iI 0), .int (iI 0), .int (iI 0), .null, .null, .int (iI 0), .int (iI 0), .int (iI 0), .int (iI 0)])) S (fun h9 => h9.2.2 (List.mem_singleton.mpr rfl)) (fun h9 => absurd r18 h9)
  have e28 : (va_up f25 h (.inr (4, [.ref a1, .ref a2, .ref a3, .ref a4, .null, .ref q1, .int (iI 0), .int (iI 0), .int (iI 0), .int (iI 0), .null, .null, .int (iI 0), .int (iI 0), .int (iI 0), .int (iI 0)]))) h = .inr (4, [.ref a1, .ref a2, .ref a3, .ref a4, .null, .ref q1, .int (iI 0), .int (iI 0), .int (iI 0), .int (iI 0), .null, .null, .int (iI 0), .int (iI 0), .int (iI 0), .int (iI 0)]) := q_up
  generalize va_up f25 h (.inr (4, [.ref a1, .ref a2, .ref a3, .ref a4, .null, .ref q1, .int (iI 0), .int (iI 0), .int (iI 0), .int (iI 0), .null, .null, .int (iI 0), .int (iI 0), .int (iI 0), .int (iI 0)])) = f27 at Y S e28
  refine lv_aload_n X.1 X.2.1 d_Ce_init_36 rfl (lv_at hl 0 rfl) ?_
  refine lv_aload X.1 X.2.1 d_Ce_init_37 (lv_at hl 5 rfl) ?_
  refine q_putF X.1 X.2.1 X.2.2.1 i_Ce t_Ce t_Ce_ok n_Ce X.2.2.2.1 X.2.2.2.2 Y m17 e28 rfl 4 (by decide) (X.2.2.1 _ lk_Ce_34) (fun _ h9 => h9) rfl hin rfl (t_Ce_ok 4 (by decide)) rfl rfl (Nat.le_of_ble_eq_true rfl) d_Ce_init_39 (fun H locs Y => ?_)
  have Y : pH D cCl (pA L sz) s.heap L10 (va_up f27 h (.inr (4, [.ref a1, .ref a2, .ref a3, .ref a4, .ref a5, .ref q1, .int (iI 0), .int (iI 0), .int (iI 0), .int (iI 0), .null, .null, .int (iI 0), .int (iI 0), .int (iI 0), .int (iI 0)]))) H locs := Y
  have S := tS_up (x := .inr (4, [.ref a1, .ref a2, .ref a3, .ref a4, .ref a5, .ref q1, .int (iI 0), .int (iI 0), .int (iI 0), .int (iI 0), .null, .null, .int (iI 0), .int (iI 0), .int (iI 0), .int (iI 0)])) S (fun h9 => h9.2.2 (List.mem_singleton.mpr rfl)) (fun h9 => absurd r18 h9)
  have e30 : (va_up f27 h (.inr (4, [.ref a1, .ref a2, .ref a3, .ref a4, .ref a5, .ref q1, .int (iI 0), .int (iI 0), .int (iI 0), .int (iI 0), .null, .null, .int (iI 0), .int (iI 0), .int (iI 0), .int (iI 0)]))) h = .inr (4, [.ref a1, .ref a2, .ref a3, .ref a4, .ref a5, .ref q1, .int (iI 0), .int (iI 0), .int (iI 0), .int (iI 0), .null, .null, .int (iI 0), .int (iI 0), .int (iI 0), .int (iI 0)]) := q_up
  generalize va_up f27 h (.inr (4, [.ref a1, .ref a2, .ref a3, .ref a4, .ref a5, .ref q1, .int (iI 0), .int (iI 0), .int (iI 0), .int (iI 0), .null, .null, .int (iI 0), .int (iI 0), .int (iI 0), .int (iI 0)])) = f29 at Y S e30
  refine lv_aload_n X.1 X.2.1 d_Ce_init_42 rfl (lv_at hl 0 rfl) ?_
  refine lv_aload_n X.1 X.2.1 d_Ce_init_43 rfl (lv_at hl 3 rfl) ?_
  refine lv_iconst (v := iI 0) X.1 X.2.1 d_Ce_init_44 (by decide) ?_
  refine t_aald X Y S k13 (fun h9 => h9) (t0 := 2) rfl (by omega) (by omega) (by omega) d_Ce_init_45 (fun b31 e31 k31 => ?_)
  refine q_put X.1 X.2.1 X.2.2.1 i_Ce t_Ce t_Ce_ok n_Ce X.2.2.2.1 X.2.2.2.2 Y m17 e30 rfl 10 (by decide) (X.2.2.1 _ lk_Ce_37) (fun _ h9 => h9) rfl (t_Ce_ok 10 (by decide)) rfl rfl (Nat.le_of_ble_eq_true rfl) d_Ce_init_46 (fun H locs Y => ?_)
  have Y : pH D cCl (pA L sz) s.heap L10 (va_up f29 h (.inr (4, [.ref a1, .ref a2, .ref a3, .ref a4, .ref a5, .ref q1, .int (iI 0), .int (iI 0), .int (iI 0), .int (iI 0), .ref b31, .null, .int (iI 0), .int (iI 0), .int (iI 0), .int (iI 0)]))) H locs := Y
  have S := tS_up (x := .inr (4, [.ref a1, .ref a2, .ref a3, .ref a4, .ref a5, .ref q1, .int (iI 0), .int (iI 0), .int (iI 0), .int (iI 0), .ref b31, .null, .int (iI 0), .int (iI 0), .int (iI 0), .int (iI 0)])) S (fun h9 => h9.2.2 (List.mem_singleton.mpr rfl)) (fun h9 => absurd r18 h9)
  have e33 : (va_up f29 h (.inr (4, [.ref a1, .ref a2, .ref a3, .ref a4, .ref a5, .ref q1, .int (iI 0), .int (iI 0), .int (iI 0), .int (iI 0), .ref b31, .null, .int (iI 0), .int (iI 0), .int (iI 0), .int (iI 0)]))) h = .inr (4, [.ref a1, .ref a2, .ref a3, .ref a4, .ref a5, .ref q1, .int (iI 0), .int (iI 0), .int (iI 0), .int (iI 0), .ref b31, .null, .int (iI 0), .int (iI 0), .int (iI 0), .int (iI 0)]) := q_up
  generalize va_up f29 h (.inr (4, [.ref a1, .ref a2, .ref a3, .ref a4, .ref a5, .ref q1, .int (iI 0), .int (iI 0), .int (iI 0), .int (iI 0), .ref b31, .null, .int (iI 0), .int (iI 0), .int (iI 0), .int (iI 0)])) = f32 at Y S e33
  refine lv_aload_n X.1 X.2.1 d_Ce_init_49 rfl (lv_at hl 0 rfl) ?_
  refine lv_aload_n X.1 X.2.1 d_Ce_init_50 rfl (lv_at hl 3 rfl) ?_
  refine lv_iconst (v := iI 0) X.1 X.2.1 d_Ce_init_51 (by decide) ?_
  refine t_aald X Y S k13 (fun h9 => h9) (t0 := 2) rfl (by omega) (by omega) (by omega) d_Ce_init_52 (fun b34 e34 k34 => ?_)
  refine q_put X.1 X.2.1 X.2.2.1 i_Ce t_Ce t_Ce_ok n_Ce X.2.2.2.1 X.2.2.2.2 Y m17 e33 rfl 11 (by decide) (X.2.2.1 _ lk_Ce_41) (fun _ h9 => h9) rfl (t_Ce_ok 11 (by decide)) rfl rfl (Nat.le_of_ble_eq_true rfl) d_Ce_init_53 (fun H locs Y => ?_)
  have Y : pH D cCl (pA L sz) s.heap L10 (va_up f32 h (.inr (4, [.ref a1, .ref a2, .ref a3, .ref a4, .ref a5, .ref q1, .int (iI 0), .int (iI 0), .int (iI 0), .int (iI 0), .ref b31, .ref b34, .int (iI 0), .int (iI 0), .int (iI 0), .int (iI 0)]))) H locs := Y
  have S := tS_up (x := .inr (4, [.ref a1, .ref a2, .ref a3, .ref a4, .ref a5, .ref q1, .int (iI 0), .int (iI 0), .int (iI 0), .int (iI 0), .ref b31, .ref b34, .int (iI 0), .int (iI 0), .int (iI 0), .int (iI 0)])) S (fun h9 => h9.2.2 (List.mem_singleton.mpr rfl)) (fun h9 => absurd r18 h9)
  have e36 : (va_up f32 h (.inr (4, [.ref a1, .ref a2, .ref a3, .ref a4, .ref a5, .ref q1, .int (iI 0), .int (iI 0), .int (iI 0), .int (iI 0), .ref b31, .ref b34, .int (iI 0), .int (iI 0), .int (iI 0), .int (iI 0)]))) h = .inr (4, [.ref a1, .ref a2, .ref a3, .ref a4, .ref a5, .ref q1, .int (iI 0), .int (iI 0), .int (iI 0), .int (iI 0), .ref b31, .ref b34, .int (iI 0), .int (iI 0), .int (iI 0), .int (iI 0)]) := q_up
  generalize va_up f32 h (.inr (4, [.ref a1, .ref a2, .ref a3, .ref a4, .ref a5, .ref q1, .int (iI 0), .int (iI 0), .int (iI 0), .int (iI 0), .ref b31, .ref b34, .int (iI 0), .int (iI 0), .int (iI 0), .int (iI 0)])) = f35 at Y S e36
  have hle : tLe κ10 (va_up κ10 h (14, 0)) := tLe_raw r18
  have S := (tS_kind (k := (14, 0)) S m17 r18 r_h (fun h9 => h9.2.2 (List.mem_singleton.mpr rfl)) (by rw [e36]; exact ⟨_, rfl, okO_of ⟨⟨_, rfl, tLe_k hle k11⟩, ⟨_, rfl, tLe_k hle k12⟩, ⟨_, rfl, tLe_k hle k13⟩, ⟨_, rfl, tLe_k hle k14⟩, ⟨_, rfl, tLe_k hle k15⟩, ⟨_, rfl, tLe_k hle k10⟩, ⟨_, rfl, by omega, by omega⟩, ⟨_, rfl, by omega, by omega⟩, ⟨_, rfl, by omega, by omega⟩, ⟨_, rfl, by omega, by omega⟩, ⟨_, rfl, tLe_k hle k31⟩, ⟨_, rfl, tLe_k hle k34⟩, ⟨_, rfl, by omega, by omega⟩, ⟨_, rfl, by omega, by omega⟩, ⟨_, rfl, by omega, by omega⟩, ⟨_, rfl, by omega, by omega⟩, trivial⟩⟩)).1
  exact c_retv hQQ X Y hr hlk ⟨_, S, va_up_self _ _ _⟩ d_Ce_init_56
set_option maxHeartbeats 4000000 in
set_option maxRecDepth 100000 in
theorem c_H_init (l : Launch) (D : va_G) (E : cE) (T : cT) (κ : tK) (L : List Nat) (f : pF) (sz : Nat) (h : Nat) (m_h : h ∈ L) (r_h : (κ h).1 = 0) (e_h : f h = .inr (0, [.null, .null, .null, .null, .null, .null, .null, .null, .null])) (hw : tW E T κ L f) : Met l y_H_init (k_H_init :: lw_tg) (kRm 8 205 367 53429) (va_Pc [.ref h] (kPre D E T L f sz)) (va_Qv (aPv E T [1, 2, 3, 4, 5, 6, 7, 8, 9, 10, 11, 12, 13, 14, 15, 16, 17, 18, 19, 20, 21] [h] κ L f (fun (k : tK) (g : pF) => k h = (10, 0))) (cPost D E (pA L sz)) (pA L sz)) 367 53429 (pA L sz) := by
  refine k_enter (own := R_H) (by decide) rfl (Nat.le_of_ble_eq_true rfl) (fun p e s m below meth c ls AV QQ H locs hQQ X Y hA hin hr hlk hml hl KS KR => ?_)
  have hl : lv_has ls 2 [(0, .ref h)] := hl
  have S : tS E T (tFr κ L [1, 2, 3, 4, 5, 6, 7, 8, 9, 10, 11, 12, 13, 14, 15, 16, 17, 18, 19, 20, 21] [h]) κ L f κ L f := tS_rf hw
  have hF0 : ∀ b, tFr κ L [1, 2, 3, 4, 5, 6, 7, 8, 9, 10, 11, 12, 13, 14, 15, 16, 17, 18, 19, 20, 21] [h] b → b ∈ L := fun b h9 => h9.1
  refine lv_aload_n X.1 X.2.1 d_H_init_0 rfl (lv_at hl 0 rfl) ?_
  refine W.objInit X.1 X.2.1 X.2.2.2.1 (X.2.2.1 _ ol_H) (X.2.2.1 _ o_inst) (X.2.2.1 _ o_code) rfl (by rw [hml]; exact hl.1) rfl d_H_init_1 (Nat.le_of_ble_eq_true rfl) (Nat.le_of_ble_eq_true rfl) ?_
  refine W.eq (g2 := F0 m 4 ls []) rfl ?_
  refine lv_aload_n X.1 X.2.1 d_H_init_4 rfl (lv_at hl 0 rfl) ?_
  refine t_new (ci := 11) X Y S hA hF0 i_Va t_Va t_Va_ok ck_H_9 mk_Va ini_Va rfl (fs := [.int (iI 0), .null, .null, .null, .null, .null, .int (iI 0), .null, .int (iI 0), .int (iI 0), .null, .null, .null]) (fun j hj => match j, hj with | 0, _ => rfl | 1, _ => rfl | 2, _ => rfl | 3, _ => rfl | 4, _ => rfl | 5, _ => rfl | 6, _ => rfl | 7, _ => rfl | 8, _ => rfl | 9, _ => rfl | 10, _ => rfl | 11, _ => rfl | 12, _ => rfl | n9 + 13, h9 => absurd (show n9 + 13 < 13 from h9) (by omega)) (Nat.le_of_ble_eq_true rfl) (Nat.le_of_ble_eq_true rfl) d_H_init_5 (fun q1 L1 f1 H Y S s1 nl1 m1 r1 e1 nz1 => ?_)
  have e2 : f1 h = .inr (0, [.null, .null, .null, .null, .null, .null, .null, .null, .null]) := (s1.2.2.2 _ ⟨m_h, by rw [r_h]; decide, by simp⟩).1.trans e_h
  have m3 : h ∈ L1 := s1.2.1 _ m_h
  have r4 : (κ h).1 = 0 := by rw [(s1.2.2.2 _ ⟨m_h, by rw [r_h]; decide, by simp⟩).2]; exact r_h
  refine lv_dup X.1 X.2.1 d_H_init_8 rfl ?_
  refine t_mk (x_runIN (As := []) (rest := [.ref q1, .ref h]) (n := 0) X KR hml hl.1 (c_Va_init l D E T κ L1 f1 H.size q1 m1 r1 e1 S.1) (ok_k X Y hA KS KR) (by decide) ks_Va_init ki_Va_init ini_Va rfl ⟨rfl, rfl⟩ hd_Va_init.2 ⟨Nat.le_of_ble_eq_true rfl, Nat.le_of_ble_eq_true rfl⟩ rfl (Nat.le_of_ble_eq_true rfl) d_H_init_9 ⟨Nat.le_of_ble_eq_true rfl, Nat.le_of_ble_eq_true rfl⟩) X Y hA S (by decide) nl1 (fun κ5 L5 f5 H locs Y S s5 p5 => ?_)
  obtain k5 := p5
  have e6 : f5 h = .inr (0, [.null, .null, .null, .null, .null, .null, .null, .null, .null]) := (s5.2.2.2 _ ⟨m3, by rw [r4]; decide, by simp only [List.mem_singleton]; exact (nz1 _ m_h)⟩).1.trans e2
  have m7 : h ∈ L5 := s5.2.1 _ m3
  have r8 : (κ5 h).1 = 0 := by rw [(s5.2.2.2 _ ⟨m3, by rw [r4]; decide, by simp only [List.mem_singleton]; exact (nz1 _ m_h)⟩).2]; exact r4
  refine q_putF X.1 X.2.1 X.2.2.1 i_H t_H t_H_ok n_H X.2.2.2.1 X.2.2.2.2 Y m7 e6 rfl 0 (by decide) (X.2.2.1 _ lk_H_12) (fun _ h9 => h9) rfl hin rfl (t_H_ok 0 (by decide)) rfl rfl (Nat.le_of_ble_eq_true rfl) d_H_init_12 (fun H locs Y => ?_)
  have Y : pH D cCl (pA L sz) s.heap L5 (va_up f5 h (.inr (0, [.ref q1, .null, .null, .null, .null, .null, .null, .null, .null]))) H locs := Y
  have S := tS_up (x := .inr (0, [.ref q1, .null, .null, .null, .null, .null, .null, .null, .null])) S (fun h9 => h9.2.2 (List.mem_singleton.mpr rfl)) (fun h9 => absurd r8 h9)
  have e10 : (va_up f5 h (.inr (0, [.ref q1, .null, .null, .null, .null, .null, .null, .null, .null]))) h = .inr (0, [.ref q1, .null, .null, .null, .null, .null, .null, .null, .null]) := q_up
  generalize va_up f5 h (.inr (0, [.ref q1, .null, .null, .null, .null, .null, .null, .null, .null])) = f9 at Y S e10
  refine lv_aload_n X.1 X.2.1 d_H_init_15 rfl (lv_at hl 0 rfl) ?_
  refine t_new (ci := 3) X Y S hA hF0 i_By t_By t_By_ok ck_H_16 mk_By ini_By rfl (fs := [.null, .int (iI 0)]) (fun j hj => match j, hj with | 0, _ => rfl | 1, _ => rfl | n9 + 2, h9 => absurd (show n9 + 2 < 2 from h9) (by omega)) (Nat.le_of_ble_eq_true rfl) (Nat.le_of_ble_eq_true rfl) d_H_init_16 (fun q11 L11 f11 H Y S s11 nl11 m11 r11 e11 nz11 => ?_)
  have k12 : κ5 q1 = (21, 0) := tLe_k s11.2.2.1 k5
  have e13 : f11 h = .inr (0, [.ref q1, .null, .null, .null, .null, .null, .null, .null, .null]) := (s11.2.2.2 _ ⟨m7, by rw [r8]; decide, by simp⟩).1.trans e10
  have m14 : h ∈ L11 := s11.2.1 _ m7
  have r15 : (κ5 h).1 = 0 := by rw [(s11.2.2.2 _ ⟨m7, by rw [r8]; decide, by simp⟩).2]; exact r8
  refine lv_dup X.1 X.2.1 d_H_init_19 rfl ?_
  refine lv_sipush (v := iI 4000) X.1 X.2.1 d_H_init_20 (by decide) ?_
  refine t_mk (x_runI (As := [.int (iI 4000)]) (rest := [.ref q11, .ref h]) (n := 1) X hml hl.1 (c_By_init l D E T κ5 L11 f11 H.size q11 m11 r11 e11 4000 (by omega) (by omega) S.1 4000 4000 (by omega) (by omega) (by decide)) (ok_k X Y hA KS KR) kl_H_By_init ks_By_init ki_By_init ini_By rfl ⟨rfl, rfl⟩ hd_By_init.2 ⟨Nat.le_of_ble_eq_true rfl, Nat.le_of_ble_eq_true rfl⟩ rfl (Nat.le_of_ble_eq_true rfl) d_H_init_23 ⟨Nat.le_of_ble_eq_true rfl, Nat.le_of_ble_eq_true rfl⟩) X Y hA S (by decide) nl11 (fun κ16 L16 f16 H locs Y S s16 p16 => ?_)
  obtain k16 := p16
  have k17 : κ16 q1 = (21, 0) := tLe_k s16.2.2.1 k12
  have e18 : f16 h = .inr (0, [.ref q1, .null, .null, .null, .null, .null, .null, .null, .null]) := (s16.2.2.2 _ ⟨m14, by rw [r15]; decide, by simp only [List.mem_singleton]; exact (nz11 _ m7)⟩).1.trans e13
  have m19 : h ∈ L16 := s16.2.1 _ m14
  have r20 : (κ16 h).1 = 0 := by rw [(s16.2.2.2 _ ⟨m14, by rw [r15]; decide, by simp only [List.mem_singleton]; exact (nz11 _ m7)⟩).2]; exact r15
  refine q_putF X.1 X.2.1 X.2.2.1 i_H t_H t_H_ok n_H X.2.2.2.1 X.2.2.2.2 Y m19 e18 rfl 1 (by decide) (X.2.2.1 _ lk_H_21) (fun _ h9 => h9) rfl hin rfl (t_H_ok 1 (by decide)) rfl rfl (Nat.le_of_ble_eq_true rfl) d_H_init_26 (fun H locs Y => ?_)
  have Y : pH D cCl (pA L sz) s.heap L16 (va_up f16 h (.inr (0, [.ref q1, .ref q11, .null, .null, .null, .null, .null, .null, .null]))) H locs := Y
  have S := tS_up (x := .inr (0, [.ref q1, .ref q11, .null, .null, .null, .null, .null, .null, .null])) S (fun h9 => h9.2.2 (List.mem_singleton.mpr rfl)) (fun h9 => absurd r20 h9)
  have e22 : (va_up f16 h (.inr (0, [.ref q1, .ref q11, .null, .null, .null, .null, .null, .null, .null]))) h = .inr (0, [.ref q1, .ref q11, .null, .null, .null, .null, .null, .null, .null]) := q_up
  generalize va_up f16 h (.inr (0, [.ref q1, .ref q11, .null, .null, .null, .null, .null, .null, .null])) = f21 at Y S e22
  refine lv_aload_n X.1 X.2.1 d_H_init_29 rfl (lv_at hl 0 rfl) ?_
  refine t_new (ci := 3) X Y S hA hF0 i_By t_By t_By_ok ck_H_16 mk_By ini_By rfl (fs := [.null, .int (iI 0)]) (fun j hj => match j, hj with | 0, _ => rfl | 1, _ => rfl | n9 + 2, h9 => absurd (show n9 + 2 < 2 from h9) (by omega)) (Nat.le_of_ble_eq_true rfl) (Nat.le_of_ble_eq_true rfl) d_H_init_30 (fun q23 L23 f23 H Y S s23 nl23 m23 r23 e23 nz23 => ?_)
  have k24 : κ16 q1 = (21, 0) := tLe_k s23.2.2.1 k17
  have k25 : κ16 q11 = (13, 4000) := tLe_k s23.2.2.1 k16
  have e26 : f23 h = .inr (0, [.ref q1, .ref q11, .null, .null, .null, .null, .null, .null, .null]) := (s23.2.2.2 _ ⟨m19, by rw [r20]; decide, by simp⟩).1.trans e22
  have m27 : h ∈ L23 := s23.2.1 _ m19
  have r28 : (κ16 h).1 = 0 := by rw [(s23.2.2.2 _ ⟨m19, by rw [r20]; decide, by simp⟩).2]; exact r20
  refine lv_dup X.1 X.2.1 d_H_init_33 rfl ?_
  refine lv_sipush (v := iI 12288) X.1 X.2.1 d_H_init_34 (by decide) ?_
  refine t_mk (x_runI (As := [.int (iI 12288)]) (rest := [.ref q23, .ref h]) (n := 1) X hml hl.1 (c_By_init l D E T κ16 L23 f23 H.size q23 m23 r23 e23 12288 (by omega) (by omega) S.1 12288 12288 (by omega) (by omega) (by decide)) (ok_k X Y hA KS KR) kl_H_By_init ks_By_init ki_By_init ini_By rfl ⟨rfl, rfl⟩ hd_By_init.2 ⟨Nat.le_of_ble_eq_true rfl, Nat.le_of_ble_eq_true rfl⟩ rfl (Nat.le_of_ble_eq_true rfl) d_H_init_37 ⟨Nat.le_of_ble_eq_true rfl, Nat.le_of_ble_eq_true rfl⟩) X Y hA S (by decide) nl23 (fun κ29 L29 f29 H locs Y S s29 p29 => ?_)
  obtain k29 := p29
  have k30 : κ29 q1 = (21, 0) := tLe_k s29.2.2.1 k24
  have k31 : κ29 q11 = (13, 4000) := tLe_k s29.2.2.1 k25
  have e32 : f29 h = .inr (0, [.ref q1, .ref q11, .null, .null, .null, .null, .null, .null, .null]) := (s29.2.2.2 _ ⟨m27, by rw [r28]; decide, by simp only [List.mem_singleton]; exact (nz23 _ m19)⟩).1.trans e26
  have m33 : h ∈ L29 := s29.2.1 _ m27
  have r34 : (κ29 h).1 = 0 := by rw [(s29.2.2.2 _ ⟨m27, by rw [r28]; decide, by simp only [List.mem_singleton]; exact (nz23 _ m19)⟩).2]; exact r28
  refine q_putF X.1 X.2.1 X.2.2.1 i_H t_H t_H_ok n_H X.2.2.2.1 X.2.2.2.2 Y m33 e32 rfl 2 (by decide) (X.2.2.1 _ lk_H_25) (fun _ h9 => h9) rfl hin rfl (t_H_ok 2 (by decide)) rfl rfl (Nat.le_of_ble_eq_true rfl) d_H_init_40 (fun H locs Y => ?_)
  have Y : pH D cCl (pA L sz) s.heap L29 (va_up f29 h (.inr (0, [.ref q1, .ref q11, .ref q23, .null, .null, .null, .null, .null, .null]))) H locs := Y
  have S := tS_up (x := .inr (0, [.ref q1, .ref q11, .ref q23, .null, .null, .null, .null, .null, .null])) S (fun h9 => h9.2.2 (List.mem_singleton.mpr rfl)) (fun h9 => absurd r34 h9)
  have e36 : (va_up f29 h (.inr (0, [.ref q1, .ref q11, .ref q23, .null, .null, .null, .null, .null, .null]))) h = .inr (0, [.ref q1, .ref q11, .ref q23, .null, .null, .null, .null, .null, .null]) := q_up
  generalize va_up f29 h (.inr (0, [.ref q1, .ref q11, .ref q23, .null, .null, .null, .null, .null, .null])) = f35 at Y S e36
  refine lv_aload_n X.1 X.2.1 d_H_init_43 rfl (lv_at hl 0 rfl) ?_
  refine t_new (ci := 3) X Y S hA hF0 i_By t_By t_By_ok ck_H_16 mk_By ini_By rfl (fs := [.null, .int (iI 0)]) (fun j hj => match j, hj with | 0, _ => rfl | 1, _ => rfl | n9 + 2, h9 => absurd (show n9 + 2 < 2 from h9) (by omega)) (Nat.le_of_ble_eq_true rfl) (Nat.le_of_ble_eq_true rfl) d_H_init_44 (fun q37 L37 f37 H Y S s37 nl37 m37 r37 e37 nz37 => ?_)
  have k38 : κ29 q1 = (21, 0) := tLe_k s37.2.2.1 k30
  have k39 : κ29 q11 = (13, 4000) := tLe_k s37.2.2.1 k31
  have k40 : κ29 q23 = (13, 12288) := tLe_k s37.2.2.1 k29
  have e41 : f37 h = .inr (0, [.ref q1, .ref q11, .ref q23, .null, .null, .null, .null, .null, .null]) := (s37.2.2.2 _ ⟨m33, by rw [r34]; decide, by simp⟩).1.trans e36
  have m42 : h ∈ L37 := s37.2.1 _ m33
  have r43 : (κ29 h).1 = 0 := by rw [(s37.2.2.2 _ ⟨m33, by rw [r34]; decide, by simp⟩).2]; exact r34
  refine lv_dup X.1 X.2.1 d_H_init_47 rfl ?_
  refine lv_bipush (v := iI 40) X.1 X.2.1 d_H_init_48 (by decide) ?_
  refine t_mk (x_runI (As := [.int (iI 40)]) (rest := [.ref q37, .ref h]) (n := 1) X hml hl.1 (c_By_init l D E T κ29 L37 f37 H.size q37 m37 r37 e37 40 (by omega) (by omega) S.1 40 40 (by omega) (by omega) (by decide)) (ok_k X Y hA KS KR) kl_H_By_init ks_By_init ki_By_init ini_By rfl ⟨rfl, rfl⟩ hd_By_init.2 ⟨Nat.le_of_ble_eq_true rfl, Nat.le_of_ble_eq_true rfl⟩ rfl (Nat.le_of_ble_eq_true rfl) d_H_init_50 ⟨Nat.le_of_ble_eq_true rfl, Nat.le_of_ble_eq_true rfl⟩) X Y hA S (by decide) nl37 (fun κ44 L44 f44 H locs Y S s44 p44 => ?_)
  obtain k44 := p44
  have k45 : κ44 q1 = (21, 0) := tLe_k s44.2.2.1 k38
  have k46 : κ44 q11 = (13, 4000) := tLe_k s44.2.2.1 k39
  have k47 : κ44 q23 = (13, 12288) := tLe_k s44.2.2.1 k40
  have e48 : f44 h = .inr (0, [.ref q1, .ref q11, .ref q23, .null, .null, .null, .null, .null, .null]) := (s44.2.2.2 _ ⟨m42, by rw [r43]; decide, by simp only [List.mem_singleton]; exact (nz37 _ m33)⟩).1.trans e41
  have m49 : h ∈ L44 := s44.2.1 _ m42
  have r50 : (κ44 h).1 = 0 := by rw [(s44.2.2.2 _ ⟨m42, by rw [r43]; decide, by simp only [List.mem_singleton]; exact (nz37 _ m33)⟩).2]; exact r43
  refine q_putF X.1 X.2.1 X.2.2.1 i_H t_H t_H_ok n_H X.2.2.2.1 X.2.2.2.2 Y m49 e48 rfl 3 (by decide) (X.2.2.1 _ lk_H_28) (fun _ h9 => h9) rfl hin rfl (t_H_ok 3 (by decide)) rfl rfl (Nat.le_of_ble_eq_true rfl) d_H_init_53 (fun H locs Y => ?_)
  have Y : pH D cCl (pA L sz) s.heap L44 (va_up f44 h (.inr (0, [.ref q1, .ref q11, .ref q23, .ref q37, .null, .null, .null, .null, .null]))) H locs := Y
  have S := tS_up (x := .inr (0, [.ref q1, .ref q11, .ref q23, .ref q37, .null, .null, .null, .null, .null])) S (fun h9 => h9.2.2 (List.mem_singleton.mpr rfl)) (fun h9 => absurd r50 h9)
  have e52 : (va_up f44 h (.inr (0, [.ref q1, .ref q11, .ref q23, .ref q37, .null, .null, .null, .null, .null]))) h = .inr (0, [.ref q1, .ref q11, .ref q23, .ref q37, .null, .null, .null, .null, .null]) := q_up
  generalize va_up f44 h (.inr (0, [.ref q1, .ref q11, .ref q23, .ref q37, .null, .null, .null, .null, .null])) = f51 at Y S e52
  refine lv_aload_n X.1 X.2.1 d_H_init_56 rfl (lv_at hl 0 rfl) ?_
  refine t_new (ci := 5) X Y S hA hF0 i_Ga t_Ga t_Ga_ok ck_H_31 mk_Ga ini_Ga rfl (fs := [.null, .null, .null, .null, .int (iI 0)]) (fun j hj => match j, hj with | 0, _ => rfl | 1, _ => rfl | 2, _ => rfl | 3, _ => rfl | 4, _ => rfl | n9 + 5, h9 => absurd (show n9 + 5 < 5 from h9) (by omega)) (Nat.le_of_ble_eq_true rfl) (Nat.le_of_ble_eq_true rfl) d_H_init_57 (fun q53 L53 f53 H Y S s53 nl53 m53 r53 e53 nz53 => ?_)
  have k54 : κ44 q1 = (21, 0) := tLe_k s53.2.2.1 k45
  have k55 : κ44 q11 = (13, 4000) := tLe_k s53.2.2.1 k46
  have k56 : κ44 q23 = (13, 12288) := tLe_k s53.2.2.1 k47
  have k57 : κ44 q37 = (13, 40) := tLe_k s53.2.2.1 k44
  have e58 : f53 h = .inr (0, [.ref q1, .ref q11, .ref q23, .ref q37, .null, .null, .null, .null, .null]) := (s53.2.2.2 _ ⟨m49, by rw [r50]; decide, by simp⟩).1.trans e52
  have m59 : h ∈ L53 := s53.2.1 _ m49
  have r60 : (κ44 h).1 = 0 := by rw [(s53.2.2.2 _ ⟨m49, by rw [r50]; decide, by simp⟩).2]; exact r50
  refine lv_dup X.1 X.2.1 d_H_init_60 rfl ?_
  refine lv_aload_n X.1 X.2.1 d_H_init_61 rfl (lv_at hl 0 rfl) ?_
  refine q_get X.1 X.2.1 X.2.2.1 i_H X.2.2.2.1 X.2.2.2.2 Y m59 e58 rfl 0 (by decide) (X.2.2.1 _ lk_H_12) (fun _ h9 => h9) rfl d_H_init_62 ?_
  refine t_mk (x_runI (As := [.ref q1]) (rest := [.ref q53, .ref h]) (n := 1) X hml hl.1 (c_Ga_init l D E T κ44 L53 f53 H.size q53 m53 r53 e53 q1 k54 S.1) (ok_k X Y hA KS KR) kl_H_Ga_init ks_Ga_init ki_Ga_init ini_Ga rfl ⟨rfl, rfl⟩ hd_Ga_init.2 ⟨Nat.le_of_ble_eq_true rfl, Nat.le_of_ble_eq_true rfl⟩ rfl (Nat.le_of_ble_eq_true rfl) d_H_init_65 ⟨Nat.le_of_ble_eq_true rfl, Nat.le_of_ble_eq_true rfl⟩) X Y hA S (by decide) nl53 (fun κ61 L61 f61 H locs Y S s61 p61 => ?_)
  obtain k61 := p61
  have k62 : κ61 q1 = (21, 0) := tLe_k s61.2.2.1 k54
  have k63 : κ61 q11 = (13, 4000) := tLe_k s61.2.2.1 k55
  have k64 : κ61 q23 = (13, 12288) := tLe_k s61.2.2.1 k56
  have k65 : κ61 q37 = (13, 40) := tLe_k s61.2.2.1 k57
  have e66 : f61 h = .inr (0, [.ref q1, .ref q11, .ref q23, .ref q37, .null, .null, .null, .null, .null]) := (s61.2.2.2 _ ⟨m59, by rw [r60]; decide, by simp only [List.mem_singleton]; exact (nz53 _ m49)⟩).1.trans e58
  have m67 : h ∈ L61 := s61.2.1 _ m59
  have r68 : (κ61 h).1 = 0 := by rw [(s61.2.2.2 _ ⟨m59, by rw [r60]; decide, by simp only [List.mem_singleton]; exact (nz53 _ m49)⟩).2]; exact r60
  refine q_putF X.1 X.2.1 X.2.2.1 i_H t_H t_H_ok n_H X.2.2.2.1 X.2.2.2.2 Y m67 e66 rfl 5 (by decide) (X.2.2.1 _ lk_H_36) (fun _ h9 => h9) rfl hin rfl (t_H_ok 5 (by decide)) rfl rfl (Nat.le_of_ble_eq_true rfl) d_H_init_68 (fun H locs Y => ?_)
  have Y : pH D cCl (pA L sz) s.heap L61 (va_up f61 h (.inr (0, [.ref q1, .ref q11, .ref q23, .ref q37, .null, .ref q53, .null, .null, .null]))) H locs := Y
  have S := tS_up (x := .inr (0, [.ref q1, .ref q11, .ref q23, .ref q37, .null, .ref q53, .null, .null, .null])) S (fun h9 => h9.2.2 (List.mem_singleton.mpr rfl)) (fun h9 => absurd r68 h9)
  have e70 : (va_up f61 h (.inr (0, [.ref q1, .ref q11, .ref q23, .ref q37, .null, .ref q53, .null, .null, .null]))) h = .inr (0, [.ref q1, .ref q11, .ref q23, .ref q37, .null, .ref q53, .null, .null, .null]) := q_up
  generalize va_up f61 h (.inr (0, [.ref q1, .ref q11, .ref q23, .ref q37, .null, .ref q53, .null, .null, .null])) = f69 at Y S e70
  refine lv_aload_n X.1 X.2.1 d_H_init_71 rfl (lv_at hl 0 rfl) ?_
  refine lv_bipush (v := iI 12) X.1 X.2.1 d_H_init_72 (by decide) ?_
  refine t_anew X Y S hA hF0 ck_H_40 (KR.2.2.2 _ (by decide)) (t0 := 2) (c2 := 17) (N := 12) rfl (by omega) (by decide) (Nat.le_of_ble_eq_true rfl) (Nat.le_of_ble_eq_true rfl) d_H_init_74 (fun q71 L71 f71 H Y S s71 nl71 m71 r71 e71 nz71 => ?_)
  have k72 : κ61 q1 = (21, 0) := tLe_k s71.2.2.1 k62
  have k73 : κ61 q11 = (13, 4000) := tLe_k s71.2.2.1 k63
  have k74 : κ61 q23 = (13, 12288) := tLe_k s71.2.2.1 k64
  have k75 : κ61 q37 = (13, 40) := tLe_k s71.2.2.1 k65
  have k76 : κ61 q53 = (15, 0) := tLe_k s71.2.2.1 k61
  have e77 : f71 h = .inr (0, [.ref q1, .ref q11, .ref q23, .ref q37, .null, .ref q53, .null, .null, .null]) := (s71.2.2.2 _ ⟨m67, by rw [r68]; decide, by simp⟩).1.trans e70
  have m78 : h ∈ L71 := s71.2.1 _ m67
  have r79 : (κ61 h).1 = 0 := by rw [(s71.2.2.2 _ ⟨m67, by rw [r68]; decide, by simp⟩).2]; exact r68
  refine q_putF X.1 X.2.1 X.2.2.1 i_H t_H t_H_ok n_H X.2.2.2.1 X.2.2.2.2 Y m78 e77 rfl 4 (by decide) (X.2.2.1 _ lk_H_42) (fun _ h9 => h9) rfl hin rfl (t_H_ok 4 (by decide)) rfl rfl (Nat.le_of_ble_eq_true rfl) d_H_init_77 (fun H locs Y => ?_)
  have Y : pH D cCl (pA L sz) s.heap L71 (va_up f71 h (.inr (0, [.ref q1, .ref q11, .ref q23, .ref q37, .ref q71, .ref q53, .null, .null, .null]))) H locs := Y
  have S := tS_up (x := .inr (0, [.ref q1, .ref q11, .ref q23, .ref q37, .ref q71, .ref q53, .null, .null, .null])) S (fun h9 => h9.2.2 (List.mem_singleton.mpr rfl)) (fun h9 => absurd r79 h9)
  have e81 : (va_up f71 h (.inr (0, [.ref q1, .ref q11, .ref q23, .ref q37, .ref q71, .ref q53, .null, .null, .null]))) h = .inr (0, [.ref q1, .ref q11, .ref q23, .ref q37, .ref q71, .ref q53, .null, .null, .null]) := q_up
  have e82 : okP κ61 E.2.2.1 12 0 17 ((va_up f71 h (.inr (0, [.ref q1, .ref q11, .ref q23, .ref q37, .ref q71, .ref q53, .null, .null, .null]))) q71) := by rw [q_ne (nz71 _ m67).symm]; exact e71
  generalize va_up f71 h (.inr (0, [.ref q1, .ref q11, .ref q23, .ref q37, .ref q71, .ref q53, .null, .null, .null])) = f80 at Y S e81 e82
  refine lv_iconst (v := iI 0) X.1 X.2.1 d_H_init_80 (by decide) ?_
  refine lv_istore_n (lv' := [(1, .int (iI 0)), (0, .ref h)]) X.1 X.2.1 d_H_init_81 rfl hl (by decide) rfl (fun ls hl => ?_)
  refine lv_iload_n X.1 X.2.1 d_H_init_82 rfl (lv_at hl 0 rfl) ?_
  refine lv_bipush (v := iI 12) X.1 X.2.1 d_H_init_83 (by decide) ?_
  refine z_icmp_ge (tgt := 107) X.1 X.2.1 d_H_init_85 (by decide) ⟨by omega, by omega⟩ ⟨by omega, by omega⟩ (fun h83 => False.elim (by omega)) (fun h83 => ?_)
  · refine lv_aload_n X.1 X.2.1 d_H_init_88 rfl (lv_at hl 1 rfl) ?_
    refine q_get X.1 X.2.1 X.2.2.1 i_H X.2.2.2.1 X.2.2.2.2 Y m78 e81 rfl 4 (by decide) (X.2.2.1 _ lk_H_42) (fun _ h9 => h9) rfl d_H_init_89 ?_
    refine lv_iload_n X.1 X.2.1 d_H_init_92 rfl (lv_at hl 0 rfl) ?_
    refine t_new (ci := 7) X Y S hA hF0 i_Pr t_Pr t_Pr_ok ck_H_40 mk_Pr ini_Pr rfl (fs := [.null, .null, .int (iI 0), .int (iI 0), .int (iI 0), .null, .null, .null, .null, .int (iI 0), .int (iI 0), .int (iI 0), .int (iI 0)]) (fun j hj => match j, hj with | 0, _ => rfl | 1, _ => rfl | 2, _ => rfl | 3, _ => rfl | 4, _ => rfl | 5, _ => rfl | 6, _ => rfl | 7, _ => rfl | 8, _ => rfl | 9, _ => rfl | 10, _ => rfl | 11, _ => rfl | 12, _ => rfl | n9 + 13, h9 => absurd (show n9 + 13 < 13 from h9) (by omega)) (Nat.le_of_ble_eq_true rfl) (Nat.le_of_ble_eq_true rfl) d_H_init_93 (fun q84 L84 f84 H Y S s84 nl84 m84 r84 e84 nz84 => ?_)
    have k85 : κ61 q1 = (21, 0) := tLe_k s84.2.2.1 k72
    have k86 : κ61 q11 = (13, 4000) := tLe_k s84.2.2.1 k73
    have k87 : κ61 q23 = (13, 12288) := tLe_k s84.2.2.1 k74
    have k88 : κ61 q37 = (13, 40) := tLe_k s84.2.2.1 k75
    have k89 : κ61 q53 = (15, 0) := tLe_k s84.2.2.1 k76
    have e90 : f84 h = .inr (0, [.ref q1, .ref q11, .ref q23, .ref q37, .ref q71, .ref q53, .null, .null, .null]) := (s84.2.2.2 _ ⟨m78, by rw [r79]; decide, by simp⟩).1.trans e81
    have m91 : h ∈ L84 := s84.2.1 _ m78
    have r92 : (κ61 h).1 = 0 := by rw [(s84.2.2.2 _ ⟨m78, by rw [r79]; decide, by simp⟩).2]; exact r79
    have e93 : okP κ61 E.2.2.1 12 0 17 (f84 q71) := okP_le s84.2.2.1 (by rw [(s84.2.2.2 _ ⟨m71, by rw [r71]; decide, by simp⟩).1]; exact e82)
    have m94 : q71 ∈ L84 := s84.2.1 _ m71
    have r95 : (κ61 q71).1 = 0 := by rw [(s84.2.2.2 _ ⟨m71, by rw [r71]; decide, by simp⟩).2]; exact r71
    refine lv_dup X.1 X.2.1 d_H_init_96 rfl ?_
    refine t_mk (x_runIN (As := []) (rest := [.ref q84, .int (iI 0), .ref q71]) (n := 0) X KR hml hl.1 (c_Pr_init l D E T κ61 L84 f84 H.size q84 m84 r84 e84 S.1) (ok_k X Y hA KS KR) (by decide) ks_Pr_init ki_Pr_init ini_Pr rfl ⟨rfl, rfl⟩ hd_Pr_init.2 ⟨Nat.le_of_ble_eq_true rfl, Nat.le_of_ble_eq_true rfl⟩ rfl (Nat.le_of_ble_eq_true rfl) d_H_init_97 ⟨Nat.le_of_ble_eq_true rfl, Nat.le_of_ble_eq_true rfl⟩) X Y hA S (by decide) nl84 (fun κ96 L96 f96 H locs Y S s96 p96 => ?_)
    obtain k96 := p96
    have k97 : κ96 q1 = (21, 0) := tLe_k s96.2.2.1 k85
    have k98 : κ96 q11 = (13, 4000) := tLe_k s96.2.2.1 k86
    have k99 : κ96 q23 = (13, 12288) := tLe_k s96.2.2.1 k87
    have k100 : κ96 q37 = (13, 40) := tLe_k s96.2.2.1 k88
    have k101 : κ96 q53 = (15, 0) := tLe_k s96.2.2.1 k89
    have e102 : f96 h = .inr (0, [.ref q1, .ref q11, .ref q23, .ref q37, .ref q71, .ref q53, .null, .null, .null]) := (s96.2.2.2 _ ⟨m91, by rw [r92]; decide, by simp only [List.mem_singleton]; exact (nz84 _ m78)⟩).1.trans e90
    have m103 : h ∈ L96 := s96.2.1 _ m91
    have r104 : (κ96 h).1 = 0 := by rw [(s96.2.2.2 _ ⟨m91, by rw [r92]; decide, by simp only [List.mem_singleton]; exact (nz84 _ m78)⟩).2]; exact r92
    have e105 : okP κ96 E.2.2.1 12 0 17 (f96 q71) := okP_le s96.2.2.1 (by rw [(s96.2.2.2 _ ⟨m94, by rw [r95]; decide, by simp only [List.mem_singleton]; exact (nz84 _ m71)⟩).1]; exact e93)
    have m106 : q71 ∈ L96 := s96.2.1 _ m94
    have r107 : (κ96 q71).1 = 0 := by rw [(s96.2.2.2 _ ⟨m94, by rw [r95]; decide, by simp only [List.mem_singleton]; exact (nz84 _ m71)⟩).2]; exact r95
    refine t_aast (ci := 7) (r := (R_Pr, F_Pr, 13)) (t0 := 2) X Y S m106 r107 e105 rfl k96 rfl (by omega) (by decide) (by decide) (fun h9 => nl71 h9.1) d_H_init_100 (fun f108 H locs Y S w108 o108 => ?_)
    have e109 : f108 h = .inr (0, [.ref q1, .ref q11, .ref q23, .ref q37, .ref q71, .ref q53, .null, .null, .null]) := (w108 _ (nz71 _ m67)).trans e102
    refine lv_iinc (v := iI 1) (lv' := [(1, .int (iI 1)), (0, .ref h)]) X.1 X.2.1 d_H_init_101 hl (k := 0) rfl (by decide) (by decide) rfl (fun ls hl => ?_)
    refine lv_goto (tgt := 82) X.1 X.2.1 d_H_init_104 (by decide) ?_
    refine lv_iload_n X.1 X.2.1 d_H_init_82 rfl (lv_at hl 0 rfl) ?_
    refine lv_bipush (v := iI 12) X.1 X.2.1 d_H_init_83 (by decide) ?_
    refine z_icmp_ge (tgt := 107) X.1 X.2.1 d_H_init_85 (by decide) ⟨by omega, by omega⟩ ⟨by omega, by omega⟩ (fun h110 => False.elim (by omega)) (fun h110 => ?_)
    · refine lv_aload_n X.1 X.2.1 d_H_init_88 rfl (lv_at hl 1 rfl) ?_
      refine q_get X.1 X.2.1 X.2.2.1 i_H X.2.2.2.1 X.2.2.2.2 Y m103 e109 rfl 4 (by decide) (X.2.2.1 _ lk_H_42) (fun _ h9 => h9) rfl d_H_init_89 ?_
      refine lv_iload_n X.1 X.2.1 d_H_init_92 rfl (lv_at hl 0 rfl) ?_
      refine t_new (ci := 7) X Y S hA hF0 i_Pr t_Pr t_Pr_ok ck_H_40 mk_Pr ini_Pr rfl (fs := [.null, .null, .int (iI 0), .int (iI 0), .int (iI 0), .null, .null, .null, .null, .int (iI 0), .int (iI 0), .int (iI 0), .int (iI 0)]) (fun j hj => match j, hj with | 0, _ => rfl | 1, _ => rfl | 2, _ => rfl | 3, _ => rfl | 4, _ => rfl | 5, _ => rfl | 6, _ => rfl | 7, _ => rfl | 8, _ => rfl | 9, _ => rfl | 10, _ => rfl | 11, _ => rfl | 12, _ => rfl | n9 + 13, h9 => absurd (show n9 + 13 < 13 from h9) (by omega)) (Nat.le_of_ble_eq_true rfl) (Nat.le_of_ble_eq_true rfl) d_H_init_93 (fun q111 L111 f111 H Y S s111 nl111 m111 r111 e111 nz111 => ?_)
      have k112 : κ96 q1 = (21, 0) := tLe_k s111.2.2.1 k97
      have k113 : κ96 q11 = (13, 4000) := tLe_k s111.2.2.1 k98
      have k114 : κ96 q23 = (13, 12288) := tLe_k s111.2.2.1 k99
      have k115 : κ96 q37 = (13, 40) := tLe_k s111.2.2.1 k100
      have k116 : κ96 q53 = (15, 0) := tLe_k s111.2.2.1 k101
      have e117 : f111 h = .inr (0, [.ref q1, .ref q11, .ref q23, .ref q37, .ref q71, .ref q53, .null, .null, .null]) := (s111.2.2.2 _ ⟨m103, by rw [r104]; decide, by simp⟩).1.trans e109
      have m118 : h ∈ L111 := s111.2.1 _ m103
      have r119 : (κ96 h).1 = 0 := by rw [(s111.2.2.2 _ ⟨m103, by rw [r104]; decide, by simp⟩).2]; exact r104
      have e120 : okP κ96 E.2.2.1 12 1 17 (f111 q71) := okP_le s111.2.2.1 (by rw [(s111.2.2.2 _ ⟨m106, by rw [r107]; decide, by simp⟩).1]; exact o108)
      have m121 : q71 ∈ L111 := s111.2.1 _ m106
      have r122 : (κ96 q71).1 = 0 := by rw [(s111.2.2.2 _ ⟨m106, by rw [r107]; decide, by simp⟩).2]; exact r107
      refine lv_dup X.1 X.2.1 d_H_init_96 rfl ?_
      refine t_mk (x_runIN (As := []) (rest := [.ref q111, .int (iI 1), .ref q71]) (n := 0) X KR hml hl.1 (c_Pr_init l D E T κ96 L111 f111 H.size q111 m111 r111 e111 S.1) (ok_k X Y hA KS KR) (by decide) ks_Pr_init ki_Pr_init ini_Pr rfl ⟨rfl, rfl⟩ hd_Pr_init.2 ⟨Nat.le_of_ble_eq_true rfl, Nat.le_of_ble_eq_true rfl⟩ rfl (Nat.le_of_ble_eq_true rfl) d_H_init_97 ⟨Nat.le_of_ble_eq_true rfl, Nat.le_of_ble_eq_true rfl⟩) X Y hA S (by decide) nl111 (fun κ123 L123 f123 H locs Y S s123 p123 => ?_)
      obtain k123 := p123
      have k124 : κ123 q1 = (21, 0) := tLe_k s123.2.2.1 k112
      have k125 : κ123 q11 = (13, 4000) := tLe_k s123.2.2.1 k113
      have k126 : κ123 q23 = (13, 12288) := tLe_k s123.2.2.1 k114
      have k127 : κ123 q37 = (13, 40) := tLe_k s123.2.2.1 k115
      have k128 : κ123 q53 = (15, 0) := tLe_k s123.2.2.1 k116
      have e129 : f123 h = .inr (0, [.ref q1, .ref q11, .ref q23, .ref q37, .ref q71, .ref q53, .null, .null, .null]) := (s123.2.2.2 _ ⟨m118, by rw [r119]; decide, by simp only [List.mem_singleton]; exact (nz111 _ m103)⟩).1.trans e117
      have m130 : h ∈ L123 := s123.2.1 _ m118
      have r131 : (κ123 h).1 = 0 := by rw [(s123.2.2.2 _ ⟨m118, by rw [r119]; decide, by simp only [List.mem_singleton]; exact (nz111 _ m103)⟩).2]; exact r119
      have e132 : okP κ123 E.2.2.1 12 1 17 (f123 q71) := okP_le s123.2.2.1 (by rw [(s123.2.2.2 _ ⟨m121, by rw [r122]; decide, by simp only [List.mem_singleton]; exact (nz111 _ m106)⟩).1]; exact e120)
      have m133 : q71 ∈ L123 := s123.2.1 _ m121
      have r134 : (κ123 q71).1 = 0 := by rw [(s123.2.2.2 _ ⟨m121, by rw [r122]; decide, by simp only [List.mem_singleton]; exact (nz111 _ m106)⟩).2]; exact r122
      refine t_aast (ci := 7) (r := (R_Pr, F_Pr, 13)) (t0 := 2) X Y S m133 r134 e132 rfl k123 rfl (by omega) (by decide) (by decide) (fun h9 => nl71 h9.1) d_H_init_100 (fun f135 H locs Y S w135 o135 => ?_)
      have e136 : f135 h = .inr (0, [.ref q1, .ref q11, .ref q23, .ref q37, .ref q71, .ref q53, .null, .null, .null]) := (w135 _ (nz71 _ m67)).trans e129
      refine lv_iinc (v := iI 2) (lv' := [(1, .int (iI 2)), (0, .ref h)]) X.1 X.2.1 d_H_init_101 hl (k := 0) rfl (by decide) (by decide) rfl (fun ls hl => ?_)
      refine lv_goto (tgt := 82) X.1 X.2.1 d_H_init_104 (by decide) ?_
      refine lv_iload_n X.1 X.2.1 d_H_init_82 rfl (lv_at hl 0 rfl) ?_
      refine lv_bipush (v := iI 12) X.1 X.2.1 d_H_init_83 (by decide) ?_
      refine z_icmp_ge (tgt := 107) X.1 X.2.1 d_H_init_85 (by decide) ⟨by omega, by omega⟩ ⟨by omega, by omega⟩ (fun h137 => False.elim (by omega)) (fun h137 => ?_)
      · refine lv_aload_n X.1 X.2.1 d_H_init_88 rfl (lv_at hl 1 rfl) ?_
        refine q_get X.1 X.2.1 X.2.2.1 i_H X.2.2.2.1 X.2.2.2.2 Y m130 e136 rfl 4 (by decide) (X.2.2.1 _ lk_H_42) (fun _ h9 => h9) rfl d_H_init_89 ?_
        refine lv_iload_n X.1 X.2.1 d_H_init_92 rfl (lv_at hl 0 rfl) ?_
        refine t_new (ci := 7) X Y S hA hF0 i_Pr t_Pr t_Pr_ok ck_H_40 mk_Pr ini_Pr rfl (fs := [.null, .null, .int (iI 0), .int (iI 0), .int (iI 0), .null, .null, .null, .null, .int (iI 0), .int (iI 0), .int (iI 0), .int (iI 0)]) (fun j hj => match j, hj with | 0, _ => rfl | 1, _ => rfl | 2, _ => rfl | 3, _ => rfl | 4, _ => rfl | 5, _ => rfl | 6, _ => rfl | 7, _ => rfl | 8, _ => rfl | 9, _ => rfl | 10, _ => rfl | 11, _ => rfl | 12, _ => rfl | n9 + 13, h9 => absurd (show n9 + 13 < 13 from h9) (by omega)) (Nat.le_of_ble_eq_true rfl) (Nat.le_of_ble_eq_true rfl) d_H_init_93 (fun q138 L138 f138 H Y S s138 nl138 m138 r138 e138 nz138 => ?_)
        have k139 : κ123 q1 = (21, 0) := tLe_k s138.2.2.1 k124
        have k140 : κ123 q11 = (13, 4000) := tLe_k s138.2.2.1 k125
        have k141 : κ123 q23 = (13, 12288) := tLe_k s138.2.2.1 k126
        have k142 : κ123 q37 = (13, 40) := tLe_k s138.2.2.1 k127
        have k143 : κ123 q53 = (15, 0) := tLe_k s138.2.2.1 k128
        have e144 : f138 h = .inr (0, [.ref q1, .ref q11, .ref q23, .ref q37, .ref q71, .ref q53, .null, .null, .null]) := (s138.2.2.2 _ ⟨m130, by rw [r131]; decide, by simp⟩).1.trans e136
        have m145 : h ∈ L138 := s138.2.1 _ m130
        have r146 : (κ123 h).1 = 0 := by rw [(s138.2.2.2 _ ⟨m130, by rw [r131]; decide, by simp⟩).2]; exact r131
        have e147 : okP κ123 E.2.2.1 12 2 17 (f138 q71) := okP_le s138.2.2.1 (by rw [(s138.2.2.2 _ ⟨m133, by rw [r134]; decide, by simp⟩).1]; exact o135)
        have m148 : q71 ∈ L138 := s138.2.1 _ m133
        have r149 : (κ123 q71).1 = 0 := by rw [(s138.2.2.2 _ ⟨m133, by rw [r134]; decide, by simp⟩).2]; exact r134
        refine lv_dup X.1 X.2.1 d_H_init_96 rfl ?_
        refine t_mk (x_runIN (As := []) (rest := [.ref q138, .int (iI 2), .ref q71]) (n := 0) X KR hml hl.1 (c_Pr_init l D E T κ123 L138 f138 H.size q138 m138 r138 e138 S.1) (ok_k X Y hA KS KR) (by decide) ks_Pr_init ki_Pr_init ini_Pr rfl ⟨rfl, rfl⟩ hd_Pr_init.2 ⟨Nat.le_of_ble_eq_true rfl, Nat.le_of_ble_eq_true rfl⟩ rfl (Nat.le_of_ble_eq_true rfl) d_H_init_97 ⟨Nat.le_of_ble_eq_true rfl, Nat.le_of_ble_eq_true rfl⟩) X Y hA S (by decide) nl138 (fun κ150 L150 f150 H locs Y S s150 p150 => ?_)
        obtain k150 := p150
        have k151 : κ150 q1 = (21, 0) := tLe_k s150.2.2.1 k139
        have k152 : κ150 q11 = (13, 4000) := tLe_k s150.2.2.1 k140
        have k153 : κ150 q23 = (13, 12288) := tLe_k s150.2.2.1 k141
        have k154 : κ150 q37 = (13, 40) := tLe_k s150.2.2.1 k142
        have k155 : κ150 q53 = (15, 0) := tLe_k s150.2.2.1 k143
        have e156 : f150 h = .inr (0, [.ref q1, .ref q11, .ref q23, .ref q37, .ref q71, .ref q53, .null, .null, .null]) := (s150.2.2.2 _ ⟨m145, by rw [r146]; decide, by simp only [List.mem_singleton]; exact (nz138 _ m130)⟩).1.trans e144
        have m157 : h ∈ L150 := s150.2.1 _ m145
        have r158 : (κ150 h).1 = 0 := by rw [(s150.2.2.2 _ ⟨m145, by rw [r146]; decide, by simp only [List.mem_singleton]; exact (nz138 _ m130)⟩).2]; exact r146
        have e159 : okP κ150 E.2.2.1 12 2 17 (f150 q71) := okP_le s150.2.2.1 (by rw [(s150.2.2.2 _ ⟨m148, by rw [r149]; decide, by simp only [List.mem_singleton]; exact (nz138 _ m133)⟩).1]; exact e147)
        have m160 : q71 ∈ L150 := s150.2.1 _ m148
        have r161 : (κ150 q71).1 = 0 := by rw [(s150.2.2.2 _ ⟨m148, by rw [r149]; decide, by simp only [List.mem_singleton]; exact (nz138 _ m133)⟩).2]; exact r149
        refine t_aast (ci := 7) (r := (R_Pr, F_Pr, 13)) (t0 := 2) X Y S m160 r161 e159 rfl k150 rfl (by omega) (by decide) (by decide) (fun h9 => nl71 h9.1) d_H_init_100 (fun f162 H locs Y S w162 o162 => ?_)
        have e163 : f162 h = .inr (0, [.ref q1, .ref q11, .ref q23, .ref q37, .ref q71, .ref q53, .null, .null, .null]) := (w162 _ (nz71 _ m67)).trans e156
        refine lv_iinc (v := iI 3) (lv' := [(1, .int (iI 3)), (0, .ref h)]) X.1 X.2.1 d_H_init_101 hl (k := 0) rfl (by decide) (by decide) rfl (fun ls hl => ?_)
        refine lv_goto (tgt := 82) X.1 X.2.1 d_H_init_104 (by decide) ?_
        refine lv_iload_n X.1 X.2.1 d_H_init_82 rfl (lv_at hl 0 rfl) ?_
        refine lv_bipush (v := iI 12) X.1 X.2.1 d_H_init_83 (by decide) ?_
        refine z_icmp_ge (tgt := 107) X.1 X.2.1 d_H_init_85 (by decide) ⟨by omega, by omega⟩ ⟨by omega, by omega⟩ (fun h164 => False.elim (by omega)) (fun h164 => ?_)
        · refine lv_aload_n X.1 X.2.1 d_H_init_88 rfl (lv_at hl 1 rfl) ?_
          refine q_get X.1 X.2.1 X.2.2.1 i_H X.2.2.2.1 X.2.2.2.2 Y m157 e163 rfl 4 (by decide) (X.2.2.1 _ lk_H_42) (fun _ h9 => h9) rfl d_H_init_89 ?_
          refine lv_iload_n X.1 X.2.1 d_H_init_92 rfl (lv_at hl 0 rfl) ?_
          refine t_new (ci := 7) X Y S hA hF0 i_Pr t_Pr t_Pr_ok ck_H_40 mk_Pr ini_Pr rfl (fs := [.null, .null, .int (iI 0), .int (iI 0), .int (iI 0), .null, .null, .null, .null, .int (iI 0), .int (iI 0), .int (iI 0), .int (iI 0)]) (fun j hj => match j, hj with | 0, _ => rfl | 1, _ => rfl | 2, _ => rfl | 3, _ => rfl | 4, _ => rfl | 5, _ => rfl | 6, _ => rfl | 7, _ => rfl | 8, _ => rfl | 9, _ => rfl | 10, _ => rfl | 11, _ => rfl | 12, _ => rfl | n9 + 13, h9 => absurd (show n9 + 13 < 13 from h9) (by omega)) (Nat.le_of_ble_eq_true rfl) (Nat.le_of_ble_eq_true rfl) d_H_init_93 (fun q165 L165 f165 H Y S s165 nl165 m165 r165 e165 nz165 => ?_)
          have k166 : κ150 q1 = (21, 0) := tLe_k s165.2.2.1 k151
          have k167 : κ150 q11 = (13, 4000) := tLe_k s165.2.2.1 k152
          have k168 : κ150 q23 = (13, 12288) := tLe_k s165.2.2.1 k153
          have k169 : κ150 q37 = (13, 40) := tLe_k s165.2.2.1 k154
          have k170 : κ150 q53 = (15, 0) := tLe_k s165.2.2.1 k155
          have e171 : f165 h = .inr (0, [.ref q1, .ref q11, .ref q23, .ref q37, .ref q71, .ref q53, .null, .null, .null]) := (s165.2.2.2 _ ⟨m157, by rw [r158]; decide, by simp⟩).1.trans e163
          have m172 : h ∈ L165 := s165.2.1 _ m157
          have r173 : (κ150 h).1 = 0 := by rw [(s165.2.2.2 _ ⟨m157, by rw [r158]; decide, by simp⟩).2]; exact r158
          have e174 : okP κ150 E.2.2.1 12 3 17 (f165 q71) := okP_le s165.2.2.1 (by rw [(s165.2.2.2 _ ⟨m160, by rw [r161]; decide, by simp⟩).1]; exact o162)
          have m175 : q71 ∈ L165 := s165.2.1 _ m160
          have r176 : (κ150 q71).1 = 0 := by rw [(s165.2.2.2 _ ⟨m160, by rw [r161]; decide, by simp⟩).2]; exact r161
          refine lv_dup X.1 X.2.1 d_H_init_96 rfl ?_
          refine t_mk (x_runIN (As := []) (rest := [.ref q165, .int (iI 3), .ref q71]) (n := 0) X KR hml hl.1 (c_Pr_init l D E T κ150 L165 f165 H.size q165 m165 r165 e165 S.1) (ok_k X Y hA KS KR) (by decide) ks_Pr_init ki_Pr_init ini_Pr rfl ⟨rfl, rfl⟩ hd_Pr_init.2 ⟨Nat.le_of_ble_eq_true rfl, Nat.le_of_ble_eq_true rfl⟩ rfl (Nat.le_of_ble_eq_true rfl) d_H_init_97 ⟨Nat.le_of_ble_eq_true rfl, Nat.le_of_ble_eq_true rfl⟩) X Y hA S (by decide) nl165 (fun κ177 L177 f177 H locs Y S s177 p177 => ?_)
          obtain k177 := p177
          have k178 : κ177 q1 = (21, 0) := tLe_k s177.2.2.1 k166
          have k179 : κ177 q11 = (13, 4000) := tLe_k s177.2.2.1 k167
          have k180 : κ177 q23 = (13, 12288) := tLe_k s177.2.2.1 k168
          have k181 : κ177 q37 = (13, 40) := tLe_k s177.2.2.1 k169
          have k182 : κ177 q53 = (15, 0) := tLe_k s177.2.2.1 k170
          have e183 : f177 h = .inr (0, [.ref q1, .ref q11, .ref q23, .ref q37, .ref q71, .ref q53, .null, .null, .null]) := (s177.2.2.2 _ ⟨m172, by rw [r173]; decide, by simp only [List.mem_singleton]; exact (nz165 _ m157)⟩).1.trans e171
          have m184 : h ∈ L177 := s177.2.1 _ m172
          have r185 : (κ177 h).1 = 0 := by rw [(s177.2.2.2 _ ⟨m172, by rw [r173]; decide, by simp only [List.mem_singleton]; exact (nz165 _ m157)⟩).2]; exact r173
          have e186 : okP κ177 E.2.2.1 12 3 17 (f177 q71) := okP_le s177.2.2.1 (by rw [(s177.2.2.2 _ ⟨m175, by rw [r176]; decide, by simp only [List.mem_singleton]; exact (nz165 _ m160)⟩).1]; exact e174)
          have m187 : q71 ∈ L177 := s177.2.1 _ m175
          have r188 : (κ177 q71).1 = 0 := by rw [(s177.2.2.2 _ ⟨m175, by rw [r176]; decide, by simp only [List.mem_singleton]; exact (nz165 _ m160)⟩).2]; exact r176
          refine t_aast (ci := 7) (r := (R_Pr, F_Pr, 13)) (t0 := 2) X Y S m187 r188 e186 rfl k177 rfl (by omega) (by decide) (by decide) (fun h9 => nl71 h9.1) d_H_init_100 (fun f189 H locs Y S w189 o189 => ?_)
          have e190 : f189 h = .inr (0, [.ref q1, .ref q11, .ref q23, .ref q37, .ref q71, .ref q53, .null, .null, .null]) := (w189 _ (nz71 _ m67)).trans e183
          refine lv_iinc (v := iI 4) (lv' := [(1, .int (iI 4)), (0, .ref h)]) X.1 X.2.1 d_H_init_101 hl (k := 0) rfl (by decide) (by decide) rfl (fun ls hl => ?_)
          refine lv_goto (tgt := 82) X.1 X.2.1 d_H_init_104 (by decide) ?_
          refine lv_iload_n X.1 X.2.1 d_H_init_82 rfl (lv_at hl 0 rfl) ?_
          refine lv_bipush (v := iI 12) X.1 X.2.1 d_H_init_83 (by decide) ?_
          refine z_icmp_ge (tgt := 107) X.1 X.2.1 d_H_init_85 (by decide) ⟨by omega, by omega⟩ ⟨by omega, by omega⟩ (fun h191 => False.elim (by omega)) (fun h191 => ?_)
          · refine lv_aload_n X.1 X.2.1 d_H_init_88 rfl (lv_at hl 1 rfl) ?_
            refine q_get X.1 X.2.1 X.2.2.1 i_H X.2.2.2.1 X.2.2.2.2 Y m184 e190 rfl 4 (by decide) (X.2.2.1 _ lk_H_42) (fun _ h9 => h9) rfl d_H_init_89 ?_
            refine lv_iload_n X.1 X.2.1 d_H_init_92 rfl (lv_at hl 0 rfl) ?_
            refine t_new (ci := 7) X Y S hA hF0 i_Pr t_Pr t_Pr_ok ck_H_40 mk_Pr ini_Pr rfl (fs := [.null, .null, .int (iI 0), .int (iI 0), .int (iI 0), .null, .null, .null, .null, .int (iI 0), .int (iI 0), .int (iI 0), .int (iI 0)]) (fun j hj => match j, hj with | 0, _ => rfl | 1, _ => rfl | 2, _ => rfl | 3, _ => rfl | 4, _ => rfl | 5, _ => rfl | 6, _ => rfl | 7, _ => rfl | 8, _ => rfl | 9, _ => rfl | 10, _ => rfl | 11, _ => rfl | 12, _ => rfl | n9 + 13, h9 => absurd (show n9 + 13 < 13 from h9) (by omega)) (Nat.le_of_ble_eq_true rfl) (Nat.le_of_ble_eq_true rfl) d_H_init_93 (fun q192 L192 f192 H Y S s192 nl192 m192 r192 e192 nz192 => ?_)
            have k193 : κ177 q1 = (21, 0) := tLe_k s192.2.2.1 k178
            have k194 : κ177 q11 = (13, 4000) := tLe_k s192.2.2.1 k179
            have k195 : κ177 q23 = (13, 12288) := tLe_k s192.2.2.1 k180
            have k196 : κ177 q37 = (13, 40) := tLe_k s192.2.2.1 k181
            have k197 : κ177 q53 = (15, 0) := tLe_k s192.2.2.1 k182
            have e198 : f192 h = .inr (0, [.ref q1, .ref q11, .ref q23, .ref q37, .ref q71, .ref q53, .null, .null, .null]) := (s192.2.2.2 _ ⟨m184, by rw [r185]; decide, by simp⟩).1.trans e190
            have m199 : h ∈ L192 := s192.2.1 _ m184
            have r200 : (κ177 h).1 = 0 := by rw [(s192.2.2.2 _ ⟨m184, by rw [r185]; decide, by simp⟩).2]; exact r185
            have e201 : okP κ177 E.2.2.1 12 4 17 (f192 q71) := okP_le s192.2.2.1 (by rw [(s192.2.2.2 _ ⟨m187, by rw [r188]; decide, by simp⟩).1]; exact o189)
            have m202 : q71 ∈ L192 := s192.2.1 _ m187
            have r203 : (κ177 q71).1 = 0 := by rw [(s192.2.2.2 _ ⟨m187, by rw [r188]; decide, by simp⟩).2]; exact r188
            refine lv_dup X.1 X.2.1 d_H_init_96 rfl ?_
            refine t_mk (x_runIN (As := []) (rest := [.ref q192, .int (iI 4), .ref q71]) (n := 0) X KR hml hl.1 (c_Pr_init l D E T κ177 L192 f192 H.size q192 m192 r192 e192 S.1) (ok_k X Y hA KS KR) (by decide) ks_Pr_init ki_Pr_init ini_Pr rfl ⟨rfl, rfl⟩ hd_Pr_init.2 ⟨Nat.le_of_ble_eq_true rfl, Nat.le_of_ble_eq_true rfl⟩ rfl (Nat.le_of_ble_eq_true rfl) d_H_init_97 ⟨Nat.le_of_ble_eq_true rfl, Nat.le_of_ble_eq_true rfl⟩) X Y hA S (by decide) nl192 (fun κ204 L204 f204 H locs Y S s204 p204 => ?_)
            obtain k204 := p204
            have k205 : κ204 q1 = (21, 0) := tLe_k s204.2.2.1 k193
            have k206 : κ204 q11 = (13, 4000) := tLe_k s204.2.2.1 k194
            have k207 : κ204 q23 = (13, 12288) := tLe_k s204.2.2.1 k195
            have k208 : κ204 q37 = (13, 40) := tLe_k s204.2.2.1 k196
            have k209 : κ204 q53 = (15, 0) := tLe_k s204.2.2.1 k197
            have e210 : f204 h = .inr (0, [.ref q1, .ref q11, .ref q23, .ref q37, .ref q71, .ref q53, .null, .null, .null]) := (s204.2.2.2 _ ⟨m199, by rw [r200]; decide, by simp only [List.mem_singleton]; exact (nz192 _ m184)⟩).1.trans e198
            have m211 : h ∈ L204 := s204.2.1 _ m199
            have r212 : (κ204 h).1 = 0 := by rw [(s204.2.2.2 _ ⟨m199, by rw [r200]; decide, by simp only [List.mem_singleton]; exact (nz192 _ m184)⟩).2]; exact r200
            have e213 : okP κ204 E.2.2.1 12 4 17 (f204 q71) := okP_le s204.2.2.1 (by rw [(s204.2.2.2 _ ⟨m202, by rw [r203]; decide, by simp only [List.mem_singleton]; exact (nz192 _ m187)⟩).1]; exact e201)
            have m214 : q71 ∈ L204 := s204.2.1 _ m202
            have r215 : (κ204 q71).1 = 0 := by rw [(s204.2.2.2 _ ⟨m202, by rw [r203]; decide, by simp only [List.mem_singleton]; exact (nz192 _ m187)⟩).2]; exact r203
            refine t_aast (ci := 7) (r := (R_Pr, F_Pr, 13)) (t0 := 2) X Y S m214 r215 e213 rfl k204 rfl (by omega) (by decide) (by decide) (fun h9 => nl71 h9.1) d_H_init_100 (fun f216 H locs Y S w216 o216 => ?_)
            have e217 : f216 h = .inr (0, [.ref q1, .ref q11, .ref q23, .ref q37, .ref q71, .ref q53, .null, .null, .null]) := (w216 _ (nz71 _ m67)).trans e210
            refine lv_iinc (v := iI 5) (lv' := [(1, .int (iI 5)), (0, .ref h)]) X.1 X.2.1 d_H_init_101 hl (k := 0) rfl (by decide) (by decide) rfl (fun ls hl => ?_)
            refine lv_goto (tgt := 82) X.1 X.2.1 d_H_init_104 (by decide) ?_
            refine lv_iload_n X.1 X.2.1 d_H_init_82 rfl (lv_at hl 0 rfl) ?_
            refine lv_bipush (v := iI 12) X.1 X.2.1 d_H_init_83 (by decide) ?_
            refine z_icmp_ge (tgt := 107) X.1 X.2.1 d_H_init_85 (by decide) ⟨by omega, by omega⟩ ⟨by omega, by omega⟩ (fun h218 => False.elim (by omega)) (fun h218 => ?_)
            · refine lv_aload_n X.1 X.2.1 d_H_init_88 rfl (lv_at hl 1 rfl) ?_
              refine q_get X.1 X.2.1 X.2.2.1 i_H X.2.2.2.1 X.2.2.2.2 Y m211 e217 rfl 4 (by decide) (X.2.2.1 _ lk_H_42) (fun _ h9 => h9) rfl d_H_init_89 ?_
              refine lv_iload_n X.1 X.2.1 d_H_init_92 rfl (lv_at hl 0 rfl) ?_
              refine t_new (ci := 7) X Y S hA hF0 i_Pr t_Pr t_Pr_ok ck_H_40 mk_Pr ini_Pr rfl (fs := [.null, .null, .int (iI 0), .int (iI 0), .int (iI 0), .null, .null, .null, .null, .int (iI 0), .int (iI 0), .int (iI 0), .int (iI 0)]) (fun j hj => match j, hj with | 0, _ => rfl | 1, _ => rfl | 2, _ => rfl | 3, _ => rfl | 4, _ => rfl | 5, _ => rfl | 6, _ => rfl | 7, _ => rfl | 8, _ => rfl | 9, _ => rfl | 10, _ => rfl | 11, _ => rfl | 12, _ => rfl | n9 + 13, h9 => absurd (show n9 + 13 < 13 from h9) (by omega)) (Nat.le_of_ble_eq_true rfl) (Nat.le_of_ble_eq_true rfl) d_H_init_93 (fun q219 L219 f219 H Y S s219 nl219 m219 r219 e219 nz219 => ?_)
              have k220 : κ204 q1 = (21, 0) := tLe_k s219.2.2.1 k205
              have k221 : κ204 q11 = (13, 4000) := tLe_k s219.2.2.1 k206
              have k222 : κ204 q23 = (13, 12288) := tLe_k s219.2.2.1 k207
              have k223 : κ204 q37 = (13, 40) := tLe_k s219.2.2.1 k208
              have k224 : κ204 q53 = (15, 0) := tLe_k s219.2.2.1 k209
              have e225 : f219 h = .inr (0, [.ref q1, .ref q11, .ref q23, .ref q37, .ref q71, .ref q53, .null, .null, .null]) := (s219.2.2.2 _ ⟨m211, by rw [r212]; decide, by simp⟩).1.trans e217
              have m226 : h ∈ L219 := s219.2.1 _ m211
              have r227 : (κ204 h).1 = 0 := by rw [(s219.2.2.2 _ ⟨m211, by rw [r212]; decide, by simp⟩).2]; exact r212
              have e228 : okP κ204 E.2.2.1 12 5 17 (f219 q71) := okP_le s219.2.2.1 (by rw [(s219.2.2.2 _ ⟨m214, by rw [r215]; decide, by simp⟩).1]; exact o216)
              have m229 : q71 ∈ L219 := s219.2.1 _ m214
              have r230 : (κ204 q71).1 = 0 := by rw [(s219.2.2.2 _ ⟨m214, by rw [r215]; decide, by simp⟩).2]; exact r215
              refine lv_dup X.1 X.2.1 d_H_init_96 rfl ?_
              refine t_mk (x_runIN (As := []) (rest := [.ref q219, .int (iI 5), .ref q71]) (n := 0) X KR hml hl.1 (c_Pr_init l D E T κ204 L219 f219 H.size q219 m219 r219 e219 S.1) (ok_k X Y hA KS KR) (by decide) ks_Pr_init ki_Pr_init ini_Pr rfl ⟨rfl, rfl⟩ hd_Pr_init.2 ⟨Nat.le_of_ble_eq_true rfl, Nat.le_of_ble_eq_true rfl⟩ rfl (Nat.le_of_ble_eq_true rfl) d_H_init_97 ⟨Nat.le_of_ble_eq_true rfl, Nat.le_of_ble_eq_true rfl⟩) X Y hA S (by decide) nl219 (fun κ231 L231 f231 H locs Y S s231 p231 => ?_)
              obtain k231 := p231
              have k232 : κ231 q1 = (21, 0) := tLe_k s231.2.2.1 k220
              have k233 : κ231 q11 = (13, 4000) := tLe_k s231.2.2.1 k221
              have k234 : κ231 q23 = (13, 12288) := tLe_k s231.2.2.1 k222
              have k235 : κ231 q37 = (13, 40) := tLe_k s231.2.2.1 k223
              have k236 : κ231 q53 = (15, 0) := tLe_k s231.2.2.1 k224
              have e237 : f231 h = .inr (0, [.ref q1, .ref q11, .ref q23, .ref q37, .ref q71, .ref q53, .null, .null, .null]) := (s231.2.2.2 _ ⟨m226, by rw [r227]; decide, by simp only [List.mem_singleton]; exact (nz219 _ m211)⟩).1.trans e225
              have m238 : h ∈ L231 := s231.2.1 _ m226
              have r239 : (κ231 h).1 = 0 := by rw [(s231.2.2.2 _ ⟨m226, by rw [r227]; decide, by simp only [List.mem_singleton]; exact (nz219 _ m211)⟩).2]; exact r227
              have e240 : okP κ231 E.2.2.1 12 5 17 (f231 q71) := okP_le s231.2.2.1 (by rw [(s231.2.2.2 _ ⟨m229, by rw [r230]; decide, by simp only [List.mem_singleton]; exact (nz219 _ m214)⟩).1]; exact e228)
              have m241 : q71 ∈ L231 := s231.2.1 _ m229
              have r242 : (κ231 q71).1 = 0 := by rw [(s231.2.2.2 _ ⟨m229, by rw [r230]; decide, by simp only [List.mem_singleton]; exact (nz219 _ m214)⟩).2]; exact r230
              refine t_aast (ci := 7) (r := (R_Pr, F_Pr, 13)) (t0 := 2) X Y S m241 r242 e240 rfl k231 rfl (by omega) (by decide) (by decide) (fun h9 => nl71 h9.1) d_H_init_100 (fun f243 H locs Y S w243 o243 => ?_)
              have e244 : f243 h = .inr (0, [.ref q1, .ref q11, .ref q23, .ref q37, .ref q71, .ref q53, .null, .null, .null]) := (w243 _ (nz71 _ m67)).trans e237
              refine lv_iinc (v := iI 6) (lv' := [(1, .int (iI 6)), (0, .ref h)]) X.1 X.2.1 d_H_init_101 hl (k := 0) rfl (by decide) (by decide) rfl (fun ls hl => ?_)
              refine lv_goto (tgt := 82) X.1 X.2.1 d_H_init_104 (by decide) ?_
              refine lv_iload_n X.1 X.2.1 d_H_init_82 rfl (lv_at hl 0 rfl) ?_
              refine lv_bipush (v := iI 12) X.1 X.2.1 d_H_init_83 (by decide) ?_
              refine z_icmp_ge (tgt := 107) X.1 X.2.1 d_H_init_85 (by decide) ⟨by omega, by omega⟩ ⟨by omega, by omega⟩ (fun h245 => False.elim (by omega)) (fun h245 => ?_)
              · refine lv_aload_n X.1 X.2.1 d_H_init_88 rfl (lv_at hl 1 rfl) ?_
                refine q_get X.1 X.2.1 X.2.2.1 i_H X.2.2.2.1 X.2.2.2.2 Y m238 e244 rfl 4 (by decide) (X.2.2.1 _ lk_H_42) (fun _ h9 => h9) rfl d_H_init_89 ?_
                refine lv_iload_n X.1 X.2.1 d_H_init_92 rfl (lv_at hl 0 rfl) ?_
                refine t_new (ci := 7) X Y S hA hF0 i_Pr t_Pr t_Pr_ok ck_H_40 mk_Pr ini_Pr rfl (fs := [.null, .null, .int (iI 0), .int (iI 0), .int (iI 0), .null, .null, .null, .null, .int (iI 0), .int (iI 0), .int (iI 0), .int (iI 0)]) (fun j hj => match j, hj with | 0, _ => rfl | 1, _ => rfl | 2, _ => rfl | 3, _ => rfl | 4, _ => rfl | 5, _ => rfl | 6, _ => rfl | 7, _ => rfl | 8, _ => rfl | 9, _ => rfl | 10, _ => rfl | 11, _ => rfl | 12, _ => rfl | n9 + 13, h9 => absurd (show n9 + 13 < 13 from h9) (by omega)) (Nat.le_of_ble_eq_true rfl) (Nat.le_of_ble_eq_true rfl) d_H_init_93 (fun q246 L246 f246 H Y S s246 nl246 m246 r246 e246 nz246 => ?_)
                have k247 : κ231 q1 = (21, 0) := tLe_k s246.2.2.1 k232
                have k248 : κ231 q11 = (13, 4000) := tLe_k s246.2.2.1 k233
                have k249 : κ231 q23 = (13, 12288) := tLe_k s246.2.2.1 k234
                have k250 : κ231 q37 = (13, 40) := tLe_k s246.2.2.1 k235
                have k251 : κ231 q53 = (15, 0) := tLe_k s246.2.2.1 k236
                have e252 : f246 h = .inr (0, [.ref q1, .ref q11, .ref q23, .ref q37, .ref q71, .ref q53, .null, .null, .null]) := (s246.2.2.2 _ ⟨m238, by rw [r239]; decide, by simp⟩).1.trans e244
                have m253 : h ∈ L246 := s246.2.1 _ m238
                have r254 : (κ231 h).1 = 0 := by rw [(s246.2.2.2 _ ⟨m238, by rw [r239]; decide, by simp⟩).2]; exact r239
                have e255 : okP κ231 E.2.2.1 12 6 17 (f246 q71) := okP_le s246.2.2.1 (by rw [(s246.2.2.2 _ ⟨m241, by rw [r242]; decide, by simp⟩).1]; exact o243)
                have m256 : q71 ∈ L246 := s246.2.1 _ m241
                have r257 : (κ231 q71).1 = 0 := by rw [(s246.2.2.2 _ ⟨m241, by rw [r242]; decide, by simp⟩).2]; exact r242
                refine lv_dup X.1 X.2.1 d_H_init_96 rfl ?_
                refine t_mk (x_runIN (As := []) (rest := [.ref q246, .int (iI 6), .ref q71]) (n := 0) X KR hml hl.1 (c_Pr_init l D E T κ231 L246 f246 H.size q246 m246 r246 e246 S.1) (ok_k X Y hA KS KR) (by decide) ks_Pr_init ki_Pr_init ini_Pr rfl ⟨rfl, rfl⟩ hd_Pr_init.2 ⟨Nat.le_of_ble_eq_true rfl, Nat.le_of_ble_eq_true rfl⟩ rfl (Nat.le_of_ble_eq_true rfl) d_H_init_97 ⟨Nat.le_of_ble_eq_true rfl, Nat.le_of_ble_eq_true rfl⟩) X Y hA S (by decide) nl246 (fun κ258 L258 f258 H locs Y S s258 p258 => ?_)
                obtain k258 := p258
                have k259 : κ258 q1 = (21, 0) := tLe_k s258.2.2.1 k247
                have k260 : κ258 q11 = (13, 4000) := tLe_k s258.2.2.1 k248
                have k261 : κ258 q23 = (13, 12288) := tLe_k s258.2.2.1 k249
                have k262 : κ258 q37 = (13, 40) := tLe_k s258.2.2.1 k250
                have k263 : κ258 q53 = (15, 0) := tLe_k s258.2.2.1 k251
                have e264 : f258 h = .inr (0, [.ref q1, .ref q11, .ref q23, .ref q37, .ref q71, .ref q53, .null, .null, .null]) := (s258.2.2.2 _ ⟨m253, by rw [r254]; decide, by simp only [List.mem_singleton]; exact (nz246 _ m238)⟩).1.trans e252
                have m265 : h ∈ L258 := s258.2.1 _ m253
                have r266 : (κ258 h).1 = 0 := by rw [(s258.2.2.2 _ ⟨m253, by rw [r254]; decide, by simp only [List.mem_singleton]; exact (nz246 _ m238)⟩).2]; exact r254
                have e267 : okP κ258 E.2.2.1 12 6 17 (f258 q71) := okP_le s258.2.2.1 (by rw [(s258.2.2.2 _ ⟨m256, by rw [r257]; decide, by simp only [List.mem_singleton]; exact (nz246 _ m241)⟩).1]; exact e255)
                have m268 : q71 ∈ L258 := s258.2.1 _ m256
                have r269 : (κ258 q71).1 = 0 := by rw [(s258.2.2.2 _ ⟨m256, by rw [r257]; decide, by simp only [List.mem_singleton]; exact (nz246 _ m241)⟩).2]; exact r257
                refine t_aast (ci := 7) (r := (R_Pr, F_Pr, 13)) (t0 := 2) X Y S m268 r269 e267 rfl k258 rfl (by omega) (by decide) (by decide) (fun h9 => nl71 h9.1) d_H_init_100 (fun f270 H locs Y S w270 o270 => ?_)
                have e271 : f270 h = .inr (0, [.ref q1, .ref q11, .ref q23, .ref q37, .ref q71, .ref q53, .null, .null, .null]) := (w270 _ (nz71 _ m67)).trans e264
                refine lv_iinc (v := iI 7) (lv' := [(1, .int (iI 7)), (0, .ref h)]) X.1 X.2.1 d_H_init_101 hl (k := 0) rfl (by decide) (by decide) rfl (fun ls hl => ?_)
                refine lv_goto (tgt := 82) X.1 X.2.1 d_H_init_104 (by decide) ?_
                refine lv_iload_n X.1 X.2.1 d_H_init_82 rfl (lv_at hl 0 rfl) ?_
                refine lv_bipush (v := iI 12) X.1 X.2.1 d_H_init_83 (by decide) ?_
                refine z_icmp_ge (tgt := 107) X.1 X.2.1 d_H_init_85 (by decide) ⟨by omega, by omega⟩ ⟨by omega, by omega⟩ (fun h272 => False.elim (by omega)) (fun h272 => ?_)
                · refine lv_aload_n X.1 X.2.1 d_H_init_88 rfl (lv_at hl 1 rfl) ?_
                  refine q_get X.1 X.2.1 X.2.2.1 i_H X.2.2.2.1 X.2.2.2.2 Y m265 e271 rfl 4 (by decide) (X.2.2.1 _ lk_H_42) (fun _ h9 => h9) rfl d_H_init_89 ?_
                  refine lv_iload_n X.1 X.2.1 d_H_init_92 rfl (lv_at hl 0 rfl) ?_
                  refine t_new (ci := 7) X Y S hA hF0 i_Pr t_Pr t_Pr_ok ck_H_40 mk_Pr ini_Pr rfl (fs := [.null, .null, .int (iI 0), .int (iI 0), .int (iI 0), .null, .null, .null, .null, .int (iI 0), .int (iI 0), .int (iI 0), .int (iI 0)]) (fun j hj => match j, hj with | 0, _ => rfl | 1, _ => rfl | 2, _ => rfl | 3, _ => rfl | 4, _ => rfl | 5, _ => rfl | 6, _ => rfl | 7, _ => rfl | 8, _ => rfl | 9, _ => rfl | 10, _ => rfl | 11, _ => rfl | 12, _ => rfl | n9 + 13, h9 => absurd (show n9 + 13 < 13 from h9) (by omega)) (Nat.le_of_ble_eq_true rfl) (Nat.le_of_ble_eq_true rfl) d_H_init_93 (fun q273 L273 f273 H Y S s273 nl273 m273 r273 e273 nz273 => ?_)
                  have k274 : κ258 q1 = (21, 0) := tLe_k s273.2.2.1 k259
                  have k275 : κ258 q11 = (13, 4000) := tLe_k s273.2.2.1 k260
                  have k276 : κ258 q23 = (13, 12288) := tLe_k s273.2.2.1 k261
                  have k277 : κ258 q37 = (13, 40) := tLe_k s273.2.2.1 k262
                  have k278 : κ258 q53 = (15, 0) := tLe_k s273.2.2.1 k263
                  have e279 : f273 h = .inr (0, [.ref q1, .ref q11, .ref q23, .ref q37, .ref q71, .ref q53, .null, .null, .null]) := (s273.2.2.2 _ ⟨m265, by rw [r266]; decide, by simp⟩).1.trans e271
                  have m280 : h ∈ L273 := s273.2.1 _ m265
                  have r281 : (κ258 h).1 = 0 := by rw [(s273.2.2.2 _ ⟨m265, by rw [r266]; decide, by simp⟩).2]; exact r266
                  have e282 : okP κ258 E.2.2.1 12 7 17 (f273 q71) := okP_le s273.2.2.1 (by rw [(s273.2.2.2 _ ⟨m268, by rw [r269]; decide, by simp⟩).1]; exact o270)
                  have m283 : q71 ∈ L273 := s273.2.1 _ m268
                  have r284 : (κ258 q71).1 = 0 := by rw [(s273.2.2.2 _ ⟨m268, by rw [r269]; decide, by simp⟩).2]; exact r269
                  refine lv_dup X.1 X.2.1 d_H_init_96 rfl ?_
                  refine t_mk (x_runIN (As := []) (rest := [.ref q273, .int (iI 7), .ref q71]) (n := 0) X KR hml hl.1 (c_Pr_init l D E T κ258 L273 f273 H.size q273 m273 r273 e273 S.1) (ok_k X Y hA KS KR) (by decide) ks_Pr_init ki_Pr_init ini_Pr rfl ⟨rfl, rfl⟩ hd_Pr_init.2 ⟨Nat.le_of_ble_eq_true rfl, Nat.le_of_ble_eq_true rfl⟩ rfl (Nat.le_of_ble_eq_true rfl) d_H_init_97 ⟨Nat.le_of_ble_eq_true rfl, Nat.le_of_ble_eq_true rfl⟩) X Y hA S (by decide) nl273 (fun κ285 L285 f285 H locs Y S s285 p285 => ?_)
                  obtain k285 := p285
                  have k286 : κ285 q1 = (21, 0) := tLe_k s285.2.2.1 k274
                  have k287 : κ285 q11 = (13, 4000) := tLe_k s285.2.2.1 k275
                  have k288 : κ285 q23 = (13, 12288) := tLe_k s285.2.2.1 k276
                  have k289 : κ285 q37 = (13, 40) := tLe_k s285.2.2.1 k277
                  have k290 : κ285 q53 = (15, 0) := tLe_k s285.2.2.1 k278
                  have e291 : f285 h = .inr (0, [.ref q1, .ref q11, .ref q23, .ref q37, .ref q71, .ref q53, .null, .null, .null]) := (s285.2.2.2 _ ⟨m280, by rw [r281]; decide, by simp only [List.mem_singleton]; exact (nz273 _ m265)⟩).1.trans e279
                  have m292 : h ∈ L285 := s285.2.1 _ m280
                  have r293 : (κ285 h).1 = 0 := by rw [(s285.2.2.2 _ ⟨m280, by rw [r281]; decide, by simp only [List.mem_singleton]; exact (nz273 _ m265)⟩).2]; exact r281
                  have e294 : okP κ285 E.2.2.1 12 7 17 (f285 q71) := okP_le s285.2.2.1 (by rw [(s285.2.2.2 _ ⟨m283, by rw [r284]; decide, by simp only [List.mem_singleton]; exact (nz273 _ m268)⟩).1]; exact e282)
                  have m295 : q71 ∈ L285 := s285.2.1 _ m283
                  have r296 : (κ285 q71).1 = 0 := by rw [(s285.2.2.2 _ ⟨m283, by rw [r284]; decide, by simp only [List.mem_singleton]; exact (nz273 _ m268)⟩).2]; exact r284
                  refine t_aast (ci := 7) (r := (R_Pr, F_Pr, 13)) (t0 := 2) X Y S m295 r296 e294 rfl k285 rfl (by omega) (by decide) (by decide) (fun h9 => nl71 h9.1) d_H_init_100 (fun f297 H locs Y S w297 o297 => ?_)
                  have e298 : f297 h = .inr (0, [.ref q1, .ref q11, .ref q23, .ref q37, .ref q71, .ref q53, .null, .null, .null]) := (w297 _ (nz71 _ m67)).trans e291
                  refine lv_iinc (v := iI 8) (lv' := [(1, .int (iI 8)), (0, .ref h)]) X.1 X.2.1 d_H_init_101 hl (k := 0) rfl (by decide) (by decide) rfl (fun ls hl => ?_)
                  refine lv_goto (tgt := 82) X.1 X.2.1 d_H_init_104 (by decide) ?_
                  refine lv_iload_n X.1 X.2.1 d_H_init_82 rfl (lv_at hl 0 rfl) ?_
                  refine lv_bipush (v := iI 12) X.1 X.2.1 d_H_init_83 (by decide) ?_
                  refine z_icmp_ge (tgt := 107) X.1 X.2.1 d_H_init_85 (by decide) ⟨by omega, by omega⟩ ⟨by omega, by omega⟩ (fun h299 => False.elim (by omega)) (fun h299 => ?_)
                  · refine lv_aload_n X.1 X.2.1 d_H_init_88 rfl (lv_at hl 1 rfl) ?_
                    refine q_get X.1 X.2.1 X.2.2.1 i_H X.2.2.2.1 X.2.2.2.2 Y m292 e298 rfl 4 (by decide) (X.2.2.1 _ lk_H_42) (fun _ h9 => h9) rfl d_H_init_89 ?_
                    refine lv_iload_n X.1 X.2.1 d_H_init_92 rfl (lv_at hl 0 rfl) ?_
                    refine t_new (ci := 7) X Y S hA hF0 i_Pr t_Pr t_Pr_ok ck_H_40 mk_Pr ini_Pr rfl (fs := [.null, .null, .int (iI 0), .int (iI 0), .int (iI 0), .null, .null, .null, .null, .int (iI 0), .int (iI 0), .int (iI 0), .int (iI 0)]) (fun j hj => match j, hj with | 0, _ => rfl | 1, _ => rfl | 2, _ => rfl | 3, _ => rfl | 4, _ => rfl | 5, _ => rfl | 6, _ => rfl | 7, _ => rfl | 8, _ => rfl | 9, _ => rfl | 10, _ => rfl | 11, _ => rfl | 12, _ => rfl | n9 + 13, h9 => absurd (show n9 + 13 < 13 from h9) (by omega)) (Nat.le_of_ble_eq_true rfl) (Nat.le_of_ble_eq_true rfl) d_H_init_93 (fun q300 L300 f300 H Y S s300 nl300 m300 r300 e300 nz300 => ?_)
                    have k301 : κ285 q1 = (21, 0) := tLe_k s300.2.2.1 k286
                    have k302 : κ285 q11 = (13, 4000) := tLe_k s300.2.2.1 k287
                    have k303 : κ285 q23 = (13, 12288) := tLe_k s300.2.2.1 k288
                    have k304 : κ285 q37 = (13, 40) := tLe_k s300.2.2.1 k289
                    have k305 : κ285 q53 = (15, 0) := tLe_k s300.2.2.1 k290
                    have e306 : f300 h = .inr (0, [.ref q1, .ref q11, .ref q23, .ref q37, .ref q71, .ref q53, .null, .null, .null]) := (s300.2.2.2 _ ⟨m292, by rw [r293]; decide, by simp⟩).1.trans e298
                    have m307 : h ∈ L300 := s300.2.1 _ m292
                    have r308 : (κ285 h).1 = 0 := by rw [(s300.2.2.2 _ ⟨m292, by rw [r293]; decide, by simp⟩).2]; exact r293
                    have e309 : okP κ285 E.2.2.1 12 8 17 (f300 q71) := okP_le s300.2.2.1 (by rw [(s300.2.2.2 _ ⟨m295, by rw [r296]; decide, by simp⟩).1]; exact o297)
                    have m310 : q71 ∈ L300 := s300.2.1 _ m295
                    have r311 : (κ285 q71).1 = 0 := by rw [(s300.2.2.2 _ ⟨m295, by rw [r296]; decide, by simp⟩).2]; exact r296
                    refine lv_dup X.1 X.2.1 d_H_init_96 rfl ?_
                    refine t_mk (x_runIN (As := []) (rest := [.ref q300, .int (iI 8), .ref q71]) (n := 0) X KR hml hl.1 (c_Pr_init l D E T κ285 L300 f300 H.size q300 m300 r300 e300 S.1) (ok_k X Y hA KS KR) (by decide) ks_Pr_init ki_Pr_init ini_Pr rfl ⟨rfl, rfl⟩ hd_Pr_init.2 ⟨Nat.le_of_ble_eq_true rfl, Nat.le_of_ble_eq_true rfl⟩ rfl (Nat.le_of_ble_eq_true rfl) d_H_init_97 ⟨Nat.le_of_ble_eq_true rfl, Nat.le_of_ble_eq_true rfl⟩) X Y hA S (by decide) nl300 (fun κ312 L312 f312 H locs Y S s312 p312 => ?_)
                    obtain k312 := p312
                    have k313 : κ312 q1 = (21, 0) := tLe_k s312.2.2.1 k301
                    have k314 : κ312 q11 = (13, 4000) := tLe_k s312.2.2.1 k302
                    have k315 : κ312 q23 = (13, 12288) := tLe_k s312.2.2.1 k303
                    have k316 : κ312 q37 = (13, 40) := tLe_k s312.2.2.1 k304
                    have k317 : κ312 q53 = (15, 0) := tLe_k s312.2.2.1 k305
                    have e318 : f312 h = .inr (0, [.ref q1, .ref q11, .ref q23, .ref q37, .ref q71, .ref q53, .null, .null, .null]) := (s312.2.2.2 _ ⟨m307, by rw [r308]; decide, by simp only [List.mem_singleton]; exact (nz300 _ m292)⟩).1.trans e306
                    have m319 : h ∈ L312 := s312.2.1 _ m307
                    have r320 : (κ312 h).1 = 0 := by rw [(s312.2.2.2 _ ⟨m307, by rw [r308]; decide, by simp only [List.mem_singleton]; exact (nz300 _ m292)⟩).2]; exact r308
                    have e321 : okP κ312 E.2.2.1 12 8 17 (f312 q71) := okP_le s312.2.2.1 (by rw [(s312.2.2.2 _ ⟨m310, by rw [r311]; decide, by simp only [List.mem_singleton]; exact (nz300 _ m295)⟩).1]; exact e309)
                    have m322 : q71 ∈ L312 := s312.2.1 _ m310
                    have r323 : (κ312 q71).1 = 0 := by rw [(s312.2.2.2 _ ⟨m310, by rw [r311]; decide, by simp only [List.mem_singleton]; exact (nz300 _ m295)⟩).2]; exact r311
                    refine t_aast (ci := 7) (r := (R_Pr, F_Pr, 13)) (t0 := 2) X Y S m322 r323 e321 rfl k312 rfl (by omega) (by decide) (by decide) (fun h9 => nl71 h9.1) d_H_init_100 (fun f324 H locs Y S w324 o324 => ?_)
                    have e325 : f324 h = .inr (0, [.ref q1, .ref q11, .ref q23, .ref q37, .ref q71, .ref q53, .null, .null, .null]) := (w324 _ (nz71 _ m67)).trans e318
                    refine lv_iinc (v := iI 9) (lv' := [(1, .int (iI 9)), (0, .ref h)]) X.1 X.2.1 d_H_init_101 hl (k := 0) rfl (by decide) (by decide) rfl (fun ls hl => ?_)
                    refine lv_goto (tgt := 82) X.1 X.2.1 d_H_init_104 (by decide) ?_
                    refine lv_iload_n X.1 X.2.1 d_H_init_82 rfl (lv_at hl 0 rfl) ?_
                    refine lv_bipush (v := iI 12) X.1 X.2.1 d_H_init_83 (by decide) ?_
                    refine z_icmp_ge (tgt := 107) X.1 X.2.1 d_H_init_85 (by decide) ⟨by omega, by omega⟩ ⟨by omega, by omega⟩ (fun h326 => False.elim (by omega)) (fun h326 => ?_)
                    · refine lv_aload_n X.1 X.2.1 d_H_init_88 rfl (lv_at hl 1 rfl) ?_
                      refine q_get X.1 X.2.1 X.2.2.1 i_H X.2.2.2.1 X.2.2.2.2 Y m319 e325 rfl 4 (by decide) (X.2.2.1 _ lk_H_42) (fun _ h9 => h9) rfl d_H_init_89 ?_
                      refine lv_iload_n X.1 X.2.1 d_H_init_92 rfl (lv_at hl 0 rfl) ?_
                      refine t_new (ci := 7) X Y S hA hF0 i_Pr t_Pr t_Pr_ok ck_H_40 mk_Pr ini_Pr rfl (fs := [.null, .null, .int (iI 0), .int (iI 0), .int (iI 0), .null, .null, .null, .null, .int (iI 0), .int (iI 0), .int (iI 0), .int (iI 0)]) (fun j hj => match j, hj with | 0, _ => rfl | 1, _ => rfl | 2, _ => rfl | 3, _ => rfl | 4, _ => rfl | 5, _ => rfl | 6, _ => rfl | 7, _ => rfl | 8, _ => rfl | 9, _ => rfl | 10, _ => rfl | 11, _ => rfl | 12, _ => rfl | n9 + 13, h9 => absurd (show n9 + 13 < 13 from h9) (by omega)) (Nat.le_of_ble_eq_true rfl) (Nat.le_of_ble_eq_true rfl) d_H_init_93 (fun q327 L327 f327 H Y S s327 nl327 m327 r327 e327 nz327 => ?_)
                      have k328 : κ312 q1 = (21, 0) := tLe_k s327.2.2.1 k313
                      have k329 : κ312 q11 = (13, 4000) := tLe_k s327.2.2.1 k314
                      have k330 : κ312 q23 = (13, 12288) := tLe_k s327.2.2.1 k315
                      have k331 : κ312 q37 = (13, 40) := tLe_k s327.2.2.1 k316
                      have k332 : κ312 q53 = (15, 0) := tLe_k s327.2.2.1 k317
                      have e333 : f327 h = .inr (0, [.ref q1, .ref q11, .ref q23, .ref q37, .ref q71, .ref q53, .null, .null, .null]) := (s327.2.2.2 _ ⟨m319, by rw [r320]; decide, by simp⟩).1.trans e325
                      have m334 : h ∈ L327 := s327.2.1 _ m319
                      have r335 : (κ312 h).1 = 0 := by rw [(s327.2.2.2 _ ⟨m319, by rw [r320]; decide, by simp⟩).2]; exact r320
                      have e336 : okP κ312 E.2.2.1 12 9 17 (f327 q71) := okP_le s327.2.2.1 (by rw [(s327.2.2.2 _ ⟨m322, by rw [r323]; decide, by simp⟩).1]; exact o324)
                      have m337 : q71 ∈ L327 := s327.2.1 _ m322
                      have r338 : (κ312 q71).1 = 0 := by rw [(s327.2.2.2 _ ⟨m322, by rw [r323]; decide, by simp⟩).2]; exact r323
                      refine lv_dup X.1 X.2.1 d_H_init_96 rfl ?_
                      refine t_mk (x_runIN (As := []) (rest := [.ref q327, .int (iI 9), .ref q71]) (n := 0) X KR hml hl.1 (c_Pr_init l D E T κ312 L327 f327 H.size q327 m327 r327 e327 S.1) (ok_k X Y hA KS KR) (by decide) ks_Pr_init ki_Pr_init ini_Pr rfl ⟨rfl, rfl⟩ hd_Pr_init.2 ⟨Nat.le_of_ble_eq_true rfl, Nat.le_of_ble_eq_true rfl⟩ rfl (Nat.le_of_ble_eq_true rfl) d_H_init_97 ⟨Nat.le_of_ble_eq_true rfl, Nat.le_of_ble_eq_true rfl⟩) X Y hA S (by decide) nl327 (fun κ339 L339 f339 H locs Y S s339 p339 => ?_)
                      obtain k339 := p339
                      have k340 : κ339 q1 = (21, 0) := tLe_k s339.2.2.1 k328
                      have k341 : κ339 q11 = (13, 4000) := tLe_k s339.2.2.1 k329
                      have k342 : κ339 q23 = (13, 12288) := tLe_k s339.2.2.1 k330
                      have k343 : κ339 q37 = (13, 40) := tLe_k s339.2.2.1 k331
                      have k344 : κ339 q53 = (15, 0) := tLe_k s339.2.2.1 k332
                      have e345 : f339 h = .inr (0, [.ref q1, .ref q11, .ref q23, .ref q37, .ref q71, .ref q53, .null, .null, .null]) := (s339.2.2.2 _ ⟨m334, by rw [r335]; decide, by simp only [List.mem_singleton]; exact (nz327 _ m319)⟩).1.trans e333
                      have m346 : h ∈ L339 := s339.2.1 _ m334
                      have r347 : (κ339 h).1 = 0 := by rw [(s339.2.2.2 _ ⟨m334, by rw [r335]; decide, by simp only [List.mem_singleton]; exact (nz327 _ m319)⟩).2]; exact r335
                      have e348 : okP κ339 E.2.2.1 12 9 17 (f339 q71) := okP_le s339.2.2.1 (by rw [(s339.2.2.2 _ ⟨m337, by rw [r338]; decide, by simp only [List.mem_singleton]; exact (nz327 _ m322)⟩).1]; exact e336)
                      have m349 : q71 ∈ L339 := s339.2.1 _ m337
                      have r350 : (κ339 q71).1 = 0 := by rw [(s339.2.2.2 _ ⟨m337, by rw [r338]; decide, by simp only [List.mem_singleton]; exact (nz327 _ m322)⟩).2]; exact r338
                      refine t_aast (ci := 7) (r := (R_Pr, F_Pr, 13)) (t0 := 2) X Y S m349 r350 e348 rfl k339 rfl (by omega) (by decide) (by decide) (fun h9 => nl71 h9.1) d_H_init_100 (fun f351 H locs Y S w351 o351 => ?_)
                      have e352 : f351 h = .inr (0, [.ref q1, .ref q11, .ref q23, .ref q37, .ref q71, .ref q53, .null, .null, .null]) := (w351 _ (nz71 _ m67)).trans e345
                      refine lv_iinc (v := iI 10) (lv' := [(1, .int (iI 10)), (0, .ref h)]) X.1 X.2.1 d_H_init_101 hl (k := 0) rfl (by decide) (by decide) rfl (fun ls hl => ?_)
                      refine lv_goto (tgt := 82) X.1 X.2.1 d_H_init_104 (by decide) ?_
                      refine lv_iload_n X.1 X.2.1 d_H_init_82 rfl (lv_at hl 0 rfl) ?_
                      refine lv_bipush (v := iI 12) X.1 X.2.1 d_H_init_83 (by decide) ?_
                      refine z_icmp_ge (tgt := 107) X.1 X.2.1 d_H_init_85 (by decide) ⟨by omega, by omega⟩ ⟨by omega, by omega⟩ (fun h353 => False.elim (by omega)) (fun h353 => ?_)
                      · refine lv_aload_n X.1 X.2.1 d_H_init_88 rfl (lv_at hl 1 rfl) ?_
                        refine q_get X.1 X.2.1 X.2.2.1 i_H X.2.2.2.1 X.2.2.2.2 Y m346 e352 rfl 4 (by decide) (X.2.2.1 _ lk_H_42) (fun _ h9 => h9) rfl d_H_init_89 ?_
                        refine lv_iload_n X.1 X.2.1 d_H_init_92 rfl (lv_at hl 0 rfl) ?_
                        refine t_new (ci := 7) X Y S hA hF0 i_Pr t_Pr t_Pr_ok ck_H_40 mk_Pr ini_Pr rfl (fs := [.null, .null, .int (iI 0), .int (iI 0), .int (iI 0), .null, .null, .null, .null, .int (iI 0), .int (iI 0), .int (iI 0), .int (iI 0)]) (fun j hj => match j, hj with | 0, _ => rfl | 1, _ => rfl | 2, _ => rfl | 3, _ => rfl | 4, _ => rfl | 5, _ => rfl | 6, _ => rfl | 7, _ => rfl | 8, _ => rfl | 9, _ => rfl | 10, _ => rfl | 11, _ => rfl | 12, _ => rfl | n9 + 13, h9 => absurd (show n9 + 13 < 13 from h9) (by omega)) (Nat.le_of_ble_eq_true rfl) (Nat.le_of_ble_eq_true rfl) d_H_init_93 (fun q354 L354 f354 H Y S s354 nl354 m354 r354 e354 nz354 => ?_)
                        have k355 : κ339 q1 = (21, 0) := tLe_k s354.2.2.1 k340
                        have k356 : κ339 q11 = (13, 4000) := tLe_k s354.2.2.1 k341
                        have k357 : κ339 q23 = (13, 12288) := tLe_k s354.2.2.1 k342
                        have k358 : κ339 q37 = (13, 40) := tLe_k s354.2.2.1 k343
                        have k359 : κ339 q53 = (15, 0) := tLe_k s354.2.2.1 k344
                        have e360 : f354 h = .inr (0, [.ref q1, .ref q11, .ref q23, .ref q37, .ref q71, .ref q53, .null, .null, .null]) := (s354.2.2.2 _ ⟨m346, by rw [r347]; decide, by simp⟩).1.trans e352
                        have m361 : h ∈ L354 := s354.2.1 _ m346
                        have r362 : (κ339 h).1 = 0 := by rw [(s354.2.2.2 _ ⟨m346, by rw [r347]; decide, by simp⟩).2]; exact r347
                        have e363 : okP κ339 E.2.2.1 12 10 17 (f354 q71) := okP_le s354.2.2.1 (by rw [(s354.2.2.2 _ ⟨m349, by rw [r350]; decide, by simp⟩).1]; exact o351)
                        have m364 : q71 ∈ L354 := s354.2.1 _ m349
                        have r365 : (κ339 q71).1 = 0 := by rw [(s354.2.2.2 _ ⟨m349, by rw [r350]; decide, by simp⟩).2]; exact r350
                        refine lv_dup X.1 X.2.1 d_H_init_96 rfl ?_
                        refine t_mk (x_runIN (As := []) (rest := [.ref q354, .int (iI 10), .ref q71]) (n := 0) X KR hml hl.1 (c_Pr_init l D E T κ339 L354 f354 H.size q354 m354 r354 e354 S.1) (ok_k X Y hA KS KR) (by decide) ks_Pr_init ki_Pr_init ini_Pr rfl ⟨rfl, rfl⟩ hd_Pr_init.2 ⟨Nat.le_of_ble_eq_true rfl, Nat.le_of_ble_eq_true rfl⟩ rfl (Nat.le_of_ble_eq_true rfl) d_H_init_97 ⟨Nat.le_of_ble_eq_true rfl, Nat.le_of_ble_eq_true rfl⟩) X Y hA S (by decide) nl354 (fun κ366 L366 f366 H locs Y S s366 p366 => ?_)
                        obtain k366 := p366
                        have k367 : κ366 q1 = (21, 0) := tLe_k s366.2.2.1 k355
                        have k368 : κ366 q11 = (13, 4000) := tLe_k s366.2.2.1 k356
                        have k369 : κ366 q23 = (13, 12288) := tLe_k s366.2.2.1 k357
                        have k370 : κ366 q37 = (13, 40) := tLe_k s366.2.2.1 k358
                        have k371 : κ366 q53 = (15, 0) := tLe_k s366.2.2.1 k359
                        have e372 : f366 h = .inr (0, [.ref q1, .ref q11, .ref q23, .ref q37, .ref q71, .ref q53, .null, .null, .null]) := (s366.2.2.2 _ ⟨m361, by rw [r362]; decide, by simp only [List.mem_singleton]; exact (nz354 _ m346)⟩).1.trans e360
                        have m373 : h ∈ L366 := s366.2.1 _ m361
                        have r374 : (κ366 h).1 = 0 := by rw [(s366.2.2.2 _ ⟨m361, by rw [r362]; decide, by simp only [List.mem_singleton]; exact (nz354 _ m346)⟩).2]; exact r362
                        have e375 : okP κ366 E.2.2.1 12 10 17 (f366 q71) := okP_le s366.2.2.1 (by rw [(s366.2.2.2 _ ⟨m364, by rw [r365]; decide, by simp only [List.mem_singleton]; exact (nz354 _ m349)⟩).1]; exact e363)
                        have m376 : q71 ∈ L366 := s366.2.1 _ m364
                        have r377 : (κ366 q71).1 = 0 := by rw [(s366.2.2.2 _ ⟨m364, by rw [r365]; decide, by simp only [List.mem_singleton]; exact (nz354 _ m349)⟩).2]; exact r365
                        refine t_aast (ci := 7) (r := (R_Pr, F_Pr, 13)) (t0 := 2) X Y S m376 r377 e375 rfl k366 rfl (by omega) (by decide) (by decide) (fun h9 => nl71 h9.1) d_H_init_100 (fun f378 H locs Y S w378 o378 => ?_)
                        have e379 : f378 h = .inr (0, [.ref q1, .ref q11, .ref q23, .ref q37, .ref q71, .ref q53, .null, .null, .null]) := (w378 _ (nz71 _ m67)).trans e372
                        refine lv_iinc (v := iI 11) (lv' := [(1, .int (iI 11)), (0, .ref h)]) X.1 X.2.1 d_H_init_101 hl (k := 0) rfl (by decide) (by decide) rfl (fun ls hl => ?_)
                        refine lv_goto (tgt := 82) X.1 X.2.1 d_H_init_104 (by decide) ?_
                        refine lv_iload_n X.1 X.2.1 d_H_init_82 rfl (lv_at hl 0 rfl) ?_
                        refine lv_bipush (v := iI 12) X.1 X.2.1 d_H_init_83 (by decide) ?_
                        refine z_icmp_ge (tgt := 107) X.1 X.2.1 d_H_init_85 (by decide) ⟨by omega, by omega⟩ ⟨by omega, by omega⟩ (fun h380 => False.elim (by omega)) (fun h380 => ?_)
                        · refine lv_aload_n X.1 X.2.1 d_H_init_88 rfl (lv_at hl 1 rfl) ?_
                          refine q_get X.1 X.2.1 X.2.2.1 i_H X.2.2.2.1 X.2.2.2.2 Y m373 e379 rfl 4 (by decide) (X.2.2.1 _ lk_H_42) (fun _ h9 => h9) rfl d_H_init_89 ?_
                          refine lv_iload_n X.1 X.2.1 d_H_init_92 rfl (lv_at hl 0 rfl) ?_
                          refine t_new (ci := 7) X Y S hA hF0 i_Pr t_Pr t_Pr_ok ck_H_40 mk_Pr ini_Pr rfl (fs := [.null, .null, .int (iI 0), .int (iI 0), .int (iI 0), .null, .null, .null, .null, .int (iI 0), .int (iI 0), .int (iI 0), .int (iI 0)]) (fun j hj => match j, hj with | 0, _ => rfl | 1, _ => rfl | 2, _ => rfl | 3, _ => rfl | 4, _ => rfl | 5, _ => rfl | 6, _ => rfl | 7, _ => rfl | 8, _ => rfl | 9, _ => rfl | 10, _ => rfl | 11, _ => rfl | 12, _ => rfl | n9 + 13, h9 => absurd (show n9 + 13 < 13 from h9) (by omega)) (Nat.le_of_ble_eq_true rfl) (Nat.le_of_ble_eq_true rfl) d_H_init_93 (fun q381 L381 f381 H Y S s381 nl381 m381 r381 e381 nz381 => ?_)
                          have k382 : κ366 q1 = (21, 0) := tLe_k s381.2.2.1 k367
                          have k383 : κ366 q11 = (13, 4000) := tLe_k s381.2.2.1 k368
                          have k384 : κ366 q23 = (13, 12288) := tLe_k s381.2.2.1 k369
                          have k385 : κ366 q37 = (13, 40) := tLe_k s381.2.2.1 k370
                          have k386 : κ366 q53 = (15, 0) := tLe_k s381.2.2.1 k371
                          have e387 : f381 h = .inr (0, [.ref q1, .ref q11, .ref q23, .ref q37, .ref q71, .ref q53, .null, .null, .null]) := (s381.2.2.2 _ ⟨m373, by rw [r374]; decide, by simp⟩).1.trans e379
                          have m388 : h ∈ L381 := s381.2.1 _ m373
                          have r389 : (κ366 h).1 = 0 := by rw [(s381.2.2.2 _ ⟨m373, by rw [r374]; decide, by simp⟩).2]; exact r374
                          have e390 : okP κ366 E.2.2.1 12 11 17 (f381 q71) := okP_le s381.2.2.1 (by rw [(s381.2.2.2 _ ⟨m376, by rw [r377]; decide, by simp⟩).1]; exact o378)
                          have m391 : q71 ∈ L381 := s381.2.1 _ m376
                          have r392 : (κ366 q71).1 = 0 := by rw [(s381.2.2.2 _ ⟨m376, by rw [r377]; decide, by simp⟩).2]; exact r377
                          refine lv_dup X.1 X.2.1 d_H_init_96 rfl ?_
                          refine t_mk (x_runIN (As := []) (rest := [.ref q381, .int (iI 11), .ref q71]) (n := 0) X KR hml hl.1 (c_Pr_init l D E T κ366 L381 f381 H.size q381 m381 r381 e381 S.1) (ok_k X Y hA KS KR) (by decide) ks_Pr_init ki_Pr_init ini_Pr rfl ⟨rfl, rfl⟩ hd_Pr_init.2 ⟨Nat.le_of_ble_eq_true rfl, Nat.le_of_ble_eq_true rfl⟩ rfl (Nat.le_of_ble_eq_true rfl) d_H_init_97 ⟨Nat.le_of_ble_eq_true rfl, Nat.le_of_ble_eq_true rfl⟩) X Y hA S (by decide) nl381 (fun κ393 L393 f393 H locs Y S s393 p393 => ?_)
                          obtain k393 := p393
                          have k394 : κ393 q1 = (21, 0) := tLe_k s393.2.2.1 k382
                          have k395 : κ393 q11 = (13, 4000) := tLe_k s393.2.2.1 k383
                          have k396 : κ393 q23 = (13, 12288) := tLe_k s393.2.2.1 k384
                          have k397 : κ393 q37 = (13, 40) := tLe_k s393.2.2.1 k385
                          have k398 : κ393 q53 = (15, 0) := tLe_k s393.2.2.1 k386
                          have e399 : f393 h = .inr (0, [.ref q1, .ref q11, .ref q23, .ref q37, .ref q71, .ref q53, .null, .null, .null]) := (s393.2.2.2 _ ⟨m388, by rw [r389]; decide, by simp only [List.mem_singleton]; exact (nz381 _ m373)⟩).1.trans e387
                          have m400 : h ∈ L393 := s393.2.1 _ m388
                          have r401 : (κ393 h).1 = 0 := by rw [(s393.2.2.2 _ ⟨m388, by rw [r389]; decide, by simp only [List.mem_singleton]; exact (nz381 _ m373)⟩).2]; exact r389
                          have e402 : okP κ393 E.2.2.1 12 11 17 (f393 q71) := okP_le s393.2.2.1 (by rw [(s393.2.2.2 _ ⟨m391, by rw [r392]; decide, by simp only [List.mem_singleton]; exact (nz381 _ m376)⟩).1]; exact e390)
                          have m403 : q71 ∈ L393 := s393.2.1 _ m391
                          have r404 : (κ393 q71).1 = 0 := by rw [(s393.2.2.2 _ ⟨m391, by rw [r392]; decide, by simp only [List.mem_singleton]; exact (nz381 _ m376)⟩).2]; exact r392
                          refine t_aast (ci := 7) (r := (R_Pr, F_Pr, 13)) (t0 := 2) X Y S m403 r404 e402 rfl k393 rfl (by omega) (by decide) (by decide) (fun h9 => nl71 h9.1) d_H_init_100 (fun f405 H locs Y S w405 o405 => ?_)
                          have e406 : f405 h = .inr (0, [.ref q1, .ref q11, .ref q23, .ref q37, .ref q71, .ref q53, .null, .null, .null]) := (w405 _ (nz71 _ m67)).trans e399
                          refine lv_iinc (v := iI 12) (lv' := [(1, .int (iI 12)), (0, .ref h)]) X.1 X.2.1 d_H_init_101 hl (k := 0) rfl (by decide) (by decide) rfl (fun ls hl => ?_)
                          refine lv_goto (tgt := 82) X.1 X.2.1 d_H_init_104 (by decide) ?_
                          refine lv_iload_n X.1 X.2.1 d_H_init_82 rfl (lv_at hl 0 rfl) ?_
                          refine lv_bipush (v := iI 12) X.1 X.2.1 d_H_init_83 (by decide) ?_
                          refine z_icmp_ge (tgt := 107) X.1 X.2.1 d_H_init_85 (by decide) ⟨by omega, by omega⟩ ⟨by omega, by omega⟩ (fun h407 => ?_) (fun h407 => False.elim (by omega))
                          · refine lv_aload_n X.1 X.2.1 d_H_init_107 rfl (lv_at hl 1 rfl) ?_
                            refine lv_iconst (v := iI 4) X.1 X.2.1 d_H_init_108 (by decide) ?_
                            refine t_anew X Y S hA hF0 ck_H_47 (KR.2.2.2 _ (by decide)) (t0 := 3) (c2 := 12) (N := 4) rfl (by omega) (by decide) (Nat.le_of_ble_eq_true rfl) (Nat.le_of_ble_eq_true rfl) d_H_init_109 (fun q408 L408 f408 H Y S s408 nl408 m408 r408 e408 nz408 => ?_)
                            have k409 : κ393 q1 = (21, 0) := tLe_k s408.2.2.1 k394
                            have k410 : κ393 q11 = (13, 4000) := tLe_k s408.2.2.1 k395
                            have k411 : κ393 q23 = (13, 12288) := tLe_k s408.2.2.1 k396
                            have k412 : κ393 q37 = (13, 40) := tLe_k s408.2.2.1 k397
                            have k413 : κ393 q53 = (15, 0) := tLe_k s408.2.2.1 k398
                            have e414 : f408 h = .inr (0, [.ref q1, .ref q11, .ref q23, .ref q37, .ref q71, .ref q53, .null, .null, .null]) := (s408.2.2.2 _ ⟨m400, by rw [r401]; decide, by simp⟩).1.trans e406
                            have m415 : h ∈ L408 := s408.2.1 _ m400
                            have r416 : (κ393 h).1 = 0 := by rw [(s408.2.2.2 _ ⟨m400, by rw [r401]; decide, by simp⟩).2]; exact r401
                            have e417 : okP κ393 E.2.2.1 12 12 17 (f408 q71) := okP_le s408.2.2.1 (by rw [(s408.2.2.2 _ ⟨m403, by rw [r404]; decide, by simp⟩).1]; exact o405)
                            have m418 : q71 ∈ L408 := s408.2.1 _ m403
                            have r419 : (κ393 q71).1 = 0 := by rw [(s408.2.2.2 _ ⟨m403, by rw [r404]; decide, by simp⟩).2]; exact r404
                            refine q_putF X.1 X.2.1 X.2.2.1 i_H t_H t_H_ok n_H X.2.2.2.1 X.2.2.2.2 Y m415 e414 rfl 7 (by decide) (X.2.2.1 _ lk_H_49) (fun _ h9 => h9) rfl hin rfl (t_H_ok 7 (by decide)) rfl rfl (Nat.le_of_ble_eq_true rfl) d_H_init_112 (fun H locs Y => ?_)
                            have Y : pH D cCl (pA L sz) s.heap L408 (va_up f408 h (.inr (0, [.ref q1, .ref q11, .ref q23, .ref q37, .ref q71, .ref q53, .null, .ref q408, .null]))) H locs := Y
                            have S := tS_up (x := .inr (0, [.ref q1, .ref q11, .ref q23, .ref q37, .ref q71, .ref q53, .null, .ref q408, .null])) S (fun h9 => h9.2.2 (List.mem_singleton.mpr rfl)) (fun h9 => absurd r416 h9)
                            have e421 : (va_up f408 h (.inr (0, [.ref q1, .ref q11, .ref q23, .ref q37, .ref q71, .ref q53, .null, .ref q408, .null]))) h = .inr (0, [.ref q1, .ref q11, .ref q23, .ref q37, .ref q71, .ref q53, .null, .ref q408, .null]) := q_up
                            have e422 : okP κ393 E.2.2.1 12 12 17 ((va_up f408 h (.inr (0, [.ref q1, .ref q11, .ref q23, .ref q37, .ref q71, .ref q53, .null, .ref q408, .null]))) q71) := by rw [q_ne (nz71 _ m67).symm]; exact e417
                            have e423 : okP κ393 E.2.2.2.1 4 0 12 ((va_up f408 h (.inr (0, [.ref q1, .ref q11, .ref q23, .ref q37, .ref q71, .ref q53, .null, .ref q408, .null]))) q408) := by rw [q_ne (nz408 _ m400).symm]; exact e408
                            generalize va_up f408 h (.inr (0, [.ref q1, .ref q11, .ref q23, .ref q37, .ref q71, .ref q53, .null, .ref q408, .null])) = f420 at Y S e421 e422 e423
                            refine lv_iconst (v := iI 0) X.1 X.2.1 d_H_init_115 (by decide) ?_
                            refine lv_istore_n (lv' := [(1, .int (iI 0)), (0, .ref h)]) X.1 X.2.1 d_H_init_116 rfl hl (by decide) rfl (fun ls hl => ?_)
                            refine lv_iload_n X.1 X.2.1 d_H_init_117 rfl (lv_at hl 0 rfl) ?_
                            refine lv_iconst (v := iI 4) X.1 X.2.1 d_H_init_118 (by decide) ?_
                            refine z_icmp_ge (tgt := 145) X.1 X.2.1 d_H_init_119 (by decide) ⟨by omega, by omega⟩ ⟨by omega, by omega⟩ (fun h424 => False.elim (by omega)) (fun h424 => ?_)
                            · refine lv_aload_n X.1 X.2.1 d_H_init_122 rfl (lv_at hl 1 rfl) ?_
                              refine q_get X.1 X.2.1 X.2.2.1 i_H X.2.2.2.1 X.2.2.2.2 Y m415 e421 rfl 7 (by decide) (X.2.2.1 _ lk_H_49) (fun _ h9 => h9) rfl d_H_init_123 ?_
                              refine lv_iload_n X.1 X.2.1 d_H_init_126 rfl (lv_at hl 0 rfl) ?_
                              refine t_new (ci := 2) X Y S hA hF0 i_Ag t_Ag t_Ag_ok ck_H_47 mk_Ag ini_Ag rfl (fs := [.null, .null, .int (iI 0), .int (iI 0), .null, .null, .null, .int (iI 0), .int (iI 0), .int (iI 0), .int (iI 0), .int (iI 0), .null, .null, .null, .int (iI 0), .int (iI 0), .long 0, .null, .long 0, .int (iI 0)]) (fun j hj => match j, hj with | 0, _ => rfl | 1, _ => rfl | 2, _ => rfl | 3, _ => rfl | 4, _ => rfl | 5, _ => rfl | 6, _ => rfl | 7, _ => rfl | 8, _ => rfl | 9, _ => rfl | 10, _ => rfl | 11, _ => rfl | 12, _ => rfl | 13, _ => rfl | 14, _ => rfl | 15, _ => rfl | 16, _ => rfl | 17, _ => rfl | 18, _ => rfl | 19, _ => rfl | 20, _ => rfl | n9 + 21, h9 => absurd (show n9 + 21 < 21 from h9) (by omega)) (Nat.le_of_ble_eq_true rfl) (Nat.le_of_ble_eq_true rfl) d_H_init_127 (fun q425 L425 f425 H Y S s425 nl425 m425 r425 e425 nz425 => ?_)
                              have k426 : κ393 q1 = (21, 0) := tLe_k s425.2.2.1 k409
                              have k427 : κ393 q11 = (13, 4000) := tLe_k s425.2.2.1 k410
                              have k428 : κ393 q23 = (13, 12288) := tLe_k s425.2.2.1 k411
                              have k429 : κ393 q37 = (13, 40) := tLe_k s425.2.2.1 k412
                              have k430 : κ393 q53 = (15, 0) := tLe_k s425.2.2.1 k413
                              have e431 : f425 h = .inr (0, [.ref q1, .ref q11, .ref q23, .ref q37, .ref q71, .ref q53, .null, .ref q408, .null]) := (s425.2.2.2 _ ⟨m415, by rw [r416]; decide, by simp⟩).1.trans e421
                              have m432 : h ∈ L425 := s425.2.1 _ m415
                              have r433 : (κ393 h).1 = 0 := by rw [(s425.2.2.2 _ ⟨m415, by rw [r416]; decide, by simp⟩).2]; exact r416
                              have e434 : okP κ393 E.2.2.1 12 12 17 (f425 q71) := okP_le s425.2.2.1 (by rw [(s425.2.2.2 _ ⟨m418, by rw [r419]; decide, by simp⟩).1]; exact e422)
                              have m435 : q71 ∈ L425 := s425.2.1 _ m418
                              have r436 : (κ393 q71).1 = 0 := by rw [(s425.2.2.2 _ ⟨m418, by rw [r419]; decide, by simp⟩).2]; exact r419
                              have e437 : okP κ393 E.2.2.2.1 4 0 12 (f425 q408) := okP_le s425.2.2.1 (by rw [(s425.2.2.2 _ ⟨m408, by rw [r408]; decide, by simp⟩).1]; exact e423)
                              have m438 : q408 ∈ L425 := s425.2.1 _ m408
                              have r439 : (κ393 q408).1 = 0 := by rw [(s425.2.2.2 _ ⟨m408, by rw [r408]; decide, by simp⟩).2]; exact r408
                              refine lv_dup X.1 X.2.1 d_H_init_130 rfl ?_
                              refine lv_aload_n X.1 X.2.1 d_H_init_131 rfl (lv_at hl 1 rfl) ?_
                              refine q_get X.1 X.2.1 X.2.2.1 i_H X.2.2.2.1 X.2.2.2.2 Y m432 e431 rfl 0 (by decide) (X.2.2.1 _ lk_H_12) (fun _ h9 => h9) rfl d_H_init_132 ?_
                              obtain ⟨S, s440⟩ := t_arrkind (c1 := 5) (n := 12) S m435 r436 nl71 hF0 (raw0_of hw nl71) (okP_le (tLe_raw r436) e434)
                              have k440 : (va_up κ393 q71 (5, 12)) q71 = (5, 12) := va_up_self _ _ _
                              generalize va_up κ393 q71 (5, 12) = κ440 at S s440 k440
                              have k441 : κ440 q1 = (21, 0) := tLe_k s440.2.2.1 k426
                              have k442 : κ440 q11 = (13, 4000) := tLe_k s440.2.2.1 k427
                              have k443 : κ440 q23 = (13, 12288) := tLe_k s440.2.2.1 k428
                              have k444 : κ440 q37 = (13, 40) := tLe_k s440.2.2.1 k429
                              have k445 : κ440 q53 = (15, 0) := tLe_k s440.2.2.1 k430
                              have e446 : f425 h = .inr (0, [.ref q1, .ref q11, .ref q23, .ref q37, .ref q71, .ref q53, .null, .ref q408, .null]) := (s440.2.2.2 _ ⟨m432, by rw [r433]; decide, by simp only [List.mem_singleton]; exact (nz71 _ m67)⟩).1.trans e431
                              have m447 : h ∈ L425 := s440.2.1 _ m432
                              have r448 : (κ440 h).1 = 0 := by rw [(s440.2.2.2 _ ⟨m432, by rw [r433]; decide, by simp only [List.mem_singleton]; exact (nz71 _ m67)⟩).2]; exact r433
                              have e449 : okP κ440 E.2.2.2.1 4 0 12 (f425 q408) := okP_le s440.2.2.1 (by rw [(s440.2.2.2 _ ⟨m438, by rw [r439]; decide, by simp only [List.mem_singleton]; exact (nz408 _ m403).symm⟩).1]; exact e437)
                              have m450 : q408 ∈ L425 := s440.2.1 _ m438
                              have r451 : (κ440 q408).1 = 0 := by rw [(s440.2.2.2 _ ⟨m438, by rw [r439]; decide, by simp only [List.mem_singleton]; exact (nz408 _ m403).symm⟩).2]; exact r439
                              have e452 : f425 q425 = .inr (2, [.null, .null, .int (iI 0), .int (iI 0), .null, .null, .null, .int (iI 0), .int (iI 0), .int (iI 0), .int (iI 0), .int (iI 0), .null, .null, .null, .int (iI 0), .int (iI 0), .long 0, .null, .long 0, .int (iI 0)]) := (s440.2.2.2 _ ⟨m425, by rw [r425]; decide, by simp only [List.mem_singleton]; exact (nz425 _ m418).symm⟩).1.trans e425
                              have m453 : q425 ∈ L425 := s440.2.1 _ m425
                              have r454 : (κ440 q425).1 = 0 := by rw [(s440.2.2.2 _ ⟨m425, by rw [r425]; decide, by simp only [List.mem_singleton]; exact (nz425 _ m418).symm⟩).2]; exact r425
                              refine t_mk (x_runI (As := [.ref q1]) (rest := [.ref q425, .int (iI 0), .ref q408]) (n := 1) X hml hl.1 (c_Ag_init l D E T κ440 L425 f425 H.size q425 m453 r454 e452 q1 k441 S.1) (ok_k X Y hA KS KR) kl_H_Ag_init ks_Ag_init ki_Ag_init ini_Ag rfl ⟨rfl, rfl⟩ hd_Ag_init.2 ⟨Nat.le_of_ble_eq_true rfl, Nat.le_of_ble_eq_true rfl⟩ rfl (Nat.le_of_ble_eq_true rfl) d_H_init_135 ⟨Nat.le_of_ble_eq_true rfl, Nat.le_of_ble_eq_true rfl⟩) X Y hA S (by decide) nl425 (fun κ455 L455 f455 H locs Y S s455 p455 => ?_)
                              obtain k455 := p455
                              have k456 : κ455 q1 = (21, 0) := tLe_k s455.2.2.1 k441
                              have k457 : κ455 q11 = (13, 4000) := tLe_k s455.2.2.1 k442
                              have k458 : κ455 q23 = (13, 12288) := tLe_k s455.2.2.1 k443
                              have k459 : κ455 q37 = (13, 40) := tLe_k s455.2.2.1 k444
                              have k460 : κ455 q71 = (5, 12) := tLe_k s455.2.2.1 k440
                              have k461 : κ455 q53 = (15, 0) := tLe_k s455.2.2.1 k445
                              have e462 : f455 h = .inr (0, [.ref q1, .ref q11, .ref q23, .ref q37, .ref q71, .ref q53, .null, .ref q408, .null]) := (s455.2.2.2 _ ⟨m447, by rw [r448]; decide, by simp only [List.mem_singleton]; exact (nz425 _ m415)⟩).1.trans e446
                              have m463 : h ∈ L455 := s455.2.1 _ m447
                              have r464 : (κ455 h).1 = 0 := by rw [(s455.2.2.2 _ ⟨m447, by rw [r448]; decide, by simp only [List.mem_singleton]; exact (nz425 _ m415)⟩).2]; exact r448
                              have e465 : okP κ455 E.2.2.2.1 4 0 12 (f455 q408) := okP_le s455.2.2.1 (by rw [(s455.2.2.2 _ ⟨m450, by rw [r451]; decide, by simp only [List.mem_singleton]; exact (nz425 _ m408)⟩).1]; exact e449)
                              have m466 : q408 ∈ L455 := s455.2.1 _ m450
                              have r467 : (κ455 q408).1 = 0 := by rw [(s455.2.2.2 _ ⟨m450, by rw [r451]; decide, by simp only [List.mem_singleton]; exact (nz425 _ m408)⟩).2]; exact r451
                              refine t_aast (ci := 2) (r := (R_Ag, F_Ag, 21)) (t0 := 3) X Y S m466 r467 e465 rfl k455 rfl (by omega) (by decide) (by decide) (fun h9 => nl408 h9.1) d_H_init_138 (fun f468 H locs Y S w468 o468 => ?_)
                              have e469 : f468 h = .inr (0, [.ref q1, .ref q11, .ref q23, .ref q37, .ref q71, .ref q53, .null, .ref q408, .null]) := (w468 _ (nz408 _ m400)).trans e462
                              refine lv_iinc (v := iI 1) (lv' := [(1, .int (iI 1)), (0, .ref h)]) X.1 X.2.1 d_H_init_139 hl (k := 0) rfl (by decide) (by decide) rfl (fun ls hl => ?_)
                              refine lv_goto (tgt := 117) X.1 X.2.1 d_H_init_142 (by decide) ?_
                              refine lv_iload_n X.1 X.2.1 d_H_init_117 rfl (lv_at hl 0 rfl) ?_
                              refine lv_iconst (v := iI 4) X.1 X.2.1 d_H_init_118 (by decide) ?_
                              refine z_icmp_ge (tgt := 145) X.1 X.2.1 d_H_init_119 (by decide) ⟨by omega, by omega⟩ ⟨by omega, by omega⟩ (fun h470 => False.elim (by omega)) (fun h470 => ?_)
                              · refine lv_aload_n X.1 X.2.1 d_H_init_122 rfl (lv_at hl 1 rfl) ?_
                                refine q_get X.1 X.2.1 X.2.2.1 i_H X.2.2.2.1 X.2.2.2.2 Y m463 e469 rfl 7 (by decide) (X.2.2.1 _ lk_H_49) (fun _ h9 => h9) rfl d_H_init_123 ?_
                                refine lv_iload_n X.1 X.2.1 d_H_init_126 rfl (lv_at hl 0 rfl) ?_
                                refine t_new (ci := 2) X Y S hA hF0 i_Ag t_Ag t_Ag_ok ck_H_47 mk_Ag ini_Ag rfl (fs := [.null, .null, .int (iI 0), .int (iI 0), .null, .null, .null, .int (iI 0), .int (iI 0), .int (iI 0), .int (iI 0), .int (iI 0), .null, .null, .null, .int (iI 0), .int (iI 0), .long 0, .null, .long 0, .int (iI 0)]) (fun j hj => match j, hj with | 0, _ => rfl | 1, _ => rfl | 2, _ => rfl | 3, _ => rfl | 4, _ => rfl | 5, _ => rfl | 6, _ => rfl | 7, _ => rfl | 8, _ => rfl | 9, _ => rfl | 10, _ => rfl | 11, _ => rfl | 12, _ => rfl | 13, _ => rfl | 14, _ => rfl | 15, _ => rfl | 16, _ => rfl | 17, _ => rfl | 18, _ => rfl | 19, _ => rfl | 20, _ => rfl | n9 + 21, h9 => absurd (show n9 + 21 < 21 from h9) (by omega)) (Nat.le_of_ble_eq_true rfl) (Nat.le_of_ble_eq_true rfl) d_H_init_127 (fun q471 L471 f471 H Y S s471 nl471 m471 r471 e471 nz471 => ?_)
                                have k472 : κ455 q1 = (21, 0) := tLe_k s471.2.2.1 k456
                                have k473 : κ455 q11 = (13, 4000) := tLe_k s471.2.2.1 k457
                                have k474 : κ455 q23 = (13, 12288) := tLe_k s471.2.2.1 k458
                                have k475 : κ455 q37 = (13, 40) := tLe_k s471.2.2.1 k459
                                have k476 : κ455 q71 = (5, 12) := tLe_k s471.2.2.1 k460
                                have k477 : κ455 q53 = (15, 0) := tLe_k s471.2.2.1 k461
                                have e478 : f471 h = .inr (0, [.ref q1, .ref q11, .ref q23, .ref q37, .ref q71, .ref q53, .null, .ref q408, .null]) := (s471.2.2.2 _ ⟨m463, by rw [r464]; decide, by simp⟩).1.trans e469
                                have m479 : h ∈ L471 := s471.2.1 _ m463
                                have r480 : (κ455 h).1 = 0 := by rw [(s471.2.2.2 _ ⟨m463, by rw [r464]; decide, by simp⟩).2]; exact r464
                                have e481 : okP κ455 E.2.2.2.1 4 1 12 (f471 q408) := okP_le s471.2.2.1 (by rw [(s471.2.2.2 _ ⟨m466, by rw [r467]; decide, by simp⟩).1]; exact o468)
                                have m482 : q408 ∈ L471 := s471.2.1 _ m466
                                have r483 : (κ455 q408).1 = 0 := by rw [(s471.2.2.2 _ ⟨m466, by rw [r467]; decide, by simp⟩).2]; exact r467
                                refine lv_dup X.1 X.2.1 d_H_init_130 rfl ?_
                                refine lv_aload_n X.1 X.2.1 d_H_init_131 rfl (lv_at hl 1 rfl) ?_
                                refine q_get X.1 X.2.1 X.2.2.1 i_H X.2.2.2.1 X.2.2.2.2 Y m479 e478 rfl 0 (by decide) (X.2.2.1 _ lk_H_12) (fun _ h9 => h9) rfl d_H_init_132 ?_
                                refine t_mk (x_runI (As := [.ref q1]) (rest := [.ref q471, .int (iI 1), .ref q408]) (n := 1) X hml hl.1 (c_Ag_init l D E T κ455 L471 f471 H.size q471 m471 r471 e471 q1 k472 S.1) (ok_k X Y hA KS KR) kl_H_Ag_init ks_Ag_init ki_Ag_init ini_Ag rfl ⟨rfl, rfl⟩ hd_Ag_init.2 ⟨Nat.le_of_ble_eq_true rfl, Nat.le_of_ble_eq_true rfl⟩ rfl (Nat.le_of_ble_eq_true rfl) d_H_init_135 ⟨Nat.le_of_ble_eq_true rfl, Nat.le_of_ble_eq_true rfl⟩) X Y hA S (by decide) nl471 (fun κ484 L484 f484 H locs Y S s484 p484 => ?_)
                                obtain k484 := p484
                                have k485 : κ484 q1 = (21, 0) := tLe_k s484.2.2.1 k472
                                have k486 : κ484 q11 = (13, 4000) := tLe_k s484.2.2.1 k473
                                have k487 : κ484 q23 = (13, 12288) := tLe_k s484.2.2.1 k474
                                have k488 : κ484 q37 = (13, 40) := tLe_k s484.2.2.1 k475
                                have k489 : κ484 q71 = (5, 12) := tLe_k s484.2.2.1 k476
                                have k490 : κ484 q53 = (15, 0) := tLe_k s484.2.2.1 k477
                                have e491 : f484 h = .inr (0, [.ref q1, .ref q11, .ref q23, .ref q37, .ref q71, .ref q53, .null, .ref q408, .null]) := (s484.2.2.2 _ ⟨m479, by rw [r480]; decide, by simp only [List.mem_singleton]; exact (nz471 _ m463)⟩).1.trans e478
                                have m492 : h ∈ L484 := s484.2.1 _ m479
                                have r493 : (κ484 h).1 = 0 := by rw [(s484.2.2.2 _ ⟨m479, by rw [r480]; decide, by simp only [List.mem_singleton]; exact (nz471 _ m463)⟩).2]; exact r480
                                have e494 : okP κ484 E.2.2.2.1 4 1 12 (f484 q408) := okP_le s484.2.2.1 (by rw [(s484.2.2.2 _ ⟨m482, by rw [r483]; decide, by simp only [List.mem_singleton]; exact (nz471 _ m466)⟩).1]; exact e481)
                                have m495 : q408 ∈ L484 := s484.2.1 _ m482
                                have r496 : (κ484 q408).1 = 0 := by rw [(s484.2.2.2 _ ⟨m482, by rw [r483]; decide, by simp only [List.mem_singleton]; exact (nz471 _ m466)⟩).2]; exact r483
                                refine t_aast (ci := 2) (r := (R_Ag, F_Ag, 21)) (t0 := 3) X Y S m495 r496 e494 rfl k484 rfl (by omega) (by decide) (by decide) (fun h9 => nl408 h9.1) d_H_init_138 (fun f497 H locs Y S w497 o497 => ?_)
                                have e498 : f497 h = .inr (0, [.ref q1, .ref q11, .ref q23, .ref q37, .ref q71, .ref q53, .null, .ref q408, .null]) := (w497 _ (nz408 _ m400)).trans e491
                                refine lv_iinc (v := iI 2) (lv' := [(1, .int (iI 2)), (0, .ref h)]) X.1 X.2.1 d_H_init_139 hl (k := 0) rfl (by decide) (by decide) rfl (fun ls hl => ?_)
                                refine lv_goto (tgt := 117) X.1 X.2.1 d_H_init_142 (by decide) ?_
                                refine lv_iload_n X.1 X.2.1 d_H_init_117 rfl (lv_at hl 0 rfl) ?_
                                refine lv_iconst (v := iI 4) X.1 X.2.1 d_H_init_118 (by decide) ?_
                                refine z_icmp_ge (tgt := 145) X.1 X.2.1 d_H_init_119 (by decide) ⟨by omega, by omega⟩ ⟨by omega, by omega⟩ (fun h499 => False.elim (by omega)) (fun h499 => ?_)
                                · refine lv_aload_n X.1 X.2.1 d_H_init_122 rfl (lv_at hl 1 rfl) ?_
                                  refine q_get X.1 X.2.1 X.2.2.1 i_H X.2.2.2.1 X.2.2.2.2 Y m492 e498 rfl 7 (by decide) (X.2.2.1 _ lk_H_49) (fun _ h9 => h9) rfl d_H_init_123 ?_
                                  refine lv_iload_n X.1 X.2.1 d_H_init_126 rfl (lv_at hl 0 rfl) ?_
                                  refine t_new (ci := 2) X Y S hA hF0 i_Ag t_Ag t_Ag_ok ck_H_47 mk_Ag ini_Ag rfl (fs := [.null, .null, .int (iI 0), .int (iI 0), .null, .null, .null, .int (iI 0), .int (iI 0), .int (iI 0), .int (iI 0), .int (iI 0), .null, .null, .null, .int (iI 0), .int (iI 0), .long 0, .null, .long 0, .int (iI 0)]) (fun j hj => match j, hj with | 0, _ => rfl | 1, _ => rfl | 2, _ => rfl | 3, _ => rfl | 4, _ => rfl | 5, _ => rfl | 6, _ => rfl | 7, _ => rfl | 8, _ => rfl | 9, _ => rfl | 10, _ => rfl | 11, _ => rfl | 12, _ => rfl | 13, _ => rfl | 14, _ => rfl | 15, _ => rfl | 16, _ => rfl | 17, _ => rfl | 18, _ => rfl | 19, _ => rfl | 20, _ => rfl | n9 + 21, h9 => absurd (show n9 + 21 < 21 from h9) (by omega)) (Nat.le_of_ble_eq_true rfl) (Nat.le_of_ble_eq_true rfl) d_H_init_127 (fun q500 L500 f500 H Y S s500 nl500 m500 r500 e500 nz500 => ?_)
                                  have k501 : κ484 q1 = (21, 0) := tLe_k s500.2.2.1 k485
                                  have k502 : κ484 q11 = (13, 4000) := tLe_k s500.2.2.1 k486
                                  have k503 : κ484 q23 = (13, 12288) := tLe_k s500.2.2.1 k487
                                  have k504 : κ484 q37 = (13, 40) := tLe_k s500.2.2.1 k488
                                  have k505 : κ484 q71 = (5, 12) := tLe_k s500.2.2.1 k489
                                  have k506 : κ484 q53 = (15, 0) := tLe_k s500.2.2.1 k490
                                  have e507 : f500 h = .inr (0, [.ref q1, .ref q11, .ref q23, .ref q37, .ref q71, .ref q53, .null, .ref q408, .null]) := (s500.2.2.2 _ ⟨m492, by rw [r493]; decide, by simp⟩).1.trans e498
                                  have m508 : h ∈ L500 := s500.2.1 _ m492
                                  have r509 : (κ484 h).1 = 0 := by rw [(s500.2.2.2 _ ⟨m492, by rw [r493]; decide, by simp⟩).2]; exact r493
                                  have e510 : okP κ484 E.2.2.2.1 4 2 12 (f500 q408) := okP_le s500.2.2.1 (by rw [(s500.2.2.2 _ ⟨m495, by rw [r496]; decide, by simp⟩).1]; exact o497)
                                  have m511 : q408 ∈ L500 := s500.2.1 _ m495
                                  have r512 : (κ484 q408).1 = 0 := by rw [(s500.2.2.2 _ ⟨m495, by rw [r496]; decide, by simp⟩).2]; exact r496
                                  refine lv_dup X.1 X.2.1 d_H_init_130 rfl ?_
                                  refine lv_aload_n X.1 X.2.1 d_H_init_131 rfl (lv_at hl 1 rfl) ?_
                                  refine q_get X.1 X.2.1 X.2.2.1 i_H X.2.2.2.1 X.2.2.2.2 Y m508 e507 rfl 0 (by decide) (X.2.2.1 _ lk_H_12) (fun _ h9 => h9) rfl d_H_init_132 ?_
                                  refine t_mk (x_runI (As := [.ref q1]) (rest := [.ref q500, .int (iI 2), .ref q408]) (n := 1) X hml hl.1 (c_Ag_init l D E T κ484 L500 f500 H.size q500 m500 r500 e500 q1 k501 S.1) (ok_k X Y hA KS KR) kl_H_Ag_init ks_Ag_init ki_Ag_init ini_Ag rfl ⟨rfl, rfl⟩ hd_Ag_init.2 ⟨Nat.le_of_ble_eq_true rfl, Nat.le_of_ble_eq_true rfl⟩ rfl (Nat.le_of_ble_eq_true rfl) d_H_init_135 ⟨Nat.le_of_ble_eq_true rfl, Nat.le_of_ble_eq_true rfl⟩) X Y hA S (by decide) nl500 (fun κ513 L513 f513 H locs Y S s513 p513 => ?_)
                                  obtain k513 := p513
                                  have k514 : κ513 q1 = (21, 0) := tLe_k s513.2.2.1 k501
                                  have k515 : κ513 q11 = (13, 4000) := tLe_k s513.2.2.1 k502
                                  have k516 : κ513 q23 = (13, 12288) := tLe_k s513.2.2.1 k503
                                  have k517 : κ513 q37 = (13, 40) := tLe_k s513.2.2.1 k504
                                  have k518 : κ513 q71 = (5, 12) := tLe_k s513.2.2.1 k505
                                  have k519 : κ513 q53 = (15, 0) := tLe_k s513.2.2.1 k506
                                  have e520 : f513 h = .inr (0, [.ref q1, .ref q11, .ref q23, .ref q37, .ref q71, .ref q53, .null, .ref q408, .null]) := (s513.2.2.2 _ ⟨m508, by rw [r509]; decide, by simp only [List.mem_singleton]; exact (nz500 _ m492)⟩).1.trans e507
                                  have m521 : h ∈ L513 := s513.2.1 _ m508
                                  have r522 : (κ513 h).1 = 0 := by rw [(s513.2.2.2 _ ⟨m508, by rw [r509]; decide, by simp only [List.mem_singleton]; exact (nz500 _ m492)⟩).2]; exact r509
                                  have e523 : okP κ513 E.2.2.2.1 4 2 12 (f513 q408) := okP_le s513.2.2.1 (by rw [(s513.2.2.2 _ ⟨m511, by rw [r512]; decide, by simp only [List.mem_singleton]; exact (nz500 _ m495)⟩).1]; exact e510)
                                  have m524 : q408 ∈ L513 := s513.2.1 _ m511
                                  have r525 : (κ513 q408).1 = 0 := by rw [(s513.2.2.2 _ ⟨m511, by rw [r512]; decide, by simp only [List.mem_singleton]; exact (nz500 _ m495)⟩).2]; exact r512
                                  refine t_aast (ci := 2) (r := (R_Ag, F_Ag, 21)) (t0 := 3) X Y S m524 r525 e523 rfl k513 rfl (by omega) (by decide) (by decide) (fun h9 => nl408 h9.1) d_H_init_138 (fun f526 H locs Y S w526 o526 => ?_)
                                  have e527 : f526 h = .inr (0, [.ref q1, .ref q11, .ref q23, .ref q37, .ref q71, .ref q53, .null, .ref q408, .null]) := (w526 _ (nz408 _ m400)).trans e520
                                  refine lv_iinc (v := iI 3) (lv' := [(1, .int (iI 3)), (0, .ref h)]) X.1 X.2.1 d_H_init_139 hl (k := 0) rfl (by decide) (by decide) rfl (fun ls hl => ?_)
                                  refine lv_goto (tgt := 117) X.1 X.2.1 d_H_init_142 (by decide) ?_
                                  refine lv_iload_n X.1 X.2.1 d_H_init_117 rfl (lv_at hl 0 rfl) ?_
                                  refine lv_iconst (v := iI 4) X.1 X.2.1 d_H_init_118 (by decide) ?_
                                  refine z_icmp_ge (tgt := 145) X.1 X.2.1 d_H_init_119 (by decide) ⟨by omega, by omega⟩ ⟨by omega, by omega⟩ (fun h528 => False.elim (by omega)) (fun h528 => ?_)
                                  · refine lv_aload_n X.1 X.2.1 d_H_init_122 rfl (lv_at hl 1 rfl) ?_
                                    refine q_get X.1 X.2.1 X.2.2.1 i_H X.2.2.2.1 X.2.2.2.2 Y m521 e527 rfl 7 (by decide) (X.2.2.1 _ lk_H_49) (fun _ h9 => h9) rfl d_H_init_123 ?_
                                    refine lv_iload_n X.1 X.2.1 d_H_init_126 rfl (lv_at hl 0 rfl) ?_
                                    refine t_new (ci := 2) X Y S hA hF0 i_Ag t_Ag t_Ag_ok ck_H_47 mk_Ag ini_Ag rfl (fs := [.null, .null, .int (iI 0), .int (iI 0), .null, .null, .null, .int (iI 0), .int (iI 0), .int (iI 0), .int (iI 0), .int (iI 0), .null, .null, .null, .int (iI 0), .int (iI 0), .long 0, .null, .long 0, .int (iI 0)]) (fun j hj => match j, hj with | 0, _ => rfl | 1, _ => rfl | 2, _ => rfl | 3, _ => rfl | 4, _ => rfl | 5, _ => rfl | 6, _ => rfl | 7, _ => rfl | 8, _ => rfl | 9, _ => rfl | 10, _ => rfl | 11, _ => rfl | 12, _ => rfl | 13, _ => rfl | 14, _ => rfl | 15, _ => rfl | 16, _ => rfl | 17, _ => rfl | 18, _ => rfl | 19, _ => rfl | 20, _ => rfl | n9 + 21, h9 => absurd (show n9 + 21 < 21 from h9) (by omega)) (Nat.le_of_ble_eq_true rfl) (Nat.le_of_ble_eq_true rfl) d_H_init_127 (fun q529 L529 f529 H Y S s529 nl529 m529 r529 e529 nz529 => ?_)
                                    have k530 : κ513 q1 = (21, 0) := tLe_k s529.2.2.1 k514
                                    have k531 : κ513 q11 = (13, 4000) := tLe_k s529.2.2.1 k515
                                    have k532 : κ513 q23 = (13, 12288) := tLe_k s529.2.2.1 k516
                                    have k533 : κ513 q37 = (13, 40) := tLe_k s529.2.2.1 k517
                                    have k534 : κ513 q71 = (5, 12) := tLe_k s529.2.2.1 k518
                                    have k535 : κ513 q53 = (15, 0) := tLe_k s529.2.2.1 k519
                                    have e536 : f529 h = .inr (0, [.ref q1, .ref q11, .ref q23, .ref q37, .ref q71, .ref q53, .null, .ref q408, .null]) := (s529.2.2.2 _ ⟨m521, by rw [r522]; decide, by simp⟩).1.trans e527
                                    have m537 : h ∈ L529 := s529.2.1 _ m521
                                    have r538 : (κ513 h).1 = 0 := by rw [(s529.2.2.2 _ ⟨m521, by rw [r522]; decide, by simp⟩).2]; exact r522
                                    have e539 : okP κ513 E.2.2.2.1 4 3 12 (f529 q408) := okP_le s529.2.2.1 (by rw [(s529.2.2.2 _ ⟨m524, by rw [r525]; decide, by simp⟩).1]; exact o526)
                                    have m540 : q408 ∈ L529 := s529.2.1 _ m524
                                    have r541 : (κ513 q408).1 = 0 := by rw [(s529.2.2.2 _ ⟨m524, by rw [r525]; decide, by simp⟩).2]; exact r525
                                    refine lv_dup X.1 X.2.1 d_H_init_130 rfl ?_
                                    refine lv_aload_n X.1 X.2.1 d_H_init_131 rfl (lv_at hl 1 rfl) ?_
                                    refine q_get X.1 X.2.1 X.2.2.1 i_H X.2.2.2.1 X.2.2.2.2 Y m537 e536 rfl 0 (by decide) (X.2.2.1 _ lk_H_12) (fun _ h9 => h9) rfl d_H_init_132 ?_
                                    refine t_mk (x_runI (As := [.ref q1]) (rest := [.ref q529, .int (iI 3), .ref q408]) (n := 1) X hml hl.1 (c_Ag_init l D E T κ513 L529 f529 H.size q529 m529 r529 e529 q1 k530 S.1) (ok_k X Y hA KS KR) kl_H_Ag_init ks_Ag_init ki_Ag_init ini_Ag rfl ⟨rfl, rfl⟩ hd_Ag_init.2 ⟨Nat.le_of_ble_eq_true rfl, Nat.le_of_ble_eq_true rfl⟩ rfl (Nat.le_of_ble_eq_true rfl) d_H_init_135 ⟨Nat.le_of_ble_eq_true rfl, Nat.le_of_ble_eq_true rfl⟩) X Y hA S (by decide) nl529 (fun κ542 L542 f542 H locs Y S s542 p542 => ?_)
                                    obtain k542 := p542
                                    have k543 : κ542 q1 = (21, 0) := tLe_k s542.2.2.1 k530
                                    have k544 : κ542 q11 = (13, 4000) := tLe_k s542.2.2.1 k531
                                    have k545 : κ542 q23 = (13, 12288) := tLe_k s542.2.2.1 k532
                                    have k546 : κ542 q37 = (13, 40) := tLe_k s542.2.2.1 k533
                                    have k547 : κ542 q71 = (5, 12) := tLe_k s542.2.2.1 k534
                                    have k548 : κ542 q53 = (15, 0) := tLe_k s542.2.2.1 k535
                                    have e549 : f542 h = .inr (0, [.ref q1, .ref q11, .ref q23, .ref q37, .ref q71, .ref q53, .null, .ref q408, .null]) := (s542.2.2.2 _ ⟨m537, by rw [r538]; decide, by simp only [List.mem_singleton]; exact (nz529 _ m521)⟩).1.trans e536
                                    have m550 : h ∈ L542 := s542.2.1 _ m537
                                    have r551 : (κ542 h).1 = 0 := by rw [(s542.2.2.2 _ ⟨m537, by rw [r538]; decide, by simp only [List.mem_singleton]; exact (nz529 _ m521)⟩).2]; exact r538
                                    have e552 : okP κ542 E.2.2.2.1 4 3 12 (f542 q408) := okP_le s542.2.2.1 (by rw [(s542.2.2.2 _ ⟨m540, by rw [r541]; decide, by simp only [List.mem_singleton]; exact (nz529 _ m524)⟩).1]; exact e539)
                                    have m553 : q408 ∈ L542 := s542.2.1 _ m540
                                    have r554 : (κ542 q408).1 = 0 := by rw [(s542.2.2.2 _ ⟨m540, by rw [r541]; decide, by simp only [List.mem_singleton]; exact (nz529 _ m524)⟩).2]; exact r541
                                    refine t_aast (ci := 2) (r := (R_Ag, F_Ag, 21)) (t0 := 3) X Y S m553 r554 e552 rfl k542 rfl (by omega) (by decide) (by decide) (fun h9 => nl408 h9.1) d_H_init_138 (fun f555 H locs Y S w555 o555 => ?_)
                                    have e556 : f555 h = .inr (0, [.ref q1, .ref q11, .ref q23, .ref q37, .ref q71, .ref q53, .null, .ref q408, .null]) := (w555 _ (nz408 _ m400)).trans e549
                                    refine lv_iinc (v := iI 4) (lv' := [(1, .int (iI 4)), (0, .ref h)]) X.1 X.2.1 d_H_init_139 hl (k := 0) rfl (by decide) (by decide) rfl (fun ls hl => ?_)
                                    refine lv_goto (tgt := 117) X.1 X.2.1 d_H_init_142 (by decide) ?_
                                    refine lv_iload_n X.1 X.2.1 d_H_init_117 rfl (lv_at hl 0 rfl) ?_
                                    refine lv_iconst (v := iI 4) X.1 X.2.1 d_H_init_118 (by decide) ?_
                                    refine z_icmp_ge (tgt := 145) X.1 X.2.1 d_H_init_119 (by decide) ⟨by omega, by omega⟩ ⟨by omega, by omega⟩ (fun h557 => ?_) (fun h557 => False.elim (by omega))
                                    · refine lv_aload_n X.1 X.2.1 d_H_init_145 rfl (lv_at hl 1 rfl) ?_
                                      refine lv_bipush (v := iI 8) X.1 X.2.1 d_H_init_146 (by decide) ?_
                                      refine t_anew X Y S hA hF0 ck_H_54 (KR.2.2.2 _ (by decide)) (t0 := 4) (c2 := 19) (N := 8) rfl (by omega) (by decide) (Nat.le_of_ble_eq_true rfl) (Nat.le_of_ble_eq_true rfl) d_H_init_148 (fun q558 L558 f558 H Y S s558 nl558 m558 r558 e558 nz558 => ?_)
                                      have k559 : κ542 q1 = (21, 0) := tLe_k s558.2.2.1 k543
                                      have k560 : κ542 q11 = (13, 4000) := tLe_k s558.2.2.1 k544
                                      have k561 : κ542 q23 = (13, 12288) := tLe_k s558.2.2.1 k545
                                      have k562 : κ542 q37 = (13, 40) := tLe_k s558.2.2.1 k546
                                      have k563 : κ542 q71 = (5, 12) := tLe_k s558.2.2.1 k547
                                      have k564 : κ542 q53 = (15, 0) := tLe_k s558.2.2.1 k548
                                      have e565 : f558 h = .inr (0, [.ref q1, .ref q11, .ref q23, .ref q37, .ref q71, .ref q53, .null, .ref q408, .null]) := (s558.2.2.2 _ ⟨m550, by rw [r551]; decide, by simp⟩).1.trans e556
                                      have m566 : h ∈ L558 := s558.2.1 _ m550
                                      have r567 : (κ542 h).1 = 0 := by rw [(s558.2.2.2 _ ⟨m550, by rw [r551]; decide, by simp⟩).2]; exact r551
                                      have e568 : okP κ542 E.2.2.2.1 4 4 12 (f558 q408) := okP_le s558.2.2.1 (by rw [(s558.2.2.2 _ ⟨m553, by rw [r554]; decide, by simp⟩).1]; exact o555)
                                      have m569 : q408 ∈ L558 := s558.2.1 _ m553
                                      have r570 : (κ542 q408).1 = 0 := by rw [(s558.2.2.2 _ ⟨m553, by rw [r554]; decide, by simp⟩).2]; exact r554
                                      refine q_putF X.1 X.2.1 X.2.2.1 i_H t_H t_H_ok n_H X.2.2.2.1 X.2.2.2.2 Y m566 e565 rfl 8 (by decide) (X.2.2.1 _ lk_H_56) (fun _ h9 => h9) rfl hin rfl (t_H_ok 8 (by decide)) rfl rfl (Nat.le_of_ble_eq_true rfl) d_H_init_151 (fun H locs Y => ?_)
                                      have Y : pH D cCl (pA L sz) s.heap L558 (va_up f558 h (.inr (0, [.ref q1, .ref q11, .ref q23, .ref q37, .ref q71, .ref q53, .null, .ref q408, .ref q558]))) H locs := Y
                                      have S := tS_up (x := .inr (0, [.ref q1, .ref q11, .ref q23, .ref q37, .ref q71, .ref q53, .null, .ref q408, .ref q558])) S (fun h9 => h9.2.2 (List.mem_singleton.mpr rfl)) (fun h9 => absurd r567 h9)
                                      have e572 : (va_up f558 h (.inr (0, [.ref q1, .ref q11, .ref q23, .ref q37, .ref q71, .ref q53, .null, .ref q408, .ref q558]))) h = .inr (0, [.ref q1, .ref q11, .ref q23, .ref q37, .ref q71, .ref q53, .null, .ref q408, .ref q558]) := q_up
                                      have e573 : okP κ542 E.2.2.2.1 4 4 12 ((va_up f558 h (.inr (0, [.ref q1, .ref q11, .ref q23, .ref q37, .ref q71, .ref q53, .null, .ref q408, .ref q558]))) q408) := by rw [q_ne (nz408 _ m400).symm]; exact e568
                                      have e574 : okP κ542 E.2.2.2.2.1 8 0 19 ((va_up f558 h (.inr (0, [.ref q1, .ref q11, .ref q23, .ref q37, .ref q71, .ref q53, .null, .ref q408, .ref q558]))) q558) := by rw [q_ne (nz558 _ m550).symm]; exact e558
                                      generalize va_up f558 h (.inr (0, [.ref q1, .ref q11, .ref q23, .ref q37, .ref q71, .ref q53, .null, .ref q408, .ref q558])) = f571 at Y S e572 e573 e574
                                      refine lv_iconst (v := iI 0) X.1 X.2.1 d_H_init_154 (by decide) ?_
                                      refine lv_istore_n (lv' := [(1, .int (iI 0)), (0, .ref h)]) X.1 X.2.1 d_H_init_155 rfl hl (by decide) rfl (fun ls hl => ?_)
                                      refine lv_iload_n X.1 X.2.1 d_H_init_156 rfl (lv_at hl 0 rfl) ?_
                                      refine lv_bipush (v := iI 8) X.1 X.2.1 d_H_init_157 (by decide) ?_
                                      refine z_icmp_ge (tgt := 185) X.1 X.2.1 d_H_init_159 (by decide) ⟨by omega, by omega⟩ ⟨by omega, by omega⟩ (fun h575 => False.elim (by omega)) (fun h575 => ?_)
                                      · refine lv_aload_n X.1 X.2.1 d_H_init_162 rfl (lv_at hl 1 rfl) ?_
                                        refine q_get X.1 X.2.1 X.2.2.1 i_H X.2.2.2.1 X.2.2.2.2 Y m566 e572 rfl 8 (by decide) (X.2.2.1 _ lk_H_56) (fun _ h9 => h9) rfl d_H_init_163 ?_
                                        refine lv_iload_n X.1 X.2.1 d_H_init_166 rfl (lv_at hl 0 rfl) ?_
                                        refine t_new (ci := 9) X Y S hA hF0 i_So t_So t_So_ok ck_H_54 mk_So ini_So rfl (fs := [.null, .int (iI 0), .int (iI 0), .null, .null, .int (iI 0), .int (iI 0), .long 0, .null, .null, .null]) (fun j hj => match j, hj with | 0, _ => rfl | 1, _ => rfl | 2, _ => rfl | 3, _ => rfl | 4, _ => rfl | 5, _ => rfl | 6, _ => rfl | 7, _ => rfl | 8, _ => rfl | 9, _ => rfl | 10, _ => rfl | n9 + 11, h9 => absurd (show n9 + 11 < 11 from h9) (by omega)) (Nat.le_of_ble_eq_true rfl) (Nat.le_of_ble_eq_true rfl) d_H_init_167 (fun q576 L576 f576 H Y S s576 nl576 m576 r576 e576 nz576 => ?_)
                                        have k577 : κ542 q1 = (21, 0) := tLe_k s576.2.2.1 k559
                                        have k578 : κ542 q11 = (13, 4000) := tLe_k s576.2.2.1 k560
                                        have k579 : κ542 q23 = (13, 12288) := tLe_k s576.2.2.1 k561
                                        have k580 : κ542 q37 = (13, 40) := tLe_k s576.2.2.1 k562
                                        have k581 : κ542 q71 = (5, 12) := tLe_k s576.2.2.1 k563
                                        have k582 : κ542 q53 = (15, 0) := tLe_k s576.2.2.1 k564
                                        have e583 : f576 h = .inr (0, [.ref q1, .ref q11, .ref q23, .ref q37, .ref q71, .ref q53, .null, .ref q408, .ref q558]) := (s576.2.2.2 _ ⟨m566, by rw [r567]; decide, by simp⟩).1.trans e572
                                        have m584 : h ∈ L576 := s576.2.1 _ m566
                                        have r585 : (κ542 h).1 = 0 := by rw [(s576.2.2.2 _ ⟨m566, by rw [r567]; decide, by simp⟩).2]; exact r567
                                        have e586 : okP κ542 E.2.2.2.1 4 4 12 (f576 q408) := okP_le s576.2.2.1 (by rw [(s576.2.2.2 _ ⟨m569, by rw [r570]; decide, by simp⟩).1]; exact e573)
                                        have m587 : q408 ∈ L576 := s576.2.1 _ m569
                                        have r588 : (κ542 q408).1 = 0 := by rw [(s576.2.2.2 _ ⟨m569, by rw [r570]; decide, by simp⟩).2]; exact r570
                                        have e589 : okP κ542 E.2.2.2.2.1 8 0 19 (f576 q558) := okP_le s576.2.2.1 (by rw [(s576.2.2.2 _ ⟨m558, by rw [r558]; decide, by simp⟩).1]; exact e574)
                                        have m590 : q558 ∈ L576 := s576.2.1 _ m558
                                        have r591 : (κ542 q558).1 = 0 := by rw [(s576.2.2.2 _ ⟨m558, by rw [r558]; decide, by simp⟩).2]; exact r558
                                        refine lv_dup X.1 X.2.1 d_H_init_170 rfl ?_
                                        refine lv_aload_n X.1 X.2.1 d_H_init_171 rfl (lv_at hl 1 rfl) ?_
                                        refine q_get X.1 X.2.1 X.2.2.1 i_H X.2.2.2.1 X.2.2.2.2 Y m584 e583 rfl 0 (by decide) (X.2.2.1 _ lk_H_12) (fun _ h9 => h9) rfl d_H_init_172 ?_
                                        obtain ⟨S, s592⟩ := t_arrkind (c1 := 6) (n := 4) S m587 r588 nl408 hF0 (raw0_of hw nl408) (okP_le (tLe_raw r588) e586)
                                        have k592 : (va_up κ542 q408 (6, 4)) q408 = (6, 4) := va_up_self _ _ _
                                        generalize va_up κ542 q408 (6, 4) = κ592 at S s592 k592
                                        have k593 : κ592 q1 = (21, 0) := tLe_k s592.2.2.1 k577
                                        have k594 : κ592 q11 = (13, 4000) := tLe_k s592.2.2.1 k578
                                        have k595 : κ592 q23 = (13, 12288) := tLe_k s592.2.2.1 k579
                                        have k596 : κ592 q37 = (13, 40) := tLe_k s592.2.2.1 k580
                                        have k597 : κ592 q71 = (5, 12) := tLe_k s592.2.2.1 k581
                                        have k598 : κ592 q53 = (15, 0) := tLe_k s592.2.2.1 k582
                                        have e599 : f576 h = .inr (0, [.ref q1, .ref q11, .ref q23, .ref q37, .ref q71, .ref q53, .null, .ref q408, .ref q558]) := (s592.2.2.2 _ ⟨m584, by rw [r585]; decide, by simp only [List.mem_singleton]; exact (nz408 _ m400)⟩).1.trans e583
                                        have m600 : h ∈ L576 := s592.2.1 _ m584
                                        have r601 : (κ592 h).1 = 0 := by rw [(s592.2.2.2 _ ⟨m584, by rw [r585]; decide, by simp only [List.mem_singleton]; exact (nz408 _ m400)⟩).2]; exact r585
                                        have e602 : okP κ592 E.2.2.2.2.1 8 0 19 (f576 q558) := okP_le s592.2.2.1 (by rw [(s592.2.2.2 _ ⟨m590, by rw [r591]; decide, by simp only [List.mem_singleton]; exact (nz558 _ m553).symm⟩).1]; exact e589)
                                        have m603 : q558 ∈ L576 := s592.2.1 _ m590
                                        have r604 : (κ592 q558).1 = 0 := by rw [(s592.2.2.2 _ ⟨m590, by rw [r591]; decide, by simp only [List.mem_singleton]; exact (nz558 _ m553).symm⟩).2]; exact r591
                                        have e605 : f576 q576 = .inr (9, [.null, .int (iI 0), .int (iI 0), .null, .null, .int (iI 0), .int (iI 0), .long 0, .null, .null, .null]) := (s592.2.2.2 _ ⟨m576, by rw [r576]; decide, by simp only [List.mem_singleton]; exact (nz576 _ m569).symm⟩).1.trans e576
                                        have m606 : q576 ∈ L576 := s592.2.1 _ m576
                                        have r607 : (κ592 q576).1 = 0 := by rw [(s592.2.2.2 _ ⟨m576, by rw [r576]; decide, by simp only [List.mem_singleton]; exact (nz576 _ m569).symm⟩).2]; exact r576
                                        refine t_mk (x_runI (As := [.ref q1]) (rest := [.ref q576, .int (iI 0), .ref q558]) (n := 1) X hml hl.1 (c_So_init l D E T κ592 L576 f576 H.size q576 m606 r607 e605 q1 k593 S.1) (ok_k X Y hA KS KR) kl_H_So_init ks_So_init ki_So_init ini_So rfl ⟨rfl, rfl⟩ hd_So_init.2 ⟨Nat.le_of_ble_eq_true rfl, Nat.le_of_ble_eq_true rfl⟩ rfl (Nat.le_of_ble_eq_true rfl) d_H_init_175 ⟨Nat.le_of_ble_eq_true rfl, Nat.le_of_ble_eq_true rfl⟩) X Y hA S (by decide) nl576 (fun κ608 L608 f608 H locs Y S s608 p608 => ?_)
                                        obtain k608 := p608
                                        have k609 : κ608 q1 = (21, 0) := tLe_k s608.2.2.1 k593
                                        have k610 : κ608 q11 = (13, 4000) := tLe_k s608.2.2.1 k594
                                        have k611 : κ608 q23 = (13, 12288) := tLe_k s608.2.2.1 k595
                                        have k612 : κ608 q37 = (13, 40) := tLe_k s608.2.2.1 k596
                                        have k613 : κ608 q71 = (5, 12) := tLe_k s608.2.2.1 k597
                                        have k614 : κ608 q53 = (15, 0) := tLe_k s608.2.2.1 k598
                                        have k615 : κ608 q408 = (6, 4) := tLe_k s608.2.2.1 k592
                                        have e616 : f608 h = .inr (0, [.ref q1, .ref q11, .ref q23, .ref q37, .ref q71, .ref q53, .null, .ref q408, .ref q558]) := (s608.2.2.2 _ ⟨m600, by rw [r601]; decide, by simp only [List.mem_singleton]; exact (nz576 _ m566)⟩).1.trans e599
                                        have m617 : h ∈ L608 := s608.2.1 _ m600
                                        have r618 : (κ608 h).1 = 0 := by rw [(s608.2.2.2 _ ⟨m600, by rw [r601]; decide, by simp only [List.mem_singleton]; exact (nz576 _ m566)⟩).2]; exact r601
                                        have e619 : okP κ608 E.2.2.2.2.1 8 0 19 (f608 q558) := okP_le s608.2.2.1 (by rw [(s608.2.2.2 _ ⟨m603, by rw [r604]; decide, by simp only [List.mem_singleton]; exact (nz576 _ m558)⟩).1]; exact e602)
                                        have m620 : q558 ∈ L608 := s608.2.1 _ m603
                                        have r621 : (κ608 q558).1 = 0 := by rw [(s608.2.2.2 _ ⟨m603, by rw [r604]; decide, by simp only [List.mem_singleton]; exact (nz576 _ m558)⟩).2]; exact r604
                                        refine t_aast (ci := 9) (r := (R_So, F_So, 11)) (t0 := 4) X Y S m620 r621 e619 rfl k608 rfl (by omega) (by decide) (by decide) (fun h9 => nl558 h9.1) d_H_init_178 (fun f622 H locs Y S w622 o622 => ?_)
                                        have e623 : f622 h = .inr (0, [.ref q1, .ref q11, .ref q23, .ref q37, .ref q71, .ref q53, .null, .ref q408, .ref q558]) := (w622 _ (nz558 _ m550)).trans e616
                                        refine lv_iinc (v := iI 1) (lv' := [(1, .int (iI 1)), (0, .ref h)]) X.1 X.2.1 d_H_init_179 hl (k := 0) rfl (by decide) (by decide) rfl (fun ls hl => ?_)
                                        refine lv_goto (tgt := 156) X.1 X.2.1 d_H_init_182 (by decide) ?_
                                        refine lv_iload_n X.1 X.2.1 d_H_init_156 rfl (lv_at hl 0 rfl) ?_
                                        refine lv_bipush (v := iI 8) X.1 X.2.1 d_H_init_157 (by decide) ?_
                                        refine z_icmp_ge (tgt := 185) X.1 X.2.1 d_H_init_159 (by decide) ⟨by omega, by omega⟩ ⟨by omega, by omega⟩ (fun h624 => False.elim (by omega)) (fun h624 => ?_)
                                        · refine lv_aload_n X.1 X.2.1 d_H_init_162 rfl (lv_at hl 1 rfl) ?_
                                          refine q_get X.1 X.2.1 X.2.2.1 i_H X.2.2.2.1 X.2.2.2.2 Y m617 e623 rfl 8 (by decide) (X.2.2.1 _ lk_H_56) (fun _ h9 => h9) rfl d_H_init_163 ?_
                                          refine lv_iload_n X.1 X.2.1 d_H_init_166 rfl (lv_at hl 0 rfl) ?_
                                          refine t_new (ci := 9) X Y S hA hF0 i_So t_So t_So_ok ck_H_54 mk_So ini_So rfl (fs := [.null, .int (iI 0), .int (iI 0), .null, .null, .int (iI 0), .int (iI 0), .long 0, .null, .null, .null]) (fun j hj => match j, hj with | 0, _ => rfl | 1, _ => rfl | 2, _ => rfl | 3, _ => rfl | 4, _ => rfl | 5, _ => rfl | 6, _ => rfl | 7, _ => rfl | 8, _ => rfl | 9, _ => rfl | 10, _ => rfl | n9 + 11, h9 => absurd (show n9 + 11 < 11 from h9) (by omega)) (Nat.le_of_ble_eq_true rfl) (Nat.le_of_ble_eq_true rfl) d_H_init_167 (fun q625 L625 f625 H Y S s625 nl625 m625 r625 e625 nz625 => ?_)
                                          have k626 : κ608 q1 = (21, 0) := tLe_k s625.2.2.1 k609
                                          have k627 : κ608 q11 = (13, 4000) := tLe_k s625.2.2.1 k610
                                          have k628 : κ608 q23 = (13, 12288) := tLe_k s625.2.2.1 k611
                                          have k629 : κ608 q37 = (13, 40) := tLe_k s625.2.2.1 k612
                                          have k630 : κ608 q71 = (5, 12) := tLe_k s625.2.2.1 k613
                                          have k631 : κ608 q53 = (15, 0) := tLe_k s625.2.2.1 k614
                                          have k632 : κ608 q408 = (6, 4) := tLe_k s625.2.2.1 k615
                                          have e633 : f625 h = .inr (0, [.ref q1, .ref q11, .ref q23, .ref q37, .ref q71, .ref q53, .null, .ref q408, .ref q558]) := (s625.2.2.2 _ ⟨m617, by rw [r618]; decide, by simp⟩).1.trans e623
                                          have m634 : h ∈ L625 := s625.2.1 _ m617
                                          have r635 : (κ608 h).1 = 0 := by rw [(s625.2.2.2 _ ⟨m617, by rw [r618]; decide, by simp⟩).2]; exact r618
                                          have e636 : okP κ608 E.2.2.2.2.1 8 1 19 (f625 q558) := okP_le s625.2.2.1 (by rw [(s625.2.2.2 _ ⟨m620, by rw [r621]; decide, by simp⟩).1]; exact o622)
                                          have m637 : q558 ∈ L625 := s625.2.1 _ m620
                                          have r638 : (κ608 q558).1 = 0 := by rw [(s625.2.2.2 _ ⟨m620, by rw [r621]; decide, by simp⟩).2]; exact r621
                                          refine lv_dup X.1 X.2.1 d_H_init_170 rfl ?_
                                          refine lv_aload_n X.1 X.2.1 d_H_init_171 rfl (lv_at hl 1 rfl) ?_
                                          refine q_get X.1 X.2.1 X.2.2.1 i_H X.2.2.2.1 X.2.2.2.2 Y m634 e633 rfl 0 (by decide) (X.2.2.1 _ lk_H_12) (fun _ h9 => h9) rfl d_H_init_172 ?_
                                          refine t_mk (x_runI (As := [.ref q1]) (rest := [.ref q625, .int (iI 1), .ref q558]) (n := 1) X hml hl.1 (c_So_init l D E T κ608 L625 f625 H.size q625 m625 r625 e625 q1 k626 S.1) (ok_k X Y hA KS KR) kl_H_So_init ks_So_init ki_So_init ini_So rfl ⟨rfl, rfl⟩ hd_So_init.2 ⟨Nat.le_of_ble_eq_true rfl, Nat.le_of_ble_eq_true rfl⟩ rfl (Nat.le_of_ble_eq_true rfl) d_H_init_175 ⟨Nat.le_of_ble_eq_true rfl, Nat.le_of_ble_eq_true rfl⟩) X Y hA S (by decide) nl625 (fun κ639 L639 f639 H locs Y S s639 p639 => ?_)
                                          obtain k639 := p639
                                          have k640 : κ639 q1 = (21, 0) := tLe_k s639.2.2.1 k626
                                          have k641 : κ639 q11 = (13, 4000) := tLe_k s639.2.2.1 k627
                                          have k642 : κ639 q23 = (13, 12288) := tLe_k s639.2.2.1 k628
                                          have k643 : κ639 q37 = (13, 40) := tLe_k s639.2.2.1 k629
                                          have k644 : κ639 q71 = (5, 12) := tLe_k s639.2.2.1 k630
                                          have k645 : κ639 q53 = (15, 0) := tLe_k s639.2.2.1 k631
                                          have k646 : κ639 q408 = (6, 4) := tLe_k s639.2.2.1 k632
                                          have e647 : f639 h = .inr (0, [.ref q1, .ref q11, .ref q23, .ref q37, .ref q71, .ref q53, .null, .ref q408, .ref q558]) := (s639.2.2.2 _ ⟨m634, by rw [r635]; decide, by simp only [List.mem_singleton]; exact (nz625 _ m617)⟩).1.trans e633
                                          have m648 : h ∈ L639 := s639.2.1 _ m634
                                          have r649 : (κ639 h).1 = 0 := by rw [(s639.2.2.2 _ ⟨m634, by rw [r635]; decide, by simp only [List.mem_singleton]; exact (nz625 _ m617)⟩).2]; exact r635
                                          have e650 : okP κ639 E.2.2.2.2.1 8 1 19 (f639 q558) := okP_le s639.2.2.1 (by rw [(s639.2.2.2 _ ⟨m637, by rw [r638]; decide, by simp only [List.mem_singleton]; exact (nz625 _ m620)⟩).1]; exact e636)
                                          have m651 : q558 ∈ L639 := s639.2.1 _ m637
                                          have r652 : (κ639 q558).1 = 0 := by rw [(s639.2.2.2 _ ⟨m637, by rw [r638]; decide, by simp only [List.mem_singleton]; exact (nz625 _ m620)⟩).2]; exact r638
                                          refine t_aast (ci := 9) (r := (R_So, F_So, 11)) (t0 := 4) X Y S m651 r652 e650 rfl k639 rfl (by omega) (by decide) (by decide) (fun h9 => nl558 h9.1) d_H_init_178 (fun f653 H locs Y S w653 o653 => ?_)
                                          have e654 : f653 h = .inr (0, [.ref q1, .ref q11, .ref q23, .ref q37, .ref q71, .ref q53, .null, .ref q408, .ref q558]) := (w653 _ (nz558 _ m550)).trans e647
                                          refine lv_iinc (v := iI 2) (lv' := [(1, .int (iI 2)), (0, .ref h)]) X.1 X.2.1 d_H_init_179 hl (k := 0) rfl (by decide) (by decide) rfl (fun ls hl => ?_)
                                          refine lv_goto (tgt := 156) X.1 X.2.1 d_H_init_182 (by decide) ?_
                                          refine lv_iload_n X.1 X.2.1 d_H_init_156 rfl (lv_at hl 0 rfl) ?_
                                          refine lv_bipush (v := iI 8) X.1 X.2.1 d_H_init_157 (by decide) ?_
                                          refine z_icmp_ge (tgt := 185) X.1 X.2.1 d_H_init_159 (by decide) ⟨by omega, by omega⟩ ⟨by omega, by omega⟩ (fun h655 => False.elim (by omega)) (fun h655 => ?_)
                                          · refine lv_aload_n X.1 X.2.1 d_H_init_162 rfl (lv_at hl 1 rfl) ?_
                                            refine q_get X.1 X.2.1 X.2.2.1 i_H X.2.2.2.1 X.2.2.2.2 Y m648 e654 rfl 8 (by decide) (X.2.2.1 _ lk_H_56) (fun _ h9 => h9) rfl d_H_init_163 ?_
                                            refine lv_iload_n X.1 X.2.1 d_H_init_166 rfl (lv_at hl 0 rfl) ?_
                                            refine t_new (ci := 9) X Y S hA hF0 i_So t_So t_So_ok ck_H_54 mk_So ini_So rfl (fs := [.null, .int (iI 0), .int (iI 0), .null, .null, .int (iI 0), .int (iI 0), .long 0, .null, .null, .null]) (fun j hj => match j, hj with | 0, _ => rfl | 1, _ => rfl | 2, _ => rfl | 3, _ => rfl | 4, _ => rfl | 5, _ => rfl | 6, _ => rfl | 7, _ => rfl | 8, _ => rfl | 9, _ => rfl | 10, _ => rfl | n9 + 11, h9 => absurd (show n9 + 11 < 11 from h9) (by omega)) (Nat.le_of_ble_eq_true rfl) (Nat.le_of_ble_eq_true rfl) d_H_init_167 (fun q656 L656 f656 H Y S s656 nl656 m656 r656 e656 nz656 => ?_)
                                            have k657 : κ639 q1 = (21, 0) := tLe_k s656.2.2.1 k640
                                            have k658 : κ639 q11 = (13, 4000) := tLe_k s656.2.2.1 k641
                                            have k659 : κ639 q23 = (13, 12288) := tLe_k s656.2.2.1 k642
                                            have k660 : κ639 q37 = (13, 40) := tLe_k s656.2.2.1 k643
                                            have k661 : κ639 q71 = (5, 12) := tLe_k s656.2.2.1 k644
                                            have k662 : κ639 q53 = (15, 0) := tLe_k s656.2.2.1 k645
                                            have k663 : κ639 q408 = (6, 4) := tLe_k s656.2.2.1 k646
                                            have e664 : f656 h = .inr (0, [.ref q1, .ref q11, .ref q23, .ref q37, .ref q71, .ref q53, .null, .ref q408, .ref q558]) := (s656.2.2.2 _ ⟨m648, by rw [r649]; decide, by simp⟩).1.trans e654
                                            have m665 : h ∈ L656 := s656.2.1 _ m648
                                            have r666 : (κ639 h).1 = 0 := by rw [(s656.2.2.2 _ ⟨m648, by rw [r649]; decide, by simp⟩).2]; exact r649
                                            have e667 : okP κ639 E.2.2.2.2.1 8 2 19 (f656 q558) := okP_le s656.2.2.1 (by rw [(s656.2.2.2 _ ⟨m651, by rw [r652]; decide, by simp⟩).1]; exact o653)
                                            have m668 : q558 ∈ L656 := s656.2.1 _ m651
                                            have r669 : (κ639 q558).1 = 0 := by rw [(s656.2.2.2 _ ⟨m651, by rw [r652]; decide, by simp⟩).2]; exact r652
                                            refine lv_dup X.1 X.2.1 d_H_init_170 rfl ?_
                                            refine lv_aload_n X.1 X.2.1 d_H_init_171 rfl (lv_at hl 1 rfl) ?_
                                            refine q_get X.1 X.2.1 X.2.2.1 i_H X.2.2.2.1 X.2.2.2.2 Y m665 e664 rfl 0 (by decide) (X.2.2.1 _ lk_H_12) (fun _ h9 => h9) rfl d_H_init_172 ?_
                                            refine t_mk (x_runI (As := [.ref q1]) (rest := [.ref q656, .int (iI 2), .ref q558]) (n := 1) X hml hl.1 (c_So_init l D E T κ639 L656 f656 H.size q656 m656 r656 e656 q1 k657 S.1) (ok_k X Y hA KS KR) kl_H_So_init ks_So_init ki_So_init ini_So rfl ⟨rfl, rfl⟩ hd_So_init.2 ⟨Nat.le_of_ble_eq_true rfl, Nat.le_of_ble_eq_true rfl⟩ rfl (Nat.le_of_ble_eq_true rfl) d_H_init_175 ⟨Nat.le_of_ble_eq_true rfl, Nat.le_of_ble_eq_true rfl⟩) X Y hA S (by decide) nl656 (fun κ670 L670 f670 H locs Y S s670 p670 => ?_)
                                            obtain k670 := p670
                                            have k671 : κ670 q1 = (21, 0) := tLe_k s670.2.2.1 k657
                                            have k672 : κ670 q11 = (13, 4000) := tLe_k s670.2.2.1 k658
                                            have k673 : κ670 q23 = (13, 12288) := tLe_k s670.2.2.1 k659
                                            have k674 : κ670 q37 = (13, 40) := tLe_k s670.2.2.1 k660
                                            have k675 : κ670 q71 = (5, 12) := tLe_k s670.2.2.1 k661
                                            have k676 : κ670 q53 = (15, 0) := tLe_k s670.2.2.1 k662
                                            have k677 : κ670 q408 = (6, 4) := tLe_k s670.2.2.1 k663
                                            have e678 : f670 h = .inr (0, [.ref q1, .ref q11, .ref q23, .ref q37, .ref q71, .ref q53, .null, .ref q408, .ref q558]) := (s670.2.2.2 _ ⟨m665, by rw [r666]; decide, by simp only [List.mem_singleton]; exact (nz656 _ m648)⟩).1.trans e664
                                            have m679 : h ∈ L670 := s670.2.1 _ m665
                                            have r680 : (κ670 h).1 = 0 := by rw [(s670.2.2.2 _ ⟨m665, by rw [r666]; decide, by simp only [List.mem_singleton]; exact (nz656 _ m648)⟩).2]; exact r666
                                            have e681 : okP κ670 E.2.2.2.2.1 8 2 19 (f670 q558) := okP_le s670.2.2.1 (by rw [(s670.2.2.2 _ ⟨m668, by rw [r669]; decide, by simp only [List.mem_singleton]; exact (nz656 _ m651)⟩).1]; exact e667)
                                            have m682 : q558 ∈ L670 := s670.2.1 _ m668
                                            have r683 : (κ670 q558).1 = 0 := by rw [(s670.2.2.2 _ ⟨m668, by rw [r669]; decide, by simp only [List.mem_singleton]; exact (nz656 _ m651)⟩).2]; exact r669
                                            refine t_aast (ci := 9) (r := (R_So, F_So, 11)) (t0 := 4) X Y S m682 r683 e681 rfl k670 rfl (by omega) (by decide) (by decide) (fun h9 => nl558 h9.1) d_H_init_178 (fun f684 H locs Y S w684 o684 => ?_)
                                            have e685 : f684 h = .inr (0, [.ref q1, .ref q11, .ref q23, .ref q37, .ref q71, .ref q53, .null, .ref q408, .ref q558]) := (w684 _ (nz558 _ m550)).trans e678
                                            refine lv_iinc (v := iI 3) (lv' := [(1, .int (iI 3)), (0, .ref h)]) X.1 X.2.1 d_H_init_179 hl (k := 0) rfl (by decide) (by decide) rfl (fun ls hl => ?_)
                                            refine lv_goto (tgt := 156) X.1 X.2.1 d_H_init_182 (by decide) ?_
                                            refine lv_iload_n X.1 X.2.1 d_H_init_156 rfl (lv_at hl 0 rfl) ?_
                                            refine lv_bipush (v := iI 8) X.1 X.2.1 d_H_init_157 (by decide) ?_
                                            refine z_icmp_ge (tgt := 185) X.1 X.2.1 d_H_init_159 (by decide) ⟨by omega, by omega⟩ ⟨by omega, by omega⟩ (fun h686 => False.elim (by omega)) (fun h686 => ?_)
                                            · refine lv_aload_n X.1 X.2.1 d_H_init_162 rfl (lv_at hl 1 rfl) ?_
                                              refine q_get X.1 X.2.1 X.2.2.1 i_H X.2.2.2.1 X.2.2.2.2 Y m679 e685 rfl 8 (by decide) (X.2.2.1 _ lk_H_56) (fun _ h9 => h9) rfl d_H_init_163 ?_
                                              refine lv_iload_n X.1 X.2.1 d_H_init_166 rfl (lv_at hl 0 rfl) ?_
                                              refine t_new (ci := 9) X Y S hA hF0 i_So t_So t_So_ok ck_H_54 mk_So ini_So rfl (fs := [.null, .int (iI 0), .int (iI 0), .null, .null, .int (iI 0), .int (iI 0), .long 0, .null, .null, .null]) (fun j hj => match j, hj with | 0, _ => rfl | 1, _ => rfl | 2, _ => rfl | 3, _ => rfl | 4, _ => rfl | 5, _ => rfl | 6, _ => rfl | 7, _ => rfl | 8, _ => rfl | 9, _ => rfl | 10, _ => rfl | n9 + 11, h9 => absurd (show n9 + 11 < 11 from h9) (by omega)) (Nat.le_of_ble_eq_true rfl) (Nat.le_of_ble_eq_true rfl) d_H_init_167 (fun q687 L687 f687 H Y S s687 nl687 m687 r687 e687 nz687 => ?_)
                                              have k688 : κ670 q1 = (21, 0) := tLe_k s687.2.2.1 k671
                                              have k689 : κ670 q11 = (13, 4000) := tLe_k s687.2.2.1 k672
                                              have k690 : κ670 q23 = (13, 12288) := tLe_k s687.2.2.1 k673
                                              have k691 : κ670 q37 = (13, 40) := tLe_k s687.2.2.1 k674
                                              have k692 : κ670 q71 = (5, 12) := tLe_k s687.2.2.1 k675
                                              have k693 : κ670 q53 = (15, 0) := tLe_k s687.2.2.1 k676
                                              have k694 : κ670 q408 = (6, 4) := tLe_k s687.2.2.1 k677
                                              have e695 : f687 h = .inr (0, [.ref q1, .ref q11, .ref q23, .ref q37, .ref q71, .ref q53, .null, .ref q408, .ref q558]) := (s687.2.2.2 _ ⟨m679, by rw [r680]; decide, by simp⟩).1.trans e685
                                              have m696 : h ∈ L687 := s687.2.1 _ m679
                                              have r697 : (κ670 h).1 = 0 := by rw [(s687.2.2.2 _ ⟨m679, by rw [r680]; decide, by simp⟩).2]; exact r680
                                              have e698 : okP κ670 E.2.2.2.2.1 8 3 19 (f687 q558) := okP_le s687.2.2.1 (by rw [(s687.2.2.2 _ ⟨m682, by rw [r683]; decide, by simp⟩).1]; exact o684)
                                              have m699 : q558 ∈ L687 := s687.2.1 _ m682
                                              have r700 : (κ670 q558).1 = 0 := by rw [(s687.2.2.2 _ ⟨m682, by rw [r683]; decide, by simp⟩).2]; exact r683
                                              refine lv_dup X.1 X.2.1 d_H_init_170 rfl ?_
                                              refine lv_aload_n X.1 X.2.1 d_H_init_171 rfl (lv_at hl 1 rfl) ?_
                                              refine q_get X.1 X.2.1 X.2.2.1 i_H X.2.2.2.1 X.2.2.2.2 Y m696 e695 rfl 0 (by decide) (X.2.2.1 _ lk_H_12) (fun _ h9 => h9) rfl d_H_init_172 ?_
                                              refine t_mk (x_runI (As := [.ref q1]) (rest := [.ref q687, .int (iI 3), .ref q558]) (n := 1) X hml hl.1 (c_So_init l D E T κ670 L687 f687 H.size q687 m687 r687 e687 q1 k688 S.1) (ok_k X Y hA KS KR) kl_H_So_init ks_So_init ki_So_init ini_So rfl ⟨rfl, rfl⟩ hd_So_init.2 ⟨Nat.le_of_ble_eq_true rfl, Nat.le_of_ble_eq_true rfl⟩ rfl (Nat.le_of_ble_eq_true rfl) d_H_init_175 ⟨Nat.le_of_ble_eq_true rfl, Nat.le_of_ble_eq_true rfl⟩) X Y hA S (by decide) nl687 (fun κ701 L701 f701 H locs Y S s701 p701 => ?_)
                                              obtain k701 := p701
                                              have k702 : κ701 q1 = (21, 0) := tLe_k s701.2.2.1 k688
                                              have k703 : κ701 q11 = (13, 4000) := tLe_k s701.2.2.1 k689
                                              have k704 : κ701 q23 = (13, 12288) := tLe_k s701.2.2.1 k690
                                              have k705 : κ701 q37 = (13, 40) := tLe_k s701.2.2.1 k691
                                              have k706 : κ701 q71 = (5, 12) := tLe_k s701.2.2.1 k692
                                              have k707 : κ701 q53 = (15, 0) := tLe_k s701.2.2.1 k693
                                              have k708 : κ701 q408 = (6, 4) := tLe_k s701.2.2.1 k694
                                              have e709 : f701 h = .inr (0, [.ref q1, .ref q11, .ref q23, .ref q37, .ref q71, .ref q53, .null, .ref q408, .ref q558]) := (s701.2.2.2 _ ⟨m696, by rw [r697]; decide, by simp only [List.mem_singleton]; exact (nz687 _ m679)⟩).1.trans e695
                                              have m710 : h ∈ L701 := s701.2.1 _ m696
                                              have r711 : (κ701 h).1 = 0 := by rw [(s701.2.2.2 _ ⟨m696, by rw [r697]; decide, by simp only [List.mem_singleton]; exact (nz687 _ m679)⟩).2]; exact r697
                                              have e712 : okP κ701 E.2.2.2.2.1 8 3 19 (f701 q558) := okP_le s701.2.2.1 (by rw [(s701.2.2.2 _ ⟨m699, by rw [r700]; decide, by simp only [List.mem_singleton]; exact (nz687 _ m682)⟩).1]; exact e698)
                                              have m713 : q558 ∈ L701 := s701.2.1 _ m699
                                              have r714 : (κ701 q558).1 = 0 := by rw [(s701.2.2.2 _ ⟨m699, by rw [r700]; decide, by simp only [List.mem_singleton]; exact (nz687 _ m682)⟩).2]; exact r700
                                              refine t_aast (ci := 9) (r := (R_So, F_So, 11)) (t0 := 4) X Y S m713 r714 e712 rfl k701 rfl (by omega) (by decide) (by decide) (fun h9 => nl558 h9.1) d_H_init_178 (fun f715 H locs Y S w715 o715 => ?_)
                                              have e716 : f715 h = .inr (0, [.ref q1, .ref q11, .ref q23, .ref q37, .ref q71, .ref q53, .null, .ref q408, .ref q558]) := (w715 _ (nz558 _ m550)).trans e709
                                              refine lv_iinc (v := iI 4) (lv' := [(1, .int (iI 4)), (0, .ref h)]) X.1 X.2.1 d_H_init_179 hl (k := 0) rfl (by decide) (by decide) rfl (fun ls hl => ?_)
                                              refine lv_goto (tgt := 156) X.1 X.2.1 d_H_init_182 (by decide) ?_
                                              refine lv_iload_n X.1 X.2.1 d_H_init_156 rfl (lv_at hl 0 rfl) ?_
                                              refine lv_bipush (v := iI 8) X.1 X.2.1 d_H_init_157 (by decide) ?_
                                              refine z_icmp_ge (tgt := 185) X.1 X.2.1 d_H_init_159 (by decide) ⟨by omega, by omega⟩ ⟨by omega, by omega⟩ (fun h717 => False.elim (by omega)) (fun h717 => ?_)
                                              · refine lv_aload_n X.1 X.2.1 d_H_init_162 rfl (lv_at hl 1 rfl) ?_
                                                refine q_get X.1 X.2.1 X.2.2.1 i_H X.2.2.2.1 X.2.2.2.2 Y m710 e716 rfl 8 (by decide) (X.2.2.1 _ lk_H_56) (fun _ h9 => h9) rfl d_H_init_163 ?_
                                                refine lv_iload_n X.1 X.2.1 d_H_init_166 rfl (lv_at hl 0 rfl) ?_
                                                refine t_new (ci := 9) X Y S hA hF0 i_So t_So t_So_ok ck_H_54 mk_So ini_So rfl (fs := [.null, .int (iI 0), .int (iI 0), .null, .null, .int (iI 0), .int (iI 0), .long 0, .null, .null, .null]) (fun j hj => match j, hj with | 0, _ => rfl | 1, _ => rfl | 2, _ => rfl | 3, _ => rfl | 4, _ => rfl | 5, _ => rfl | 6, _ => rfl | 7, _ => rfl | 8, _ => rfl | 9, _ => rfl | 10, _ => rfl | n9 + 11, h9 => absurd (show n9 + 11 < 11 from h9) (by omega)) (Nat.le_of_ble_eq_true rfl) (Nat.le_of_ble_eq_true rfl) d_H_init_167 (fun q718 L718 f718 H Y S s718 nl718 m718 r718 e718 nz718 => ?_)
                                                have k719 : κ701 q1 = (21, 0) := tLe_k s718.2.2.1 k702
                                                have k720 : κ701 q11 = (13, 4000) := tLe_k s718.2.2.1 k703
                                                have k721 : κ701 q23 = (13, 12288) := tLe_k s718.2.2.1 k704
                                                have k722 : κ701 q37 = (13, 40) := tLe_k s718.2.2.1 k705
                                                have k723 : κ701 q71 = (5, 12) := tLe_k s718.2.2.1 k706
                                                have k724 : κ701 q53 = (15, 0) := tLe_k s718.2.2.1 k707
                                                have k725 : κ701 q408 = (6, 4) := tLe_k s718.2.2.1 k708
                                                have e726 : f718 h = .inr (0, [.ref q1, .ref q11, .ref q23, .ref q37, .ref q71, .ref q53, .null, .ref q408, .ref q558]) := (s718.2.2.2 _ ⟨m710, by rw [r711]; decide, by simp⟩).1.trans e716
                                                have m727 : h ∈ L718 := s718.2.1 _ m710
                                                have r728 : (κ701 h).1 = 0 := by rw [(s718.2.2.2 _ ⟨m710, by rw [r711]; decide, by simp⟩).2]; exact r711
                                                have e729 : okP κ701 E.2.2.2.2.1 8 4 19 (f718 q558) := okP_le s718.2.2.1 (by rw [(s718.2.2.2 _ ⟨m713, by rw [r714]; decide, by simp⟩).1]; exact o715)
                                                have m730 : q558 ∈ L718 := s718.2.1 _ m713
                                                have r731 : (κ701 q558).1 = 0 := by rw [(s718.2.2.2 _ ⟨m713, by rw [r714]; decide, by simp⟩).2]; exact r714
                                                refine lv_dup X.1 X.2.1 d_H_init_170 rfl ?_
                                                refine lv_aload_n X.1 X.2.1 d_H_init_171 rfl (lv_at hl 1 rfl) ?_
                                                refine q_get X.1 X.2.1 X.2.2.1 i_H X.2.2.2.1 X.2.2.2.2 Y m727 e726 rfl 0 (by decide) (X.2.2.1 _ lk_H_12) (fun _ h9 => h9) rfl d_H_init_172 ?_
                                                refine t_mk (x_runI (As := [.ref q1]) (rest := [.ref q718, .int (iI 4), .ref q558]) (n := 1) X hml hl.1 (c_So_init l D E T κ701 L718 f718 H.size q718 m718 r718 e718 q1 k719 S.1) (ok_k X Y hA KS KR) kl_H_So_init ks_So_init ki_So_init ini_So rfl ⟨rfl, rfl⟩ hd_So_init.2 ⟨Nat.le_of_ble_eq_true rfl, Nat.le_of_ble_eq_true rfl⟩ rfl (Nat.le_of_ble_eq_true rfl) d_H_init_175 ⟨Nat.le_of_ble_eq_true rfl, Nat.le_of_ble_eq_true rfl⟩) X Y hA S (by decide) nl718 (fun κ732 L732 f732 H locs Y S s732 p732 => ?_)
                                                obtain k732 := p732
                                                have k733 : κ732 q1 = (21, 0) := tLe_k s732.2.2.1 k719
                                                have k734 : κ732 q11 = (13, 4000) := tLe_k s732.2.2.1 k720
                                                have k735 : κ732 q23 = (13, 12288) := tLe_k s732.2.2.1 k721
                                                have k736 : κ732 q37 = (13, 40) := tLe_k s732.2.2.1 k722
                                                have k737 : κ732 q71 = (5, 12) := tLe_k s732.2.2.1 k723
                                                have k738 : κ732 q53 = (15, 0) := tLe_k s732.2.2.1 k724
                                                have k739 : κ732 q408 = (6, 4) := tLe_k s732.2.2.1 k725
                                                have e740 : f732 h = .inr (0, [.ref q1, .ref q11, .ref q23, .ref q37, .ref q71, .ref q53, .null, .ref q408, .ref q558]) := (s732.2.2.2 _ ⟨m727, by rw [r728]; decide, by simp only [List.mem_singleton]; exact (nz718 _ m710)⟩).1.trans e726
                                                have m741 : h ∈ L732 := s732.2.1 _ m727
                                                have r742 : (κ732 h).1 = 0 := by rw [(s732.2.2.2 _ ⟨m727, by rw [r728]; decide, by simp only [List.mem_singleton]; exact (nz718 _ m710)⟩).2]; exact r728
                                                have e743 : okP κ732 E.2.2.2.2.1 8 4 19 (f732 q558) := okP_le s732.2.2.1 (by rw [(s732.2.2.2 _ ⟨m730, by rw [r731]; decide, by simp only [List.mem_singleton]; exact (nz718 _ m713)⟩).1]; exact e729)
                                                have m744 : q558 ∈ L732 := s732.2.1 _ m730
                                                have r745 : (κ732 q558).1 = 0 := by rw [(s732.2.2.2 _ ⟨m730, by rw [r731]; decide, by simp only [List.mem_singleton]; exact (nz718 _ m713)⟩).2]; exact r731
                                                refine t_aast (ci := 9) (r := (R_So, F_So, 11)) (t0 := 4) X Y S m744 r745 e743 rfl k732 rfl (by omega) (by decide) (by decide) (fun h9 => nl558 h9.1) d_H_init_178 (fun f746 H locs Y S w746 o746 => ?_)
                                                have e747 : f746 h = .inr (0, [.ref q1, .ref q11, .ref q23, .ref q37, .ref q71, .ref q53, .null, .ref q408, .ref q558]) := (w746 _ (nz558 _ m550)).trans e740
                                                refine lv_iinc (v := iI 5) (lv' := [(1, .int (iI 5)), (0, .ref h)]) X.1 X.2.1 d_H_init_179 hl (k := 0) rfl (by decide) (by decide) rfl (fun ls hl => ?_)
                                                refine lv_goto (tgt := 156) X.1 X.2.1 d_H_init_182 (by decide) ?_
                                                refine lv_iload_n X.1 X.2.1 d_H_init_156 rfl (lv_at hl 0 rfl) ?_
                                                refine lv_bipush (v := iI 8) X.1 X.2.1 d_H_init_157 (by decide) ?_
                                                refine z_icmp_ge (tgt := 185) X.1 X.2.1 d_H_init_159 (by decide) ⟨by omega, by omega⟩ ⟨by omega, by omega⟩ (fun h748 => False.elim (by omega)) (fun h748 => ?_)
                                                · refine lv_aload_n X.1 X.2.1 d_H_init_162 rfl (lv_at hl 1 rfl) ?_
                                                  refine q_get X.1 X.2.1 X.2.2.1 i_H X.2.2.2.1 X.2.2.2.2 Y m741 e747 rfl 8 (by decide) (X.2.2.1 _ lk_H_56) (fun _ h9 => h9) rfl d_H_init_163 ?_
                                                  refine lv_iload_n X.1 X.2.1 d_H_init_166 rfl (lv_at hl 0 rfl) ?_
                                                  refine t_new (ci := 9) X Y S hA hF0 i_So t_So t_So_ok ck_H_54 mk_So ini_So rfl (fs := [.null, .int (iI 0), .int (iI 0), .null, .null, .int (iI 0), .int (iI 0), .long 0, .null, .null, .null]) (fun j hj => match j, hj with | 0, _ => rfl | 1, _ => rfl | 2, _ => rfl | 3, _ => rfl | 4, _ => rfl | 5, _ => rfl | 6, _ => rfl | 7, _ => rfl | 8, _ => rfl | 9, _ => rfl | 10, _ => rfl | n9 + 11, h9 => absurd (show n9 + 11 < 11 from h9) (by omega)) (Nat.le_of_ble_eq_true rfl) (Nat.le_of_ble_eq_true rfl) d_H_init_167 (fun q749 L749 f749 H Y S s749 nl749 m749 r749 e749 nz749 => ?_)
                                                  have k750 : κ732 q1 = (21, 0) := tLe_k s749.2.2.1 k733
                                                  have k751 : κ732 q11 = (13, 4000) := tLe_k s749.2.2.1 k734
                                                  have k752 : κ732 q23 = (13, 12288) := tLe_k s749.2.2.1 k735
                                                  have k753 : κ732 q37 = (13, 40) := tLe_k s749.2.2.1 k736
                                                  have k754 : κ732 q71 = (5, 12) := tLe_k s749.2.2.1 k737
                                                  have k755 : κ732 q53 = (15, 0) := tLe_k s749.2.2.1 k738
                                                  have k756 : κ732 q408 = (6, 4) := tLe_k s749.2.2.1 k739
                                                  have e757 : f749 h = .inr (0, [.ref q1, .ref q11, .ref q23, .ref q37, .ref q71, .ref q53, .null, .ref q408, .ref q558]) := (s749.2.2.2 _ ⟨m741, by rw [r742]; decide, by simp⟩).1.trans e747
                                                  have m758 : h ∈ L749 := s749.2.1 _ m741
                                                  have r759 : (κ732 h).1 = 0 := by rw [(s749.2.2.2 _ ⟨m741, by rw [r742]; decide, by simp⟩).2]; exact r742
                                                  have e760 : okP κ732 E.2.2.2.2.1 8 5 19 (f749 q558) := okP_le s749.2.2.1 (by rw [(s749.2.2.2 _ ⟨m744, by rw [r745]; decide, by simp⟩).1]; exact o746)
                                                  have m761 : q558 ∈ L749 := s749.2.1 _ m744
                                                  have r762 : (κ732 q558).1 = 0 := by rw [(s749.2.2.2 _ ⟨m744, by rw [r745]; decide, by simp⟩).2]; exact r745
                                                  refine lv_dup X.1 X.2.1 d_H_init_170 rfl ?_
                                                  refine lv_aload_n X.1 X.2.1 d_H_init_171 rfl (lv_at hl 1 rfl) ?_
                                                  refine q_get X.1 X.2.1 X.2.2.1 i_H X.2.2.2.1 X.2.2.2.2 Y m758 e757 rfl 0 (by decide) (X.2.2.1 _ lk_H_12) (fun _ h9 => h9) rfl d_H_init_172 ?_
                                                  refine t_mk (x_runI (As := [.ref q1]) (rest := [.ref q749, .int (iI 5), .ref q558]) (n := 1) X hml hl.1 (c_So_init l D E T κ732 L749 f749 H.size q749 m749 r749 e749 q1 k750 S.1) (ok_k X Y hA KS KR) kl_H_So_init ks_So_init ki_So_init ini_So rfl ⟨rfl, rfl⟩ hd_So_init.2 ⟨Nat.le_of_ble_eq_true rfl, Nat.le_of_ble_eq_true rfl⟩ rfl (Nat.le_of_ble_eq_true rfl) d_H_init_175 ⟨Nat.le_of_ble_eq_true rfl, Nat.le_of_ble_eq_true rfl⟩) X Y hA S (by decide) nl749 (fun κ763 L763 f763 H locs Y S s763 p763 => ?_)
                                                  obtain k763 := p763
                                                  have k764 : κ763 q1 = (21, 0) := tLe_k s763.2.2.1 k750
                                                  have k765 : κ763 q11 = (13, 4000) := tLe_k s763.2.2.1 k751
                                                  have k766 : κ763 q23 = (13, 12288) := tLe_k s763.2.2.1 k752
                                                  have k767 : κ763 q37 = (13, 40) := tLe_k s763.2.2.1 k753
                                                  have k768 : κ763 q71 = (5, 12) := tLe_k s763.2.2.1 k754
                                                  have k769 : κ763 q53 = (15, 0) := tLe_k s763.2.2.1 k755
                                                  have k770 : κ763 q408 = (6, 4) := tLe_k s763.2.2.1 k756
                                                  have e771 : f763 h = .inr (0, [.ref q1, .ref q11, .ref q23, .ref q37, .ref q71, .ref q53, .null, .ref q408, .ref q558]) := (s763.2.2.2 _ ⟨m758, by rw [r759]; decide, by simp only [List.mem_singleton]; exact (nz749 _ m741)⟩).1.trans e757
                                                  have m772 : h ∈ L763 := s763.2.1 _ m758
                                                  have r773 : (κ763 h).1 = 0 := by rw [(s763.2.2.2 _ ⟨m758, by rw [r759]; decide, by simp only [List.mem_singleton]; exact (nz749 _ m741)⟩).2]; exact r759
                                                  have e774 : okP κ763 E.2.2.2.2.1 8 5 19 (f763 q558) := okP_le s763.2.2.1 (by rw [(s763.2.2.2 _ ⟨m761, by rw [r762]; decide, by simp only [List.mem_singleton]; exact (nz749 _ m744)⟩).1]; exact e760)
                                                  have m775 : q558 ∈ L763 := s763.2.1 _ m761
                                                  have r776 : (κ763 q558).1 = 0 := by rw [(s763.2.2.2 _ ⟨m761, by rw [r762]; decide, by simp only [List.mem_singleton]; exact (nz749 _ m744)⟩).2]; exact r762
                                                  refine t_aast (ci := 9) (r := (R_So, F_So, 11)) (t0 := 4) X Y S m775 r776 e774 rfl k763 rfl (by omega) (by decide) (by decide) (fun h9 => nl558 h9.1) d_H_init_178 (fun f777 H locs Y S w777 o777 => ?_)
                                                  have e778 : f777 h = .inr (0, [.ref q1, .ref q11, .ref q23, .ref q37, .ref q71, .ref q53, .null, .ref q408, .ref q558]) := (w777 _ (nz558 _ m550)).trans e771
                                                  refine lv_iinc (v := iI 6) (lv' := [(1, .int (iI 6)), (0, .ref h)]) X.1 X.2.1 d_H_init_179 hl (k := 0) rfl (by decide) (by decide) rfl (fun ls hl => ?_)
                                                  refine lv_goto (tgt := 156) X.1 X.2.1 d_H_init_182 (by decide) ?_
                                                  refine lv_iload_n X.1 X.2.1 d_H_init_156 rfl (lv_at hl 0 rfl) ?_
                                                  refine lv_bipush (v := iI 8) X.1 X.2.1 d_H_init_157 (by decide) ?_
                                                  refine z_icmp_ge (tgt := 185) X.1 X.2.1 d_H_init_159 (by decide) ⟨by omega, by omega⟩ ⟨by omega, by omega⟩ (fun h779 => False.elim (by omega)) (fun h779 => ?_)
                                                  · refine lv_aload_n X.1 X.2.1 d_H_init_162 rfl (lv_at hl 1 rfl) ?_
                                                    refine q_get X.1 X.2.1 X.2.2.1 i_H X.2.2.2.1 X.2.2.2.2 Y m772 e778 rfl 8 (by decide) (X.2.2.1 _ lk_H_56) (fun _ h9 => h9) rfl d_H_init_163 ?_
                                                    refine lv_iload_n X.1 X.2.1 d_H_init_166 rfl (lv_at hl 0 rfl) ?_
                                                    refine t_new (ci := 9) X Y S hA hF0 i_So t_So t_So_ok ck_H_54 mk_So ini_So rfl (fs := [.null, .int (iI 0), .int (iI 0), .null, .null, .int (iI 0), .int (iI 0), .long 0, .null, .null, .null]) (fun j hj => match j, hj with | 0, _ => rfl | 1, _ => rfl | 2, _ => rfl | 3, _ => rfl | 4, _ => rfl | 5, _ => rfl | 6, _ => rfl | 7, _ => rfl | 8, _ => rfl | 9, _ => rfl | 10, _ => rfl | n9 + 11, h9 => absurd (show n9 + 11 < 11 from h9) (by omega)) (Nat.le_of_ble_eq_true rfl) (Nat.le_of_ble_eq_true rfl) d_H_init_167 (fun q780 L780 f780 H Y S s780 nl780 m780 r780 e780 nz780 => ?_)
                                                    have k781 : κ763 q1 = (21, 0) := tLe_k s780.2.2.1 k764
                                                    have k782 : κ763 q11 = (13, 4000) := tLe_k s780.2.2.1 k765
                                                    have k783 : κ763 q23 = (13, 12288) := tLe_k s780.2.2.1 k766
                                                    have k784 : κ763 q37 = (13, 40) := tLe_k s780.2.2.1 k767
                                                    have k785 : κ763 q71 = (5, 12) := tLe_k s780.2.2.1 k768
                                                    have k786 : κ763 q53 = (15, 0) := tLe_k s780.2.2.1 k769
                                                    have k787 : κ763 q408 = (6, 4) := tLe_k s780.2.2.1 k770
                                                    have e788 : f780 h = .inr (0, [.ref q1, .ref q11, .ref q23, .ref q37, .ref q71, .ref q53, .null, .ref q408, .ref q558]) := (s780.2.2.2 _ ⟨m772, by rw [r773]; decide, by simp⟩).1.trans e778
                                                    have m789 : h ∈ L780 := s780.2.1 _ m772
                                                    have r790 : (κ763 h).1 = 0 := by rw [(s780.2.2.2 _ ⟨m772, by rw [r773]; decide, by simp⟩).2]; exact r773
                                                    have e791 : okP κ763 E.2.2.2.2.1 8 6 19 (f780 q558) := okP_le s780.2.2.1 (by rw [(s780.2.2.2 _ ⟨m775, by rw [r776]; decide, by simp⟩).1]; exact o777)
                                                    have m792 : q558 ∈ L780 := s780.2.1 _ m775
                                                    have r793 : (κ763 q558).1 = 0 := by rw [(s780.2.2.2 _ ⟨m775, by rw [r776]; decide, by simp⟩).2]; exact r776
                                                    refine lv_dup X.1 X.2.1 d_H_init_170 rfl ?_
                                                    refine lv_aload_n X.1 X.2.1 d_H_init_171 rfl (lv_at hl 1 rfl) ?_
                                                    refine q_get X.1 X.2.1 X.2.2.1 i_H X.2.2.2.1 X.2.2.2.2 Y m789 e788 rfl 0 (by decide) (X.2.2.1 _ lk_H_12) (fun _ h9 => h9) rfl d_H_init_172 ?_
                                                    refine t_mk (x_runI (As := [.ref q1]) (rest := [.ref q780, .int (iI 6), .ref q558]) (n := 1) X hml hl.1 (c_So_init l D E T κ763 L780 f780 H.size q780 m780 r780 e780 q1 k781 S.1) (ok_k X Y hA KS KR) kl_H_So_init ks_So_init ki_So_init ini_So rfl ⟨rfl, rfl⟩ hd_So_init.2 ⟨Nat.le_of_ble_eq_true rfl, Nat.le_of_ble_eq_true rfl⟩ rfl (Nat.le_of_ble_eq_true rfl) d_H_init_175 ⟨Nat.le_of_ble_eq_true rfl, Nat.le_of_ble_eq_true rfl⟩) X Y hA S (by decide) nl780 (fun κ794 L794 f794 H locs Y S s794 p794 => ?_)
                                                    obtain k794 := p794
                                                    have k795 : κ794 q1 = (21, 0) := tLe_k s794.2.2.1 k781
                                                    have k796 : κ794 q11 = (13, 4000) := tLe_k s794.2.2.1 k782
                                                    have k797 : κ794 q23 = (13, 12288) := tLe_k s794.2.2.1 k783
                                                    have k798 : κ794 q37 = (13, 40) := tLe_k s794.2.2.1 k784
                                                    have k799 : κ794 q71 = (5, 12) := tLe_k s794.2.2.1 k785
                                                    have k800 : κ794 q53 = (15, 0) := tLe_k s794.2.2.1 k786
                                                    have k801 : κ794 q408 = (6, 4) := tLe_k s794.2.2.1 k787
                                                    have e802 : f794 h = .inr (0, [.ref q1, .ref q11, .ref q23, .ref q37, .ref q71, .ref q53, .null, .ref q408, .ref q558]) := (s794.2.2.2 _ ⟨m789, by rw [r790]; decide, by simp only [List.mem_singleton]; exact (nz780 _ m772)⟩).1.trans e788
                                                    have m803 : h ∈ L794 := s794.2.1 _ m789
                                                    have r804 : (κ794 h).1 = 0 := by rw [(s794.2.2.2 _ ⟨m789, by rw [r790]; decide, by simp only [List.mem_singleton]; exact (nz780 _ m772)⟩).2]; exact r790
                                                    have e805 : okP κ794 E.2.2.2.2.1 8 6 19 (f794 q558) := okP_le s794.2.2.1 (by rw [(s794.2.2.2 _ ⟨m792, by rw [r793]; decide, by simp only [List.mem_singleton]; exact (nz780 _ m775)⟩).1]; exact e791)
                                                    have m806 : q558 ∈ L794 := s794.2.1 _ m792
                                                    have r807 : (κ794 q558).1 = 0 := by rw [(s794.2.2.2 _ ⟨m792, by rw [r793]; decide, by simp only [List.mem_singleton]; exact (nz780 _ m775)⟩).2]; exact r793
                                                    refine t_aast (ci := 9) (r := (R_So, F_So, 11)) (t0 := 4) X Y S m806 r807 e805 rfl k794 rfl (by omega) (by decide) (by decide) (fun h9 => nl558 h9.1) d_H_init_178 (fun f808 H locs Y S w808 o808 => ?_)
                                                    have e809 : f808 h = .inr (0, [.ref q1, .ref q11, .ref q23, .ref q37, .ref q71, .ref q53, .null, .ref q408, .ref q558]) := (w808 _ (nz558 _ m550)).trans e802
                                                    refine lv_iinc (v := iI 7) (lv' := [(1, .int (iI 7)), (0, .ref h)]) X.1 X.2.1 d_H_init_179 hl (k := 0) rfl (by decide) (by decide) rfl (fun ls hl => ?_)
                                                    refine lv_goto (tgt := 156) X.1 X.2.1 d_H_init_182 (by decide) ?_
                                                    refine lv_iload_n X.1 X.2.1 d_H_init_156 rfl (lv_at hl 0 rfl) ?_
                                                    refine lv_bipush (v := iI 8) X.1 X.2.1 d_H_init_157 (by decide) ?_
                                                    refine z_icmp_ge (tgt := 185) X.1 X.2.1 d_H_init_159 (by decide) ⟨by omega, by omega⟩ ⟨by omega, by omega⟩ (fun h810 => False.elim (by omega)) (fun h810 => ?_)
                                                    · refine lv_aload_n X.1 X.2.1 d_H_init_162 rfl (lv_at hl 1 rfl) ?_
                                                      refine q_get X.1 X.2.1 X.2.2.1 i_H X.2.2.2.1 X.2.2.2.2 Y m803 e809 rfl 8 (by decide) (X.2.2.1 _ lk_H_56) (fun _ h9 => h9) rfl d_H_init_163 ?_
                                                      refine lv_iload_n X.1 X.2.1 d_H_init_166 rfl (lv_at hl 0 rfl) ?_
                                                      refine t_new (ci := 9) X Y S hA hF0 i_So t_So t_So_ok ck_H_54 mk_So ini_So rfl (fs := [.null, .int (iI 0), .int (iI 0), .null, .null, .int (iI 0), .int (iI 0), .long 0, .null, .null, .null]) (fun j hj => match j, hj with | 0, _ => rfl | 1, _ => rfl | 2, _ => rfl | 3, _ => rfl | 4, _ => rfl | 5, _ => rfl | 6, _ => rfl | 7, _ => rfl | 8, _ => rfl | 9, _ => rfl | 10, _ => rfl | n9 + 11, h9 => absurd (show n9 + 11 < 11 from h9) (by omega)) (Nat.le_of_ble_eq_true rfl) (Nat.le_of_ble_eq_true rfl) d_H_init_167 (fun q811 L811 f811 H Y S s811 nl811 m811 r811 e811 nz811 => ?_)
                                                      have k812 : κ794 q1 = (21, 0) := tLe_k s811.2.2.1 k795
                                                      have k813 : κ794 q11 = (13, 4000) := tLe_k s811.2.2.1 k796
                                                      have k814 : κ794 q23 = (13, 12288) := tLe_k s811.2.2.1 k797
                                                      have k815 : κ794 q37 = (13, 40) := tLe_k s811.2.2.1 k798
                                                      have k816 : κ794 q71 = (5, 12) := tLe_k s811.2.2.1 k799
                                                      have k817 : κ794 q53 = (15, 0) := tLe_k s811.2.2.1 k800
                                                      have k818 : κ794 q408 = (6, 4) := tLe_k s811.2.2.1 k801
                                                      have e819 : f811 h = .inr (0, [.ref q1, .ref q11, .ref q23, .ref q37, .ref q71, .ref q53, .null, .ref q408, .ref q558]) := (s811.2.2.2 _ ⟨m803, by rw [r804]; decide, by simp⟩).1.trans e809
                                                      have m820 : h ∈ L811 := s811.2.1 _ m803
                                                      have r821 : (κ794 h).1 = 0 := by rw [(s811.2.2.2 _ ⟨m803, by rw [r804]; decide, by simp⟩).2]; exact r804
                                                      have e822 : okP κ794 E.2.2.2.2.1 8 7 19 (f811 q558) := okP_le s811.2.2.1 (by rw [(s811.2.2.2 _ ⟨m806, by rw [r807]; decide, by simp⟩).1]; exact o808)
                                                      have m823 : q558 ∈ L811 := s811.2.1 _ m806
                                                      have r824 : (κ794 q558).1 = 0 := by rw [(s811.2.2.2 _ ⟨m806, by rw [r807]; decide, by simp⟩).2]; exact r807
                                                      refine lv_dup X.1 X.2.1 d_H_init_170 rfl ?_
                                                      refine lv_aload_n X.1 X.2.1 d_H_init_171 rfl (lv_at hl 1 rfl) ?_
                                                      refine q_get X.1 X.2.1 X.2.2.1 i_H X.2.2.2.1 X.2.2.2.2 Y m820 e819 rfl 0 (by decide) (X.2.2.1 _ lk_H_12) (fun _ h9 => h9) rfl d_H_init_172 ?_
                                                      refine t_mk (x_runI (As := [.ref q1]) (rest := [.ref q811, .int (iI 7), .ref q558]) (n := 1) X hml hl.1 (c_So_init l D E T κ794 L811 f811 H.size q811 m811 r811 e811 q1 k812 S.1) (ok_k X Y hA KS KR) kl_H_So_init ks_So_init ki_So_init ini_So rfl ⟨rfl, rfl⟩ hd_So_init.2 ⟨Nat.le_of_ble_eq_true rfl, Nat.le_of_ble_eq_true rfl⟩ rfl (Nat.le_of_ble_eq_true rfl) d_H_init_175 ⟨Nat.le_of_ble_eq_true rfl, Nat.le_of_ble_eq_true rfl⟩) X Y hA S (by decide) nl811 (fun κ825 L825 f825 H locs Y S s825 p825 => ?_)
                                                      obtain k825 := p825
                                                      have k826 : κ825 q1 = (21, 0) := tLe_k s825.2.2.1 k812
                                                      have k827 : κ825 q11 = (13, 4000) := tLe_k s825.2.2.1 k813
                                                      have k828 : κ825 q23 = (13, 12288) := tLe_k s825.2.2.1 k814
                                                      have k829 : κ825 q37 = (13, 40) := tLe_k s825.2.2.1 k815
                                                      have k830 : κ825 q71 = (5, 12) := tLe_k s825.2.2.1 k816
                                                      have k831 : κ825 q53 = (15, 0) := tLe_k s825.2.2.1 k817
                                                      have k832 : κ825 q408 = (6, 4) := tLe_k s825.2.2.1 k818
                                                      have e833 : f825 h = .inr (0, [.ref q1, .ref q11, .ref q23, .ref q37, .ref q71, .ref q53, .null, .ref q408, .ref q558]) := (s825.2.2.2 _ ⟨m820, by rw [r821]; decide, by simp only [List.mem_singleton]; exact (nz811 _ m803)⟩).1.trans e819
                                                      have m834 : h ∈ L825 := s825.2.1 _ m820
                                                      have r835 : (κ825 h).1 = 0 := by rw [(s825.2.2.2 _ ⟨m820, by rw [r821]; decide, by simp only [List.mem_singleton]; exact (nz811 _ m803)⟩).2]; exact r821
                                                      have e836 : okP κ825 E.2.2.2.2.1 8 7 19 (f825 q558) := okP_le s825.2.2.1 (by rw [(s825.2.2.2 _ ⟨m823, by rw [r824]; decide, by simp only [List.mem_singleton]; exact (nz811 _ m806)⟩).1]; exact e822)
                                                      have m837 : q558 ∈ L825 := s825.2.1 _ m823
                                                      have r838 : (κ825 q558).1 = 0 := by rw [(s825.2.2.2 _ ⟨m823, by rw [r824]; decide, by simp only [List.mem_singleton]; exact (nz811 _ m806)⟩).2]; exact r824
                                                      refine t_aast (ci := 9) (r := (R_So, F_So, 11)) (t0 := 4) X Y S m837 r838 e836 rfl k825 rfl (by omega) (by decide) (by decide) (fun h9 => nl558 h9.1) d_H_init_178 (fun f839 H locs Y S w839 o839 => ?_)
                                                      have e840 : f839 h = .inr (0, [.ref q1, .ref q11, .ref q23, .ref q37, .ref q71, .ref q53, .null, .ref q408, .ref q558]) := (w839 _ (nz558 _ m550)).trans e833
                                                      refine lv_iinc (v := iI 8) (lv' := [(1, .int (iI 8)), (0, .ref h)]) X.1 X.2.1 d_H_init_179 hl (k := 0) rfl (by decide) (by decide) rfl (fun ls hl => ?_)
                                                      refine lv_goto (tgt := 156) X.1 X.2.1 d_H_init_182 (by decide) ?_
                                                      refine lv_iload_n X.1 X.2.1 d_H_init_156 rfl (lv_at hl 0 rfl) ?_
                                                      refine lv_bipush (v := iI 8) X.1 X.2.1 d_H_init_157 (by decide) ?_
                                                      refine z_icmp_ge (tgt := 185) X.1 X.2.1 d_H_init_159 (by decide) ⟨by omega, by omega⟩ ⟨by omega, by omega⟩ (fun h841 => ?_) (fun h841 => False.elim (by omega))
                                                      · refine lv_aload_n X.1 X.2.1 d_H_init_185 rfl (lv_at hl 1 rfl) ?_
                                                        refine q_get X.1 X.2.1 X.2.2.1 i_H X.2.2.2.1 X.2.2.2.2 Y m834 e840 rfl 3 (by decide) (X.2.2.1 _ lk_H_28) (fun _ h9 => h9) rfl d_H_init_186 ?_
                                                        obtain ⟨S, s842⟩ := t_arrkind (c1 := 7) (n := 8) S m837 r838 nl558 hF0 (raw0_of hw nl558) (okP_le (tLe_raw r838) o839)
                                                        have k842 : (va_up κ825 q558 (7, 8)) q558 = (7, 8) := va_up_self _ _ _
                                                        generalize va_up κ825 q558 (7, 8) = κ842 at S s842 k842
                                                        have k843 : κ842 q37 = (13, 40) := tLe_k s842.2.2.1 k829
                                                        have k844 : κ842 q1 = (21, 0) := tLe_k s842.2.2.1 k826
                                                        have k845 : κ842 q11 = (13, 4000) := tLe_k s842.2.2.1 k827
                                                        have k846 : κ842 q23 = (13, 12288) := tLe_k s842.2.2.1 k828
                                                        have k847 : κ842 q71 = (5, 12) := tLe_k s842.2.2.1 k830
                                                        have k848 : κ842 q53 = (15, 0) := tLe_k s842.2.2.1 k831
                                                        have k849 : κ842 q408 = (6, 4) := tLe_k s842.2.2.1 k832
                                                        have e850 : f839 h = .inr (0, [.ref q1, .ref q11, .ref q23, .ref q37, .ref q71, .ref q53, .null, .ref q408, .ref q558]) := (s842.2.2.2 _ ⟨m834, by rw [r835]; decide, by simp only [List.mem_singleton]; exact (nz558 _ m550)⟩).1.trans e840
                                                        have m851 : h ∈ L825 := s842.2.1 _ m834
                                                        have r852 : (κ842 h).1 = 0 := by rw [(s842.2.2.2 _ ⟨m834, by rw [r835]; decide, by simp only [List.mem_singleton]; exact (nz558 _ m550)⟩).2]; exact r835
                                                        refine t_nv (x_runS (As := [.ref q37]) (rest := []) (n := 1) X hml hl.1 (c_H_putCentreName l D E T κ842 L825 f839 H.size q37 40 k843 (by omega) S.1) (ok_k X Y hA KS KR) kl_H_H_putCentreName ks_H_putCentreName ki_H_putCentreName ini_H ⟨rfl, rfl⟩ hd_H_putCentreName.2 ⟨Nat.le_of_ble_eq_true rfl, Nat.le_of_ble_eq_true rfl⟩ rfl (Nat.le_of_ble_eq_true rfl) d_H_init_189 ⟨Nat.le_of_ble_eq_true rfl, Nat.le_of_ble_eq_true rfl⟩) X Y hA S (by decide) (fun f853 H locs Y S s853 p853 => ?_)
                                                        have e854 : f853 h = .inr (0, [.ref q1, .ref q11, .ref q23, .ref q37, .ref q71, .ref q53, .null, .ref q408, .ref q558]) := ((s853.2.2.2 _ ⟨m851, by rw [r852]; decide, by simp⟩).1).trans e850
                                                        refine lv_aload_n X.1 X.2.1 d_H_init_192 rfl (lv_at hl 1 rfl) ?_
                                                        refine q_get X.1 X.2.1 X.2.2.1 i_H X.2.2.2.1 X.2.2.2.2 Y m851 e854 rfl 4 (by decide) (X.2.2.1 _ lk_H_42) (fun _ h9 => h9) rfl d_H_init_193 ?_
                                                        refine lv_iconst (v := iI 0) X.1 X.2.1 d_H_init_196 (by decide) ?_
                                                        refine t_aald X Y S k847 (fun h9 => h9) (t0 := 2) rfl (by omega) (by omega) (by omega) d_H_init_197 (fun b855 e855 k855 => ?_)
                                                        refine lv_aload_n X.1 X.2.1 d_H_init_198 rfl (lv_at hl 1 rfl) ?_
                                                        refine q_get X.1 X.2.1 X.2.2.1 i_H X.2.2.2.1 X.2.2.2.2 Y m851 e854 rfl 3 (by decide) (X.2.2.1 _ lk_H_28) (fun _ h9 => h9) rfl d_H_init_199 ?_
                                                        refine t_nv (t_runV (As := [.ref q37]) (rest := []) (n := 1) X Y S k855 hml hl.1 (c_Pr_begin l D E T κ842 L825 f853 H.size b855 k855 q37 40 k843 (by omega) S.1) (ok_k X Y hA KS KR) rfl kl_H_Pr_begin ks_Pr_begin kx_Pr_begin ki_Pr_begin ini_Pr ⟨rfl, rfl⟩ hd_Pr_begin ⟨Nat.le_of_ble_eq_true rfl, Nat.le_of_ble_eq_true rfl⟩ rfl (Nat.le_of_ble_eq_true rfl) d_H_init_202 ⟨Nat.le_of_ble_eq_true rfl, Nat.le_of_ble_eq_true rfl⟩) X Y hA S (by decide) (fun f856 H locs Y S s856 p856 => ?_)
                                                        have e857 : f856 h = .inr (0, [.ref q1, .ref q11, .ref q23, .ref q37, .ref q71, .ref q53, .null, .ref q408, .ref q558]) := ((s856.2.2.2 _ ⟨m851, by rw [r852]; decide, by simp⟩).1).trans e854
                                                        refine lv_aload_n X.1 X.2.1 d_H_init_205 rfl (lv_at hl 1 rfl) ?_
                                                        refine q_get X.1 X.2.1 X.2.2.1 i_H X.2.2.2.1 X.2.2.2.2 Y m851 e857 rfl 4 (by decide) (X.2.2.1 _ lk_H_42) (fun _ h9 => h9) rfl d_H_init_206 ?_
                                                        refine lv_iconst (v := iI 0) X.1 X.2.1 d_H_init_209 (by decide) ?_
                                                        refine t_aald X Y S k847 (fun h9 => h9) (t0 := 2) rfl (by omega) (by omega) (by omega) d_H_init_210 (fun b858 e858 k858 => ?_)
                                                        refine lv_aload_n X.1 X.2.1 d_H_init_211 rfl (lv_at hl 1 rfl) ?_
                                                        refine q_get X.1 X.2.1 X.2.2.1 i_H X.2.2.2.1 X.2.2.2.2 Y m851 e857 rfl 0 (by decide) (X.2.2.1 _ lk_H_12) (fun _ h9 => h9) rfl d_H_init_212 ?_
                                                        refine lv_aload_n X.1 X.2.1 d_H_init_215 rfl (lv_at hl 1 rfl) ?_
                                                        refine q_get X.1 X.2.1 X.2.2.1 i_H X.2.2.2.1 X.2.2.2.2 Y m851 e857 rfl 1 (by decide) (X.2.2.1 _ lk_H_21) (fun _ h9 => h9) rfl d_H_init_216 ?_
                                                        refine lv_iconst (v := iI 0) X.1 X.2.1 d_H_init_219 (by decide) ?_
                                                        refine lv_iconst (v := iI 1) X.1 X.2.1 d_H_init_220 (by decide) ?_
                                                        refine t_av (t_runV (As := [.ref q1, .ref q11, .int (iI 0), .int (iI 1)]) (rest := []) (n := 4) X Y S k858 hml hl.1 (c_Pr_rekey l D E T κ842 L825 f856 H.size b858 k858 q1 k844 q11 4000 k845 (by omega) 0 (by omega) (by omega) 1 (by omega) (by omega) S.1) (ok_k X Y hA KS KR) rfl kl_H_Pr_rekey ks_Pr_rekey kx_Pr_rekey ki_Pr_rekey ini_Pr ⟨rfl, rfl⟩ hd_Pr_rekey ⟨Nat.le_of_ble_eq_true rfl, Nat.le_of_ble_eq_true rfl⟩ rfl (Nat.le_of_ble_eq_true rfl) d_H_init_221 ⟨Nat.le_of_ble_eq_true rfl, Nat.le_of_ble_eq_true rfl⟩) X Y hA S (by decide) (fun κ859 L859 f859 H locs Y S s859 p859 => ?_)
                                                        have k860 : κ859 q1 = (21, 0) := tLe_k s859.2.2.1 k844
                                                        have k861 : κ859 q11 = (13, 4000) := tLe_k s859.2.2.1 k845
                                                        have k862 : κ859 q23 = (13, 12288) := tLe_k s859.2.2.1 k846
                                                        have k863 : κ859 q37 = (13, 40) := tLe_k s859.2.2.1 k843
                                                        have k864 : κ859 q71 = (5, 12) := tLe_k s859.2.2.1 k847
                                                        have k865 : κ859 q53 = (15, 0) := tLe_k s859.2.2.1 k848
                                                        have k866 : κ859 q408 = (6, 4) := tLe_k s859.2.2.1 k849
                                                        have k867 : κ859 q558 = (7, 8) := tLe_k s859.2.2.1 k842
                                                        have e868 : f859 h = .inr (0, [.ref q1, .ref q11, .ref q23, .ref q37, .ref q71, .ref q53, .null, .ref q408, .ref q558]) := (s859.2.2.2 _ ⟨m851, by rw [r852]; decide, by simp⟩).1.trans e857
                                                        have m869 : h ∈ L859 := s859.2.1 _ m851
                                                        have r870 : (κ859 h).1 = 0 := by rw [(s859.2.2.2 _ ⟨m851, by rw [r852]; decide, by simp⟩).2]; exact r852
                                                        refine lv_aload_n X.1 X.2.1 d_H_init_224 rfl (lv_at hl 1 rfl) ?_
                                                        refine t_new (ci := 4) X Y S hA hF0 i_Ce t_Ce t_Ce_ok ck_H_72 mk_Ce ini_Ce rfl (fs := [.null, .null, .null, .null, .null, .null, .int (iI 0), .int (iI 0), .int (iI 0), .int (iI 0), .null, .null, .int (iI 0), .int (iI 0), .int (iI 0), .int (iI 0)]) (fun j hj => match j, hj with | 0, _ => rfl | 1, _ => rfl | 2, _ => rfl | 3, _ => rfl | 4, _ => rfl | 5, _ => rfl | 6, _ => rfl | 7, _ => rfl | 8, _ => rfl | 9, _ => rfl | 10, _ => rfl | 11, _ => rfl | 12, _ => rfl | 13, _ => rfl | 14, _ => rfl | 15, _ => rfl | n9 + 16, h9 => absurd (show n9 + 16 < 16 from h9) (by omega)) (Nat.le_of_ble_eq_true rfl) (Nat.le_of_ble_eq_true rfl) d_H_init_225 (fun q871 L871 f871 H Y S s871 nl871 m871 r871 e871 nz871 => ?_)
                                                        have k872 : κ859 q1 = (21, 0) := tLe_k s871.2.2.1 k860
                                                        have k873 : κ859 q11 = (13, 4000) := tLe_k s871.2.2.1 k861
                                                        have k874 : κ859 q23 = (13, 12288) := tLe_k s871.2.2.1 k862
                                                        have k875 : κ859 q37 = (13, 40) := tLe_k s871.2.2.1 k863
                                                        have k876 : κ859 q71 = (5, 12) := tLe_k s871.2.2.1 k864
                                                        have k877 : κ859 q53 = (15, 0) := tLe_k s871.2.2.1 k865
                                                        have k878 : κ859 q408 = (6, 4) := tLe_k s871.2.2.1 k866
                                                        have k879 : κ859 q558 = (7, 8) := tLe_k s871.2.2.1 k867
                                                        have e880 : f871 h = .inr (0, [.ref q1, .ref q11, .ref q23, .ref q37, .ref q71, .ref q53, .null, .ref q408, .ref q558]) := (s871.2.2.2 _ ⟨m869, by rw [r870]; decide, by simp⟩).1.trans e868
                                                        have m881 : h ∈ L871 := s871.2.1 _ m869
                                                        have r882 : (κ859 h).1 = 0 := by rw [(s871.2.2.2 _ ⟨m869, by rw [r870]; decide, by simp⟩).2]; exact r870
                                                        refine lv_dup X.1 X.2.1 d_H_init_228 rfl ?_
                                                        refine lv_aload_n X.1 X.2.1 d_H_init_229 rfl (lv_at hl 1 rfl) ?_
                                                        refine q_get X.1 X.2.1 X.2.2.1 i_H X.2.2.2.1 X.2.2.2.2 Y m881 e880 rfl 0 (by decide) (X.2.2.1 _ lk_H_12) (fun _ h9 => h9) rfl d_H_init_230 ?_
                                                        refine lv_aload_n X.1 X.2.1 d_H_init_233 rfl (lv_at hl 1 rfl) ?_
                                                        refine q_get X.1 X.2.1 X.2.2.1 i_H X.2.2.2.1 X.2.2.2.2 Y m881 e880 rfl 5 (by decide) (X.2.2.1 _ lk_H_36) (fun _ h9 => h9) rfl d_H_init_234 ?_
                                                        refine lv_aload_n X.1 X.2.1 d_H_init_237 rfl (lv_at hl 1 rfl) ?_
                                                        refine q_get X.1 X.2.1 X.2.2.1 i_H X.2.2.2.1 X.2.2.2.2 Y m881 e880 rfl 4 (by decide) (X.2.2.1 _ lk_H_42) (fun _ h9 => h9) rfl d_H_init_238 ?_
                                                        refine lv_aload_n X.1 X.2.1 d_H_init_241 rfl (lv_at hl 1 rfl) ?_
                                                        refine q_get X.1 X.2.1 X.2.2.1 i_H X.2.2.2.1 X.2.2.2.2 Y m881 e880 rfl 1 (by decide) (X.2.2.1 _ lk_H_21) (fun _ h9 => h9) rfl d_H_init_242 ?_
                                                        refine lv_aload_n X.1 X.2.1 d_H_init_245 rfl (lv_at hl 1 rfl) ?_
                                                        refine q_get X.1 X.2.1 X.2.2.1 i_H X.2.2.2.1 X.2.2.2.2 Y m881 e880 rfl 2 (by decide) (X.2.2.1 _ lk_H_25) (fun _ h9 => h9) rfl d_H_init_246 ?_
                                                        refine t_mk (x_runI (As := [.ref q1, .ref q53, .ref q71, .ref q11, .ref q23]) (rest := [.ref q871, .ref h]) (n := 5) X hml hl.1 (c_Ce_init l D E T κ859 L871 f871 H.size q871 m871 r871 e871 q1 k872 q53 k877 q71 k876 q11 4000 k873 (by omega) q23 12288 k874 (by omega) S.1) (ok_k X Y hA KS KR) kl_H_Ce_init ks_Ce_init ki_Ce_init ini_Ce rfl ⟨rfl, rfl⟩ hd_Ce_init.2 ⟨Nat.le_of_ble_eq_true rfl, Nat.le_of_ble_eq_true rfl⟩ rfl (Nat.le_of_ble_eq_true rfl) d_H_init_249 ⟨Nat.le_of_ble_eq_true rfl, Nat.le_of_ble_eq_true rfl⟩) X Y hA S (by decide) nl871 (fun κ883 L883 f883 H locs Y S s883 p883 => ?_)
                                                        obtain k883 := p883
                                                        have k884 : κ883 q1 = (21, 0) := tLe_k s883.2.2.1 k872
                                                        have k885 : κ883 q11 = (13, 4000) := tLe_k s883.2.2.1 k873
                                                        have k886 : κ883 q23 = (13, 12288) := tLe_k s883.2.2.1 k874
                                                        have k887 : κ883 q37 = (13, 40) := tLe_k s883.2.2.1 k875
                                                        have k888 : κ883 q71 = (5, 12) := tLe_k s883.2.2.1 k876
                                                        have k889 : κ883 q53 = (15, 0) := tLe_k s883.2.2.1 k877
                                                        have k890 : κ883 q408 = (6, 4) := tLe_k s883.2.2.1 k878
                                                        have k891 : κ883 q558 = (7, 8) := tLe_k s883.2.2.1 k879
                                                        have e892 : f883 h = .inr (0, [.ref q1, .ref q11, .ref q23, .ref q37, .ref q71, .ref q53, .null, .ref q408, .ref q558]) := (s883.2.2.2 _ ⟨m881, by rw [r882]; decide, by simp only [List.mem_singleton]; exact (nz871 _ m869)⟩).1.trans e880
                                                        have m893 : h ∈ L883 := s883.2.1 _ m881
                                                        have r894 : (κ883 h).1 = 0 := by rw [(s883.2.2.2 _ ⟨m881, by rw [r882]; decide, by simp only [List.mem_singleton]; exact (nz871 _ m869)⟩).2]; exact r882
                                                        refine q_putF X.1 X.2.1 X.2.2.1 i_H t_H t_H_ok n_H X.2.2.2.1 X.2.2.2.2 Y m893 e892 rfl 6 (by decide) (X.2.2.1 _ lk_H_77) (fun _ h9 => h9) rfl hin rfl (t_H_ok 6 (by decide)) rfl rfl (Nat.le_of_ble_eq_true rfl) d_H_init_252 (fun H locs Y => ?_)
                                                        have Y : pH D cCl (pA L sz) s.heap L883 (va_up f883 h (.inr (0, [.ref q1, .ref q11, .ref q23, .ref q37, .ref q71, .ref q53, .ref q871, .ref q408, .ref q558]))) H locs := Y
                                                        have S := tS_up (x := .inr (0, [.ref q1, .ref q11, .ref q23, .ref q37, .ref q71, .ref q53, .ref q871, .ref q408, .ref q558])) S (fun h9 => h9.2.2 (List.mem_singleton.mpr rfl)) (fun h9 => absurd r894 h9)
                                                        have e896 : (va_up f883 h (.inr (0, [.ref q1, .ref q11, .ref q23, .ref q37, .ref q71, .ref q53, .ref q871, .ref q408, .ref q558]))) h = .inr (0, [.ref q1, .ref q11, .ref q23, .ref q37, .ref q71, .ref q53, .ref q871, .ref q408, .ref q558]) := q_up
                                                        generalize va_up f883 h (.inr (0, [.ref q1, .ref q11, .ref q23, .ref q37, .ref q71, .ref q53, .ref q871, .ref q408, .ref q558])) = f895 at Y S e896
                                                        have hle : tLe κ883 (va_up κ883 h (10, 0)) := tLe_raw r894
                                                        have S := (tS_kind (k := (10, 0)) S m893 r894 r_h (fun h9 => h9.2.2 (List.mem_singleton.mpr rfl)) (by rw [e896]; exact ⟨_, rfl, okO_of ⟨⟨_, rfl, tLe_k hle k884⟩, ⟨_, rfl, tLe_k hle k885⟩, ⟨_, rfl, tLe_k hle k886⟩, ⟨_, rfl, tLe_k hle k887⟩, ⟨_, rfl, tLe_k hle k888⟩, ⟨_, rfl, tLe_k hle k889⟩, ⟨_, rfl, tLe_k hle k883⟩, ⟨_, rfl, tLe_k hle k890⟩, ⟨_, rfl, tLe_k hle k891⟩, trivial⟩⟩)).1
                                                        exact c_retv hQQ X Y hr hlk ⟨_, S, va_up_self _ _ _⟩ d_H_init_255
